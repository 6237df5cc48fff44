/-! a told text: item for item, over the places behind which its tokens begin -/
abbrev Rd : Type := Nat ⊕ (Nat × MU)
def plo (j : Nat) : Nat := if j = 3 then 1 else 0
def phi (j : Nat) : Nat := if j = 0 then 9 else if j = 1 then 99 else if j = 2 then 9999 else 99
def partF (T : MU) (n p : Nat) (μ : MU) (j : Nat) : Rd := match numF T n (nxt T n p) (plo j) (phi j) with
  | some z => .inr (nxt T n (nxt T n p), upd μ (2 + j) (nI z))
  | none => .inl (nxt T n p)
def putF (T : MU) (n p : Nat) : Nat ⊕ (Nat × Nat) := if wdB T n p 12 = true then (match numF T n (nxt T n p) 1 20 with
  | some z => .inr (nxt T n (nxt T n p), z)
  | none => .inl (nxt T n p)) else .inr (p, 5)
def tasteF (T : MU) (n p : Nat) (μ : MU) (kd : Nat) : Rd := if μ 8 = nI 10 then .inl p else match numF T n (nxt T n p) 0 9 with
  | none => .inl (nxt T n p)
  | some f => match putF T n (nxt T n (nxt T n p)) with
    | .inl q => .inl q
    | .inr (q, u) => .inr (q, addM μ (cl (μ 8)) (nI kd) (nI f) (nI u))
def optF (T : MU) (n p : Nat) (μ : MU) (i at' hi : Nat) : Rd := if wdB T n p i = true then (match numF T n (nxt T n p) 0 hi with
  | some z => .inr (nxt T n (nxt T n p), upd μ at' (nI z))
  | none => .inl (nxt T n p)) else .inr (p, μ)
def foodF (T : MU) (n p : Nat) (μ : MU) : Rd := match numF T n (nxt T n p) 0 9 with
  | none => .inl (nxt T n p)
  | some f => match optF T n (nxt T n (nxt T n p)) μ 13 (10 + 3 * f) 99 with
    | .inl q => .inl q
    | .inr (q, ν) => optF T n q ν 14 (11 + 3 * f) 9
def pudF (T : MU) (n p : Nat) (μ : MU) : Rd := match numF T n (nxt T n p) 0 9 with
  | none => .inl (nxt T n p)
  | some f => .inr (nxt T n (nxt T n p), upd μ 6 (nI f))
def frF (T : MU) (n : Nat) : Nat → Nat → Nat → Int32 → Nat ⊕ (Nat × Int32)
  | 0, p, _, _ => .inl p
  | u + 1, p, lo, s => match numF T n p lo 9 with
    | none => .inl p
    | some f => if srt T n (nxt T n p) = 2 then frF T n u (nxt T n p) (f + 1) (s ||| (nI 1 <<< (nI f &&& 31))) else .inr (nxt T n p, s ||| (nI 1 <<< (nI f &&& 31)))
def friF (T : MU) (n p : Nat) (μ : MU) : Rd := match frF T n 11 (nxt T n p) 0 (nI 0) with
  | .inl q => .inl q
  | .inr (q, s) => .inr (q, upd μ 7 s)
def itemW (T : MU) (n p : Nat) (μ : MU) (i : Nat) : Rd := if i < 4 then partF T n p μ i else if i < 11 then tasteF T n p μ (i - 4) else if i = 11 then foodF T n p μ else if i = 15 then pudF T n p μ else if i = 16 then friF T n p μ else .inl p
def wsF (T : MU) (n p : Nat) : Nat → Option Nat
  | 0 => none
  | i + 1 => if wdB T n p i = true then some i else wsF T n p i
def itemF (T : MU) (n p : Nat) (μ : MU) : Rd := match wsF T n p 17 with
  | some i => itemW T n p μ i
  | none => .inl p
def txF (T : MU) (n : Nat) : Nat → Nat → MU → Nat → Nat ⊕ (Nat × MU)
  | 0, p, _, _ => .inl p
  | u + 1, p, μ, it => match itemF T n p μ with
    | .inl q => .inl q
    | .inr (q, ν) => if sgB T n q = true then txF T n u (nxt T n q) ν (it + 1) else if srt T n q = 0 then .inr (it, ν) else .inl q
theorem numF_some {T : MU} {n p lo hi z : Nat} (h : numF T n p lo hi = some z) : srt T n p = 2 ∧ z = val T n p ∧ lo ≤ z ∧ z ≤ hi := by
  unfold numF at h
  split at h
  · next q =>
    have e := Option.some.inj h
    subst e
    exact ⟨q.1, rfl, q.2⟩
  · exact absurd h (by simp)
theorem ws_some {T : MU} {n p : Nat} : ∀ {j i : Nat}, wsF T n p j = some i → i < j ∧ wdB T n p i = true
  | 0, i, h => absurd h (by simp [wsF])
  | j + 1, i, h => by
    unfold wsF at h
    split at h
    · next q =>
      have e := Option.some.inj h
      subst e
      exact ⟨Nat.lt_succ_self _, q⟩
    · have := ws_some h
      exact ⟨by omega, this.2⟩
theorem ws_none {T : MU} {n p : Nat} : ∀ {j : Nat}, wsF T n p j = none → ∀ i, i < j → wdB T n p i = false
  | 0, h, i, hi => absurd hi (by omega)
  | j + 1, h, i, hi => by
    unfold wsF at h
    split at h
    · exact absurd h (by simp)
    · next q =>
      by_cases e : i = j
      · subst e; simpa using q
      · exact ws_none h i (by omega)
theorem item_at {T : MU} {n p : Nat} {μ : MU} {i : Nat} (hi : i < 17) (h : wdB T n p i = true) : itemF T n p μ = itemW T n p μ i := by
  unfold itemF
  cases hw : wsF T n p 17 with
  | none => rw [ws_none hw i hi] at h; exact absurd h (by decide)
  | some j =>
    have h2 := ws_some hw
    rw [wd_uniq h2.1 hi h2.2 h]
theorem item_no {T : MU} {n p : Nat} {μ : MU} (h : ∀ i, i < 17 → ¬ (12 ≤ i ∧ i ≤ 14) → wdB T n p i = false) : itemF T n p μ = .inl p := by
  unfold itemF
  cases hw : wsF T n p 17 with
  | none => rfl
  | some j =>
    have h2 := ws_some hw
    have h3 : 12 ≤ j ∧ j ≤ 14 := Decidable.byContradiction (fun q => by rw [h j h2.1 q] at h2; exact absurd h2.2 (by decide))
    show itemW T n p μ j = _
    unfold itemW
    rw [if_neg (by omega), if_neg (by omega), if_neg (by omega), if_neg (by omega), if_neg (by omega)]
theorem wd_srt {T : MU} {n p i : Nat} (h : wdB T n p i = true) : srt T n p = 1 := (of_decide_eq_true h).1
theorem nx_lt {T : MU} {n p : Nat} (hp : p ≤ n) (h : ¬ srt T n p = 0) : p + 1 ≤ nxt T n p ∧ nxt T n p ≤ n := by
  have h1 := nxt_gt hp h
  have h2 := (frm_b (T := T) hp).1
  have h3 := (nxt_b (T := T) hp).2
  omega
theorem fr_gt {T : MU} {n : Nat} : ∀ {u p lo : Nat} {s : Int32} {q : Nat} {s' : Int32}, p ≤ n → frF T n u p lo s = .inr (q, s') → p + 1 ≤ q ∧ q ≤ n
  | 0, p, lo, s, q, s', hp, h => by simp [frF] at h
  | u + 1, p, lo, s, q, s', hp, h => by
    unfold frF at h
    cases hz : numF T n p lo 9 with
    | none => rw [hz] at h; simp at h
    | some f =>
      rw [hz] at h
      have h2 := nx_lt hp (show ¬ srt T n p = 0 by rw [(numF_some hz).1]; decide)
      dsimp only at h
      split at h
      · have := fr_gt h2.2 h
        omega
      · have e := (Prod.mk.inj (Sum.inr.inj h)).1
        subst e
        exact h2
theorem or_nn {w f : Nat} (hw : w ≤ 1023) (hf : f < 10) : ∃ w', w' ≤ 1023 ∧ nI w ||| (nI 1 <<< (nI f &&& 31)) = nI w' := by
  have key : ∀ f, f < 10 → nI 1 <<< (nI f &&& 31) = nI (2 ^ f) := by decide +kernel
  rw [key f hf]
  refine ⟨w ||| 2 ^ f, ?_, ?_⟩
  · have h1 : w < 2 ^ 10 := by omega
    have h2 : 2 ^ f < 2 ^ 10 := Nat.pow_lt_pow_right (by decide) hf
    have := Nat.or_lt_two_pow h1 h2
    omega
  · exact (congrArg (fun x : BitVec 32 => (⟨⟨x⟩⟩ : Int32)) (BitVec.ofNat_or (w := 32) (x := w) (y := 2 ^ f))).symm
theorem fr_nn {T : MU} {n : Nat} : ∀ {u p lo : Nat} {s : Int32} {q : Nat} {s' : Int32}, nn s 1023 → frF T n u p lo s = .inr (q, s') → nn s' 1023
  | 0, p, lo, s, q, s', hp, h => by simp [frF] at h
  | u + 1, p, lo, s, q, s', hp, h => by
    unfold frF at h
    cases hz : numF T n p lo 9 with
    | none => rw [hz] at h; simp at h
    | some f =>
      rw [hz] at h
      have hf := (numF_some hz).2.2.2
      obtain ⟨w, hw, rfl⟩ := hp
      obtain ⟨w', hw', e'⟩ := or_nn hw (show f < 10 by omega)
      dsimp only at h
      rw [e'] at h
      split at h
      · exact fr_nn ⟨w', hw', rfl⟩ h
      · have e := (Prod.mk.inj (Sum.inr.inj h)).2
        subst e
        exact ⟨w', hw', rfl⟩
/-- what an item that is told leaves -/
def ItR (b n p : Nat) (μ : MU) (q : Nat) (ν : MU) : Prop := (p ≤ q ∧ q ≤ n) ∧ Inv b ν ∧ (∀ k, k < 10 → ν (70 + k) = μ (70 + k)) ∧ cl (μ 8) ≤ cl (ν 8)
theorem ItR.tr {b n p q r : Nat} {μ ν κ : MU} (h : ItR b n p μ q ν) (h2 : ItR b n q ν r κ) : ItR b n p μ r κ :=
  ⟨⟨by have := h.1; have := h2.1; omega, h2.1.2⟩, h2.2.1, fun k hk => (h2.2.2.1 k hk).trans (h.2.2.1 k hk), Nat.le_trans h.2.2.2 h2.2.2.2⟩
theorem ItR.u {b n p q : Nat} {μ : MU} {at' : Nat} {v : Int32} (hp : p ≤ q) (hq : q ≤ n) (hV : Inv b (upd μ at' v)) (ha : at' < 70) (ha8 : ¬ at' = 8) : ItR b n p μ q (upd μ at' v) :=
  ⟨⟨hp, hq⟩, hV, fun k hk => upd_ne (by omega), by rw [upd_ne (show ¬ 8 = at' by omega)]; exact Nat.le_refl _⟩
theorem part_it {T : MU} {b n p j q : Nat} {μ ν : MU} (hp : p ≤ n) (hV : Inv b μ) (hj : j < 4) (hs : ¬ srt T n p = 0) (h : partF T n p μ j = .inr (q, ν)) : ItR b n (p + 1) μ q ν := by
  have h1 := nx_lt hp hs
  unfold partF at h
  cases hz : numF T n (nxt T n p) (plo j) (phi j) with
  | none => rw [hz] at h; simp at h
  | some z =>
    rw [hz] at h
    obtain ⟨a1, a2, a3, a4⟩ := numF_some hz
    have h2 := nx_lt h1.2 (show ¬ srt T n (nxt T n p) = 0 by rw [a1]; decide)
    obtain ⟨e1, e2⟩ := Prod.mk.inj (Sum.inr.inj h)
    subst e1
    subst e2
    refine ItR.u (by omega) h2.2 ?_ (by omega) (by omega)
    match j, hj, a4 with
    | 0, _, a4 => exact hV.bent ⟨z, a4, rfl⟩
    | 1, _, a4 => exact hV.hun ⟨z, a4, rfl⟩
    | 2, _, a4 => exact hV.wei ⟨z, a4, rfl⟩
    | 3, _, a4 => exact hV.line ⟨z, a4, rfl⟩
theorem opt_it {T : MU} {b n p i at' hi q : Nat} {μ ν : MU} (hp : p ≤ n) (hV : Inv b μ) (hA : ∀ z, z ≤ hi → Inv b (upd μ at' (nI z))) (ha : at' < 70) (ha8 : ¬ at' = 8) (h : optF T n p μ i at' hi = .inr (q, ν)) : ItR b n p μ q ν := by
  unfold optF at h
  split at h
  · next hw =>
    have h1 := nx_lt hp (show ¬ srt T n p = 0 by rw [wd_srt hw]; decide)
    cases hz : numF T n (nxt T n p) 0 hi with
    | none => rw [hz] at h; simp at h
    | some z =>
      rw [hz] at h
      obtain ⟨a1, a2, a3, a4⟩ := numF_some hz
      have h2 := nx_lt h1.2 (show ¬ srt T n (nxt T n p) = 0 by rw [a1]; decide)
      obtain ⟨e1, e2⟩ := Prod.mk.inj (Sum.inr.inj h)
      subst e1
      subst e2
      exact ItR.u (by omega) h2.2 (hA z a4) ha ha8
  · obtain ⟨e1, e2⟩ := Prod.mk.inj (Sum.inr.inj h)
    subst e1
    subst e2
    exact ⟨⟨Nat.le_refl _, hp⟩, hV, fun k hk => rfl, Nat.le_refl _⟩
theorem food_it {T : MU} {b n p q : Nat} {μ ν : MU} (hp : p ≤ n) (hV : Inv b μ) (hs : ¬ srt T n p = 0) (h : foodF T n p μ = .inr (q, ν)) : ItR b n (p + 1) μ q ν := by
  have h1 := nx_lt hp hs
  unfold foodF at h
  cases hz : numF T n (nxt T n p) 0 9 with
  | none => rw [hz] at h; simp at h
  | some f =>
    rw [hz] at h
    obtain ⟨a1, a2, a3, a4⟩ := numF_some hz
    have h2 := nx_lt h1.2 (show ¬ srt T n (nxt T n p) = 0 by rw [a1]; decide)
    dsimp only at h
    cases ho : optF T n (nxt T n (nxt T n p)) μ 13 (10 + 3 * f) 99 with
    | inl r => rw [ho] at h; simp at h
    | inr r =>
      obtain ⟨r, κ⟩ := r
      rw [ho] at h
      have g1 := opt_it h2.2 hV (fun z hz => hV.like (show f < 10 by omega) ⟨z, hz, rfl⟩) (by omega) (by omega) ho
      have g2 := opt_it g1.1.2 g1.2.1 (fun z hz => g1.2.1.bit (show f < 10 by omega) ⟨z, hz, rfl⟩) (by omega) (by omega) h
      have g3 := g1.tr g2
      exact ⟨⟨by have := g3.1; omega, g3.1.2⟩, g3.2⟩
theorem pud_it {T : MU} {b n p q : Nat} {μ ν : MU} (hp : p ≤ n) (hV : Inv b μ) (hs : ¬ srt T n p = 0) (h : pudF T n p μ = .inr (q, ν)) : ItR b n (p + 1) μ q ν := by
  have h1 := nx_lt hp hs
  unfold pudF at h
  cases hz : numF T n (nxt T n p) 0 9 with
  | none => rw [hz] at h; simp at h
  | some f =>
    rw [hz] at h
    obtain ⟨a1, a2, a3, a4⟩ := numF_some hz
    have h2 := nx_lt h1.2 (show ¬ srt T n (nxt T n p) = 0 by rw [a1]; decide)
    obtain ⟨e1, e2⟩ := Prod.mk.inj (Sum.inr.inj h)
    subst e1
    subst e2
    exact ItR.u (by omega) h2.2 (hV.pud (Or.inr ⟨f, a4, rfl⟩)) (by omega) (by omega)
theorem fri_it {T : MU} {b n p q : Nat} {μ ν : MU} (hp : p ≤ n) (hV : Inv b μ) (hs : ¬ srt T n p = 0) (h : friF T n p μ = .inr (q, ν)) : ItR b n (p + 1) μ q ν := by
  have h1 := nx_lt hp hs
  unfold friF at h
  cases hz : frF T n 11 (nxt T n p) 0 (nI 0) with
  | inl r => rw [hz] at h; simp at h
  | inr r =>
    obtain ⟨r, s⟩ := r
    rw [hz] at h
    have h2 := fr_gt h1.2 hz
    have h3 := fr_nn ⟨0, by decide, rfl⟩ hz
    obtain ⟨e1, e2⟩ := Prod.mk.inj (Sum.inr.inj h)
    subst e1
    subst e2
    exact ItR.u (by omega) h2.2 (hV.fri h3) (by omega) (by omega)
theorem put_it {T : MU} {n p q u : Nat} (hp : p ≤ n) (h : putF T n p = .inr (q, u)) : p ≤ q ∧ q ≤ n ∧ 1 ≤ u ∧ u ≤ 20 := by
  unfold putF at h
  split at h
  · next hw =>
    have h1 := nx_lt hp (show ¬ srt T n p = 0 by rw [wd_srt hw]; decide)
    cases hz : numF T n (nxt T n p) 1 20 with
    | none => rw [hz] at h; simp at h
    | some z =>
      rw [hz] at h
      obtain ⟨a1, a2, a3, a4⟩ := numF_some hz
      have h2 := nx_lt h1.2 (show ¬ srt T n (nxt T n p) = 0 by rw [a1]; decide)
      obtain ⟨e1, e2⟩ := Prod.mk.inj (Sum.inr.inj h)
      subst e1
      subst e2
      exact ⟨by omega, h2.2, a3, a4⟩
  · obtain ⟨e1, e2⟩ := Prod.mk.inj (Sum.inr.inj h)
    subst e1
    subst e2
    exact ⟨Nat.le_refl _, hp, by decide, by decide⟩
theorem taste_it {T : MU} {b n p kd q : Nat} {μ ν : MU} (hp : p ≤ n) (hV : Inv b μ) (hk : kd < 7) (hs : ¬ srt T n p = 0) (h : tasteF T n p μ kd = .inr (q, ν)) : ItR b n (p + 1) μ q ν := by
  have h1 := nx_lt hp hs
  unfold tasteF at h
  split at h
  · simp at h
  · next h10 =>
    obtain ⟨m, hm, em⟩ := hV.2.2.1
    have hm9 : m < 10 := by
      rcases Nat.lt_or_ge m 10 with z | z
      · exact z
      · have : m = 10 := by omega
        subst this
        exact absurd em h10
    have ec : cl (μ 8) = m := by rw [em]; exact nI_clamp (by omega)
    rw [ec] at h
    cases hz : numF T n (nxt T n p) 0 9 with
    | none => rw [hz] at h; simp at h
    | some f =>
      rw [hz] at h
      obtain ⟨a1, a2, a3, a4⟩ := numF_some hz
      have h2 := nx_lt h1.2 (show ¬ srt T n (nxt T n p) = 0 by rw [a1]; decide)
      dsimp only at h
      cases ho : putF T n (nxt T n (nxt T n p)) with
      | inl r => rw [ho] at h; simp at h
      | inr r =>
        obtain ⟨r, u⟩ := r
        rw [ho] at h
        have g := put_it h2.2 ho
        obtain ⟨e1, e2⟩ := Prod.mk.inj (Sum.inr.inj h)
        subst e1
        subst e2
        refine ⟨⟨by omega, g.2.1⟩, hV.add hm9 ⟨kd, by omega, rfl⟩ ⟨f, a4, rfl⟩ ⟨u, g.2.2.2, rfl⟩, fun k hk => ?_, ?_⟩
        · unfold addM
          rw [upd_ne (by omega), upd_ne (by omega), upd_ne (by omega), upd_ne (by omega)]
        · rw [ec]
          unfold addM
          rw [upd_eq, show cl (nI (m + 1)) = m + 1 from nI_clamp (by omega)]
          omega
theorem item_it {T : MU} {b n p q : Nat} {μ ν : MU} (hp : p ≤ n) (hV : Inv b μ) (h : itemF T n p μ = .inr (q, ν)) : ItR b n (p + 1) μ q ν := by
  unfold itemF at h
  cases hw : wsF T n p 17 with
  | none => rw [hw] at h; simp at h
  | some i =>
    rw [hw] at h
    have h2 := ws_some hw
    have hs : ¬ srt T n p = 0 := by rw [wd_srt h2.2]; decide
    dsimp only at h
    unfold itemW at h
    split at h
    · exact part_it hp hV (by assumption) hs h
    · split at h
      · exact taste_it hp hV (by omega) hs h
      · split at h
        · exact food_it hp hV hs h
        · split at h
          · exact pud_it hp hV hs h
          · split at h
            · exact fri_it hp hV hs h
            · simp at h
theorem tx_it {T : MU} {b n : Nat} : ∀ {u p it r : Nat} {μ ν : MU}, p ≤ n → Inv b μ → txF T n u p μ it = .inr (r, ν) → Inv b ν ∧ (∀ k, k < 10 → ν (70 + k) = μ (70 + k)) ∧ cl (μ 8) ≤ cl (ν 8)
  | 0, p, it, r, μ, ν, hp, hV, h => by simp [txF] at h
  | u + 1, p, it, r, μ, ν, hp, hV, h => by
    unfold txF at h
    cases hz : itemF T n p μ with
    | inl q => rw [hz] at h; simp at h
    | inr q =>
      obtain ⟨q, κ⟩ := q
      rw [hz] at h
      have g := item_it hp hV hz
      dsimp only at h
      split at h
      · have g2 := tx_it (nxt_b (T := T) g.1.2).2 g.2.1 h
        exact ⟨g2.1, fun k hk => (g2.2.1 k hk).trans (g.2.2.1 k hk), Nat.le_trans g.2.2.2 g2.2.2⟩
      · split at h
        · obtain ⟨e1, e2⟩ := Prod.mk.inj (Sum.inr.inj h)
          subst e2
          exact g.2
        · simp at h
