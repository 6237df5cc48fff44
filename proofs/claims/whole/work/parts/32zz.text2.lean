/-! the class reads a text onto its trial child (block 1) -/
def FT1 (G G' : GG) : Prop := (∀ c, ¬ (10 ≤ c ∧ c < 20) → ¬ c = 31 → G' c = G c) ∧ ∀ j, ¬ j = 7 → G' 31 j = G 31 j
theorem FT1.rf {G : GG} : FT1 G G := ⟨fun _ _ _ => rfl, fun _ _ => rfl⟩
theorem FT1.tr {G G1 G2 : GG} (h1 : FT1 G G1) (h2 : FT1 G1 G2) : FT1 G G2 := ⟨fun c a b => (h2.1 c a b).trans (h1.1 c a b), fun j a => (h2.2 j a).trans (h1.2 j a)⟩
def TxS (G0 G : GG) (T : MU) (n c k : Nat) (μ : MU) : Prop := (TKR G T n c ∧ k ≤ c ∧ G 31 7 = nI k) ∧ CR G 1 μ ∧ FT1 G0 G
theorem TxS.mv {G0 G : GG} {T : MU} {n c k k' : Nat} {μ : MU} (h : TxS G0 G T n c k μ) (hk : k' ≤ c) : TxS G0 (up G 31 7 (nI k')) T n c k' μ :=
  ⟨⟨h.1.1.at _, hk, up_eq⟩, h.2.1.fr ((Fr.rf (i := 3)).up (j := 1) (by decide)) (by decide),
   ⟨fun x a b => (funext (fun j => up_ne (by omega))).trans (h.2.2.1 x a b), fun j a => (up_ne (by omega)).trans (h.2.2.2 j a)⟩⟩
theorem TxS.wr {G0 G G' : GG} {T : MU} {n c k : Nat} {μ ν : MU} (h : TxS G0 G T n c k μ) (hF : Fr 1 G G') (hC : CR G' 1 ν) : TxS G0 G' T n c k ν :=
  ⟨⟨h.1.1.fr (fun x a b => hF x (by omega)), h.1.2.1, by rw [hF 31 (by omega)]; exact h.1.2.2⟩, hC,
   ⟨fun x a b => (hF x (by omega)).trans (h.2.2.1 x a b), fun j a => by rw [hF 31 (by omega)]; exact h.2.2.2 j a⟩⟩
theorem TxS.k1 {G0 G : GG} {T : MU} {n c k : Nat} {μ : MU} (h : TxS G0 G T n c k μ) (hs : ¬ srt T n (pk T n k) = 0) : k + 1 ≤ c := h.1.1.lt h.1.2.1 hs
theorem nn_ge {z : Nat} (hz : z < 2 ^ 31) : (0 : Int32) ≤ nI z := by rw [← nI_0]; exact nI_le (Nat.zero_le _) hz
theorem TxS.tn1 {G0 G G' : GG} {T : MU} {n c k lo hi : Nat} {μ : MU} {v : Int32} (h : TxS G0 G T n c k μ)
    (p : match numF T n (pk T n k) lo hi with | some z => v = nI z ∧ G' = up G 31 7 (nI (k + 1)) | none => v = -1 ∧ G' = G) :
    (0 ≤ v → ∃ z, numF T n (pk T n k) lo hi = some z ∧ v = nI z ∧ z ≤ hi ∧ TxS G0 G' T n c (k + 1) μ) ∧ (¬ 0 ≤ v → numF T n (pk T n k) lo hi = none ∧ TxS G0 G' T n c k μ) := by
  cases hz : numF T n (pk T n k) lo hi with
  | some z =>
    rw [hz] at p
    obtain ⟨a1, a2, a3, a4⟩ := numF_some hz
    have hv := val_le (T := T) (n := n) (p := pk T n k)
    refine ⟨fun _ => ⟨z, rfl, p.1, a4, ?_⟩, fun q => absurd (by rw [p.1]; exact nn_ge (by omega)) q⟩
    rw [p.2]
    exact h.mv (h.k1 (by rw [a1]; decide))
  | none =>
    rw [hz] at p
    refine ⟨fun q => absurd q (by rw [p.1]; decide +kernel), fun _ => ⟨rfl, ?_⟩⟩
    rw [p.2]
    exact h
theorem TxS.tn2 {G0 G G' : GG} {T : MU} {n c k lo hi : Nat} {μ : MU} {v : Int32} (h : TxS G0 G T n c k μ) (hs : ¬ srt T n (pk T n k) = 0)
    (p : match numF T n (pk T n (k + 1)) lo hi with | some z => v = nI z ∧ G' = up (up G 31 7 (nI (k + 1))) 31 7 (nI (k + 1 + 1)) | none => v = -1 ∧ G' = up G 31 7 (nI (k + 1))) :
    (0 ≤ v → ∃ z, numF T n (nxt T n (pk T n k)) lo hi = some z ∧ v = nI z ∧ z ≤ hi ∧ TxS G0 G' T n c (k + 1 + 1) μ) ∧ (¬ 0 ≤ v → numF T n (nxt T n (pk T n k)) lo hi = none ∧ TxS G0 G' T n c (k + 1) μ) :=
  (h.mv (h.k1 hs)).tn1 p
/-- what a reader of the text answers, and where it stands then -/
def RdO (G0 G' : GG) (T : MU) (n c : Nat) (b : Bool) (o : Rd) : Prop := match o with
  | .inl q => b = false ∧ ∃ k ν, pk T n k = q ∧ TxS G0 G' T n c k ν
  | .inr (q, ν) => b = true ∧ ∃ k, pk T n k = q ∧ TxS G0 G' T n c k ν
theorem RdO.no {G0 G' : GG} {T : MU} {n c k : Nat} {ν : MU} {o : Rd} (h : TxS G0 G' T n c k ν) (e : o = .inl (pk T n k)) : RdO G0 G' T n c false o := by
  subst e
  exact ⟨rfl, k, ν, rfl, h⟩
theorem RdO.ok {G0 G' : GG} {T : MU} {n c k : Nat} {ν : MU} {o : Rd} (h : TxS G0 G' T n c k ν) (e : o = .inr (pk T n k, ν)) : RdO G0 G' T n c true o := by
  subst e
  exact ⟨rfl, k, rfl, h⟩
def ptF (T : MU) (n p : Nat) : Int32 := if wdB T n p 0 = true then nI 0 else if wdB T n p 1 = true then nI 1 else if wdB T n p 2 = true then nI 2 else if wdB T n p 3 = true then nI 3 else -1
theorem pt_c (T : MU) (n p : Nat) : (ptF T n p < 0 → ∀ j, j < 4 → wdB T n p j = false) ∧ (¬ ptF T n p < 0 → ∃ j, j < 4 ∧ ptF T n p = nI j ∧ wdB T n p j = true) := by
  unfold ptF
  by_cases h0 : wdB T n p 0 = true
  · rw [if_pos h0]; exact ⟨fun q => absurd q (by decide +kernel), fun _ => ⟨0, by decide, rfl, h0⟩⟩
  · rw [if_neg h0]
    by_cases h1 : wdB T n p 1 = true
    · rw [if_pos h1]; exact ⟨fun q => absurd q (by decide +kernel), fun _ => ⟨1, by decide, rfl, h1⟩⟩
    · rw [if_neg h1]
      by_cases h2 : wdB T n p 2 = true
      · rw [if_pos h2]; exact ⟨fun q => absurd q (by decide +kernel), fun _ => ⟨2, by decide, rfl, h2⟩⟩
      · rw [if_neg h2]
        by_cases h3 : wdB T n p 3 = true
        · rw [if_pos h3]; exact ⟨fun q => absurd q (by decide +kernel), fun _ => ⟨3, by decide, rfl, h3⟩⟩
        · rw [if_neg h3]
          refine ⟨fun _ j hj => ?_, fun q => absurd (by decide +kernel) q⟩
          match j, hj with
          | 0, _ => simpa using h0
          | 1, _ => simpa using h1
          | 2, _ => simpa using h2
          | 3, _ => simpa using h3
theorem plo_e {j : Nat} (hj : j < 4) : pLow (nI j) = nI (plo j) ∧ pTop (nI j) = nI (phi j) ∧ plo j ≤ 1 ∧ phi j ≤ 9999 := by
  match j, hj with
  | 0, _ => decide +kernel
  | 1, _ => decide +kernel
  | 2, _ => decide +kernel
  | 3, _ => decide +kernel
/-- the kind that is told: the first of 7 whose word is there -/
def KdR (T : MU) (n p : Nat) (v : Int32) : Prop := (v < 0 ∧ ∀ j, j < 7 → wdB T n p (4 + j) = false) ∨ ∃ j, j < 7 ∧ v = nI j ∧ wdB T n p (4 + j) = true
def kdF (T : MU) (n p : Nat) : Nat → Int32
  | 0 => -1
  | u + 1 => if wdB T n p (4 + (6 - u)) = true then nI (6 - u) else kdF T n p u
theorem kd_c (T : MU) (n p : Nat) : ∀ (u : Nat), u ≤ 7 → (kdF T n p u < 0 → ∀ j, 7 - u ≤ j → j < 7 → wdB T n p (4 + j) = false) ∧ (¬ kdF T n p u < 0 → ∃ j, j < 7 ∧ kdF T n p u = nI j ∧ wdB T n p (4 + j) = true)
  | 0, _ => ⟨fun _ j h1 h2 => absurd h2 (by omega), fun q => absurd (by show (-1 : Int32) < 0; decide +kernel) q⟩
  | u + 1, hu => by
    have ih := kd_c T n p u (by omega)
    unfold kdF
    by_cases h : wdB T n p (4 + (6 - u)) = true
    · rw [if_pos h]
      exact ⟨fun q => absurd q (Int32.not_lt.mpr (nn_ge (by omega))), fun _ => ⟨6 - u, by omega, rfl, h⟩⟩
    · rw [if_neg h]
      refine ⟨fun q j h1 h2 => ?_, ih.2⟩
      by_cases e : j = 6 - u
      · subst e; simpa using h
      · exact ih.1 q j (by omega) h2
theorem TxS.self {G0 G : GG} {T : MU} {n c k : Nat} {μ : MU} (h : TxS G0 G T n c k μ) : TxS G G T n c k μ := ⟨h.1, h.2.1, FT1.rf⟩
theorem TxS.base {G0 G1 G : GG} {T : MU} {n c k : Nat} {μ : MU} (hF : FT1 G0 G1) (h : TxS G1 G T n c k μ) : TxS G0 G T n c k μ := ⟨h.1, h.2.1, hF.tr h.2.2⟩
theorem RdO.t {G0 G' : GG} {T : MU} {n c : Nat} {o : Rd} (h : RdO G0 G' T n c true o) : ∃ k ν, o = .inr (pk T n k, ν) ∧ TxS G0 G' T n c k ν := by
  match o, h with
  | .inl q, h => exact absurd h.1 (by decide)
  | .inr (q, ν), h => obtain ⟨_, k, e, h2⟩ := h; subst e; exact ⟨k, ν, rfl, h2⟩
theorem RdO.f {G0 G' : GG} {T : MU} {n c : Nat} {o : Rd} (h : RdO G0 G' T n c false o) : ∃ k ν, o = .inl (pk T n k) ∧ TxS G0 G' T n c k ν := by
  match o, h with
  | .inl q, h => obtain ⟨_, k, ν, e, h2⟩ := h; subst e; exact ⟨k, ν, rfl, h2⟩
  | .inr (q, ν), h => exact absurd h.1 (by decide)
theorem put_0 {T : MU} {n p : Nat} (h : ¬ wdB T n p 12 = true) : putF T n p = .inr (p, 5) := if_neg h
theorem put_n {T : MU} {n p : Nat} (h : wdB T n p 12 = true) (h2 : numF T n (nxt T n p) 1 20 = none) : putF T n p = .inl (nxt T n p) := by
  unfold putF; rw [if_pos h, h2]
theorem put_s {T : MU} {n p u : Nat} (h : wdB T n p 12 = true) (h2 : numF T n (nxt T n p) 1 20 = some u) : putF T n p = .inr (nxt T n (nxt T n p), u) := by
  unfold putF; rw [if_pos h, h2]
theorem opt_0 {T : MU} {n p i at' hi : Nat} {μ : MU} (h : ¬ wdB T n p i = true) : optF T n p μ i at' hi = .inr (p, μ) := if_neg h
theorem opt_n {T : MU} {n p i at' hi : Nat} {μ : MU} (h : wdB T n p i = true) (h2 : numF T n (nxt T n p) 0 hi = none) : optF T n p μ i at' hi = .inl (nxt T n p) := by
  unfold optF; rw [if_pos h, h2]
theorem opt_s {T : MU} {n p i at' hi u : Nat} {μ : MU} (h : wdB T n p i = true) (h2 : numF T n (nxt T n p) 0 hi = some u) : optF T n p μ i at' hi = .inr (nxt T n (nxt T n p), upd μ at' (nI u)) := by
  unfold optF; rw [if_pos h, h2]
theorem taste_10 {T : MU} {n p kd : Nat} {μ : MU} (h : μ 8 = nI 10) : tasteF T n p μ kd = .inl p := if_pos h
theorem taste_n {T : MU} {n p kd : Nat} {μ : MU} (h : ¬ μ 8 = nI 10) (h2 : numF T n (nxt T n p) 0 9 = none) : tasteF T n p μ kd = .inl (nxt T n p) := by
  unfold tasteF; rw [if_neg h, h2]
theorem taste_p {T : MU} {n p kd f q : Nat} {μ : MU} (h : ¬ μ 8 = nI 10) (h2 : numF T n (nxt T n p) 0 9 = some f) (h3 : putF T n (nxt T n (nxt T n p)) = .inl q) : tasteF T n p μ kd = .inl q := by
  unfold tasteF; rw [if_neg h, h2]; dsimp only; rw [h3]
theorem taste_s {T : MU} {n p kd f q u m : Nat} {μ : MU} (h : ¬ μ 8 = nI 10) (hm : μ 8 = nI m) (hm1 : m < 10) (h2 : numF T n (nxt T n p) 0 9 = some f) (h3 : putF T n (nxt T n (nxt T n p)) = .inr (q, u)) : tasteF T n p μ kd = .inr (q, addM μ m (nI kd) (nI f) (nI u)) := by
  unfold tasteF
  rw [if_neg h, h2]
  dsimp only
  rw [h3, show cl (μ 8) = m by rw [hm]; exact nI_clamp (by omega)]
theorem food_n {T : MU} {n p : Nat} {μ : MU} (h2 : numF T n (nxt T n p) 0 9 = none) : foodF T n p μ = .inl (nxt T n p) := by
  unfold foodF; rw [h2]
theorem food_o {T : MU} {n p f q : Nat} {μ : MU} (h2 : numF T n (nxt T n p) 0 9 = some f) (h3 : optF T n (nxt T n (nxt T n p)) μ 13 (10 + 3 * f) 99 = .inl q) : foodF T n p μ = .inl q := by
  unfold foodF; rw [h2]; dsimp only; rw [h3]
theorem food_s {T : MU} {n p f q : Nat} {μ ν : MU} (h2 : numF T n (nxt T n p) 0 9 = some f) (h3 : optF T n (nxt T n (nxt T n p)) μ 13 (10 + 3 * f) 99 = .inr (q, ν)) : foodF T n p μ = optF T n q ν 14 (11 + 3 * f) 9 := by
  unfold foodF; rw [h2]; dsimp only; rw [h3]
theorem pud_n {T : MU} {n p : Nat} {μ : MU} (h2 : numF T n (nxt T n p) 0 9 = none) : pudF T n p μ = .inl (nxt T n p) := by
  unfold pudF; rw [h2]
theorem pud_s {T : MU} {n p f : Nat} {μ : MU} (h2 : numF T n (nxt T n p) 0 9 = some f) : pudF T n p μ = .inr (nxt T n (nxt T n p), upd μ 6 (nI f)) := by
  unfold pudF; rw [h2]
theorem part_n {T : MU} {n p j : Nat} {μ : MU} (h2 : numF T n (nxt T n p) (plo j) (phi j) = none) : partF T n p μ j = .inl (nxt T n p) := by
  unfold partF; rw [h2]
theorem part_s {T : MU} {n p j f : Nat} {μ : MU} (h2 : numF T n (nxt T n p) (plo j) (phi j) = some f) : partF T n p μ j = .inr (nxt T n (nxt T n p), upd μ (2 + j) (nI f)) := by
  unfold partF; rw [h2]
theorem fr_n {T : MU} {n u p lo : Nat} {s : Int32} (h2 : numF T n p lo 9 = none) : frF T n (u + 1) p lo s = .inl p := by
  unfold frF; rw [h2]
theorem fr_m {T : MU} {n u p lo f : Nat} {s : Int32} (h2 : numF T n p lo 9 = some f) (h3 : srt T n (nxt T n p) = 2) : frF T n (u + 1) p lo s = frF T n u (nxt T n p) (f + 1) (s ||| (nI 1 <<< (nI f &&& 31))) := by
  rw [frF, h2]; exact if_pos h3
theorem fr_s {T : MU} {n u p lo f : Nat} {s : Int32} (h2 : numF T n p lo 9 = some f) (h3 : ¬ srt T n (nxt T n p) = 2) : frF T n (u + 1) p lo s = .inr (nxt T n p, s ||| (nI 1 <<< (nI f &&& 31))) := by
  rw [frF, h2]; exact if_neg h3
theorem fri_n {T : MU} {n p q : Nat} {μ : MU} (h : frF T n 11 (nxt T n p) 0 (nI 0) = .inl q) : friF T n p μ = .inl q := by
  unfold friF; rw [h]
theorem fri_s {T : MU} {n p q : Nat} {s : Int32} {μ : MU} (h : frF T n 11 (nxt T n p) 0 (nI 0) = .inr (q, s)) : friF T n p μ = .inr (q, upd μ 7 s) := by
  unfold friF; rw [h]
theorem tx_n {T : MU} {n u p it q : Nat} {μ : MU} (h : itemF T n p μ = .inl q) : txF T n (u + 1) p μ it = .inl q := by
  unfold txF; rw [h]
theorem tx_m {T : MU} {n u p it q : Nat} {μ ν : MU} (h : itemF T n p μ = .inr (q, ν)) (h2 : sgB T n q = true) : txF T n (u + 1) p μ it = txF T n u (nxt T n q) ν (it + 1) := by
  rw [txF, h]; exact if_pos h2
theorem tx_e {T : MU} {n u p it q : Nat} {μ ν : MU} (h : itemF T n p μ = .inr (q, ν)) (h2 : ¬ sgB T n q = true) (h3 : srt T n q = 0) : txF T n (u + 1) p μ it = .inr (it, ν) := by
  rw [txF, h]; exact (if_neg h2).trans (if_pos h3)
theorem tx_x {T : MU} {n u p it q : Nat} {μ ν : MU} (h : itemF T n p μ = .inr (q, ν)) (h2 : ¬ sgB T n q = true) (h3 : ¬ srt T n q = 0) : txF T n (u + 1) p μ it = .inl q := by
  rw [txF, h]; exact (if_neg h2).trans (if_neg h3)
theorem CR.bl {i : Nat} {G G' : GG} {μ : MU} (h : CR G i μ) (hF : ∀ x, 10 * i ≤ x ∧ x < 10 * i + 10 → G' x = G x) : CR G' i μ := by
  have e : ∀ x, x < 10 → G' (ch i x) = G (ch i x) := fun x hx => hF _ (by simp only [ch]; omega)
  unfold CR
  rw [e 0 (by decide), e 1 (by decide), e 2 (by decide), e 3 (by decide), e 4 (by decide), e 5 (by decide), e 6 (by decide), e 7 (by decide), e 8 (by decide), e 9 (by decide)]
  exact h
