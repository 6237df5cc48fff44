/-! the tape is cut into its tokens, byte by byte -/
theorem kb_le (x : Int32) : kb x ≤ 4 := by
  unfold kb
  split <;> first | omega | (split <;> first | omega | (split <;> first | omega | (split <;> omega)))
theorem kb_1 {x : Int32} : kb x = 1 ↔ isL x = true := by
  unfold kb
  constructor
  · intro h
    by_cases q : isL x = true
    · exact q
    · rw [if_neg q] at h
      split at h <;> first | omega | (split at h <;> first | omega | (split at h <;> omega))
  · intro h; rw [if_pos h]
theorem kb_2 {x : Int32} : kb x = 2 ↔ isD x = true := by
  unfold kb
  constructor
  · intro h
    by_cases q : isL x = true
    · rw [if_pos q] at h; omega
    · rw [if_neg q] at h
      by_cases q2 : isD x = true
      · exact q2
      · rw [if_neg q2] at h
        split at h <;> first | omega | (split at h <;> omega)
  · intro h; rw [if_neg (by rw [isD_L h]; decide), if_pos h]
theorem kb_0 {x : Int32} : kb x = 0 ↔ isBk x = true := by
  constructor
  · intro h
    unfold kb at h
    by_cases q : isL x = true
    · rw [if_pos q] at h; omega
    · rw [if_neg q] at h
      by_cases q2 : isD x = true
      · rw [if_pos q2] at h; omega
      · rw [if_neg q2] at h
        by_cases q3 : x = nI 59
        · rw [if_pos q3] at h; omega
        · rw [if_neg q3] at h
          by_cases q4 : x = nI 32
          · exact decide_eq_true q4
          · rw [if_neg q4] at h; omega
  · intro h
    have e := of_decide_eq_true h
    subst e
    decide +kernel
theorem run_eq {P : Int32 → Bool} {T : MU} {n : Nat} : ∀ (f q i : Nat), i - q = f → q ≤ i → i ≤ n → (∀ u, q ≤ u → u < i → P (T u) = true) → run P T n q = run P T n i
  | 0, q, i, h, h1, h2, hu => by
    have : q = i := by omega
    rw [this]
  | f + 1, q, i, h, h1, h2, hu => by
    rw [run_step (by omega) (hu q (Nat.le_refl q) (by omega))]
    exact run_eq f (q + 1) i (by omega) (by omega) h2 (fun u a b => hu u (by omega) b)
def FT (G : GG) (T : MU) (n k : Nat) : Prop := ¬ srt T n (pk T n k) = 0 ∧ G 33 k = nI (knd T n (pk T n k)) ∧ G 34 k = nI (frm T n (pk T n k)) ∧ G 35 k = nI (nxt T n (pk T n k) - frm T n (pk T n k)) ∧ G 36 k = nI (if srt T n (pk T n k) = 2 then val T n (pk T n k) else 0)
def CI (G : GG) (T : MU) (n i t la : Nat) : Prop :=
  (G 31 6 = nI t ∧ t ≤ i ∧ G 31 1 = nI n ∧ n ≤ 120 ∧ ∀ j, j < n → G 32 j = T j) ∧ (∀ k, k + 1 < t → FT G T n k) ∧
  ((la = 1 ∨ la = 2) → ∃ s, t = s + 1 ∧ G 33 s = nI (knd T n (pk T n s)) ∧ G 34 s = nI (frm T n (pk T n s)) ∧ srt T n (pk T n s) = la ∧ frm T n (pk T n s) < i ∧ (∀ u, frm T n (pk T n s) ≤ u → u < i → kb (T u) = la) ∧ G 35 s = nI (i - frm T n (pk T n s)) ∧ G 36 s = nI (if la = 2 then vlF T (frm T n (pk T n s)) (i - frm T n (pk T n s)) else 0)) ∧
  (¬ (la = 1 ∨ la = 2) → (∀ k, k < t → FT G T n k) ∧ frm T n (pk T n t) = frm T n i)
theorem CI.close {G : GG} {T : MU} {n i t la : Nat} (h : CI G T n i t la) (hi : i ≤ n) (hg : i = n ∨ ¬ (kb (T i) = la ∧ (la = 1 ∨ la = 2))) : (∀ k, k < t → FT G T n k) ∧ frm T n (pk T n t) = frm T n i := by
  obtain ⟨h0, h1, h2, h3⟩ := h
  by_cases q : la = 1 ∨ la = 2
  · obtain ⟨s, rfl, a1, a2, a3, a4, a5, a6, a7⟩ := h2 q
    have hnx : nxt T n (pk T n s) = i := by
      unfold nxt
      rw [if_neg (by omega)]
      rcases q with rfl | rfl
      · rw [if_pos a3, run_eq (i - frm T n (pk T n s)) (frm T n (pk T n s)) i rfl (by omega) hi (fun u u1 u2 => kb_1.mp (a5 u u1 u2))]
        rcases hg with e | e
        · rw [e]; exact run_end (Nat.le_refl n)
        · refine run_stop ?_
          cases z : isL (T i) with
          | false => rfl
          | true => exact absurd ⟨kb_1.mpr z, Or.inl rfl⟩ e
      · rw [if_neg (by omega), if_pos a3, run_eq (i - frm T n (pk T n s)) (frm T n (pk T n s)) i rfl (by omega) hi (fun u u1 u2 => kb_2.mp (a5 u u1 u2))]
        rcases hg with e | e
        · rw [e]; exact run_end (Nat.le_refl n)
        · refine run_stop ?_
          cases z : isD (T i) with
          | false => rfl
          | true => exact absurd ⟨kb_2.mpr z, Or.inr rfl⟩ e
    refine ⟨fun k hk => ?_, ?_⟩
    · by_cases e : k = s
      · subst e
        refine ⟨by omega, a1, a2, by rw [hnx]; exact a6, ?_⟩
        rw [a7, a3]
        by_cases e2 : la = 2
        · rw [if_pos e2, if_pos e2]
          unfold val
          rw [hnx]
        · rw [if_neg e2, if_neg e2]
      · exact h1 k (by omega)
    · show frm T n (nxt T n (pk T n s)) = _
      rw [hnx]
  · exact h3 q
theorem FT.be {G : GG} {T : MU} {n k t : Nat} {a b : Int32} (h : FT G T n k) (hk : k < t) : FT (beG G t a b) T n k := by
  obtain ⟨h1, h2, h3, h4, h5⟩ := h
  unfold beG
  refine ⟨h1, ?_, ?_, ?_, ?_⟩
  · rw [up_ne (by omega), up_ne (by omega), up_ne (by omega), up_ne (by omega), up_ne (by omega)]; exact h2
  · rw [up_ne (by omega), up_ne (by omega), up_ne (by omega), up_ne (by omega), up_ne (by omega)]; exact h3
  · rw [up_ne (by omega), up_ne (by omega), up_ne (by omega), up_ne (by omega), up_ne (by omega)]; exact h4
  · rw [up_ne (by omega), up_ne (by omega), up_ne (by omega), up_ne (by omega), up_ne (by omega)]; exact h5
theorem FT.le {G : GG} {T : MU} {n k t i : Nat} (h : FT G T n k) (hk : k < t) : FT (leG G t i) T n k := by
  obtain ⟨h1, h2, h3, h4, h5⟩ := h
  unfold leG
  split
  · refine ⟨h1, ?_, ?_, ?_, ?_⟩
    · rw [up_ne (by omega), up_ne (by omega)]; exact h2
    · rw [up_ne (by omega), up_ne (by omega)]; exact h3
    · rw [up_ne (by omega), up_ne (by omega)]; exact h4
    · rw [up_ne (by omega), up_ne (by omega)]; exact h5
  · refine ⟨h1, ?_, ?_, ?_, ?_⟩
    · rw [up_ne (by omega)]; exact h2
    · rw [up_ne (by omega)]; exact h3
    · rw [up_ne (by omega)]; exact h4
    · rw [up_ne (by omega)]; exact h5
theorem be_at (G : GG) (t : Nat) (a b : Int32) : beG G t a b 33 t = a ∧ beG G t a b 34 t = b ∧ beG G t a b 35 t = nI 0 ∧ beG G t a b 36 t = nI 0 ∧ beG G t a b 31 6 = nI (t + 1) ∧ ∀ c j, ¬ c = 33 → ¬ c = 34 → ¬ c = 35 → ¬ c = 36 → ¬ (c = 31 ∧ j = 6) → beG G t a b c j = G c j := by
  unfold beG
  refine ⟨?_, ?_, ?_, ?_, up_eq, fun c j h1 h2 h3 h4 h5 => ?_⟩
  · rw [up_ne (by omega), up_ne (by omega), up_ne (by omega), up_ne (by omega)]; exact up_eq
  · rw [up_ne (by omega), up_ne (by omega), up_ne (by omega)]; exact up_eq
  · rw [up_ne (by omega), up_ne (by omega)]; exact up_eq
  · rw [up_ne (by omega)]; exact up_eq
  · rw [up_ne h5, up_ne (by omega), up_ne (by omega), up_ne (by omega), up_ne (by omega)]
theorem le_at (G : GG) (t i : Nat) : leG G t i 35 t = G 35 t + nI 1 ∧ leG G t i 36 t = (if G 33 t = nI 2 then imin (nI 10000) (G 36 t * nI 10 + G 32 i - nI 48) else G 36 t) ∧ ∀ c j, ¬ c = 35 → ¬ c = 36 → leG G t i c j = G c j := by
  unfold leG
  split
  · refine ⟨?_, up_eq, fun c j h1 h2 => ?_⟩
    · rw [up_ne (by omega)]; exact up_eq
    · rw [up_ne (by omega), up_ne (by omega)]
  · refine ⟨up_eq, ?_, fun c j h1 h2 => ?_⟩
    · rw [up_ne (by omega)]
    · rw [up_ne (by omega)]
theorem vl_step {T : MU} {q k : Nat} {x : Int32} (hx : x = T (q + k)) (hd : isD x = true) : imin (nI 10000) (nI (vlF T q k) * nI 10 + x - nI 48) = nI (vlF T q (k + 1)) := by
  obtain ⟨a1, a2⟩ := of_decide_eq_true hd
  obtain ⟨b0, b1, b2⟩ := ix1_of (by decide) (by decide) ⟨a1, a2⟩
  have hv := vl_le (T := T) (q := q) k
  rw [b2, pk_mul, nI_add, pk_sub (by omega), imin_nI (by decide) (by omega)]
  congr 1
  simp only [vlF, dg]
  rw [← hx]
  omega
theorem CI.on {G : GG} {T : MU} {n i s la : Nat} (h : CI G T n i (s + 1) la) (hi : i < n) (hk : kb (T i) = la) (hl : la = 1 ∨ la = 2) : CI (leG G s i) T n (i + 1) (s + 1) la := by
  obtain ⟨h0, h1, h2, h3⟩ := h
  obtain ⟨s', e, a1, a2, a3, a4, a5, a6, a7⟩ := h2 hl
  have : s' = s := by omega
  subst this
  obtain ⟨l1, l2, l3⟩ := le_at G s' i
  obtain ⟨b1, b2, b3, b4, b5⟩ := h0
  have hkd : knd T n (pk T n s') = la := by unfold knd; rw [if_neg (by omega), if_neg (by omega)]; exact a3
  refine ⟨⟨by rw [l3 _ _ (by decide) (by decide)]; exact b1, by omega, by rw [l3 _ _ (by decide) (by decide)]; exact b3, b4, fun j hj => by rw [l3 _ _ (by decide) (by decide)]; exact b5 j hj⟩, fun k hk => (h1 k hk).le (by omega), fun _ => ⟨s', rfl, by rw [l3 _ _ (by decide) (by decide)]; exact a1, by rw [l3 _ _ (by decide) (by decide)]; exact a2, a3, by omega, fun u u1 u2 => ?_, ?_, ?_⟩, fun z => absurd hl z⟩
  · by_cases e : u = i
    · subst e; exact hk
    · exact a5 u u1 (by omega)
  · rw [l1, a6, nI_add]
    congr 1
    omega
  · rw [l2, a1, hkd, a7, b5 i hi]
    rcases hl with rfl | rfl
    · rw [if_neg (nI_ne (by decide) (by decide) (by decide)), if_neg (by decide), if_neg (by decide)]
    · rw [if_pos rfl, if_pos rfl, if_pos rfl, show i + 1 - frm T n (pk T n s') = i - frm T n (pk T n s') + 1 by omega]
      exact vl_step (by rw [show frm T n (pk T n s') + (i - frm T n (pk T n s')) = i by omega]) (kb_2.mp hk)
theorem CI.bl {G : GG} {T : MU} {n i t la : Nat} (h : CI G T n i t la) (hi : i < n) (hk : kb (T i) = 0) : CI G T n (i + 1) t 0 := by
  have hc := h.close (Nat.le_of_lt hi) (Or.inr (fun q => by omega))
  obtain ⟨⟨b1, b2, b3, b4, b5⟩, h1, h2, h3⟩ := h
  exact ⟨⟨b1, by omega, b3, b4, b5⟩, h1, fun z => by omega, fun _ => ⟨hc.1, by rw [hc.2]; exact frm_step hi (kb_0.mp hk)⟩⟩
theorem CI.nw {G : GG} {T : MU} {n i t la : Nat} (h : CI G T n i t la) (hi : i < n) (hk : ¬ kb (T i) = 0) (hg : ¬ (kb (T i) = la ∧ (la = 1 ∨ la = 2))) : CI (leG (beG G t (nI (kb (T i))) (nI i)) t i) T n (i + 1) (t + 1) (kb (T i)) := by
  have hc := h.close (Nat.le_of_lt hi) (Or.inr hg)
  obtain ⟨⟨b1, b2, b3, b4, b5⟩, -⟩ := h
  obtain ⟨e1, e2, e3, e4, e5, e6⟩ := be_at G t (nI (kb (T i))) (nI i)
  obtain ⟨l1, l2, l3⟩ := le_at (beG G t (nI (kb (T i))) (nI i)) t i
  have hnb : isBk (T i) = false := by
    cases z : isBk (T i) with
    | false => rfl
    | true => exact absurd (kb_0.mpr z) hk
  have hf : frm T n (pk T n t) = i := hc.2.trans (frm_self hnb)
  have hs : srt T n (pk T n t) = if kb (T i) = 1 then 1 else if kb (T i) = 2 then 2 else 3 := by
    unfold srt
    rw [hf, if_neg (by omega)]
    by_cases z1 : isL (T i) = true
    · rw [if_pos z1, if_pos (kb_1.mpr z1)]
    · rw [if_neg z1, if_neg (fun q => z1 (kb_1.mp q))]
      by_cases z2 : isD (T i) = true
      · rw [if_pos z2, if_pos (kb_2.mpr z2)]
      · rw [if_neg z2, if_neg (fun q => z2 (kb_2.mp q))]
  have hk4 := kb_le (T i)
  have hkd : knd T n (pk T n t) = kb (T i) := by
    unfold knd
    by_cases z1 : kb (T i) = 1
    · rw [if_pos z1] at hs
      rw [if_neg (by omega), if_neg (by omega)]; omega
    · rw [if_neg z1] at hs
      by_cases z2 : kb (T i) = 2
      · rw [if_pos z2] at hs
        rw [if_neg (by omega), if_neg (by omega)]; omega
      · rw [if_neg z2] at hs
        rw [if_neg (by omega), if_pos hs, hf]
        by_cases z3 : T i = nI 59
        · rw [if_pos z3, z3]; rfl
        · rw [if_neg z3]
          have : ¬ kb (T i) = 3 := by
            intro q
            unfold kb at q
            rw [if_neg (fun y => z1 (kb_1.mpr y)), if_neg (fun y => z2 (kb_2.mpr y)), if_neg z3] at q
            split at q <;> omega
          omega
  have hs0 : ¬ srt T n (pk T n t) = 0 := by rw [hs]; split <;> first | omega | (split <;> omega)
  have v36 : leG (beG G t (nI (kb (T i))) (nI i)) t i 36 t = nI (if kb (T i) = 2 then vlF T i 1 else 0) := by
    rw [l2, e1, e4, e6 32 i (by decide) (by decide) (by decide) (by decide) (by omega), b5 i hi]
    by_cases z : kb (T i) = 2
    · rw [if_pos z, z, if_pos rfl]
      have := vl_step (T := T) (q := i) (k := 0) (x := T i) rfl (kb_2.mp z)
      exact this
    · rw [if_neg z, if_neg (nI_ne (by omega) (by decide) z)]
  have v35 : leG (beG G t (nI (kb (T i))) (nI i)) t i 35 t = nI 1 := by rw [l1, e3, nI_add]
  have v33 : leG (beG G t (nI (kb (T i))) (nI i)) t i 33 t = nI (knd T n (pk T n t)) := by rw [l3 _ _ (by decide) (by decide), e1, hkd]
  have v34 : leG (beG G t (nI (kb (T i))) (nI i)) t i 34 t = nI (frm T n (pk T n t)) := by rw [l3 _ _ (by decide) (by decide), e2, hf]
  refine ⟨⟨by rw [l3 _ _ (by decide) (by decide)]; exact e5, by omega, by rw [l3 _ _ (by decide) (by decide), e6 _ _ (by decide) (by decide) (by decide) (by decide) (by decide)]; exact b3, b4, fun j hj => by rw [l3 _ _ (by decide) (by decide), e6 _ _ (by decide) (by decide) (by decide) (by decide) (by omega)]; exact b5 j hj⟩, fun k hk => ((hc.1 k (by omega)).be (by omega)).le (by omega), fun z => ⟨t, rfl, v33, v34, ?_, by omega, fun u u1 u2 => by rw [show u = i by omega], by rw [v35, hf]; congr 1; omega, by rw [v36, hf, show i + 1 - i = 1 by omega]⟩, fun z => ⟨fun k hk => ?_, ?_⟩⟩
  · rw [hs]
    rcases z with z | z
    · rw [if_pos z, z]
    · rw [if_neg (by omega), if_pos z, z]
  · by_cases e : k = t
    · subst e
      have hs3 : srt T n (pk T n k) = 3 := by rw [hs, if_neg (fun q => z (Or.inl q)), if_neg (fun q => z (Or.inr q))]
      refine ⟨hs0, v33, v34, ?_, ?_⟩
      · rw [v35]
        unfold nxt
        rw [if_neg hs0, if_neg (by omega), if_neg (by omega)]
        congr 1
        omega
      · rw [v36, if_neg (fun q => z (Or.inr q)), if_neg (by omega)]
    · exact ((hc.1 k (by omega)).be (by omega)).le (by omega)
  · show frm T n (nxt T n (pk T n t)) = _
    have hs3 : srt T n (pk T n t) = 3 := by rw [hs, if_neg (fun q => z (Or.inl q)), if_neg (fun q => z (Or.inr q))]
    unfold nxt
    rw [if_neg hs0, if_neg (by omega), if_neg (by omega), hf]
theorem CI.fin {G : GG} {T : MU} {n t la : Nat} (h : CI G T n n t la) : TKR (beG G t (nI 5) (nI n)) T n t := by
  have hc := h.close (Nat.le_refl n) (Or.inl rfl)
  obtain ⟨⟨b1, b2, b3, b4, b5⟩, -⟩ := h
  obtain ⟨e1, e2, e3, e4, e5, e6⟩ := be_at G t (nI 5) (nI n)
  have hf : frm T n (pk T n t) = n := hc.2.trans frm_n
  have hs : srt T n (pk T n t) = 0 := by unfold srt; rw [if_pos (by omega)]
  refine ⟨⟨b4, by omega, fun j hj => by rw [e6 _ _ (by decide) (by decide) (by decide) (by decide) (by omega)]; exact b5 j hj⟩, ⟨hs, fun k hk => (hc.1 k hk).1⟩, fun k hk => ?_⟩
  by_cases e : k = t
  · subst e
    refine ⟨by rw [e1, knd_5i hs], by rw [e2, hf], ?_, ?_⟩
    · rw [e3]
      unfold nxt
      rw [if_pos hs, Nat.sub_self]
    · rw [e4, if_neg (by omega)]
  · exact ((hc.1 k (by omega)).be (by omega)).2
theorem be_F {G : GG} {t : Nat} {a b : Int32} {c : Nat} (h : c < 31 ∨ c = 32 ∨ 37 ≤ c) : beG G t a b c = G c :=
  funext (fun j => (be_at G t a b).2.2.2.2.2 c j (by omega) (by omega) (by omega) (by omega) (by omega))
theorem be_7 {G : GG} {t : Nat} {a b : Int32} {j : Nat} (h : ¬ j = 6) : beG G t a b 31 j = G 31 j :=
  (be_at G t a b).2.2.2.2.2 31 j (by omega) (by omega) (by omega) (by omega) (by omega)
theorem le_F {G : GG} {t i : Nat} {c : Nat} (h : ¬ c = 35) (h2 : ¬ c = 36) : leG G t i c = G c :=
  funext (fun j => (le_at G t i).2.2 c j h h2)
theorem nI_0k {k : Nat} (hk : k ≤ 4) : nI k = 0 ↔ k = 0 := by
  constructor
  · intro h
    rw [← nI_0] at h
    exact Decidable.byContradiction (fun q => nI_ne (by omega) (by decide) q h)
  · intro h; rw [h, nI_0]
