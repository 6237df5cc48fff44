/-! the reference: words for its calls of many meals -/
theorem servN_lt {μ : MU} {b : Nat} (hV : Inv b μ) (hb : b < 2 ^ 30) : ∀ t, servN μ = some t → t < 10 := fun t q => by
  rcases hV.served hb with ⟨-, e⟩ | ⟨m, n, h1, h2, h3, -, -, e⟩
  · rw [e] at q; cases q
  · rw [e] at q
    cases q
    exact Nat.lt_of_lt_of_le (Nat.mod_lt _ h2) h3
theorem nb_of {b : Nat} {μ : MU} (hV : Inv b μ) : ∃ s, s ≤ 35 ∧ μ 9 = nI s ∧ cl (μ 9) = s := by
  obtain ⟨m, -, -, h3⟩ := hV.1
  have hs : (if m < 35 then m else 35) ≤ 35 := by split <;> omega
  exact ⟨_, hs, h3, by rw [h3]; exact nI_clamp (by omega)⟩
theorem nt_of {b : Nat} {μ : MU} (hV : Inv b μ) : ∃ s, s ≤ 10 ∧ μ 8 = nI s ∧ cl (μ 8) = s := by
  obtain ⟨n, h1, h2⟩ := hV.2.2.1
  exact ⟨n, h1, h2, by rw [h2]; exact nI_clamp (by omega)⟩
theorem past_r {b : Nat} {μ : MU} (hV : Inv b μ) (hb : b ≤ 100000) {x : Int32} {h : Nat} (hh : h ≤ 99999) (hx : nI 0 ≤ x ∧ x ≤ nI h) : nI 99999 - x < μ 0 ↔ ¬ (μ 0 + x ≤ nI 99999) := by
  obtain ⟨m, h1, h2, -⟩ := hV.1
  obtain ⟨h3, h4⟩ := ix_of (by omega) hx
  rw [h4, h2, past_iff (by omega) (by omega), nI_add]
  constructor
  · intro q z
    have := (nI_leI (by omega) (by decide)).mp z
    omega
  · intro q
    rcases Nat.lt_or_ge 99999 (m + cl x) with z | z
    · exact z
    · exact absurd (nI_le (by omega) (by decide)) q
theorem le_01 {x : Int32} {h : Nat} (hx : nI 1 ≤ x ∧ x ≤ nI h) : nI 0 ≤ x ∧ x ≤ nI h := ⟨Int32.le_trans (by decide +kernel) hx.1, hx.2⟩
theorem le_nI {n h : Nat} (hn : n ≤ h) (hh : h < 2 ^ 31) : nI 0 ≤ nI n ∧ nI n ≤ nI h := ⟨nI_le (Nat.zero_le _) (by omega), nI_le hn hh⟩
def wmF (μ : MU) (n lo hi : Int32) (g : Bool) : Int32 := if g = true ∧ lo ≤ n ∧ n ≤ hi then (if μ 0 + n ≤ nI 99999 then nI 0 else FK 4) else FK 0
theorem fk_x : ∀ k, k < 7 → (-1000001) - FK k = nI k := by decide +kernel
theorem fk_neg : ∀ k, k < 7 → ¬ (0 : Int32) ≤ FK k := by decide +kernel
theorem wm_n {μ : MU} {n lo hi : Int32} {g : Bool} (h : ¬ 0 ≤ wmF μ n lo hi g) : ∃ k, k < 7 ∧ wmF μ n lo hi g = FK k ∧ ((k = 0 ∧ ¬ (g = true ∧ lo ≤ n ∧ n ≤ hi)) ∨ (k = 4 ∧ (g = true ∧ lo ≤ n ∧ n ≤ hi) ∧ ¬ (μ 0 + n ≤ nI 99999))) := by
  unfold wmF at h ⊢
  by_cases q : g = true ∧ lo ≤ n ∧ n ≤ hi
  · rw [if_pos q] at h ⊢
    by_cases z : μ 0 + n ≤ nI 99999
    · rw [if_pos z] at h; exact absurd (by decide +kernel) h
    · rw [if_neg z]; exact ⟨4, by decide, rfl, Or.inr ⟨rfl, q, z⟩⟩
  · rw [if_neg q]; exact ⟨0, by decide, rfl, Or.inl ⟨rfl, q⟩⟩
theorem wm_p {μ : MU} {n lo hi : Int32} {g : Bool} (h : 0 ≤ wmF μ n lo hi g) : (g = true ∧ lo ≤ n ∧ n ≤ hi) ∧ μ 0 + n ≤ nI 99999 := by
  unfold wmF at h
  by_cases q : g = true ∧ lo ≤ n ∧ n ≤ hi
  · rw [if_pos q] at h
    by_cases z : μ 0 + n ≤ nI 99999
    · exact ⟨q, z⟩
    · rw [if_neg z] at h; exact absurd h (fk_neg 4 (by decide))
  · rw [if_neg q] at h; exact absurd h (fk_neg 0 (by decide))
theorem MR.same {G : GG} {μ : MU} (h : MR G μ) {i : Nat} {v : Int32} (e : μ i = v) : MR (up G 48 i v) μ := fun k hk => by
  by_cases q : k = i
  · subst q; rw [up_eq, e]
  · rw [up_ne (by omega)]; exact h k hk
theorem MR.cg {G : GG} {μ ν : MU} (h : MR G μ) (e : μ = ν) : MR G ν := e ▸ h
theorem upd_self {μ : MU} {k : Nat} : upd μ k (μ k) = μ := by
  funext j
  by_cases e : j = k
  · subst e; rw [upd_eq]
  · rw [upd_ne e]
theorem upd_upd {μ : MU} {k : Nat} {v w : Int32} : upd (upd μ k v) k w = upd μ k w := by
  funext j
  by_cases e : j = k
  · subst e; rw [upd_eq, upd_eq]
  · rw [upd_ne e, upd_ne e, upd_ne e]
theorem upd_back {μ : MU} {k : Nat} {v : Int32} : upd (upd μ k v) k (μ k) = μ := by rw [upd_upd, upd_self]
/-! searches for the best -/
theorem bs_1 {s : Nat → Int32} {lo k : Nat} (h : (bsS s lo k).2 < s (lo + k)) : bsS s lo (k + 1) = (nI (lo + k), s (lo + k)) := if_pos h
theorem bs_0 {s : Nat → Int32} {lo k : Nat} (h : ¬ (bsS s lo k).2 < s (lo + k)) : bsS s lo (k + 1) = bsS s lo k := if_neg h
theorem nn_gt {x : Int32} {b : Nat} (h : nn x b) (hb : b < 2 ^ 31) : (-1 : Int32) < x := by
  obtain ⟨n, h1, rfl⟩ := h
  exact Int32.lt_of_lt_of_le (show (-1 : Int32) < nI 0 by decide +kernel) (nI_le (Nat.zero_le _) (by omega))
theorem nn_0 {x : Int32} {b : Nat} (h : nn x b) (hb : b < 2 ^ 31) : (0 : Int32) ≤ x := by
  obtain ⟨n, h1, rfl⟩ := h
  exact nn_ge (by omega)
/-! two places of the plan are changed -/
def swK (μ : MU) (a b : Nat) : Nat → MU
  | 0 => μ
  | k + 1 => swS (swK μ a b k) (40 + 3 * a + k) (40 + 3 * b + k)
theorem swK_3 {μ : MU} {a b : Nat} : swK μ a b 3 = swM μ a b := by
  show swS (swS (swS μ (40 + 3 * a + 0) (40 + 3 * b + 0)) (40 + 3 * a + 1) (40 + 3 * b + 1)) (40 + 3 * a + 2) (40 + 3 * b + 2) = _
  rw [show 40 + 3 * a + 1 = 41 + 3 * a by omega, show 40 + 3 * b + 1 = 41 + 3 * b by omega, show 40 + 3 * a + 2 = 42 + 3 * a by omega, show 40 + 3 * b + 2 = 42 + 3 * b by omega]
  rfl
theorem swS_l {μ : MU} {x y : Nat} : swS μ x y x = μ y := by
  unfold swS
  by_cases e : x = y
  · subst e; rw [upd_eq]
  · rw [upd_ne e, upd_eq]
theorem swS_r {μ : MU} {x y : Nat} : swS μ x y y = μ x := by
  unfold swS
  rw [upd_eq]
theorem swS_2 {μ : MU} {x y : Nat} : swS (swS μ x y) x y = μ := by
  funext k
  by_cases e : k = x
  · subst e; rw [swS_l, swS_r]
  · by_cases e2 : k = y
    · subst e2; rw [swS_r, swS_l]
    · rw [swS_ne e e2, swS_ne e e2]
theorem swS_com {μ : MU} {x y u v : Nat} (h1 : ¬ x = u) (h2 : ¬ x = v) (h3 : ¬ y = u) (h4 : ¬ y = v) : swS (swS μ x y) u v = swS (swS μ u v) x y := by
  have h1' : ¬ u = x := fun q => h1 q.symm
  have h2' : ¬ v = x := fun q => h2 q.symm
  have h3' : ¬ u = y := fun q => h3 q.symm
  have h4' : ¬ v = y := fun q => h4 q.symm
  funext k
  by_cases e1 : k = x
  · subst e1; rw [swS_ne h1 h2, swS_l, swS_l, swS_ne h3 h4]
  · by_cases e2 : k = y
    · subst e2; rw [swS_ne h3 h4, swS_r, swS_r, swS_ne h1 h2]
    · rw [swS_ne (μ := swS μ u v) e1 e2]
      by_cases e3 : k = u
      · subst e3; rw [swS_l, swS_l, swS_ne h2' h4']
      · by_cases e4 : k = v
        · subst e4; rw [swS_r, swS_r, swS_ne h1' h3']
        · rw [swS_ne e3 e4, swS_ne e3 e4, swS_ne e1 e2]
theorem swM_2 {μ : MU} {a b : Nat} : swM (swM μ a b) a b = μ := by
  unfold swM
  rw [swS_com (x := 42 + 3 * a) (y := 42 + 3 * b) (u := 40 + 3 * a) (v := 40 + 3 * b) (by omega) (by omega) (by omega) (by omega),
    swS_com (x := 41 + 3 * a) (y := 41 + 3 * b) (u := 40 + 3 * a) (v := 40 + 3 * b) (by omega) (by omega) (by omega) (by omega),
    swS_2, swS_com (x := 42 + 3 * a) (y := 42 + 3 * b) (u := 41 + 3 * a) (v := 41 + 3 * b) (by omega) (by omega) (by omega) (by omega), swS_2, swS_2]
/-! a taste alone, meal for meal: the class's plan of one, the reference's own number -/
def mtF (μ : MU) (t : Nat) : Nat → MU
  | 0 => μ
  | k + 1 => (mealF (mtF μ t k) (some t)).2
def gk (k : Nat) : Prop := k < 8 ∨ k = 9 ∨ (10 ≤ k ∧ k < 40) ∨ 70 ≤ k
def RelT (A B : MU) (t : Nat) : Prop := (∀ k, gk k → B k = A k) ∧ B (40 + 3 * 0) = A (40 + 3 * t) ∧ B (41 + 3 * 0) = A (41 + 3 * t) ∧ B (42 + 3 * 0) = A (42 + 3 * t) ∧ B 8 = nI 1
theorem RelT.u {A B : MU} {t k : Nat} (h : RelT A B t) (hk : gk k) (ht : t < 10) (v : Int32) : RelT (upd A k v) (upd B k v) t := by
  obtain ⟨h1, h2, h3, h4, h5⟩ := h
  unfold gk at hk
  refine ⟨fun j hj => ?_, ?_, ?_, ?_, ?_⟩
  · by_cases e : j = k
    · subst e; rw [upd_eq, upd_eq]
    · rw [upd_ne e, upd_ne e]; exact h1 j hj
  · rw [upd_ne (by omega), upd_ne (by omega)]; exact h2
  · rw [upd_ne (by omega), upd_ne (by omega)]; exact h3
  · rw [upd_ne (by omega), upd_ne (by omega)]; exact h4
  · rw [upd_ne (by omega)]; exact h5
theorem RelT.sh {A B : MU} {t : Nat} (h : RelT A B t) (ht : t < 10) (e : Int32) : RelT (shf A e) (shf B e) t := by
  obtain ⟨h1, h2, h3, h4, h5⟩ := h
  refine ⟨fun j hj => ?_, ?_, ?_, ?_, ?_⟩
  · unfold gk at hj
    unfold shf
    by_cases q : j = 80
    · rw [if_pos q, if_pos q]
    · rw [if_neg q, if_neg q]
      by_cases q2 : 80 < j ∧ j < 115
      · rw [if_pos q2, if_pos q2]; exact h1 _ (by unfold gk; omega)
      · rw [if_neg q2, if_neg q2]; exact h1 _ hj
  · unfold shf; rw [if_neg (by omega), if_neg (by omega), if_neg (by omega), if_neg (by omega)]; exact h2
  · unfold shf; rw [if_neg (by omega), if_neg (by omega), if_neg (by omega), if_neg (by omega)]; exact h3
  · unfold shf; rw [if_neg (by omega), if_neg (by omega), if_neg (by omega), if_neg (by omega)]; exact h4
  · unfold shf; rw [if_neg (by omega), if_neg (by omega)]; exact h5
theorem RelT.mealE {A B : MU} {t : Nat} (h : RelT A B t) (ht : t < 10) (e : Int32) : RelT (mealE A e) (mealE B e) t := by
  unfold Jvm.Pilot.CPeaSpoonsLaw_law_r1469_87ba7e.mealE
  rw [h.1 3 (Or.inl (by decide)), h.1 4 (Or.inl (by decide)), h.1 9 (Or.inr (Or.inl rfl)), h.1 0 (Or.inl (by decide))]
  exact ((((((h.u (Or.inl (by decide)) ht _).u (Or.inl (by decide)) ht _)).sh ht e).u (Or.inr (Or.inl rfl)) ht _)).u (Or.inl (by decide)) ht _
theorem RelT.srv {A B : MU} {t b : Nat} (h : RelT A B t) (ht : t < 10) (hV : Inv b A) : (srvF B 0).1 = (srvF A t).1 ∧ RelT (srvF A t).2 (srvF B 0).2 t := by
  have hf := hV.fd ht
  have e5 : cl (B (41 + 3 * 0)) = cl (A (41 + 3 * t)) := congrArg cl h.2.2.1
  unfold srvF
  rw [e5]
  generalize cl (A (41 + 3 * t)) = f at hf ⊢
  have g0 : ∀ j, j < 30 → gk (10 + j) := fun j hj => by unfold gk; omega
  have a0 : B (10 + 3 * f) = A (10 + 3 * f) := h.1 _ (g0 _ (by omega))
  have a1 : B (11 + 3 * f) = A (11 + 3 * f) := h.1 _ (by have := hf.1; unfold gk; omega)
  have a2 : B (12 + 3 * f) = A (12 + 3 * f) := h.1 _ (by have := hf.1; unfold gk; omega)
  have z1 : B 1 = A 1 := h.1 1 (Or.inl (by decide))
  have z2 : B 2 = A 2 := h.1 2 (Or.inl (by decide))
  have z3 : B 3 = A 3 := h.1 3 (Or.inl (by decide))
  have z6 : B 6 = A 6 := h.1 6 (Or.inl (by decide))
  have z7 : B 7 = A 7 := h.1 7 (Or.inl (by decide))
  have hM : RelT (srvM A t f) (srvM B 0 f) t := by
    unfold srvM
    rw [h.2.1, z1]
    split
    · exact h.u (Or.inl (by decide)) ht _
    · exact h
  have hL : RelT (srvL A t f) (srvL B 0 f) t := by
    unfold srvL
    rw [a0, a1, z1, z2, z7, h.2.1]
    exact hM.u (g0 _ (by omega)) ht _
  have hP : RelT (srvP A t f) (srvP B 0 f) t := by
    unfold srvP
    rw [h.2.1, z6]
    split
    · next q =>
      have hp := (hV.pd q.2).1
      have hg := g0 (3 * cl (A 6)) (by omega)
      rw [hL.1 _ hg]
      exact hL.u hg ht _
    · exact hL
  refine ⟨?_, ?_⟩
  · unfold srvE
    rw [h.2.1, h.2.2.2.1, a0, a1, z1, z3, z7]
  · rw [a2]
    exact hP.u (by have := hf.1; unfold gk; omega) ht _
theorem RelT.meal {A B : MU} {t b : Nat} (h : RelT A B t) (ht : t < 10) (hV : Inv b A) : RelT (mealF A (some t)).2 (stepF B).2 t := by
  have e : servN B = some 0 := by
    unfold servN
    rw [h.2.2.2.2, if_neg (by decide +kernel), show cl (nI 1) = 1 from nI_clamp (by decide), Nat.mod_one]
  unfold stepF
  rw [e]
  obtain ⟨h1, h2⟩ := h.srv ht hV
  show RelT (Jvm.Pilot.CPeaSpoonsLaw_law_r1469_87ba7e.mealE (srvF A t).2 (srvF A t).1) (Jvm.Pilot.CPeaSpoonsLaw_law_r1469_87ba7e.mealE (srvF B 0).2 (srvF B 0).1) t
  rw [h1]
  exact h2.mealE ht _
theorem rel_0 {μ : MU} {t : Nat} (ht : t < 10) : RelT μ (onM μ t) t := by
  unfold onM
  have e : ∀ k, gk k → ¬ k = 8 := fun k hk => by unfold gk at hk; omega
  refine ⟨fun k hk => ?_, ?_, ?_, ?_, upd_eq⟩
  · rw [upd_ne (e k hk)]
    unfold gk at hk
    unfold swM
    rw [swS_ne (by omega) (by omega), swS_ne (by omega) (by omega), swS_ne (by omega) (by omega)]
  · rw [upd_ne (by decide)]
    unfold swM
    rw [swS_ne (by omega) (by omega), swS_ne (by omega) (by omega), swS_l]
  · rw [upd_ne (by decide)]
    unfold swM
    rw [swS_ne (by omega) (by omega), swS_l, swS_ne (by omega) (by omega)]
  · rw [upd_ne (by decide)]
    unfold swM
    rw [swS_l, swS_ne (by omega) (by omega), swS_ne (by omega) (by omega)]
theorem mt_inv {μ : MU} {b t : Nat} (hV : Inv b μ) (ht : t < 10) : ∀ j, Inv (b + j) (mtF μ t j)
  | 0 => hV
  | j + 1 => ((mt_inv hV ht j).mealT (o := some t) (fun t' q => by cases q; exact ht)).1
theorem mt_rel {μ : MU} {b t : Nat} (hV : Inv b μ) (ht : t < 10) : ∀ j, RelT (mtF μ t j) (goF (onM μ t) j).2 t
  | 0 => rel_0 ht
  | j + 1 => (mt_rel hV ht j).meal ht (mt_inv hV ht j)
theorem tl_mt {μ : MU} {b t f : Nat} (hV : Inv b μ) (ht : t < 10) (hf : f < 10) (j : Nat) : tlP (onM μ t) f j = lkB (mtF μ t j) f := by
  have h := mt_rel hV ht j
  unfold tlP lkB
  rw [h.1 5 (Or.inl (by decide)), h.1 (10 + 3 * f) (by unfold gk; omega)]
/-! no meal changes the pudding -/
theorem srv_6 {μ : MU} {t : Nat} : (srvF μ t).2 6 = μ 6 := by
  unfold srvF
  show upd _ _ _ 6 = _
  rw [upd_ne (by omega)]
  unfold srvP
  split
  · rw [upd_ne (by omega)]
    unfold srvL
    rw [upd_ne (by omega)]
    exact srv_z (by decide)
  · unfold srvL
    rw [upd_ne (by omega)]
    exact srv_z (by decide)
theorem mealE_6 {μ : MU} {e : Int32} : mealE μ e 6 = μ 6 := by
  unfold mealE
  rw [upd_ne (by decide), upd_ne (by decide)]
  unfold shf
  rw [if_neg (by decide), if_neg (by decide), upd_ne (by decide), upd_ne (by decide)]
theorem meal_6 {μ : MU} {o : Option Nat} : (mealF μ o).2 6 = μ 6 := by
  cases o with
  | none => exact mealE_6 (μ := μ) (e := nI 0)
  | some t => exact (mealE_6 (μ := (srvF μ t).2) (e := (srvF μ t).1)).trans srv_6
theorem go_6 {μ : MU} : ∀ n, (goF μ n).2 6 = μ 6
  | 0 => rfl
  | n + 1 => (meal_6 (μ := (goF μ n).2) (o := servN (goF μ n).2)).trans (go_6 n)
