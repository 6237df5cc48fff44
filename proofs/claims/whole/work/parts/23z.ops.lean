/-! the calls, in numbers: a finding, or an answer and the state behind it -/
def FK (k : Nat) : Int32 := (-1000001) - nI k
abbrev OUT : Type := Nat ⊕ (Int32 × MU)
def CO (G : GG) (μ : MU) (o : OUT) (v : Int32) (G' : GG) : Prop := match o with
  | .inl k => v = FK k ∧ CR G' 0 μ ∧ G' 46 = upd (G 46) k (G 46 k + nI 1) ∧ ∀ c, 20 ≤ c → c ≠ 46 → G' c = G c
  | .inr q => v = q.1 ∧ CR G' 0 q.2 ∧ ∀ c, 20 ≤ c → G' c = G c
theorem CO.fin {G G1 : GG} {μ : MU} {o : OUT} {v : Int32} {k : Nat} (ho : o = .inl k) (hv : v = FK k) (h : CR G1 0 μ) (hF : ∀ c, 20 ≤ c → G1 c = G c) : CO G μ o v (up G1 46 k (G1 46 k + nI 1)) := by
  subst ho
  refine ⟨hv, h.fr (j := 4) ?_ (by decide), ?_, ?_⟩
  · intro c hc
    funext x
    exact up_ne (by omega)
  · rw [← hF 46 (by decide)]
    funext x
    by_cases e : x = k
    · subst e; rw [up_eq, upd_eq]
    · rw [up_ne (by omega), upd_ne e]
  · intro c h1 h2
    rw [← hF c h1]
    funext x
    exact up_ne (by omega)
theorem CO.ok {G G1 : GG} {μ : MU} {o : OUT} {v w : Int32} {μ' : MU} (ho : o = .inr (w, μ')) (hv : v = w) (h : CR G1 0 μ') (hF : ∀ c, 20 ≤ c → G1 c = G c) : CO G μ o v G1 := by
  subst ho
  exact ⟨hv, h, hF⟩
theorem fr0 {G : GG} : ∀ c, 20 ≤ c → G c = G c := fun _ _ => rfl
theorem fr_C {G G' G0 : GG} (h : Fr 0 G G') (h0 : ∀ c, 20 ≤ c → G c = G0 c) : ∀ c, 20 ≤ c → G' c = G0 c := fun c hc => (h c (by omega)).trans (h0 c hc)
theorem fr_T {G G' G0 : GG} (h : Fr 1 G G') (h0 : ∀ c, 20 ≤ c → G c = G0 c) : ∀ c, 20 ≤ c → G' c = G0 c := fun c hc => (h c (by omega)).trans (h0 c hc)
theorem cr_T {G G' : GG} {μ : MU} (hC : CR G 0 μ) (h : Fr 1 G G') : CR G' 0 μ := hC.fr h (by decide)
def oFood (μ : MU) (f w v : Int32) : OUT := if (nI 0 ≤ f ∧ f ≤ nI 9) ∧ ((w = nI 0 ∧ nI 0 ≤ v ∧ v ≤ nI 99) ∨ (w = nI 1 ∧ nI 0 ≤ v ∧ v ≤ nI 9)) then .inr (μ (10 + 3 * cl f + cl w), upd μ (10 + 3 * cl f + cl w) v) else .inl 0
def oFoodOf (μ : MU) (f w : Int32) : OUT := if (nI 0 ≤ f ∧ f ≤ nI 9) ∧ nI 0 ≤ w ∧ w ≤ nI 3 then (if w = nI 3 then .inr (bi (lkB μ (cl f)), μ) else .inr (μ (10 + 3 * cl f + cl w), μ)) else .inl 0
def oChild (μ : MU) (w v : Int32) : OUT := if pLow w ≤ v ∧ v ≤ pTop w then .inr (μ (2 + cl w), upd μ (2 + cl w) v) else .inl 0
def oPud (μ : MU) (f : Int32) : OUT := if f = -1 ∨ (nI 0 ≤ f ∧ f ≤ nI 9) then .inr (μ 6, upd μ 6 f) else .inl 0
def oFri (μ : MU) (x : Int32) : OUT := if nI 0 ≤ x ∧ x ≤ nI 1023 then .inr (μ 7, upd μ 7 x) else .inl 0
def nxF (μ : MU) : Nat → Int32
  | 0 => -1
  | k + 1 => if lkB μ k = false ∧ (nxF μ k < nI 0 ∨ μ (10 + 3 * cl (nxF μ k)) < μ (10 + 3 * k)) then nI k else nxF μ k
def oNext (μ : MU) : OUT := if nxF μ 10 < nI 0 then .inl 3 else .inr (nxF μ 10, μ)
def oTaste (μ : MU) (k f p : Int32) : OUT := if (nI 0 ≤ k ∧ k ≤ nI 6) ∧ (nI 0 ≤ f ∧ f ≤ nI 9) ∧ nI 1 ≤ p ∧ p ≤ nI 20 then (if μ 8 = nI 10 then .inl 1 else .inr (μ 8, addM μ (cl (μ 8)) k f p)) else .inl 0
def oTasteOf (μ : MU) (t w : Int32) : OUT := if tsB μ t = true ∧ nI 0 ≤ w ∧ w ≤ nI 4 then (if w = nI 3 then .inr (eatT μ (cl t) false, μ) else if w = nI 4 then .inr (movT μ (cl t) false, μ) else .inr (μ (40 + 3 * cl t + cl w), μ)) else .inl 0
def oChange (μ : MU) (t w v : Int32) : OUT := if tsB μ t = true ∧ tLow w ≤ v ∧ v ≤ tTop w then .inr (μ (40 + 3 * cl t + cl w), upd μ (40 + 3 * cl t + cl w) v) else .inl 0
def oSwap (μ : MU) (a b : Int32) : OUT := if tsB μ a = true ∧ tsB μ b = true then .inr (nI 1, swM μ (cl a) (cl b)) else .inl 0
def oDrop (μ : MU) : OUT := if μ 8 = nI 0 then .inl 3 else .inr (nI (cl (μ 8) - 1), fsM (upd μ 8 (nI (cl (μ 8) - 1))) (cl (μ 8) - 1) 10)
def past (μ : MU) (n : Int32) : Prop := nI 99999 - n < μ 0
def oMeals (μ : MU) (n : Int32) : OUT := if nI 1 ≤ n ∧ n ≤ nI 70 then (if nI 99999 - n < μ 0 then .inl 4 else .inr (goF μ (cl n))) else .inl 0
def oNow (μ : MU) (w : Int32) : OUT := if nI 0 ≤ w ∧ w ≤ nI 10 then (if w = nI 1 then .inr (μ 0 / nI 5, μ) else if w = nI 8 then .inr (wkF μ (cl (μ 9)), μ) else if w = nI 9 then .inr (nI (cl (μ 9)), μ) else if w = nI 10 then .inr (bi (shortF μ), μ) else .inr (μ (cl w), μ)) else .inl 0
def oBook (μ : MU) (x : Int32) : OUT := if nI 0 ≤ x ∧ x ≤ nI (cl (μ 9)) - nI 1 then .inr (μ (80 + cl x), μ) else .inl 0
def dyF (μ : MU) (a : Int32) : Nat → Int32
  | 0 => nI 0
  | k + 1 => if (μ 0 - nI 1 - nI k) / nI 5 = (μ 0 - nI 1) / nI 5 - a then dyF μ a k + μ (80 + k) else dyF μ a k
def oDay (μ : MU) (a : Int32) : OUT := if nI 0 ≤ a ∧ a ≤ nI 7 then (if cl (μ 9) = 0 then .inl 3 else .inr (dyF μ a (cl (μ 9)), μ)) else .inl 0
def loF (μ : MU) : Nat → Int32
  | 0 => μ 80
  | k + 1 => imin (loF μ k) (μ (80 + (k + 1)))
def hiF (μ : MU) : Nat → Int32
  | 0 => μ 80
  | k + 1 => imax (hiF μ k) (μ (80 + (k + 1)))
def oSpread (μ : MU) : OUT := if cl (μ 9) = 0 then .inl 3 else .inr (hiF μ (cl (μ 9) - 1) - loF μ (cl (μ 9) - 1), μ)
def aheadV (r : Int32 × MU) (w : Int32) : Int32 := if w = nI 0 then r.1 else if w = nI 1 then lsF r.2 10 else if w = nI 2 then r.2 4 else if w = nI 3 then r.2 3 else r.2 (10 + 3 * cl (w - nI 4))
def oAhead (μ : MU) (n w : Int32) : OUT := if (nI 0 ≤ n ∧ n ≤ nI 350) ∧ nI 0 ≤ w ∧ w ≤ nI 13 then (if nI 99999 - n < μ 0 then .inl 4 else .inr (aheadV (goF μ (cl n)) w, μ)) else .inl 0
theorem ix_of {x : Int32} {n : Nat} (hn : n < 2 ^ 31) (h : nI 0 ≤ x ∧ x ≤ nI n) : cl x ≤ n ∧ x = nI (cl x) := by
  obtain ⟨j, h1, rfl⟩ := nI_nn (Int32.not_lt.mpr h.1)
  have h2 := (nI_leI h1 hn).mp h.2
  simp only [cl]
  rw [nI_clamp h1]
  exact ⟨h2, rfl⟩
theorem ix1_of {x : Int32} {a n : Nat} (ha : a < 2 ^ 31) (hn : n < 2 ^ 31) (h : nI a ≤ x ∧ x ≤ nI n) : a ≤ cl x ∧ cl x ≤ n ∧ x = nI (cl x) := by
  obtain ⟨h1, h2⟩ := ix_of hn ⟨Int32.le_trans (nI_le (Nat.zero_le a) ha) h.1, h.2⟩
  rw [h2] at h
  exact ⟨(nI_leI ha (by omega)).mp h.1, h1, h2⟩
theorem cl_nI {n : Nat} (h : n < 2 ^ 31) : cl (nI n) = n := nI_clamp h
theorem past_iff {m n : Nat} (hm : m < 2 ^ 30) (hn : n ≤ 99999) : nI 99999 - nI n < nI m ↔ 99999 < m + n := by
  rw [pk_sub hn]
  exact ⟨fun h => by have := (nI_ltI (by omega) (by omega)).mp h; omega, fun h => nI_lt (by omega) (by omega)⟩
theorem part_of {w v : Int32} (h : pLow w ≤ v ∧ v ≤ pTop w) : ∃ j, j < 4 ∧ w = nI j := by
  by_cases h0 : w = nI 0
  · exact ⟨0, by decide, h0⟩
  by_cases h1 : w = nI 1
  · exact ⟨1, by decide, h1⟩
  by_cases h2 : w = nI 2
  · exact ⟨2, by decide, h2⟩
  by_cases h3 : w = nI 3
  · exact ⟨3, by decide, h3⟩
  unfold pLow pTop at h
  rw [if_neg h3, if_neg h0, if_neg h1, if_neg h2, if_neg h3] at h
  exact absurd (Int32.le_trans h.1 h.2) (by decide +kernel)
theorem getP_val {G : GG} {i : Nat} {μ : MU} (hC : CR G i μ) {j : Nat} (hj : j < 4) : getP G i (nI j) = μ (2 + j) := by
  obtain ⟨⟨a0, a1, a2, a3, a4, a5, a6, a7, a8⟩, -⟩ := hC
  unfold getP
  rcases (show j = 0 ∨ j = 1 ∨ j = 2 ∨ j = 3 by omega) with rfl | rfl | rfl | rfl
  · rw [if_pos rfl]; exact a2
  · rw [if_neg (by decide +kernel), if_pos rfl]; exact a3
  · rw [if_neg (by decide +kernel), if_neg (by decide +kernel), if_pos rfl]; exact a4
  · rw [if_neg (by decide +kernel), if_neg (by decide +kernel), if_neg (by decide +kernel)]; exact a5
theorem setP_val {G : GG} {i : Nat} {μ : MU} (hC : CR G i μ) {j : Nat} (hj : j < 4) (v : Int32) : CR (setP G i (nI j) v) i (upd μ (2 + j) v) := by
  unfold setP
  rcases (show j = 0 ∨ j = 1 ∨ j = 2 ∨ j = 3 by omega) with rfl | rfl | rfl | rfl
  · rw [if_pos rfl]; exact hC.bent v
  · rw [if_neg (by decide +kernel), if_pos rfl]; exact hC.hun v
  · rw [if_neg (by decide +kernel), if_neg (by decide +kernel), if_pos rfl]; exact hC.wei v
  · rw [if_neg (by decide +kernel), if_neg (by decide +kernel), if_neg (by decide +kernel)]; exact hC.line v
theorem setP_fr {G0 G : GG} {i : Nat} {p v : Int32} (h : Fr i G0 G) : Fr i G0 (setP G i p v) := by
  unfold setP
  split
  · exact h.up (by decide)
  · split
    · exact h.up (by decide)
    · split <;> exact h.up (by decide)
theorem nx_in {μ : MU} : ∀ (k : Nat), k ≤ 10 → ¬ nxF μ k < nI 0 → cl (nxF μ k) < 10 ∧ nxF μ k = nI (cl (nxF μ k))
  | 0, _, h => absurd (show (-1 : Int32) < nI 0 by decide +kernel) h
  | k + 1, hk, h => by
    unfold nxF at h ⊢
    by_cases q : lkB μ k = false ∧ (nxF μ k < nI 0 ∨ μ (10 + 3 * cl (nxF μ k)) < μ (10 + 3 * k))
    · rw [if_pos q, cl_nI (by omega)]
      exact ⟨by omega, rfl⟩
    · rw [if_neg q] at h ⊢
      exact nx_in k (by omega) h
theorem notin {w : Int32} {n : Nat} (hn : n < 2 ^ 31) (h : ∀ j, j ≤ n → ¬ w = nI j) : ¬ (nI 0 ≤ w ∧ w ≤ nI n) := fun z => by
  obtain ⟨h1, h2⟩ := ix_of hn z
  exact h _ h1 h2
theorem trait_of {w v : Int32} (h : tLow w ≤ v ∧ v ≤ tTop w) : ∃ j, j < 3 ∧ w = nI j := by
  by_cases h0 : w = nI 0
  · exact ⟨0, by decide, h0⟩
  by_cases h1 : w = nI 1
  · exact ⟨1, by decide, h1⟩
  by_cases h2 : w = nI 2
  · exact ⟨2, by decide, h2⟩
  unfold tLow tTop at h
  rw [if_neg h2, if_neg h0, if_neg h1, if_neg h2] at h
  exact absurd (Int32.le_trans h.1 h.2) (by decide +kernel)
theorem row_val {G : GG} {i : Nat} {μ : MU} (hC : CR G i μ) {t j : Nat} (ht : t < 10) (hj : j < 3) : G (ch i (5 + j)) t = μ (40 + 3 * t + j) := by
  rcases (show j = 0 ∨ j = 1 ∨ j = 2 by omega) with rfl | rfl | rfl
  · exact (hC.2.2.1 t ht).1
  · rw [show 40 + 3 * t + 1 = 41 + 3 * t by omega]; exact (hC.2.2.1 t ht).2.1
  · rw [show 40 + 3 * t + 2 = 42 + 3 * t by omega]; exact (hC.2.2.1 t ht).2.2
theorem row_set {G : GG} {i : Nat} {μ : MU} (hC : CR G i μ) {t j : Nat} (ht : t < 10) (hj : j < 3) (v : Int32) : CR (up G (ch i (5 + j)) t v) i (upd μ (40 + 3 * t + j) v) := by
  rcases (show j = 0 ∨ j = 1 ∨ j = 2 by omega) with rfl | rfl | rfl
  · exact hC.kin ht v
  · rw [show 40 + 3 * t + 1 = 41 + 3 * t by omega]; exact hC.foo ht v
  · rw [show 40 + 3 * t + 2 = 42 + 3 * t by omega]; exact hC.put ht v
theorem b_le {b : Nat} {μ : MU} (h : Inv b μ) (hb : b < 2 ^ 30) : cl (μ 9) ≤ 35 := by
  obtain ⟨m, hm1, hm2, hm3⟩ := h.1
  rw [hm3]
  split
  · rw [cl_nI (by omega)]; omega
  · rw [cl_nI (by decide)]; exact Nat.le_refl _
theorem ix_pred {x : Int32} {n : Nat} (hn : n < 2 ^ 30) (h : nI 0 ≤ x ∧ x ≤ nI n - nI 1) : cl x < n ∧ x = nI (cl x) := by
  rcases sub_cases (a := n) (b := 1) hn (by decide) with ⟨q1, q2⟩ | ⟨q1, q2⟩
  · rw [q2] at h
    obtain ⟨h1, h2⟩ := ix_of (by omega) h
    exact ⟨by omega, h2⟩
  · exact absurd (Int32.lt_of_le_of_lt (Int32.le_trans h.1 h.2) q2) Int32.lt_irrefl
theorem nz_of {n : Nat} (hn : n < 2 ^ 31) (h : nI n = 0) : n = 0 := by
  rw [← nI_0] at h
  exact (nI_eq hn (by decide)).mp h
