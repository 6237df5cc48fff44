/-! spots, sheets, images, the tape's bytes -/
def oHold (μ : MU) (s t : Int32) : OUT := if (nI 0 ≤ s ∧ s ≤ nI 9) ∧ (t = -1 ∨ tsB μ t = true) then .inr (nI 1, upd μ (70 + cl s) t) else .inl 0
def udF : Nat → Int32 → Int32 → Bool
  | 0, _, _ => false
  | n + 1, k, y => if nI 0 ≤ k ∧ k ≤ nI 6 then (if k = y then true else udF n (kab (cl k)) y) else false
def oAs (μ : MU) (s k : Int32) : OUT := if (nI 0 ≤ s ∧ s ≤ nI 9) ∧ nI 0 ≤ k ∧ k ≤ nI 6 then (if tsB μ (μ (70 + cl s)) = true then (if udF 7 (μ (40 + 3 * cl (μ (70 + cl s)))) k = true then .inr (μ (70 + cl s), μ) else .inl 2) else .inl 5) else .inl 0
/-- a simple finding: nothing else changed -/
def FO (G : GG) (k : Nat) (v : Int32) (G' : GG) : Prop := v = FK k ∧ G' = up G 46 k (G 46 k + nI 1)
theorem FO.CO {G G' : GG} {μ : MU} {o : OUT} {v : Int32} {k : Nat} (h : FO G k v G') (ho : o = .inl k) (hC : CR G 0 μ) : CO G μ o v G' := by
  obtain ⟨rfl, rfl⟩ := h
  exact CO.fin ho rfl hC fr0
/-- the sheets hold bits B, sizes Z, numbers N -/
def SR (G : GG) (B Z N : MU) : Prop := ∀ s, s < 4 → G (38 + 2 * s) 1 = B s ∧ G (38 + 2 * s) 2 = Z s ∧ ∀ j, j < 40 → G (38 + 2 * s + 1) j = N (40 * s + j)
abbrev SOUT : Type := Nat ⊕ (Int32 × MU × MU × MU)
def SO (G : GG) (o : SOUT) (v : Int32) (G' : GG) : Prop := match o with
  | .inl k => FO G k v G'
  | .inr q => v = q.1 ∧ SR G' q.2.1 q.2.2.1 q.2.2.2 ∧ ∀ c, (c < 38 ∨ 46 ≤ c) → G' c = G c
theorem SO.fin {G : GG} {o : SOUT} {v : Int32} {k : Nat} (ho : o = .inl k) (hv : v = FK k) : SO G o v (up G 46 k (G 46 k + nI 1)) := by
  subst ho
  exact ⟨hv, rfl⟩
def oSheet (B Z N : MU) (s b n : Int32) : SOUT :=
  if (nI 0 ≤ s ∧ s ≤ nI 3) ∧ (b = nI 0 ∨ b = nI 8 ∨ b = nI 16 ∨ b = nI 32) then
    (if n < nI 0 then .inl 6 else if nI 40 < n then .inl 0
     else .inr (if b = nI 0 then nI 0 else n, upd B (cl s) b, upd Z (cl s) (if b = nI 0 then nI 0 else n), fun k => if 40 * cl s ≤ k ∧ k < 40 * cl s + 40 then nI 0 else N k))
  else .inl 0
def oWrite (B Z N : MU) (s i v : Int32) : SOUT :=
  if nI 0 ≤ s ∧ s ≤ nI 3 then
    (if B (cl s) = nI 0 then .inl 5 else if nI 0 ≤ i ∧ i ≤ Z (cl s) - nI 1 then .inr (nI 1, B, Z, upd N (40 * cl s + cl i) (narS (B (cl s)) v)) else .inl 0)
  else .inl 0
def oCopy (B Z N : MU) (s x t y n : Int32) : SOUT :=
  if (nI 0 ≤ s ∧ s ≤ nI 3) ∧ nI 0 ≤ t ∧ t ≤ nI 3 then
    (if B (cl s) = nI 0 ∨ B (cl t) = nI 0 then .inl 5 else if ¬ B (cl s) = B (cl t) then .inl 2
     else if (nI 0 ≤ x ∧ nI 0 ≤ n ∧ x ≤ Z (cl s) - n) ∧ nI 0 ≤ y ∧ nI 0 ≤ n ∧ y ≤ Z (cl t) - n then
       .inr (n, B, Z, fun k => if 40 * cl t + cl y ≤ k ∧ k < 40 * cl t + cl y + cl n then N (40 * cl s + cl x + (k - (40 * cl t + cl y))) else N k)
     else .inl 0)
  else .inl 0
def SInv (Z : MU) : Prop := ∀ s, s < 4 → nn (Z s) 40
def ldP (N : MU) (s j : Nat) : Bool := decide (¬ (nI 0 ≤ N (40 * s + j) ∧ N (40 * s + j) ≤ nI 99))
def ldM (μ N : MU) (s : Nat) : Nat → MU
  | 0 => μ
  | k + 1 => upd (ldM μ N s k) (10 + 3 * k) (N (40 * s + k))
def gdN (o : Option Nat) (m : Nat) : Nat := match o with
  | some k => k
  | none => m
def ldK (Z N : MU) (s : Nat) : Nat := gdN (fsF (ldP N s) (min (cl (Z s)) 10)) (min (cl (Z s)) 10)
def oLoad (μ B Z N : MU) (s : Int32) : OUT := if nI 0 ≤ s ∧ s ≤ nI 3 then (if B (cl s) = nI 0 then .inl 5 else .inr (nI (ldK Z N (cl s)), ldM μ N (cl s) (ldK Z N (cl s)))) else .inl 0
def jgP (μ N : MU) (s i : Nat) : Bool := decide (¬ (stepF (goF μ i).2).1 = N (40 * s + i))
def oJudge (μ B Z N : MU) (s : Int32) : OUT := if nI 0 ≤ s ∧ s ≤ nI 3 then (if B (cl s) = nI 0 then .inl 5 else if nI 99999 - Z (cl s) < μ 0 then .inl 4 else match fsF (jgP μ N (cl s)) (cl (Z (cl s))) with
  | some i => .inr (nI 1 + nI i, μ)
  | none => .inr (nI 0, μ)) else .inl 0
def oCount (μ : MU) (n w : Int32) : OUT := if nI 0 ≤ w ∧ w ≤ nI 5 then (if w = nI 0 then .inr (μ 8, μ) else if w = nI 1 then .inr (mnF μ 10, μ) else if w = nI 2 then .inr (trF μ 10, μ) else if w = nI 3 then .inr (n, μ) else if w = nI 4 then .inr (μ 1, μ) else .inr (spF μ 10, μ)) else .inl 0
def stF (f : MU) : Nat → Int32
  | 0 => nI 0
  | k + 1 => stF f k + f k
def byF (b : Int32) (i : Nat) : Int32 := (b.toUInt32 >>> ((nI 8 * nI i).toUInt32 &&& Int32.toUInt32 31)).toInt32 &&& nI 255
def fdT (f : MU) (m : Nat) (b : Int32) (n k : Nat) : MU := fun j => if m ≤ j ∧ j < m + k then byF b (n - 1 - (j - m)) else f j
theorem fdT_s {f : MU} {m n k : Nat} {b : Int32} : upd (fdT f m b n k) (m + k) (byF b (n - 1 - k)) = fdT f m b n (k + 1) := by
  funext j
  unfold fdT
  by_cases e : j = m + k
  · subst e
    rw [upd_eq, if_pos (by omega), show m + k - m = k by omega]
  · rw [upd_ne e]
    by_cases h : m ≤ j ∧ j < m + k
    · rw [if_pos h, if_pos (by omega)]
    · rw [if_neg h, if_neg (by omega)]
theorem ld_ne {μ N : MU} {s : Nat} : ∀ (k j : Nat), (∀ f, f < k → ¬ j = 10 + 3 * f) → ldM μ N s k j = μ j
  | 0, j, _ => rfl
  | k + 1, j, h => by
    unfold ldM
    rw [upd_ne (h k (by omega))]
    exact ld_ne k j (fun f hf => h f (by omega))
theorem sh_set {G : GG} {B Z N : MU} (h : SR G B Z N) {s j : Nat} (hs : s < 4) (hj : j < 40) (v : Int32) : SR (up G (38 + 2 * s + 1) j v) B Z (upd N (40 * s + j) v) := by
  intro x hx
  obtain ⟨h1, h2, h3⟩ := h x hx
  refine ⟨?_, ?_, fun i hi => ?_⟩
  · rw [up_ne (by omega)]; exact h1
  · rw [up_ne (by omega)]; exact h2
  · by_cases e : x = s ∧ i = j
    · obtain ⟨rfl, rfl⟩ := e
      rw [up_eq, upd_eq]
    · rw [up_ne (by omega), upd_ne (by omega)]
      exact h3 i hi
theorem has_of {x n : Int32} {z : Nat} (hz : z ≤ 40) (h : nI 0 ≤ x ∧ nI 0 ≤ n ∧ x ≤ nI z - n) : cl n ≤ 40 ∧ n = nI (cl n) ∧ cl x + cl n ≤ z ∧ x = nI (cl x) := by
  obtain ⟨h1, h2, h3⟩ := h
  obtain ⟨a, a1, rfl⟩ := nI_nn (Int32.not_lt.mpr h1)
  obtain ⟨c, c1, rfl⟩ := nI_nn (Int32.not_lt.mpr h2)
  rw [cl_nI a1, cl_nI c1]
  rcases Nat.lt_or_ge z c with q | q
  · exfalso
    have e : (nI z - nI c).toInt < 0 := by
      rw [Int32.toInt_sub, nI_toInt (by omega), nI_toInt c1, Int.bmod_eq_of_le (by omega) (by omega)]
      omega
    have e2 := Int32.le_iff_toInt_le.mp (Int32.le_trans h1 h3)
    rw [show (nI 0).toInt = 0 from nI_toInt (by decide)] at e2
    omega
  · rw [pk_sub q] at h3
    have := (nI_leI a1 (by omega)).mp h3
    exact ⟨by omega, rfl, by omega, rfl⟩
theorem up_upc2 {G : GG} {f : MU} {k : Nat} {a b v : Int32} : up (up (up (upc G 32 f) 31 1 a) 32 k v) 31 1 b = up (upc G 32 (upd f k v)) 31 1 b := by
  funext c j
  by_cases h : c = 31 ∧ j = 1
  · obtain ⟨rfl, rfl⟩ := h
    rw [up_eq, up_eq]
  · rw [up_ne h, up_ne h]
    by_cases h2 : c = 32
    · subst h2
      by_cases h3 : j = k
      · subst h3
        rw [up_eq]
        simp [upc, upd]
      · rw [up_ne (fun q => h3 q.2), up_ne (by omega)]
        simp [upc, upd, h3]
    · rw [up_ne (fun q => h2 q.1), up_ne h]
      simp [upc, h2]
