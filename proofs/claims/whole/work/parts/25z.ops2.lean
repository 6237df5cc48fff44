/-! what lies ahead: searches -/
def fsF (P : Nat → Bool) : Nat → Option Nat
  | 0 => none
  | k + 1 => match fsF P k with
    | some n => some n
    | none => if P k = true then some k else none
theorem fsF_none {P : Nat → Bool} : ∀ (m : Nat), (∀ j, j < m → P j = false) → fsF P m = none
  | 0, _ => rfl
  | m + 1, h => by
    simp only [fsF]
    rw [fsF_none m (fun j hj => h j (by omega))]
    simp [h m (by omega)]
theorem fsF_some {P : Nat → Bool} {k : Nat} (hk : P k = true) (hp : ∀ j, j < k → P j = false) : ∀ (m : Nat), k < m → fsF P m = some k
  | 0, h => absurd h (by omega)
  | m + 1, h => by
    simp only [fsF]
    by_cases e : k = m
    · subst e
      rw [fsF_none k hp]
      simp [hk]
    · rw [fsF_some hk hp m (by omega)]
def tlO (μ : MU) (o : Option Nat) : OUT := match o with
  | some k => .inr (nI k, μ)
  | none => .inl 3
def tlP (ν : MU) (f n : Nat) : Bool := lkB (goF ν n).2 f
def oWhen (μ : MU) (f : Int32) : OUT := if nI 0 ≤ f ∧ f ≤ nI 9 then (if nI 99999 - nI 350 < μ 0 then .inl 4 else tlO μ (fsF (tlP μ (cl f)) 351)) else .inl 0
def onM (μ : MU) (t : Nat) : MU := upd (swM μ 0 t) 8 (nI 1)
def oTimes (μ : MU) (t : Int32) : OUT := if tsB μ t = true then (if nI 99999 - nI 99 < μ 0 then .inl 4 else tlO μ (fsF (tlP (onM μ (cl t)) (cl (μ (41 + 3 * cl t)))) 100)) else .inl 0
def mnF (μ : MU) : Nat → Int32
  | 0 => nI 0
  | k + 1 => if lkB μ k = true then mnF μ k + nI 1 else mnF μ k
theorem bc_ls (μ : MU) : bcF (lsF μ 10) = mnF μ 10 := by
  simp only [lsF, mnF]
  generalize lkB μ 0 = b0
  generalize lkB μ 1 = b1
  generalize lkB μ 2 = b2
  generalize lkB μ 3 = b3
  generalize lkB μ 4 = b4
  generalize lkB μ 5 = b5
  generalize lkB μ 6 = b6
  generalize lkB μ 7 = b7
  generalize lkB μ 8 = b8
  generalize lkB μ 9 = b9
  revert b0 b1 b2 b3 b4 b5 b6 b7 b8 b9
  decide +kernel
theorem mn_nn (μ : MU) : ∀ k, nn (mnF μ k) k
  | 0 => nn_mk (Nat.le_refl 0)
  | k + 1 => by
    obtain ⟨n, h1, h2⟩ := mn_nn μ k
    unfold mnF
    split
    · rw [h2, nI_add]; exact nn_mk (by omega)
    · exact ⟨n, by omega, h2⟩
theorem go_nn {b : Nat} {μ : MU} (h : Inv b μ) : ∀ (n : Nat), b + n < 2 ^ 29 → nn (goF μ n).1 (20 * n)
  | 0, _ => nn_mk (Nat.le_refl 0)
  | n + 1, hn => by
    obtain ⟨a, h1, h2⟩ := go_nn h n (by omega)
    obtain ⟨c, h3, h4⟩ := ((h.go n (by omega)).step (by omega)).2
    show nn ((goF μ n).1 + (stepF (goF μ n).2).1) _
    rw [h2, h4, nI_add]
    exact nn_mk (by omega)
def loww (w : Nat) : Nat := if w = 2 then 1 else 0
def hiw (w : Nat) : Nat := if w = 0 then 6 else if w = 1 then 9 else 20
theorem low_eq {w : Nat} (hw : w < 3) : tLow (nI w) = nI (loww w) := by
  have key : ∀ w, w < 3 → tLow (nI w) = nI (loww w) := by decide +kernel
  exact key w hw
theorem top_eq {w : Nat} (hw : w < 3) : tTop (nI w) = nI (hiw w) := by
  have key : ∀ w, w < 3 → tTop (nI w) = nI (hiw w) := by decide +kernel
  exact key w hw
theorem lh_le {w : Nat} (hw : w < 3) : loww w ≤ 1 ∧ loww w ≤ hiw w ∧ hiw w ≤ 20 := by
  have key : ∀ w, w < 3 → loww w ≤ 1 ∧ loww w ≤ hiw w ∧ hiw w ≤ 20 := by decide
  exact key w hw
def bsS (s : Nat → Int32) (lo : Nat) : Nat → Int32 × Int32
  | 0 => (-1, -1)
  | k + 1 => if (bsS s lo k).2 < s (lo + k) then (nI (lo + k), s (lo + k)) else bsS s lo k
def scW (μ : MU) (n t w v : Nat) : Int32 := if w = 2 then (goF (upd μ (40 + 3 * t + w) (nI v)) n).1 else mnF (goF (upd μ (40 + 3 * t + w) (nI v)) n).2 10
def oBest (μ : MU) (t n : Int32) (w : Nat) : OUT := if tsB μ t = true ∧ nI 1 ≤ n ∧ n ≤ nI 175 then (if nI 99999 - n < μ 0 then .inl 4 else .inr ((bsS (scW μ (cl n) (cl t) w) (loww w) (hiw w + 1 - loww w)).1, μ)) else .inl 0
theorem Inv.row {b : Nat} {μ : MU} (h : Inv b μ) {t w v : Nat} (ht : t < 10) (hw : w < 3) (h1 : loww w ≤ v) (h2 : v ≤ hiw w) : Inv b (upd μ (40 + 3 * t + w) (nI v)) := by
  rcases (show w = 0 ∨ w = 1 ∨ w = 2 by omega) with rfl | rfl | rfl
  · exact h.kin ht (nn_mk h2)
  · rw [show 40 + 3 * t + 1 = 41 + 3 * t by omega]; exact h.foo ht (nn_mk h2)
  · rw [show 40 + 3 * t + 2 = 42 + 3 * t by omega]; exact h.put ht (nn_mk h2)
def oPaid (μ : MU) (n : Int32) : OUT := if nI 0 ≤ n ∧ n ≤ nI 175 then (if nI 99999 - n < μ 0 then .inl 4 else if μ 6 < nI 0 then .inl 3 else .inr ((goF μ (cl n)).2 (10 + 3 * cl (μ 6)) - (goF (prM μ (cl (μ 8))) (cl n)).2 (10 + 3 * cl (μ 6)), μ)) else .inl 0
def wyP (μ : MU) (j : Nat) : Bool := shortF (goF μ (j + 1)).2
def oWorry (μ : MU) : OUT := if nI 99999 - nI 175 < μ 0 then .inl 4 else match fsF (wyP μ) 175 with
  | some j => .inr (nI (j + 1), μ)
  | none => .inl 3
def lbF (μ : MU) (n : Nat) : Int32 := mnF (goF μ n).2 10
def odB (μ : MU) (n a : Nat) (s : Int32 × Int32) : Nat → Int32 × Int32
  | 0 => s
  | k + 1 => if (odB μ n a s k).1 < lbF (swM μ a (a + 1 + k)) n then (lbF (swM μ a (a + 1 + k)) n, nI (10 * a + (a + 1 + k))) else odB μ n a s k
def odA (μ : MU) (n z : Nat) : Nat → Int32 × Int32
  | 0 => (lbF μ n, -1)
  | a + 1 => odB μ n a (odA μ n z a) (z - (a + 1))
def oOrder (μ : MU) (n : Int32) : OUT := if nI 1 ≤ n ∧ n ≤ nI 70 then (if nI 99999 - n < μ 0 then .inl 4 else if (odA μ (cl n) (cl (μ 8)) (cl (μ 8))).2 < nI 0 then .inl 3 else .inr ((odA μ (cl n) (cl (μ 8)) (cl (μ 8))).2, μ)) else .inl 0
def chF (μ : MU) (f t : Nat) : Nat → Int32 × MU
  | 0 => (nI 0, μ)
  | k + 1 => (if lkB (goF (chF μ f t k).2 t).2 f = true then (chF μ f t k).1 + nI 1 else (chF μ f t k).1, upd (chF μ f t k).2 1 ((goF (chF μ f t k).2 t).2 1))
def oChance (μ : MU) (f n t : Int32) : OUT := if (nI 0 ≤ f ∧ f ≤ nI 9) ∧ (nI 1 ≤ n ∧ n ≤ nI 20) ∧ nI 0 ≤ t ∧ t ≤ nI 70 then (if nI 99999 - t < μ 0 then .inl 4 else .inr (chF μ (cl f) (cl t) (cl n))) else .inl 0
theorem ch_inv {b : Nat} {μ : MU} (h : Inv b μ) (f t : Nat) : ∀ k, Inv b (chF μ f t k).2
  | 0 => h
  | k + 1 => (ch_inv h f t k).z
theorem tl_none {μ : MU} {P : Nat → Bool} {m : Nat} (h : ∀ j, j < m → P j = false) : tlO μ (fsF P m) = .inl 3 := by rw [fsF_none m h]; rfl
theorem tl_some {μ : MU} {P : Nat → Bool} {m k : Nat} (hk : P k = true) (h : ∀ j, j < k → P j = false) (hm : k < m) : tlO μ (fsF P m) = .inr (nI k, μ) := by rw [fsF_some hk h m hm]; rfl
theorem co_tr {G G1 G' : GG} {μ : MU} {o o' : OUT} {v : Int32} (ho : o = o') (hF : Fr 1 G G1) (h : CO G1 μ o' v G') : CO G μ o v G' := by
  subst ho
  have e : ∀ c, 20 ≤ c → G1 c = G c := fr_T hF fr0
  cases o with
  | inl k => exact ⟨h.1, h.2.1, by rw [← e 46 (by decide)]; exact h.2.2.1, fun c h1 h2 => (h.2.2.2 c h1 h2).trans (e c h1)⟩
  | inr q => exact ⟨h.1, h.2.1, fun c h1 => (h.2.2 c h1).trans (e c h1)⟩
theorem on_inv {b : Nat} {μ : MU} (h : Inv b μ) {t : Nat} (ht : t < 10) : Inv b (onM μ t) := (h.sw (by decide) ht).size (by decide)
