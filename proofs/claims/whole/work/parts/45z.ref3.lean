/-! the reference: spots, sheets, images, bytes -/
/-- what the spots hold -/
def SpI (μ : MU) : Prop := ∀ k, k < 10 → μ (70 + k) = -1 ∨ tsB μ (μ (70 + k)) = true
def rk (j : Nat) : Nat := if j = 0 then 1 else if j = 3 then 3 else if j = 5 then 3 else 2
def nxk (j : Nat) : Nat := if j = 3 then 2 else if j = 5 then 4 else 0
theorem rk_b (j : Nat) : 1 ≤ rk j ∧ rk j ≤ 3 := by
  unfold rk
  split
  · omega
  · split
    · omega
    · split <;> omega
theorem kab_n : ∀ j, j < 7 → (j = 0 ∧ kab j = -1) ∨ (kab j = nI (nxk j) ∧ nxk j < 7 ∧ rk (nxk j) + 1 ≤ rk j) := by decide +kernel
theorem ud_s {v j : Nat} {y : Int32} (hj : j < 7) (h : ¬ nI j = y) : udF (v + 1) (nI j) y = udF v (kab j) y := by
  rw [udF, if_pos ⟨nI_le (Nat.zero_le _) (by omega), nI_le (by omega) (by decide)⟩, if_neg h, cl_nI (by omega)]
theorem ud_t {v j : Nat} (hj : j < 7) : udF (v + 1) (nI j) (nI j) = true := by
  rw [udF, if_pos ⟨nI_le (Nat.zero_le _) (by omega), nI_le (by omega) (by decide)⟩, if_pos rfl]
theorem ud_n {u : Nat} {y : Int32} : udF u (-1) y = false := by
  cases u with
  | zero => rfl
  | succ v => rw [udF, if_neg (fun q => absurd q.1 (by decide +kernel))]
/-! sheets -/
def SRM (G : GG) (B Z N : MU) : Prop := (∀ s, s < 4 → G 53 s = B s ∧ G 54 s = Z s) ∧ ∀ j, j < 160 → G 55 j = N j
theorem SRM.b {G : GG} {B Z N : MU} (h : SRM G B Z N) (s : Nat) (v : Int32) : SRM (up G 53 s v) (upd B s v) Z N :=
  ⟨fun x hx => ⟨by
    by_cases e : x = s
    · subst e; rw [up_eq, upd_eq]
    · rw [up_ne (by omega), upd_ne e]; exact (h.1 x hx).1, (up_ne (by omega)).trans (h.1 x hx).2⟩, fun j hj => (up_ne (by omega)).trans (h.2 j hj)⟩
theorem SRM.z {G : GG} {B Z N : MU} (h : SRM G B Z N) (s : Nat) (v : Int32) : SRM (up G 54 s v) B (upd Z s v) N :=
  ⟨fun x hx => ⟨(up_ne (by omega)).trans (h.1 x hx).1, by
    by_cases e : x = s
    · subst e; rw [up_eq, upd_eq]
    · rw [up_ne (by omega), upd_ne e]; exact (h.1 x hx).2⟩, fun j hj => (up_ne (by omega)).trans (h.2 j hj)⟩
theorem SRM.n {G : GG} {B Z N : MU} (h : SRM G B Z N) (s : Nat) (v : Int32) : SRM (up G 55 s v) B Z (upd N s v) :=
  ⟨fun x hx => ⟨(up_ne (by omega)).trans (h.1 x hx).1, (up_ne (by omega)).trans (h.1 x hx).2⟩, fun j hj => by
    by_cases e : j = s
    · subst e; rw [up_eq, upd_eq]
    · rw [up_ne (by omega), upd_ne e]; exact h.2 j hj⟩
theorem SRM.cg {G : GG} {B Z N N' : MU} (h : SRM G B Z N) (e : N = N') : SRM G B Z N' := e ▸ h
def FrS (G G' : GG) : Prop := ∀ c, ¬ c = 53 → ¬ c = 54 → ¬ c = 55 → G' c = G c
theorem FrS.rf {G : GG} : FrS G G := fun _ _ _ _ => rfl
theorem FrS.up {G G1 : GG} {c k : Nat} {v : Int32} (h : FrS G G1) (hc : c = 53 ∨ c = 54 ∨ c = 55) : FrS G (up G1 c k v) := fun x a1 a2 a3 => (funext (fun j => up_ne (by omega))).trans (h x a1 a2 a3)
def SOM (G : GG) (o : SOUT) (v : Int32) (G' : GG) : Prop := match o with
  | .inl k => FOM G k v G'
  | .inr q => v = q.1 ∧ SRM G' q.2.1 q.2.2.1 q.2.2.2 ∧ FrS G G'
theorem SOM.fin {G G' : GG} {o : SOUT} {v : Int32} {k : Nat} (ho : o = .inl k) (h : FOM G k v G') : SOM G o v G' := by
  subst ho
  exact h
theorem SOM.ok {G G' : GG} {o : SOUT} {v w : Int32} {B Z N : MU} (ho : o = .inr (w, B, Z, N)) (hv : v = w) (h : SRM G' B Z N) (hF : FrS G G') : SOM G o v G' := by
  subst ho
  exact ⟨hv, h, hF⟩
def zrN (N : MU) (s k : Nat) : MU := fun j => if 40 * s ≤ j ∧ j < 40 * s + k then nI 0 else N j
theorem zr_0 {N : MU} {s : Nat} : N = zrN N s 0 := by
  funext j
  unfold zrN
  rw [if_neg (by omega)]
theorem zr_s {N : MU} {s k : Nat} : upd (zrN N s k) (40 * s + k) (nI 0) = zrN N s (k + 1) := by
  funext j
  by_cases e : j = 40 * s + k
  · subst e
    rw [upd_eq]
    unfold zrN
    rw [if_pos (by omega)]
  · rw [upd_ne e]
    unfold zrN
    by_cases h : 40 * s ≤ j ∧ j < 40 * s + k
    · rw [if_pos h, if_pos (by omega)]
    · rw [if_neg h, if_neg (by omega)]
theorem sub_sw {z : Nat} (hz : z ≤ 40) {a c : Int32} (ha : nI 0 ≤ a) (hc : nI 0 ≤ c) : c ≤ nI z - a ↔ a ≤ nI z - c := by
  obtain ⟨i, i1, rfl⟩ := nI_nn (Int32.not_lt.mpr ha)
  obtain ⟨j, j1, rfl⟩ := nI_nn (Int32.not_lt.mpr hc)
  rw [Int32.le_iff_toInt_le, Int32.le_iff_toInt_le, Int32.toInt_sub, Int32.toInt_sub, nI_toInt (show z < 2 ^ 31 by omega), nI_toInt i1, nI_toInt j1, Int.bmod_eq_of_le (by omega) (by omega), Int.bmod_eq_of_le (by omega) (by omega)]
  omega
/-- k of n numbers copied from S on to T on, from the end on if ub -/
def cpN (N : MU) (S T n : Nat) (ub : Bool) (k : Nat) : MU := fun p => if ub = true then (if T + (n - k) ≤ p ∧ p < T + n then N (S + (p - T)) else N p) else (if T ≤ p ∧ p < T + k then N (S + (p - T)) else N p)
theorem cp_0 {N : MU} {S T n : Nat} {ub : Bool} : N = cpN N S T n ub 0 := by
  funext p
  unfold cpN
  cases ub with
  | true => rw [if_pos rfl, if_neg (by omega)]
  | false => rw [if_neg (by decide), if_neg (by omega)]
theorem cp_n {N : MU} {S T n : Nat} {ub : Bool} : cpN N S T n ub n = fun p => if T ≤ p ∧ p < T + n then N (S + (p - T)) else N p := by
  funext p
  unfold cpN
  cases ub with
  | true => rw [if_pos rfl, show T + (n - n) = T by omega]
  | false => rw [if_neg (by decide)]
theorem cp_t {N : MU} {S T n k : Nat} (hk : k < n) : upd (cpN N S T n true k) (T + (n - 1 - k)) (N (S + (n - 1 - k))) = cpN N S T n true (k + 1) := by
  funext p
  by_cases e : p = T + (n - 1 - k)
  · subst e
    rw [upd_eq]
    unfold cpN
    rw [if_pos rfl, if_pos (by omega), show T + (n - 1 - k) - T = n - 1 - k by omega]
  · rw [upd_ne e]
    unfold cpN
    rw [if_pos rfl, if_pos rfl]
    by_cases h : T + (n - k) ≤ p ∧ p < T + n
    · rw [if_pos h, if_pos (by omega)]
    · rw [if_neg h, if_neg (by omega)]
theorem cp_f {N : MU} {S T n k : Nat} : upd (cpN N S T n false k) (T + k) (N (S + k)) = cpN N S T n false (k + 1) := by
  funext p
  by_cases e : p = T + k
  · subst e
    rw [upd_eq]
    unfold cpN
    rw [if_neg (by decide), if_pos (by omega), show T + k - T = k by omega]
  · rw [upd_ne e]
    unfold cpN
    have hft : ¬ (false = true) := by decide
    rw [if_neg hft, if_neg hft]
    by_cases h : T ≤ p ∧ p < T + k
    · rw [if_pos h, if_pos (by omega)]
    · rw [if_neg h, if_neg (by omega)]
theorem cp_rt {N : MU} {S T n k : Nat} (h : S < T) (hk : k < n) : cpN N S T n true k (S + (n - 1 - k)) = N (S + (n - 1 - k)) := by
  unfold cpN
  rw [if_pos rfl, if_neg (by omega)]
theorem cp_rf {N : MU} {S T n k : Nat} (h : T ≤ S ∨ S + n ≤ T) (hk : k < n) : cpN N S T n false k (S + k) = N (S + k) := by
  unfold cpN
  rw [if_neg (by decide), if_neg (by omega)]
/-! images -/
def KM (G : GG) (κ : MU) : Prop := ∀ k, k < 115 → G 49 k = κ k
/-! bytes -/
theorem up_upcG {G : GG} {f : MU} {c d j k : Nat} {a b v : Int32} (hcd : ¬ c = d) : up (up (up (upc G c f) d j a) c k v) d j b = up (upc G c (upd f k v)) d j b := by
  funext x i
  by_cases h : x = d ∧ i = j
  · obtain ⟨rfl, rfl⟩ := h
    rw [up_eq, up_eq]
  · rw [up_ne h, up_ne h]
    by_cases h2 : x = c
    · subst h2
      by_cases h3 : i = k
      · subst h3
        rw [up_eq]
        simp [upc, upd]
      · rw [up_ne (fun q => h3 q.2), up_ne (fun q => hcd q.1)]
        simp [upc, upd, h3]
    · rw [up_ne (fun q => h2 q.1), up_ne h]
      simp [upc, h2]
theorem sh_bits (x : BitVec 32) (s : Nat) (hs : s ≤ 24) : (x.sshiftRight s) &&& 255#32 = (x >>> s) &&& 255#32 := by
  apply BitVec.eq_of_getLsbD_eq
  intro j hj
  rw [BitVec.getLsbD_and, BitVec.getLsbD_and]
  by_cases h : j < 8
  · have e : (x.sshiftRight s).getLsbD j = (x >>> s).getLsbD j := by
      rw [BitVec.getLsbD_sshiftRight, BitVec.getLsbD_ushiftRight]
      have h1 : ¬ 32 ≤ j := by omega
      have h2 : s + j < 32 := by omega
      simp [h1, h2]
    rw [e]
  · have e : (255#32).getLsbD j = false := by
      have key : ∀ j, j < 32 → ¬ j < 8 → (255#32).getLsbD j = false := by decide
      exact key j hj h
    rw [e, Bool.and_false, Bool.and_false]
theorem by_r (b : Int32) {i : Nat} (hi : i < 4) : (b >>> ((nI 8 * nI i) &&& 31)) &&& nI 255 = byF b i := by
  unfold byF
  apply Int32.toBitVec_inj.mp
  have hu : (b.toUInt32 >>> ((nI 8 * nI i).toUInt32 &&& Int32.toUInt32 31)).toInt32.toBitVec = b.toBitVec >>> (8 * i) := by
    have key : ∀ i, i < 4 → (((nI 8 * nI i).toUInt32 &&& Int32.toUInt32 31).toBitVec % 32).toNat = 8 * i := by decide +kernel
    show b.toBitVec >>> (((nI 8 * nI i).toUInt32 &&& Int32.toUInt32 31).toBitVec % 32) = _
    rw [← key i hi]
    rfl
  have hs : (b >>> ((nI 8 * nI i) &&& 31)).toBitVec = b.toBitVec.sshiftRight (8 * i) := by
    have key : ∀ i, i < 4 → (((nI 8 * nI i) &&& 31).toBitVec.smod 32).toNat = 8 * i := by decide +kernel
    show BitVec.sshiftRight' b.toBitVec (((nI 8 * nI i) &&& 31).toBitVec.smod 32) = _
    rw [← key i hi]
    rfl
  rw [Int32.toBitVec_and, Int32.toBitVec_and, hu, hs]
  exact sh_bits _ _ (by omega)
