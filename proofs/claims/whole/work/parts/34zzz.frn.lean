/-! the reference's meals change its row m (cell 48) alone; what was kept (cell 50) stays -/
def FrN (G G' : GG) : Prop := ∀ c, ¬ c = 48 → G' c = G c
theorem FrN.rf {G : GG} : FrN G G := fun _ _ => rfl
theorem FrN.tr {G G1 G2 : GG} (h1 : FrN G G1) (h2 : FrN G1 G2) : FrN G G2 := fun c a => (h2 c a).trans (h1 c a)
theorem FrN.up {G G1 : GG} {k : Nat} {v : Int32} (h : FrN G G1) : FrN G (up G1 48 k v) := fun c a => (funext (fun j => up_ne (by omega))).trans (h c a)
theorem FrN.M {G G1 : GG} (h : FrN G G1) : FrM G G1 := fun c a _ => h c a
theorem FrN.upc {G G1 : GG} {f : Nat → Int32} (h : FrN G G1) : FrN G (upc G1 48 f) := fun c a => by
  refine Eq.trans ?_ (h c a)
  simp [Jvm.Pilot.CPeaSpoonsLaw_law_r1469_87ba7e.upc, a]
/-- what was kept -/
def WS (G : GG) (μ : MU) : Prop := ∀ k, k < 115 → G 50 k = μ k
theorem WS.n {G G' : GG} {μ : MU} (h : WS G μ) (hF : FrN G G') : WS G' μ := fun k hk => by rw [hF 50 (by decide)]; exact h k hk
theorem sv_ok {G : GG} {μ : MU} (hM : MR G μ) : MR (upc G 50 (rwK (G 48) (G 50) 115)) μ ∧ WS (upc G 50 (rwK (G 48) (G 50) 115)) μ ∧ FrM G (upc G 50 (rwK (G 48) (G 50) 115)) := by
  refine ⟨fun k hk => ?_, fun k hk => ?_, FrM.rf.was⟩
  · simp only [upc]
    exact hM k hk
  · simp only [upc, if_true, rwK]
    rw [if_pos hk]
    exact hM k hk
theorem ld_ok {G : GG} {μ : MU} (hW : WS G μ) : MR (upc G 48 (rwK (G 50) (G 48) 115)) μ ∧ WS (upc G 48 (rwK (G 50) (G 48) 115)) μ ∧ FrN G (upc G 48 (rwK (G 50) (G 48) 115)) := by
  refine ⟨fun k hk => ?_, fun k hk => ?_, FrN.rf.upc⟩
  · simp only [upc, if_true, rwK]
    rw [if_pos hk]
    exact hW k hk
  · simp only [upc]
    exact hW k hk
