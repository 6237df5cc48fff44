/-! the reference's own forms of what the class computes -/
theorem frS_r {x : Int32} {f : Nat} (hx : nn x 1023) (hf : f < 10) : decide ((x >>> (nI f &&& 31)) &&& nI 1 = nI 1) = frS x f := by
  obtain ⟨w, hw, rfl⟩ := hx
  have key : ∀ f, f < 10 → ∀ w, w < 1024 → decide ((nI w >>> (nI f &&& 31)) &&& nI 1 = nI 1) = frS (nI w) f := by decide +kernel
  exact key f hf w (by omega)
theorem sub86 (a : Int32) : a - nI 8 + nI 2 = a - nI 6 := by
  rw [Int32.sub_eq_add_neg, Int32.sub_eq_add_neg, Int32.add_assoc]
  congr 1
/-- a meal's taste as the reference tells it: -1 where there is none -/
def oI : Option Nat → Int32
  | none => -1
  | some t => nI t
theorem nI_pos3 {j : Nat} (h : 0 < j) (hj : j < 2 ^ 31) : ¬ nI j ≤ 0 := fun q => by
  rw [← nI_0] at q
  exact absurd ((nI_leI hj (by decide)).mp q) (by omega)
