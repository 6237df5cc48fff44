theorem RdM.cs {G0 G : GG} {T : MU} {n : Nat} {o : Rd} (h : RdM G0 G T n o) : ∃ (q : Nat) (bd : Bool) (ν : MU), RS G0 G T n q bd ν ∧ (bd = true → o = .inl q) ∧ (bd = false → o = .inr (q, ν)) := by
  match o, h with
  | .inl q, ⟨ν, h⟩ => exact ⟨q, true, ν, h, fun _ => rfl, fun z => absurd z (by decide)⟩
  | .inr (q, ν), h => exact ⟨q, false, ν, h, fun z => absurd z (by decide), fun _ => rfl⟩
theorem kd_item {T : MU} {n p : Nat} {μ : MU} (w0 : wdB T n p 0 = false) (w1 : wdB T n p 1 = false) (w2 : wdB T n p 2 = false) (w3 : wdB T n p 3 = false) (w11 : wdB T n p 11 = false) (w15 : wdB T n p 15 = false) (w16 : wdB T n p 16 = false) :
    (kdF T n p 7 < 0 ∧ itemF T n p μ = .inl p) ∨ (∃ kd, kd < 7 ∧ kdF T n p 7 = nI kd ∧ ¬ srt T n p = 0 ∧ itemF T n p μ = tasteF T n p μ kd) := by
  have hk := kd_c T n p 7 (by decide)
  by_cases h : kdF T n p 7 < 0
  · refine Or.inl ⟨h, item_no (fun i hi hn => ?_)⟩
    by_cases a : 4 ≤ i ∧ i < 11
    · have := hk.1 h (i - 4) (by omega) (by omega)
      rw [show 4 + (i - 4) = i by omega] at this
      exact this
    · rcases (show i = 0 ∨ i = 1 ∨ i = 2 ∨ i = 3 ∨ i = 11 ∨ i = 15 ∨ i = 16 by omega) with rfl | rfl | rfl | rfl | rfl | rfl | rfl
      · exact w0
      · exact w1
      · exact w2
      · exact w3
      · exact w11
      · exact w15
      · exact w16
  · obtain ⟨j, hj, e1, e2⟩ := hk.2 h
    refine Or.inr ⟨j, hj, e1, by rw [wd_srt e2]; decide, ?_⟩
    rw [item_at (by omega) e2]
    unfold itemW
    rw [if_neg (by omega), if_pos (by omega), show 4 + j - 4 = j by omega]
