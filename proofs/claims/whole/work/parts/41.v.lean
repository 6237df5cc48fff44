set_option maxRecDepth 100000 in
set_option maxHeartbeats 4000000 in
theorem c_X6_served (l : Launch) (Γ : Gam) (G : GG) (μ : MU) (hM : MR G μ) (b : Nat) (hV : Inv b μ) (hb : b < 2 ^ 30) : Sp l yX6_served cX6_served 1 (some .int) 0 0 [.ref (gad Γ 47)] Γ G (eI G (oI (servN μ))) := by
  refine Sp_of (own := RX6) rfl (by decide +kernel) rfl (Nat.le_of_ble_eq_true rfl) (fun X hX hR => ?_)
  show WP X Γ 0 [some (.ref (gad Γ 47))] [] G
  refine r_aload0 hX dX6_served_0 (q := 1) rfl ?_
  refine r_getR hX dX6_served_1 (q := 4) rfl fX6_9 rfl ⟨by decide, by decide, rfl⟩ ?_
  refine r_bipush hX dX6_served_4 (q := 6) rfl (v := nI 8) (by decide +kernel) ?_
  refine r_ialdN hX dX6_served_6 (q := 7) rfl rfl (by repeat' (first | assumption | with_reducible exact rfl | refine e_add ?_ ?_ | refine e_mul ?_ ?_)) (by first | assumption | omega) (by first | decide | omega) ?_
  rw [hM 8 (by decide)]
  refine r_if_ne hX dX6_served_7 (q := 10) rfl (tgt := 14) (by decide) (fun h7 => ?_) (fun h7 => ?_)
  ·
    refine r_aload0 hX dX6_served_14 (q := 15) rfl ?_
    refine r_getR hX dX6_served_15 (q := 18) rfl fX6_9 rfl ⟨by decide, by decide, rfl⟩ ?_
    refine r_iconst hX dX6_served_18 (q := 19) rfl (v := nI 0) (by decide +kernel) ?_
    refine r_ialdN hX dX6_served_19 (q := 20) rfl rfl (by repeat' (first | assumption | with_reducible exact rfl | refine e_add ?_ ?_ | refine e_mul ?_ ?_)) (by first | assumption | omega) (by first | decide | omega) ?_
    rw [hM 0 (by decide)]
    refine r_aload0 hX dX6_served_20 (q := 21) rfl ?_
    refine r_getR hX dX6_served_21 (q := 24) rfl fX6_9 rfl ⟨by decide, by decide, rfl⟩ ?_
    refine r_bipush hX dX6_served_24 (q := 26) rfl (v := nI 8) (by decide +kernel) ?_
    refine r_ialdN hX dX6_served_26 (q := 27) rfl rfl (by repeat' (first | assumption | with_reducible exact rfl | refine e_add ?_ ?_ | refine e_mul ?_ ?_)) (by first | assumption | omega) (by first | decide | omega) ?_
    rw [hM 8 (by decide)]
    refine r_irem hX dX6_served_27 (q := 28) rfl (by rw [← nI_0] at h7 ⊢; exact h7) ?_
    refine r_iret hX hR dX6_served_28 ?_
    -- leaf 0 at 28
    refine ⟨congrArg (fun z => some (Value.int z)) ?_, ?_⟩
    ·
      rcases hV.served hb with ⟨q1, q2⟩ | ⟨m, n, a1, a2, a3, a4, a5, a6⟩
      · first
          | (rw [q2]; rfl)
          | exact absurd (q1.trans nI_0) h7
      · first
          | exact absurd (a5.symm.trans h7) (by rw [← nI_0]; exact nI_ne (by omega) (by decide) (by omega))
          | (rw [a6, a4, a5]; exact pk_rem (by omega) a2 (by omega))
    · rfl
  ·
    refine r_iconst hX dX6_served_10 (q := 11) rfl (v := (-1)) (by decide +kernel) ?_
    refine r_goto hX dX6_served_11 (tgt := 28) (by decide) ?_
    refine r_iret hX hR dX6_served_28 ?_
    -- leaf 1 at 28
    refine ⟨congrArg (fun z => some (Value.int z)) ?_, ?_⟩
    ·
      rcases hV.served hb with ⟨q1, q2⟩ | ⟨m, n, a1, a2, a3, a4, a5, a6⟩
      · first
          | (rw [q2]; rfl)
          | exact absurd (q1.trans nI_0) h7
      · first
          | exact absurd (a5.symm.trans h7) (by rw [← nI_0]; exact nI_ne (by omega) (by decide) (by omega))
          | (rw [a6, a4, a5]; exact pk_rem (by omega) a2 (by omega))
    · rfl
