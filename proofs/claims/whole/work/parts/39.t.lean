set_option maxRecDepth 100000 in
set_option maxHeartbeats 4000000 in
theorem c_X6_draw (l : Launch) (Γ : Gam) (G : GG)  : Sp l yX6_draw cX6_draw 1 (some .int) 0 0 [.ref (gad Γ 47)] Γ G (eI (up G 48 1 (drS (G 48 1))) (shr8 (drS (G 48 1)))) := by
  refine Sp_of (own := RX6) rfl (by decide +kernel) rfl (Nat.le_of_ble_eq_true rfl) (fun X hX hR => ?_)
  show WP X Γ 0 [some (.ref (gad Γ 47))] [] G
  refine r_aload0 hX dX6_draw_0 (q := 1) rfl ?_
  refine r_getR hX dX6_draw_1 (q := 4) rfl fX6_9 rfl ⟨by decide, by decide, rfl⟩ ?_
  refine r_iconst hX dX6_draw_4 (q := 5) rfl (v := nI 1) (by decide +kernel) ?_
  refine r_aload0 hX dX6_draw_5 (q := 6) rfl ?_
  refine r_getR hX dX6_draw_6 (q := 9) rfl fX6_9 rfl ⟨by decide, by decide, rfl⟩ ?_
  refine r_iconst hX dX6_draw_9 (q := 10) rfl (v := nI 1) (by decide +kernel) ?_
  refine r_ialdN hX dX6_draw_10 (q := 11) rfl rfl (by repeat' (first | assumption | with_reducible exact rfl | refine e_add ?_ ?_ | refine e_mul ?_ ?_)) (by first | assumption | omega) (by first | decide | omega) ?_
  refine r_ldc hX dX6_draw_11 (q := 13) rfl qX6_115 ?_
  refine r_imul hX dX6_draw_13 (q := 14) rfl ?_
  refine r_sipush hX dX6_draw_14 (q := 17) rfl (v := nI 12345) (by decide +kernel) ?_
  refine r_iadd hX dX6_draw_17 (q := 18) rfl ?_
  refine r_iastN hX dX6_draw_18 (q := 19) rfl rfl (by repeat' (first | assumption | with_reducible exact rfl | refine e_add ?_ ?_ | refine e_mul ?_ ?_)) (by first | assumption | omega) (by first | decide | omega) ?_
  refine r_aload0 hX dX6_draw_19 (q := 20) rfl ?_
  refine r_getR hX dX6_draw_20 (q := 23) rfl fX6_9 rfl ⟨by decide, by decide, rfl⟩ ?_
  refine r_iconst hX dX6_draw_23 (q := 24) rfl (v := nI 1) (by decide +kernel) ?_
  refine r_ialdN hX dX6_draw_24 (q := 25) rfl rfl (by repeat' (first | assumption | with_reducible exact rfl | refine e_add ?_ ?_ | refine e_mul ?_ ?_)) (by first | assumption | omega) (by first | decide | omega) ?_
  rw [up_eq]
  refine r_bipush hX dX6_draw_25 (q := 27) rfl (v := nI 8) (by decide +kernel) ?_
  refine r_iushr hX dX6_draw_27 (q := 28) rfl ?_
  refine r_iret hX hR dX6_draw_28 ?_
  -- leaf 0 at 28
  refine ⟨congrArg (fun z => some (Value.int z)) ?_, ?_⟩
  ·
    rfl
  · rfl

set_option maxRecDepth 100000 in
set_option maxHeartbeats 4000000 in
theorem c_X6_likesMore (l : Launch) (Γ : Gam) (G : GG) (x y : Int32) (f : Nat) (hx : x = nI f) (hf : f < 10) : Sp l yX6_likesMore cX6_likesMore 3 none 1 21 [.ref (gad Γ 47), .int x, .int y] Γ G (eV (up G 48 (10 + 3 * f) (lkS (G 48 (10 + 3 * f) + y)))) := by
  refine Sp_of (own := RX6) rfl (by decide +kernel) rfl (Nat.le_of_ble_eq_true rfl) (fun X hX hR => ?_)
  show WP X Γ 0 [some (.ref (gad Γ 47)), some (.int x), some (.int y)] [] G
  subst hx
  refine r_aload0 hX dX6_likesMore_0 (q := 1) rfl ?_
  refine r_getR hX dX6_likesMore_1 (q := 4) rfl fX6_9 rfl ⟨by decide, by decide, rfl⟩ ?_
  refine r_bipush hX dX6_likesMore_4 (q := 6) rfl (v := nI 10) (by decide +kernel) ?_
  refine r_iconst hX dX6_likesMore_6 (q := 7) rfl (v := nI 3) (by decide +kernel) ?_
  refine r_iload1 hX dX6_likesMore_7 (q := 8) rfl ?_
  refine r_imul hX dX6_likesMore_8 (q := 9) rfl ?_
  refine r_iadd hX dX6_likesMore_9 (q := 10) rfl ?_
  refine r_aload0 hX dX6_likesMore_10 (q := 11) rfl ?_
  refine r_iload1 hX dX6_likesMore_11 (q := 12) rfl ?_
  refine r_callV hX dX6_likesMore_12 (q := 15) rfl (c_X6_like _ Γ _ _ f rfl hf) kX6_50 mlX6_like mvX6_like rfl rfl rfl ⟨by decide, rfl⟩ ⟨by decide, by decide⟩ (Nat.le_of_ble_eq_true rfl) (keI ?_)
  refine r_iload2 hX dX6_likesMore_15 (q := 16) rfl ?_
  refine r_iadd hX dX6_likesMore_16 (q := 17) rfl ?_
  refine r_bipush hX dX6_likesMore_17 (q := 19) rfl (v := nI 99) (by decide +kernel) ?_
  refine r_callS hX dX6_likesMore_19 (q := 22) rfl (c_X6_held _ Γ _ _ _) kX6_96 mlX6_held msX6_held rfl rfl ⟨by decide, by decide⟩ (Nat.le_of_ble_eq_true rfl) (keI ?_)
  rw [he_lk]
  refine r_iastN hX dX6_likesMore_22 (q := 23) rfl rfl (e_add rfl (e_mul rfl rfl)) (by omega) (by first | decide | omega) ?_
  refine r_vret hX hR dX6_likesMore_23 ?_
  -- leaf 0 at 23
  refine ⟨rfl, ?_⟩
  rfl
