set_option maxRecDepth 100000 in
set_option maxHeartbeats 4000000 in
theorem c_X5_food (l : Launch) (Γ : Gam) (G : GG) (μ : MU) (b : Nat) (hC : CR G 0 μ) (hV : Inv b μ) (f w v : Int32) : Sp l yX5_food cX5_food 4 (some .int) 2 44 [.ref (gad Γ 30), .int f, .int w, .int v] Γ G (pI (CO G μ (oFood μ f w v))) := by
  refine Sp_of (own := RX5) rfl (by decide +kernel) rfl (Nat.le_of_ble_eq_true rfl) (fun X hX hR => ?_)
  show WP X Γ 0 [some (.ref (gad Γ 30)), some (.int f), some (.int w), some (.int v)] [] G
  refine r_iload1 hX dX5_food_0 (q := 1) rfl ?_
  refine r_callS hX dX5_food_1 (q := 4) rfl (c_X5_isFood _ Γ _ _) kX5_63 mlX5_isFood msX5_isFood rfl rfl ⟨by decide, by decide⟩ (Nat.le_of_ble_eq_true rfl) (keB ?_)
  first | with_reducible refine r_ifd_ne hX dX5_food_4 (q := 7) rfl (tgt := 14) (by decide) (fun h4 => ?_) (fun h4 => ?_) | refine r_ifb_ne hX dX5_food_4 (q := 7) rfl (tgt := 14) (by decide) (fun h4 => ?_) (fun h4 => ?_)
  ·
    obtain ⟨fl, fe⟩ := ix_of (by decide) h4
    refine r_iload2 hX dX5_food_14 (q := 15) rfl ?_
    refine r_if_ne hX dX5_food_15 (q := 18) rfl (tgt := 41) (by decide) (fun h15 => ?_) (fun h15 => ?_)
    ·
      refine r_iload2 hX dX5_food_41 (q := 42) rfl ?_
      refine r_iconst hX dX5_food_42 (q := 43) rfl (v := nI 1) (by decide +kernel) ?_
      first | refine r_icmpN_ne hX dX5_food_43 (q := 46) rfl (tgt := 69) (by decide) (by first | decide | omega) (by first | decide | omega) (fun h43 => ?_) (fun h43 => ?_) | refine r_icmp_ne hX dX5_food_43 (q := 46) rfl (tgt := 69) (by decide) (fun h43 => ?_) (fun h43 => ?_)
      ·
        refine r_aload0 hX dX5_food_69 (q := 70) rfl ?_
        refine r_ldc hX dX5_food_70 (q := 72) rfl qX5_44 ?_
        refine r_callV hX dX5_food_72 (q := 75) rfl (c_X5_finding _ Γ _ _ 0 (by decide) (by decide +kernel)) kX5_67 mlX5_finding mvX5_finding rfl rfl rfl ⟨by decide, rfl⟩ ⟨by decide, by decide⟩ (Nat.le_of_ble_eq_true rfl) (keI ?_)
        refine r_iret hX hR dX5_food_75 ?_
        -- leaf 0 at 75
        refine ⟨_, rfl, ?_⟩
        exact CO.fin (k := 0) (by clear hX hR hC hV; unfold oFood; grind [nI_0]) (by decide +kernel) hC fr0
      ·
        refine r_iload3 hX dX5_food_46 (q := 47) rfl ?_
        refine r_iconst hX dX5_food_47 (q := 48) rfl (v := nI 0) (by decide +kernel) ?_
        refine r_bipush hX dX5_food_48 (q := 50) rfl (v := nI 9) (by decide +kernel) ?_
        refine r_callS hX dX5_food_50 (q := 53) rfl (c_X5_within _ Γ _ _ _ _) kX5_45 mlX5_within msX5_within rfl rfl ⟨by decide, by decide⟩ (Nat.le_of_ble_eq_true rfl) (keB ?_)
        first | with_reducible refine r_ifd_eq hX dX5_food_53 (q := 56) rfl (tgt := 69) (by decide) (fun h53 => ?_) (fun h53 => ?_) | refine r_ifb_eq hX dX5_food_53 (q := 56) rfl (tgt := 69) (by decide) (fun h53 => ?_) (fun h53 => ?_)
        ·
          refine r_aload0 hX dX5_food_69 (q := 70) rfl ?_
          refine r_ldc hX dX5_food_70 (q := 72) rfl qX5_44 ?_
          refine r_callV hX dX5_food_72 (q := 75) rfl (c_X5_finding _ Γ _ _ 0 (by decide) (by decide +kernel)) kX5_67 mlX5_finding mvX5_finding rfl rfl rfl ⟨by decide, rfl⟩ ⟨by decide, by decide⟩ (Nat.le_of_ble_eq_true rfl) (keI ?_)
          refine r_iret hX hR dX5_food_75 ?_
          -- leaf 1 at 75
          refine ⟨_, rfl, ?_⟩
          exact CO.fin (k := 0) (by clear hX hR hC hV; unfold oFood; grind [nI_0]) (by decide +kernel) hC fr0
        ·
          refine r_aload0 hX dX5_food_56 (q := 57) rfl ?_
          refine r_getR hX dX5_food_57 (q := 60) (c' := ch 0 0) rfl fX5_12 rfl ⟨by decide, by decide, rfl⟩ ?_
          refine r_getR hX dX5_food_60 (q := 63) rfl fX5_78 (ch_lay (j := 0) (by first | assumption | decide) (by decide) rfl) (rC_1 (by first | assumption | decide)) ?_
          refine r_iload1 hX dX5_food_63 (q := 64) rfl ?_
          refine r_iload3 hX dX5_food_64 (q := 65) rfl ?_
          refine r_callS hX dX5_food_65 (q := 68) rfl (c_X5_replaced _ Γ _ _ (by first | assumption | exact ch_lay (by first | assumption | decide) (by decide) rfl | exact row_lay (by first | assumption | decide) (by assumption)) _ _ (by repeat' (first | assumption | with_reducible exact rfl | refine e_add ?_ ?_ | refine e_mul ?_ ?_)) (by first | assumption | omega) _) kX5_74 mlX5_replaced msX5_replaced rfl rfl ⟨by decide, by decide⟩ (Nat.le_of_ble_eq_true rfl) (keI ?_)
          refine r_iret hX hR dX5_food_68 ?_
          -- leaf 2 at 68
          refine ⟨_, rfl, ?_⟩
          have ew : cl w = 1 := by rw [h43]; rfl
          exact CO.ok (w := μ (11 + 3 * cl f)) (μ' := upd μ (11 + 3 * cl f) v) (by clear hX hR hC hV; unfold oFood; rw [if_pos ⟨h4, Or.inr ⟨h43, h53⟩⟩, ew, show 10 + 3 * cl f + 1 = 11 + 3 * cl f by omega]) (hC.2.1 _ (by omega)).2.1 (hC.bit (by omega) v) (fr_C (Fr.rf.up (by decide)) fr0)
    ·
      refine r_iload3 hX dX5_food_18 (q := 19) rfl ?_
      refine r_iconst hX dX5_food_19 (q := 20) rfl (v := nI 0) (by decide +kernel) ?_
      refine r_bipush hX dX5_food_20 (q := 22) rfl (v := nI 99) (by decide +kernel) ?_
      refine r_callS hX dX5_food_22 (q := 25) rfl (c_X5_within _ Γ _ _ _ _) kX5_45 mlX5_within msX5_within rfl rfl ⟨by decide, by decide⟩ (Nat.le_of_ble_eq_true rfl) (keB ?_)
      first | with_reducible refine r_ifd_eq hX dX5_food_25 (q := 28) rfl (tgt := 41) (by decide) (fun h25 => ?_) (fun h25 => ?_) | refine r_ifb_eq hX dX5_food_25 (q := 28) rfl (tgt := 41) (by decide) (fun h25 => ?_) (fun h25 => ?_)
      ·
        refine r_iload2 hX dX5_food_41 (q := 42) rfl ?_
        refine r_iconst hX dX5_food_42 (q := 43) rfl (v := nI 1) (by decide +kernel) ?_
        first | refine r_icmpN_ne hX dX5_food_43 (q := 46) rfl (tgt := 69) (by decide) (by first | decide | omega) (by first | decide | omega) (fun h43 => ?_) (fun h43 => ?_) | refine r_icmp_ne hX dX5_food_43 (q := 46) rfl (tgt := 69) (by decide) (fun h43 => ?_) (fun h43 => ?_)
        ·
          refine r_aload0 hX dX5_food_69 (q := 70) rfl ?_
          refine r_ldc hX dX5_food_70 (q := 72) rfl qX5_44 ?_
          refine r_callV hX dX5_food_72 (q := 75) rfl (c_X5_finding _ Γ _ _ 0 (by decide) (by decide +kernel)) kX5_67 mlX5_finding mvX5_finding rfl rfl rfl ⟨by decide, rfl⟩ ⟨by decide, by decide⟩ (Nat.le_of_ble_eq_true rfl) (keI ?_)
          refine r_iret hX hR dX5_food_75 ?_
          -- leaf 3 at 75
          refine ⟨_, rfl, ?_⟩
          exact CO.fin (k := 0) (by clear hX hR hC hV; unfold oFood; grind [nI_0]) (by decide +kernel) hC fr0
        ·
          refine r_iload3 hX dX5_food_46 (q := 47) rfl ?_
          refine r_iconst hX dX5_food_47 (q := 48) rfl (v := nI 0) (by decide +kernel) ?_
          refine r_bipush hX dX5_food_48 (q := 50) rfl (v := nI 9) (by decide +kernel) ?_
          refine r_callS hX dX5_food_50 (q := 53) rfl (c_X5_within _ Γ _ _ _ _) kX5_45 mlX5_within msX5_within rfl rfl ⟨by decide, by decide⟩ (Nat.le_of_ble_eq_true rfl) (keB ?_)
          first | with_reducible refine r_ifd_eq hX dX5_food_53 (q := 56) rfl (tgt := 69) (by decide) (fun h53 => ?_) (fun h53 => ?_) | refine r_ifb_eq hX dX5_food_53 (q := 56) rfl (tgt := 69) (by decide) (fun h53 => ?_) (fun h53 => ?_)
          ·
            refine r_aload0 hX dX5_food_69 (q := 70) rfl ?_
            refine r_ldc hX dX5_food_70 (q := 72) rfl qX5_44 ?_
            refine r_callV hX dX5_food_72 (q := 75) rfl (c_X5_finding _ Γ _ _ 0 (by decide) (by decide +kernel)) kX5_67 mlX5_finding mvX5_finding rfl rfl rfl ⟨by decide, rfl⟩ ⟨by decide, by decide⟩ (Nat.le_of_ble_eq_true rfl) (keI ?_)
            refine r_iret hX hR dX5_food_75 ?_
            -- leaf 4 at 75
            refine ⟨_, rfl, ?_⟩
            exact CO.fin (k := 0) (by clear hX hR hC hV; unfold oFood; grind [nI_0]) (by decide +kernel) hC fr0
          ·
            refine r_aload0 hX dX5_food_56 (q := 57) rfl ?_
            refine r_getR hX dX5_food_57 (q := 60) (c' := ch 0 0) rfl fX5_12 rfl ⟨by decide, by decide, rfl⟩ ?_
            refine r_getR hX dX5_food_60 (q := 63) rfl fX5_78 (ch_lay (j := 0) (by first | assumption | decide) (by decide) rfl) (rC_1 (by first | assumption | decide)) ?_
            refine r_iload1 hX dX5_food_63 (q := 64) rfl ?_
            refine r_iload3 hX dX5_food_64 (q := 65) rfl ?_
            refine r_callS hX dX5_food_65 (q := 68) rfl (c_X5_replaced _ Γ _ _ (by first | assumption | exact ch_lay (by first | assumption | decide) (by decide) rfl | exact row_lay (by first | assumption | decide) (by assumption)) _ _ (by repeat' (first | assumption | with_reducible exact rfl | refine e_add ?_ ?_ | refine e_mul ?_ ?_)) (by first | assumption | omega) _) kX5_74 mlX5_replaced msX5_replaced rfl rfl ⟨by decide, by decide⟩ (Nat.le_of_ble_eq_true rfl) (keI ?_)
            refine r_iret hX hR dX5_food_68 ?_
            -- leaf 5 at 68
            refine ⟨_, rfl, ?_⟩
            have ew : cl w = 1 := by rw [h43]; rfl
            exact CO.ok (w := μ (11 + 3 * cl f)) (μ' := upd μ (11 + 3 * cl f) v) (by clear hX hR hC hV; unfold oFood; rw [if_pos ⟨h4, Or.inr ⟨h43, h53⟩⟩, ew, show 10 + 3 * cl f + 1 = 11 + 3 * cl f by omega]) (hC.2.1 _ (by omega)).2.1 (hC.bit (by omega) v) (fr_C (Fr.rf.up (by decide)) fr0)
      ·
        refine r_aload0 hX dX5_food_28 (q := 29) rfl ?_
        refine r_getR hX dX5_food_29 (q := 32) (c' := ch 0 0) rfl fX5_12 rfl ⟨by decide, by decide, rfl⟩ ?_
        refine r_getR hX dX5_food_32 (q := 35) rfl fX5_71 (ch_lay (j := 0) (by first | assumption | decide) (by decide) rfl) (rC_0 (by first | assumption | decide)) ?_
        refine r_iload1 hX dX5_food_35 (q := 36) rfl ?_
        refine r_iload3 hX dX5_food_36 (q := 37) rfl ?_
        refine r_callS hX dX5_food_37 (q := 40) rfl (c_X5_replaced _ Γ _ _ (by first | assumption | exact ch_lay (by first | assumption | decide) (by decide) rfl | exact row_lay (by first | assumption | decide) (by assumption)) _ _ (by repeat' (first | assumption | with_reducible exact rfl | refine e_add ?_ ?_ | refine e_mul ?_ ?_)) (by first | assumption | omega) _) kX5_74 mlX5_replaced msX5_replaced rfl rfl ⟨by decide, by decide⟩ (Nat.le_of_ble_eq_true rfl) (keI ?_)
        refine r_iret hX hR dX5_food_40 ?_
        -- leaf 6 at 40
        refine ⟨_, rfl, ?_⟩
        have hw : w = nI 0 := h15
        have ew : cl w = 0 := by rw [hw]; rfl
        exact CO.ok (w := μ (10 + 3 * cl f)) (μ' := upd μ (10 + 3 * cl f) v) (by clear hX hR hC hV; unfold oFood; rw [if_pos ⟨h4, Or.inl ⟨hw, h25⟩⟩, ew]; rfl) (hC.2.1 _ (by omega)).1 (hC.like (by omega) v) (fr_C (Fr.rf.up (by decide)) fr0)
  ·
    refine r_aload0 hX dX5_food_7 (q := 8) rfl ?_
    refine r_ldc hX dX5_food_8 (q := 10) rfl qX5_44 ?_
    refine r_callV hX dX5_food_10 (q := 13) rfl (c_X5_finding _ Γ _ _ 0 (by decide) (by decide +kernel)) kX5_67 mlX5_finding mvX5_finding rfl rfl rfl ⟨by decide, rfl⟩ ⟨by decide, by decide⟩ (Nat.le_of_ble_eq_true rfl) (keI ?_)
    refine r_iret hX hR dX5_food_13 ?_
    -- leaf 7 at 13
    refine ⟨_, rfl, ?_⟩
    exact CO.fin (k := 0) (by clear hX hR hC hV; unfold oFood; grind [nI_0]) (by decide +kernel) hC fr0

set_option maxRecDepth 100000 in
set_option maxHeartbeats 4000000 in
theorem c_X5_foodOf (l : Launch) (Γ : Gam) (G : GG) (μ : MU) (b : Nat) (hC : CR G 0 μ) (hV : Inv b μ) (f w : Int32) : Sp l yX5_foodOf cX5_foodOf 3 (some .int) 2 44 [.ref (gad Γ 30), .int f, .int w] Γ G (pI (CO G μ (oFoodOf μ f w))) := by
  refine Sp_of (own := RX5) rfl (by decide +kernel) rfl (Nat.le_of_ble_eq_true rfl) (fun X hX hR => ?_)
  show WP X Γ 0 [some (.ref (gad Γ 30)), some (.int f), some (.int w)] [] G
  refine r_iload1 hX dX5_foodOf_0 (q := 1) rfl ?_
  refine r_callS hX dX5_foodOf_1 (q := 4) rfl (c_X5_isFood _ Γ _ _) kX5_63 mlX5_isFood msX5_isFood rfl rfl ⟨by decide, by decide⟩ (Nat.le_of_ble_eq_true rfl) (keB ?_)
  first | with_reducible refine r_ifd_ne hX dX5_foodOf_4 (q := 7) rfl (tgt := 14) (by decide) (fun h4 => ?_) (fun h4 => ?_) | refine r_ifb_ne hX dX5_foodOf_4 (q := 7) rfl (tgt := 14) (by decide) (fun h4 => ?_) (fun h4 => ?_)
  ·
    obtain ⟨fl, fe⟩ := ix_of (by decide) h4
    refine r_iload2 hX dX5_foodOf_14 (q := 15) rfl ?_
    refine r_tabCase hX dX5_foodOf_15 0 ⟨by decide, by decide, by decide, rfl, (by decide : (15 : Int) + 29 = (44 : Nat))⟩ (fun h15_0 => ?_) (fun h15_0 => ?_)
    ·
      refine r_aload0 hX dX5_foodOf_44 (q := 45) rfl ?_
      refine r_getR hX dX5_foodOf_45 (q := 48) (c' := ch 0 0) rfl fX5_12 rfl ⟨by decide, by decide, rfl⟩ ?_
      refine r_getR hX dX5_foodOf_48 (q := 51) rfl fX5_71 (ch_lay (j := 0) (by first | assumption | decide) (by decide) rfl) (rC_0 (by first | assumption | decide)) ?_
      refine r_iload1 hX dX5_foodOf_51 (q := 52) rfl ?_
      refine r_ialdN hX dX5_foodOf_52 (q := 53) rfl (ch_lay (j := 1) (by first | assumption | decide) (by decide) rfl) (by repeat' (first | assumption | with_reducible exact rfl | refine e_add ?_ ?_ | refine e_mul ?_ ?_)) (by first | assumption | omega) (by first | decide | omega) ?_
      refine r_iret hX hR dX5_foodOf_53 ?_
      -- leaf 0 at 53
      refine ⟨_, rfl, ?_⟩
      have e := h15_0
      subst e
      exact CO.ok (w := μ (10 + 3 * cl f)) (μ' := μ) (by clear hX hR hC hV; unfold oFoodOf; rw [if_pos ⟨h4, by decide +kernel, by decide +kernel⟩, if_neg (by decide +kernel)]; rfl) (hC.2.1 _ (by omega)).1 hC fr0
    refine r_tabCase hX dX5_foodOf_15 1 ⟨by decide, by decide, by decide, rfl, (by decide : (15 : Int) + 39 = (54 : Nat))⟩ (fun h15_1 => ?_) (fun h15_1 => ?_)
    ·
      refine r_aload0 hX dX5_foodOf_54 (q := 55) rfl ?_
      refine r_getR hX dX5_foodOf_55 (q := 58) (c' := ch 0 0) rfl fX5_12 rfl ⟨by decide, by decide, rfl⟩ ?_
      refine r_getR hX dX5_foodOf_58 (q := 61) rfl fX5_78 (ch_lay (j := 0) (by first | assumption | decide) (by decide) rfl) (rC_1 (by first | assumption | decide)) ?_
      refine r_iload1 hX dX5_foodOf_61 (q := 62) rfl ?_
      refine r_ialdN hX dX5_foodOf_62 (q := 63) rfl (ch_lay (j := 2) (by first | assumption | decide) (by decide) rfl) (by repeat' (first | assumption | with_reducible exact rfl | refine e_add ?_ ?_ | refine e_mul ?_ ?_)) (by first | assumption | omega) (by first | decide | omega) ?_
      refine r_iret hX hR dX5_foodOf_63 ?_
      -- leaf 1 at 63
      refine ⟨_, rfl, ?_⟩
      have e := h15_1
      subst e
      exact CO.ok (w := μ (11 + 3 * cl f)) (μ' := μ) (by clear hX hR hC hV; unfold oFoodOf; rw [if_pos ⟨h4, by decide +kernel, by decide +kernel⟩, if_neg (by decide +kernel), show cl (nI 1) = 1 from rfl, show 10 + 3 * cl f + 1 = 11 + 3 * cl f by omega]) (hC.2.1 _ (by omega)).2.1 hC fr0
    refine r_tabCase hX dX5_foodOf_15 2 ⟨by decide, by decide, by decide, rfl, (by decide : (15 : Int) + 49 = (64 : Nat))⟩ (fun h15_2 => ?_) (fun h15_2 => ?_)
    ·
      refine r_aload0 hX dX5_foodOf_64 (q := 65) rfl ?_
      refine r_getR hX dX5_foodOf_65 (q := 68) (c' := ch 0 0) rfl fX5_12 rfl ⟨by decide, by decide, rfl⟩ ?_
      refine r_getR hX dX5_foodOf_68 (q := 71) rfl fX5_81 (ch_lay (j := 0) (by first | assumption | decide) (by decide) rfl) (rC_2 (by first | assumption | decide)) ?_
      refine r_iload1 hX dX5_foodOf_71 (q := 72) rfl ?_
      refine r_ialdN hX dX5_foodOf_72 (q := 73) rfl (ch_lay (j := 3) (by first | assumption | decide) (by decide) rfl) (by repeat' (first | assumption | with_reducible exact rfl | refine e_add ?_ ?_ | refine e_mul ?_ ?_)) (by first | assumption | omega) (by first | decide | omega) ?_
      refine r_iret hX hR dX5_foodOf_73 ?_
      -- leaf 2 at 73
      refine ⟨_, rfl, ?_⟩
      have e := h15_2
      subst e
      exact CO.ok (w := μ (12 + 3 * cl f)) (μ' := μ) (by clear hX hR hC hV; unfold oFoodOf; rw [if_pos ⟨h4, by decide +kernel, by decide +kernel⟩, if_neg (by decide +kernel), show cl (nI 2) = 2 from rfl, show 10 + 3 * cl f + 2 = 12 + 3 * cl f by omega]) (hC.2.1 _ (by omega)).2.2 hC fr0
    refine r_tabCase hX dX5_foodOf_15 3 ⟨by decide, by decide, by decide, rfl, (by decide : (15 : Int) + 59 = (74 : Nat))⟩ (fun h15_3 => ?_) (fun h15_3 => ?_)
    ·
      refine r_aload0 hX dX5_foodOf_74 (q := 75) rfl ?_
      refine r_getR hX dX5_foodOf_75 (q := 78) (c' := ch 0 0) rfl fX5_12 rfl ⟨by decide, by decide, rfl⟩ ?_
      refine r_iload1 hX dX5_foodOf_78 (q := 79) rfl ?_
      refine r_callV hX dX5_foodOf_79 (q := 82) rfl (c_X0_isLiked _ Γ _ _ (by first | assumption | decide) _ _ (by assumption) (by assumption) _ _ (by repeat' (first | assumption | with_reducible exact rfl | refine e_add ?_ ?_ | refine e_mul ?_ ?_)) (by first | assumption | omega)) kX5_84 mlX0_isLiked mvX0_isLiked rfl rfl (ch_lay (j := 0) (by first | assumption | decide) (by decide) rfl) ⟨by decide, rfl⟩ ⟨by decide, by decide⟩ (Nat.le_of_ble_eq_true rfl) (keB ?_)
      first | with_reducible refine r_ifd_eq hX dX5_foodOf_82 (q := 85) rfl (tgt := 89) (by decide) (fun h82 => ?_) (fun h82 => ?_) | refine r_ifb_eq hX dX5_foodOf_82 (q := 85) rfl (tgt := 89) (by decide) (fun h82 => ?_) (fun h82 => ?_)
      ·
        refine r_iconst hX dX5_foodOf_89 (q := 90) rfl (v := nI 0) (by decide +kernel) ?_
        refine r_iret hX hR dX5_foodOf_90 ?_
        -- leaf 3 at 90
        refine ⟨_, rfl, ?_⟩
        have e := h15_3
        subst e
        exact CO.ok (w := bi (lkB μ (cl f))) (μ' := μ) (by clear hX hR hC hV; unfold oFoodOf; rw [if_pos ⟨h4, by decide +kernel, by decide +kernel⟩, if_pos rfl]) (by first | (rw [decide_eq_true h82]; rfl) | (rw [h82]; rfl) | (rw [show lkB μ (cl f) = true from h82]; rfl) | (rw [show lkB μ (cl f) = false from h82]; rfl) | (rw [show lkB μ (cl f) = true from decide_eq_true h82]; rfl) | (rw [show lkB μ (cl f) = false from decide_eq_false h82]; rfl)) hC fr0
      ·
        refine r_iconst hX dX5_foodOf_85 (q := 86) rfl (v := nI 1) (by decide +kernel) ?_
        refine r_goto hX dX5_foodOf_86 (tgt := 90) (by decide) ?_
        refine r_iret hX hR dX5_foodOf_90 ?_
        -- leaf 4 at 90
        refine ⟨_, rfl, ?_⟩
        have e := h15_3
        subst e
        exact CO.ok (w := bi (lkB μ (cl f))) (μ' := μ) (by clear hX hR hC hV; unfold oFoodOf; rw [if_pos ⟨h4, by decide +kernel, by decide +kernel⟩, if_pos rfl]) (by first | (rw [decide_eq_true h82]; rfl) | (rw [h82]; rfl) | (rw [show lkB μ (cl f) = true from h82]; rfl) | (rw [show lkB μ (cl f) = false from h82]; rfl) | (rw [show lkB μ (cl f) = true from decide_eq_true h82]; rfl) | (rw [show lkB μ (cl f) = false from decide_eq_false h82]; rfl)) hC fr0
    refine r_tabOut hX dX5_foodOf_15 (by have z0 := nI_neT h15_0 (by decide); have z1 := nI_neT h15_1 (by decide); have z2 := nI_neT h15_2 (by decide); have z3 := nI_neT h15_3 (by decide); omega) (tgt := 91) (by decide) ?_
    refine r_aload0 hX dX5_foodOf_91 (q := 92) rfl ?_
    refine r_ldc hX dX5_foodOf_92 (q := 94) rfl qX5_44 ?_
    refine r_callV hX dX5_foodOf_94 (q := 97) rfl (c_X5_finding _ Γ _ _ 0 (by decide) (by decide +kernel)) kX5_67 mlX5_finding mvX5_finding rfl rfl rfl ⟨by decide, rfl⟩ ⟨by decide, by decide⟩ (Nat.le_of_ble_eq_true rfl) (keI ?_)
    refine r_iret hX hR dX5_foodOf_97 ?_
    -- leaf 5 at 97
    refine ⟨_, rfl, ?_⟩
    exact CO.fin (k := 0) (if_neg (fun z => notin (n := 3) (w := w) (by decide) (fun j hj => by
      rcases (show j = 0 ∨ j = 1 ∨ j = 2 ∨ j = 3 by omega) with rfl | rfl | rfl | rfl <;> assumption) (z.2))) (by decide +kernel) hC fr0
  ·
    refine r_aload0 hX dX5_foodOf_7 (q := 8) rfl ?_
    refine r_ldc hX dX5_foodOf_8 (q := 10) rfl qX5_44 ?_
    refine r_callV hX dX5_foodOf_10 (q := 13) rfl (c_X5_finding _ Γ _ _ 0 (by decide) (by decide +kernel)) kX5_67 mlX5_finding mvX5_finding rfl rfl rfl ⟨by decide, rfl⟩ ⟨by decide, by decide⟩ (Nat.le_of_ble_eq_true rfl) (keI ?_)
    refine r_iret hX hR dX5_foodOf_13 ?_
    -- leaf 6 at 13
    refine ⟨_, rfl, ?_⟩
    exact CO.fin (k := 0) (by clear hX hR hC hV; unfold oFoodOf; grind [nI_0]) (by decide +kernel) hC fr0

set_option maxRecDepth 100000 in
set_option maxHeartbeats 4000000 in
theorem c_X5_child (l : Launch) (Γ : Gam) (G : GG) (μ : MU) (b : Nat) (hC : CR G 0 μ) (hV : Inv b μ) (w v : Int32) : Sp l yX5_child cX5_child 4 (some .int) 2 44 [.ref (gad Γ 30), .int w, .int v] Γ G (pI (CO G μ (oChild μ w v))) := by
  refine Sp_of (own := RX5) rfl (by decide +kernel) rfl (Nat.le_of_ble_eq_true rfl) (fun X hX hR => ?_)
  show WP X Γ 0 [some (.ref (gad Γ 30)), some (.int w), some (.int v), none] [] G
  refine r_iload2 hX dX5_child_0 (q := 1) rfl ?_
  refine r_iload1 hX dX5_child_1 (q := 2) rfl ?_
  refine r_callS hX dX5_child_2 (q := 5) rfl (c_X5_partLow _ Γ _ _) kX5_87 mlX5_partLow msX5_partLow rfl rfl ⟨by decide, by decide⟩ (Nat.le_of_ble_eq_true rfl) (keI ?_)
  refine r_iload1 hX dX5_child_5 (q := 6) rfl ?_
  refine r_callS hX dX5_child_6 (q := 9) rfl (c_X5_partTop _ Γ _ _) kX5_90 mlX5_partTop msX5_partTop rfl rfl ⟨by decide, by decide⟩ (Nat.le_of_ble_eq_true rfl) (keI ?_)
  refine r_callS hX dX5_child_9 (q := 12) rfl (c_X5_within _ Γ _ _ _ _) kX5_45 mlX5_within msX5_within rfl rfl ⟨by decide, by decide⟩ (Nat.le_of_ble_eq_true rfl) (keB ?_)
  first | with_reducible refine r_ifd_ne hX dX5_child_12 (q := 15) rfl (tgt := 22) (by decide) (fun h12 => ?_) (fun h12 => ?_) | refine r_ifb_ne hX dX5_child_12 (q := 15) rfl (tgt := 22) (by decide) (fun h12 => ?_) (fun h12 => ?_)
  ·
    obtain ⟨j, hj, rfl⟩ := part_of h12
    refine r_aload0 hX dX5_child_22 (q := 23) rfl ?_
    refine r_getR hX dX5_child_23 (q := 26) (c' := ch 0 0) rfl fX5_12 rfl ⟨by decide, by decide, rfl⟩ ?_
    refine r_iload1 hX dX5_child_26 (q := 27) rfl ?_
    refine r_callV hX dX5_child_27 (q := 30) rfl (c_X0_part _ Γ _ _ (by first | assumption | decide) _) kX5_93 mlX0_part mvX0_part rfl rfl (ch_lay (j := 0) (by first | assumption | decide) (by decide) rfl) ⟨by decide, rfl⟩ ⟨by decide, by decide⟩ (Nat.le_of_ble_eq_true rfl) (keI ?_)
    refine r_istore3 hX dX5_child_30 (q := 31) rfl rfl ?_
    refine r_aload0 hX dX5_child_31 (q := 32) rfl ?_
    refine r_getR hX dX5_child_32 (q := 35) (c' := ch 0 0) rfl fX5_12 rfl ⟨by decide, by decide, rfl⟩ ?_
    refine r_iload1 hX dX5_child_35 (q := 36) rfl ?_
    refine r_iload2 hX dX5_child_36 (q := 37) rfl ?_
    refine r_callV hX dX5_child_37 (q := 40) rfl (c_X0_setPart _ Γ _ _ (by first | assumption | decide) _ _) kX5_96 mlX0_setPart mvX0_setPart rfl rfl (ch_lay (j := 0) (by first | assumption | decide) (by decide) rfl) ⟨by decide, rfl⟩ ⟨by decide, by decide⟩ (Nat.le_of_ble_eq_true rfl) (keV ?_)
    refine r_iload3 hX dX5_child_40 (q := 41) rfl ?_
    refine r_iret hX hR dX5_child_41 ?_
    -- leaf 0 at 41
    refine ⟨_, rfl, ?_⟩
    exact CO.ok (w := μ (2 + j)) (μ' := upd μ (2 + j) v) (by unfold oChild; rw [if_pos h12, cl_nI (by omega)]) (getP_val hC hj) (setP_val hC hj v) (fr_C (setP_fr Fr.rf) fr0)
  ·
    refine r_aload0 hX dX5_child_15 (q := 16) rfl ?_
    refine r_ldc hX dX5_child_16 (q := 18) rfl qX5_44 ?_
    refine r_callV hX dX5_child_18 (q := 21) rfl (c_X5_finding _ Γ _ _ 0 (by decide) (by decide +kernel)) kX5_67 mlX5_finding mvX5_finding rfl rfl rfl ⟨by decide, rfl⟩ ⟨by decide, by decide⟩ (Nat.le_of_ble_eq_true rfl) (keI ?_)
    refine r_iret hX hR dX5_child_21 ?_
    -- leaf 1 at 21
    refine ⟨_, rfl, ?_⟩
    exact CO.fin (k := 0) (by clear hX hR hC hV; unfold oChild; grind [nI_0]) (by decide +kernel) hC fr0

set_option maxRecDepth 100000 in
set_option maxHeartbeats 4000000 in
theorem c_X5_pudding (l : Launch) (Γ : Gam) (G : GG) (μ : MU) (b : Nat) (hC : CR G 0 μ) (hV : Inv b μ) (f : Int32) : Sp l yX5_pudding cX5_pudding 3 (some .int) 2 44 [.ref (gad Γ 30), .int f] Γ G (pI (CO G μ (oPud μ f))) := by
  refine Sp_of (own := RX5) rfl (by decide +kernel) rfl (Nat.le_of_ble_eq_true rfl) (fun X hX hR => ?_)
  show WP X Γ 0 [some (.ref (gad Γ 30)), some (.int f), none] [] G
  refine r_iload1 hX dX5_pudding_0 (q := 1) rfl ?_
  refine r_iconst hX dX5_pudding_1 (q := 2) rfl (v := (-1)) (by decide +kernel) ?_
  first | refine r_icmpN_eq hX dX5_pudding_2 (q := 5) rfl (tgt := 19) (by decide) (by first | decide | omega) (by first | decide | omega) (fun h2 => ?_) (fun h2 => ?_) | refine r_icmp_eq hX dX5_pudding_2 (q := 5) rfl (tgt := 19) (by decide) (fun h2 => ?_) (fun h2 => ?_)
  ·
    refine r_aload0 hX dX5_pudding_19 (q := 20) rfl ?_
    refine r_getR hX dX5_pudding_20 (q := 23) (c' := ch 0 0) rfl fX5_12 rfl ⟨by decide, by decide, rfl⟩ ?_
    refine r_getI hX dX5_pudding_23 (q := 26) rfl fX5_100 (ch_lay (j := 0) (by first | assumption | decide) (by decide) rfl) (rC_7 (by first | assumption | decide)) ?_
    refine r_istore2 hX dX5_pudding_26 (q := 27) rfl rfl ?_
    refine r_aload0 hX dX5_pudding_27 (q := 28) rfl ?_
    refine r_getR hX dX5_pudding_28 (q := 31) (c' := ch 0 0) rfl fX5_12 rfl ⟨by decide, by decide, rfl⟩ ?_
    refine r_iload1 hX dX5_pudding_31 (q := 32) rfl ?_
    refine r_put hX dX5_pudding_32 (q := 35) rfl fX5_100 wX0_7 rfl rfl (ch_lay (j := 0) (by first | assumption | decide) (by decide) rfl) (rC_7 (by first | assumption | decide)) ?_
    refine r_iload2 hX dX5_pudding_35 (q := 36) rfl ?_
    refine r_iret hX hR dX5_pudding_36 ?_
    -- leaf 0 at 36
    refine ⟨_, rfl, ?_⟩
    exact CO.ok (w := μ 6) (μ' := upd μ 6 f) (by clear hX hR hC hV; unfold oPud; grind) hC.1.2.2.2.2.2.2.1 (hC.pud f) (fr_C (Fr.rf.up (by decide)) fr0)
  ·
    refine r_iload1 hX dX5_pudding_5 (q := 6) rfl ?_
    refine r_callS hX dX5_pudding_6 (q := 9) rfl (c_X5_isFood _ Γ _ _) kX5_63 mlX5_isFood msX5_isFood rfl rfl ⟨by decide, by decide⟩ (Nat.le_of_ble_eq_true rfl) (keB ?_)
    first | with_reducible refine r_ifd_ne hX dX5_pudding_9 (q := 12) rfl (tgt := 19) (by decide) (fun h9 => ?_) (fun h9 => ?_) | refine r_ifb_ne hX dX5_pudding_9 (q := 12) rfl (tgt := 19) (by decide) (fun h9 => ?_) (fun h9 => ?_)
    ·
      refine r_aload0 hX dX5_pudding_19 (q := 20) rfl ?_
      refine r_getR hX dX5_pudding_20 (q := 23) (c' := ch 0 0) rfl fX5_12 rfl ⟨by decide, by decide, rfl⟩ ?_
      refine r_getI hX dX5_pudding_23 (q := 26) rfl fX5_100 (ch_lay (j := 0) (by first | assumption | decide) (by decide) rfl) (rC_7 (by first | assumption | decide)) ?_
      refine r_istore2 hX dX5_pudding_26 (q := 27) rfl rfl ?_
      refine r_aload0 hX dX5_pudding_27 (q := 28) rfl ?_
      refine r_getR hX dX5_pudding_28 (q := 31) (c' := ch 0 0) rfl fX5_12 rfl ⟨by decide, by decide, rfl⟩ ?_
      refine r_iload1 hX dX5_pudding_31 (q := 32) rfl ?_
      refine r_put hX dX5_pudding_32 (q := 35) rfl fX5_100 wX0_7 rfl rfl (ch_lay (j := 0) (by first | assumption | decide) (by decide) rfl) (rC_7 (by first | assumption | decide)) ?_
      refine r_iload2 hX dX5_pudding_35 (q := 36) rfl ?_
      refine r_iret hX hR dX5_pudding_36 ?_
      -- leaf 1 at 36
      refine ⟨_, rfl, ?_⟩
      exact CO.ok (w := μ 6) (μ' := upd μ 6 f) (by clear hX hR hC hV; unfold oPud; grind) hC.1.2.2.2.2.2.2.1 (hC.pud f) (fr_C (Fr.rf.up (by decide)) fr0)
    ·
      refine r_aload0 hX dX5_pudding_12 (q := 13) rfl ?_
      refine r_ldc hX dX5_pudding_13 (q := 15) rfl qX5_44 ?_
      refine r_callV hX dX5_pudding_15 (q := 18) rfl (c_X5_finding _ Γ _ _ 0 (by decide) (by decide +kernel)) kX5_67 mlX5_finding mvX5_finding rfl rfl rfl ⟨by decide, rfl⟩ ⟨by decide, by decide⟩ (Nat.le_of_ble_eq_true rfl) (keI ?_)
      refine r_iret hX hR dX5_pudding_18 ?_
      -- leaf 2 at 18
      refine ⟨_, rfl, ?_⟩
      exact CO.fin (k := 0) (by clear hX hR hC hV; unfold oPud; grind [nI_0]) (by decide +kernel) hC fr0

set_option maxRecDepth 100000 in
set_option maxHeartbeats 4000000 in
theorem c_X5_friend (l : Launch) (Γ : Gam) (G : GG) (μ : MU) (b : Nat) (hC : CR G 0 μ) (hV : Inv b μ) (f : Int32) : Sp l yX5_friend cX5_friend 3 (some .int) 2 44 [.ref (gad Γ 30), .int f] Γ G (pI (CO G μ (oFri μ f))) := by
  refine Sp_of (own := RX5) rfl (by decide +kernel) rfl (Nat.le_of_ble_eq_true rfl) (fun X hX hR => ?_)
  show WP X Γ 0 [some (.ref (gad Γ 30)), some (.int f), none] [] G
  refine r_iload1 hX dX5_friend_0 (q := 1) rfl ?_
  refine r_iconst hX dX5_friend_1 (q := 2) rfl (v := nI 0) (by decide +kernel) ?_
  refine r_sipush hX dX5_friend_2 (q := 5) rfl (v := nI 1023) (by decide +kernel) ?_
  refine r_callS hX dX5_friend_5 (q := 8) rfl (c_X5_within _ Γ _ _ _ _) kX5_45 mlX5_within msX5_within rfl rfl ⟨by decide, by decide⟩ (Nat.le_of_ble_eq_true rfl) (keB ?_)
  first | with_reducible refine r_ifd_ne hX dX5_friend_8 (q := 11) rfl (tgt := 18) (by decide) (fun h8 => ?_) (fun h8 => ?_) | refine r_ifb_ne hX dX5_friend_8 (q := 11) rfl (tgt := 18) (by decide) (fun h8 => ?_) (fun h8 => ?_)
  ·
    refine r_aload0 hX dX5_friend_18 (q := 19) rfl ?_
    refine r_getR hX dX5_friend_19 (q := 22) (c' := ch 0 0) rfl fX5_12 rfl ⟨by decide, by decide, rfl⟩ ?_
    refine r_getI hX dX5_friend_22 (q := 25) rfl fX5_103 (ch_lay (j := 0) (by first | assumption | decide) (by decide) rfl) (rC_8 (by first | assumption | decide)) ?_
    refine r_istore2 hX dX5_friend_25 (q := 26) rfl rfl ?_
    refine r_aload0 hX dX5_friend_26 (q := 27) rfl ?_
    refine r_getR hX dX5_friend_27 (q := 30) (c' := ch 0 0) rfl fX5_12 rfl ⟨by decide, by decide, rfl⟩ ?_
    refine r_iload1 hX dX5_friend_30 (q := 31) rfl ?_
    refine r_put hX dX5_friend_31 (q := 34) rfl fX5_103 wX0_8 rfl rfl (ch_lay (j := 0) (by first | assumption | decide) (by decide) rfl) (rC_8 (by first | assumption | decide)) ?_
    refine r_iload2 hX dX5_friend_34 (q := 35) rfl ?_
    refine r_iret hX hR dX5_friend_35 ?_
    -- leaf 0 at 35
    refine ⟨_, rfl, ?_⟩
    first
      | (exact CO.fin (k := 0) (by clear hX hR hC hV; unfold oFri; grind) (by decide +kernel) hC fr0)
      | (exact CO.ok (w := μ 7) (μ' := upd μ 7 f) (by clear hX hR hC hV; unfold oFri; grind) hC.1.2.2.2.2.2.2.2.1 (hC.fri f) (fr_C (Fr.rf.up (by decide)) fr0))
  ·
    refine r_aload0 hX dX5_friend_11 (q := 12) rfl ?_
    refine r_ldc hX dX5_friend_12 (q := 14) rfl qX5_44 ?_
    refine r_callV hX dX5_friend_14 (q := 17) rfl (c_X5_finding _ Γ _ _ 0 (by decide) (by decide +kernel)) kX5_67 mlX5_finding mvX5_finding rfl rfl rfl ⟨by decide, rfl⟩ ⟨by decide, by decide⟩ (Nat.le_of_ble_eq_true rfl) (keI ?_)
    refine r_iret hX hR dX5_friend_17 ?_
    -- leaf 1 at 17
    refine ⟨_, rfl, ?_⟩
    first
      | (exact CO.fin (k := 0) (by clear hX hR hC hV; unfold oFri; grind) (by decide +kernel) hC fr0)
      | (exact CO.ok (w := μ 7) (μ' := upd μ 7 f) (by clear hX hR hC hV; unfold oFri; grind) hC.1.2.2.2.2.2.2.2.1 (hC.fri f) (fr_C (Fr.rf.up (by decide)) fr0))

set_option maxRecDepth 100000 in
set_option maxHeartbeats 4000000 in
theorem c_X5_liked (l : Launch) (Γ : Gam) (G : GG) (μ : MU) (b : Nat) (hC : CR G 0 μ) (hV : Inv b μ) : Sp l yX5_liked cX5_liked 1 (some .int) 2 43 [.ref (gad Γ 30)] Γ G (pI (CO G μ (.inr (lsF μ 10, μ)))) := by
  refine Sp_of (own := RX5) rfl (by decide +kernel) rfl (Nat.le_of_ble_eq_true rfl) (fun X hX hR => ?_)
  show WP X Γ 0 [some (.ref (gad Γ 30))] [] G
  refine r_aload0 hX dX5_liked_0 (q := 1) rfl ?_
  refine r_getR hX dX5_liked_1 (q := 4) (c' := ch 0 0) rfl fX5_12 rfl ⟨by decide, by decide, rfl⟩ ?_
  refine r_callV hX dX5_liked_4 (q := 7) rfl (c_X0_likedSet _ Γ _ _ (by first | assumption | decide) _ _ (by assumption) (by assumption)) kX5_106 mlX0_likedSet mvX0_likedSet rfl rfl (ch_lay (j := 0) (by first | assumption | decide) (by decide) rfl) ⟨by decide, rfl⟩ ⟨by decide, by decide⟩ (Nat.le_of_ble_eq_true rfl) (keI ?_)
  refine r_iret hX hR dX5_liked_7 ?_
  -- leaf 0 at 7
  refine ⟨_, rfl, ?_⟩
  exact CO.ok rfl rfl hC fr0

set_option maxRecDepth 100000 in
set_option maxHeartbeats 4000000 in
theorem c_X5_next (l : Launch) (Γ : Gam) (G : GG) (μ : MU) (b : Nat) (hC : CR G 0 μ) (hV : Inv b μ) : Sp l yX5_next cX5_next 3 (some .int) 2 44 [.ref (gad Γ 30)] Γ G (pI (CO G μ (oNext μ))) := by
  refine Sp_of (own := RX5) rfl (by decide +kernel) rfl (Nat.le_of_ble_eq_true rfl) (fun X hX hR => ?_)
  show WP X Γ 0 [some (.ref (gad Γ 30)), none, none] [] G
  refine r_iconst hX dX5_next_0 (q := 1) rfl (v := (-1)) (by decide +kernel) ?_
  refine r_istore1 hX dX5_next_1 (q := 2) rfl rfl ?_
  refine r_iconst hX dX5_next_2 (q := 3) rfl (v := nI 0) (by decide +kernel) ?_
  refine r_istore2 hX dX5_next_3 (q := 4) rfl rfl ?_
  have L4 : ∀ (zn4 : Nat) (k : Nat) (e : Int32), zn4 = 10 - k → (k ≤ 10) → (e = nxF μ k) → WP X Γ 4 [some (.ref (gad Γ 30)), some (.int e), some (.int (nI k))] [] G := by
    intro zn4
    induction zn4 using Nat.strongRecOn with
    | _ zn4 ih4 =>
      intro k e zh4 hk he
      have hnx : ¬ e < nI 0 → cl e < 10 ∧ e = nI (cl e) := by
        rw [he]
        exact fun h => nx_in k hk h
      refine r_iload2 hX dX5_next_4 (q := 5) rfl ?_
      refine r_bipush hX dX5_next_5 (q := 7) rfl (v := nI 10) (by decide +kernel) ?_
      refine r_icmpN_ge hX dX5_next_7 (q := 10) rfl (tgt := 54) (by decide) (by first | decide | omega) (by first | decide | omega) (fun h7 => ?_) (fun h7 => ?_)
      ·
        refine r_iload1 hX dX5_next_54 (q := 55) rfl ?_
        refine r_if_ge hX dX5_next_55 (q := 58) rfl (tgt := 67) (by decide) (fun h55 => ?_) (fun h55 => ?_)
        ·
          refine r_iload1 hX dX5_next_67 (q := 68) rfl ?_
          refine r_iret hX hR dX5_next_68 ?_
          -- leaf 0 at 68
          refine ⟨_, rfl, ?_⟩
          have : k = 10 := by omega
          subst this
          first
            | (exact CO.fin (k := 3) (by clear hX hR hC hV; unfold oNext; grind [nI_0]) (by decide +kernel) hC fr0)
            | (exact CO.ok (w := nxF μ 10) (μ' := μ) (by clear hX hR hC hV; unfold oNext; grind [nI_0, Int32.not_lt]) he hC fr0)
        ·
          refine r_aload0 hX dX5_next_58 (q := 59) rfl ?_
          refine r_ldc hX dX5_next_59 (q := 61) rfl qX5_110 ?_
          refine r_callV hX dX5_next_61 (q := 64) rfl (c_X5_finding _ Γ _ _ 3 (by decide) (by decide +kernel)) kX5_67 mlX5_finding mvX5_finding rfl rfl rfl ⟨by decide, rfl⟩ ⟨by decide, by decide⟩ (Nat.le_of_ble_eq_true rfl) (keI ?_)
          refine r_goto hX dX5_next_64 (tgt := 68) (by decide) ?_
          refine r_iret hX hR dX5_next_68 ?_
          -- leaf 1 at 68
          refine ⟨_, rfl, ?_⟩
          have : k = 10 := by omega
          subst this
          first
            | (exact CO.fin (k := 3) (by clear hX hR hC hV; unfold oNext; grind [nI_0]) (by decide +kernel) hC fr0)
            | (exact CO.ok (w := nxF μ 10) (μ' := μ) (by clear hX hR hC hV; unfold oNext; grind [nI_0, Int32.not_lt]) he hC fr0)
      ·
        refine r_aload0 hX dX5_next_10 (q := 11) rfl ?_
        refine r_getR hX dX5_next_11 (q := 14) (c' := ch 0 0) rfl fX5_12 rfl ⟨by decide, by decide, rfl⟩ ?_
        refine r_iload2 hX dX5_next_14 (q := 15) rfl ?_
        refine r_callV hX dX5_next_15 (q := 18) rfl (c_X0_isLiked _ Γ _ _ (by first | assumption | decide) _ _ (by assumption) (by assumption) _ _ (by repeat' (first | assumption | with_reducible exact rfl | refine e_add ?_ ?_ | refine e_mul ?_ ?_)) (by first | assumption | omega)) kX5_84 mlX0_isLiked mvX0_isLiked rfl rfl (ch_lay (j := 0) (by first | assumption | decide) (by decide) rfl) ⟨by decide, rfl⟩ ⟨by decide, by decide⟩ (Nat.le_of_ble_eq_true rfl) (keB ?_)
        first | with_reducible refine r_ifd_ne hX dX5_next_18 (q := 21) rfl (tgt := 48) (by decide) (fun h18 => ?_) (fun h18 => ?_) | refine r_ifb_ne hX dX5_next_18 (q := 21) rfl (tgt := 48) (by decide) (fun h18 => ?_) (fun h18 => ?_)
        ·
          refine r_iincN2 hX dX5_next_48 (q := 51) rfl rfl ?_
          refine r_goto hX dX5_next_51 (tgt := 4) (by decide) ?_
          refine ih4 _ ?_ (k + 1) _ rfl ?_ ?_
          ·
            omega
          ·
            omega
          ·
            unfold nxF
            rw [← he]
            have e1k := (hC.2.1 k (by omega)).1
            first
              | exact (if_neg (fun z => by rw [h18] at z; exact absurd z.1 (by decide))).symm
              | exact (if_pos ⟨h18, Or.inl (by rw [nI_0]; exact h22)⟩).symm
              | (rw [e1k, (hC.2.1 _ he1).1] at h43
                 first
                   | exact (if_neg (fun z => z.2.elim (fun q => h22 (by rw [nI_0] at q; exact q)) (fun q => absurd (Int32.lt_of_lt_of_le q h43) Int32.lt_irrefl))).symm
                   | exact (if_pos ⟨h18, Or.inr (Int32.not_le.mp h43)⟩).symm)
        ·
          refine r_iload1 hX dX5_next_21 (q := 22) rfl ?_
          refine r_if_lt hX dX5_next_22 (q := 25) rfl (tgt := 46) (by decide) (fun h22 => ?_) (fun h22 => ?_)
          ·
            refine r_iload2 hX dX5_next_46 (q := 47) rfl ?_
            refine r_istore1 hX dX5_next_47 (q := 48) rfl rfl ?_
            refine r_iincN2 hX dX5_next_48 (q := 51) rfl rfl ?_
            refine r_goto hX dX5_next_51 (tgt := 4) (by decide) ?_
            refine ih4 _ ?_ (k + 1) _ rfl ?_ ?_
            ·
              omega
            ·
              omega
            ·
              unfold nxF
              rw [← he]
              have e1k := (hC.2.1 k (by omega)).1
              first
                | exact (if_neg (fun z => by rw [h18] at z; exact absurd z.1 (by decide))).symm
                | exact (if_pos ⟨h18, Or.inl (by rw [nI_0]; exact h22)⟩).symm
                | (rw [e1k, (hC.2.1 _ he1).1] at h43
                   first
                     | exact (if_neg (fun z => z.2.elim (fun q => h22 (by rw [nI_0] at q; exact q)) (fun q => absurd (Int32.lt_of_lt_of_le q h43) Int32.lt_irrefl))).symm
                     | exact (if_pos ⟨h18, Or.inr (Int32.not_le.mp h43)⟩).symm)
          ·
            obtain ⟨he1, he2⟩ := hnx (by rw [nI_0]; exact h22)
            refine r_aload0 hX dX5_next_25 (q := 26) rfl ?_
            refine r_getR hX dX5_next_26 (q := 29) (c' := ch 0 0) rfl fX5_12 rfl ⟨by decide, by decide, rfl⟩ ?_
            refine r_getR hX dX5_next_29 (q := 32) rfl fX5_71 (ch_lay (j := 0) (by first | assumption | decide) (by decide) rfl) (rC_0 (by first | assumption | decide)) ?_
            refine r_iload2 hX dX5_next_32 (q := 33) rfl ?_
            refine r_ialdN hX dX5_next_33 (q := 34) rfl (ch_lay (j := 1) (by first | assumption | decide) (by decide) rfl) (by repeat' (first | assumption | with_reducible exact rfl | refine e_add ?_ ?_ | refine e_mul ?_ ?_)) (by first | assumption | omega) (by first | decide | omega) ?_
            refine r_aload0 hX dX5_next_34 (q := 35) rfl ?_
            refine r_getR hX dX5_next_35 (q := 38) (c' := ch 0 0) rfl fX5_12 rfl ⟨by decide, by decide, rfl⟩ ?_
            refine r_getR hX dX5_next_38 (q := 41) rfl fX5_71 (ch_lay (j := 0) (by first | assumption | decide) (by decide) rfl) (rC_0 (by first | assumption | decide)) ?_
            refine r_iload1 hX dX5_next_41 (q := 42) rfl ?_
            refine r_ialdN hX dX5_next_42 (q := 43) rfl (ch_lay (j := 1) (by first | assumption | decide) (by decide) rfl) (by repeat' (first | assumption | with_reducible exact rfl | refine e_add ?_ ?_ | refine e_mul ?_ ?_)) (by first | assumption | omega) (by first | decide | omega) ?_
            first | refine r_icmpN_le hX dX5_next_43 (q := 46) rfl (tgt := 48) (by decide) (by first | decide | omega) (by first | decide | omega) (fun h43 => ?_) (fun h43 => ?_) | refine r_icmp_le hX dX5_next_43 (q := 46) rfl (tgt := 48) (by decide) (fun h43 => ?_) (fun h43 => ?_)
            ·
              refine r_iincN2 hX dX5_next_48 (q := 51) rfl rfl ?_
              refine r_goto hX dX5_next_51 (tgt := 4) (by decide) ?_
              refine ih4 _ ?_ (k + 1) _ rfl ?_ ?_
              ·
                omega
              ·
                omega
              ·
                unfold nxF
                rw [← he]
                have e1k := (hC.2.1 k (by omega)).1
                first
                  | exact (if_neg (fun z => by rw [h18] at z; exact absurd z.1 (by decide))).symm
                  | exact (if_pos ⟨h18, Or.inl (by rw [nI_0]; exact h22)⟩).symm
                  | (rw [e1k, (hC.2.1 _ he1).1] at h43
                     first
                       | exact (if_neg (fun z => z.2.elim (fun q => h22 (by rw [nI_0] at q; exact q)) (fun q => absurd (Int32.lt_of_lt_of_le q h43) Int32.lt_irrefl))).symm
                       | exact (if_pos ⟨h18, Or.inr (Int32.not_le.mp h43)⟩).symm)
            ·
              refine r_iload2 hX dX5_next_46 (q := 47) rfl ?_
              refine r_istore1 hX dX5_next_47 (q := 48) rfl rfl ?_
              refine r_iincN2 hX dX5_next_48 (q := 51) rfl rfl ?_
              refine r_goto hX dX5_next_51 (tgt := 4) (by decide) ?_
              refine ih4 _ ?_ (k + 1) _ rfl ?_ ?_
              ·
                omega
              ·
                omega
              ·
                unfold nxF
                rw [← he]
                have e1k := (hC.2.1 k (by omega)).1
                first
                  | exact (if_neg (fun z => by rw [h18] at z; exact absurd z.1 (by decide))).symm
                  | exact (if_pos ⟨h18, Or.inl (by rw [nI_0]; exact h22)⟩).symm
                  | (rw [e1k, (hC.2.1 _ he1).1] at h43
                     first
                       | exact (if_neg (fun z => z.2.elim (fun q => h22 (by rw [nI_0] at q; exact q)) (fun q => absurd (Int32.lt_of_lt_of_le q h43) Int32.lt_irrefl))).symm
                       | exact (if_pos ⟨h18, Or.inr (Int32.not_le.mp h43)⟩).symm)
  refine L4 _ 0 _ rfl ?_ ?_
  ·
    exact Nat.zero_le _
  ·
    rfl
