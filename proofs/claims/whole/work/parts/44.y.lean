set_option maxRecDepth 100000 in
set_option maxHeartbeats 4000000 in
theorem c_X6_behind (l : Launch) (Γ : Gam) (G : GG) (μ : MU) (hM : MR G μ) (b : Nat) (hV : Inv b μ) (x : Int32) (n : Nat) (hx : x = nI n) (hn : b + n < 2 ^ 29) (sb : Bool) : Sp l yX6_behind cX6_behind 5 (some .int) 6 138 [.ref (gad Γ 47), .int x, .int (bi sb)] Γ G (pI (fun v G' => v = (if sb = true then (goF μ n).1 else mnF (goF μ n).2 10) ∧ MR G' μ ∧ FrM G G')) := by
  refine Sp_of (own := RX6) rfl (by decide +kernel) rfl (Nat.le_of_ble_eq_true rfl) (fun X hX hR => ?_)
  show WP X Γ 0 [some (.ref (gad Γ 47)), some (.int x), some (.int (bi sb)), none, none] [] G
  refine r_aload0 hX dX6_behind_0 (q := 1) rfl ?_
  refine r_getR hX dX6_behind_1 (q := 4) rfl fX6_9 rfl ⟨by decide, by decide, rfl⟩ ?_
  refine r_aload0 hX dX6_behind_4 (q := 5) rfl ?_
  refine r_getR hX dX6_behind_5 (q := 8) rfl fX6_16 rfl ⟨by decide, by decide, rfl⟩ ?_
  refine r_callS hX dX6_behind_8 (q := 11) rfl (c_X6_row _ Γ _ 48 50 rfl rfl (by decide)) kX6_156 mlX6_row msX6_row rfl rfl ⟨by decide, by decide⟩ (Nat.le_of_ble_eq_true rfl) (keV ?_)
  obtain ⟨hM1, hW1, hF1⟩ := sv_ok hM
  generalize upc G 50 (rwK (G 48) (G 50) 115) = G1 at hM1 hW1 hF1 ⊢
  refine r_aload0 hX dX6_behind_11 (q := 12) rfl ?_
  refine r_iload1 hX dX6_behind_12 (q := 13) rfl ?_
  refine r_callV hX dX6_behind_13 (q := 16) rfl (c_X6_mealsOf _ Γ _ μ hM1 b hV _ n hx hn) kX6_136 mlX6_mealsOf mvX6_mealsOf rfl rfl rfl ⟨by decide, rfl⟩ ⟨by decide, by decide⟩ (Nat.le_of_ble_eq_true rfl) (kpI (fun v13 G13 p13 => ?_))
  refine r_istore3 hX dX6_behind_16 (q := 17) rfl rfl ?_
  refine r_iload2 hX dX6_behind_17 (q := 18) rfl ?_
  first | with_reducible refine r_ifd_eq hX dX6_behind_18 (q := 21) rfl (tgt := 25) (by decide) (fun h18 => ?_) (fun h18 => ?_) | refine r_ifb_eq hX dX6_behind_18 (q := 21) rfl (tgt := 25) (by decide) (fun h18 => ?_) (fun h18 => ?_)
  ·
    refine r_aload0 hX dX6_behind_25 (q := 26) rfl ?_
    refine r_callV hX dX6_behind_26 (q := 29) rfl (c_X6_manyLiked _ Γ _ (goF μ n).2 p13.2.1) kX6_163 mlX6_manyLiked mvX6_manyLiked rfl rfl rfl ⟨by decide, rfl⟩ ⟨by decide, by decide⟩ (Nat.le_of_ble_eq_true rfl) (keI ?_)
    refine r_istore4 hX dX6_behind_29 (q := 31) rfl rfl ?_
    refine r_aload0 hX dX6_behind_31 (q := 32) rfl ?_
    refine r_getR hX dX6_behind_32 (q := 35) rfl fX6_16 rfl ⟨by decide, by decide, rfl⟩ ?_
    refine r_aload0 hX dX6_behind_35 (q := 36) rfl ?_
    refine r_getR hX dX6_behind_36 (q := 39) rfl fX6_9 rfl ⟨by decide, by decide, rfl⟩ ?_
    refine r_callS hX dX6_behind_39 (q := 42) rfl (c_X6_row _ Γ _ 50 48 rfl rfl (by decide)) kX6_156 mlX6_row msX6_row rfl rfl ⟨by decide, by decide⟩ (Nat.le_of_ble_eq_true rfl) (keV ?_)
    obtain ⟨hM2, hW2, hF2⟩ := ld_ok (hW1.n p13.2.2)
    generalize upc G13 48 (rwK (G13 50) (G13 48) 115) = G2 at hM2 hW2 hF2 ⊢
    refine r_iload4 hX dX6_behind_42 (q := 44) rfl ?_
    refine r_iret hX hR dX6_behind_44 ?_
    -- leaf 0 at 44
    refine ⟨_, rfl, ?_⟩
    first
      | exact ⟨p13.1.trans (if_pos h18).symm, hM2, (hF1.tr p13.2.2.M).tr hF2.M⟩
      | exact ⟨(if_neg (by rw [h18]; decide)).symm, hM2, (hF1.tr p13.2.2.M).tr hF2.M⟩
  ·
    refine r_iload3 hX dX6_behind_21 (q := 22) rfl ?_
    refine r_goto hX dX6_behind_22 (tgt := 29) (by decide) ?_
    refine r_istore4 hX dX6_behind_29 (q := 31) rfl rfl ?_
    refine r_aload0 hX dX6_behind_31 (q := 32) rfl ?_
    refine r_getR hX dX6_behind_32 (q := 35) rfl fX6_16 rfl ⟨by decide, by decide, rfl⟩ ?_
    refine r_aload0 hX dX6_behind_35 (q := 36) rfl ?_
    refine r_getR hX dX6_behind_36 (q := 39) rfl fX6_9 rfl ⟨by decide, by decide, rfl⟩ ?_
    refine r_callS hX dX6_behind_39 (q := 42) rfl (c_X6_row _ Γ _ 50 48 rfl rfl (by decide)) kX6_156 mlX6_row msX6_row rfl rfl ⟨by decide, by decide⟩ (Nat.le_of_ble_eq_true rfl) (keV ?_)
    obtain ⟨hM2, hW2, hF2⟩ := ld_ok (hW1.n p13.2.2)
    generalize upc G13 48 (rwK (G13 50) (G13 48) 115) = G2 at hM2 hW2 hF2 ⊢
    refine r_iload4 hX dX6_behind_42 (q := 44) rfl ?_
    refine r_iret hX hR dX6_behind_44 ?_
    -- leaf 1 at 44
    refine ⟨_, rfl, ?_⟩
    first
      | exact ⟨p13.1.trans (if_pos h18).symm, hM2, (hF1.tr p13.2.2.M).tr hF2.M⟩
      | exact ⟨(if_neg (by rw [h18]; decide)).symm, hM2, (hF1.tr p13.2.2.M).tr hF2.M⟩

set_option maxRecDepth 100000 in
set_option maxHeartbeats 4000000 in
theorem c_X6_ahead (l : Launch) (Γ : Gam) (G : GG) (μ : MU) (hM : MR G μ) (b : Nat) (hV : Inv b μ) (hb : b ≤ 100000) (x w : Int32) : Sp l yX6_ahead cX6_ahead 6 (some .int) 6 138 [.ref (gad Γ 47), .int x, .int w] Γ G (pI (fun v G' => MOut G μ (oAhead μ x w) v G')) := by
  refine Sp_of (own := RX6) rfl (by decide +kernel) rfl (Nat.le_of_ble_eq_true rfl) (fun X hX hR => ?_)
  show WP X Γ 0 [some (.ref (gad Γ 47)), some (.int x), some (.int w), none, none, none] [] G
  refine r_aload0 hX dX6_ahead_0 (q := 1) rfl ?_
  refine r_iload1 hX dX6_ahead_1 (q := 2) rfl ?_
  refine r_iconst hX dX6_ahead_2 (q := 3) rfl (v := nI 0) (by decide +kernel) ?_
  refine r_sipush hX dX6_ahead_3 (q := 6) rfl (v := nI 350) (by decide +kernel) ?_
  refine r_iload2 hX dX6_ahead_6 (q := 7) rfl ?_
  refine r_i2l hX dX6_ahead_7 (q := 8) rfl ?_
  refine r_lconst hX dX6_ahead_8 (q := 9) rfl (v := (nI 0).toInt64) (by decide +kernel) ?_
  refine r_ldc2 hX dX6_ahead_9 (q := 12) rfl qX6_150 ?_
  refine r_callS hX dX6_ahead_12 (q := 15) rfl (c_X6_in _ Γ _ _ _ _) kX6_42 mlX6_in msX6_in rfl rfl ⟨by decide, by decide⟩ (Nat.le_of_ble_eq_true rfl) (keB ?_)
  refine r_callV hX dX6_ahead_15 (q := 18) rfl (c_X6_wrongMeals _ Γ _ μ (by assumption) _ _ _ _) kX6_152 mlX6_wrongMeals mvX6_wrongMeals rfl rfl rfl ⟨by decide, rfl⟩ ⟨by decide, by decide⟩ (Nat.le_of_ble_eq_true rfl) (keI ?_)
  refine r_istore3 hX dX6_ahead_18 (q := 19) rfl rfl ?_
  refine r_iload3 hX dX6_ahead_19 (q := 20) rfl ?_
  refine r_if_ge hX dX6_ahead_20 (q := 23) rfl (tgt := 29) (by decide) (fun h20 => ?_) (fun h20 => ?_)
  ·
    obtain ⟨⟨hg, hx2⟩, hps⟩ := wm_p h20
    have hw := of_decide_eq_true hg
    obtain ⟨xl, xe⟩ := ix_of (by decide) hx2
    have ho : ∀ r, aheadV (goF μ (cl x)) w = r → oAhead μ x w = .inr (r, μ) := by
      intro r hr
      unfold oAhead
      rw [if_pos ⟨hx2, hw⟩, if_neg (fun q => (past_r hV hb (h := 350) (by decide) hx2).mp q hps), hr]
    refine r_aload0 hX dX6_ahead_29 (q := 30) rfl ?_
    refine r_getR hX dX6_ahead_30 (q := 33) rfl fX6_9 rfl ⟨by decide, by decide, rfl⟩ ?_
    refine r_aload0 hX dX6_ahead_33 (q := 34) rfl ?_
    refine r_getR hX dX6_ahead_34 (q := 37) rfl fX6_16 rfl ⟨by decide, by decide, rfl⟩ ?_
    refine r_callS hX dX6_ahead_37 (q := 40) rfl (c_X6_row _ Γ _ 48 50 rfl rfl (by decide)) kX6_156 mlX6_row msX6_row rfl rfl ⟨by decide, by decide⟩ (Nat.le_of_ble_eq_true rfl) (keV ?_)
    obtain ⟨hM1, hW1, hF1⟩ := sv_ok hM
    generalize upc G 50 (rwK (G 48) (G 50) 115) = G1 at hM1 hW1 hF1 ⊢
    refine r_aload0 hX dX6_ahead_40 (q := 41) rfl ?_
    refine r_iload1 hX dX6_ahead_41 (q := 42) rfl ?_
    refine r_callV hX dX6_ahead_42 (q := 45) rfl (c_X6_mealsOf _ Γ _ μ hM1 b hV _ (cl x) xe (by omega)) kX6_136 mlX6_mealsOf mvX6_mealsOf rfl rfl rfl ⟨by decide, rfl⟩ ⟨by decide, by decide⟩ (Nat.le_of_ble_eq_true rfl) (kpI (fun v42 G42 p42 => ?_))
    refine r_istore4 hX dX6_ahead_45 (q := 47) rfl rfl ?_
    refine r_iload2 hX dX6_ahead_47 (q := 48) rfl ?_
    refine r_if_ne hX dX6_ahead_48 (q := 51) rfl (tgt := 56) (by decide) (fun h48 => ?_) (fun h48 => ?_)
    ·
      refine r_iload2 hX dX6_ahead_56 (q := 57) rfl ?_
      refine r_iconst hX dX6_ahead_57 (q := 58) rfl (v := nI 1) (by decide +kernel) ?_
      first | refine r_icmpN_ne hX dX6_ahead_58 (q := 61) rfl (tgt := 68) (by decide) (by first | omega | decide) (by first | omega | decide) (fun h58 => ?_) (fun h58 => ?_) | refine r_icmp_ne hX dX6_ahead_58 (q := 61) rfl (tgt := 68) (by decide) (fun h58 => ?_) (fun h58 => ?_)
      ·
        refine r_iload2 hX dX6_ahead_68 (q := 69) rfl ?_
        refine r_iconst hX dX6_ahead_69 (q := 70) rfl (v := nI 2) (by decide +kernel) ?_
        first | refine r_icmpN_ne hX dX6_ahead_70 (q := 73) rfl (tgt := 82) (by decide) (by first | omega | decide) (by first | omega | decide) (fun h70 => ?_) (fun h70 => ?_) | refine r_icmp_ne hX dX6_ahead_70 (q := 73) rfl (tgt := 82) (by decide) (fun h70 => ?_) (fun h70 => ?_)
        ·
          refine r_iload2 hX dX6_ahead_82 (q := 83) rfl ?_
          refine r_iconst hX dX6_ahead_83 (q := 84) rfl (v := nI 3) (by decide +kernel) ?_
          first | refine r_icmpN_ne hX dX6_ahead_84 (q := 87) rfl (tgt := 96) (by decide) (by first | omega | decide) (by first | omega | decide) (fun h84 => ?_) (fun h84 => ?_) | refine r_icmp_ne hX dX6_ahead_84 (q := 87) rfl (tgt := 96) (by decide) (fun h84 => ?_) (fun h84 => ?_)
          ·
            have hw4 : ∃ f, f < 10 ∧ w - nI 4 = nI f := by
              have k0 : ¬ w = nI 0 := fun q => h48 (q.trans nI_0)
              obtain ⟨q1, q2⟩ := ix_of (by decide) hw
              rw [q2] at k0 h58 h70 h84 ⊢
              generalize cl w = j at *
              have : 4 ≤ j := by
                rcases (show j = 0 ∨ j = 1 ∨ j = 2 ∨ j = 3 ∨ 4 ≤ j by omega) with q | q | q | q | q
                · subst q; exact absurd rfl k0
                · subst q; exact absurd rfl h58
                · subst q; exact absurd rfl h70
                · subst q; exact absurd rfl h84
                · exact q
              exact ⟨j - 4, by omega, pk_sub this⟩
            obtain ⟨f4, hf4, he4⟩ := hw4
            refine r_aload0 hX dX6_ahead_96 (q := 97) rfl ?_
            refine r_iload2 hX dX6_ahead_97 (q := 98) rfl ?_
            refine r_iconst hX dX6_ahead_98 (q := 99) rfl (v := nI 4) (by decide +kernel) ?_
            refine r_isub hX dX6_ahead_99 (q := 100) rfl ?_
            refine r_callV hX dX6_ahead_100 (q := 103) rfl (c_X6_like _ Γ _ _ f4 he4 hf4) kX6_50 mlX6_like mvX6_like rfl rfl rfl ⟨by decide, rfl⟩ ⟨by decide, by decide⟩ (Nat.le_of_ble_eq_true rfl) (keI ?_)
            rw [p42.2.1 _ (by omega)]
            refine r_istore5 hX dX6_ahead_103 (q := 105) rfl rfl ?_
            refine r_aload0 hX dX6_ahead_105 (q := 106) rfl ?_
            refine r_getR hX dX6_ahead_106 (q := 109) rfl fX6_16 rfl ⟨by decide, by decide, rfl⟩ ?_
            refine r_aload0 hX dX6_ahead_109 (q := 110) rfl ?_
            refine r_getR hX dX6_ahead_110 (q := 113) rfl fX6_9 rfl ⟨by decide, by decide, rfl⟩ ?_
            refine r_callS hX dX6_ahead_113 (q := 116) rfl (c_X6_row _ Γ _ 50 48 rfl rfl (by decide)) kX6_156 mlX6_row msX6_row rfl rfl ⟨by decide, by decide⟩ (Nat.le_of_ble_eq_true rfl) (keV ?_)
            obtain ⟨hM2, hW2, hF2⟩ := ld_ok (hW1.n p42.2.2)
            generalize upc G42 48 (rwK (G42 50) (G42 48) 115) = G2 at hM2 hW2 hF2 ⊢
            have hFF := (hF1.tr p42.2.2.M).tr hF2.M
            refine r_iload5 hX dX6_ahead_116 (q := 118) rfl ?_
            refine r_iret hX hR dX6_ahead_118 ?_
            -- leaf 0 at 118
            refine ⟨_, rfl, ?_⟩
            first
              | exact MOut.ok (ho _ (if_pos (h48.trans nI_0.symm))) p42.1 hM2 hFF
              | exact MOut.ok (ho _ (by unfold aheadV; rw [if_neg (fun q => h48 (q.trans nI_0)), if_pos h58])) rfl hM2 hFF
              | exact MOut.ok (ho _ (by unfold aheadV; rw [if_neg (fun q => h48 (q.trans nI_0)), if_neg h58, if_pos h70])) rfl hM2 hFF
              | exact MOut.ok (ho _ (by unfold aheadV; rw [if_neg (fun q => h48 (q.trans nI_0)), if_neg h58, if_neg h70, if_pos h84])) rfl hM2 hFF
              | exact MOut.ok (ho _ (by unfold aheadV; rw [if_neg (fun q => h48 (q.trans nI_0)), if_neg h58, if_neg h70, if_neg h84, he4, cl_nI (by omega)])) rfl hM2 hFF
          ·
            refine r_aload0 hX dX6_ahead_87 (q := 88) rfl ?_
            refine r_getR hX dX6_ahead_88 (q := 91) rfl fX6_9 rfl ⟨by decide, by decide, rfl⟩ ?_
            refine r_iconst hX dX6_ahead_91 (q := 92) rfl (v := nI 3) (by decide +kernel) ?_
            refine r_ialdN hX dX6_ahead_92 (q := 93) rfl rfl (by repeat' (first | assumption | with_reducible exact rfl | refine e_add ?_ ?_ | refine e_mul ?_ ?_)) (by first | assumption | omega) (by first | decide | omega) ?_
            rw [p42.2.1 3 (by decide)]
            refine r_goto hX dX6_ahead_93 (tgt := 103) (by decide) ?_
            refine r_istore5 hX dX6_ahead_103 (q := 105) rfl rfl ?_
            refine r_aload0 hX dX6_ahead_105 (q := 106) rfl ?_
            refine r_getR hX dX6_ahead_106 (q := 109) rfl fX6_16 rfl ⟨by decide, by decide, rfl⟩ ?_
            refine r_aload0 hX dX6_ahead_109 (q := 110) rfl ?_
            refine r_getR hX dX6_ahead_110 (q := 113) rfl fX6_9 rfl ⟨by decide, by decide, rfl⟩ ?_
            refine r_callS hX dX6_ahead_113 (q := 116) rfl (c_X6_row _ Γ _ 50 48 rfl rfl (by decide)) kX6_156 mlX6_row msX6_row rfl rfl ⟨by decide, by decide⟩ (Nat.le_of_ble_eq_true rfl) (keV ?_)
            obtain ⟨hM2, hW2, hF2⟩ := ld_ok (hW1.n p42.2.2)
            generalize upc G42 48 (rwK (G42 50) (G42 48) 115) = G2 at hM2 hW2 hF2 ⊢
            have hFF := (hF1.tr p42.2.2.M).tr hF2.M
            refine r_iload5 hX dX6_ahead_116 (q := 118) rfl ?_
            refine r_iret hX hR dX6_ahead_118 ?_
            -- leaf 1 at 118
            refine ⟨_, rfl, ?_⟩
            first
              | exact MOut.ok (ho _ (if_pos (h48.trans nI_0.symm))) p42.1 hM2 hFF
              | exact MOut.ok (ho _ (by unfold aheadV; rw [if_neg (fun q => h48 (q.trans nI_0)), if_pos h58])) rfl hM2 hFF
              | exact MOut.ok (ho _ (by unfold aheadV; rw [if_neg (fun q => h48 (q.trans nI_0)), if_neg h58, if_pos h70])) rfl hM2 hFF
              | exact MOut.ok (ho _ (by unfold aheadV; rw [if_neg (fun q => h48 (q.trans nI_0)), if_neg h58, if_neg h70, if_pos h84])) rfl hM2 hFF
              | exact MOut.ok (ho _ (by unfold aheadV; rw [if_neg (fun q => h48 (q.trans nI_0)), if_neg h58, if_neg h70, if_neg h84, he4, cl_nI (by omega)])) rfl hM2 hFF
        ·
          refine r_aload0 hX dX6_ahead_73 (q := 74) rfl ?_
          refine r_getR hX dX6_ahead_74 (q := 77) rfl fX6_9 rfl ⟨by decide, by decide, rfl⟩ ?_
          refine r_iconst hX dX6_ahead_77 (q := 78) rfl (v := nI 4) (by decide +kernel) ?_
          refine r_ialdN hX dX6_ahead_78 (q := 79) rfl rfl (by repeat' (first | assumption | with_reducible exact rfl | refine e_add ?_ ?_ | refine e_mul ?_ ?_)) (by first | assumption | omega) (by first | decide | omega) ?_
          rw [p42.2.1 4 (by decide)]
          refine r_goto hX dX6_ahead_79 (tgt := 103) (by decide) ?_
          refine r_istore5 hX dX6_ahead_103 (q := 105) rfl rfl ?_
          refine r_aload0 hX dX6_ahead_105 (q := 106) rfl ?_
          refine r_getR hX dX6_ahead_106 (q := 109) rfl fX6_16 rfl ⟨by decide, by decide, rfl⟩ ?_
          refine r_aload0 hX dX6_ahead_109 (q := 110) rfl ?_
          refine r_getR hX dX6_ahead_110 (q := 113) rfl fX6_9 rfl ⟨by decide, by decide, rfl⟩ ?_
          refine r_callS hX dX6_ahead_113 (q := 116) rfl (c_X6_row _ Γ _ 50 48 rfl rfl (by decide)) kX6_156 mlX6_row msX6_row rfl rfl ⟨by decide, by decide⟩ (Nat.le_of_ble_eq_true rfl) (keV ?_)
          obtain ⟨hM2, hW2, hF2⟩ := ld_ok (hW1.n p42.2.2)
          generalize upc G42 48 (rwK (G42 50) (G42 48) 115) = G2 at hM2 hW2 hF2 ⊢
          have hFF := (hF1.tr p42.2.2.M).tr hF2.M
          refine r_iload5 hX dX6_ahead_116 (q := 118) rfl ?_
          refine r_iret hX hR dX6_ahead_118 ?_
          -- leaf 2 at 118
          refine ⟨_, rfl, ?_⟩
          first
            | exact MOut.ok (ho _ (if_pos (h48.trans nI_0.symm))) p42.1 hM2 hFF
            | exact MOut.ok (ho _ (by unfold aheadV; rw [if_neg (fun q => h48 (q.trans nI_0)), if_pos h58])) rfl hM2 hFF
            | exact MOut.ok (ho _ (by unfold aheadV; rw [if_neg (fun q => h48 (q.trans nI_0)), if_neg h58, if_pos h70])) rfl hM2 hFF
            | exact MOut.ok (ho _ (by unfold aheadV; rw [if_neg (fun q => h48 (q.trans nI_0)), if_neg h58, if_neg h70, if_pos h84])) rfl hM2 hFF
            | exact MOut.ok (ho _ (by unfold aheadV; rw [if_neg (fun q => h48 (q.trans nI_0)), if_neg h58, if_neg h70, if_neg h84, he4, cl_nI (by omega)])) rfl hM2 hFF
      ·
        refine r_aload0 hX dX6_ahead_61 (q := 62) rfl ?_
        refine r_callV hX dX6_ahead_62 (q := 65) rfl (c_X6_liked _ Γ _ (goF μ (cl x)).2 p42.2.1) kX6_160 mlX6_liked mvX6_liked rfl rfl rfl ⟨by decide, rfl⟩ ⟨by decide, by decide⟩ (Nat.le_of_ble_eq_true rfl) (keI ?_)
        refine r_goto hX dX6_ahead_65 (tgt := 103) (by decide) ?_
        refine r_istore5 hX dX6_ahead_103 (q := 105) rfl rfl ?_
        refine r_aload0 hX dX6_ahead_105 (q := 106) rfl ?_
        refine r_getR hX dX6_ahead_106 (q := 109) rfl fX6_16 rfl ⟨by decide, by decide, rfl⟩ ?_
        refine r_aload0 hX dX6_ahead_109 (q := 110) rfl ?_
        refine r_getR hX dX6_ahead_110 (q := 113) rfl fX6_9 rfl ⟨by decide, by decide, rfl⟩ ?_
        refine r_callS hX dX6_ahead_113 (q := 116) rfl (c_X6_row _ Γ _ 50 48 rfl rfl (by decide)) kX6_156 mlX6_row msX6_row rfl rfl ⟨by decide, by decide⟩ (Nat.le_of_ble_eq_true rfl) (keV ?_)
        obtain ⟨hM2, hW2, hF2⟩ := ld_ok (hW1.n p42.2.2)
        generalize upc G42 48 (rwK (G42 50) (G42 48) 115) = G2 at hM2 hW2 hF2 ⊢
        have hFF := (hF1.tr p42.2.2.M).tr hF2.M
        refine r_iload5 hX dX6_ahead_116 (q := 118) rfl ?_
        refine r_iret hX hR dX6_ahead_118 ?_
        -- leaf 3 at 118
        refine ⟨_, rfl, ?_⟩
        first
          | exact MOut.ok (ho _ (if_pos (h48.trans nI_0.symm))) p42.1 hM2 hFF
          | exact MOut.ok (ho _ (by unfold aheadV; rw [if_neg (fun q => h48 (q.trans nI_0)), if_pos h58])) rfl hM2 hFF
          | exact MOut.ok (ho _ (by unfold aheadV; rw [if_neg (fun q => h48 (q.trans nI_0)), if_neg h58, if_pos h70])) rfl hM2 hFF
          | exact MOut.ok (ho _ (by unfold aheadV; rw [if_neg (fun q => h48 (q.trans nI_0)), if_neg h58, if_neg h70, if_pos h84])) rfl hM2 hFF
          | exact MOut.ok (ho _ (by unfold aheadV; rw [if_neg (fun q => h48 (q.trans nI_0)), if_neg h58, if_neg h70, if_neg h84, he4, cl_nI (by omega)])) rfl hM2 hFF
    ·
      refine r_iload4 hX dX6_ahead_51 (q := 53) rfl ?_
      refine r_goto hX dX6_ahead_53 (tgt := 103) (by decide) ?_
      refine r_istore5 hX dX6_ahead_103 (q := 105) rfl rfl ?_
      refine r_aload0 hX dX6_ahead_105 (q := 106) rfl ?_
      refine r_getR hX dX6_ahead_106 (q := 109) rfl fX6_16 rfl ⟨by decide, by decide, rfl⟩ ?_
      refine r_aload0 hX dX6_ahead_109 (q := 110) rfl ?_
      refine r_getR hX dX6_ahead_110 (q := 113) rfl fX6_9 rfl ⟨by decide, by decide, rfl⟩ ?_
      refine r_callS hX dX6_ahead_113 (q := 116) rfl (c_X6_row _ Γ _ 50 48 rfl rfl (by decide)) kX6_156 mlX6_row msX6_row rfl rfl ⟨by decide, by decide⟩ (Nat.le_of_ble_eq_true rfl) (keV ?_)
      obtain ⟨hM2, hW2, hF2⟩ := ld_ok (hW1.n p42.2.2)
      generalize upc G42 48 (rwK (G42 50) (G42 48) 115) = G2 at hM2 hW2 hF2 ⊢
      have hFF := (hF1.tr p42.2.2.M).tr hF2.M
      refine r_iload5 hX dX6_ahead_116 (q := 118) rfl ?_
      refine r_iret hX hR dX6_ahead_118 ?_
      -- leaf 4 at 118
      refine ⟨_, rfl, ?_⟩
      first
        | exact MOut.ok (ho _ (if_pos (h48.trans nI_0.symm))) p42.1 hM2 hFF
        | exact MOut.ok (ho _ (by unfold aheadV; rw [if_neg (fun q => h48 (q.trans nI_0)), if_pos h58])) rfl hM2 hFF
        | exact MOut.ok (ho _ (by unfold aheadV; rw [if_neg (fun q => h48 (q.trans nI_0)), if_neg h58, if_pos h70])) rfl hM2 hFF
        | exact MOut.ok (ho _ (by unfold aheadV; rw [if_neg (fun q => h48 (q.trans nI_0)), if_neg h58, if_neg h70, if_pos h84])) rfl hM2 hFF
        | exact MOut.ok (ho _ (by unfold aheadV; rw [if_neg (fun q => h48 (q.trans nI_0)), if_neg h58, if_neg h70, if_neg h84, he4, cl_nI (by omega)])) rfl hM2 hFF
  ·
    obtain ⟨kk, hk7, hkv, hko⟩ := wm_n h20
    refine r_aload0 hX dX6_ahead_23 (q := 24) rfl ?_
    refine r_iload3 hX dX6_ahead_24 (q := 25) rfl ?_
    refine r_callV hX dX6_ahead_25 (q := 28) rfl (c_X6_finds _ Γ _ _ kk hk7 (by rw [hkv]; exact fk_x kk hk7)) kX6_36 mlX6_finds mvX6_finds rfl rfl rfl ⟨by decide, rfl⟩ ⟨by decide, by decide⟩ (Nat.le_of_ble_eq_true rfl) (kpI (fun v25 G25 p25 => ?_))
    refine r_iret hX hR dX6_ahead_28 ?_
    -- leaf 5 at 28
    refine ⟨_, rfl, ?_⟩
    rcases hko with ⟨rfl, q⟩ | ⟨rfl, q, z9⟩
    · exact MOut.fin (k := 0) (if_neg (fun q2 => q ⟨decide_eq_true q2.2, q2.1⟩)) ⟨p25.1.trans hkv, p25.2⟩ hM FrM.rf
    · exact MOut.fin (k := 4) ((if_pos ⟨q.2, of_decide_eq_true q.1⟩).trans (if_pos ((past_r hV hb (h := 350) (by decide) q.2).mpr z9))) ⟨p25.1.trans hkv, p25.2⟩ hM FrM.rf

set_option maxRecDepth 100000 in
set_option maxHeartbeats 4000000 in
theorem c_X6_when (l : Launch) (Γ : Gam) (G : GG) (μ : MU) (hM : MR G μ) (b : Nat) (hV : Inv b μ) (hb : b ≤ 100000) (x : Int32) : Sp l yX6_when cX6_when 3 (some .int) 5 115 [.ref (gad Γ 47), .int x] Γ G (pI (fun v G' => MOut G μ (oWhen μ x) v G')) := by
  refine Sp_of (own := RX6) rfl (by decide +kernel) rfl (Nat.le_of_ble_eq_true rfl) (fun X hX hR => ?_)
  show WP X Γ 0 [some (.ref (gad Γ 47)), some (.int x), none] [] G
  refine r_iload1 hX dX6_when_0 (q := 1) rfl ?_
  refine r_callS hX dX6_when_1 (q := 4) rfl (c_X6_isFood _ Γ _ _) kX6_55 mlX6_isFood msX6_isFood rfl rfl ⟨by decide, by decide⟩ (Nat.le_of_ble_eq_true rfl) (keB ?_)
  first | with_reducible refine r_ifd_ne hX dX6_when_4 (q := 7) rfl (tgt := 14) (by decide) (fun h4 => ?_) (fun h4 => ?_) | refine r_ifb_ne hX dX6_when_4 (q := 7) rfl (tgt := 14) (by decide) (fun h4 => ?_) (fun h4 => ?_)
  ·
    obtain ⟨xl, xe⟩ := ix_of (by decide) h4
    refine r_aload0 hX dX6_when_14 (q := 15) rfl ?_
    refine r_getR hX dX6_when_15 (q := 18) rfl fX6_9 rfl ⟨by decide, by decide, rfl⟩ ?_
    refine r_iconst hX dX6_when_18 (q := 19) rfl (v := nI 0) (by decide +kernel) ?_
    refine r_ialdN hX dX6_when_19 (q := 20) rfl rfl (by repeat' (first | assumption | with_reducible exact rfl | refine e_add ?_ ?_ | refine e_mul ?_ ?_)) (by first | assumption | omega) (by first | decide | omega) ?_
    rw [hM 0 (by decide)]
    refine r_sipush hX dX6_when_20 (q := 23) rfl (v := nI 350) (by decide +kernel) ?_
    refine r_iadd hX dX6_when_23 (q := 24) rfl ?_
    refine r_ldc hX dX6_when_24 (q := 26) rfl qX6_134 ?_
    first | refine r_icmpN_le hX dX6_when_26 (q := 29) rfl (tgt := 36) (by decide) (by first | omega | decide) (by first | omega | decide) (fun h26 => ?_) (fun h26 => ?_) | refine r_icmp_le hX dX6_when_26 (q := 29) rfl (tgt := 36) (by decide) (fun h26 => ?_) (fun h26 => ?_)
    ·
      refine r_aload0 hX dX6_when_36 (q := 37) rfl ?_
      refine r_getR hX dX6_when_37 (q := 40) rfl fX6_9 rfl ⟨by decide, by decide, rfl⟩ ?_
      refine r_aload0 hX dX6_when_40 (q := 41) rfl ?_
      refine r_getR hX dX6_when_41 (q := 44) rfl fX6_16 rfl ⟨by decide, by decide, rfl⟩ ?_
      refine r_callS hX dX6_when_44 (q := 47) rfl (c_X6_row _ Γ _ 48 50 rfl rfl (by decide)) kX6_156 mlX6_row msX6_row rfl rfl ⟨by decide, by decide⟩ (Nat.le_of_ble_eq_true rfl) (keV ?_)
      obtain ⟨hM1, hW1, hF1⟩ := sv_ok hM
      generalize upc G 50 (rwK (G 48) (G 50) 115) = G1 at hM1 hW1 hF1 ⊢
      refine r_iconst hX dX6_when_47 (q := 48) rfl (v := nI 0) (by decide +kernel) ?_
      refine r_istore2 hX dX6_when_48 (q := 49) rfl rfl ?_
      have L49 : ∀ (zn49 : Nat) (k : Nat) (G2 : GG), zn49 = 351 - k → (k ≤ 351) → (MR G2 (goF μ k).2) → (WS G2 μ) → (FrM G G2) → (∀ j, j < k → tlP μ (cl x) j = false) → WP X Γ 49 [some (.ref (gad Γ 47)), some (.int x), some (.int (nI k))] [] G2 := by
        intro zn49
        induction zn49 using Nat.strongRecOn with
        | _ zn49 ih49 =>
          intro k G2 zh49 hk h2 hW hF hP
          have hVk := hV.go k (by omega)
          refine r_iload2 hX dX6_when_49 (q := 50) rfl ?_
          refine r_sipush hX dX6_when_50 (q := 53) rfl (v := nI 350) (by decide +kernel) ?_
          refine r_icmpN_gt hX dX6_when_53 (q := 56) rfl (tgt := 79) (by decide) (by first | omega | decide) (by first | omega | decide) (fun h53 => ?_) (fun h53 => ?_)
          ·
            refine r_aload0 hX dX6_when_79 (q := 80) rfl ?_
            refine r_getR hX dX6_when_80 (q := 83) rfl fX6_16 rfl ⟨by decide, by decide, rfl⟩ ?_
            refine r_aload0 hX dX6_when_83 (q := 84) rfl ?_
            refine r_getR hX dX6_when_84 (q := 87) rfl fX6_9 rfl ⟨by decide, by decide, rfl⟩ ?_
            refine r_callS hX dX6_when_87 (q := 90) rfl (c_X6_row _ Γ _ 50 48 rfl rfl (by decide)) kX6_156 mlX6_row msX6_row rfl rfl ⟨by decide, by decide⟩ (Nat.le_of_ble_eq_true rfl) (keV ?_)
            obtain ⟨hM3, hW3, hF3⟩ := ld_ok hW
            generalize upc G2 48 (rwK (G2 50) (G2 48) 115) = G3 at hM3 hW3 hF3 ⊢
            refine r_iload2 hX dX6_when_90 (q := 91) rfl ?_
            refine r_sipush hX dX6_when_91 (q := 94) rfl (v := nI 350) (by decide +kernel) ?_
            refine r_icmpN_le hX dX6_when_94 (q := 97) rfl (tgt := 106) (by decide) (by first | omega | decide) (by first | omega | decide) (fun h94 => ?_) (fun h94 => ?_)
            ·
              refine r_iload2 hX dX6_when_106 (q := 107) rfl ?_
              refine r_iret hX hR dX6_when_107 ?_
              -- leaf 0 at 107
              refine ⟨_, rfl, ?_⟩
              have hs : oWhen μ x = tlO μ (fsF (tlP μ (cl x)) 351) := (if_pos h4).trans (if_neg (fun q => (past_r hV hb (h := 350) (by decide) (le_nI (Nat.le_refl _) (by decide))).mp q h26))
              first
                | exact MOut.fin (k := 3) (hs.trans (tl_none (fun j hj => hP j (by omega)))) ⟨p100.1.trans (by decide +kernel), p100.2⟩ hM3 (hF.tr hF3.M)
                | exact MOut.ok (hs.trans (tl_some h61 hP (by omega))) rfl hM3 (hF.tr hF3.M)
                | (exfalso; omega)
            ·
              refine r_aload0 hX dX6_when_97 (q := 98) rfl ?_
              refine r_ldc hX dX6_when_98 (q := 100) rfl qX6_35 ?_
              refine r_callV hX dX6_when_100 (q := 103) rfl (c_X6_finds _ Γ _ _ 3 (by decide) (by decide +kernel)) kX6_36 mlX6_finds mvX6_finds rfl rfl rfl ⟨by decide, rfl⟩ ⟨by decide, by decide⟩ (Nat.le_of_ble_eq_true rfl) (kpI (fun v100 G100 p100 => ?_))
              refine r_goto hX dX6_when_103 (tgt := 107) (by decide) ?_
              refine r_iret hX hR dX6_when_107 ?_
              -- leaf 1 at 107
              refine ⟨_, rfl, ?_⟩
              have hs : oWhen μ x = tlO μ (fsF (tlP μ (cl x)) 351) := (if_pos h4).trans (if_neg (fun q => (past_r hV hb (h := 350) (by decide) (le_nI (Nat.le_refl _) (by decide))).mp q h26))
              first
                | exact MOut.fin (k := 3) (hs.trans (tl_none (fun j hj => hP j (by omega)))) ⟨p100.1.trans (by decide +kernel), p100.2⟩ hM3 (hF.tr hF3.M)
                | exact MOut.ok (hs.trans (tl_some h61 hP (by omega))) rfl hM3 (hF.tr hF3.M)
                | (exfalso; omega)
          ·
            refine r_aload0 hX dX6_when_56 (q := 57) rfl ?_
            refine r_iload1 hX dX6_when_57 (q := 58) rfl ?_
            refine r_callV hX dX6_when_58 (q := 61) rfl (c_X6_isLiked _ Γ _ (goF μ k).2 h2 _ (cl x) xe (by omega)) kX6_65 mlX6_isLiked mvX6_isLiked rfl rfl rfl ⟨by decide, rfl⟩ ⟨by decide, by decide⟩ (Nat.le_of_ble_eq_true rfl) (keB ?_)
            first | with_reducible refine r_ifd_ne hX dX6_when_61 (q := 64) rfl (tgt := 79) (by decide) (fun h61 => ?_) (fun h61 => ?_) | refine r_ifb_ne hX dX6_when_61 (q := 64) rfl (tgt := 79) (by decide) (fun h61 => ?_) (fun h61 => ?_)
            ·
              refine r_aload0 hX dX6_when_79 (q := 80) rfl ?_
              refine r_getR hX dX6_when_80 (q := 83) rfl fX6_16 rfl ⟨by decide, by decide, rfl⟩ ?_
              refine r_aload0 hX dX6_when_83 (q := 84) rfl ?_
              refine r_getR hX dX6_when_84 (q := 87) rfl fX6_9 rfl ⟨by decide, by decide, rfl⟩ ?_
              refine r_callS hX dX6_when_87 (q := 90) rfl (c_X6_row _ Γ _ 50 48 rfl rfl (by decide)) kX6_156 mlX6_row msX6_row rfl rfl ⟨by decide, by decide⟩ (Nat.le_of_ble_eq_true rfl) (keV ?_)
              obtain ⟨hM3, hW3, hF3⟩ := ld_ok hW
              generalize upc G2 48 (rwK (G2 50) (G2 48) 115) = G3 at hM3 hW3 hF3 ⊢
              refine r_iload2 hX dX6_when_90 (q := 91) rfl ?_
              refine r_sipush hX dX6_when_91 (q := 94) rfl (v := nI 350) (by decide +kernel) ?_
              refine r_icmpN_le hX dX6_when_94 (q := 97) rfl (tgt := 106) (by decide) (by first | omega | decide) (by first | omega | decide) (fun h94 => ?_) (fun h94 => ?_)
              ·
                refine r_iload2 hX dX6_when_106 (q := 107) rfl ?_
                refine r_iret hX hR dX6_when_107 ?_
                -- leaf 2 at 107
                refine ⟨_, rfl, ?_⟩
                have hs : oWhen μ x = tlO μ (fsF (tlP μ (cl x)) 351) := (if_pos h4).trans (if_neg (fun q => (past_r hV hb (h := 350) (by decide) (le_nI (Nat.le_refl _) (by decide))).mp q h26))
                first
                  | exact MOut.fin (k := 3) (hs.trans (tl_none (fun j hj => hP j (by omega)))) ⟨p100.1.trans (by decide +kernel), p100.2⟩ hM3 (hF.tr hF3.M)
                  | exact MOut.ok (hs.trans (tl_some h61 hP (by omega))) rfl hM3 (hF.tr hF3.M)
                  | (exfalso; omega)
              ·
                refine r_aload0 hX dX6_when_97 (q := 98) rfl ?_
                refine r_ldc hX dX6_when_98 (q := 100) rfl qX6_35 ?_
                refine r_callV hX dX6_when_100 (q := 103) rfl (c_X6_finds _ Γ _ _ 3 (by decide) (by decide +kernel)) kX6_36 mlX6_finds mvX6_finds rfl rfl rfl ⟨by decide, rfl⟩ ⟨by decide, by decide⟩ (Nat.le_of_ble_eq_true rfl) (kpI (fun v100 G100 p100 => ?_))
                refine r_goto hX dX6_when_103 (tgt := 107) (by decide) ?_
                refine r_iret hX hR dX6_when_107 ?_
                -- leaf 3 at 107
                refine ⟨_, rfl, ?_⟩
                have hs : oWhen μ x = tlO μ (fsF (tlP μ (cl x)) 351) := (if_pos h4).trans (if_neg (fun q => (past_r hV hb (h := 350) (by decide) (le_nI (Nat.le_refl _) (by decide))).mp q h26))
                first
                  | exact MOut.fin (k := 3) (hs.trans (tl_none (fun j hj => hP j (by omega)))) ⟨p100.1.trans (by decide +kernel), p100.2⟩ hM3 (hF.tr hF3.M)
                  | exact MOut.ok (hs.trans (tl_some h61 hP (by omega))) rfl hM3 (hF.tr hF3.M)
                  | (exfalso; omega)
            ·
              refine r_aload0 hX dX6_when_64 (q := 65) rfl ?_
              refine r_aload0 hX dX6_when_65 (q := 66) rfl ?_
              refine r_callV hX dX6_when_66 (q := 69) rfl (c_X6_served _ Γ _ (goF μ k).2 h2 (b + k) hVk (by omega)) kX6_126 mlX6_served mvX6_served rfl rfl rfl ⟨by decide, rfl⟩ ⟨by decide, by decide⟩ (Nat.le_of_ble_eq_true rfl) (keI ?_)
              refine r_callV hX dX6_when_69 (q := 72) rfl (c_X6_meal _ Γ _ (goF μ k).2 h2 (b + k) hVk _ (servN (goF μ k).2) rfl (servN_lt hVk (by omega))) kX6_129 mlX6_meal mvX6_meal rfl rfl rfl ⟨by decide, rfl⟩ ⟨by decide, by decide⟩ (Nat.le_of_ble_eq_true rfl) (kpI (fun v69 G69 p69 => ?_))
              refine r_pop hX dX6_when_72 (q := 73) rfl rfl ?_
              refine r_iincN2 hX dX6_when_73 (q := 76) rfl rfl ?_
              refine r_goto hX dX6_when_76 (tgt := 49) (by decide) ?_
              refine ih49 _ ?_ (k + 1) _ rfl ?_ ?_ ?_ ?_ ?_
              ·
                omega
              ·
                omega
              ·
                exact p69.2.1
              ·
                exact hW.n p69.2.2
              ·
                exact hF.tr p69.2.2.M
              ·
                intro j hj
                by_cases e : j = k
                · subst e; exact h61
                · exact hP j (by omega)
      refine L49 _ 0 _ rfl ?_ ?_ ?_ ?_ ?_
      ·
        exact Nat.zero_le _
      ·
        exact hM1
      ·
        exact hW1
      ·
        exact hF1
      ·
        exact fun j hj => absurd hj (by omega)
    ·
      refine r_aload0 hX dX6_when_29 (q := 30) rfl ?_
      refine r_ldc hX dX6_when_30 (q := 32) rfl qX6_135 ?_
      refine r_callV hX dX6_when_32 (q := 35) rfl (c_X6_finds _ Γ _ _ 4 (by decide) (by decide +kernel)) kX6_36 mlX6_finds mvX6_finds rfl rfl rfl ⟨by decide, rfl⟩ ⟨by decide, by decide⟩ (Nat.le_of_ble_eq_true rfl) (kpI (fun v32 G32 p32 => ?_))
      refine r_iret hX hR dX6_when_35 ?_
      -- leaf 4 at 35
      refine ⟨_, rfl, ?_⟩
      exact MOut.fin (k := 4) ((if_pos h4).trans (if_pos ((past_r hV hb (h := 350) (by decide) (le_nI (Nat.le_refl _) (by decide))).mpr h26))) ⟨p32.1.trans (by decide +kernel), p32.2⟩ hM FrM.rf
  ·
    refine r_aload0 hX dX6_when_7 (q := 8) rfl ?_
    refine r_ldc hX dX6_when_8 (q := 10) rfl qX6_34 ?_
    refine r_callV hX dX6_when_10 (q := 13) rfl (c_X6_finds _ Γ _ _ 0 (by decide) (by decide +kernel)) kX6_36 mlX6_finds mvX6_finds rfl rfl rfl ⟨by decide, rfl⟩ ⟨by decide, by decide⟩ (Nat.le_of_ble_eq_true rfl) (kpI (fun v10 G10 p10 => ?_))
    refine r_iret hX hR dX6_when_13 ?_
    -- leaf 5 at 13
    refine ⟨_, rfl, ?_⟩
    exact MOut.fin (k := 0) (if_neg h4) ⟨p10.1.trans (by decide +kernel), p10.2⟩ hM FrM.rf

set_option maxRecDepth 100000 in
set_option maxHeartbeats 4000000 in
theorem c_X6_times (l : Launch) (Γ : Gam) (G : GG) (μ : MU) (hM : MR G μ) (b : Nat) (hV : Inv b μ) (hb : b ≤ 100000) (x : Int32) : Sp l yX6_times cX6_times 4 (some .int) 5 115 [.ref (gad Γ 47), .int x] Γ G (pI (fun v G' => MOut G μ (oTimes μ x) v G')) := by
  refine Sp_of (own := RX6) rfl (by decide +kernel) rfl (Nat.le_of_ble_eq_true rfl) (fun X hX hR => ?_)
  show WP X Γ 0 [some (.ref (gad Γ 47)), some (.int x), none, none] [] G
  refine r_aload0 hX dX6_times_0 (q := 1) rfl ?_
  refine r_iload1 hX dX6_times_1 (q := 2) rfl ?_
  refine r_callV hX dX6_times_2 (q := 5) rfl (c_X6_isTaste _ Γ _ μ (by assumption) _) kX6_99 mlX6_isTaste mvX6_isTaste rfl rfl rfl ⟨by decide, rfl⟩ ⟨by decide, by decide⟩ (Nat.le_of_ble_eq_true rfl) (keB ?_)
  first | with_reducible refine r_ifd_ne hX dX6_times_5 (q := 8) rfl (tgt := 15) (by decide) (fun h5 => ?_) (fun h5 => ?_) | refine r_ifb_ne hX dX6_times_5 (q := 8) rfl (tgt := 15) (by decide) (fun h5 => ?_) (fun h5 => ?_)
  ·
    have h5t : tsB μ x = true := decide_eq_true h5
    obtain ⟨n, t, hn, ht, hs, rfl⟩ := (ts_of hV).mp h5t
    obtain ⟨hf, hfe⟩ := hV.fd (t := t) (by omega)
    obtain ⟨f, hfd⟩ : ∃ f, f = cl (μ (41 + 3 * t)) := ⟨_, rfl⟩
    rw [← hfd] at hf hfe
    refine r_aload0 hX dX6_times_15 (q := 16) rfl ?_
    refine r_getR hX dX6_times_16 (q := 19) rfl fX6_9 rfl ⟨by decide, by decide, rfl⟩ ?_
    refine r_iconst hX dX6_times_19 (q := 20) rfl (v := nI 0) (by decide +kernel) ?_
    refine r_ialdN hX dX6_times_20 (q := 21) rfl rfl (by repeat' (first | assumption | with_reducible exact rfl | refine e_add ?_ ?_ | refine e_mul ?_ ?_)) (by first | assumption | omega) (by first | decide | omega) ?_
    rw [hM 0 (by decide)]
    refine r_bipush hX dX6_times_21 (q := 23) rfl (v := nI 99) (by decide +kernel) ?_
    refine r_iadd hX dX6_times_23 (q := 24) rfl ?_
    refine r_ldc hX dX6_times_24 (q := 26) rfl qX6_134 ?_
    first | refine r_icmpN_le hX dX6_times_26 (q := 29) rfl (tgt := 36) (by decide) (by first | omega | decide) (by first | omega | decide) (fun h26 => ?_) (fun h26 => ?_) | refine r_icmp_le hX dX6_times_26 (q := 29) rfl (tgt := 36) (by decide) (fun h26 => ?_) (fun h26 => ?_)
    ·
      refine r_aload0 hX dX6_times_36 (q := 37) rfl ?_
      refine r_iload1 hX dX6_times_37 (q := 38) rfl ?_
      refine r_iconst hX dX6_times_38 (q := 39) rfl (v := nI 1) (by decide +kernel) ?_
      refine r_callV hX dX6_times_39 (q := 42) rfl (c_X6_of _ Γ _ _ _ t 1 rfl rfl (by omega) (by decide)) kX6_90 mlX6_of mvX6_of rfl rfl rfl ⟨by decide, rfl⟩ ⟨by decide, by decide⟩ (Nat.le_of_ble_eq_true rfl) (keI ?_)
      rw [hM _ (by omega), show 40 + 3 * t + 1 = 41 + 3 * t by omega, hfe]
      refine r_istore2 hX dX6_times_42 (q := 43) rfl rfl ?_
      refine r_aload0 hX dX6_times_43 (q := 44) rfl ?_
      refine r_getR hX dX6_times_44 (q := 47) rfl fX6_9 rfl ⟨by decide, by decide, rfl⟩ ?_
      refine r_aload0 hX dX6_times_47 (q := 48) rfl ?_
      refine r_getR hX dX6_times_48 (q := 51) rfl fX6_16 rfl ⟨by decide, by decide, rfl⟩ ?_
      refine r_callS hX dX6_times_51 (q := 54) rfl (c_X6_row _ Γ _ 48 50 rfl rfl (by decide)) kX6_156 mlX6_row msX6_row rfl rfl ⟨by decide, by decide⟩ (Nat.le_of_ble_eq_true rfl) (keV ?_)
      obtain ⟨hM1, hW1, hF1⟩ := sv_ok hM
      generalize upc G 50 (rwK (G 48) (G 50) 115) = G1 at hM1 hW1 hF1 ⊢
      refine r_iconst hX dX6_times_54 (q := 55) rfl (v := nI 0) (by decide +kernel) ?_
      refine r_istore3 hX dX6_times_55 (q := 56) rfl rfl ?_
      have L56 : ∀ (zn56 : Nat) (k : Nat) (G2 : GG), zn56 = 100 - k → (k ≤ 100) → (MR G2 (mtF μ t k)) → (WS G2 μ) → (FrM G G2) → (∀ j, j < k → lkB (mtF μ t j) f = false) → WP X Γ 56 [some (.ref (gad Γ 47)), some (.int (nI t)), some (.int (nI f)), some (.int (nI k))] [] G2 := by
        intro zn56
        induction zn56 using Nat.strongRecOn with
        | _ zn56 ih56 =>
          intro k G2 zh56 hk h2 hW hF hP
          have hVk := mt_inv hV (show t < 10 by omega) k
          refine r_iload3 hX dX6_times_56 (q := 57) rfl ?_
          refine r_bipush hX dX6_times_57 (q := 59) rfl (v := nI 99) (by decide +kernel) ?_
          refine r_icmpN_gt hX dX6_times_59 (q := 62) rfl (tgt := 82) (by decide) (by first | omega | decide) (by first | omega | decide) (fun h59 => ?_) (fun h59 => ?_)
          ·
            refine r_aload0 hX dX6_times_82 (q := 83) rfl ?_
            refine r_getR hX dX6_times_83 (q := 86) rfl fX6_16 rfl ⟨by decide, by decide, rfl⟩ ?_
            refine r_aload0 hX dX6_times_86 (q := 87) rfl ?_
            refine r_getR hX dX6_times_87 (q := 90) rfl fX6_9 rfl ⟨by decide, by decide, rfl⟩ ?_
            refine r_callS hX dX6_times_90 (q := 93) rfl (c_X6_row _ Γ _ 50 48 rfl rfl (by decide)) kX6_156 mlX6_row msX6_row rfl rfl ⟨by decide, by decide⟩ (Nat.le_of_ble_eq_true rfl) (keV ?_)
            obtain ⟨hM3, hW3, hF3⟩ := ld_ok hW
            generalize upc G2 48 (rwK (G2 50) (G2 48) 115) = G3 at hM3 hW3 hF3 ⊢
            refine r_iload3 hX dX6_times_93 (q := 94) rfl ?_
            refine r_bipush hX dX6_times_94 (q := 96) rfl (v := nI 99) (by decide +kernel) ?_
            refine r_icmpN_le hX dX6_times_96 (q := 99) rfl (tgt := 108) (by decide) (by first | omega | decide) (by first | omega | decide) (fun h96 => ?_) (fun h96 => ?_)
            ·
              refine r_iload3 hX dX6_times_108 (q := 109) rfl ?_
              refine r_iret hX hR dX6_times_109 ?_
              -- leaf 0 at 109
              refine ⟨_, rfl, ?_⟩
              have hs : oTimes μ (nI t) = tlO μ (fsF (tlP (onM μ t) f) 100) := by
                unfold oTimes
                rw [if_pos h5t, if_neg (fun q => (past_r hV hb (h := 99) (by decide) (le_nI (Nat.le_refl _) (by decide))).mp q h26), cl_nI (by omega), ← hfd]
              first
                | exact MOut.fin (k := 3) (hs.trans (tl_none (fun j hj => (tl_mt hV (by omega) hf j).trans (hP j (by omega))))) ⟨p102.1.trans (by decide +kernel), p102.2⟩ hM3 (hF.tr hF3.M)
                | exact MOut.ok (hs.trans (tl_some ((tl_mt hV (by omega) hf k).trans h67) (fun j hj => (tl_mt hV (by omega) hf j).trans (hP j hj)) (by omega))) rfl hM3 (hF.tr hF3.M)
                | (exfalso; omega)
            ·
              refine r_aload0 hX dX6_times_99 (q := 100) rfl ?_
              refine r_ldc hX dX6_times_100 (q := 102) rfl qX6_35 ?_
              refine r_callV hX dX6_times_102 (q := 105) rfl (c_X6_finds _ Γ _ _ 3 (by decide) (by decide +kernel)) kX6_36 mlX6_finds mvX6_finds rfl rfl rfl ⟨by decide, rfl⟩ ⟨by decide, by decide⟩ (Nat.le_of_ble_eq_true rfl) (kpI (fun v102 G102 p102 => ?_))
              refine r_goto hX dX6_times_105 (tgt := 109) (by decide) ?_
              refine r_iret hX hR dX6_times_109 ?_
              -- leaf 1 at 109
              refine ⟨_, rfl, ?_⟩
              have hs : oTimes μ (nI t) = tlO μ (fsF (tlP (onM μ t) f) 100) := by
                unfold oTimes
                rw [if_pos h5t, if_neg (fun q => (past_r hV hb (h := 99) (by decide) (le_nI (Nat.le_refl _) (by decide))).mp q h26), cl_nI (by omega), ← hfd]
              first
                | exact MOut.fin (k := 3) (hs.trans (tl_none (fun j hj => (tl_mt hV (by omega) hf j).trans (hP j (by omega))))) ⟨p102.1.trans (by decide +kernel), p102.2⟩ hM3 (hF.tr hF3.M)
                | exact MOut.ok (hs.trans (tl_some ((tl_mt hV (by omega) hf k).trans h67) (fun j hj => (tl_mt hV (by omega) hf j).trans (hP j hj)) (by omega))) rfl hM3 (hF.tr hF3.M)
                | (exfalso; omega)
          ·
            refine r_aload0 hX dX6_times_62 (q := 63) rfl ?_
            refine r_iload2 hX dX6_times_63 (q := 64) rfl ?_
            refine r_callV hX dX6_times_64 (q := 67) rfl (c_X6_isLiked _ Γ _ (mtF μ t k) h2 _ f rfl hf) kX6_65 mlX6_isLiked mvX6_isLiked rfl rfl rfl ⟨by decide, rfl⟩ ⟨by decide, by decide⟩ (Nat.le_of_ble_eq_true rfl) (keB ?_)
            first | with_reducible refine r_ifd_ne hX dX6_times_67 (q := 70) rfl (tgt := 82) (by decide) (fun h67 => ?_) (fun h67 => ?_) | refine r_ifb_ne hX dX6_times_67 (q := 70) rfl (tgt := 82) (by decide) (fun h67 => ?_) (fun h67 => ?_)
            ·
              refine r_aload0 hX dX6_times_82 (q := 83) rfl ?_
              refine r_getR hX dX6_times_83 (q := 86) rfl fX6_16 rfl ⟨by decide, by decide, rfl⟩ ?_
              refine r_aload0 hX dX6_times_86 (q := 87) rfl ?_
              refine r_getR hX dX6_times_87 (q := 90) rfl fX6_9 rfl ⟨by decide, by decide, rfl⟩ ?_
              refine r_callS hX dX6_times_90 (q := 93) rfl (c_X6_row _ Γ _ 50 48 rfl rfl (by decide)) kX6_156 mlX6_row msX6_row rfl rfl ⟨by decide, by decide⟩ (Nat.le_of_ble_eq_true rfl) (keV ?_)
              obtain ⟨hM3, hW3, hF3⟩ := ld_ok hW
              generalize upc G2 48 (rwK (G2 50) (G2 48) 115) = G3 at hM3 hW3 hF3 ⊢
              refine r_iload3 hX dX6_times_93 (q := 94) rfl ?_
              refine r_bipush hX dX6_times_94 (q := 96) rfl (v := nI 99) (by decide +kernel) ?_
              refine r_icmpN_le hX dX6_times_96 (q := 99) rfl (tgt := 108) (by decide) (by first | omega | decide) (by first | omega | decide) (fun h96 => ?_) (fun h96 => ?_)
              ·
                refine r_iload3 hX dX6_times_108 (q := 109) rfl ?_
                refine r_iret hX hR dX6_times_109 ?_
                -- leaf 2 at 109
                refine ⟨_, rfl, ?_⟩
                have hs : oTimes μ (nI t) = tlO μ (fsF (tlP (onM μ t) f) 100) := by
                  unfold oTimes
                  rw [if_pos h5t, if_neg (fun q => (past_r hV hb (h := 99) (by decide) (le_nI (Nat.le_refl _) (by decide))).mp q h26), cl_nI (by omega), ← hfd]
                first
                  | exact MOut.fin (k := 3) (hs.trans (tl_none (fun j hj => (tl_mt hV (by omega) hf j).trans (hP j (by omega))))) ⟨p102.1.trans (by decide +kernel), p102.2⟩ hM3 (hF.tr hF3.M)
                  | exact MOut.ok (hs.trans (tl_some ((tl_mt hV (by omega) hf k).trans h67) (fun j hj => (tl_mt hV (by omega) hf j).trans (hP j hj)) (by omega))) rfl hM3 (hF.tr hF3.M)
                  | (exfalso; omega)
              ·
                refine r_aload0 hX dX6_times_99 (q := 100) rfl ?_
                refine r_ldc hX dX6_times_100 (q := 102) rfl qX6_35 ?_
                refine r_callV hX dX6_times_102 (q := 105) rfl (c_X6_finds _ Γ _ _ 3 (by decide) (by decide +kernel)) kX6_36 mlX6_finds mvX6_finds rfl rfl rfl ⟨by decide, rfl⟩ ⟨by decide, by decide⟩ (Nat.le_of_ble_eq_true rfl) (kpI (fun v102 G102 p102 => ?_))
                refine r_goto hX dX6_times_105 (tgt := 109) (by decide) ?_
                refine r_iret hX hR dX6_times_109 ?_
                -- leaf 3 at 109
                refine ⟨_, rfl, ?_⟩
                have hs : oTimes μ (nI t) = tlO μ (fsF (tlP (onM μ t) f) 100) := by
                  unfold oTimes
                  rw [if_pos h5t, if_neg (fun q => (past_r hV hb (h := 99) (by decide) (le_nI (Nat.le_refl _) (by decide))).mp q h26), cl_nI (by omega), ← hfd]
                first
                  | exact MOut.fin (k := 3) (hs.trans (tl_none (fun j hj => (tl_mt hV (by omega) hf j).trans (hP j (by omega))))) ⟨p102.1.trans (by decide +kernel), p102.2⟩ hM3 (hF.tr hF3.M)
                  | exact MOut.ok (hs.trans (tl_some ((tl_mt hV (by omega) hf k).trans h67) (fun j hj => (tl_mt hV (by omega) hf j).trans (hP j hj)) (by omega))) rfl hM3 (hF.tr hF3.M)
                  | (exfalso; omega)
            ·
              refine r_aload0 hX dX6_times_70 (q := 71) rfl ?_
              refine r_iload1 hX dX6_times_71 (q := 72) rfl ?_
              refine r_callV hX dX6_times_72 (q := 75) rfl (c_X6_meal _ Γ _ (mtF μ t k) h2 (b + k) hVk _ (some t) rfl (fun t2 q => by cases q; omega)) kX6_129 mlX6_meal mvX6_meal rfl rfl rfl ⟨by decide, rfl⟩ ⟨by decide, by decide⟩ (Nat.le_of_ble_eq_true rfl) (kpI (fun v72 G72 p72 => ?_))
              refine r_pop hX dX6_times_75 (q := 76) rfl rfl ?_
              refine r_iincN3 hX dX6_times_76 (q := 79) rfl rfl ?_
              refine r_goto hX dX6_times_79 (tgt := 56) (by decide) ?_
              refine ih56 _ ?_ (k + 1) _ rfl ?_ ?_ ?_ ?_ ?_
              ·
                omega
              ·
                omega
              ·
                exact p72.2.1
              ·
                exact hW.n p72.2.2
              ·
                exact hF.tr p72.2.2.M
              ·
                intro j hj
                by_cases e : j = k
                · subst e; exact h67
                · exact hP j (by omega)
      refine L56 _ 0 _ rfl ?_ ?_ ?_ ?_ ?_
      ·
        exact Nat.zero_le _
      ·
        exact hM1
      ·
        exact hW1
      ·
        exact hF1
      ·
        exact fun j hj => absurd hj (by omega)
    ·
      refine r_aload0 hX dX6_times_29 (q := 30) rfl ?_
      refine r_ldc hX dX6_times_30 (q := 32) rfl qX6_135 ?_
      refine r_callV hX dX6_times_32 (q := 35) rfl (c_X6_finds _ Γ _ _ 4 (by decide) (by decide +kernel)) kX6_36 mlX6_finds mvX6_finds rfl rfl rfl ⟨by decide, rfl⟩ ⟨by decide, by decide⟩ (Nat.le_of_ble_eq_true rfl) (kpI (fun v32 G32 p32 => ?_))
      refine r_iret hX hR dX6_times_35 ?_
      -- leaf 4 at 35
      refine ⟨_, rfl, ?_⟩
      exact MOut.fin (k := 4) ((if_pos h5t).trans (if_pos ((past_r hV hb (h := 99) (by decide) (le_nI (Nat.le_refl _) (by decide))).mpr h26))) ⟨p32.1.trans (by decide +kernel), p32.2⟩ hM FrM.rf
  ·
    refine r_aload0 hX dX6_times_8 (q := 9) rfl ?_
    refine r_ldc hX dX6_times_9 (q := 11) rfl qX6_34 ?_
    refine r_callV hX dX6_times_11 (q := 14) rfl (c_X6_finds _ Γ _ _ 0 (by decide) (by decide +kernel)) kX6_36 mlX6_finds mvX6_finds rfl rfl rfl ⟨by decide, rfl⟩ ⟨by decide, by decide⟩ (Nat.le_of_ble_eq_true rfl) (kpI (fun v11 G11 p11 => ?_))
    refine r_iret hX hR dX6_times_14 ?_
    -- leaf 5 at 14
    refine ⟨_, rfl, ?_⟩
    exact MOut.fin (k := 0) (if_neg (fun q => h5 (of_decide_eq_true q))) ⟨p11.1.trans (by decide +kernel), p11.2⟩ hM FrM.rf

set_option maxRecDepth 100000 in
set_option maxHeartbeats 4000000 in
theorem c_X6_bestIn (l : Launch) (Γ : Gam) (G : GG) (μ : MU) (hM : MR G μ) (b : Nat) (hV : Inv b μ) (p : Int32) (a lo hi : Nat) (y : Int32) (n : Nat) (sb : Bool) (s : Nat → Int32) (hp : p = nI a) (ha : a < 115) (hlo : lo ≤ hi + 1) (hhi : hi ≤ 20) (hy : y = nI n) (hn : b + n < 2 ^ 29) (hn1 : n ≤ 1000) (hI : ∀ v, lo ≤ v → v ≤ hi → Inv b (upd μ a (nI v))) (hs : ∀ v, s v = if sb = true then (goF (upd μ a (nI v)) n).1 else mnF (goF (upd μ a (nI v)) n).2 10) : Sp l yX6_bestIn cX6_bestIn 11 (some .int) 7 162 [.ref (gad Γ 47), .int p, .int (nI lo), .int (nI hi), .int y, .int (bi sb)] Γ G (pI (fun v G' => v = (bsS s lo (hi + 1 - lo)).1 ∧ MR G' μ ∧ FrM G G')) := by
  refine Sp_of (own := RX6) rfl (by decide +kernel) rfl (Nat.le_of_ble_eq_true rfl) (fun X hX hR => ?_)
  show WP X Γ 0 [some (.ref (gad Γ 47)), some (.int p), some (.int (nI lo)), some (.int (nI hi)), some (.int y), some (.int (bi sb)), none, none, none, none, none] [] G
  subst hp
  subst hy
  refine r_aload0 hX dX6_bestIn_0 (q := 1) rfl ?_
  refine r_getR hX dX6_bestIn_1 (q := 4) rfl fX6_9 rfl ⟨by decide, by decide, rfl⟩ ?_
  refine r_iload1 hX dX6_bestIn_4 (q := 5) rfl ?_
  refine r_ialdN hX dX6_bestIn_5 (q := 6) rfl rfl rfl ha (by first | decide | omega) ?_
  rw [hM a ha]
  refine r_istore6 hX dX6_bestIn_6 (q := 8) rfl rfl ?_
  refine r_iconst hX dX6_bestIn_8 (q := 9) rfl (v := (-1)) (by decide +kernel) ?_
  refine r_istore7 hX dX6_bestIn_9 (q := 11) rfl rfl ?_
  refine r_iconst hX dX6_bestIn_11 (q := 12) rfl (v := nI 0) (by decide +kernel) ?_
  refine r_istore8 hX dX6_bestIn_12 (q := 14) rfl rfl ?_
  refine r_iload2 hX dX6_bestIn_14 (q := 15) rfl ?_
  refine r_istore9 hX dX6_bestIn_15 (q := 17) rfl rfl ?_
  have L17 : ∀ (zn17 : Nat) (k : Nat) (e g x : Int32) (G1 : GG), zn17 = hi + 1 - lo - k → (lo + k ≤ hi + 1) → (e = (bsS s lo k).1) → ((k = 0 ∧ e = -1) ∨ (0 ≤ e ∧ g = (bsS s lo k).2)) → (MR G1 (upd μ a x)) → (FrM G G1) → WP X Γ 17 [some (.ref (gad Γ 47)), some (.int (nI a)), some (.int (nI lo)), some (.int (nI hi)), some (.int (nI n)), some (.int (bi sb)), some (.int (μ a)), some (.int e), some (.int g), some (.int (nI (lo + k))), none] [] G1 := by
    intro zn17
    induction zn17 using Nat.strongRecOn with
    | _ zn17 ih17 =>
      intro k e g x G1 zh17 hk he hg h1 hF
      refine r_iload9 hX dX6_bestIn_17 (q := 19) rfl ?_
      refine r_iload3 hX dX6_bestIn_19 (q := 20) rfl ?_
      refine r_icmpN_gt hX dX6_bestIn_20 (q := 23) rfl (tgt := 70) (by decide) (by first | omega | decide) (by first | omega | decide) (fun h20 => ?_) (fun h20 => ?_)
      ·
        refine r_aload0 hX dX6_bestIn_70 (q := 71) rfl ?_
        refine r_getR hX dX6_bestIn_71 (q := 74) rfl fX6_9 rfl ⟨by decide, by decide, rfl⟩ ?_
        refine r_iload1 hX dX6_bestIn_74 (q := 75) rfl ?_
        refine r_iload6 hX dX6_bestIn_75 (q := 77) rfl ?_
        refine r_iastN hX dX6_bestIn_77 (q := 78) rfl rfl rfl ha (by first | decide | omega) ?_
        refine r_iload7 hX dX6_bestIn_78 (q := 80) rfl ?_
        refine r_iret hX hR dX6_bestIn_80 ?_
        -- leaf 0 at 80
        refine ⟨_, rfl, ?_⟩
        have e0 : k = hi + 1 - lo := by omega
        exact ⟨by rw [he, e0], (h1.u a (μ a)).cg upd_back, hF.up⟩
      ·
        refine r_aload0 hX dX6_bestIn_23 (q := 24) rfl ?_
        refine r_getR hX dX6_bestIn_24 (q := 27) rfl fX6_9 rfl ⟨by decide, by decide, rfl⟩ ?_
        refine r_iload1 hX dX6_bestIn_27 (q := 28) rfl ?_
        refine r_iload9 hX dX6_bestIn_28 (q := 30) rfl ?_
        refine r_iastN hX dX6_bestIn_30 (q := 31) rfl rfl rfl ha (by first | decide | omega) ?_
        have h2 := (h1.u a (nI (lo + k))).cg upd_upd
        have hF2 : FrM G (up G1 48 a (nI (lo + k))) := hF.up
        have hI2 := hI (lo + k) (by omega) (by omega)
        generalize up G1 48 a (nI (lo + k)) = G2 at h2 hF2 ⊢
        refine r_aload0 hX dX6_bestIn_31 (q := 32) rfl ?_
        refine r_iload4 hX dX6_bestIn_32 (q := 34) rfl ?_
        refine r_iload5 hX dX6_bestIn_34 (q := 36) rfl ?_
        refine r_callV hX dX6_bestIn_36 (q := 39) rfl (c_X6_behind _ Γ _ _ h2 b hI2 _ n rfl hn sb) kX6_166 mlX6_behind mvX6_behind rfl rfl rfl ⟨by decide, rfl⟩ ⟨by decide, by decide⟩ (Nat.le_of_ble_eq_true rfl) (kpI (fun v36 G36 p36 => ?_))
        have hsv := (p36.1.trans (hs (lo + k)).symm)
        have hs0 : (0 : Int32) ≤ s (lo + k) := by
          rw [hs]
          split
          · exact nn_0 (go_nn hI2 n (by omega)) (by omega)
          · exact nn_0 (mn_nn _ 10) (by decide)
        refine r_istore10 hX dX6_bestIn_39 (q := 41) rfl rfl ?_
        refine r_iload7 hX dX6_bestIn_41 (q := 43) rfl ?_
        refine r_if_lt hX dX6_bestIn_43 (q := 46) rfl (tgt := 56) (by decide) (fun h43 => ?_) (fun h43 => ?_)
        ·
          have hlt : (bsS s lo k).2 < s (lo + k) := by
            rcases hg with ⟨q, -⟩ | ⟨q, -⟩
            · subst q; exact Int32.lt_of_lt_of_le (show (-1 : Int32) < 0 by decide +kernel) hs0
            · exact absurd h43 (Int32.not_lt.mpr q)
          refine r_iload9 hX dX6_bestIn_56 (q := 58) rfl ?_
          refine r_istore7 hX dX6_bestIn_58 (q := 60) rfl rfl ?_
          refine r_iload10 hX dX6_bestIn_60 (q := 62) rfl ?_
          refine r_istore8 hX dX6_bestIn_62 (q := 64) rfl rfl ?_
          refine r_iincN9 hX dX6_bestIn_64 (q := 67) rfl rfl ?_
          refine r_goto hX dX6_bestIn_67 (tgt := 17) (by decide) ?_
          refine r_drop10 ?_
          refine ih17 _ ?_ (k + 1) _ _ (nI (lo + k)) _ rfl ?_ ?_ ?_ ?_ ?_
          ·
            omega
          ·
            omega
          ·
            first | (rw [bs_1 hlt]) | (rw [bs_0 hge]; exact he)
          ·
            first
              | exact Or.inr ⟨nn_ge (by omega), by rw [bs_1 hlt]; exact hsv⟩
              | (refine Or.inr ⟨Int32.not_lt.mp h43, ?_⟩
                 rw [bs_0 hge]
                 rcases hg with ⟨-, q⟩ | ⟨-, q⟩
                 · exact absurd (by rw [q]; decide +kernel) h43
                 · exact q)
          ·
            exact p36.2.1
          ·
            exact hF2.tr p36.2.2
        ·
          refine r_iload10 hX dX6_bestIn_46 (q := 48) rfl ?_
          refine r_iload8 hX dX6_bestIn_48 (q := 50) rfl ?_
          first | refine r_icmpN_gt hX dX6_bestIn_50 (q := 53) rfl (tgt := 56) (by decide) (by first | omega | decide) (by first | omega | decide) (fun h50 => ?_) (fun h50 => ?_) | refine r_icmp_gt hX dX6_bestIn_50 (q := 53) rfl (tgt := 56) (by decide) (fun h50 => ?_) (fun h50 => ?_)
          ·
            have hlt : (bsS s lo k).2 < s (lo + k) := by
              rcases hg with ⟨-, q⟩ | ⟨-, q⟩
              · exact absurd (by rw [q]; decide +kernel) h43
              · rw [← q, ← hsv]; exact h50
            refine r_iload9 hX dX6_bestIn_56 (q := 58) rfl ?_
            refine r_istore7 hX dX6_bestIn_58 (q := 60) rfl rfl ?_
            refine r_iload10 hX dX6_bestIn_60 (q := 62) rfl ?_
            refine r_istore8 hX dX6_bestIn_62 (q := 64) rfl rfl ?_
            refine r_iincN9 hX dX6_bestIn_64 (q := 67) rfl rfl ?_
            refine r_goto hX dX6_bestIn_67 (tgt := 17) (by decide) ?_
            refine r_drop10 ?_
            refine ih17 _ ?_ (k + 1) _ _ (nI (lo + k)) _ rfl ?_ ?_ ?_ ?_ ?_
            ·
              omega
            ·
              omega
            ·
              first | (rw [bs_1 hlt]) | (rw [bs_0 hge]; exact he)
            ·
              first
                | exact Or.inr ⟨nn_ge (by omega), by rw [bs_1 hlt]; exact hsv⟩
                | (refine Or.inr ⟨Int32.not_lt.mp h43, ?_⟩
                   rw [bs_0 hge]
                   rcases hg with ⟨-, q⟩ | ⟨-, q⟩
                   · exact absurd (by rw [q]; decide +kernel) h43
                   · exact q)
            ·
              exact p36.2.1
            ·
              exact hF2.tr p36.2.2
          ·
            have hge : ¬ (bsS s lo k).2 < s (lo + k) := by
              rcases hg with ⟨-, q⟩ | ⟨-, q⟩
              · exact absurd (by rw [q]; decide +kernel) h43
              · rw [← q, ← hsv]; exact h50
            refine r_goto hX dX6_bestIn_53 (tgt := 64) (by decide) ?_
            refine r_iincN9 hX dX6_bestIn_64 (q := 67) rfl rfl ?_
            refine r_goto hX dX6_bestIn_67 (tgt := 17) (by decide) ?_
            refine r_drop10 ?_
            refine ih17 _ ?_ (k + 1) _ _ (nI (lo + k)) _ rfl ?_ ?_ ?_ ?_ ?_
            ·
              omega
            ·
              omega
            ·
              first | (rw [bs_1 hlt]) | (rw [bs_0 hge]; exact he)
            ·
              first
                | exact Or.inr ⟨nn_ge (by omega), by rw [bs_1 hlt]; exact hsv⟩
                | (refine Or.inr ⟨Int32.not_lt.mp h43, ?_⟩
                   rw [bs_0 hge]
                   rcases hg with ⟨-, q⟩ | ⟨-, q⟩
                   · exact absurd (by rw [q]; decide +kernel) h43
                   · exact q)
            ·
              exact p36.2.1
            ·
              exact hF2.tr p36.2.2
  refine L17 _ 0 _ _ (μ a) _ rfl ?_ ?_ ?_ ?_ ?_
  ·
    omega
  ·
    rfl
  ·
    exact Or.inl ⟨rfl, rfl⟩
  ·
    exact hM.cg upd_self.symm
  ·
    exact FrM.rf

set_option maxRecDepth 100000 in
set_option maxHeartbeats 4000000 in
theorem c_X6_kindFor (l : Launch) (Γ : Gam) (G : GG) (μ : MU) (hM : MR G μ) (b : Nat) (hV : Inv b μ) (hb : b ≤ 100000) (x y : Int32) : Sp l yX6_kindFor cX6_kindFor 4 (some .int) 8 192 [.ref (gad Γ 47), .int x, .int y] Γ G (pI (fun v G' => MOut G μ (oBest μ x y 0) v G')) := by
  refine Sp_of (own := RX6) rfl (by decide +kernel) rfl (Nat.le_of_ble_eq_true rfl) (fun X hX hR => ?_)
  show WP X Γ 0 [some (.ref (gad Γ 47)), some (.int x), some (.int y), none] [] G
  refine r_aload0 hX dX6_kindFor_0 (q := 1) rfl ?_
  refine r_iload2 hX dX6_kindFor_1 (q := 2) rfl ?_
  refine r_iconst hX dX6_kindFor_2 (q := 3) rfl (v := nI 1) (by decide +kernel) ?_
  refine r_sipush hX dX6_kindFor_3 (q := 6) rfl (v := nI 175) (by decide +kernel) ?_
  refine r_aload0 hX dX6_kindFor_6 (q := 7) rfl ?_
  refine r_iload1 hX dX6_kindFor_7 (q := 8) rfl ?_
  refine r_callV hX dX6_kindFor_8 (q := 11) rfl (c_X6_isTaste _ Γ _ μ (by assumption) _) kX6_99 mlX6_isTaste mvX6_isTaste rfl rfl rfl ⟨by decide, rfl⟩ ⟨by decide, by decide⟩ (Nat.le_of_ble_eq_true rfl) (keB ?_)
  refine r_callV hX dX6_kindFor_11 (q := 14) rfl (c_X6_wrongMeals _ Γ _ μ (by assumption) _ _ _ _) kX6_152 mlX6_wrongMeals mvX6_wrongMeals rfl rfl rfl ⟨by decide, rfl⟩ ⟨by decide, by decide⟩ (Nat.le_of_ble_eq_true rfl) (keI ?_)
  refine r_istore3 hX dX6_kindFor_14 (q := 15) rfl rfl ?_
  refine r_iload3 hX dX6_kindFor_15 (q := 16) rfl ?_
  refine r_if_ge hX dX6_kindFor_16 (q := 19) rfl (tgt := 27) (by decide) (fun h16 => ?_) (fun h16 => ?_)
  ·
    obtain ⟨⟨hg, hy2⟩, hps⟩ := wm_p h16
    have hgt : tsB μ x = true := hg
    obtain ⟨n0, t, hn0, ht0, hs0, rfl⟩ := (ts_of hV).mp hgt
    obtain ⟨yl, yh, ye⟩ := ix1_of (by decide) (by decide) hy2
    refine r_aload0 hX dX6_kindFor_27 (q := 28) rfl ?_
    refine r_bipush hX dX6_kindFor_28 (q := 30) rfl (v := nI 40) (by decide +kernel) ?_
    refine r_iconst hX dX6_kindFor_30 (q := 31) rfl (v := nI 3) (by decide +kernel) ?_
    refine r_iload1 hX dX6_kindFor_31 (q := 32) rfl ?_
    refine r_imul hX dX6_kindFor_32 (q := 33) rfl ?_
    refine r_iadd hX dX6_kindFor_33 (q := 34) rfl ?_
    refine r_iconst hX dX6_kindFor_34 (q := 35) rfl (v := nI 0) (by decide +kernel) ?_
    refine r_bipush hX dX6_kindFor_35 (q := 37) rfl (v := nI 6) (by decide +kernel) ?_
    refine r_iload2 hX dX6_kindFor_37 (q := 38) rfl ?_
    refine r_iconst hX dX6_kindFor_38 (q := 39) rfl (v := nI 0) (by decide +kernel) ?_
    refine r_callV hX dX6_kindFor_39 (q := 42) rfl (c_X6_bestIn _ Γ _ μ hM b hV _ (40 + 3 * t) 0 6 _ (cl y) false (scW μ (cl y) t 0) (e_add rfl (e_mul rfl rfl)) (by omega) (by decide) (by decide) ye (by omega) (by omega) (fun v a1 a2 => hV.row (w := 0) (by omega) (by decide) a1 a2) (fun v => rfl)) kX6_169 mlX6_bestIn mvX6_bestIn rfl rfl rfl ⟨by decide, rfl⟩ ⟨by decide, by decide⟩ (Nat.le_of_ble_eq_true rfl) (kpI (fun v39 G39 p39 => ?_))
    refine r_iret hX hR dX6_kindFor_42 ?_
    -- leaf 0 at 42
    refine ⟨_, rfl, ?_⟩
    first
      | (rcases hko with ⟨rfl, q⟩ | ⟨rfl, q, z9⟩
         · exact MOut.fin (k := 0) (if_neg (fun q2 => q q2)) ⟨p21.1.trans hkv, p21.2⟩ hM FrM.rf
         · exact MOut.fin (k := 4) ((if_pos (show tsB μ x = true ∧ nI 1 ≤ y ∧ y ≤ nI 175 from q)).trans (if_pos ((past_r hV hb (h := 175) (by decide) (le_01 q.2)).mpr z9))) ⟨p21.1.trans hkv, p21.2⟩ hM FrM.rf)
      | exact MOut.ok (w := (bsS (scW μ (cl y) t 0) 0 (6 + 1 - 0)).1) (μ' := μ) (by unfold oBest; rw [if_pos ⟨hgt, hy2⟩, if_neg (fun q => (past_r hV hb (h := 175) (by decide) (le_01 hy2)).mp q hps), cl_nI (by omega)] <;> rfl) p39.1 p39.2.1 p39.2.2
  ·
    obtain ⟨kk, hk7, hkv, hko⟩ := wm_n h16
    refine r_aload0 hX dX6_kindFor_19 (q := 20) rfl ?_
    refine r_iload3 hX dX6_kindFor_20 (q := 21) rfl ?_
    refine r_callV hX dX6_kindFor_21 (q := 24) rfl (c_X6_finds _ Γ _ _ kk hk7 (by rw [hkv]; exact fk_x kk hk7)) kX6_36 mlX6_finds mvX6_finds rfl rfl rfl ⟨by decide, rfl⟩ ⟨by decide, by decide⟩ (Nat.le_of_ble_eq_true rfl) (kpI (fun v21 G21 p21 => ?_))
    refine r_goto hX dX6_kindFor_24 (tgt := 42) (by decide) ?_
    refine r_iret hX hR dX6_kindFor_42 ?_
    -- leaf 1 at 42
    refine ⟨_, rfl, ?_⟩
    first
      | (rcases hko with ⟨rfl, q⟩ | ⟨rfl, q, z9⟩
         · exact MOut.fin (k := 0) (if_neg (fun q2 => q q2)) ⟨p21.1.trans hkv, p21.2⟩ hM FrM.rf
         · exact MOut.fin (k := 4) ((if_pos (show tsB μ x = true ∧ nI 1 ≤ y ∧ y ≤ nI 175 from q)).trans (if_pos ((past_r hV hb (h := 175) (by decide) (le_01 q.2)).mpr z9))) ⟨p21.1.trans hkv, p21.2⟩ hM FrM.rf)
      | exact MOut.ok (w := (bsS (scW μ (cl y) t 0) 0 (6 + 1 - 0)).1) (μ' := μ) (by unfold oBest; rw [if_pos ⟨hgt, hy2⟩, if_neg (fun q => (past_r hV hb (h := 175) (by decide) (le_01 hy2)).mp q hps), cl_nI (by omega)] <;> rfl) p39.1 p39.2.1 p39.2.2

set_option maxRecDepth 100000 in
set_option maxHeartbeats 4000000 in
theorem c_X6_foodFor (l : Launch) (Γ : Gam) (G : GG) (μ : MU) (hM : MR G μ) (b : Nat) (hV : Inv b μ) (hb : b ≤ 100000) (x y : Int32) : Sp l yX6_foodFor cX6_foodFor 4 (some .int) 8 192 [.ref (gad Γ 47), .int x, .int y] Γ G (pI (fun v G' => MOut G μ (oBest μ x y 1) v G')) := by
  refine Sp_of (own := RX6) rfl (by decide +kernel) rfl (Nat.le_of_ble_eq_true rfl) (fun X hX hR => ?_)
  show WP X Γ 0 [some (.ref (gad Γ 47)), some (.int x), some (.int y), none] [] G
  refine r_aload0 hX dX6_foodFor_0 (q := 1) rfl ?_
  refine r_iload2 hX dX6_foodFor_1 (q := 2) rfl ?_
  refine r_iconst hX dX6_foodFor_2 (q := 3) rfl (v := nI 1) (by decide +kernel) ?_
  refine r_sipush hX dX6_foodFor_3 (q := 6) rfl (v := nI 175) (by decide +kernel) ?_
  refine r_aload0 hX dX6_foodFor_6 (q := 7) rfl ?_
  refine r_iload1 hX dX6_foodFor_7 (q := 8) rfl ?_
  refine r_callV hX dX6_foodFor_8 (q := 11) rfl (c_X6_isTaste _ Γ _ μ (by assumption) _) kX6_99 mlX6_isTaste mvX6_isTaste rfl rfl rfl ⟨by decide, rfl⟩ ⟨by decide, by decide⟩ (Nat.le_of_ble_eq_true rfl) (keB ?_)
  refine r_callV hX dX6_foodFor_11 (q := 14) rfl (c_X6_wrongMeals _ Γ _ μ (by assumption) _ _ _ _) kX6_152 mlX6_wrongMeals mvX6_wrongMeals rfl rfl rfl ⟨by decide, rfl⟩ ⟨by decide, by decide⟩ (Nat.le_of_ble_eq_true rfl) (keI ?_)
  refine r_istore3 hX dX6_foodFor_14 (q := 15) rfl rfl ?_
  refine r_iload3 hX dX6_foodFor_15 (q := 16) rfl ?_
  refine r_if_ge hX dX6_foodFor_16 (q := 19) rfl (tgt := 27) (by decide) (fun h16 => ?_) (fun h16 => ?_)
  ·
    obtain ⟨⟨hg, hy2⟩, hps⟩ := wm_p h16
    have hgt : tsB μ x = true := hg
    obtain ⟨n0, t, hn0, ht0, hs0, rfl⟩ := (ts_of hV).mp hgt
    obtain ⟨yl, yh, ye⟩ := ix1_of (by decide) (by decide) hy2
    refine r_aload0 hX dX6_foodFor_27 (q := 28) rfl ?_
    refine r_bipush hX dX6_foodFor_28 (q := 30) rfl (v := nI 40) (by decide +kernel) ?_
    refine r_iconst hX dX6_foodFor_30 (q := 31) rfl (v := nI 3) (by decide +kernel) ?_
    refine r_iload1 hX dX6_foodFor_31 (q := 32) rfl ?_
    refine r_imul hX dX6_foodFor_32 (q := 33) rfl ?_
    refine r_iadd hX dX6_foodFor_33 (q := 34) rfl ?_
    refine r_iconst hX dX6_foodFor_34 (q := 35) rfl (v := nI 1) (by decide +kernel) ?_
    refine r_iadd hX dX6_foodFor_35 (q := 36) rfl ?_
    refine r_iconst hX dX6_foodFor_36 (q := 37) rfl (v := nI 0) (by decide +kernel) ?_
    refine r_bipush hX dX6_foodFor_37 (q := 39) rfl (v := nI 9) (by decide +kernel) ?_
    refine r_iload2 hX dX6_foodFor_39 (q := 40) rfl ?_
    refine r_iconst hX dX6_foodFor_40 (q := 41) rfl (v := nI 0) (by decide +kernel) ?_
    refine r_callV hX dX6_foodFor_41 (q := 44) rfl (c_X6_bestIn _ Γ _ μ hM b hV _ (40 + 3 * t + 1) 0 9 _ (cl y) false (scW μ (cl y) t 1) (e_add (e_add rfl (e_mul rfl rfl)) rfl) (by omega) (by decide) (by decide) ye (by omega) (by omega) (fun v a1 a2 => hV.row (w := 1) (by omega) (by decide) a1 a2) (fun v => rfl)) kX6_169 mlX6_bestIn mvX6_bestIn rfl rfl rfl ⟨by decide, rfl⟩ ⟨by decide, by decide⟩ (Nat.le_of_ble_eq_true rfl) (kpI (fun v41 G41 p41 => ?_))
    refine r_iret hX hR dX6_foodFor_44 ?_
    -- leaf 0 at 44
    refine ⟨_, rfl, ?_⟩
    first
      | (rcases hko with ⟨rfl, q⟩ | ⟨rfl, q, z9⟩
         · exact MOut.fin (k := 0) (if_neg (fun q2 => q q2)) ⟨p21.1.trans hkv, p21.2⟩ hM FrM.rf
         · exact MOut.fin (k := 4) ((if_pos (show tsB μ x = true ∧ nI 1 ≤ y ∧ y ≤ nI 175 from q)).trans (if_pos ((past_r hV hb (h := 175) (by decide) (le_01 q.2)).mpr z9))) ⟨p21.1.trans hkv, p21.2⟩ hM FrM.rf)
      | exact MOut.ok (w := (bsS (scW μ (cl y) t 1) 0 (9 + 1 - 0)).1) (μ' := μ) (by unfold oBest; rw [if_pos ⟨hgt, hy2⟩, if_neg (fun q => (past_r hV hb (h := 175) (by decide) (le_01 hy2)).mp q hps), cl_nI (by omega)] <;> rfl) p41.1 p41.2.1 p41.2.2
  ·
    obtain ⟨kk, hk7, hkv, hko⟩ := wm_n h16
    refine r_aload0 hX dX6_foodFor_19 (q := 20) rfl ?_
    refine r_iload3 hX dX6_foodFor_20 (q := 21) rfl ?_
    refine r_callV hX dX6_foodFor_21 (q := 24) rfl (c_X6_finds _ Γ _ _ kk hk7 (by rw [hkv]; exact fk_x kk hk7)) kX6_36 mlX6_finds mvX6_finds rfl rfl rfl ⟨by decide, rfl⟩ ⟨by decide, by decide⟩ (Nat.le_of_ble_eq_true rfl) (kpI (fun v21 G21 p21 => ?_))
    refine r_goto hX dX6_foodFor_24 (tgt := 44) (by decide) ?_
    refine r_iret hX hR dX6_foodFor_44 ?_
    -- leaf 1 at 44
    refine ⟨_, rfl, ?_⟩
    first
      | (rcases hko with ⟨rfl, q⟩ | ⟨rfl, q, z9⟩
         · exact MOut.fin (k := 0) (if_neg (fun q2 => q q2)) ⟨p21.1.trans hkv, p21.2⟩ hM FrM.rf
         · exact MOut.fin (k := 4) ((if_pos (show tsB μ x = true ∧ nI 1 ≤ y ∧ y ≤ nI 175 from q)).trans (if_pos ((past_r hV hb (h := 175) (by decide) (le_01 q.2)).mpr z9))) ⟨p21.1.trans hkv, p21.2⟩ hM FrM.rf)
      | exact MOut.ok (w := (bsS (scW μ (cl y) t 1) 0 (9 + 1 - 0)).1) (μ' := μ) (by unfold oBest; rw [if_pos ⟨hgt, hy2⟩, if_neg (fun q => (past_r hV hb (h := 175) (by decide) (le_01 hy2)).mp q hps), cl_nI (by omega)] <;> rfl) p41.1 p41.2.1 p41.2.2

set_option maxRecDepth 100000 in
set_option maxHeartbeats 4000000 in
theorem c_X6_putFor (l : Launch) (Γ : Gam) (G : GG) (μ : MU) (hM : MR G μ) (b : Nat) (hV : Inv b μ) (hb : b ≤ 100000) (x y : Int32) : Sp l yX6_putFor cX6_putFor 4 (some .int) 8 192 [.ref (gad Γ 47), .int x, .int y] Γ G (pI (fun v G' => MOut G μ (oBest μ x y 2) v G')) := by
  refine Sp_of (own := RX6) rfl (by decide +kernel) rfl (Nat.le_of_ble_eq_true rfl) (fun X hX hR => ?_)
  show WP X Γ 0 [some (.ref (gad Γ 47)), some (.int x), some (.int y), none] [] G
  refine r_aload0 hX dX6_putFor_0 (q := 1) rfl ?_
  refine r_iload2 hX dX6_putFor_1 (q := 2) rfl ?_
  refine r_iconst hX dX6_putFor_2 (q := 3) rfl (v := nI 1) (by decide +kernel) ?_
  refine r_sipush hX dX6_putFor_3 (q := 6) rfl (v := nI 175) (by decide +kernel) ?_
  refine r_aload0 hX dX6_putFor_6 (q := 7) rfl ?_
  refine r_iload1 hX dX6_putFor_7 (q := 8) rfl ?_
  refine r_callV hX dX6_putFor_8 (q := 11) rfl (c_X6_isTaste _ Γ _ μ (by assumption) _) kX6_99 mlX6_isTaste mvX6_isTaste rfl rfl rfl ⟨by decide, rfl⟩ ⟨by decide, by decide⟩ (Nat.le_of_ble_eq_true rfl) (keB ?_)
  refine r_callV hX dX6_putFor_11 (q := 14) rfl (c_X6_wrongMeals _ Γ _ μ (by assumption) _ _ _ _) kX6_152 mlX6_wrongMeals mvX6_wrongMeals rfl rfl rfl ⟨by decide, rfl⟩ ⟨by decide, by decide⟩ (Nat.le_of_ble_eq_true rfl) (keI ?_)
  refine r_istore3 hX dX6_putFor_14 (q := 15) rfl rfl ?_
  refine r_iload3 hX dX6_putFor_15 (q := 16) rfl ?_
  refine r_if_ge hX dX6_putFor_16 (q := 19) rfl (tgt := 27) (by decide) (fun h16 => ?_) (fun h16 => ?_)
  ·
    obtain ⟨⟨hg, hy2⟩, hps⟩ := wm_p h16
    have hgt : tsB μ x = true := hg
    obtain ⟨n0, t, hn0, ht0, hs0, rfl⟩ := (ts_of hV).mp hgt
    obtain ⟨yl, yh, ye⟩ := ix1_of (by decide) (by decide) hy2
    refine r_aload0 hX dX6_putFor_27 (q := 28) rfl ?_
    refine r_bipush hX dX6_putFor_28 (q := 30) rfl (v := nI 40) (by decide +kernel) ?_
    refine r_iconst hX dX6_putFor_30 (q := 31) rfl (v := nI 3) (by decide +kernel) ?_
    refine r_iload1 hX dX6_putFor_31 (q := 32) rfl ?_
    refine r_imul hX dX6_putFor_32 (q := 33) rfl ?_
    refine r_iadd hX dX6_putFor_33 (q := 34) rfl ?_
    refine r_iconst hX dX6_putFor_34 (q := 35) rfl (v := nI 2) (by decide +kernel) ?_
    refine r_iadd hX dX6_putFor_35 (q := 36) rfl ?_
    refine r_iconst hX dX6_putFor_36 (q := 37) rfl (v := nI 1) (by decide +kernel) ?_
    refine r_bipush hX dX6_putFor_37 (q := 39) rfl (v := nI 20) (by decide +kernel) ?_
    refine r_iload2 hX dX6_putFor_39 (q := 40) rfl ?_
    refine r_iconst hX dX6_putFor_40 (q := 41) rfl (v := nI 1) (by decide +kernel) ?_
    refine r_callV hX dX6_putFor_41 (q := 44) rfl (c_X6_bestIn _ Γ _ μ hM b hV _ (40 + 3 * t + 2) 1 20 _ (cl y) true (scW μ (cl y) t 2) (e_add (e_add rfl (e_mul rfl rfl)) rfl) (by omega) (by decide) (by decide) ye (by omega) (by omega) (fun v a1 a2 => hV.row (w := 2) (by omega) (by decide) a1 a2) (fun v => rfl)) kX6_169 mlX6_bestIn mvX6_bestIn rfl rfl rfl ⟨by decide, rfl⟩ ⟨by decide, by decide⟩ (Nat.le_of_ble_eq_true rfl) (kpI (fun v41 G41 p41 => ?_))
    refine r_iret hX hR dX6_putFor_44 ?_
    -- leaf 0 at 44
    refine ⟨_, rfl, ?_⟩
    first
      | (rcases hko with ⟨rfl, q⟩ | ⟨rfl, q, z9⟩
         · exact MOut.fin (k := 0) (if_neg (fun q2 => q q2)) ⟨p21.1.trans hkv, p21.2⟩ hM FrM.rf
         · exact MOut.fin (k := 4) ((if_pos (show tsB μ x = true ∧ nI 1 ≤ y ∧ y ≤ nI 175 from q)).trans (if_pos ((past_r hV hb (h := 175) (by decide) (le_01 q.2)).mpr z9))) ⟨p21.1.trans hkv, p21.2⟩ hM FrM.rf)
      | exact MOut.ok (w := (bsS (scW μ (cl y) t 2) 1 (20 + 1 - 1)).1) (μ' := μ) (by unfold oBest; rw [if_pos ⟨hgt, hy2⟩, if_neg (fun q => (past_r hV hb (h := 175) (by decide) (le_01 hy2)).mp q hps), cl_nI (by omega)] <;> rfl) p41.1 p41.2.1 p41.2.2
  ·
    obtain ⟨kk, hk7, hkv, hko⟩ := wm_n h16
    refine r_aload0 hX dX6_putFor_19 (q := 20) rfl ?_
    refine r_iload3 hX dX6_putFor_20 (q := 21) rfl ?_
    refine r_callV hX dX6_putFor_21 (q := 24) rfl (c_X6_finds _ Γ _ _ kk hk7 (by rw [hkv]; exact fk_x kk hk7)) kX6_36 mlX6_finds mvX6_finds rfl rfl rfl ⟨by decide, rfl⟩ ⟨by decide, by decide⟩ (Nat.le_of_ble_eq_true rfl) (kpI (fun v21 G21 p21 => ?_))
    refine r_goto hX dX6_putFor_24 (tgt := 44) (by decide) ?_
    refine r_iret hX hR dX6_putFor_44 ?_
    -- leaf 1 at 44
    refine ⟨_, rfl, ?_⟩
    first
      | (rcases hko with ⟨rfl, q⟩ | ⟨rfl, q, z9⟩
         · exact MOut.fin (k := 0) (if_neg (fun q2 => q q2)) ⟨p21.1.trans hkv, p21.2⟩ hM FrM.rf
         · exact MOut.fin (k := 4) ((if_pos (show tsB μ x = true ∧ nI 1 ≤ y ∧ y ≤ nI 175 from q)).trans (if_pos ((past_r hV hb (h := 175) (by decide) (le_01 q.2)).mpr z9))) ⟨p21.1.trans hkv, p21.2⟩ hM FrM.rf)
      | exact MOut.ok (w := (bsS (scW μ (cl y) t 2) 1 (20 + 1 - 1)).1) (μ' := μ) (by unfold oBest; rw [if_pos ⟨hgt, hy2⟩, if_neg (fun q => (past_r hV hb (h := 175) (by decide) (le_01 hy2)).mp q hps), cl_nI (by omega)] <;> rfl) p41.1 p41.2.1 p41.2.2
