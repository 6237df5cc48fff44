set_option maxRecDepth 100000 in
set_option maxHeartbeats 4000000 in
theorem c_X0_serveTaste (l : Launch) (Γ : Gam) (G : GG) (i : Nat) (hi : i < 3) (μ : MU) (b : Nat) (hC : CR G i μ) (hV : Inv b μ) (x : Int32) (t : Nat) (hx : x = nI t) (ht : t < 10) : Sp l yX0_serveTaste cX0_serveTaste 6 (some .int) 2 46 [.ref (gad Γ (ch i 0)), .int x] Γ G (pI (fun v G' => v = (srvF μ t).1 ∧ CR G' i (srvF μ t).2 ∧ Fr i G G')) := by
  refine Sp_of (own := RX0) rfl (by decide +kernel) rfl (Nat.le_of_ble_eq_true rfl) (fun X hX hR => ?_)
  show WP X Γ 0 [some (.ref (gad Γ (ch i 0))), some (.int x), none, none, none, none] [] G
  subst hx
  obtain ⟨hf, hfe⟩ := hV.fd ht
  obtain ⟨f, hfd⟩ : ∃ f, f = cl (μ (41 + 3 * t)) := ⟨_, rfl⟩
  rw [← hfd] at hf hfe
  have e6 : G (ch i 6) t = nI f := (hC.2.2.1 t ht).2.1.trans hfe
  have e5 : G (ch i 5) t = μ (40 + 3 * t) := (hC.2.2.1 t ht).1
  have ez : G (ch i 0) 12 = μ 1 := hC.1.2.1
  have hV1 : Inv b (srvM μ t f) := hV.srvM t f
  have J51 : ∀ (G1 : GG) (fb : Bool), (CR G1 i (srvM μ t f)) → (Fr i G G1) → (fb = fndS (μ (40 + 3 * t)) (μ 1) (μ (11 + 3 * f))) → WP X Γ 51 [some (.ref (gad Γ (ch i 0))), some (.int (nI t)), some (.int (G (ch i 6) t)), some (.int (G (ch i 5) t)), some (.int (bi fb)), none] [] G1 := by
    intro G1 fb hC1 hF1 hfb
    refine r_aload0 hX dX0_serveTaste_51 (q := 52) rfl ?_
    refine r_iload1 hX dX0_serveTaste_52 (q := 53) rfl ?_
    refine r_iload4 hX dX0_serveTaste_53 (q := 55) rfl ?_
    refine r_callV hX dX0_serveTaste_55 (q := 58) rfl (c_X0_eats _ Γ _ _ (by first | assumption | decide) _ _ (by assumption) (by assumption) _ _ (by repeat' (first | assumption | with_reducible exact rfl | refine e_add ?_ ?_ | refine e_mul ?_ ?_)) (by assumption) _) kX0_105 mlX0_eats mvX0_eats rfl rfl (ch_lay (j := 0) (by first | assumption | decide) (by decide) rfl) ⟨by decide, rfl⟩ ⟨by decide, by decide⟩ (Nat.le_of_ble_eq_true rfl) (keI ?_)
    rw [eatT_z, hfb, ← srvE_eq hfd]
    refine r_istore5 hX dX0_serveTaste_58 (q := 60) rfl rfl ?_
    refine r_aload0 hX dX0_serveTaste_60 (q := 61) rfl ?_
    refine r_iload2 hX dX0_serveTaste_61 (q := 62) rfl ?_
    refine r_aload0 hX dX0_serveTaste_62 (q := 63) rfl ?_
    refine r_iload1 hX dX0_serveTaste_63 (q := 64) rfl ?_
    refine r_iload4 hX dX0_serveTaste_64 (q := 66) rfl ?_
    refine r_callV hX dX0_serveTaste_66 (q := 69) rfl (c_X0_moves _ Γ _ _ (by first | assumption | decide) _ _ (by assumption) (by assumption) _ _ (by with_reducible exact rfl) (by assumption) _) kX0_109 mlX0_moves mvX0_moves rfl rfl (ch_lay (j := 0) (by first | assumption | decide) (by decide) rfl) ⟨by decide, rfl⟩ ⟨by decide, by decide⟩ (Nat.le_of_ble_eq_true rfl) (keI ?_)
    refine r_callV hX dX0_serveTaste_69 (q := 72) rfl (c_X0_moveLike _ Γ _ _ (by first | assumption | decide) _ _ (by repeat' (first | assumption | with_reducible exact rfl | refine e_add ?_ ?_ | refine e_mul ?_ ?_)) (by first | assumption | omega) _) kX0_112 mlX0_moveLike mvX0_moveLike rfl rfl (ch_lay (j := 0) (by first | assumption | decide) (by decide) rfl) ⟨by decide, rfl⟩ ⟨by decide, by decide⟩ (Nat.le_of_ble_eq_true rfl) (keV ?_)
    have e1 : G1 (ch i 1) f = μ (10 + 3 * f) := ((hC1.2.1 f hf).1).trans (srv_z (by omega))
    rw [e1, movT_z]
    have hC2 := hC1.like hf (lkS (μ (10 + 3 * f) + movT μ t (fndS (μ (40 + 3 * t)) (μ 1) (μ (11 + 3 * f)))))
    rw [← srvL_eq hfd] at hC2
    have hF2 : Fr i G (up G1 (ch i 1) f (lkS (μ (10 + 3 * f) + movT μ t (fndS (μ (40 + 3 * t)) (μ 1) (μ (11 + 3 * f)))))) := hF1.up (by decide)
    generalize up G1 (ch i 1) f (lkS (μ (10 + 3 * f) + movT μ t (fndS (μ (40 + 3 * t)) (μ 1) (μ (11 + 3 * f))))) = G2 at hC2 hF2 ⊢
    refine r_iload3 hX dX0_serveTaste_72 (q := 73) rfl ?_
    refine r_iconst hX dX0_serveTaste_73 (q := 74) rfl (v := nI 3) (by decide +kernel) ?_
    first | refine r_icmpN_ne hX dX0_serveTaste_74 (q := 77) rfl (tgt := 96) (by decide) (by first | decide | omega) (by first | decide | omega) (fun h74 => ?_) (fun h74 => ?_) | refine r_icmp_ne hX dX0_serveTaste_74 (q := 77) rfl (tgt := 96) (by decide) (fun h74 => ?_) (fun h74 => ?_)
    ·
      have hS : srvL μ t f = srvP μ t f := (if_neg (fun z => h74 (e5.trans z.1))).symm
      have hC3 := hC2
      have hF3 := hF2
      rw [hS] at hC3
      refine r_aload0 hX dX0_serveTaste_96 (q := 97) rfl ?_
      refine r_getR hX dX0_serveTaste_97 (q := 100) rfl fX0_18 (ch_lay (j := 0) (by first | assumption | decide) (by decide) rfl) (rC_2 (by first | assumption | decide)) ?_
      refine r_iload2 hX dX0_serveTaste_100 (q := 101) rfl ?_
      refine r_sipush hX dX0_serveTaste_101 (q := 104) rfl (v := nI 999) (by decide +kernel) ?_
      refine r_aload0 hX dX0_serveTaste_104 (q := 105) rfl ?_
      refine r_getR hX dX0_serveTaste_105 (q := 108) rfl fX0_18 (ch_lay (j := 0) (by first | assumption | decide) (by decide) rfl) (rC_2 (by first | assumption | decide)) ?_
      refine r_iload2 hX dX0_serveTaste_108 (q := 109) rfl ?_
      refine r_ialdN hX dX0_serveTaste_109 (q := 110) rfl (ch_lay (j := 3) (by first | assumption | decide) (by decide) rfl) (by repeat' (first | assumption | with_reducible exact rfl | refine e_add ?_ ?_ | refine e_mul ?_ ?_)) (by first | assumption | omega) (by first | decide | omega) ?_
      refine r_iconst hX dX0_serveTaste_110 (q := 111) rfl (v := nI 1) (by decide +kernel) ?_
      refine r_iadd hX dX0_serveTaste_111 (q := 112) rfl ?_
      refine r_mmin hX dX0_serveTaste_112 (q := 115) rfl kX0_88 msMathmin ⟨by decide, Nat.le_of_ble_eq_true rfl⟩ ?_
      refine r_iastN hX dX0_serveTaste_115 (q := 116) rfl (ch_lay (j := 3) (by first | assumption | decide) (by decide) rfl) (by repeat' (first | assumption | with_reducible exact rfl | refine e_add ?_ ?_ | refine e_mul ?_ ?_)) (by first | assumption | omega) (by first | decide | omega) ?_
      refine r_iload5 hX dX0_serveTaste_116 (q := 118) rfl ?_
      refine r_iret hX hR dX0_serveTaste_118 ?_
      -- leaf 0 at 118
      refine ⟨_, rfl, ?_⟩
      have e12 : srvP μ t f (12 + 3 * f) = μ (12 + 3 * f) := by
        unfold srvP
        split
        · rw [upd_ne (by omega)]; exact (upd_ne (by omega)).trans (srv_z (by omega))
        · exact (upd_ne (by omega)).trans (srv_z (by omega))
      rw [((hC3.2.1 f hf).2.2), e12]
      refine ⟨?_, ?_, ?_⟩
      · rw [hfd]; rfl
      · have h := hC3.tri hf (imin (nI 999) (μ (12 + 3 * f) + nI 1))
        rw [hfd] at h ⊢
        exact h
      · exact hF3.up (by decide)
    ·
      refine r_aload0 hX dX0_serveTaste_77 (q := 78) rfl ?_
      have ep : G2 (ch i 0) 7 = μ 6 := hC2.1.2.2.2.2.2.2.1.trans ((upd_ne (by omega)).trans (srv_z (by omega)))
      refine r_getI hX dX0_serveTaste_78 (q := 81) rfl fX0_40 (ch_lay (j := 0) (by first | assumption | decide) (by decide) rfl) (rC_7 (by first | assumption | decide)) ?_
      refine r_callN hX dX0_serveTaste_81 (q := 84) rfl (c_X5_isFood _ Γ _ _) kX0_116 mlX5_isFood msX5_isFood rfl rfl ⟨by decide, by decide⟩ (Nat.le_of_ble_eq_true rfl) (keB ?_)
      first | with_reducible refine r_ifd_eq hX dX0_serveTaste_84 (q := 87) rfl (tgt := 96) (by decide) (fun h84 => ?_) (fun h84 => ?_) | refine r_ifb_eq hX dX0_serveTaste_84 (q := 87) rfl (tgt := 96) (by decide) (fun h84 => ?_) (fun h84 => ?_)
      ·
        have hS : srvL μ t f = srvP μ t f := (if_neg (fun z => h84 (by rw [ep]; obtain ⟨p1, p2⟩ := hV.pd z.2; rw [p2]; exact ⟨nI_le (Nat.zero_le _) (by omega), nI_le (by omega) (by omega)⟩))).symm
        have hC3 := hC2
        have hF3 := hF2
        rw [hS] at hC3
        refine r_aload0 hX dX0_serveTaste_96 (q := 97) rfl ?_
        refine r_getR hX dX0_serveTaste_97 (q := 100) rfl fX0_18 (ch_lay (j := 0) (by first | assumption | decide) (by decide) rfl) (rC_2 (by first | assumption | decide)) ?_
        refine r_iload2 hX dX0_serveTaste_100 (q := 101) rfl ?_
        refine r_sipush hX dX0_serveTaste_101 (q := 104) rfl (v := nI 999) (by decide +kernel) ?_
        refine r_aload0 hX dX0_serveTaste_104 (q := 105) rfl ?_
        refine r_getR hX dX0_serveTaste_105 (q := 108) rfl fX0_18 (ch_lay (j := 0) (by first | assumption | decide) (by decide) rfl) (rC_2 (by first | assumption | decide)) ?_
        refine r_iload2 hX dX0_serveTaste_108 (q := 109) rfl ?_
        refine r_ialdN hX dX0_serveTaste_109 (q := 110) rfl (ch_lay (j := 3) (by first | assumption | decide) (by decide) rfl) (by repeat' (first | assumption | with_reducible exact rfl | refine e_add ?_ ?_ | refine e_mul ?_ ?_)) (by first | assumption | omega) (by first | decide | omega) ?_
        refine r_iconst hX dX0_serveTaste_110 (q := 111) rfl (v := nI 1) (by decide +kernel) ?_
        refine r_iadd hX dX0_serveTaste_111 (q := 112) rfl ?_
        refine r_mmin hX dX0_serveTaste_112 (q := 115) rfl kX0_88 msMathmin ⟨by decide, Nat.le_of_ble_eq_true rfl⟩ ?_
        refine r_iastN hX dX0_serveTaste_115 (q := 116) rfl (ch_lay (j := 3) (by first | assumption | decide) (by decide) rfl) (by repeat' (first | assumption | with_reducible exact rfl | refine e_add ?_ ?_ | refine e_mul ?_ ?_)) (by first | assumption | omega) (by first | decide | omega) ?_
        refine r_iload5 hX dX0_serveTaste_116 (q := 118) rfl ?_
        refine r_iret hX hR dX0_serveTaste_118 ?_
        -- leaf 1 at 118
        refine ⟨_, rfl, ?_⟩
        have e12 : srvP μ t f (12 + 3 * f) = μ (12 + 3 * f) := by
          unfold srvP
          split
          · rw [upd_ne (by omega)]; exact (upd_ne (by omega)).trans (srv_z (by omega))
          · exact (upd_ne (by omega)).trans (srv_z (by omega))
        rw [((hC3.2.1 f hf).2.2), e12]
        refine ⟨?_, ?_, ?_⟩
        · rw [hfd]; rfl
        · have h := hC3.tri hf (imin (nI 999) (μ (12 + 3 * f) + nI 1))
          rw [hfd] at h ⊢
          exact h
        · exact hF3.up (by decide)
      ·
        have hpd : ¬ μ 6 < nI 0 := by rw [← ep]; exact fun z => absurd (Int32.lt_of_lt_of_le z h84.1) Int32.lt_irrefl
        have ep2 : G2 (ch i 0) 7 = nI (cl (μ 6)) := ep.trans (hV.pd hpd).2
        have hp10 := (hV.pd hpd).1
        refine r_aload0 hX dX0_serveTaste_87 (q := 88) rfl ?_
        refine r_aload0 hX dX0_serveTaste_88 (q := 89) rfl ?_
        refine r_getI hX dX0_serveTaste_89 (q := 92) rfl fX0_40 (ch_lay (j := 0) (by first | assumption | decide) (by decide) rfl) (rC_7 (by first | assumption | decide)) ?_
        refine r_iconst hX dX0_serveTaste_92 (q := 93) rfl (v := nI 5) (by decide +kernel) ?_
        refine r_callV hX dX0_serveTaste_93 (q := 96) rfl (c_X0_moveLike _ Γ _ _ (by first | assumption | decide) _ _ (by assumption) (by assumption) _) kX0_112 mlX0_moveLike mvX0_moveLike rfl rfl (ch_lay (j := 0) (by first | assumption | decide) (by decide) rfl) ⟨by decide, rfl⟩ ⟨by decide, by decide⟩ (Nat.le_of_ble_eq_true rfl) (keV ?_)
        rw [((hC2.2.1 _ (hV.pd hpd).1).1)]
        have hC3 := hC2.like (hV.pd hpd).1 (lkS (srvL μ t f (10 + 3 * cl (μ 6)) + nI 5))
        have hF3 : Fr i G (up G2 (ch i 1) (cl (μ 6)) (lkS (srvL μ t f (10 + 3 * cl (μ 6)) + nI 5))) := hF2.up (by decide)
        have hS : upd (srvL μ t f) (10 + 3 * cl (μ 6)) (lkS (srvL μ t f (10 + 3 * cl (μ 6)) + nI 5)) = srvP μ t f := (if_pos ⟨e5.symm.trans h74, hpd⟩).symm
        rw [hS] at hC3
        generalize up G2 (ch i 1) (cl (μ 6)) (lkS (srvL μ t f (10 + 3 * cl (μ 6)) + nI 5)) = G3 at hC3 hF3 ⊢
        refine r_aload0 hX dX0_serveTaste_96 (q := 97) rfl ?_
        refine r_getR hX dX0_serveTaste_97 (q := 100) rfl fX0_18 (ch_lay (j := 0) (by first | assumption | decide) (by decide) rfl) (rC_2 (by first | assumption | decide)) ?_
        refine r_iload2 hX dX0_serveTaste_100 (q := 101) rfl ?_
        refine r_sipush hX dX0_serveTaste_101 (q := 104) rfl (v := nI 999) (by decide +kernel) ?_
        refine r_aload0 hX dX0_serveTaste_104 (q := 105) rfl ?_
        refine r_getR hX dX0_serveTaste_105 (q := 108) rfl fX0_18 (ch_lay (j := 0) (by first | assumption | decide) (by decide) rfl) (rC_2 (by first | assumption | decide)) ?_
        refine r_iload2 hX dX0_serveTaste_108 (q := 109) rfl ?_
        refine r_ialdN hX dX0_serveTaste_109 (q := 110) rfl (ch_lay (j := 3) (by first | assumption | decide) (by decide) rfl) (by repeat' (first | assumption | with_reducible exact rfl | refine e_add ?_ ?_ | refine e_mul ?_ ?_)) (by first | assumption | omega) (by first | decide | omega) ?_
        refine r_iconst hX dX0_serveTaste_110 (q := 111) rfl (v := nI 1) (by decide +kernel) ?_
        refine r_iadd hX dX0_serveTaste_111 (q := 112) rfl ?_
        refine r_mmin hX dX0_serveTaste_112 (q := 115) rfl kX0_88 msMathmin ⟨by decide, Nat.le_of_ble_eq_true rfl⟩ ?_
        refine r_iastN hX dX0_serveTaste_115 (q := 116) rfl (ch_lay (j := 3) (by first | assumption | decide) (by decide) rfl) (by repeat' (first | assumption | with_reducible exact rfl | refine e_add ?_ ?_ | refine e_mul ?_ ?_)) (by first | assumption | omega) (by first | decide | omega) ?_
        refine r_iload5 hX dX0_serveTaste_116 (q := 118) rfl ?_
        refine r_iret hX hR dX0_serveTaste_118 ?_
        -- leaf 2 at 118
        refine ⟨_, rfl, ?_⟩
        have e12 : srvP μ t f (12 + 3 * f) = μ (12 + 3 * f) := by
          unfold srvP
          split
          · rw [upd_ne (by omega)]; exact (upd_ne (by omega)).trans (srv_z (by omega))
          · exact (upd_ne (by omega)).trans (srv_z (by omega))
        rw [((hC3.2.1 f hf).2.2), e12]
        refine ⟨?_, ?_, ?_⟩
        · rw [hfd]; rfl
        · have h := hC3.tri hf (imin (nI 999) (μ (12 + 3 * f) + nI 1))
          rw [hfd] at h ⊢
          exact h
        · exact hF3.up (by decide)
  refine r_aload0 hX dX0_serveTaste_0 (q := 1) rfl ?_
  refine r_getR hX dX0_serveTaste_1 (q := 4) rfl fX0_49 (ch_lay (j := 0) (by first | assumption | decide) (by decide) rfl) (rC_9 (by first | assumption | decide)) ?_
  refine r_getR hX dX0_serveTaste_4 (q := 7) rfl fX0_82 (ch_lay (j := 4) (by first | assumption | decide) (by decide) rfl) (rP_1 (by first | assumption | decide)) ?_
  refine r_iload1 hX dX0_serveTaste_7 (q := 8) rfl ?_
  refine r_ialdN hX dX0_serveTaste_8 (q := 9) rfl (ch_lay (j := 6) (by first | assumption | decide) (by decide) rfl) (by repeat' (first | assumption | with_reducible exact rfl | refine e_add ?_ ?_ | refine e_mul ?_ ?_)) (by first | assumption | omega) (by first | decide | omega) ?_
  refine r_istore2 hX dX0_serveTaste_9 (q := 10) rfl rfl ?_
  refine r_aload0 hX dX0_serveTaste_10 (q := 11) rfl ?_
  refine r_getR hX dX0_serveTaste_11 (q := 14) rfl fX0_49 (ch_lay (j := 0) (by first | assumption | decide) (by decide) rfl) (rC_9 (by first | assumption | decide)) ?_
  refine r_getR hX dX0_serveTaste_14 (q := 17) rfl fX0_85 (ch_lay (j := 4) (by first | assumption | decide) (by decide) rfl) (rP_0 (by first | assumption | decide)) ?_
  refine r_iload1 hX dX0_serveTaste_17 (q := 18) rfl ?_
  refine r_ialdN hX dX0_serveTaste_18 (q := 19) rfl (ch_lay (j := 5) (by first | assumption | decide) (by decide) rfl) (by repeat' (first | assumption | with_reducible exact rfl | refine e_add ?_ ?_ | refine e_mul ?_ ?_)) (by first | assumption | omega) (by first | decide | omega) ?_
  refine r_istore3 hX dX0_serveTaste_19 (q := 20) rfl rfl ?_
  refine r_iload3 hX dX0_serveTaste_20 (q := 21) rfl ?_
  refine r_bipush hX dX0_serveTaste_21 (q := 23) rfl (v := nI 6) (by decide +kernel) ?_
  first | refine r_icmpN_ne hX dX0_serveTaste_23 (q := 26) rfl (tgt := 48) (by decide) (by first | decide | omega) (by first | decide | omega) (fun h23 => ?_) (fun h23 => ?_) | refine r_icmp_ne hX dX0_serveTaste_23 (q := 26) rfl (tgt := 48) (by decide) (fun h23 => ?_) (fun h23 => ?_)
  ·
    refine r_iconst hX dX0_serveTaste_48 (q := 49) rfl (v := nI 0) (by decide +kernel) ?_
    refine r_istore4 hX dX0_serveTaste_49 (q := 51) rfl rfl ?_
    refine J51 _ false ?_ ?_ ?_
    ·
      rw [srvM_n (by rw [← e5]; exact h23)]; exact hC
    ·
      exact Fr.rf
    ·
      exact (decide_eq_false (fun z => h23 (e5.trans z.1))).symm
  ·
    refine r_aload0 hX dX0_serveTaste_26 (q := 27) rfl ?_
    refine r_callV hX dX0_serveTaste_27 (q := 30) rfl (c_X0_drawn _ Γ _ _ (by first | assumption | decide)) kX0_101 mlX0_drawn mvX0_drawn rfl rfl (ch_lay (j := 0) (by first | assumption | decide) (by decide) rfl) ⟨by decide, rfl⟩ ⟨by decide, by decide⟩ (Nat.le_of_ble_eq_true rfl) (keI ?_)
    rw [ez]
    have hC1 := hC.z (drS (μ 1))
    have eb : up G (ch i 0) 12 (drS (μ 1)) (ch i 2) f = μ (11 + 3 * f) := ((hC1.2.1 f hf).2.1).trans (upd_ne (by omega))
    refine r_bipush hX dX0_serveTaste_30 (q := 32) rfl (v := nI 10) (by decide +kernel) ?_
    refine r_irem hX dX0_serveTaste_32 (q := 33) rfl (by first | decide +kernel | assumption) ?_
    refine r_aload0 hX dX0_serveTaste_33 (q := 34) rfl ?_
    refine r_getR hX dX0_serveTaste_34 (q := 37) rfl fX0_15 (ch_lay (j := 0) (by first | assumption | decide) (by decide) rfl) (rC_1 (by first | assumption | decide)) ?_
    refine r_iload2 hX dX0_serveTaste_37 (q := 38) rfl ?_
    skip
    refine r_ialdN hX dX0_serveTaste_38 (q := 39) rfl (ch_lay (j := 2) (by first | assumption | decide) (by decide) rfl) (by repeat' (first | assumption | with_reducible exact rfl | refine e_add ?_ ?_ | refine e_mul ?_ ?_)) (by first | assumption | omega) (by first | decide | omega) ?_
    refine r_iconst hX dX0_serveTaste_39 (q := 40) rfl (v := nI 1) (by decide +kernel) ?_
    refine r_iadd hX dX0_serveTaste_40 (q := 41) rfl ?_
    first | refine r_icmpN_ge hX dX0_serveTaste_41 (q := 44) rfl (tgt := 48) (by decide) (by first | decide | omega) (by first | decide | omega) (fun h41 => ?_) (fun h41 => ?_) | refine r_icmp_ge hX dX0_serveTaste_41 (q := 44) rfl (tgt := 48) (by decide) (fun h41 => ?_) (fun h41 => ?_)
    ·
      refine r_iconst hX dX0_serveTaste_48 (q := 49) rfl (v := nI 0) (by decide +kernel) ?_
      refine r_istore4 hX dX0_serveTaste_49 (q := 51) rfl rfl ?_
      refine J51 _ false ?_ ?_ ?_
      ·
        rw [srvM_6 (e5.symm.trans h23)]; exact hC1
      ·
        exact Fr.rf.up (by decide)
      ·
        rw [eb] at h41; exact (decide_eq_false (fun z => absurd (Int32.lt_of_lt_of_le z.2 h41) Int32.lt_irrefl)).symm
    ·
      refine r_iconst hX dX0_serveTaste_44 (q := 45) rfl (v := nI 1) (by decide +kernel) ?_
      refine r_goto hX dX0_serveTaste_45 (tgt := 49) (by decide) ?_
      refine r_istore4 hX dX0_serveTaste_49 (q := 51) rfl rfl ?_
      refine J51 _ true ?_ ?_ ?_
      ·
        rw [srvM_6 (e5.symm.trans h23)]; exact hC1
      ·
        exact Fr.rf.up (by decide)
      ·
        rw [eb] at h41; exact (decide_eq_true ⟨e5.symm.trans h23, Int32.not_le.mp h41⟩).symm

set_option maxRecDepth 100000 in
set_option maxHeartbeats 4000000 in
theorem c_X0_serveMeal (l : Launch) (Γ : Gam) (G : GG) (i : Nat) (hi : i < 3) (μ : MU) (b : Nat) (hC : CR G i μ) (hV : Inv b μ) (hb : b < 2 ^ 29) : Sp l yX0_serveMeal cX0_serveMeal 2 (some .int) 3 71 [.ref (gad Γ (ch i 0))] Γ G (pI (fun v G' => v = (stepF μ).1 ∧ CR G' i (stepF μ).2 ∧ Fr i G G')) := by
  refine Sp_of (own := RX0) rfl (by decide +kernel) rfl (Nat.le_of_ble_eq_true rfl) (fun X hX hR => ?_)
  show WP X Γ 0 [some (.ref (gad Γ (ch i 0))), none] [] G
  have es : G (ch i 4) 3 = μ 8 := hC.1.2.2.2.2.2.2.2.2
  have em : G (ch i 0) 10 = μ 0 := hC.1.1
  obtain ⟨m, hm1, hm2, hm3⟩ := hV.1
  have J31 : ∀ (G1 : GG) (e : Int32) (ν : MU), (CR G1 i ν) → (Inv b ν) → (nn e 20) → (Fr i G G1) → (stepF μ = (e, mealE ν e)) → WP X Γ 31 [some (.ref (gad Γ (ch i 0))), some (.int e)] [] G1 := by
    intro G1 e ν hC1 hV1 he hF1 hS
    obtain ⟨m, hm1, hm2, hm3⟩ := hV1.1
    have e4 : G1 (ch i 0) 4 = ν 3 := hC1.1.2.2.2.1
    refine r_aload0 hX dX0_serveMeal_31 (q := 32) rfl ?_
    refine r_bipush hX dX0_serveMeal_32 (q := 34) rfl (v := nI 99) (by decide +kernel) ?_
    refine r_iconst hX dX0_serveMeal_34 (q := 35) rfl (v := nI 0) (by decide +kernel) ?_
    refine r_aload0 hX dX0_serveMeal_35 (q := 36) rfl ?_
    refine r_getI hX dX0_serveMeal_36 (q := 39) rfl fX0_31 (ch_lay (j := 0) (by first | assumption | decide) (by decide) rfl) (rC_4 (by first | assumption | decide)) ?_
    refine r_iconst hX dX0_serveMeal_39 (q := 40) rfl (v := nI 3) (by decide +kernel) ?_
    refine r_iload1 hX dX0_serveMeal_40 (q := 41) rfl ?_
    refine r_imul hX dX0_serveMeal_41 (q := 42) rfl ?_
    refine r_isub hX dX0_serveMeal_42 (q := 43) rfl ?_
    refine r_mmax hX dX0_serveMeal_43 (q := 46) rfl kX0_98 msMathmax ⟨by decide, Nat.le_of_ble_eq_true rfl⟩ ?_
    refine r_bipush hX dX0_serveMeal_46 (q := 48) rfl (v := nI 12) (by decide +kernel) ?_
    refine r_iadd hX dX0_serveMeal_48 (q := 49) rfl ?_
    refine r_mmin hX dX0_serveMeal_49 (q := 52) rfl kX0_88 msMathmin ⟨by decide, Nat.le_of_ble_eq_true rfl⟩ ?_
    refine r_put hX dX0_serveMeal_52 (q := 55) rfl fX0_31 wX0_4 rfl rfl (ch_lay (j := 0) (by first | assumption | decide) (by decide) rfl) (rC_4 (by first | assumption | decide)) ?_
    have hC2 := hC1.hun (hunS (ν 3) e)
    show WP X Γ 55 _ _ (up G1 (ch i 0) 4 (hunS (G1 (ch i 0) 4) e))
    rw [e4]
    have hF2 : Fr i G (up G1 (ch i 0) 4 (hunS (ν 3) e)) := hF1.up (by decide)
    generalize up G1 (ch i 0) 4 (hunS (ν 3) e) = G2 at hC2 hF2 ⊢
    have e5 : G2 (ch i 0) 5 = ν 4 := hC2.1.2.2.2.2.1.trans (upd_ne (by decide))
    refine r_aload0 hX dX0_serveMeal_55 (q := 56) rfl ?_
    refine r_iconst hX dX0_serveMeal_56 (q := 57) rfl (v := nI 0) (by decide +kernel) ?_
    refine r_sipush hX dX0_serveMeal_57 (q := 60) rfl (v := nI 9999) (by decide +kernel) ?_
    refine r_aload0 hX dX0_serveMeal_60 (q := 61) rfl ?_
    refine r_getI hX dX0_serveMeal_61 (q := 64) rfl fX0_34 (ch_lay (j := 0) (by first | assumption | decide) (by decide) rfl) (rC_5 (by first | assumption | decide)) ?_
    refine r_iload1 hX dX0_serveMeal_64 (q := 65) rfl ?_
    refine r_iadd hX dX0_serveMeal_65 (q := 66) rfl ?_
    refine r_iconst hX dX0_serveMeal_66 (q := 67) rfl (v := nI 4) (by decide +kernel) ?_
    refine r_isub hX dX0_serveMeal_67 (q := 68) rfl ?_
    refine r_mmin hX dX0_serveMeal_68 (q := 71) rfl kX0_88 msMathmin ⟨by decide, Nat.le_of_ble_eq_true rfl⟩ ?_
    refine r_mmax hX dX0_serveMeal_71 (q := 74) rfl kX0_98 msMathmax ⟨by decide, Nat.le_of_ble_eq_true rfl⟩ ?_
    refine r_put hX dX0_serveMeal_74 (q := 77) rfl fX0_34 wX0_5 rfl rfl (ch_lay (j := 0) (by first | assumption | decide) (by decide) rfl) (rC_5 (by first | assumption | decide)) ?_
    have hC3 := hC2.wei (weiS (ν 4) e)
    show WP X Γ 77 _ _ (up G2 (ch i 0) 5 (weiS (G2 (ch i 0) 5) e))
    rw [e5]
    have hF3 : Fr i G (up G2 (ch i 0) 5 (weiS (ν 4) e)) := hF2.up (by decide)
    generalize up G2 (ch i 0) 5 (weiS (ν 4) e) = G3 at hC3 hF3 ⊢
    have e10 : G3 (ch i 0) 10 = nI m := hC3.1.1.trans hm2
    refine r_aload0 hX dX0_serveMeal_77 (q := 78) rfl ?_
    refine r_getR hX dX0_serveMeal_78 (q := 81) rfl fX0_56 (ch_lay (j := 0) (by first | assumption | decide) (by decide) rfl) (rC_11 (by first | assumption | decide)) ?_
    refine r_aload0 hX dX0_serveMeal_81 (q := 82) rfl ?_
    refine r_getI hX dX0_serveMeal_82 (q := 85) rfl fX0_53 (ch_lay (j := 0) (by first | assumption | decide) (by decide) rfl) (rC_10 (by first | assumption | decide)) ?_
    refine r_bipush hX dX0_serveMeal_85 (q := 87) rfl (v := nI 35) (by decide +kernel) ?_
    refine r_irem hX dX0_serveMeal_87 (q := 88) rfl (by first | decide +kernel | assumption) ?_
    refine r_iload1 hX dX0_serveMeal_88 (q := 89) rfl ?_
    refine r_iastN hX dX0_serveMeal_89 (q := 90) rfl (ch_lay (j := 8) (by first | assumption | decide) (by decide) rfl) (by rw [e10]; exact pk_rem (d := 35) (by omega) (by decide) (by decide)) (Nat.mod_lt _ (by decide)) (by first | decide | omega) ?_
    refine r_aload0 hX dX0_serveMeal_90 (q := 91) rfl ?_
    refine r_dup hX dX0_serveMeal_91 (q := 92) rfl rfl ?_
    refine r_getI hX dX0_serveMeal_92 (q := 95) rfl fX0_53 (ch_lay (j := 0) (by first | assumption | decide) (by decide) rfl) (rC_10 (by first | assumption | decide)) ?_
    refine r_iconst hX dX0_serveMeal_95 (q := 96) rfl (v := nI 1) (by decide +kernel) ?_
    refine r_iadd hX dX0_serveMeal_96 (q := 97) rfl ?_
    refine r_put hX dX0_serveMeal_97 (q := 100) rfl fX0_53 wX0_10 rfl rfl (ch_lay (j := 0) (by first | assumption | decide) (by decide) rfl) (rC_10 (by first | assumption | decide)) ?_
    refine r_iload1 hX dX0_serveMeal_100 (q := 101) rfl ?_
    refine r_iret hX hR dX0_serveMeal_101 ?_
    -- leaf 0 at 101
    refine ⟨_, rfl, ?_⟩
    rw [hS, up_ne (by simp only [ch]; omega), e10]
    refine ⟨rfl, ?_, (hF3.up (by decide)).up (by decide)⟩
    have h := hC3.meal (m := m) hm2 (by omega) e (heS (ν 9 + nI 1) (nI 35))
    have h0 : upd (upd ν 3 (hunS (ν 3) e)) 4 (weiS (ν 4) e) 0 = nI m := hm2
    rw [h0] at h
    show CR _ i (mealE ν e)
    unfold mealE
    rw [hm2]
    exact h
  refine r_aload0 hX dX0_serveMeal_0 (q := 1) rfl ?_
  refine r_getR hX dX0_serveMeal_1 (q := 4) rfl fX0_49 (ch_lay (j := 0) (by first | assumption | decide) (by decide) rfl) (rC_9 (by first | assumption | decide)) ?_
  refine r_getI hX dX0_serveMeal_4 (q := 7) rfl fX0_119 (ch_lay (j := 4) (by first | assumption | decide) (by decide) rfl) (rP_3 (by first | assumption | decide)) ?_
  refine r_if_le hX dX0_serveMeal_7 (q := 10) rfl (tgt := 29) (by decide) (fun h7 => ?_) (fun h7 => ?_)
  ·
    have hz : μ 8 = nI 0 ∧ servN μ = none := by
      rcases hV.served (by omega) with z | ⟨m', n, z1, z2, z3, z4, z5, z6⟩
      · exact z
      · rw [es, z5] at h7
        exact absurd h7 (nI_nle z2 (by omega))
    refine r_iconst hX dX0_serveMeal_29 (q := 30) rfl (v := nI 0) (by decide +kernel) ?_
    refine r_istore1 hX dX0_serveMeal_30 (q := 31) rfl rfl ?_
    refine J31 _ _ μ ?_ ?_ ?_ ?_ ?_
    ·
      exact hC
    ·
      exact hV
    ·
      exact nn_mk (by decide)
    ·
      exact Fr.rf
    ·
      show mealF μ (servN μ) = _; rw [hz.2]; rfl
  ·
    obtain ⟨n, hn0, hn1, hn2, hsv⟩ : ∃ n, 0 < n ∧ n ≤ 10 ∧ μ 8 = nI n ∧ servN μ = some (m % n) := by
      rcases hV.served (by omega) with z | ⟨m', n, z1, z2, z3, z4, z5, z6⟩
      · rw [es, z.1, nI_0] at h7
        exact absurd (Int32.le_refl _) h7
      · have : m' = m := (nI_eq (by omega) (by omega)).mp (z4.symm.trans hm2)
        subst this
        exact ⟨n, z2, z3, z5, z6⟩
    have htn : m % n < 10 := Nat.lt_of_lt_of_le (Nat.mod_lt _ hn0) hn1
    refine r_aload0 hX dX0_serveMeal_10 (q := 11) rfl ?_
    refine r_aload0 hX dX0_serveMeal_11 (q := 12) rfl ?_
    refine r_getI hX dX0_serveMeal_12 (q := 15) rfl fX0_53 (ch_lay (j := 0) (by first | assumption | decide) (by decide) rfl) (rC_10 (by first | assumption | decide)) ?_
    refine r_aload0 hX dX0_serveMeal_15 (q := 16) rfl ?_
    refine r_getR hX dX0_serveMeal_16 (q := 19) rfl fX0_49 (ch_lay (j := 0) (by first | assumption | decide) (by decide) rfl) (rC_9 (by first | assumption | decide)) ?_
    refine r_getI hX dX0_serveMeal_19 (q := 22) rfl fX0_119 (ch_lay (j := 4) (by first | assumption | decide) (by decide) rfl) (rP_3 (by first | assumption | decide)) ?_
    refine r_irem hX dX0_serveMeal_22 (q := 23) rfl (by rw [es, hn2]; exact nI_ne0 hn0 (by omega)) ?_
    refine r_callV hX dX0_serveMeal_23 (q := 26) rfl (c_X0_serveTaste _ Γ _ _ (by first | assumption | decide) _ _ (by assumption) (by assumption) _ (m % n) (by rw [em, es, hm2, hn2]; exact pk_rem (by omega) hn0 (by omega)) htn) kX0_122 mlX0_serveTaste mvX0_serveTaste rfl rfl (ch_lay (j := 0) (by first | assumption | decide) (by decide) rfl) ⟨by decide, rfl⟩ ⟨by decide, by decide⟩ (Nat.le_of_ble_eq_true rfl) (kpI (fun v23 G23 p23 => ?_))
    refine r_goto hX dX0_serveMeal_26 (tgt := 30) (by decide) ?_
    refine r_istore1 hX dX0_serveMeal_30 (q := 31) rfl rfl ?_
    refine J31 _ _ (srvF μ (m % n)).2 ?_ ?_ ?_ ?_ ?_
    ·
      rw [p23.1] at *; exact p23.2.1
    ·
      exact (hV.srv htn).1
    ·
      rw [p23.1]; exact (hV.srv htn).2
    ·
      exact p23.2.2
    ·
      show mealF μ (servN μ) = _; rw [hsv, p23.1]; rfl

set_option maxRecDepth 100000 in
set_option maxHeartbeats 4000000 in
theorem c_X0_goOn (l : Launch) (Γ : Gam) (G : GG) (i : Nat) (hi : i < 3) (μ : MU) (b : Nat) (hC : CR G i μ) (hV : Inv b μ) (x : Int32) (n : Nat) (hx : x = nI n) (hn : b + n < 2 ^ 29) : Sp l yX0_goOn cX0_goOn 4 (some .int) 4 92 [.ref (gad Γ (ch i 0)), .int x] Γ G (pI (fun v G' => v = (goF μ n).1 ∧ CR G' i (goF μ n).2 ∧ Fr i G G')) := by
  refine Sp_of (own := RX0) rfl (by decide +kernel) rfl (Nat.le_of_ble_eq_true rfl) (fun X hX hR => ?_)
  show WP X Γ 0 [some (.ref (gad Γ (ch i 0))), some (.int x), none, none] [] G
  subst hx
  refine r_iconst hX dX0_goOn_0 (q := 1) rfl (v := nI 0) (by decide +kernel) ?_
  refine r_istore2 hX dX0_goOn_1 (q := 2) rfl rfl ?_
  refine r_iconst hX dX0_goOn_2 (q := 3) rfl (v := nI 0) (by decide +kernel) ?_
  refine r_istore3 hX dX0_goOn_3 (q := 4) rfl rfl ?_
  have L4 : ∀ (zn4 : Nat) (k : Nat) (e : Int32) (G1 : GG), zn4 = n - k → (k ≤ n) → (e = (goF μ k).1) → (CR G1 i (goF μ k).2) → (Fr i G G1) → WP X Γ 4 [some (.ref (gad Γ (ch i 0))), some (.int (nI n)), some (.int e), some (.int (nI k))] [] G1 := by
    intro zn4
    induction zn4 using Nat.strongRecOn with
    | _ zn4 ih4 =>
      intro k e G1 zh4 hk he hC1 hF1
      refine r_iload3 hX dX0_goOn_4 (q := 5) rfl ?_
      refine r_iload1 hX dX0_goOn_5 (q := 6) rfl ?_
      refine r_icmpN_ge hX dX0_goOn_6 (q := 9) rfl (tgt := 22) (by decide) (by first | decide | omega) (by first | decide | omega) (fun h6 => ?_) (fun h6 => ?_)
      ·
        refine r_iload2 hX dX0_goOn_22 (q := 23) rfl ?_
        refine r_iret hX hR dX0_goOn_23 ?_
        -- leaf 0 at 23
        refine ⟨_, rfl, ?_⟩
        have : k = n := by omega
        subst this
        exact ⟨he, hC1, hF1⟩
      ·
        have hVk := hV.go k (by omega)
        refine r_iload2 hX dX0_goOn_9 (q := 10) rfl ?_
        refine r_aload0 hX dX0_goOn_10 (q := 11) rfl ?_
        refine r_callV hX dX0_goOn_11 (q := 14) rfl (c_X0_serveMeal _ Γ _ _ (by first | assumption | decide) _ (b + k) hC1 hVk (by omega)) kX0_126 mlX0_serveMeal mvX0_serveMeal rfl rfl (ch_lay (j := 0) (by first | assumption | decide) (by decide) rfl) ⟨by decide, rfl⟩ ⟨by decide, by decide⟩ (Nat.le_of_ble_eq_true rfl) (kpI (fun v11 G11 p11 => ?_))
        refine r_iadd hX dX0_goOn_14 (q := 15) rfl ?_
        refine r_istore2 hX dX0_goOn_15 (q := 16) rfl rfl ?_
        refine r_iincN3 hX dX0_goOn_16 (q := 19) rfl rfl ?_
        refine r_goto hX dX0_goOn_19 (tgt := 4) (by decide) ?_
        refine ih4 _ ?_ (k + 1) _ _ rfl ?_ ?_ ?_ ?_
        ·
          omega
        ·
          omega
        ·
          rw [he, p11.1]; rfl
        ·
          exact p11.2.1
        ·
          exact hF1.tr p11.2.2
  refine L4 _ 0 _ _ rfl ?_ ?_ ?_ ?_
  ·
    exact Nat.zero_le _
  ·
    rfl
  ·
    exact hC
  ·
    exact Fr.rf

set_option maxRecDepth 100000 in
set_option maxHeartbeats 4000000 in
theorem c_X0_booked (l : Launch) (Γ : Gam) (G : GG) (i : Nat) (hi : i < 3) (μ : MU) (b : Nat) (hC : CR G i μ) (hV : Inv b μ) (hb : b < 2 ^ 29) : Sp l yX0_booked cX0_booked 1 (some .int) 1 21 [.ref (gad Γ (ch i 0))] Γ G (eI G (nI (cl (μ 9)))) := by
  refine Sp_of (own := RX0) rfl (by decide +kernel) rfl (Nat.le_of_ble_eq_true rfl) (fun X hX hR => ?_)
  show WP X Γ 0 [some (.ref (gad Γ (ch i 0)))] [] G
  obtain ⟨m, hm1, hm2, hm3⟩ := hV.1
  have em : G (ch i 0) 10 = nI m := hC.1.1.trans hm2
  refine r_aload0 hX dX0_booked_0 (q := 1) rfl ?_
  refine r_getI hX dX0_booked_1 (q := 4) rfl fX0_53 (ch_lay (j := 0) (by first | assumption | decide) (by decide) rfl) (rC_10 (by first | assumption | decide)) ?_
  refine r_bipush hX dX0_booked_4 (q := 6) rfl (v := nI 35) (by decide +kernel) ?_
  refine r_mmin hX dX0_booked_6 (q := 9) rfl kX0_88 msMathmin ⟨by decide, Nat.le_of_ble_eq_true rfl⟩ ?_
  refine r_iret hX hR dX0_booked_9 ?_
  -- leaf 0 at 9
  refine ⟨congrArg (fun z => some (Value.int z)) ?_, ?_⟩
  ·
    rw [em, imin_nI (by omega) (by decide), hm3]
    show nI (min m 35) = nI (nI (if m < 35 then m else 35)).toNatClampNeg
    rw [nI_clamp (by split <;> omega)]
    congr 1
    split <;> omega
  · rfl

set_option maxRecDepth 100000 in
set_option maxHeartbeats 4000000 in
theorem c_X0_spoonsAgo (l : Launch) (Γ : Gam) (G : GG) (i : Nat) (hi : i < 3) (μ : MU) (b : Nat) (hC : CR G i μ) (hV : Inv b μ) (hb : b < 2 ^ 29) (x : Int32) (k : Nat) (hx : x = nI k) (hk : k < 35) : Sp l yX0_spoonsAgo cX0_spoonsAgo 2 (some .int) 1 22 [.ref (gad Γ (ch i 0)), .int x] Γ G (eI G (μ (80 + k))) := by
  refine Sp_of (own := RX0) rfl (by decide +kernel) rfl (Nat.le_of_ble_eq_true rfl) (fun X hX hR => ?_)
  show WP X Γ 0 [some (.ref (gad Γ (ch i 0))), some (.int x)] [] G
  subst hx
  obtain ⟨m, hm1, hm2, hm3⟩ := hV.1
  have em : G (ch i 0) 10 = nI m := hC.1.1.trans hm2
  refine r_aload0 hX dX0_spoonsAgo_0 (q := 1) rfl ?_
  refine r_getR hX dX0_spoonsAgo_1 (q := 4) rfl fX0_56 (ch_lay (j := 0) (by first | assumption | decide) (by decide) rfl) (rC_11 (by first | assumption | decide)) ?_
  refine r_aload0 hX dX0_spoonsAgo_4 (q := 5) rfl ?_
  refine r_getI hX dX0_spoonsAgo_5 (q := 8) rfl fX0_53 (ch_lay (j := 0) (by first | assumption | decide) (by decide) rfl) (rC_10 (by first | assumption | decide)) ?_
  refine r_iconst hX dX0_spoonsAgo_8 (q := 9) rfl (v := nI 1) (by decide +kernel) ?_
  refine r_isub hX dX0_spoonsAgo_9 (q := 10) rfl ?_
  refine r_iload1 hX dX0_spoonsAgo_10 (q := 11) rfl ?_
  refine r_isub hX dX0_spoonsAgo_11 (q := 12) rfl ?_
  refine r_bipush hX dX0_spoonsAgo_12 (q := 14) rfl (v := nI 35) (by decide +kernel) ?_
  refine r_callS hX dX0_spoonsAgo_14 (q := 17) rfl (c_J9_floorMod_7cf53 _ Γ _ _ m k (by rw [em]) hk (by omega)) kX0_129 mlJ9_floorMod_7cf53 msJ9_floorMod_7cf53 rfl rfl ⟨by decide, by decide⟩ (Nat.le_of_ble_eq_true rfl) (keI ?_)
  refine r_ialdN hX dX0_spoonsAgo_17 (q := 18) rfl (ch_lay (j := 8) (by first | assumption | decide) (by decide) rfl) rfl (Nat.mod_lt _ (by decide)) (by first | decide | omega) ?_
  refine r_iret hX hR dX0_spoonsAgo_18 ?_
  -- leaf 0 at 18
  refine ⟨congrArg (fun z => some (Value.int z)) ?_, ?_⟩
  ·
    have h := hC.2.2.2.2 k hk
    rw [hm2] at h
    simp only [cl] at h
    rw [nI_clamp (by omega)] at h
    exact h
  · rfl

set_option maxRecDepth 100000 in
set_option maxHeartbeats 4000000 in
theorem c_X0_week (l : Launch) (Γ : Gam) (G : GG) (i : Nat) (hi : i < 3) (μ : MU) (b : Nat) (hC : CR G i μ) (hV : Inv b μ) (hb : b < 2 ^ 29) : Sp l yX0_week cX0_week 3 (some .int) 2 43 [.ref (gad Γ (ch i 0))] Γ G (eI G (wkF μ (cl (μ 9)))) := by
  refine Sp_of (own := RX0) rfl (by decide +kernel) rfl (Nat.le_of_ble_eq_true rfl) (fun X hX hR => ?_)
  show WP X Γ 0 [some (.ref (gad Γ (ch i 0))), none, none] [] G
  have h9 : cl (μ 9) ≤ 35 := by
    obtain ⟨m, hm1, hm2, hm3⟩ := hV.1
    rw [hm3]
    show (nI (if m < 35 then m else 35)).toNatClampNeg ≤ 35
    rw [nI_clamp (by split <;> omega)]
    split <;> omega
  refine r_iconst hX dX0_week_0 (q := 1) rfl (v := nI 0) (by decide +kernel) ?_
  refine r_istore1 hX dX0_week_1 (q := 2) rfl rfl ?_
  refine r_iconst hX dX0_week_2 (q := 3) rfl (v := nI 0) (by decide +kernel) ?_
  refine r_istore2 hX dX0_week_3 (q := 4) rfl rfl ?_
  have L4 : ∀ (zn4 : Nat) (k : Nat) (e : Int32), zn4 = cl (μ 9) - k → (k ≤ cl (μ 9)) → (e = wkF μ k) → WP X Γ 4 [some (.ref (gad Γ (ch i 0))), some (.int e), some (.int (nI k))] [] G := by
    intro zn4
    induction zn4 using Nat.strongRecOn with
    | _ zn4 ih4 =>
      intro k e zh4 hk he
      refine r_iload2 hX dX0_week_4 (q := 5) rfl ?_
      refine r_aload0 hX dX0_week_5 (q := 6) rfl ?_
      refine r_callV hX dX0_week_6 (q := 9) rfl (c_X0_booked _ Γ _ _ (by first | assumption | decide) _ _ (by assumption) (by assumption) (by omega)) kX0_132 mlX0_booked mvX0_booked rfl rfl (ch_lay (j := 0) (by first | assumption | decide) (by decide) rfl) ⟨by decide, rfl⟩ ⟨by decide, by decide⟩ (Nat.le_of_ble_eq_true rfl) (keI ?_)
      first | refine r_icmpN_ge hX dX0_week_9 (q := 12) rfl (tgt := 26) (by decide) (by first | decide | omega) (by first | decide | omega) (fun h9 => ?_) (fun h9 => ?_) | refine r_icmp_ge hX dX0_week_9 (q := 12) rfl (tgt := 26) (by decide) (fun h9 => ?_) (fun h9 => ?_)
      ·
        refine r_iload1 hX dX0_week_26 (q := 27) rfl ?_
        refine r_iret hX hR dX0_week_27 ?_
        -- leaf 0 at 27
        refine ⟨congrArg (fun z => some (Value.int z)) ?_, ?_⟩
        ·
          have : k = cl (μ 9) := by omega
          rw [he, this]
        · rfl
      ·
        refine r_iload1 hX dX0_week_12 (q := 13) rfl ?_
        refine r_aload0 hX dX0_week_13 (q := 14) rfl ?_
        refine r_iload2 hX dX0_week_14 (q := 15) rfl ?_
        refine r_callV hX dX0_week_15 (q := 18) rfl (c_X0_spoonsAgo _ Γ _ _ (by first | assumption | decide) _ _ (by assumption) (by assumption) (by omega) _ _ (by repeat' (first | assumption | with_reducible exact rfl | refine e_add ?_ ?_ | refine e_mul ?_ ?_)) (by first | assumption | omega)) kX0_135 mlX0_spoonsAgo mvX0_spoonsAgo rfl rfl (ch_lay (j := 0) (by first | assumption | decide) (by decide) rfl) ⟨by decide, rfl⟩ ⟨by decide, by decide⟩ (Nat.le_of_ble_eq_true rfl) (keI ?_)
        refine r_iadd hX dX0_week_18 (q := 19) rfl ?_
        refine r_istore1 hX dX0_week_19 (q := 20) rfl rfl ?_
        refine r_iincN2 hX dX0_week_20 (q := 23) rfl rfl ?_
        refine r_goto hX dX0_week_23 (tgt := 4) (by decide) ?_
        refine ih4 _ ?_ (k + 1) _ rfl ?_ ?_
        ·
          omega
        ·
          omega
        ·
          rw [he]; rfl
  refine L4 _ 0 _ rfl ?_ ?_
  ·
    exact Nat.zero_le _
  ·
    rfl

set_option maxRecDepth 100000 in
set_option maxHeartbeats 4000000 in
theorem c_X0_isShort (l : Launch) (Γ : Gam) (G : GG) (i : Nat) (hi : i < 3) (μ : MU) (b : Nat) (hC : CR G i μ) (hV : Inv b μ) (hb : b < 2 ^ 29) : Sp l yX0_isShort cX0_isShort 1 (some .boolean) 3 65 [.ref (gad Γ (ch i 0))] Γ G (eB G (shortF μ)) := by
  refine Sp_of (own := RX0) rfl (by decide +kernel) rfl (Nat.le_of_ble_eq_true rfl) (fun X hX hR => ?_)
  show WP X Γ 0 [some (.ref (gad Γ (ch i 0)))] [] G
  have h9 : cl (μ 9) ≤ 35 := by
    obtain ⟨m, hm1, hm2, hm3⟩ := hV.1
    rw [hm3]
    show (nI (if m < 35 then m else 35)).toNatClampNeg ≤ 35
    rw [nI_clamp (by split <;> omega)]
    split <;> omega
  refine r_aload0 hX dX0_isShort_0 (q := 1) rfl ?_
  refine r_callV hX dX0_isShort_1 (q := 4) rfl (c_X0_booked _ Γ _ _ (by first | assumption | decide) _ _ (by assumption) (by assumption) (by omega)) kX0_132 mlX0_booked mvX0_booked rfl rfl (ch_lay (j := 0) (by first | assumption | decide) (by decide) rfl) ⟨by decide, rfl⟩ ⟨by decide, by decide⟩ (Nat.le_of_ble_eq_true rfl) (keI ?_)
  refine r_bipush hX dX0_isShort_4 (q := 6) rfl (v := nI 35) (by decide +kernel) ?_
  first | refine r_icmpN_ne hX dX0_isShort_6 (q := 9) rfl (tgt := 22) (by decide) (by first | decide | omega) (by first | decide | omega) (fun h6 => ?_) (fun h6 => ?_) | refine r_icmp_ne hX dX0_isShort_6 (q := 9) rfl (tgt := 22) (by decide) (fun h6 => ?_) (fun h6 => ?_)
  ·
    skip
    refine r_iconst hX dX0_isShort_22 (q := 23) rfl (v := nI 0) (by decide +kernel) ?_
    refine r_zret0 hX hR dX0_isShort_23 ?_
    -- leaf 0 at 23
    refine ⟨congrArg (fun z => some (Value.int (bi z))) ?_, ?_⟩
    ·
      exact (decide_eq_false (fun z => h6 z.1)).symm
    · rfl
  ·
    refine r_aload0 hX dX0_isShort_9 (q := 10) rfl ?_
    refine r_callV hX dX0_isShort_10 (q := 13) rfl (c_X0_week _ Γ _ _ (by first | assumption | decide) _ _ (by assumption) (by assumption) (by omega)) kX0_138 mlX0_week mvX0_week rfl rfl (ch_lay (j := 0) (by first | assumption | decide) (by decide) rfl) ⟨by decide, rfl⟩ ⟨by decide, by decide⟩ (Nat.le_of_ble_eq_true rfl) (keI ?_)
    refine r_bipush hX dX0_isShort_13 (q := 15) rfl (v := nI 100) (by decide +kernel) ?_
    first | refine r_icmpN_ge hX dX0_isShort_15 (q := 18) rfl (tgt := 22) (by decide) (by first | decide | omega) (by first | decide | omega) (fun h15 => ?_) (fun h15 => ?_) | refine r_icmp_ge hX dX0_isShort_15 (q := 18) rfl (tgt := 22) (by decide) (fun h15 => ?_) (fun h15 => ?_)
    ·
      refine r_iconst hX dX0_isShort_22 (q := 23) rfl (v := nI 0) (by decide +kernel) ?_
      refine r_zret0 hX hR dX0_isShort_23 ?_
      -- leaf 1 at 23
      refine ⟨congrArg (fun z => some (Value.int (bi z))) ?_, ?_⟩
      ·
        rw [h6] at h15
        exact (decide_eq_false (fun z => absurd (Int32.lt_of_lt_of_le z.2 h15) Int32.lt_irrefl)).symm
      · rfl
    ·
      refine r_iconst hX dX0_isShort_18 (q := 19) rfl (v := nI 1) (by decide +kernel) ?_
      refine r_goto hX dX0_isShort_19 (tgt := 23) (by decide) ?_
      refine r_zret1 hX hR dX0_isShort_23 ?_
      -- leaf 2 at 23
      refine ⟨congrArg (fun z => some (Value.int (bi z))) ?_, ?_⟩
      ·
        rw [h6] at h15
        exact (decide_eq_true ⟨h6, Int32.not_le.mp h15⟩).symm
      · rfl

set_option maxRecDepth 100000 in
set_option maxHeartbeats 4000000 in
theorem c_X0_isLiked (l : Launch) (Γ : Gam) (G : GG) (i : Nat) (hi : i < 3) (μ : MU) (b : Nat) (hC : CR G i μ) (hV : Inv b μ) (x : Int32) (f : Nat) (hx : x = nI f) (hf : f < 10) : Sp l yX0_isLiked cX0_isLiked 2 (some .boolean) 0 0 [.ref (gad Γ (ch i 0)), .int x] Γ G (eB G (lkB μ f)) := by
  refine Sp_of (own := RX0) rfl (by decide +kernel) rfl (Nat.le_of_ble_eq_true rfl) (fun X hX hR => ?_)
  show WP X Γ 0 [some (.ref (gad Γ (ch i 0))), some (.int x)] [] G
  subst hx
  have e1 := (hC.2.1 f hf).1
  have e6 : G (ch i 0) 6 = μ 5 := hC.1.2.2.2.2.2.1
  refine r_aload0 hX dX0_isLiked_0 (q := 1) rfl ?_
  refine r_getR hX dX0_isLiked_1 (q := 4) rfl fX0_9 (ch_lay (j := 0) (by first | assumption | decide) (by decide) rfl) (rC_0 (by first | assumption | decide)) ?_
  refine r_iload1 hX dX0_isLiked_4 (q := 5) rfl ?_
  refine r_ialdN hX dX0_isLiked_5 (q := 6) rfl (ch_lay (j := 1) (by first | assumption | decide) (by decide) rfl) (by repeat' (first | assumption | with_reducible exact rfl | refine e_add ?_ ?_ | refine e_mul ?_ ?_)) (by first | assumption | omega) (by first | decide | omega) ?_
  refine r_aload0 hX dX0_isLiked_6 (q := 7) rfl ?_
  refine r_getI hX dX0_isLiked_7 (q := 10) rfl fX0_37 (ch_lay (j := 0) (by first | assumption | decide) (by decide) rfl) (rC_6 (by first | assumption | decide)) ?_
  first | refine r_icmpN_lt hX dX0_isLiked_10 (q := 13) rfl (tgt := 17) (by decide) (by first | decide | omega) (by first | decide | omega) (fun h10 => ?_) (fun h10 => ?_) | refine r_icmp_lt hX dX0_isLiked_10 (q := 13) rfl (tgt := 17) (by decide) (fun h10 => ?_) (fun h10 => ?_)
  ·
    refine r_iconst hX dX0_isLiked_17 (q := 18) rfl (v := nI 0) (by decide +kernel) ?_
    refine r_zret0 hX hR dX0_isLiked_18 ?_
    -- leaf 0 at 18
    refine ⟨congrArg (fun z => some (Value.int (bi z))) ?_, ?_⟩
    ·
      rw [e1, e6] at h10
      first | exact (decide_eq_true (Int32.not_lt.mp h10)).symm | exact (decide_eq_false (Int32.not_le.mpr h10)).symm
    · rfl
  ·
    refine r_iconst hX dX0_isLiked_13 (q := 14) rfl (v := nI 1) (by decide +kernel) ?_
    refine r_goto hX dX0_isLiked_14 (tgt := 18) (by decide) ?_
    refine r_zret1 hX hR dX0_isLiked_18 ?_
    -- leaf 1 at 18
    refine ⟨congrArg (fun z => some (Value.int (bi z))) ?_, ?_⟩
    ·
      rw [e1, e6] at h10
      first | exact (decide_eq_true (Int32.not_lt.mp h10)).symm | exact (decide_eq_false (Int32.not_le.mpr h10)).symm
    · rfl

set_option maxRecDepth 100000 in
set_option maxHeartbeats 4000000 in
theorem c_X0_likedSet (l : Launch) (Γ : Gam) (G : GG) (i : Nat) (hi : i < 3) (μ : MU) (b : Nat) (hC : CR G i μ) (hV : Inv b μ) : Sp l yX0_likedSet cX0_likedSet 3 (some .int) 1 21 [.ref (gad Γ (ch i 0))] Γ G (eI G (lsF μ 10)) := by
  refine Sp_of (own := RX0) rfl (by decide +kernel) rfl (Nat.le_of_ble_eq_true rfl) (fun X hX hR => ?_)
  show WP X Γ 0 [some (.ref (gad Γ (ch i 0))), none, none] [] G
  refine r_iconst hX dX0_likedSet_0 (q := 1) rfl (v := nI 0) (by decide +kernel) ?_
  refine r_istore1 hX dX0_likedSet_1 (q := 2) rfl rfl ?_
  refine r_iconst hX dX0_likedSet_2 (q := 3) rfl (v := nI 0) (by decide +kernel) ?_
  refine r_istore2 hX dX0_likedSet_3 (q := 4) rfl rfl ?_
  have L4 : ∀ (zn4 : Nat) (k : Nat) (e : Int32), zn4 = 10 - k → (k ≤ 10) → (e = lsF μ k) → WP X Γ 4 [some (.ref (gad Γ (ch i 0))), some (.int e), some (.int (nI k))] [] G := by
    intro zn4
    induction zn4 using Nat.strongRecOn with
    | _ zn4 ih4 =>
      intro k e zh4 hk he
      refine r_iload2 hX dX0_likedSet_4 (q := 5) rfl ?_
      refine r_bipush hX dX0_likedSet_5 (q := 7) rfl (v := nI 10) (by decide +kernel) ?_
      refine r_icmpN_ge hX dX0_likedSet_7 (q := 10) rfl (tgt := 30) (by decide) (by first | decide | omega) (by first | decide | omega) (fun h7 => ?_) (fun h7 => ?_)
      ·
        refine r_iload1 hX dX0_likedSet_30 (q := 31) rfl ?_
        refine r_iret hX hR dX0_likedSet_31 ?_
        -- leaf 0 at 31
        refine ⟨congrArg (fun z => some (Value.int z)) ?_, ?_⟩
        ·
          have : k = 10 := by omega
          rw [he, this]
        · rfl
      ·
        refine r_aload0 hX dX0_likedSet_10 (q := 11) rfl ?_
        refine r_iload2 hX dX0_likedSet_11 (q := 12) rfl ?_
        refine r_callV hX dX0_likedSet_12 (q := 15) rfl (c_X0_isLiked _ Γ _ _ (by first | assumption | decide) _ _ (by assumption) (by assumption) _ _ (by repeat' (first | assumption | with_reducible exact rfl | refine e_add ?_ ?_ | refine e_mul ?_ ?_)) (by first | assumption | omega)) kX0_75 mlX0_isLiked mvX0_isLiked rfl rfl (ch_lay (j := 0) (by first | assumption | decide) (by decide) rfl) ⟨by decide, rfl⟩ ⟨by decide, by decide⟩ (Nat.le_of_ble_eq_true rfl) (keB ?_)
        first | with_reducible refine r_ifd_eq hX dX0_likedSet_15 (q := 18) rfl (tgt := 24) (by decide) (fun h15 => ?_) (fun h15 => ?_) | refine r_ifb_eq hX dX0_likedSet_15 (q := 18) rfl (tgt := 24) (by decide) (fun h15 => ?_) (fun h15 => ?_)
        ·
          refine r_iincN2 hX dX0_likedSet_24 (q := 27) rfl rfl ?_
          refine r_goto hX dX0_likedSet_27 (tgt := 4) (by decide) ?_
          refine ih4 _ ?_ (k + 1) _ rfl ?_ ?_
          ·
            omega
          ·
            omega
          ·
            rw [he]; first | exact (if_pos h15).symm | exact (if_neg (by rw [h15]; decide)).symm | exact (if_neg (fun z => h15 (of_decide_eq_true z))).symm | exact (if_pos (decide_eq_true h15)).symm
        ·
          refine r_iload1 hX dX0_likedSet_18 (q := 19) rfl ?_
          refine r_iconst hX dX0_likedSet_19 (q := 20) rfl (v := nI 1) (by decide +kernel) ?_
          refine r_iload2 hX dX0_likedSet_20 (q := 21) rfl ?_
          refine r_ishl hX dX0_likedSet_21 (q := 22) rfl ?_
          refine r_ior hX dX0_likedSet_22 (q := 23) rfl ?_
          refine r_istore1 hX dX0_likedSet_23 (q := 24) rfl rfl ?_
          refine r_iincN2 hX dX0_likedSet_24 (q := 27) rfl rfl ?_
          refine r_goto hX dX0_likedSet_27 (tgt := 4) (by decide) ?_
          refine ih4 _ ?_ (k + 1) _ rfl ?_ ?_
          ·
            omega
          ·
            omega
          ·
            rw [he]; first | exact (if_pos h15).symm | exact (if_neg (by rw [h15]; decide)).symm | exact (if_neg (fun z => h15 (of_decide_eq_true z))).symm | exact (if_pos (decide_eq_true h15)).symm
  refine L4 _ 0 _ rfl ?_ ?_
  ·
    exact Nat.zero_le _
  ·
    rfl

set_option maxRecDepth 100000 in
set_option maxHeartbeats 4000000 in
theorem c_X0_triedInAll (l : Launch) (Γ : Gam) (G : GG) (i : Nat) (hi : i < 3) (μ : MU) (b : Nat) (hC : CR G i μ) (hV : Inv b μ) : Sp l yX0_triedInAll cX0_triedInAll 3 (some .int) 0 0 [.ref (gad Γ (ch i 0))] Γ G (eI G (trF μ 10)) := by
  refine Sp_of (own := RX0) rfl (by decide +kernel) rfl (Nat.le_of_ble_eq_true rfl) (fun X hX hR => ?_)
  show WP X Γ 0 [some (.ref (gad Γ (ch i 0))), none, none] [] G
  refine r_iconst hX dX0_triedInAll_0 (q := 1) rfl (v := nI 0) (by decide +kernel) ?_
  refine r_istore1 hX dX0_triedInAll_1 (q := 2) rfl rfl ?_
  refine r_iconst hX dX0_triedInAll_2 (q := 3) rfl (v := nI 0) (by decide +kernel) ?_
  refine r_istore2 hX dX0_triedInAll_3 (q := 4) rfl rfl ?_
  have L4 : ∀ (zn4 : Nat) (k : Nat) (e : Int32), zn4 = 10 - k → (k ≤ 10) → (e = trF μ k) → WP X Γ 4 [some (.ref (gad Γ (ch i 0))), some (.int e), some (.int (nI k))] [] G := by
    intro zn4
    induction zn4 using Nat.strongRecOn with
    | _ zn4 ih4 =>
      intro k e zh4 hk he
      refine r_iload2 hX dX0_triedInAll_4 (q := 5) rfl ?_
      refine r_bipush hX dX0_triedInAll_5 (q := 7) rfl (v := nI 10) (by decide +kernel) ?_
      refine r_icmpN_ge hX dX0_triedInAll_7 (q := 10) rfl (tgt := 25) (by decide) (by first | decide | omega) (by first | decide | omega) (fun h7 => ?_) (fun h7 => ?_)
      ·
        refine r_iload1 hX dX0_triedInAll_25 (q := 26) rfl ?_
        refine r_iret hX hR dX0_triedInAll_26 ?_
        -- leaf 0 at 26
        refine ⟨congrArg (fun z => some (Value.int z)) ?_, ?_⟩
        ·
          have : k = 10 := by omega
          rw [he, this]
        · rfl
      ·
        refine r_iload1 hX dX0_triedInAll_10 (q := 11) rfl ?_
        refine r_aload0 hX dX0_triedInAll_11 (q := 12) rfl ?_
        refine r_getR hX dX0_triedInAll_12 (q := 15) rfl fX0_18 (ch_lay (j := 0) (by first | assumption | decide) (by decide) rfl) (rC_2 (by first | assumption | decide)) ?_
        refine r_iload2 hX dX0_triedInAll_15 (q := 16) rfl ?_
        refine r_ialdN hX dX0_triedInAll_16 (q := 17) rfl (ch_lay (j := 3) (by first | assumption | decide) (by decide) rfl) (by repeat' (first | assumption | with_reducible exact rfl | refine e_add ?_ ?_ | refine e_mul ?_ ?_)) (by first | assumption | omega) (by first | decide | omega) ?_
        refine r_iadd hX dX0_triedInAll_17 (q := 18) rfl ?_
        refine r_istore1 hX dX0_triedInAll_18 (q := 19) rfl rfl ?_
        refine r_iincN2 hX dX0_triedInAll_19 (q := 22) rfl rfl ?_
        refine r_goto hX dX0_triedInAll_22 (tgt := 4) (by decide) ?_
        refine ih4 _ ?_ (k + 1) _ rfl ?_ ?_
        ·
          omega
        ·
          omega
        ·
          rw [he, (hC.2.1 k (by omega)).2.2]; rfl
  refine L4 _ 0 _ rfl ?_ ?_
  ·
    exact Nat.zero_le _
  ·
    rfl

set_option maxRecDepth 100000 in
set_option maxHeartbeats 4000000 in
theorem c_X0_spotsInUse (l : Launch) (Γ : Gam) (G : GG) (i : Nat) (hi : i < 3) (μ : MU) (b : Nat) (hC : CR G i μ) (hV : Inv b μ) : Sp l yX0_spotsInUse cX0_spotsInUse 3 (some .int) 0 0 [.ref (gad Γ (ch i 0))] Γ G (eI G (spF μ 10)) := by
  refine Sp_of (own := RX0) rfl (by decide +kernel) rfl (Nat.le_of_ble_eq_true rfl) (fun X hX hR => ?_)
  show WP X Γ 0 [some (.ref (gad Γ (ch i 0))), none, none] [] G
  refine r_iconst hX dX0_spotsInUse_0 (q := 1) rfl (v := nI 0) (by decide +kernel) ?_
  refine r_istore1 hX dX0_spotsInUse_1 (q := 2) rfl rfl ?_
  refine r_iconst hX dX0_spotsInUse_2 (q := 3) rfl (v := nI 0) (by decide +kernel) ?_
  refine r_istore2 hX dX0_spotsInUse_3 (q := 4) rfl rfl ?_
  have L4 : ∀ (zn4 : Nat) (k : Nat) (e : Int32), zn4 = 10 - k → (k ≤ 10) → (e = spF μ k) → WP X Γ 4 [some (.ref (gad Γ (ch i 0))), some (.int e), some (.int (nI k))] [] G := by
    intro zn4
    induction zn4 using Nat.strongRecOn with
    | _ zn4 ih4 =>
      intro k e zh4 hk he
      refine r_iload2 hX dX0_spotsInUse_4 (q := 5) rfl ?_
      refine r_bipush hX dX0_spotsInUse_5 (q := 7) rfl (v := nI 10) (by decide +kernel) ?_
      refine r_icmpN_ge hX dX0_spotsInUse_7 (q := 10) rfl (tgt := 28) (by decide) (by first | decide | omega) (by first | decide | omega) (fun h7 => ?_) (fun h7 => ?_)
      ·
        refine r_iload1 hX dX0_spotsInUse_28 (q := 29) rfl ?_
        refine r_iret hX hR dX0_spotsInUse_29 ?_
        -- leaf 0 at 29
        refine ⟨congrArg (fun z => some (Value.int z)) ?_, ?_⟩
        ·
          have : k = 10 := by omega
          rw [he, this]
        · rfl
      ·
        refine r_aload0 hX dX0_spotsInUse_10 (q := 11) rfl ?_
        refine r_getR hX dX0_spotsInUse_11 (q := 14) rfl fX0_62 (ch_lay (j := 0) (by first | assumption | decide) (by decide) rfl) (rC_13 (by first | assumption | decide)) ?_
        refine r_iload2 hX dX0_spotsInUse_14 (q := 15) rfl ?_
        refine r_ialdN hX dX0_spotsInUse_15 (q := 16) rfl (ch_lay (j := 9) (by first | assumption | decide) (by decide) rfl) (by repeat' (first | assumption | with_reducible exact rfl | refine e_add ?_ ?_ | refine e_mul ?_ ?_)) (by first | assumption | omega) (by first | decide | omega) ?_
        refine r_if_lt hX dX0_spotsInUse_16 (q := 19) rfl (tgt := 22) (by decide) (fun h16 => ?_) (fun h16 => ?_)
        ·
          refine r_iincN2 hX dX0_spotsInUse_22 (q := 25) rfl rfl ?_
          refine r_goto hX dX0_spotsInUse_25 (tgt := 4) (by decide) ?_
          refine ih4 _ ?_ (k + 1) _ rfl ?_ ?_
          ·
            omega
          ·
            omega
          ·
            rw [hC.2.2.2.1 k (by omega)] at h16; rw [he]; first | exact (if_pos (by rw [nI_0]; exact h16)).symm | exact (if_neg (by rw [nI_0]; exact h16)).symm
        ·
          refine r_iinc1 hX dX0_spotsInUse_19 (q := 22) rfl rfl rfl ?_
          refine r_iincN2 hX dX0_spotsInUse_22 (q := 25) rfl rfl ?_
          refine r_goto hX dX0_spotsInUse_25 (tgt := 4) (by decide) ?_
          refine ih4 _ ?_ (k + 1) _ rfl ?_ ?_
          ·
            omega
          ·
            omega
          ·
            rw [hC.2.2.2.1 k (by omega)] at h16; rw [he]; first | exact (if_pos (by rw [nI_0]; exact h16)).symm | exact (if_neg (by rw [nI_0]; exact h16)).symm
  refine L4 _ 0 _ rfl ?_ ?_
  ·
    exact Nat.zero_le _
  ·
    rfl

set_option maxRecDepth 100000 in
set_option maxHeartbeats 4000000 in
theorem c_X0_part (l : Launch) (Γ : Gam) (G : GG) (i : Nat) (hi : i < 3) (p : Int32) : Sp l yX0_part cX0_part 2 (some .int) 0 0 [.ref (gad Γ (ch i 0)), .int p] Γ G (eI G (getP G i p)) := by
  refine Sp_of (own := RX0) rfl (by decide +kernel) rfl (Nat.le_of_ble_eq_true rfl) (fun X hX hR => ?_)
  show WP X Γ 0 [some (.ref (gad Γ (ch i 0))), some (.int p)] [] G
  refine r_iload1 hX dX0_part_0 (q := 1) rfl ?_
  refine r_tabCase hX dX0_part_1 0 ⟨by decide, by decide, by decide, rfl, (by decide : (1 : Int) + 27 = (28 : Nat))⟩ (fun h1_0 => ?_) (fun h1_0 => ?_)
  ·
    refine r_aload0 hX dX0_part_28 (q := 29) rfl ?_
    refine r_getI hX dX0_part_29 (q := 32) rfl fX0_27 (ch_lay (j := 0) (by first | assumption | decide) (by decide) rfl) (rC_3 (by first | assumption | decide)) ?_
    refine r_iret hX hR dX0_part_32 ?_
    -- leaf 0 at 32
    refine ⟨congrArg (fun z => some (Value.int z)) ?_, ?_⟩
    ·
      rw [getP, if_pos h1_0]
    · rfl
  refine r_tabCase hX dX0_part_1 1 ⟨by decide, by decide, by decide, rfl, (by decide : (1 : Int) + 32 = (33 : Nat))⟩ (fun h1_1 => ?_) (fun h1_1 => ?_)
  ·
    refine r_aload0 hX dX0_part_33 (q := 34) rfl ?_
    refine r_getI hX dX0_part_34 (q := 37) rfl fX0_31 (ch_lay (j := 0) (by first | assumption | decide) (by decide) rfl) (rC_4 (by first | assumption | decide)) ?_
    refine r_iret hX hR dX0_part_37 ?_
    -- leaf 1 at 37
    refine ⟨congrArg (fun z => some (Value.int z)) ?_, ?_⟩
    ·
      rw [getP, if_neg h1_0, if_pos h1_1]
    · rfl
  refine r_tabCase hX dX0_part_1 2 ⟨by decide, by decide, by decide, rfl, (by decide : (1 : Int) + 37 = (38 : Nat))⟩ (fun h1_2 => ?_) (fun h1_2 => ?_)
  ·
    refine r_aload0 hX dX0_part_38 (q := 39) rfl ?_
    refine r_getI hX dX0_part_39 (q := 42) rfl fX0_34 (ch_lay (j := 0) (by first | assumption | decide) (by decide) rfl) (rC_5 (by first | assumption | decide)) ?_
    refine r_iret hX hR dX0_part_42 ?_
    -- leaf 2 at 42
    refine ⟨congrArg (fun z => some (Value.int z)) ?_, ?_⟩
    ·
      rw [getP, if_neg h1_0, if_neg h1_1, if_pos h1_2]
    · rfl
  refine r_tabOut hX dX0_part_1 (by have z0 := nI_neT h1_0 (by decide); have z1 := nI_neT h1_1 (by decide); have z2 := nI_neT h1_2 (by decide); omega) (tgt := 43) (by decide) ?_
  refine r_aload0 hX dX0_part_43 (q := 44) rfl ?_
  refine r_getI hX dX0_part_44 (q := 47) rfl fX0_37 (ch_lay (j := 0) (by first | assumption | decide) (by decide) rfl) (rC_6 (by first | assumption | decide)) ?_
  refine r_iret hX hR dX0_part_47 ?_
  -- leaf 3 at 47
  refine ⟨congrArg (fun z => some (Value.int z)) ?_, ?_⟩
  ·
    rw [getP, if_neg h1_0, if_neg h1_1, if_neg h1_2]
  · rfl

set_option maxRecDepth 100000 in
set_option maxHeartbeats 4000000 in
theorem c_X0_setPart (l : Launch) (Γ : Gam) (G : GG) (i : Nat) (hi : i < 3) (p v : Int32) : Sp l yX0_setPart cX0_setPart 3 none 0 0 [.ref (gad Γ (ch i 0)), .int p, .int v] Γ G (eV (setP G i p v)) := by
  refine Sp_of (own := RX0) rfl (by decide +kernel) rfl (Nat.le_of_ble_eq_true rfl) (fun X hX hR => ?_)
  show WP X Γ 0 [some (.ref (gad Γ (ch i 0))), some (.int p), some (.int v)] [] G
  refine r_iload1 hX dX0_setPart_0 (q := 1) rfl ?_
  refine r_tabCase hX dX0_setPart_1 0 ⟨by decide, by decide, by decide, rfl, (by decide : (1 : Int) + 27 = (28 : Nat))⟩ (fun h1_0 => ?_) (fun h1_0 => ?_)
  ·
    refine r_aload0 hX dX0_setPart_28 (q := 29) rfl ?_
    refine r_iload2 hX dX0_setPart_29 (q := 30) rfl ?_
    refine r_put hX dX0_setPart_30 (q := 33) rfl fX0_27 wX0_3 rfl rfl (ch_lay (j := 0) (by first | assumption | decide) (by decide) rfl) (rC_3 (by first | assumption | decide)) ?_
    refine r_goto hX dX0_setPart_33 (tgt := 57) (by decide) ?_
    refine r_vret hX hR dX0_setPart_57 ?_
    -- leaf 0 at 57
    refine ⟨rfl, ?_⟩
    rw [setP, if_pos h1_0]
  refine r_tabCase hX dX0_setPart_1 1 ⟨by decide, by decide, by decide, rfl, (by decide : (1 : Int) + 35 = (36 : Nat))⟩ (fun h1_1 => ?_) (fun h1_1 => ?_)
  ·
    refine r_aload0 hX dX0_setPart_36 (q := 37) rfl ?_
    refine r_iload2 hX dX0_setPart_37 (q := 38) rfl ?_
    refine r_put hX dX0_setPart_38 (q := 41) rfl fX0_31 wX0_4 rfl rfl (ch_lay (j := 0) (by first | assumption | decide) (by decide) rfl) (rC_4 (by first | assumption | decide)) ?_
    refine r_goto hX dX0_setPart_41 (tgt := 57) (by decide) ?_
    refine r_vret hX hR dX0_setPart_57 ?_
    -- leaf 1 at 57
    refine ⟨rfl, ?_⟩
    rw [setP, if_neg h1_0, if_pos h1_1]
  refine r_tabCase hX dX0_setPart_1 2 ⟨by decide, by decide, by decide, rfl, (by decide : (1 : Int) + 43 = (44 : Nat))⟩ (fun h1_2 => ?_) (fun h1_2 => ?_)
  ·
    refine r_aload0 hX dX0_setPart_44 (q := 45) rfl ?_
    refine r_iload2 hX dX0_setPart_45 (q := 46) rfl ?_
    refine r_put hX dX0_setPart_46 (q := 49) rfl fX0_34 wX0_5 rfl rfl (ch_lay (j := 0) (by first | assumption | decide) (by decide) rfl) (rC_5 (by first | assumption | decide)) ?_
    refine r_goto hX dX0_setPart_49 (tgt := 57) (by decide) ?_
    refine r_vret hX hR dX0_setPart_57 ?_
    -- leaf 2 at 57
    refine ⟨rfl, ?_⟩
    rw [setP, if_neg h1_0, if_neg h1_1, if_pos h1_2]
  refine r_tabOut hX dX0_setPart_1 (by have z0 := nI_neT h1_0 (by decide); have z1 := nI_neT h1_1 (by decide); have z2 := nI_neT h1_2 (by decide); omega) (tgt := 52) (by decide) ?_
  refine r_aload0 hX dX0_setPart_52 (q := 53) rfl ?_
  refine r_iload2 hX dX0_setPart_53 (q := 54) rfl ?_
  refine r_put hX dX0_setPart_54 (q := 57) rfl fX0_37 wX0_6 rfl rfl (ch_lay (j := 0) (by first | assumption | decide) (by decide) rfl) (rC_6 (by first | assumption | decide)) ?_
  refine r_vret hX hR dX0_setPart_57 ?_
  -- leaf 3 at 57
  refine ⟨rfl, ?_⟩
  rw [setP, if_neg h1_0, if_neg h1_1, if_neg h1_2]
