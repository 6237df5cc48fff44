set_option maxRecDepth 100000 in
set_option maxHeartbeats 4000000 in
theorem c_X6_serves (l : Launch) (Γ : Gam) (G : GG) (μ : MU) (hM : MR G μ) (b : Nat) (hV : Inv b μ) (x : Int32) (t : Nat) (hx : x = nI t) (ht : t < 10) : Sp l yX6_serves cX6_serves 5 (some .int) 3 68 [.ref (gad Γ 47), .int x] Γ G (pI (fun v G' => v = (srvF μ t).1 ∧ MR G' (srvF μ t).2 ∧ FrN G G')) := by
  refine Sp_of (own := RX6) rfl (by decide +kernel) rfl (Nat.le_of_ble_eq_true rfl) (fun X hX hR => ?_)
  show WP X Γ 0 [some (.ref (gad Γ 47)), some (.int x), none, none, none] [] G
  subst hx
  obtain ⟨hf, hfe⟩ := hV.fd ht
  obtain ⟨f, hfd⟩ : ∃ f, f = cl (μ (41 + 3 * t)) := ⟨_, rfl⟩
  rw [← hfd] at hf hfe
  have a0 : G 48 (40 + 3 * t + 0) = μ (40 + 3 * t) := hM _ (by omega)
  have a1 : G 48 (40 + 3 * t + 1) = nI f := ((hM _ (by omega)).trans (congrArg μ (by omega))).trans hfe
  have a2 : G 48 (40 + 3 * t + 2) = μ (42 + 3 * t) := (hM _ (by omega)).trans (congrArg μ (by omega))
  have b1 : G 48 (10 + 3 * f + 1) = μ (11 + 3 * f) := (hM _ (by omega)).trans (congrArg μ (by omega))
  have hp : nn (μ (42 + 3 * t)) 20 := (hV.2.2.2.2.1 t ht).2.2
  have hl : nn (μ (10 + 3 * f)) 99 := (hV.2.2.2.1 f hf).1
  have hh : nn (μ 3) 99 := hV.2.1.2.1
  have h7 : nn (μ 7) 1023 := hV.2.1.2.2.2.2.2
  have hV1 : Inv b (srvM μ t f) := hV.srvM t f
  have J49 : ∀ (G1 : GG) (fb : Bool), (MR G1 (srvM μ t f)) → (FrN G G1) → (fb = fndS (μ (40 + 3 * t)) (μ 1) (μ (11 + 3 * f))) → WP X Γ 49 [some (.ref (gad Γ 47)), some (.int (nI t)), some (.int (nI f)), some (.int (bi fb)), none] [] G1 := by
    intro G1 fb hM1 hF1 hfb
    have e1 : G1 48 (10 + 3 * f) = μ (10 + 3 * f) := (hM1 _ (by omega)).trans (srv_z (by omega))
    have hC2 := hM1.u (10 + 3 * f) (lkS (μ (10 + 3 * f) + movT μ t (fndS (μ (40 + 3 * t)) (μ 1) (μ (11 + 3 * f)))))
    rw [← srvL_eq hfd] at hC2
    have hF2 : FrN G (up G1 48 (10 + 3 * f) (lkS (μ (10 + 3 * f) + movT μ t (fndS (μ (40 + 3 * t)) (μ 1) (μ (11 + 3 * f)))))) := hF1.up
    refine r_aload0 hX dX6_serves_49 (q := 50) rfl ?_
    refine r_iload1 hX dX6_serves_50 (q := 51) rfl ?_
    refine r_iload3 hX dX6_serves_51 (q := 52) rfl ?_
    refine r_callV hX dX6_serves_52 (q := 55) rfl (c_X6_eats _ Γ _ (srvM μ t f) hM1 b hV1 _ t rfl ht fb) kX6_104 mlX6_eats mvX6_eats rfl rfl rfl ⟨by decide, rfl⟩ ⟨by decide, by decide⟩ (Nat.le_of_ble_eq_true rfl) (keI ?_)
    rw [eatT_z, hfb, ← srvE_eq hfd]
    refine r_istore4 hX dX6_serves_55 (q := 57) rfl rfl ?_
    refine r_aload0 hX dX6_serves_57 (q := 58) rfl ?_
    refine r_iload2 hX dX6_serves_58 (q := 59) rfl ?_
    refine r_aload0 hX dX6_serves_59 (q := 60) rfl ?_
    refine r_iload1 hX dX6_serves_60 (q := 61) rfl ?_
    refine r_iload3 hX dX6_serves_61 (q := 62) rfl ?_
    refine r_callV hX dX6_serves_62 (q := 65) rfl (c_X6_moves _ Γ _ (srvM μ t f) hM1 b hV1 _ t rfl ht _) kX6_108 mlX6_moves mvX6_moves rfl rfl rfl ⟨by decide, rfl⟩ ⟨by decide, by decide⟩ (Nat.le_of_ble_eq_true rfl) (keI ?_)
    rw [movT_z]
    refine r_callV hX dX6_serves_65 (q := 68) rfl (c_X6_likesMore _ Γ _ _ _ f rfl hf) kX6_120 mlX6_likesMore mvX6_likesMore rfl rfl rfl ⟨by decide, rfl⟩ ⟨by decide, by decide⟩ (Nat.le_of_ble_eq_true rfl) (keV ?_)
    rw [e1]
    generalize up G1 48 (10 + 3 * f) (lkS (μ (10 + 3 * f) + movT μ t (fndS (μ (40 + 3 * t)) (μ 1) (μ (11 + 3 * f))))) = G2 at hC2 hF2 ⊢
    have a3 : G2 48 (40 + 3 * t + 0) = μ (40 + 3 * t) := (hC2 _ (by omega)).trans ((upd_ne (by omega)).trans (srv_z (by omega)))
    have ep : G2 48 6 = μ 6 := (hC2 6 (by decide)).trans ((upd_ne (by omega)).trans (srv_z (by omega)))
    refine r_aload0 hX dX6_serves_68 (q := 69) rfl ?_
    refine r_iload1 hX dX6_serves_69 (q := 70) rfl ?_
    refine r_iconst hX dX6_serves_70 (q := 71) rfl (v := nI 0) (by decide +kernel) ?_
    refine r_callV hX dX6_serves_71 (q := 74) rfl (c_X6_of _ Γ _ _ _ t 0 rfl rfl ht (by decide)) kX6_90 mlX6_of mvX6_of rfl rfl rfl ⟨by decide, rfl⟩ ⟨by decide, by decide⟩ (Nat.le_of_ble_eq_true rfl) (keI ?_)
    rw [a3]
    refine r_iconst hX dX6_serves_74 (q := 75) rfl (v := nI 3) (by decide +kernel) ?_
    first | refine r_icmpN_ne hX dX6_serves_75 (q := 78) rfl (tgt := 100) (by decide) (by first | omega | decide) (by first | omega | decide) (fun h75 => ?_) (fun h75 => ?_) | refine r_icmp_ne hX dX6_serves_75 (q := 78) rfl (tgt := 100) (by decide) (fun h75 => ?_) (fun h75 => ?_)
    ·
      have hS : srvL μ t f = srvP μ t f := (if_neg (fun z => h75 z.1)).symm
      have hC3 := hC2
      have hF3 := hF2
      rw [hS] at hC3
      refine r_aload0 hX dX6_serves_100 (q := 101) rfl ?_
      refine r_getR hX dX6_serves_101 (q := 104) rfl fX6_9 rfl ⟨by decide, by decide, rfl⟩ ?_
      refine r_bipush hX dX6_serves_104 (q := 106) rfl (v := nI 10) (by decide +kernel) ?_
      refine r_iconst hX dX6_serves_106 (q := 107) rfl (v := nI 3) (by decide +kernel) ?_
      refine r_iload2 hX dX6_serves_107 (q := 108) rfl ?_
      refine r_imul hX dX6_serves_108 (q := 109) rfl ?_
      refine r_iadd hX dX6_serves_109 (q := 110) rfl ?_
      refine r_iconst hX dX6_serves_110 (q := 111) rfl (v := nI 2) (by decide +kernel) ?_
      refine r_iadd hX dX6_serves_111 (q := 112) rfl ?_
      refine r_aload0 hX dX6_serves_112 (q := 113) rfl ?_
      refine r_getR hX dX6_serves_113 (q := 116) rfl fX6_9 rfl ⟨by decide, by decide, rfl⟩ ?_
      refine r_bipush hX dX6_serves_116 (q := 118) rfl (v := nI 10) (by decide +kernel) ?_
      refine r_iconst hX dX6_serves_118 (q := 119) rfl (v := nI 3) (by decide +kernel) ?_
      refine r_iload2 hX dX6_serves_119 (q := 120) rfl ?_
      refine r_imul hX dX6_serves_120 (q := 121) rfl ?_
      refine r_iadd hX dX6_serves_121 (q := 122) rfl ?_
      refine r_iconst hX dX6_serves_122 (q := 123) rfl (v := nI 2) (by decide +kernel) ?_
      refine r_iadd hX dX6_serves_123 (q := 124) rfl ?_
      refine r_ialdN hX dX6_serves_124 (q := 125) rfl rfl (e_add (e_add rfl (e_mul rfl rfl)) rfl) (by omega) (by first | decide | omega) ?_
      refine r_iconst hX dX6_serves_125 (q := 126) rfl (v := nI 1) (by decide +kernel) ?_
      refine r_iadd hX dX6_serves_126 (q := 127) rfl ?_
      refine r_sipush hX dX6_serves_127 (q := 130) rfl (v := nI 999) (by decide +kernel) ?_
      refine r_callS hX dX6_serves_130 (q := 133) rfl (c_X6_held _ Γ _ _ _) kX6_96 mlX6_held msX6_held rfl rfl ⟨by decide, by decide⟩ (Nat.le_of_ble_eq_true rfl) (keI ?_)
      refine r_iastN hX dX6_serves_133 (q := 134) rfl rfl (e_add (e_add rfl (e_mul rfl rfl)) rfl) (by omega) (by first | decide | omega) ?_
      refine r_iload4 hX dX6_serves_134 (q := 136) rfl ?_
      refine r_iret hX hR dX6_serves_136 ?_
      -- leaf 0 at 136
      refine ⟨_, rfl, ?_⟩
      rw [show 10 + 3 * f + 2 = 12 + 3 * f by omega]
      have e4 : srvP μ t f (12 + 3 * f) = μ (12 + 3 * f) := by
        unfold srvP
        split
        · rw [upd_ne (by omega)]; unfold srvL; rw [upd_ne (by omega)]; exact srv_z (by omega)
        · unfold srvL; rw [upd_ne (by omega)]; exact srv_z (by omega)
      rw [hC3 (12 + 3 * f) (by omega), e4, he_tri (hV.2.2.2.1 f hf).2.2]
      refine ⟨?_, ?_, hF3.up⟩
      · unfold srvF; rw [← hfd]
      · unfold srvF; rw [← hfd]; exact hC3.u _ _
    ·
      refine r_aload0 hX dX6_serves_78 (q := 79) rfl ?_
      refine r_getR hX dX6_serves_79 (q := 82) rfl fX6_9 rfl ⟨by decide, by decide, rfl⟩ ?_
      refine r_bipush hX dX6_serves_82 (q := 84) rfl (v := nI 6) (by decide +kernel) ?_
      refine r_ialdN hX dX6_serves_84 (q := 85) rfl rfl (by repeat' (first | assumption | with_reducible exact rfl | refine e_add ?_ ?_ | refine e_mul ?_ ?_)) (by first | assumption | omega) (by first | decide | omega) ?_
      rw [ep]
      refine r_if_lt hX dX6_serves_85 (q := 88) rfl (tgt := 100) (by decide) (fun h85 => ?_) (fun h85 => ?_)
      ·
        have hS : srvL μ t f = srvP μ t f := (if_neg (fun z => z.2 (by rw [nI_0]; exact h85))).symm
        have hC3 := hC2
        have hF3 := hF2
        rw [hS] at hC3
        refine r_aload0 hX dX6_serves_100 (q := 101) rfl ?_
        refine r_getR hX dX6_serves_101 (q := 104) rfl fX6_9 rfl ⟨by decide, by decide, rfl⟩ ?_
        refine r_bipush hX dX6_serves_104 (q := 106) rfl (v := nI 10) (by decide +kernel) ?_
        refine r_iconst hX dX6_serves_106 (q := 107) rfl (v := nI 3) (by decide +kernel) ?_
        refine r_iload2 hX dX6_serves_107 (q := 108) rfl ?_
        refine r_imul hX dX6_serves_108 (q := 109) rfl ?_
        refine r_iadd hX dX6_serves_109 (q := 110) rfl ?_
        refine r_iconst hX dX6_serves_110 (q := 111) rfl (v := nI 2) (by decide +kernel) ?_
        refine r_iadd hX dX6_serves_111 (q := 112) rfl ?_
        refine r_aload0 hX dX6_serves_112 (q := 113) rfl ?_
        refine r_getR hX dX6_serves_113 (q := 116) rfl fX6_9 rfl ⟨by decide, by decide, rfl⟩ ?_
        refine r_bipush hX dX6_serves_116 (q := 118) rfl (v := nI 10) (by decide +kernel) ?_
        refine r_iconst hX dX6_serves_118 (q := 119) rfl (v := nI 3) (by decide +kernel) ?_
        refine r_iload2 hX dX6_serves_119 (q := 120) rfl ?_
        refine r_imul hX dX6_serves_120 (q := 121) rfl ?_
        refine r_iadd hX dX6_serves_121 (q := 122) rfl ?_
        refine r_iconst hX dX6_serves_122 (q := 123) rfl (v := nI 2) (by decide +kernel) ?_
        refine r_iadd hX dX6_serves_123 (q := 124) rfl ?_
        refine r_ialdN hX dX6_serves_124 (q := 125) rfl rfl (e_add (e_add rfl (e_mul rfl rfl)) rfl) (by omega) (by first | decide | omega) ?_
        refine r_iconst hX dX6_serves_125 (q := 126) rfl (v := nI 1) (by decide +kernel) ?_
        refine r_iadd hX dX6_serves_126 (q := 127) rfl ?_
        refine r_sipush hX dX6_serves_127 (q := 130) rfl (v := nI 999) (by decide +kernel) ?_
        refine r_callS hX dX6_serves_130 (q := 133) rfl (c_X6_held _ Γ _ _ _) kX6_96 mlX6_held msX6_held rfl rfl ⟨by decide, by decide⟩ (Nat.le_of_ble_eq_true rfl) (keI ?_)
        refine r_iastN hX dX6_serves_133 (q := 134) rfl rfl (e_add (e_add rfl (e_mul rfl rfl)) rfl) (by omega) (by first | decide | omega) ?_
        refine r_iload4 hX dX6_serves_134 (q := 136) rfl ?_
        refine r_iret hX hR dX6_serves_136 ?_
        -- leaf 1 at 136
        refine ⟨_, rfl, ?_⟩
        rw [show 10 + 3 * f + 2 = 12 + 3 * f by omega]
        have e4 : srvP μ t f (12 + 3 * f) = μ (12 + 3 * f) := by
          unfold srvP
          split
          · rw [upd_ne (by omega)]; unfold srvL; rw [upd_ne (by omega)]; exact srv_z (by omega)
          · unfold srvL; rw [upd_ne (by omega)]; exact srv_z (by omega)
        rw [hC3 (12 + 3 * f) (by omega), e4, he_tri (hV.2.2.2.1 f hf).2.2]
        refine ⟨?_, ?_, hF3.up⟩
        · unfold srvF; rw [← hfd]
        · unfold srvF; rw [← hfd]; exact hC3.u _ _
      ·
        have hpd : ¬ μ 6 < nI 0 := by rw [nI_0]; exact h85
        refine r_aload0 hX dX6_serves_88 (q := 89) rfl ?_
        refine r_aload0 hX dX6_serves_89 (q := 90) rfl ?_
        refine r_getR hX dX6_serves_90 (q := 93) rfl fX6_9 rfl ⟨by decide, by decide, rfl⟩ ?_
        refine r_bipush hX dX6_serves_93 (q := 95) rfl (v := nI 6) (by decide +kernel) ?_
        refine r_ialdN hX dX6_serves_95 (q := 96) rfl rfl (by repeat' (first | assumption | with_reducible exact rfl | refine e_add ?_ ?_ | refine e_mul ?_ ?_)) (by first | assumption | omega) (by first | decide | omega) ?_
        rw [ep]
        have hpe := (hV.pd hpd).2
        refine r_iconst hX dX6_serves_96 (q := 97) rfl (v := nI 5) (by decide +kernel) ?_
        refine r_callV hX dX6_serves_97 (q := 100) rfl (c_X6_likesMore _ Γ _ _ _ (cl (μ 6)) hpe (hV.pd hpd).1) kX6_120 mlX6_likesMore mvX6_likesMore rfl rfl rfl ⟨by decide, rfl⟩ ⟨by decide, by decide⟩ (Nat.le_of_ble_eq_true rfl) (keV ?_)
        rw [hC2 _ (by have := (hV.pd hpd).1; omega)]
        have hC3 := hC2.u (10 + 3 * cl (μ 6)) (lkS (srvL μ t f (10 + 3 * cl (μ 6)) + nI 5))
        have hF3 : FrN G (up G2 48 (10 + 3 * cl (μ 6)) (lkS (srvL μ t f (10 + 3 * cl (μ 6)) + nI 5))) := hF2.up
        have hS : upd (srvL μ t f) (10 + 3 * cl (μ 6)) (lkS (srvL μ t f (10 + 3 * cl (μ 6)) + nI 5)) = srvP μ t f := (if_pos ⟨h75, hpd⟩).symm
        rw [hS] at hC3
        generalize up G2 48 (10 + 3 * cl (μ 6)) (lkS (srvL μ t f (10 + 3 * cl (μ 6)) + nI 5)) = G3 at hC3 hF3 ⊢
        refine r_aload0 hX dX6_serves_100 (q := 101) rfl ?_
        refine r_getR hX dX6_serves_101 (q := 104) rfl fX6_9 rfl ⟨by decide, by decide, rfl⟩ ?_
        refine r_bipush hX dX6_serves_104 (q := 106) rfl (v := nI 10) (by decide +kernel) ?_
        refine r_iconst hX dX6_serves_106 (q := 107) rfl (v := nI 3) (by decide +kernel) ?_
        refine r_iload2 hX dX6_serves_107 (q := 108) rfl ?_
        refine r_imul hX dX6_serves_108 (q := 109) rfl ?_
        refine r_iadd hX dX6_serves_109 (q := 110) rfl ?_
        refine r_iconst hX dX6_serves_110 (q := 111) rfl (v := nI 2) (by decide +kernel) ?_
        refine r_iadd hX dX6_serves_111 (q := 112) rfl ?_
        refine r_aload0 hX dX6_serves_112 (q := 113) rfl ?_
        refine r_getR hX dX6_serves_113 (q := 116) rfl fX6_9 rfl ⟨by decide, by decide, rfl⟩ ?_
        refine r_bipush hX dX6_serves_116 (q := 118) rfl (v := nI 10) (by decide +kernel) ?_
        refine r_iconst hX dX6_serves_118 (q := 119) rfl (v := nI 3) (by decide +kernel) ?_
        refine r_iload2 hX dX6_serves_119 (q := 120) rfl ?_
        refine r_imul hX dX6_serves_120 (q := 121) rfl ?_
        refine r_iadd hX dX6_serves_121 (q := 122) rfl ?_
        refine r_iconst hX dX6_serves_122 (q := 123) rfl (v := nI 2) (by decide +kernel) ?_
        refine r_iadd hX dX6_serves_123 (q := 124) rfl ?_
        refine r_ialdN hX dX6_serves_124 (q := 125) rfl rfl (e_add (e_add rfl (e_mul rfl rfl)) rfl) (by omega) (by first | decide | omega) ?_
        refine r_iconst hX dX6_serves_125 (q := 126) rfl (v := nI 1) (by decide +kernel) ?_
        refine r_iadd hX dX6_serves_126 (q := 127) rfl ?_
        refine r_sipush hX dX6_serves_127 (q := 130) rfl (v := nI 999) (by decide +kernel) ?_
        refine r_callS hX dX6_serves_130 (q := 133) rfl (c_X6_held _ Γ _ _ _) kX6_96 mlX6_held msX6_held rfl rfl ⟨by decide, by decide⟩ (Nat.le_of_ble_eq_true rfl) (keI ?_)
        refine r_iastN hX dX6_serves_133 (q := 134) rfl rfl (e_add (e_add rfl (e_mul rfl rfl)) rfl) (by omega) (by first | decide | omega) ?_
        refine r_iload4 hX dX6_serves_134 (q := 136) rfl ?_
        refine r_iret hX hR dX6_serves_136 ?_
        -- leaf 2 at 136
        refine ⟨_, rfl, ?_⟩
        rw [show 10 + 3 * f + 2 = 12 + 3 * f by omega]
        have e4 : srvP μ t f (12 + 3 * f) = μ (12 + 3 * f) := by
          unfold srvP
          split
          · rw [upd_ne (by omega)]; unfold srvL; rw [upd_ne (by omega)]; exact srv_z (by omega)
          · unfold srvL; rw [upd_ne (by omega)]; exact srv_z (by omega)
        rw [hC3 (12 + 3 * f) (by omega), e4, he_tri (hV.2.2.2.1 f hf).2.2]
        refine ⟨?_, ?_, hF3.up⟩
        · unfold srvF; rw [← hfd]
        · unfold srvF; rw [← hfd]; exact hC3.u _ _
  refine r_aload0 hX dX6_serves_0 (q := 1) rfl ?_
  refine r_iload1 hX dX6_serves_1 (q := 2) rfl ?_
  refine r_iconst hX dX6_serves_2 (q := 3) rfl (v := nI 1) (by decide +kernel) ?_
  refine r_callV hX dX6_serves_3 (q := 6) rfl (c_X6_of _ Γ _ _ _ t 1 rfl rfl ht (by decide)) kX6_90 mlX6_of mvX6_of rfl rfl rfl ⟨by decide, rfl⟩ ⟨by decide, by decide⟩ (Nat.le_of_ble_eq_true rfl) (keI ?_)
  rw [a1]
  refine r_istore2 hX dX6_serves_6 (q := 7) rfl rfl ?_
  refine r_aload0 hX dX6_serves_7 (q := 8) rfl ?_
  refine r_iload1 hX dX6_serves_8 (q := 9) rfl ?_
  refine r_iconst hX dX6_serves_9 (q := 10) rfl (v := nI 0) (by decide +kernel) ?_
  refine r_callV hX dX6_serves_10 (q := 13) rfl (c_X6_of _ Γ _ _ _ t 0 rfl rfl ht (by decide)) kX6_90 mlX6_of mvX6_of rfl rfl rfl ⟨by decide, rfl⟩ ⟨by decide, by decide⟩ (Nat.le_of_ble_eq_true rfl) (keI ?_)
  rw [a0]
  refine r_bipush hX dX6_serves_13 (q := 15) rfl (v := nI 6) (by decide +kernel) ?_
  first | refine r_icmpN_ne hX dX6_serves_15 (q := 18) rfl (tgt := 47) (by decide) (by first | omega | decide) (by first | omega | decide) (fun h15 => ?_) (fun h15 => ?_) | refine r_icmp_ne hX dX6_serves_15 (q := 18) rfl (tgt := 47) (by decide) (fun h15 => ?_) (fun h15 => ?_)
  ·
    refine r_iconst hX dX6_serves_47 (q := 48) rfl (v := nI 0) (by decide +kernel) ?_
    refine r_istore3 hX dX6_serves_48 (q := 49) rfl rfl ?_
    refine J49 _ false ?_ ?_ ?_
    ·
      rw [srvM_n h15]; exact hM
    ·
      exact FrN.rf
    ·
      exact (decide_eq_false (fun z => h15 z.1)).symm
  ·
    refine r_aload0 hX dX6_serves_18 (q := 19) rfl ?_
    refine r_callV hX dX6_serves_19 (q := 22) rfl (c_X6_draw _ Γ _ ) kX6_116 mlX6_draw mvX6_draw rfl rfl rfl ⟨by decide, rfl⟩ ⟨by decide, by decide⟩ (Nat.le_of_ble_eq_true rfl) (keI ?_)
    rw [hM 1 (by decide)]
    have hMz := hM.u 1 (drS (μ 1))
    have eb : up G 48 1 (drS (μ 1)) 48 (10 + 3 * f + 1) = μ (11 + 3 * f) := (up_ne (by omega)).trans b1
    refine r_bipush hX dX6_serves_22 (q := 24) rfl (v := nI 10) (by decide +kernel) ?_
    refine r_irem hX dX6_serves_24 (q := 25) rfl (by first | decide +kernel | assumption) ?_
    refine r_aload0 hX dX6_serves_25 (q := 26) rfl ?_
    refine r_getR hX dX6_serves_26 (q := 29) rfl fX6_9 rfl ⟨by decide, by decide, rfl⟩ ?_
    refine r_bipush hX dX6_serves_29 (q := 31) rfl (v := nI 10) (by decide +kernel) ?_
    refine r_iconst hX dX6_serves_31 (q := 32) rfl (v := nI 3) (by decide +kernel) ?_
    refine r_iload2 hX dX6_serves_32 (q := 33) rfl ?_
    refine r_imul hX dX6_serves_33 (q := 34) rfl ?_
    refine r_iadd hX dX6_serves_34 (q := 35) rfl ?_
    refine r_iconst hX dX6_serves_35 (q := 36) rfl (v := nI 1) (by decide +kernel) ?_
    refine r_iadd hX dX6_serves_36 (q := 37) rfl ?_
    refine r_ialdN hX dX6_serves_37 (q := 38) rfl rfl (e_add (e_add rfl (e_mul rfl rfl)) rfl) (by omega) (by first | decide | omega) ?_
    rw [eb]
    refine r_iconst hX dX6_serves_38 (q := 39) rfl (v := nI 1) (by decide +kernel) ?_
    refine r_iadd hX dX6_serves_39 (q := 40) rfl ?_
    first | refine r_icmpN_ge hX dX6_serves_40 (q := 43) rfl (tgt := 47) (by decide) (by first | omega | decide) (by first | omega | decide) (fun h40 => ?_) (fun h40 => ?_) | refine r_icmp_ge hX dX6_serves_40 (q := 43) rfl (tgt := 47) (by decide) (fun h40 => ?_) (fun h40 => ?_)
    ·
      refine r_iconst hX dX6_serves_47 (q := 48) rfl (v := nI 0) (by decide +kernel) ?_
      refine r_istore3 hX dX6_serves_48 (q := 49) rfl rfl ?_
      refine J49 _ false ?_ ?_ ?_
      ·
        rw [srvM_6 h15]; exact hMz
      ·
        exact FrN.rf.up
      ·
        exact (decide_eq_false (fun z => absurd (Int32.lt_of_lt_of_le z.2 h40) Int32.lt_irrefl)).symm
    ·
      refine r_iconst hX dX6_serves_43 (q := 44) rfl (v := nI 1) (by decide +kernel) ?_
      refine r_goto hX dX6_serves_44 (tgt := 48) (by decide) ?_
      refine r_istore3 hX dX6_serves_48 (q := 49) rfl rfl ?_
      refine J49 _ true ?_ ?_ ?_
      ·
        rw [srvM_6 h15]; exact hMz
      ·
        exact FrN.rf.up
      ·
        exact (decide_eq_true ⟨h15, Int32.not_le.mp h40⟩).symm
