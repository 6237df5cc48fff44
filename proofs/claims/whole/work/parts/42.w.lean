set_option maxRecDepth 100000 in
set_option maxHeartbeats 4000000 in
theorem c_X6_meal (l : Launch) (Γ : Gam) (G : GG) (μ : MU) (hM : MR G μ) (b : Nat) (hV : Inv b μ) (x : Int32) (o : Option Nat) (hx : x = oI o) (ho : ∀ t, o = some t → t < 10) : Sp l yX6_meal cX6_meal 4 (some .int) 4 92 [.ref (gad Γ 47), .int x] Γ G (pI (fun v G' => v = (mealF μ o).1 ∧ MR G' (mealF μ o).2 ∧ FrN G G')) := by
  refine Sp_of (own := RX6) rfl (by decide +kernel) rfl (Nat.le_of_ble_eq_true rfl) (fun X hX hR => ?_)
  show WP X Γ 0 [some (.ref (gad Γ 47)), some (.int x), none, none] [] G
  have J14 : ∀ (G1 : GG) (e : Int32) (ν : MU), (MR G1 ν) → (Inv b ν) → (nn e 20) → (FrN G G1) → (mealF μ o = (e, mealE ν e)) → WP X Γ 14 [some (.ref (gad Γ 47)), some (.int x), some (.int e), none] [] G1 := by
    intro G1 e ν hM1 hV1 he hF1 hS
    refine r_aload0 hX dX6_meal_14 (q := 15) rfl ?_
    refine r_getR hX dX6_meal_15 (q := 18) rfl fX6_9 rfl ⟨by decide, by decide, rfl⟩ ?_
    refine r_iconst hX dX6_meal_18 (q := 19) rfl (v := nI 3) (by decide +kernel) ?_
    refine r_aload0 hX dX6_meal_19 (q := 20) rfl ?_
    refine r_getR hX dX6_meal_20 (q := 23) rfl fX6_9 rfl ⟨by decide, by decide, rfl⟩ ?_
    refine r_iconst hX dX6_meal_23 (q := 24) rfl (v := nI 3) (by decide +kernel) ?_
    refine r_ialdN hX dX6_meal_24 (q := 25) rfl rfl (by repeat' (first | assumption | with_reducible exact rfl | refine e_add ?_ ?_ | refine e_mul ?_ ?_)) (by first | assumption | omega) (by first | decide | omega) ?_
    rw [hM1 3 (by decide)]
    refine r_iconst hX dX6_meal_25 (q := 26) rfl (v := nI 3) (by decide +kernel) ?_
    refine r_iload2 hX dX6_meal_26 (q := 27) rfl ?_
    refine r_imul hX dX6_meal_27 (q := 28) rfl ?_
    refine r_isub hX dX6_meal_28 (q := 29) rfl ?_
    refine r_bipush hX dX6_meal_29 (q := 31) rfl (v := nI 99) (by decide +kernel) ?_
    refine r_callS hX dX6_meal_31 (q := 34) rfl (c_X6_held _ Γ _ _ _) kX6_96 mlX6_held msX6_held rfl rfl ⟨by decide, by decide⟩ (Nat.le_of_ble_eq_true rfl) (keI ?_)
    refine r_bipush hX dX6_meal_34 (q := 36) rfl (v := nI 12) (by decide +kernel) ?_
    refine r_iadd hX dX6_meal_36 (q := 37) rfl ?_
    refine r_bipush hX dX6_meal_37 (q := 39) rfl (v := nI 99) (by decide +kernel) ?_
    refine r_callS hX dX6_meal_39 (q := 42) rfl (c_X6_held _ Γ _ _ _) kX6_96 mlX6_held msX6_held rfl rfl ⟨by decide, by decide⟩ (Nat.le_of_ble_eq_true rfl) (keI ?_)
    rw [he_hun hV1.2.1.2.1 he]
    refine r_iastN hX dX6_meal_42 (q := 43) rfl rfl (by repeat' (first | assumption | with_reducible exact rfl | refine e_add ?_ ?_ | refine e_mul ?_ ?_)) (by first | assumption | omega) (by first | decide | omega) ?_
    refine r_aload0 hX dX6_meal_43 (q := 44) rfl ?_
    refine r_getR hX dX6_meal_44 (q := 47) rfl fX6_9 rfl ⟨by decide, by decide, rfl⟩ ?_
    refine r_iconst hX dX6_meal_47 (q := 48) rfl (v := nI 4) (by decide +kernel) ?_
    refine r_aload0 hX dX6_meal_48 (q := 49) rfl ?_
    refine r_getR hX dX6_meal_49 (q := 52) rfl fX6_9 rfl ⟨by decide, by decide, rfl⟩ ?_
    refine r_iconst hX dX6_meal_52 (q := 53) rfl (v := nI 4) (by decide +kernel) ?_
    refine r_ialdN hX dX6_meal_53 (q := 54) rfl rfl (by repeat' (first | assumption | with_reducible exact rfl | refine e_add ?_ ?_ | refine e_mul ?_ ?_)) (by first | assumption | omega) (by first | decide | omega) ?_
    rw [up_ne (by decide), hM1 4 (by decide)]
    refine r_iload2 hX dX6_meal_54 (q := 55) rfl ?_
    refine r_iadd hX dX6_meal_55 (q := 56) rfl ?_
    refine r_iconst hX dX6_meal_56 (q := 57) rfl (v := nI 4) (by decide +kernel) ?_
    refine r_isub hX dX6_meal_57 (q := 58) rfl ?_
    refine r_sipush hX dX6_meal_58 (q := 61) rfl (v := nI 9999) (by decide +kernel) ?_
    refine r_callS hX dX6_meal_61 (q := 64) rfl (c_X6_held _ Γ _ _ _) kX6_96 mlX6_held msX6_held rfl rfl ⟨by decide, by decide⟩ (Nat.le_of_ble_eq_true rfl) (keI ?_)
    rw [he_wei]
    have hM2 := (hM1.u 3 (hunS (ν 3) e)).u 4 (weiS (ν 4) e)
    refine r_iastN hX dX6_meal_64 (q := 65) rfl rfl (by repeat' (first | assumption | with_reducible exact rfl | refine e_add ?_ ?_ | refine e_mul ?_ ?_)) (by first | assumption | omega) (by first | decide | omega) ?_
    refine r_bipush hX dX6_meal_65 (q := 67) rfl (v := nI 34) (by decide +kernel) ?_
    refine r_istore3 hX dX6_meal_67 (q := 68) rfl rfl ?_
    have L68 : ∀ (zn68 : Nat) (j : Nat) (G2 : GG), zn68 = j → (j ≤ 34) → (∀ k, k < 115 → G2 48 k = if 80 + j < k then upd (upd ν 3 (hunS (ν 3) e)) 4 (weiS (ν 4) e) (k - 1) else upd (upd ν 3 (hunS (ν 3) e)) 4 (weiS (ν 4) e) k) → (FrN G G2) → WP X Γ 68 [some (.ref (gad Γ 47)), some (.int x), some (.int e), some (.int (nI j))] [] G2 := by
      intro zn68
      induction zn68 using Nat.strongRecOn with
      | _ zn68 ih68 =>
        intro j G2 zh68 hj hL hF2
        refine r_iload3 hX dX6_meal_68 (q := 69) rfl ?_
        refine r_if_le hX dX6_meal_69 (q := 72) rfl (tgt := 98) (by decide) (fun h69 => ?_) (fun h69 => ?_)
        ·
          have hj0 : j = 0 := by rcases Nat.eq_zero_or_pos j with q | q
                                 · exact q
                                 · exact absurd h69 (nI_pos3 q (by omega))
          refine r_aload0 hX dX6_meal_98 (q := 99) rfl ?_
          refine r_getR hX dX6_meal_99 (q := 102) rfl fX6_9 rfl ⟨by decide, by decide, rfl⟩ ?_
          refine r_bipush hX dX6_meal_102 (q := 104) rfl (v := nI 80) (by decide +kernel) ?_
          refine r_iload2 hX dX6_meal_104 (q := 105) rfl ?_
          refine r_iastN hX dX6_meal_105 (q := 106) rfl rfl (by repeat' (first | assumption | with_reducible exact rfl | refine e_add ?_ ?_ | refine e_mul ?_ ?_)) (by first | assumption | omega) (by first | decide | omega) ?_
          refine r_aload0 hX dX6_meal_106 (q := 107) rfl ?_
          refine r_getR hX dX6_meal_107 (q := 110) rfl fX6_9 rfl ⟨by decide, by decide, rfl⟩ ?_
          refine r_bipush hX dX6_meal_110 (q := 112) rfl (v := nI 9) (by decide +kernel) ?_
          refine r_aload0 hX dX6_meal_112 (q := 113) rfl ?_
          refine r_getR hX dX6_meal_113 (q := 116) rfl fX6_9 rfl ⟨by decide, by decide, rfl⟩ ?_
          refine r_bipush hX dX6_meal_116 (q := 118) rfl (v := nI 9) (by decide +kernel) ?_
          refine r_ialdN hX dX6_meal_118 (q := 119) rfl rfl (by repeat' (first | assumption | with_reducible exact rfl | refine e_add ?_ ?_ | refine e_mul ?_ ?_)) (by first | assumption | omega) (by first | decide | omega) ?_
          refine r_iconst hX dX6_meal_119 (q := 120) rfl (v := nI 1) (by decide +kernel) ?_
          refine r_iadd hX dX6_meal_120 (q := 121) rfl ?_
          refine r_bipush hX dX6_meal_121 (q := 123) rfl (v := nI 35) (by decide +kernel) ?_
          refine r_callS hX dX6_meal_123 (q := 126) rfl (c_X6_held _ Γ _ _ _) kX6_96 mlX6_held msX6_held rfl rfl ⟨by decide, by decide⟩ (Nat.le_of_ble_eq_true rfl) (keI ?_)
          refine r_iastN hX dX6_meal_126 (q := 127) rfl rfl (by repeat' (first | assumption | with_reducible exact rfl | refine e_add ?_ ?_ | refine e_mul ?_ ?_)) (by first | assumption | omega) (by first | decide | omega) ?_
          refine r_aload0 hX dX6_meal_127 (q := 128) rfl ?_
          refine r_getR hX dX6_meal_128 (q := 131) rfl fX6_9 rfl ⟨by decide, by decide, rfl⟩ ?_
          refine r_iconst hX dX6_meal_131 (q := 132) rfl (v := nI 0) (by decide +kernel) ?_
          refine r_dup2 hX dX6_meal_132 (q := 133) rfl rfl rfl ?_
          refine r_ialdN hX dX6_meal_133 (q := 134) rfl rfl (by repeat' (first | assumption | with_reducible exact rfl | refine e_add ?_ ?_ | refine e_mul ?_ ?_)) (by first | assumption | omega) (by first | decide | omega) ?_
          refine r_iconst hX dX6_meal_134 (q := 135) rfl (v := nI 1) (by decide +kernel) ?_
          refine r_iadd hX dX6_meal_135 (q := 136) rfl ?_
          refine r_iastN hX dX6_meal_136 (q := 137) rfl rfl (by repeat' (first | assumption | with_reducible exact rfl | refine e_add ?_ ?_ | refine e_mul ?_ ?_)) (by first | assumption | omega) (by first | decide | omega) ?_
          refine r_iload2 hX dX6_meal_137 (q := 138) rfl ?_
          refine r_iret hX hR dX6_meal_138 ?_
          -- leaf 0 at 138
          refine ⟨_, rfl, ?_⟩
          subst hj0
          have hL2 : MR (up G2 48 80 e) (shf (upd (upd ν 3 (hunS (ν 3) e)) 4 (weiS (ν 4) e)) e) := by
            intro k hk
            unfold shf
            by_cases q : k = 80
            · subst q; rw [up_eq, if_pos rfl]
            · rw [up_ne (by omega), if_neg q, hL k hk]
              by_cases q2 : 80 < k
              · rw [if_pos (by omega), if_pos ⟨q2, hk⟩]
              · rw [if_neg (by omega), if_neg (by omega)]
          have h9 : up G2 48 80 e 48 9 = ν 9 := (hL2 9 (by decide)).trans (by unfold shf; rw [if_neg (by decide), if_neg (by decide), upd_ne (by decide), upd_ne (by decide)])
          rw [h9]
          have hL3 := hL2.u 9 (heS (ν 9 + nI 1) (nI 35))
          have h0 : up (up G2 48 80 e) 48 9 (heS (ν 9 + nI 1) (nI 35)) 48 0 = ν 0 := (hL3 0 (by decide)).trans (by rw [upd_ne (by decide)]; unfold shf; rw [if_neg (by decide), if_neg (by decide), upd_ne (by decide), upd_ne (by decide)])
          rw [h0, hS]
          exact ⟨rfl, hL3.u 0 _, hF2.up.up.up⟩
        ·
          have hj0 : 0 < j := Nat.pos_of_ne_zero (fun q => h69 (by rw [q]; decide +kernel))
          refine r_aload0 hX dX6_meal_72 (q := 73) rfl ?_
          refine r_getR hX dX6_meal_73 (q := 76) rfl fX6_9 rfl ⟨by decide, by decide, rfl⟩ ?_
          refine r_bipush hX dX6_meal_76 (q := 78) rfl (v := nI 80) (by decide +kernel) ?_
          refine r_iload3 hX dX6_meal_78 (q := 79) rfl ?_
          refine r_iadd hX dX6_meal_79 (q := 80) rfl ?_
          refine r_aload0 hX dX6_meal_80 (q := 81) rfl ?_
          refine r_getR hX dX6_meal_81 (q := 84) rfl fX6_9 rfl ⟨by decide, by decide, rfl⟩ ?_
          refine r_bipush hX dX6_meal_84 (q := 86) rfl (v := nI 80) (by decide +kernel) ?_
          refine r_iload3 hX dX6_meal_86 (q := 87) rfl ?_
          refine r_iadd hX dX6_meal_87 (q := 88) rfl ?_
          refine r_iconst hX dX6_meal_88 (q := 89) rfl (v := nI 1) (by decide +kernel) ?_
          refine r_isub hX dX6_meal_89 (q := 90) rfl ?_
          refine r_ialdN hX dX6_meal_90 (q := 91) rfl rfl ((congrArg (fun z => z - nI 1) (nI_add 80 j)).trans (pk_sub (by omega))) (by omega) (by first | decide | omega) ?_
          refine r_iastN hX dX6_meal_91 (q := 92) rfl rfl (nI_add 80 j) (by omega) (by first | decide | omega) ?_
          refine r_iinc3 hX dX6_meal_92 (q := 95) (v := nI (j - 1)) rfl rfl (by rw [← pk_sub (show 1 ≤ j by omega), Int32.sub_eq_add_neg]; rfl) ?_
          refine r_goto hX dX6_meal_95 (tgt := 68) (by decide) ?_
          refine ih68 _ ?_ (j - 1) _ rfl ?_ ?_ ?_
          ·
            omega
          ·
            omega
          ·
            intro k hk
            by_cases q : k = 80 + j
            · subst q
              rw [up_eq, hL _ (by omega), if_neg (by omega), if_pos (by omega)]
            · rw [up_ne (by omega), hL k hk]
              by_cases q2 : 80 + j < k
              · rw [if_pos q2, if_pos (by omega)]
              · rw [if_neg q2, if_neg (by omega)]
          ·
            exact hF2.up
    refine L68 _ 34 _ rfl ?_ ?_ ?_
    ·
      exact Nat.le_refl _
    ·
      intro k hk
      rw [if_neg (by omega)]
      exact hM2 k hk
    ·
      exact hF1.up.up
  refine r_iload1 hX dX6_meal_0 (q := 1) rfl ?_
  refine r_if_ge hX dX6_meal_1 (q := 4) rfl (tgt := 8) (by decide) (fun h1 => ?_) (fun h1 => ?_)
  ·
    obtain ⟨t, rfl⟩ : ∃ t, o = some t := by
      cases o with
      | none => exact absurd h1 (by rw [hx]; decide +kernel)
      | some t => exact ⟨t, rfl⟩
    refine r_aload0 hX dX6_meal_8 (q := 9) rfl ?_
    refine r_iload1 hX dX6_meal_9 (q := 10) rfl ?_
    refine r_callV hX dX6_meal_10 (q := 13) rfl (c_X6_serves _ Γ _ μ hM b hV _ t hx (ho t rfl)) kX6_123 mlX6_serves mvX6_serves rfl rfl rfl ⟨by decide, rfl⟩ ⟨by decide, by decide⟩ (Nat.le_of_ble_eq_true rfl) (kpI (fun v10 G10 p10 => ?_))
    refine r_istore2 hX dX6_meal_13 (q := 14) rfl rfl ?_
    refine J14 _ _ (srvF μ t).2 ?_ ?_ ?_ ?_ ?_
    ·
      exact p10.2.1
    ·
      exact (hV.srv (ho t rfl)).1
    ·
      rw [p10.1]; exact (hV.srv (ho t rfl)).2
    ·
      exact p10.2.2
    ·
      rw [p10.1]; rfl
  ·
    have hn : o = none := by
      cases o with
      | none => rfl
      | some t => exact absurd (by rw [hx]; exact nn_ge (by have := ho t rfl; omega)) h1
    subst hn
    refine r_iconst hX dX6_meal_4 (q := 5) rfl (v := nI 0) (by decide +kernel) ?_
    refine r_goto hX dX6_meal_5 (tgt := 13) (by decide) ?_
    refine r_istore2 hX dX6_meal_13 (q := 14) rfl rfl ?_
    refine J14 _ _ μ ?_ ?_ ?_ ?_ ?_
    ·
      exact hM
    ·
      exact hV
    ·
      exact ⟨0, by decide, rfl⟩
    ·
      exact FrN.rf
    ·
      rfl
