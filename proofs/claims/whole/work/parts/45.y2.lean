set_option maxRecDepth 100000 in
set_option maxHeartbeats 4000000 in
theorem c_X6_paid (l : Launch) (Γ : Gam) (G : GG) (μ : MU) (hM : MR G μ) (b : Nat) (hV : Inv b μ) (hb : b ≤ 100000) (x : Int32) : Sp l yX6_paid cX6_paid 5 (some .int) 6 138 [.ref (gad Γ 47), .int x] Γ G (pI (fun v G' => MOut G μ (oPaid μ x) v G')) := by
  refine Sp_of (own := RX6) rfl (by decide +kernel) rfl (Nat.le_of_ble_eq_true rfl) (fun X hX hR => ?_)
  show WP X Γ 0 [some (.ref (gad Γ 47)), some (.int x), none, none, none] [] G
  obtain ⟨s, hs, es, ec⟩ := nt_of hV
  refine r_aload0 hX dX6_paid_0 (q := 1) rfl ?_
  refine r_iload1 hX dX6_paid_1 (q := 2) rfl ?_
  refine r_iconst hX dX6_paid_2 (q := 3) rfl (v := nI 0) (by decide +kernel) ?_
  refine r_sipush hX dX6_paid_3 (q := 6) rfl (v := nI 175) (by decide +kernel) ?_
  refine r_iconst hX dX6_paid_6 (q := 7) rfl (v := nI 1) (by decide +kernel) ?_
  refine r_callV hX dX6_paid_7 (q := 10) rfl (c_X6_wrongMeals _ Γ _ μ (by assumption) _ _ _ true) kX6_152 mlX6_wrongMeals mvX6_wrongMeals rfl rfl rfl ⟨by decide, rfl⟩ ⟨by decide, by decide⟩ (Nat.le_of_ble_eq_true rfl) (keI ?_)
  refine r_istore2 hX dX6_paid_10 (q := 11) rfl rfl ?_
  refine r_iload2 hX dX6_paid_11 (q := 12) rfl ?_
  refine r_if_ge hX dX6_paid_12 (q := 15) rfl (tgt := 21) (by decide) (fun h12 => ?_) (fun h12 => ?_)
  ·
    obtain ⟨⟨-, hx2⟩, hps⟩ := wm_p h12
    obtain ⟨xl, xe⟩ := ix_of (by decide) hx2
    refine r_aload0 hX dX6_paid_21 (q := 22) rfl ?_
    refine r_getR hX dX6_paid_22 (q := 25) rfl fX6_9 rfl ⟨by decide, by decide, rfl⟩ ?_
    refine r_bipush hX dX6_paid_25 (q := 27) rfl (v := nI 6) (by decide +kernel) ?_
    refine r_ialdN hX dX6_paid_27 (q := 28) rfl rfl (by repeat' (first | assumption | with_reducible exact rfl | refine e_add ?_ ?_ | refine e_mul ?_ ?_)) (by first | assumption | omega) (by first | decide | omega) ?_
    rw [hM 6 (by decide)]
    refine r_if_ge hX dX6_paid_28 (q := 31) rfl (tgt := 38) (by decide) (fun h28 => ?_) (fun h28 => ?_)
    ·
      have hpd : ¬ μ 6 < nI 0 := by rw [nI_0]; exact Int32.not_lt.mpr h28
      obtain ⟨pd1, pd2⟩ := hV.pd hpd
      refine r_aload0 hX dX6_paid_38 (q := 39) rfl ?_
      refine r_getR hX dX6_paid_39 (q := 42) rfl fX6_9 rfl ⟨by decide, by decide, rfl⟩ ?_
      refine r_aload0 hX dX6_paid_42 (q := 43) rfl ?_
      refine r_getR hX dX6_paid_43 (q := 46) rfl fX6_16 rfl ⟨by decide, by decide, rfl⟩ ?_
      refine r_callS hX dX6_paid_46 (q := 49) rfl (c_X6_row _ Γ _ 48 50 rfl rfl (by decide)) kX6_156 mlX6_row msX6_row rfl rfl ⟨by decide, by decide⟩ (Nat.le_of_ble_eq_true rfl) (keV ?_)
      obtain ⟨hM1, hW1, hF1⟩ := sv_ok hM
      generalize upc G 50 (rwK (G 48) (G 50) 115) = G1 at hM1 hW1 hF1 ⊢
      refine r_aload0 hX dX6_paid_49 (q := 50) rfl ?_
      refine r_iload1 hX dX6_paid_50 (q := 51) rfl ?_
      refine r_callV hX dX6_paid_51 (q := 54) rfl (c_X6_mealsOf _ Γ _ μ hM1 b hV _ (cl x) xe (by omega)) kX6_136 mlX6_mealsOf mvX6_mealsOf rfl rfl rfl ⟨by decide, rfl⟩ ⟨by decide, by decide⟩ (Nat.le_of_ble_eq_true rfl) (kpI (fun v51 G51 p51 => ?_))
      refine r_pop hX dX6_paid_54 (q := 55) rfl rfl ?_
      refine r_aload0 hX dX6_paid_55 (q := 56) rfl ?_
      refine r_aload0 hX dX6_paid_56 (q := 57) rfl ?_
      refine r_getR hX dX6_paid_57 (q := 60) rfl fX6_9 rfl ⟨by decide, by decide, rfl⟩ ?_
      refine r_bipush hX dX6_paid_60 (q := 62) rfl (v := nI 6) (by decide +kernel) ?_
      refine r_ialdN hX dX6_paid_62 (q := 63) rfl rfl (by repeat' (first | assumption | with_reducible exact rfl | refine e_add ?_ ?_ | refine e_mul ?_ ?_)) (by first | assumption | omega) (by first | decide | omega) ?_
      rw [p51.2.1 6 (by decide), go_6, pd2]
      refine r_callV hX dX6_paid_63 (q := 66) rfl (c_X6_like _ Γ _ _ (cl (μ 6)) rfl pd1) kX6_50 mlX6_like mvX6_like rfl rfl rfl ⟨by decide, rfl⟩ ⟨by decide, by decide⟩ (Nat.le_of_ble_eq_true rfl) (keI ?_)
      rw [p51.2.1 _ (by omega)]
      refine r_istore3 hX dX6_paid_66 (q := 67) rfl rfl ?_
      refine r_aload0 hX dX6_paid_67 (q := 68) rfl ?_
      refine r_getR hX dX6_paid_68 (q := 71) rfl fX6_16 rfl ⟨by decide, by decide, rfl⟩ ?_
      refine r_aload0 hX dX6_paid_71 (q := 72) rfl ?_
      refine r_getR hX dX6_paid_72 (q := 75) rfl fX6_9 rfl ⟨by decide, by decide, rfl⟩ ?_
      refine r_callS hX dX6_paid_75 (q := 78) rfl (c_X6_row _ Γ _ 50 48 rfl rfl (by decide)) kX6_156 mlX6_row msX6_row rfl rfl ⟨by decide, by decide⟩ (Nat.le_of_ble_eq_true rfl) (keV ?_)
      obtain ⟨hM2, hW2, hF2⟩ := ld_ok (hW1.n p51.2.2)
      generalize upc G51 48 (rwK (G51 50) (G51 48) 115) = G2 at hM2 hW2 hF2 ⊢
      refine r_iconst hX dX6_paid_78 (q := 79) rfl (v := nI 0) (by decide +kernel) ?_
      refine r_istore4 hX dX6_paid_79 (q := 81) rfl rfl ?_
      refine r_drop2 ?_
      have L81 : ∀ (zn81 : Nat) (k : Nat) (G3 : GG), zn81 = s - k → (k ≤ s) → (MR G3 (prM μ k)) → (WS G3 μ) → (FrM G G3) → WP X Γ 81 [some (.ref (gad Γ 47)), some (.int x), none, some (.int ((goF μ (cl x)).2 (10 + 3 * cl (μ 6)))), some (.int (nI k))] [] G3 := by
        intro zn81
        induction zn81 using Nat.strongRecOn with
        | _ zn81 ih81 =>
          intro k G3 zh81 hk h3 hW3 hF3
          refine r_iload4 hX dX6_paid_81 (q := 83) rfl ?_
          refine r_aload0 hX dX6_paid_83 (q := 84) rfl ?_
          refine r_getR hX dX6_paid_84 (q := 87) rfl fX6_9 rfl ⟨by decide, by decide, rfl⟩ ?_
          refine r_bipush hX dX6_paid_87 (q := 89) rfl (v := nI 8) (by decide +kernel) ?_
          refine r_ialdN hX dX6_paid_89 (q := 90) rfl rfl (by repeat' (first | assumption | with_reducible exact rfl | refine e_add ?_ ?_ | refine e_mul ?_ ?_)) (by first | assumption | omega) (by first | decide | omega) ?_
          rw [h3 8 (by decide), prM_ne k 8 (fun t _ => by omega), es]
          first | refine r_icmpN_ge hX dX6_paid_90 (q := 93) rfl (tgt := 133) (by decide) (by first | omega | decide) (by first | omega | decide) (fun h90 => ?_) (fun h90 => ?_) | refine r_icmp_ge hX dX6_paid_90 (q := 93) rfl (tgt := 133) (by decide) (fun h90 => ?_) (fun h90 => ?_)
          ·
            have e0 : k = s := by omega
            subst e0
            refine r_aload0 hX dX6_paid_133 (q := 134) rfl ?_
            refine r_iload1 hX dX6_paid_134 (q := 135) rfl ?_
            refine r_callV hX dX6_paid_135 (q := 138) rfl (c_X6_mealsOf _ Γ _ (prM μ k) h3 b (hV.pr k (by omega)) _ (cl x) xe (by omega)) kX6_136 mlX6_mealsOf mvX6_mealsOf rfl rfl rfl ⟨by decide, rfl⟩ ⟨by decide, by decide⟩ (Nat.le_of_ble_eq_true rfl) (kpI (fun v135 G135 p135 => ?_))
            refine r_pop hX dX6_paid_138 (q := 139) rfl rfl ?_
            refine r_aload0 hX dX6_paid_139 (q := 140) rfl ?_
            refine r_aload0 hX dX6_paid_140 (q := 141) rfl ?_
            refine r_getR hX dX6_paid_141 (q := 144) rfl fX6_9 rfl ⟨by decide, by decide, rfl⟩ ?_
            refine r_bipush hX dX6_paid_144 (q := 146) rfl (v := nI 6) (by decide +kernel) ?_
            refine r_ialdN hX dX6_paid_146 (q := 147) rfl rfl (by repeat' (first | assumption | with_reducible exact rfl | refine e_add ?_ ?_ | refine e_mul ?_ ?_)) (by first | assumption | omega) (by first | decide | omega) ?_
            rw [p135.2.1 6 (by decide), go_6, prM_ne k 6 (fun t _ => by omega), pd2]
            refine r_callV hX dX6_paid_147 (q := 150) rfl (c_X6_like _ Γ _ _ (cl (μ 6)) rfl pd1) kX6_50 mlX6_like mvX6_like rfl rfl rfl ⟨by decide, rfl⟩ ⟨by decide, by decide⟩ (Nat.le_of_ble_eq_true rfl) (keI ?_)
            rw [p135.2.1 _ (by omega)]
            refine r_istore4 hX dX6_paid_150 (q := 152) rfl rfl ?_
            refine r_aload0 hX dX6_paid_152 (q := 153) rfl ?_
            refine r_getR hX dX6_paid_153 (q := 156) rfl fX6_16 rfl ⟨by decide, by decide, rfl⟩ ?_
            refine r_aload0 hX dX6_paid_156 (q := 157) rfl ?_
            refine r_getR hX dX6_paid_157 (q := 160) rfl fX6_9 rfl ⟨by decide, by decide, rfl⟩ ?_
            refine r_callS hX dX6_paid_160 (q := 163) rfl (c_X6_row _ Γ _ 50 48 rfl rfl (by decide)) kX6_156 mlX6_row msX6_row rfl rfl ⟨by decide, by decide⟩ (Nat.le_of_ble_eq_true rfl) (keV ?_)
            obtain ⟨hM4, hW4, hF4⟩ := ld_ok (hW3.n p135.2.2)
            generalize upc G135 48 (rwK (G135 50) (G135 48) 115) = G4 at hM4 hW4 hF4 ⊢
            refine r_iload3 hX dX6_paid_163 (q := 164) rfl ?_
            refine r_iload4 hX dX6_paid_164 (q := 166) rfl ?_
            refine r_isub hX dX6_paid_166 (q := 167) rfl ?_
            refine r_iret hX hR dX6_paid_167 ?_
            -- leaf 0 at 167
            refine ⟨_, rfl, ?_⟩
            exact MOut.ok (w := (goF μ (cl x)).2 (10 + 3 * cl (μ 6)) - (goF (prM μ (cl (μ 8))) (cl x)).2 (10 + 3 * cl (μ 6))) (μ' := μ) (by unfold oPaid; rw [if_pos hx2, if_neg (fun q => (past_r hV hb (h := 175) (by decide) hx2).mp q hps), if_neg hpd]) (by rw [ec, cl_nI (by omega)]) hM4 ((hF3.tr p135.2.2.M).tr hF4.M)
          ·
            refine r_aload0 hX dX6_paid_93 (q := 94) rfl ?_
            refine r_getR hX dX6_paid_94 (q := 97) rfl fX6_9 rfl ⟨by decide, by decide, rfl⟩ ?_
            refine r_bipush hX dX6_paid_97 (q := 99) rfl (v := nI 40) (by decide +kernel) ?_
            refine r_iconst hX dX6_paid_99 (q := 100) rfl (v := nI 3) (by decide +kernel) ?_
            refine r_iload4 hX dX6_paid_100 (q := 102) rfl ?_
            refine r_imul hX dX6_paid_102 (q := 103) rfl ?_
            refine r_iadd hX dX6_paid_103 (q := 104) rfl ?_
            refine r_aload0 hX dX6_paid_104 (q := 105) rfl ?_
            refine r_iload4 hX dX6_paid_105 (q := 107) rfl ?_
            refine r_iconst hX dX6_paid_107 (q := 108) rfl (v := nI 0) (by decide +kernel) ?_
            refine r_callV hX dX6_paid_108 (q := 111) rfl (c_X6_of _ Γ _ _ _ k 0 rfl rfl (by omega) (by decide)) kX6_90 mlX6_of mvX6_of rfl rfl rfl ⟨by decide, rfl⟩ ⟨by decide, by decide⟩ (Nat.le_of_ble_eq_true rfl) (keI ?_)
            rw [h3 _ (by omega), prM_ne k (40 + 3 * k + 0) (fun t q => by omega)]
            refine r_iconst hX dX6_paid_111 (q := 112) rfl (v := nI 3) (by decide +kernel) ?_
            first | refine r_icmpN_ne hX dX6_paid_112 (q := 115) rfl (tgt := 119) (by decide) (by first | omega | decide) (by first | omega | decide) (fun h112 => ?_) (fun h112 => ?_) | refine r_icmp_ne hX dX6_paid_112 (q := 115) rfl (tgt := 119) (by decide) (fun h112 => ?_) (fun h112 => ?_)
            ·
              refine r_aload0 hX dX6_paid_119 (q := 120) rfl ?_
              refine r_iload4 hX dX6_paid_120 (q := 122) rfl ?_
              refine r_iconst hX dX6_paid_122 (q := 123) rfl (v := nI 0) (by decide +kernel) ?_
              refine r_callV hX dX6_paid_123 (q := 126) rfl (c_X6_of _ Γ _ _ _ k 0 rfl rfl (by omega) (by decide)) kX6_90 mlX6_of mvX6_of rfl rfl rfl ⟨by decide, rfl⟩ ⟨by decide, by decide⟩ (Nat.le_of_ble_eq_true rfl) (keI ?_)
              rw [h3 _ (by omega), prM_ne k (40 + 3 * k + 0) (fun t q => by omega)]
              refine r_iastN hX dX6_paid_126 (q := 127) rfl rfl (e_add rfl (e_mul rfl rfl)) (by omega) (by first | decide | omega) ?_
              refine r_iincN4 hX dX6_paid_127 (q := 130) rfl rfl ?_
              refine r_goto hX dX6_paid_130 (tgt := 81) (by decide) ?_
              refine ih81 _ ?_ (k + 1) _ rfl ?_ ?_ ?_ ?_
              ·
                omega
              ·
                omega
              ·
                first
                  | (rw [prM, if_pos (show μ (40 + 3 * k) = nI 3 from h112)]; exact h3.u _ _)
                  | (rw [prM, if_neg (show ¬ μ (40 + 3 * k) = nI 3 from h112)]; exact h3.same (prM_ne k (40 + 3 * k) (fun t q => by omega)))
              ·
                exact hW3.n FrN.rf.up
              ·
                exact hF3.up
            ·
              refine r_iconst hX dX6_paid_115 (q := 116) rfl (v := nI 2) (by decide +kernel) ?_
              refine r_goto hX dX6_paid_116 (tgt := 126) (by decide) ?_
              refine r_iastN hX dX6_paid_126 (q := 127) rfl rfl (e_add rfl (e_mul rfl rfl)) (by omega) (by first | decide | omega) ?_
              refine r_iincN4 hX dX6_paid_127 (q := 130) rfl rfl ?_
              refine r_goto hX dX6_paid_130 (tgt := 81) (by decide) ?_
              refine ih81 _ ?_ (k + 1) _ rfl ?_ ?_ ?_ ?_
              ·
                omega
              ·
                omega
              ·
                first
                  | (rw [prM, if_pos (show μ (40 + 3 * k) = nI 3 from h112)]; exact h3.u _ _)
                  | (rw [prM, if_neg (show ¬ μ (40 + 3 * k) = nI 3 from h112)]; exact h3.same (prM_ne k (40 + 3 * k) (fun t q => by omega)))
              ·
                exact hW3.n FrN.rf.up
              ·
                exact hF3.up
      refine L81 _ 0 _ rfl ?_ ?_ ?_ ?_
      ·
        exact Nat.zero_le _
      ·
        exact hM2
      ·
        exact hW2
      ·
        exact (hF1.tr p51.2.2.M).tr hF2.M
    ·
      refine r_aload0 hX dX6_paid_31 (q := 32) rfl ?_
      refine r_ldc hX dX6_paid_32 (q := 34) rfl qX6_35 ?_
      refine r_callV hX dX6_paid_34 (q := 37) rfl (c_X6_finds _ Γ _ _ 3 (by decide) (by decide +kernel)) kX6_36 mlX6_finds mvX6_finds rfl rfl rfl ⟨by decide, rfl⟩ ⟨by decide, by decide⟩ (Nat.le_of_ble_eq_true rfl) (kpI (fun v34 G34 p34 => ?_))
      refine r_iret hX hR dX6_paid_37 ?_
      -- leaf 1 at 37
      refine ⟨_, rfl, ?_⟩
      exact MOut.fin (k := 3) ((if_pos hx2).trans ((if_neg (fun q => (past_r hV hb (h := 175) (by decide) hx2).mp q hps)).trans (if_pos (by rw [nI_0]; exact Int32.not_le.mp h28)))) ⟨p34.1.trans (by decide +kernel), p34.2⟩ hM FrM.rf
  ·
    obtain ⟨kk, hk7, hkv, hko⟩ := wm_n h12
    refine r_aload0 hX dX6_paid_15 (q := 16) rfl ?_
    refine r_iload2 hX dX6_paid_16 (q := 17) rfl ?_
    refine r_callV hX dX6_paid_17 (q := 20) rfl (c_X6_finds _ Γ _ _ kk hk7 (by rw [hkv]; exact fk_x kk hk7)) kX6_36 mlX6_finds mvX6_finds rfl rfl rfl ⟨by decide, rfl⟩ ⟨by decide, by decide⟩ (Nat.le_of_ble_eq_true rfl) (kpI (fun v17 G17 p17 => ?_))
    refine r_iret hX hR dX6_paid_20 ?_
    -- leaf 2 at 20
    refine ⟨_, rfl, ?_⟩
    rcases hko with ⟨rfl, q⟩ | ⟨rfl, q, z9⟩
    · exact MOut.fin (k := 0) (if_neg (fun q2 => q ⟨rfl, q2⟩)) ⟨p17.1.trans hkv, p17.2⟩ hM FrM.rf
    · exact MOut.fin (k := 4) ((if_pos q.2).trans (if_pos ((past_r hV hb (h := 175) (by decide) q.2).mpr z9))) ⟨p17.1.trans hkv, p17.2⟩ hM FrM.rf

set_option maxRecDepth 100000 in
set_option maxHeartbeats 4000000 in
theorem c_X6_worry (l : Launch) (Γ : Gam) (G : GG) (μ : MU) (hM : MR G μ) (b : Nat) (hV : Inv b μ) (hb : b ≤ 100000) : Sp l yX6_worry cX6_worry 3 (some .int) 5 115 [.ref (gad Γ 47)] Γ G (pI (fun v G' => MOut G μ (oWorry μ) v G')) := by
  refine Sp_of (own := RX6) rfl (by decide +kernel) rfl (Nat.le_of_ble_eq_true rfl) (fun X hX hR => ?_)
  show WP X Γ 0 [some (.ref (gad Γ 47)), none, none] [] G
  refine r_aload0 hX dX6_worry_0 (q := 1) rfl ?_
  refine r_getR hX dX6_worry_1 (q := 4) rfl fX6_9 rfl ⟨by decide, by decide, rfl⟩ ?_
  refine r_iconst hX dX6_worry_4 (q := 5) rfl (v := nI 0) (by decide +kernel) ?_
  refine r_ialdN hX dX6_worry_5 (q := 6) rfl rfl (by repeat' (first | assumption | with_reducible exact rfl | refine e_add ?_ ?_ | refine e_mul ?_ ?_)) (by first | assumption | omega) (by first | decide | omega) ?_
  rw [hM 0 (by decide)]
  refine r_sipush hX dX6_worry_6 (q := 9) rfl (v := nI 175) (by decide +kernel) ?_
  refine r_iadd hX dX6_worry_9 (q := 10) rfl ?_
  refine r_ldc hX dX6_worry_10 (q := 12) rfl qX6_134 ?_
  first | refine r_icmpN_le hX dX6_worry_12 (q := 15) rfl (tgt := 22) (by decide) (by first | omega | decide) (by first | omega | decide) (fun h12 => ?_) (fun h12 => ?_) | refine r_icmp_le hX dX6_worry_12 (q := 15) rfl (tgt := 22) (by decide) (fun h12 => ?_) (fun h12 => ?_)
  ·
    refine r_aload0 hX dX6_worry_22 (q := 23) rfl ?_
    refine r_getR hX dX6_worry_23 (q := 26) rfl fX6_9 rfl ⟨by decide, by decide, rfl⟩ ?_
    refine r_aload0 hX dX6_worry_26 (q := 27) rfl ?_
    refine r_getR hX dX6_worry_27 (q := 30) rfl fX6_16 rfl ⟨by decide, by decide, rfl⟩ ?_
    refine r_callS hX dX6_worry_30 (q := 33) rfl (c_X6_row _ Γ _ 48 50 rfl rfl (by decide)) kX6_156 mlX6_row msX6_row rfl rfl ⟨by decide, by decide⟩ (Nat.le_of_ble_eq_true rfl) (keV ?_)
    obtain ⟨hM1, hW1, hF1⟩ := sv_ok hM
    generalize upc G 50 (rwK (G 48) (G 50) 115) = G1 at hM1 hW1 hF1 ⊢
    refine r_iconst hX dX6_worry_33 (q := 34) rfl (v := (-1)) (by decide +kernel) ?_
    refine r_istore1 hX dX6_worry_34 (q := 35) rfl rfl ?_
    refine r_iconst hX dX6_worry_35 (q := 36) rfl (v := nI 1) (by decide +kernel) ?_
    refine r_istore2 hX dX6_worry_36 (q := 37) rfl rfl ?_
    have L37 : ∀ (zn37 : Nat) (k : Nat) (e : Int32) (G2 : GG), zn37 = 175 - k → (k ≤ 175) → (MR G2 (goF μ k).2) → (WS G2 μ) → (FrM G G2) → (((∀ j, j < k → wyP μ j = false) ∧ e = -1) ∨ (∃ k0, k = k0 + 1 ∧ e = nI k ∧ wyP μ k0 = true ∧ ∀ j, j < k0 → wyP μ j = false)) → WP X Γ 37 [some (.ref (gad Γ 47)), some (.int e), some (.int (nI (k + 1)))] [] G2 := by
      intro zn37
      induction zn37 using Nat.strongRecOn with
      | _ zn37 ih37 =>
        intro k e G2 zh37 hk h2 hW hF hP
        have hVk := hV.go k (by omega)
        refine r_iload2 hX dX6_worry_37 (q := 38) rfl ?_
        refine r_sipush hX dX6_worry_38 (q := 41) rfl (v := nI 175) (by decide +kernel) ?_
        refine r_icmpN_gt hX dX6_worry_41 (q := 44) rfl (tgt := 76) (by decide) (by first | omega | decide) (by first | omega | decide) (fun h41 => ?_) (fun h41 => ?_)
        ·
          refine r_aload0 hX dX6_worry_76 (q := 77) rfl ?_
          refine r_getR hX dX6_worry_77 (q := 80) rfl fX6_16 rfl ⟨by decide, by decide, rfl⟩ ?_
          refine r_aload0 hX dX6_worry_80 (q := 81) rfl ?_
          refine r_getR hX dX6_worry_81 (q := 84) rfl fX6_9 rfl ⟨by decide, by decide, rfl⟩ ?_
          refine r_callS hX dX6_worry_84 (q := 87) rfl (c_X6_row _ Γ _ 50 48 rfl rfl (by decide)) kX6_156 mlX6_row msX6_row rfl rfl ⟨by decide, by decide⟩ (Nat.le_of_ble_eq_true rfl) (keV ?_)
          obtain ⟨hM3, hW3, hF3⟩ := ld_ok hW
          generalize upc G2 48 (rwK (G2 50) (G2 48) 115) = G3 at hM3 hW3 hF3 ⊢
          refine r_aload0 hX dX6_worry_87 (q := 88) rfl ?_
          refine r_iload1 hX dX6_worry_88 (q := 89) rfl ?_
          refine r_callV hX dX6_worry_89 (q := 92) rfl (c_X6_orNone _ Γ _ _) kX6_76 mlX6_orNone mvX6_orNone rfl rfl rfl ⟨by decide, rfl⟩ ⟨by decide, by decide⟩ (Nat.le_of_ble_eq_true rfl) (kpI (fun v89 G89 p89 => ?_))
          refine r_iret hX hR dX6_worry_92 ?_
          -- leaf 0 at 92
          refine ⟨_, rfl, ?_⟩
          have hn : ¬ nI 99999 - nI 175 < μ 0 := fun q => (past_r hV hb (h := 175) (by decide) (le_nI (Nat.le_refl _) (by decide))).mp q h12
          rcases hP with ⟨q1, q2⟩ | ⟨k0, q1, q2, q3, q4⟩
          · first
              | exact absurd h45 (by rw [q2]; decide +kernel)
              | (rcases p89 with ⟨z, -, -⟩ | ⟨-, z⟩
                 · exact absurd z (by rw [q2]; decide +kernel)
                 · have e0 : k = 175 := by omega
                   subst e0
                   exact MOut.fin (k := 3) (by unfold oWorry; rw [if_neg hn, fsF_none 175 q1]) z hM3 (hF.tr hF3.M))
          · rcases p89 with ⟨-, z1, z2⟩ | ⟨z, -⟩
            · subst z2
              exact MOut.ok (w := nI (k0 + 1)) (μ' := μ) (by unfold oWorry; rw [if_neg hn, fsF_some q3 q4 175 (by omega)]) (z1.trans (q2.trans (by rw [q1]))) hM3 (hF.tr hF3.M)
            · exact absurd (by rw [q2]; exact nn_ge (by omega)) z
        ·
          refine r_iload1 hX dX6_worry_44 (q := 45) rfl ?_
          refine r_if_ge hX dX6_worry_45 (q := 48) rfl (tgt := 76) (by decide) (fun h45 => ?_) (fun h45 => ?_)
          ·
            refine r_aload0 hX dX6_worry_76 (q := 77) rfl ?_
            refine r_getR hX dX6_worry_77 (q := 80) rfl fX6_16 rfl ⟨by decide, by decide, rfl⟩ ?_
            refine r_aload0 hX dX6_worry_80 (q := 81) rfl ?_
            refine r_getR hX dX6_worry_81 (q := 84) rfl fX6_9 rfl ⟨by decide, by decide, rfl⟩ ?_
            refine r_callS hX dX6_worry_84 (q := 87) rfl (c_X6_row _ Γ _ 50 48 rfl rfl (by decide)) kX6_156 mlX6_row msX6_row rfl rfl ⟨by decide, by decide⟩ (Nat.le_of_ble_eq_true rfl) (keV ?_)
            obtain ⟨hM3, hW3, hF3⟩ := ld_ok hW
            generalize upc G2 48 (rwK (G2 50) (G2 48) 115) = G3 at hM3 hW3 hF3 ⊢
            refine r_aload0 hX dX6_worry_87 (q := 88) rfl ?_
            refine r_iload1 hX dX6_worry_88 (q := 89) rfl ?_
            refine r_callV hX dX6_worry_89 (q := 92) rfl (c_X6_orNone _ Γ _ _) kX6_76 mlX6_orNone mvX6_orNone rfl rfl rfl ⟨by decide, rfl⟩ ⟨by decide, by decide⟩ (Nat.le_of_ble_eq_true rfl) (kpI (fun v89 G89 p89 => ?_))
            refine r_iret hX hR dX6_worry_92 ?_
            -- leaf 1 at 92
            refine ⟨_, rfl, ?_⟩
            have hn : ¬ nI 99999 - nI 175 < μ 0 := fun q => (past_r hV hb (h := 175) (by decide) (le_nI (Nat.le_refl _) (by decide))).mp q h12
            rcases hP with ⟨q1, q2⟩ | ⟨k0, q1, q2, q3, q4⟩
            · first
                | exact absurd h45 (by rw [q2]; decide +kernel)
                | (rcases p89 with ⟨z, -, -⟩ | ⟨-, z⟩
                   · exact absurd z (by rw [q2]; decide +kernel)
                   · have e0 : k = 175 := by omega
                     subst e0
                     exact MOut.fin (k := 3) (by unfold oWorry; rw [if_neg hn, fsF_none 175 q1]) z hM3 (hF.tr hF3.M))
            · rcases p89 with ⟨-, z1, z2⟩ | ⟨z, -⟩
              · subst z2
                exact MOut.ok (w := nI (k0 + 1)) (μ' := μ) (by unfold oWorry; rw [if_neg hn, fsF_some q3 q4 175 (by omega)]) (z1.trans (q2.trans (by rw [q1]))) hM3 (hF.tr hF3.M)
              · exact absurd (by rw [q2]; exact nn_ge (by omega)) z
          ·
            refine r_aload0 hX dX6_worry_48 (q := 49) rfl ?_
            refine r_aload0 hX dX6_worry_49 (q := 50) rfl ?_
            refine r_callV hX dX6_worry_50 (q := 53) rfl (c_X6_served _ Γ _ (goF μ k).2 h2 (b + k) hVk (by omega)) kX6_126 mlX6_served mvX6_served rfl rfl rfl ⟨by decide, rfl⟩ ⟨by decide, by decide⟩ (Nat.le_of_ble_eq_true rfl) (keI ?_)
            refine r_callV hX dX6_worry_53 (q := 56) rfl (c_X6_meal _ Γ _ (goF μ k).2 h2 (b + k) hVk _ (servN (goF μ k).2) rfl (servN_lt hVk (by omega))) kX6_129 mlX6_meal mvX6_meal rfl rfl rfl ⟨by decide, rfl⟩ ⟨by decide, by decide⟩ (Nat.le_of_ble_eq_true rfl) (kpI (fun v53 G53 p53 => ?_))
            refine r_pop hX dX6_worry_56 (q := 57) rfl rfl ?_
            refine r_aload0 hX dX6_worry_57 (q := 58) rfl ?_
            refine r_callV hX dX6_worry_58 (q := 61) rfl (c_X6_isShort _ Γ _ (goF μ (k + 1)).2 p53.2.1 (b + (k + 1)) (hV.go (k + 1) (by omega))) kX6_144 mlX6_isShort mvX6_isShort rfl rfl rfl ⟨by decide, rfl⟩ ⟨by decide, by decide⟩ (Nat.le_of_ble_eq_true rfl) (keB ?_)
            first | with_reducible refine r_ifd_eq hX dX6_worry_61 (q := 64) rfl (tgt := 68) (by decide) (fun h61 => ?_) (fun h61 => ?_) | refine r_ifb_eq hX dX6_worry_61 (q := 64) rfl (tgt := 68) (by decide) (fun h61 => ?_) (fun h61 => ?_)
            ·
              refine r_iconst hX dX6_worry_68 (q := 69) rfl (v := (-1)) (by decide +kernel) ?_
              refine r_istore1 hX dX6_worry_69 (q := 70) rfl rfl ?_
              refine r_iincN2 hX dX6_worry_70 (q := 73) rfl rfl ?_
              refine r_goto hX dX6_worry_73 (tgt := 37) (by decide) ?_
              refine ih37 _ ?_ (k + 1) _ _ rfl ?_ ?_ ?_ ?_ ?_
              ·
                omega
              ·
                omega
              ·
                exact p53.2.1
              ·
                exact hW.n p53.2.2
              ·
                exact hF.tr p53.2.2.M
              ·
                have hq : ∀ j, j < k → wyP μ j = false := by
                  rcases hP with ⟨q, -⟩ | ⟨k0, -, q, -⟩
                  · exact q
                  · exact absurd (by rw [q]; exact nn_ge (by omega)) h45
                first
                  | exact Or.inr ⟨k, rfl, rfl, h61, hq⟩
                  | (refine Or.inl ⟨fun j hj => ?_, rfl⟩
                     by_cases e1 : j = k
                     · subst e1; exact h61
                     · exact hq j (by omega))
            ·
              refine r_iload2 hX dX6_worry_64 (q := 65) rfl ?_
              refine r_goto hX dX6_worry_65 (tgt := 69) (by decide) ?_
              refine r_istore1 hX dX6_worry_69 (q := 70) rfl rfl ?_
              refine r_iincN2 hX dX6_worry_70 (q := 73) rfl rfl ?_
              refine r_goto hX dX6_worry_73 (tgt := 37) (by decide) ?_
              refine ih37 _ ?_ (k + 1) _ _ rfl ?_ ?_ ?_ ?_ ?_
              ·
                omega
              ·
                omega
              ·
                exact p53.2.1
              ·
                exact hW.n p53.2.2
              ·
                exact hF.tr p53.2.2.M
              ·
                have hq : ∀ j, j < k → wyP μ j = false := by
                  rcases hP with ⟨q, -⟩ | ⟨k0, -, q, -⟩
                  · exact q
                  · exact absurd (by rw [q]; exact nn_ge (by omega)) h45
                first
                  | exact Or.inr ⟨k, rfl, rfl, h61, hq⟩
                  | (refine Or.inl ⟨fun j hj => ?_, rfl⟩
                     by_cases e1 : j = k
                     · subst e1; exact h61
                     · exact hq j (by omega))
    refine L37 _ 0 _ _ rfl ?_ ?_ ?_ ?_ ?_
    ·
      exact Nat.zero_le _
    ·
      exact hM1
    ·
      exact hW1
    ·
      exact hF1
    ·
      exact Or.inl ⟨fun j hj => absurd hj (by omega), rfl⟩
  ·
    refine r_aload0 hX dX6_worry_15 (q := 16) rfl ?_
    refine r_ldc hX dX6_worry_16 (q := 18) rfl qX6_135 ?_
    refine r_callV hX dX6_worry_18 (q := 21) rfl (c_X6_finds _ Γ _ _ 4 (by decide) (by decide +kernel)) kX6_36 mlX6_finds mvX6_finds rfl rfl rfl ⟨by decide, rfl⟩ ⟨by decide, by decide⟩ (Nat.le_of_ble_eq_true rfl) (kpI (fun v18 G18 p18 => ?_))
    refine r_iret hX hR dX6_worry_21 ?_
    -- leaf 2 at 21
    refine ⟨_, rfl, ?_⟩
    exact MOut.fin (k := 4) (if_pos ((past_r hV hb (h := 175) (by decide) (le_nI (Nat.le_refl _) (by decide))).mpr h12)) ⟨p18.1.trans (by decide +kernel), p18.2⟩ hM FrM.rf

set_option maxRecDepth 100000 in
set_option maxHeartbeats 4000000 in
theorem c_X6_order (l : Launch) (Γ : Gam) (G : GG) (μ : MU) (hM : MR G μ) (b : Nat) (hV : Inv b μ) (hb : b ≤ 100000) (x : Int32) : Sp l yX6_order cX6_order 8 (some .int) 7 162 [.ref (gad Γ 47), .int x] Γ G (pI (fun v G' => MOut G μ (oOrder μ x) v G')) := by
  refine Sp_of (own := RX6) rfl (by decide +kernel) rfl (Nat.le_of_ble_eq_true rfl) (fun X hX hR => ?_)
  show WP X Γ 0 [some (.ref (gad Γ 47)), some (.int x), none, none, none, none, none, none] [] G
  obtain ⟨s, hs, es, ec⟩ := nt_of hV
  refine r_aload0 hX dX6_order_0 (q := 1) rfl ?_
  refine r_iload1 hX dX6_order_1 (q := 2) rfl ?_
  refine r_iconst hX dX6_order_2 (q := 3) rfl (v := nI 1) (by decide +kernel) ?_
  refine r_bipush hX dX6_order_3 (q := 5) rfl (v := nI 70) (by decide +kernel) ?_
  refine r_iconst hX dX6_order_5 (q := 6) rfl (v := nI 1) (by decide +kernel) ?_
  refine r_callV hX dX6_order_6 (q := 9) rfl (c_X6_wrongMeals _ Γ _ μ (by assumption) _ _ _ true) kX6_152 mlX6_wrongMeals mvX6_wrongMeals rfl rfl rfl ⟨by decide, rfl⟩ ⟨by decide, by decide⟩ (Nat.le_of_ble_eq_true rfl) (keI ?_)
  refine r_istore2 hX dX6_order_9 (q := 10) rfl rfl ?_
  refine r_iload2 hX dX6_order_10 (q := 11) rfl ?_
  refine r_if_ge hX dX6_order_11 (q := 14) rfl (tgt := 20) (by decide) (fun h11 => ?_) (fun h11 => ?_)
  ·
    obtain ⟨⟨-, hx2⟩, hps⟩ := wm_p h11
    obtain ⟨xl0, xl, xe⟩ := ix1_of (by decide) (by decide) hx2
    refine r_iconst hX dX6_order_20 (q := 21) rfl (v := (-1)) (by decide +kernel) ?_
    refine r_istore3 hX dX6_order_21 (q := 22) rfl rfl ?_
    refine r_aload0 hX dX6_order_22 (q := 23) rfl ?_
    refine r_iload1 hX dX6_order_23 (q := 24) rfl ?_
    refine r_iconst hX dX6_order_24 (q := 25) rfl (v := nI 0) (by decide +kernel) ?_
    refine r_callV hX dX6_order_25 (q := 28) rfl (c_X6_behind _ Γ _ μ hM b hV _ (cl x) xe (by omega) false) kX6_166 mlX6_behind mvX6_behind rfl rfl rfl ⟨by decide, rfl⟩ ⟨by decide, by decide⟩ (Nat.le_of_ble_eq_true rfl) (kpI (fun v25 G25 p25 => ?_))
    have hl0 : v25 = lbF μ (cl x) := p25.1.trans (if_neg (by decide))
    refine r_istore4 hX dX6_order_28 (q := 30) rfl rfl ?_
    refine r_iconst hX dX6_order_30 (q := 31) rfl (v := nI 0) (by decide +kernel) ?_
    refine r_istore5 hX dX6_order_31 (q := 33) rfl rfl ?_
    refine r_drop2 ?_
    have L33 : ∀ (zn33 : Nat) (a : Nat) (e g : Int32) (G1 : GG), zn33 = s - a → (a ≤ s) → ((g, e) = odA μ (cl x) s a) → (MR G1 μ) → (FrM G G1) → WP X Γ 33 [some (.ref (gad Γ 47)), some (.int x), none, some (.int e), some (.int g), some (.int (nI a)), none, none] [] G1 := by
      intro zn33
      induction zn33 using Nat.strongRecOn with
      | _ zn33 ih33 =>
        intro a e g G1 zh33 ha he h1 hF
        refine r_iload5 hX dX6_order_33 (q := 35) rfl ?_
        refine r_aload0 hX dX6_order_35 (q := 36) rfl ?_
        refine r_getR hX dX6_order_36 (q := 39) rfl fX6_9 rfl ⟨by decide, by decide, rfl⟩ ?_
        refine r_bipush hX dX6_order_39 (q := 41) rfl (v := nI 8) (by decide +kernel) ?_
        refine r_ialdN hX dX6_order_41 (q := 42) rfl rfl (by repeat' (first | assumption | with_reducible exact rfl | refine e_add ?_ ?_ | refine e_mul ?_ ?_)) (by first | assumption | omega) (by first | decide | omega) ?_
        rw [h1 8 (by decide), es]
        first | refine r_icmpN_ge hX dX6_order_42 (q := 45) rfl (tgt := 122) (by decide) (by first | omega | decide) (by first | omega | decide) (fun h42 => ?_) (fun h42 => ?_) | refine r_icmp_ge hX dX6_order_42 (q := 45) rfl (tgt := 122) (by decide) (fun h42 => ?_) (fun h42 => ?_)
        ·
          refine r_aload0 hX dX6_order_122 (q := 123) rfl ?_
          refine r_iload3 hX dX6_order_123 (q := 124) rfl ?_
          refine r_callV hX dX6_order_124 (q := 127) rfl (c_X6_orNone _ Γ _ _) kX6_76 mlX6_orNone mvX6_orNone rfl rfl rfl ⟨by decide, rfl⟩ ⟨by decide, by decide⟩ (Nat.le_of_ble_eq_true rfl) (kpI (fun v124 G124 p124 => ?_))
          refine r_iret hX hR dX6_order_127 ?_
          -- leaf 0 at 127
          refine ⟨_, rfl, ?_⟩
          have e0 : a = s := by omega
          subst e0
          have ee : (odA μ (cl x) (cl (μ 8)) (cl (μ 8))).2 = e := by rw [ec, ← he]
          rcases p124 with ⟨z, z1, z2⟩ | ⟨z, z1⟩
          · subst z2
            exact MOut.ok (w := e) (μ' := μ) (by unfold oOrder; rw [if_pos hx2, if_neg (fun q => (past_r hV hb (h := 70) (by decide) (le_01 hx2)).mp q hps), ee, if_neg (by rw [nI_0]; exact Int32.not_lt.mpr z)]) z1 h1 hF
          · exact MOut.fin (k := 3) (by unfold oOrder; rw [if_pos hx2, if_neg (fun q => (past_r hV hb (h := 70) (by decide) (le_01 hx2)).mp q hps), ee, if_pos (by rw [nI_0]; exact Int32.not_le.mp z)]) z1 h1 hF
        ·
          refine r_iload5 hX dX6_order_45 (q := 47) rfl ?_
          refine r_iconst hX dX6_order_47 (q := 48) rfl (v := nI 1) (by decide +kernel) ?_
          refine r_iadd hX dX6_order_48 (q := 49) rfl ?_
          refine r_istore6 hX dX6_order_49 (q := 51) rfl rfl ?_
          rw [nI_add]
          have L51 : ∀ (zn51 : Nat) (k : Nat) (e2 g2 : Int32) (G2 : GG), zn51 = s - k → (a + 1 + k ≤ s) → ((g2, e2) = odB μ (cl x) a (odA μ (cl x) s a) k) → (MR G2 μ) → (FrM G G2) → WP X Γ 51 [some (.ref (gad Γ 47)), some (.int x), none, some (.int e2), some (.int g2), some (.int (nI a)), some (.int (nI (a + 1 + k))), none] [] G2 := by
            intro zn51
            induction zn51 using Nat.strongRecOn with
            | _ zn51 ih51 =>
              intro k e2 g2 G2 zh51 hk he2 h2 hF2
              refine r_iload6 hX dX6_order_51 (q := 53) rfl ?_
              refine r_aload0 hX dX6_order_53 (q := 54) rfl ?_
              refine r_getR hX dX6_order_54 (q := 57) rfl fX6_9 rfl ⟨by decide, by decide, rfl⟩ ?_
              refine r_bipush hX dX6_order_57 (q := 59) rfl (v := nI 8) (by decide +kernel) ?_
              refine r_ialdN hX dX6_order_59 (q := 60) rfl rfl (by repeat' (first | assumption | with_reducible exact rfl | refine e_add ?_ ?_ | refine e_mul ?_ ?_)) (by first | assumption | omega) (by first | decide | omega) ?_
              rw [h2 8 (by decide), es]
              first | refine r_icmpN_ge hX dX6_order_60 (q := 63) rfl (tgt := 116) (by decide) (by first | omega | decide) (by first | omega | decide) (fun h60 => ?_) (fun h60 => ?_) | refine r_icmp_ge hX dX6_order_60 (q := 63) rfl (tgt := 116) (by decide) (fun h60 => ?_) (fun h60 => ?_)
              ·
                refine r_iincN5 hX dX6_order_116 (q := 119) rfl rfl ?_
                refine r_goto hX dX6_order_119 (tgt := 33) (by decide) ?_
                refine r_drop6 ?_
                refine ih33 _ ?_ (a + 1) _ _ _ rfl ?_ ?_ ?_ ?_
                ·
                  omega
                ·
                  omega
                ·
                  rw [he2, show k = s - (a + 1) by omega]; rfl
                ·
                  exact h2
                ·
                  exact hF2
              ·
                refine r_aload0 hX dX6_order_63 (q := 64) rfl ?_
                refine r_iload5 hX dX6_order_64 (q := 66) rfl ?_
                refine r_iload6 hX dX6_order_66 (q := 68) rfl ?_
                refine r_callV hX dX6_order_68 (q := 71) rfl (c_X6_swaps _ Γ _ μ h2 _ _ a (a + 1 + k) rfl rfl (by omega) (by omega)) kX6_111 mlX6_swaps mvX6_swaps rfl rfl rfl ⟨by decide, rfl⟩ ⟨by decide, by decide⟩ (Nat.le_of_ble_eq_true rfl) (kpV (fun G68 p68 => ?_))
                refine r_aload0 hX dX6_order_71 (q := 72) rfl ?_
                refine r_iload1 hX dX6_order_72 (q := 73) rfl ?_
                refine r_iconst hX dX6_order_73 (q := 74) rfl (v := nI 0) (by decide +kernel) ?_
                refine r_callV hX dX6_order_74 (q := 77) rfl (c_X6_behind _ Γ _ (swM μ a (a + 1 + k)) p68.1 b (hV.sw (by omega) (by omega)) _ (cl x) xe (by omega) false) kX6_166 mlX6_behind mvX6_behind rfl rfl rfl ⟨by decide, rfl⟩ ⟨by decide, by decide⟩ (Nat.le_of_ble_eq_true rfl) (kpI (fun v74 G74 p74 => ?_))
                refine r_istore7 hX dX6_order_77 (q := 79) rfl rfl ?_
                refine r_aload0 hX dX6_order_79 (q := 80) rfl ?_
                refine r_iload5 hX dX6_order_80 (q := 82) rfl ?_
                refine r_iload6 hX dX6_order_82 (q := 84) rfl ?_
                refine r_callV hX dX6_order_84 (q := 87) rfl (c_X6_swaps _ Γ _ (swM μ a (a + 1 + k)) p74.2.1 _ _ a (a + 1 + k) rfl rfl (by omega) (by omega)) kX6_111 mlX6_swaps mvX6_swaps rfl rfl rfl ⟨by decide, rfl⟩ ⟨by decide, by decide⟩ (Nat.le_of_ble_eq_true rfl) (kpV (fun G84 p84 => ?_))
                refine r_iload7 hX dX6_order_87 (q := 89) rfl ?_
                refine r_iload4 hX dX6_order_89 (q := 91) rfl ?_
                first | refine r_icmpN_gt hX dX6_order_91 (q := 94) rfl (tgt := 97) (by decide) (by first | omega | decide) (by first | omega | decide) (fun h91 => ?_) (fun h91 => ?_) | refine r_icmp_gt hX dX6_order_91 (q := 94) rfl (tgt := 97) (by decide) (fun h91 => ?_) (fun h91 => ?_)
                ·
                  refine r_bipush hX dX6_order_97 (q := 99) rfl (v := nI 10) (by decide +kernel) ?_
                  refine r_iload5 hX dX6_order_99 (q := 101) rfl ?_
                  refine r_imul hX dX6_order_101 (q := 102) rfl ?_
                  refine r_iload6 hX dX6_order_102 (q := 104) rfl ?_
                  refine r_iadd hX dX6_order_104 (q := 105) rfl ?_
                  rw [pk_mul, nI_add]
                  refine r_istore3 hX dX6_order_105 (q := 106) rfl rfl ?_
                  refine r_iload7 hX dX6_order_106 (q := 108) rfl ?_
                  refine r_istore4 hX dX6_order_108 (q := 110) rfl rfl ?_
                  refine r_iincN6 hX dX6_order_110 (q := 113) rfl rfl ?_
                  refine r_goto hX dX6_order_113 (tgt := 51) (by decide) ?_
                  refine r_drop7 ?_
                  refine ih51 _ ?_ (k + 1) _ _ _ rfl ?_ ?_ ?_ ?_
                  ·
                    omega
                  ·
                    omega
                  ·
                    have hv : v74 = lbF (swM μ a (a + 1 + k)) (cl x) := p74.1.trans (if_neg (by decide))
                    first
                      | (rw [odB, ← he2, if_pos (by rw [← hv]; exact h91), hv])
                      | (rw [odB, ← he2, if_neg (by rw [← hv]; exact h91)])
                  ·
                    exact p84.1.cg swM_2
                  ·
                    exact ((hF2.tr p68.2.M).tr p74.2.2).tr p84.2.M
                ·
                  refine r_goto hX dX6_order_94 (tgt := 110) (by decide) ?_
                  refine r_iincN6 hX dX6_order_110 (q := 113) rfl rfl ?_
                  refine r_goto hX dX6_order_113 (tgt := 51) (by decide) ?_
                  refine r_drop7 ?_
                  refine ih51 _ ?_ (k + 1) _ _ _ rfl ?_ ?_ ?_ ?_
                  ·
                    omega
                  ·
                    omega
                  ·
                    have hv : v74 = lbF (swM μ a (a + 1 + k)) (cl x) := p74.1.trans (if_neg (by decide))
                    first
                      | (rw [odB, ← he2, if_pos (by rw [← hv]; exact h91), hv])
                      | (rw [odB, ← he2, if_neg (by rw [← hv]; exact h91)])
                  ·
                    exact p84.1.cg swM_2
                  ·
                    exact ((hF2.tr p68.2.M).tr p74.2.2).tr p84.2.M
          refine L51 _ 0 _ _ _ rfl ?_ ?_ ?_ ?_
          ·
            omega
          ·
            exact he
          ·
            exact h1
          ·
            exact hF
    refine L33 _ 0 _ _ _ rfl ?_ ?_ ?_ ?_
    ·
      exact Nat.zero_le _
    ·
      rw [hl0]; rfl
    ·
      exact p25.2.1
    ·
      exact p25.2.2
  ·
    obtain ⟨kk, hk7, hkv, hko⟩ := wm_n h11
    refine r_aload0 hX dX6_order_14 (q := 15) rfl ?_
    refine r_iload2 hX dX6_order_15 (q := 16) rfl ?_
    refine r_callV hX dX6_order_16 (q := 19) rfl (c_X6_finds _ Γ _ _ kk hk7 (by rw [hkv]; exact fk_x kk hk7)) kX6_36 mlX6_finds mvX6_finds rfl rfl rfl ⟨by decide, rfl⟩ ⟨by decide, by decide⟩ (Nat.le_of_ble_eq_true rfl) (kpI (fun v16 G16 p16 => ?_))
    refine r_iret hX hR dX6_order_19 ?_
    -- leaf 1 at 19
    refine ⟨_, rfl, ?_⟩
    rcases hko with ⟨rfl, q⟩ | ⟨rfl, q, z9⟩
    · exact MOut.fin (k := 0) (if_neg (fun q2 => q ⟨rfl, q2⟩)) ⟨p16.1.trans hkv, p16.2⟩ hM FrM.rf
    · exact MOut.fin (k := 4) ((if_pos q.2).trans (if_pos ((past_r hV hb (h := 70) (by decide) (le_01 q.2)).mpr z9))) ⟨p16.1.trans hkv, p16.2⟩ hM FrM.rf

set_option maxRecDepth 100000 in
set_option maxHeartbeats 4000000 in
theorem c_X6_chance (l : Launch) (Γ : Gam) (G : GG) (μ : MU) (hM : MR G μ) (b : Nat) (hV : Inv b μ) (hb : b ≤ 100000) (x y z : Int32) : Sp l yX6_chance cX6_chance 8 (some .int) 6 138 [.ref (gad Γ 47), .int x, .int y, .int z] Γ G (pI (fun v G' => MOut G μ (oChance μ x y z) v G')) := by
  refine Sp_of (own := RX6) rfl (by decide +kernel) rfl (Nat.le_of_ble_eq_true rfl) (fun X hX hR => ?_)
  show WP X Γ 0 [some (.ref (gad Γ 47)), some (.int x), some (.int y), some (.int z), none, none, none, none] [] G
  have J29 : ∀ (g : Bool), (g = decide ((nI 0 ≤ x ∧ x ≤ nI 9) ∧ nI 1 ≤ y ∧ y ≤ nI 20)) → WP X Γ 29 [some (.ref (gad Γ 47)), some (.int x), some (.int y), some (.int z), none, none, none, none] [.int (bi g), .int (nI 70), .int (nI 0), .int z, .ref (gad Γ 47)] G := by
    intro g hg
    refine r_callV hX dX6_chance_29 (q := 32) rfl (c_X6_wrongMeals _ Γ _ μ (by assumption) _ _ _ _) kX6_152 mlX6_wrongMeals mvX6_wrongMeals rfl rfl rfl ⟨by decide, rfl⟩ ⟨by decide, by decide⟩ (Nat.le_of_ble_eq_true rfl) (keI ?_)
    refine r_istore4 hX dX6_chance_32 (q := 34) rfl rfl ?_
    refine r_iload4 hX dX6_chance_34 (q := 36) rfl ?_
    refine r_if_ge hX dX6_chance_36 (q := 39) rfl (tgt := 46) (by decide) (fun h36 => ?_) (fun h36 => ?_)
    ·
      obtain ⟨⟨hg2, ht2⟩, hps⟩ := wm_p h36
      rw [hg] at hg2
      obtain ⟨hf2, hn2⟩ := of_decide_eq_true hg2
      obtain ⟨fl, fe⟩ := ix_of (by decide) hf2
      obtain ⟨tl, te⟩ := ix_of (by decide) ht2
      obtain ⟨cy, hcy, rfl⟩ : ∃ c, c ≤ 20 ∧ y = nI c := ⟨cl y, (ix1_of (by decide) (by decide) hn2).2⟩
      refine r_iconst hX dX6_chance_46 (q := 47) rfl (v := nI 0) (by decide +kernel) ?_
      refine r_istore5 hX dX6_chance_47 (q := 49) rfl rfl ?_
      refine r_iconst hX dX6_chance_49 (q := 50) rfl (v := nI 0) (by decide +kernel) ?_
      refine r_istore6 hX dX6_chance_50 (q := 52) rfl rfl ?_
      refine r_drop4 ?_
      have L52 : ∀ (zn52 : Nat) (k : Nat) (e : Int32) (G1 : GG), zn52 = cy - k → (k ≤ cy) → (e = (chF μ (cl x) (cl z) k).1) → (MR G1 (chF μ (cl x) (cl z) k).2) → (FrM G G1) → WP X Γ 52 [some (.ref (gad Γ 47)), some (.int x), some (.int (nI cy)), some (.int z), none, some (.int e), some (.int (nI k)), none] [] G1 := by
        intro zn52
        induction zn52 using Nat.strongRecOn with
        | _ zn52 ih52 =>
          intro k e G1 zh52 hk he h1 hF
          refine r_iload6 hX dX6_chance_52 (q := 54) rfl ?_
          refine r_iload2 hX dX6_chance_54 (q := 55) rfl ?_
          refine r_icmpN_ge hX dX6_chance_55 (q := 58) rfl (tgt := 126) (by decide) (by first | omega | decide) (by first | omega | decide) (fun h55 => ?_) (fun h55 => ?_)
          ·
            refine r_iload5 hX dX6_chance_126 (q := 128) rfl ?_
            refine r_iret hX hR dX6_chance_128 ?_
            -- leaf 0 at 128
            refine ⟨_, rfl, ?_⟩
            have e0 : k = cy := by omega
            exact MOut.ok (w := (chF μ (cl x) (cl z) cy).1) (μ' := (chF μ (cl x) (cl z) cy).2) (by unfold oChance; rw [if_pos ⟨hf2, hn2, ht2⟩, if_neg (fun q => (past_r hV hb (h := 70) (by decide) ht2).mp q hps), cl_nI (by omega)]) (by rw [he, e0]) (by rw [← e0]; exact h1) hF
          ·
            refine r_aload0 hX dX6_chance_58 (q := 59) rfl ?_
            refine r_getR hX dX6_chance_59 (q := 62) rfl fX6_9 rfl ⟨by decide, by decide, rfl⟩ ?_
            refine r_aload0 hX dX6_chance_62 (q := 63) rfl ?_
            refine r_getR hX dX6_chance_63 (q := 66) rfl fX6_16 rfl ⟨by decide, by decide, rfl⟩ ?_
            refine r_callS hX dX6_chance_66 (q := 69) rfl (c_X6_row _ Γ _ 48 50 rfl rfl (by decide)) kX6_156 mlX6_row msX6_row rfl rfl ⟨by decide, by decide⟩ (Nat.le_of_ble_eq_true rfl) (keV ?_)
            obtain ⟨hM2, hW2, hF2⟩ := sv_ok h1
            generalize upc G1 50 (rwK (G1 48) (G1 50) 115) = G2 at hM2 hW2 hF2 ⊢
            refine r_aload0 hX dX6_chance_69 (q := 70) rfl ?_
            refine r_iload3 hX dX6_chance_70 (q := 71) rfl ?_
            refine r_callV hX dX6_chance_71 (q := 74) rfl (c_X6_mealsOf _ Γ _ (chF μ (cl x) (cl z) k).2 hM2 b (ch_inv hV (cl x) (cl z) k) _ (cl z) te (by omega)) kX6_136 mlX6_mealsOf mvX6_mealsOf rfl rfl rfl ⟨by decide, rfl⟩ ⟨by decide, by decide⟩ (Nat.le_of_ble_eq_true rfl) (kpI (fun v71 G71 p71 => ?_))
            refine r_pop hX dX6_chance_74 (q := 75) rfl rfl ?_
            refine r_iload5 hX dX6_chance_75 (q := 77) rfl ?_
            refine r_aload0 hX dX6_chance_77 (q := 78) rfl ?_
            refine r_iload1 hX dX6_chance_78 (q := 79) rfl ?_
            refine r_callV hX dX6_chance_79 (q := 82) rfl (c_X6_isLiked _ Γ _ (goF (chF μ (cl x) (cl z) k).2 (cl z)).2 p71.2.1 _ (cl x) fe (by omega)) kX6_65 mlX6_isLiked mvX6_isLiked rfl rfl rfl ⟨by decide, rfl⟩ ⟨by decide, by decide⟩ (Nat.le_of_ble_eq_true rfl) (keB ?_)
            first | with_reducible refine r_ifd_eq hX dX6_chance_82 (q := 85) rfl (tgt := 89) (by decide) (fun h82 => ?_) (fun h82 => ?_) | refine r_ifb_eq hX dX6_chance_82 (q := 85) rfl (tgt := 89) (by decide) (fun h82 => ?_) (fun h82 => ?_)
            ·
              refine r_iconst hX dX6_chance_89 (q := 90) rfl (v := nI 0) (by decide +kernel) ?_
              refine r_iadd hX dX6_chance_90 (q := 91) rfl ?_
              refine r_istore5 hX dX6_chance_91 (q := 93) rfl rfl ?_
              refine r_aload0 hX dX6_chance_93 (q := 94) rfl ?_
              refine r_getR hX dX6_chance_94 (q := 97) rfl fX6_9 rfl ⟨by decide, by decide, rfl⟩ ?_
              refine r_iconst hX dX6_chance_97 (q := 98) rfl (v := nI 1) (by decide +kernel) ?_
              refine r_ialdN hX dX6_chance_98 (q := 99) rfl rfl (by repeat' (first | assumption | with_reducible exact rfl | refine e_add ?_ ?_ | refine e_mul ?_ ?_)) (by first | assumption | omega) (by first | decide | omega) ?_
              rw [p71.2.1 1 (by decide)]
              refine r_istore7 hX dX6_chance_99 (q := 101) rfl rfl ?_
              refine r_aload0 hX dX6_chance_101 (q := 102) rfl ?_
              refine r_getR hX dX6_chance_102 (q := 105) rfl fX6_16 rfl ⟨by decide, by decide, rfl⟩ ?_
              refine r_aload0 hX dX6_chance_105 (q := 106) rfl ?_
              refine r_getR hX dX6_chance_106 (q := 109) rfl fX6_9 rfl ⟨by decide, by decide, rfl⟩ ?_
              refine r_callS hX dX6_chance_109 (q := 112) rfl (c_X6_row _ Γ _ 50 48 rfl rfl (by decide)) kX6_156 mlX6_row msX6_row rfl rfl ⟨by decide, by decide⟩ (Nat.le_of_ble_eq_true rfl) (keV ?_)
              obtain ⟨hM3, hW3, hF3⟩ := ld_ok (hW2.n p71.2.2)
              generalize upc G71 48 (rwK (G71 50) (G71 48) 115) = G3 at hM3 hW3 hF3 ⊢
              refine r_aload0 hX dX6_chance_112 (q := 113) rfl ?_
              refine r_getR hX dX6_chance_113 (q := 116) rfl fX6_9 rfl ⟨by decide, by decide, rfl⟩ ?_
              refine r_iconst hX dX6_chance_116 (q := 117) rfl (v := nI 1) (by decide +kernel) ?_
              refine r_iload7 hX dX6_chance_117 (q := 119) rfl ?_
              refine r_iastN hX dX6_chance_119 (q := 120) rfl rfl (by repeat' (first | assumption | with_reducible exact rfl | refine e_add ?_ ?_ | refine e_mul ?_ ?_)) (by first | assumption | omega) (by first | decide | omega) ?_
              refine r_iincN6 hX dX6_chance_120 (q := 123) rfl rfl ?_
              refine r_goto hX dX6_chance_123 (tgt := 52) (by decide) ?_
              refine r_drop7 ?_
              refine ih52 _ ?_ (k + 1) _ _ rfl ?_ ?_ ?_ ?_
              ·
                omega
              ·
                omega
              ·
                rw [he]
                first | exact (if_pos h82).symm | (rw [nI_0, Int32.add_zero]; exact (if_neg (by rw [h82]; decide)).symm)
              ·
                exact hM3.u 1 _
              ·
                exact (((hF.tr hF2).tr p71.2.2.M).tr hF3.M).up
            ·
              refine r_iconst hX dX6_chance_85 (q := 86) rfl (v := nI 1) (by decide +kernel) ?_
              refine r_goto hX dX6_chance_86 (tgt := 90) (by decide) ?_
              refine r_iadd hX dX6_chance_90 (q := 91) rfl ?_
              refine r_istore5 hX dX6_chance_91 (q := 93) rfl rfl ?_
              refine r_aload0 hX dX6_chance_93 (q := 94) rfl ?_
              refine r_getR hX dX6_chance_94 (q := 97) rfl fX6_9 rfl ⟨by decide, by decide, rfl⟩ ?_
              refine r_iconst hX dX6_chance_97 (q := 98) rfl (v := nI 1) (by decide +kernel) ?_
              refine r_ialdN hX dX6_chance_98 (q := 99) rfl rfl (by repeat' (first | assumption | with_reducible exact rfl | refine e_add ?_ ?_ | refine e_mul ?_ ?_)) (by first | assumption | omega) (by first | decide | omega) ?_
              rw [p71.2.1 1 (by decide)]
              refine r_istore7 hX dX6_chance_99 (q := 101) rfl rfl ?_
              refine r_aload0 hX dX6_chance_101 (q := 102) rfl ?_
              refine r_getR hX dX6_chance_102 (q := 105) rfl fX6_16 rfl ⟨by decide, by decide, rfl⟩ ?_
              refine r_aload0 hX dX6_chance_105 (q := 106) rfl ?_
              refine r_getR hX dX6_chance_106 (q := 109) rfl fX6_9 rfl ⟨by decide, by decide, rfl⟩ ?_
              refine r_callS hX dX6_chance_109 (q := 112) rfl (c_X6_row _ Γ _ 50 48 rfl rfl (by decide)) kX6_156 mlX6_row msX6_row rfl rfl ⟨by decide, by decide⟩ (Nat.le_of_ble_eq_true rfl) (keV ?_)
              obtain ⟨hM3, hW3, hF3⟩ := ld_ok (hW2.n p71.2.2)
              generalize upc G71 48 (rwK (G71 50) (G71 48) 115) = G3 at hM3 hW3 hF3 ⊢
              refine r_aload0 hX dX6_chance_112 (q := 113) rfl ?_
              refine r_getR hX dX6_chance_113 (q := 116) rfl fX6_9 rfl ⟨by decide, by decide, rfl⟩ ?_
              refine r_iconst hX dX6_chance_116 (q := 117) rfl (v := nI 1) (by decide +kernel) ?_
              refine r_iload7 hX dX6_chance_117 (q := 119) rfl ?_
              refine r_iastN hX dX6_chance_119 (q := 120) rfl rfl (by repeat' (first | assumption | with_reducible exact rfl | refine e_add ?_ ?_ | refine e_mul ?_ ?_)) (by first | assumption | omega) (by first | decide | omega) ?_
              refine r_iincN6 hX dX6_chance_120 (q := 123) rfl rfl ?_
              refine r_goto hX dX6_chance_123 (tgt := 52) (by decide) ?_
              refine r_drop7 ?_
              refine ih52 _ ?_ (k + 1) _ _ rfl ?_ ?_ ?_ ?_
              ·
                omega
              ·
                omega
              ·
                rw [he]
                first | exact (if_pos h82).symm | (rw [nI_0, Int32.add_zero]; exact (if_neg (by rw [h82]; decide)).symm)
              ·
                exact hM3.u 1 _
              ·
                exact (((hF.tr hF2).tr p71.2.2.M).tr hF3.M).up
      refine L52 _ 0 _ _ rfl ?_ ?_ ?_ ?_
      ·
        exact Nat.zero_le _
      ·
        rfl
      ·
        exact hM
      ·
        exact FrM.rf
    ·
      obtain ⟨kk, hk7, hkv, hko⟩ := wm_n h36
      refine r_aload0 hX dX6_chance_39 (q := 40) rfl ?_
      refine r_iload4 hX dX6_chance_40 (q := 42) rfl ?_
      refine r_callV hX dX6_chance_42 (q := 45) rfl (c_X6_finds _ Γ _ _ kk hk7 (by rw [hkv]; exact fk_x kk hk7)) kX6_36 mlX6_finds mvX6_finds rfl rfl rfl ⟨by decide, rfl⟩ ⟨by decide, by decide⟩ (Nat.le_of_ble_eq_true rfl) (kpI (fun v42 G42 p42 => ?_))
      refine r_iret hX hR dX6_chance_45 ?_
      -- leaf 1 at 45
      refine ⟨_, rfl, ?_⟩
      have hgq : g = true → (nI 0 ≤ x ∧ x ≤ nI 9) ∧ nI 1 ≤ y ∧ y ≤ nI 20 := fun q => by rw [hg] at q; exact of_decide_eq_true q
      rcases hko with ⟨rfl, q⟩ | ⟨rfl, q, z9⟩
      · exact MOut.fin (k := 0) (if_neg (fun q2 => q ⟨hg.trans (decide_eq_true ⟨q2.1, q2.2.1⟩), q2.2.2⟩)) ⟨p42.1.trans hkv, p42.2⟩ hM FrM.rf
      · exact MOut.fin (k := 4) ((if_pos ⟨(hgq q.1).1, (hgq q.1).2, q.2⟩).trans (if_pos ((past_r hV hb (h := 70) (by decide) q.2).mpr z9))) ⟨p42.1.trans hkv, p42.2⟩ hM FrM.rf
  refine r_aload0 hX dX6_chance_0 (q := 1) rfl ?_
  refine r_iload3 hX dX6_chance_1 (q := 2) rfl ?_
  refine r_iconst hX dX6_chance_2 (q := 3) rfl (v := nI 0) (by decide +kernel) ?_
  refine r_bipush hX dX6_chance_3 (q := 5) rfl (v := nI 70) (by decide +kernel) ?_
  refine r_iload1 hX dX6_chance_5 (q := 6) rfl ?_
  refine r_callS hX dX6_chance_6 (q := 9) rfl (c_X6_isFood _ Γ _ _) kX6_55 mlX6_isFood msX6_isFood rfl rfl ⟨by decide, by decide⟩ (Nat.le_of_ble_eq_true rfl) (keB ?_)
  first | with_reducible refine r_ifd_eq hX dX6_chance_9 (q := 12) rfl (tgt := 28) (by decide) (fun h9 => ?_) (fun h9 => ?_) | refine r_ifb_eq hX dX6_chance_9 (q := 12) rfl (tgt := 28) (by decide) (fun h9 => ?_) (fun h9 => ?_)
  ·
    refine r_iconst hX dX6_chance_28 (q := 29) rfl (v := nI 0) (by decide +kernel) ?_
    refine J29 false ?_
    ·
      exact (decide_eq_false (fun q => h9 q.1)).symm
  ·
    refine r_iload2 hX dX6_chance_12 (q := 13) rfl ?_
    refine r_i2l hX dX6_chance_13 (q := 14) rfl ?_
    refine r_lconst hX dX6_chance_14 (q := 15) rfl (v := (nI 1).toInt64) (by decide +kernel) ?_
    refine r_ldc2 hX dX6_chance_15 (q := 18) rfl qX6_48 ?_
    refine r_callS hX dX6_chance_18 (q := 21) rfl (c_X6_in _ Γ _ _ _ _) kX6_42 mlX6_in msX6_in rfl rfl ⟨by decide, by decide⟩ (Nat.le_of_ble_eq_true rfl) (keB ?_)
    first | with_reducible refine r_ifd_eq hX dX6_chance_21 (q := 24) rfl (tgt := 28) (by decide) (fun h21 => ?_) (fun h21 => ?_) | refine r_ifb_eq hX dX6_chance_21 (q := 24) rfl (tgt := 28) (by decide) (fun h21 => ?_) (fun h21 => ?_)
    ·
      refine r_iconst hX dX6_chance_28 (q := 29) rfl (v := nI 0) (by decide +kernel) ?_
      refine J29 false ?_
      ·
        exact (decide_eq_false (fun q => h21 q.2)).symm
    ·
      refine r_iconst hX dX6_chance_24 (q := 25) rfl (v := nI 1) (by decide +kernel) ?_
      refine r_goto hX dX6_chance_25 (tgt := 29) (by decide) ?_
      refine J29 true ?_
      ·
        exact (decide_eq_true ⟨h9, h21⟩).symm

set_option maxRecDepth 100000 in
set_option maxHeartbeats 4000000 in
theorem c_X6_seed (l : Launch) (Γ : Gam) (G : GG) (μ : MU) (hM : MR G μ) (x : Int32) : Sp l yX6_seed cX6_seed 2 (some .int) 1 23 [.ref (gad Γ 47), .int x] Γ G (pI (fun v G' => MOut G μ (.inr (μ 1, upd μ 1 x)) v G')) := by
  refine Sp_of (own := RX6) rfl (by decide +kernel) rfl (Nat.le_of_ble_eq_true rfl) (fun X hX hR => ?_)
  show WP X Γ 0 [some (.ref (gad Γ 47)), some (.int x)] [] G
  refine r_aload0 hX dX6_seed_0 (q := 1) rfl ?_
  refine r_iconst hX dX6_seed_1 (q := 2) rfl (v := nI 1) (by decide +kernel) ?_
  refine r_iload1 hX dX6_seed_2 (q := 3) rfl ?_
  refine r_callV hX dX6_seed_3 (q := 6) rfl (c_X6_becomes _ Γ _ 1 (by decide) _ _ rfl) kX6_59 mlX6_becomes mvX6_becomes rfl rfl rfl ⟨by decide, rfl⟩ ⟨by decide, by decide⟩ (Nat.le_of_ble_eq_true rfl) (keI ?_)
  refine r_iret hX hR dX6_seed_6 ?_
  -- leaf 0 at 6
  refine ⟨_, rfl, ?_⟩
  exact MOut.ok rfl (hM 1 (by decide)) (hM.u 1 _) FrM.rf.up
