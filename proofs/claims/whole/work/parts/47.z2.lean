set_option maxRecDepth 100000 in
set_option maxHeartbeats 4000000 in
theorem c_X6_load (l : Launch) (Γ : Gam) (G : GG) (μ : MU) (hM : MR G μ) (b : Nat) (hV : Inv b μ) (B Z N : MU) (hS : SRM G B Z N) (hZ : SInv Z) (x : Int32) : Sp l yX6_load cX6_load 3 (some .int) 2 45 [.ref (gad Γ 47), .int x] Γ G (pI (fun v G' => MOut G μ (oLoad μ B Z N x) v G')) := by
  refine Sp_of (own := RX6) rfl (by decide +kernel) rfl (Nat.le_of_ble_eq_true rfl) (fun X hX hR => ?_)
  show WP X Γ 0 [some (.ref (gad Γ 47)), some (.int x), none] [] G
  refine r_iload1 hX dX6_load_0 (q := 1) rfl ?_
  refine r_callS hX dX6_load_1 (q := 4) rfl (c_X6_isSheet _ Γ _ _) kX6_278 mlX6_isSheet msX6_isSheet rfl rfl ⟨by decide, by decide⟩ (Nat.le_of_ble_eq_true rfl) (keB ?_)
  first | with_reducible refine r_ifd_ne hX dX6_load_4 (q := 7) rfl (tgt := 14) (by decide) (fun h4 => ?_) (fun h4 => ?_) | refine r_ifb_ne hX dX6_load_4 (q := 7) rfl (tgt := 14) (by decide) (fun h4 => ?_) (fun h4 => ?_)
  ·
    obtain ⟨xl, xe⟩ := ix_of (by decide) h4
    obtain ⟨sx, sx1, sx2⟩ := hZ (cl x) (by omega)
    refine r_aload0 hX dX6_load_14 (q := 15) rfl ?_
    refine r_getR hX dX6_load_15 (q := 18) rfl fX6_25 rfl ⟨by decide, by decide, rfl⟩ ?_
    refine r_iload1 hX dX6_load_18 (q := 19) rfl ?_
    refine r_ialdN hX dX6_load_19 (q := 20) rfl rfl xe (by omega) (by first | decide | omega) ?_
    rw [(hS.1 (cl x) (by omega)).1]
    refine r_if_ne hX dX6_load_20 (q := 23) rfl (tgt := 31) (by decide) (fun h20 => ?_) (fun h20 => ?_)
    ·
      refine r_iconst hX dX6_load_31 (q := 32) rfl (v := nI 0) (by decide +kernel) ?_
      refine r_istore2 hX dX6_load_32 (q := 33) rfl rfl ?_
      have L33 : ∀ (zn33 : Nat) (k : Nat) (G1 : GG), zn33 = sx - k → (k ≤ sx ∧ k ≤ 10) → (MR G1 (ldM μ N (cl x) k)) → (FrM G G1) → (∀ j, j < k → ldP N (cl x) j = false) → WP X Γ 33 [some (.ref (gad Γ 47)), some (.int x), some (.int (nI k))] [] G1 := by
        intro zn33
        induction zn33 using Nat.strongRecOn with
        | _ zn33 ih33 =>
          intro k G1 zh33 hk h1 hF hP
          refine r_iload2 hX dX6_load_33 (q := 34) rfl ?_
          refine r_aload0 hX dX6_load_34 (q := 35) rfl ?_
          refine r_getR hX dX6_load_35 (q := 38) rfl fX6_28 rfl ⟨by decide, by decide, rfl⟩ ?_
          refine r_iload1 hX dX6_load_38 (q := 39) rfl ?_
          refine r_ialdN hX dX6_load_39 (q := 40) rfl rfl xe (by omega) (by first | decide | omega) ?_
          rw [hF 54 (by decide) (by decide), (hS.1 (cl x) (by omega)).2, sx2]
          first | refine r_icmpN_ge hX dX6_load_40 (q := 43) rfl (tgt := 99) (by decide) (by first | omega | decide) (by first | omega | decide) (fun h40 => ?_) (fun h40 => ?_) | refine r_icmp_ge hX dX6_load_40 (q := 43) rfl (tgt := 99) (by decide) (fun h40 => ?_) (fun h40 => ?_)
          ·
            refine r_iload2 hX dX6_load_99 (q := 100) rfl ?_
            refine r_iret hX hR dX6_load_100 ?_
            -- leaf 0 at 100
            refine ⟨_, rfl, ?_⟩
            have hK : ldK Z N (cl x) = k := by
              unfold ldK
              rw [show cl (Z (cl x)) = sx by rw [sx2]; exact cl_nI (by omega)]
              first
                | (rw [fsF_some (k := k) (decide_eq_true h68) hP _ (by omega)]; rfl)
                | (rw [show min sx 10 = k by omega, fsF_none k hP]; rfl)
            exact MOut.ok (w := nI (ldK Z N (cl x))) (μ' := ldM μ N (cl x) (ldK Z N (cl x))) ((if_pos h4).trans (if_neg (fun q => h20 (q.trans nI_0)))) (by rw [hK]) (by rw [hK]; exact h1) hF
          ·
            refine r_iload2 hX dX6_load_43 (q := 44) rfl ?_
            refine r_bipush hX dX6_load_44 (q := 46) rfl (v := nI 10) (by decide +kernel) ?_
            refine r_icmpN_ge hX dX6_load_46 (q := 49) rfl (tgt := 99) (by decide) (by first | omega | decide) (by first | omega | decide) (fun h46 => ?_) (fun h46 => ?_)
            ·
              refine r_iload2 hX dX6_load_99 (q := 100) rfl ?_
              refine r_iret hX hR dX6_load_100 ?_
              -- leaf 1 at 100
              refine ⟨_, rfl, ?_⟩
              have hK : ldK Z N (cl x) = k := by
                unfold ldK
                rw [show cl (Z (cl x)) = sx by rw [sx2]; exact cl_nI (by omega)]
                first
                  | (rw [fsF_some (k := k) (decide_eq_true h68) hP _ (by omega)]; rfl)
                  | (rw [show min sx 10 = k by omega, fsF_none k hP]; rfl)
              exact MOut.ok (w := nI (ldK Z N (cl x))) (μ' := ldM μ N (cl x) (ldK Z N (cl x))) ((if_pos h4).trans (if_neg (fun q => h20 (q.trans nI_0)))) (by rw [hK]) (by rw [hK]; exact h1) hF
            ·
              refine r_aload0 hX dX6_load_49 (q := 50) rfl ?_
              refine r_getR hX dX6_load_50 (q := 53) rfl fX6_31 rfl ⟨by decide, by decide, rfl⟩ ?_
              refine r_bipush hX dX6_load_53 (q := 55) rfl (v := nI 40) (by decide +kernel) ?_
              refine r_iload1 hX dX6_load_55 (q := 56) rfl ?_
              refine r_imul hX dX6_load_56 (q := 57) rfl ?_
              refine r_iload2 hX dX6_load_57 (q := 58) rfl ?_
              refine r_iadd hX dX6_load_58 (q := 59) rfl ?_
              refine r_ialdN hX dX6_load_59 (q := 60) rfl rfl (e_add (e_mul rfl xe) rfl) (by omega) (by first | decide | omega) ?_
              rw [hF 55 (by decide) (by decide), hS.2 _ (by omega)]
              refine r_i2l hX dX6_load_60 (q := 61) rfl ?_
              refine r_lconst hX dX6_load_61 (q := 62) rfl (v := (nI 0).toInt64) (by decide +kernel) ?_
              refine r_ldc2 hX dX6_load_62 (q := 65) rfl qX6_53 ?_
              refine r_callS hX dX6_load_65 (q := 68) rfl (c_X6_in _ Γ _ _ _ _) kX6_42 mlX6_in msX6_in rfl rfl ⟨by decide, by decide⟩ (Nat.le_of_ble_eq_true rfl) (keB ?_)
              first | with_reducible refine r_ifd_eq hX dX6_load_68 (q := 71) rfl (tgt := 99) (by decide) (fun h68 => ?_) (fun h68 => ?_) | refine r_ifb_eq hX dX6_load_68 (q := 71) rfl (tgt := 99) (by decide) (fun h68 => ?_) (fun h68 => ?_)
              ·
                refine r_iload2 hX dX6_load_99 (q := 100) rfl ?_
                refine r_iret hX hR dX6_load_100 ?_
                -- leaf 2 at 100
                refine ⟨_, rfl, ?_⟩
                have hK : ldK Z N (cl x) = k := by
                  unfold ldK
                  rw [show cl (Z (cl x)) = sx by rw [sx2]; exact cl_nI (by omega)]
                  first
                    | (rw [fsF_some (k := k) (decide_eq_true h68) hP _ (by omega)]; rfl)
                    | (rw [show min sx 10 = k by omega, fsF_none k hP]; rfl)
                exact MOut.ok (w := nI (ldK Z N (cl x))) (μ' := ldM μ N (cl x) (ldK Z N (cl x))) ((if_pos h4).trans (if_neg (fun q => h20 (q.trans nI_0)))) (by rw [hK]) (by rw [hK]; exact h1) hF
              ·
                refine r_aload0 hX dX6_load_71 (q := 72) rfl ?_
                refine r_getR hX dX6_load_72 (q := 75) rfl fX6_9 rfl ⟨by decide, by decide, rfl⟩ ?_
                refine r_bipush hX dX6_load_75 (q := 77) rfl (v := nI 10) (by decide +kernel) ?_
                refine r_iconst hX dX6_load_77 (q := 78) rfl (v := nI 3) (by decide +kernel) ?_
                refine r_iload2 hX dX6_load_78 (q := 79) rfl ?_
                refine r_imul hX dX6_load_79 (q := 80) rfl ?_
                refine r_iadd hX dX6_load_80 (q := 81) rfl ?_
                refine r_aload0 hX dX6_load_81 (q := 82) rfl ?_
                refine r_getR hX dX6_load_82 (q := 85) rfl fX6_31 rfl ⟨by decide, by decide, rfl⟩ ?_
                refine r_bipush hX dX6_load_85 (q := 87) rfl (v := nI 40) (by decide +kernel) ?_
                refine r_iload1 hX dX6_load_87 (q := 88) rfl ?_
                refine r_imul hX dX6_load_88 (q := 89) rfl ?_
                refine r_iload2 hX dX6_load_89 (q := 90) rfl ?_
                refine r_iadd hX dX6_load_90 (q := 91) rfl ?_
                refine r_ialdN hX dX6_load_91 (q := 92) rfl rfl (e_add (e_mul rfl xe) rfl) (by omega) (by first | decide | omega) ?_
                rw [hF 55 (by decide) (by decide), hS.2 _ (by omega)]
                refine r_iastN hX dX6_load_92 (q := 93) rfl rfl (e_add rfl (e_mul rfl rfl)) (by omega) (by first | decide | omega) ?_
                refine r_iincN2 hX dX6_load_93 (q := 96) rfl rfl ?_
                refine r_goto hX dX6_load_96 (tgt := 33) (by decide) ?_
                refine ih33 _ ?_ (k + 1) _ rfl ?_ ?_ ?_ ?_
                ·
                  omega
                ·
                  exact ⟨by omega, by omega⟩
                ·
                  exact h1.u _ _
                ·
                  exact hF.up
                ·
                  intro j hj
                  by_cases e : j = k
                  · subst e; exact decide_eq_false (fun q => q h68)
                  · exact hP j (by omega)
      refine L33 _ 0 _ rfl ?_ ?_ ?_ ?_
      ·
        exact ⟨Nat.zero_le _, Nat.zero_le _⟩
      ·
        exact hM
      ·
        exact FrM.rf
      ·
        exact fun j hj => absurd hj (by omega)
    ·
      refine r_aload0 hX dX6_load_23 (q := 24) rfl ?_
      refine r_ldc_w hX dX6_load_24 (q := 27) rfl qX6_273 ?_
      refine r_callV hX dX6_load_27 (q := 30) rfl (c_X6_finds _ Γ _ _ 5 (by decide) (by decide +kernel)) kX6_36 mlX6_finds mvX6_finds rfl rfl rfl ⟨by decide, rfl⟩ ⟨by decide, by decide⟩ (Nat.le_of_ble_eq_true rfl) (kpI (fun v27 G27 p27 => ?_))
      refine r_iret hX hR dX6_load_30 ?_
      -- leaf 3 at 30
      refine ⟨_, rfl, ?_⟩
      exact MOut.fin (k := 5) ((if_pos h4).trans (if_pos (h20.trans nI_0.symm))) ⟨p27.1.trans (by decide +kernel), p27.2⟩ hM FrM.rf
  ·
    refine r_aload0 hX dX6_load_7 (q := 8) rfl ?_
    refine r_ldc hX dX6_load_8 (q := 10) rfl qX6_34 ?_
    refine r_callV hX dX6_load_10 (q := 13) rfl (c_X6_finds _ Γ _ _ 0 (by decide) (by decide +kernel)) kX6_36 mlX6_finds mvX6_finds rfl rfl rfl ⟨by decide, rfl⟩ ⟨by decide, by decide⟩ (Nat.le_of_ble_eq_true rfl) (kpI (fun v10 G10 p10 => ?_))
    refine r_iret hX hR dX6_load_13 ?_
    -- leaf 4 at 13
    refine ⟨_, rfl, ?_⟩
    exact MOut.fin (k := 0) (if_neg h4) ⟨p10.1.trans (by decide +kernel), p10.2⟩ hM FrM.rf

set_option maxRecDepth 100000 in
set_option maxHeartbeats 4000000 in
theorem c_X6_judge (l : Launch) (Γ : Gam) (G : GG) (μ : MU) (hM : MR G μ) (b : Nat) (hV : Inv b μ) (hb : b ≤ 100000) (B Z N : MU) (hS : SRM G B Z N) (hZ : SInv Z) (x : Int32) : Sp l yX6_judge cX6_judge 3 (some .int) 5 115 [.ref (gad Γ 47), .int x] Γ G (pI (fun v G' => MOut G μ (oJudge μ B Z N x) v G')) := by
  refine Sp_of (own := RX6) rfl (by decide +kernel) rfl (Nat.le_of_ble_eq_true rfl) (fun X hX hR => ?_)
  show WP X Γ 0 [some (.ref (gad Γ 47)), some (.int x), none] [] G
  have J107 : ∀ (k sx : Nat) (G5 : GG), (nI 0 ≤ x ∧ x ≤ nI 3) → (¬ B (cl x) = nI 0) → (¬ nI 99999 - Z (cl x) < μ 0) → (Z (cl x) = nI sx) → (sx ≤ 40) → (WS G5 μ) → (FrM G G5) → ((k = sx ∧ ∀ j, j < k → jgP μ N (cl x) j = false) ∨ (k < sx ∧ jgP μ N (cl x) k = true ∧ ∀ j, j < k → jgP μ N (cl x) j = false)) → WP X Γ 107 [some (.ref (gad Γ 47)), some (.int x), some (.int (nI k))] [] G5 := by
    intro k sx G5 h4 hb0 hps sx2 sx1 hW hF hRR
    obtain ⟨xl, xe⟩ := ix_of (by decide) h4
    refine r_aload0 hX dX6_judge_107 (q := 108) rfl ?_
    refine r_getR hX dX6_judge_108 (q := 111) rfl fX6_16 rfl ⟨by decide, by decide, rfl⟩ ?_
    refine r_aload0 hX dX6_judge_111 (q := 112) rfl ?_
    refine r_getR hX dX6_judge_112 (q := 115) rfl fX6_9 rfl ⟨by decide, by decide, rfl⟩ ?_
    refine r_callS hX dX6_judge_115 (q := 118) rfl (c_X6_row _ Γ _ 50 48 rfl rfl (by decide)) kX6_156 mlX6_row msX6_row rfl rfl ⟨by decide, by decide⟩ (Nat.le_of_ble_eq_true rfl) (keV ?_)
    obtain ⟨hM6, hW6, hF6⟩ := ld_ok hW
    generalize upc G5 48 (rwK (G5 50) (G5 48) 115) = G6 at hM6 hW6 hF6 ⊢
    refine r_iload2 hX dX6_judge_118 (q := 119) rfl ?_
    refine r_aload0 hX dX6_judge_119 (q := 120) rfl ?_
    refine r_getR hX dX6_judge_120 (q := 123) rfl fX6_28 rfl ⟨by decide, by decide, rfl⟩ ?_
    refine r_iload1 hX dX6_judge_123 (q := 124) rfl ?_
    refine r_ialdN hX dX6_judge_124 (q := 125) rfl rfl xe (by omega) (by first | decide | omega) ?_
    rw [hF6 54 (by decide), hF 54 (by decide) (by decide), (hS.1 (cl x) (by omega)).2, sx2]
    first | refine r_icmpN_ne hX dX6_judge_125 (q := 128) rfl (tgt := 132) (by decide) (by first | omega | decide) (by first | omega | decide) (fun h125 => ?_) (fun h125 => ?_) | refine r_icmp_ne hX dX6_judge_125 (q := 128) rfl (tgt := 132) (by decide) (fun h125 => ?_) (fun h125 => ?_)
    ·
      refine r_iconst hX dX6_judge_132 (q := 133) rfl (v := nI 1) (by decide +kernel) ?_
      refine r_iload2 hX dX6_judge_133 (q := 134) rfl ?_
      refine r_iadd hX dX6_judge_134 (q := 135) rfl ?_
      refine r_iret hX hR dX6_judge_135 ?_
      -- leaf 0 at 135
      refine ⟨_, rfl, ?_⟩
      have hcl : cl (Z (cl x)) = sx := by rw [sx2]; exact cl_nI (by omega)
      rcases hRR with ⟨q1, q2⟩ | ⟨q1, q2, q3⟩
      · first
          | exact absurd q1 h125
          | exact MOut.ok (w := nI 0) (μ' := μ) (by unfold oJudge; rw [if_pos h4, if_neg hb0, if_neg hps, hcl, ← q1, fsF_none k q2]) rfl hM6 (hF.tr hF6.M)
      · first
          | (exfalso; omega)
          | exact MOut.ok (w := nI 1 + nI k) (μ' := μ) (by unfold oJudge; rw [if_pos h4, if_neg hb0, if_neg hps, hcl, fsF_some q2 q3 sx q1]) rfl hM6 (hF.tr hF6.M)
    ·
      refine r_iconst hX dX6_judge_128 (q := 129) rfl (v := nI 0) (by decide +kernel) ?_
      refine r_goto hX dX6_judge_129 (tgt := 135) (by decide) ?_
      refine r_iret hX hR dX6_judge_135 ?_
      -- leaf 1 at 135
      refine ⟨_, rfl, ?_⟩
      have hcl : cl (Z (cl x)) = sx := by rw [sx2]; exact cl_nI (by omega)
      rcases hRR with ⟨q1, q2⟩ | ⟨q1, q2, q3⟩
      · first
          | exact absurd q1 h125
          | exact MOut.ok (w := nI 0) (μ' := μ) (by unfold oJudge; rw [if_pos h4, if_neg hb0, if_neg hps, hcl, ← q1, fsF_none k q2]) rfl hM6 (hF.tr hF6.M)
      · first
          | (exfalso; omega)
          | exact MOut.ok (w := nI 1 + nI k) (μ' := μ) (by unfold oJudge; rw [if_pos h4, if_neg hb0, if_neg hps, hcl, fsF_some q2 q3 sx q1]) rfl hM6 (hF.tr hF6.M)
  refine r_iload1 hX dX6_judge_0 (q := 1) rfl ?_
  refine r_callS hX dX6_judge_1 (q := 4) rfl (c_X6_isSheet _ Γ _ _) kX6_278 mlX6_isSheet msX6_isSheet rfl rfl ⟨by decide, by decide⟩ (Nat.le_of_ble_eq_true rfl) (keB ?_)
  first | with_reducible refine r_ifd_ne hX dX6_judge_4 (q := 7) rfl (tgt := 14) (by decide) (fun h4 => ?_) (fun h4 => ?_) | refine r_ifb_ne hX dX6_judge_4 (q := 7) rfl (tgt := 14) (by decide) (fun h4 => ?_) (fun h4 => ?_)
  ·
    obtain ⟨xl, xe⟩ := ix_of (by decide) h4
    obtain ⟨sx, sx1, sx2⟩ := hZ (cl x) (by omega)
    refine r_aload0 hX dX6_judge_14 (q := 15) rfl ?_
    refine r_getR hX dX6_judge_15 (q := 18) rfl fX6_25 rfl ⟨by decide, by decide, rfl⟩ ?_
    refine r_iload1 hX dX6_judge_18 (q := 19) rfl ?_
    refine r_ialdN hX dX6_judge_19 (q := 20) rfl rfl xe (by omega) (by first | decide | omega) ?_
    rw [(hS.1 (cl x) (by omega)).1]
    refine r_if_ne hX dX6_judge_20 (q := 23) rfl (tgt := 31) (by decide) (fun h20 => ?_) (fun h20 => ?_)
    ·
      refine r_aload0 hX dX6_judge_31 (q := 32) rfl ?_
      refine r_getR hX dX6_judge_32 (q := 35) rfl fX6_9 rfl ⟨by decide, by decide, rfl⟩ ?_
      refine r_iconst hX dX6_judge_35 (q := 36) rfl (v := nI 0) (by decide +kernel) ?_
      refine r_ialdN hX dX6_judge_36 (q := 37) rfl rfl (by repeat' (first | assumption | with_reducible exact rfl | refine e_add ?_ ?_ | refine e_mul ?_ ?_)) (by first | assumption | omega) (by first | decide | omega) ?_
      rw [hM 0 (by decide)]
      refine r_aload0 hX dX6_judge_37 (q := 38) rfl ?_
      refine r_getR hX dX6_judge_38 (q := 41) rfl fX6_28 rfl ⟨by decide, by decide, rfl⟩ ?_
      refine r_iload1 hX dX6_judge_41 (q := 42) rfl ?_
      refine r_ialdN hX dX6_judge_42 (q := 43) rfl rfl xe (by omega) (by first | decide | omega) ?_
      rw [(hS.1 (cl x) (by omega)).2, sx2]
      refine r_iadd hX dX6_judge_43 (q := 44) rfl ?_
      refine r_ldc hX dX6_judge_44 (q := 46) rfl qX6_134 ?_
      first | refine r_icmpN_le hX dX6_judge_46 (q := 49) rfl (tgt := 56) (by decide) (by first | omega | decide) (by first | omega | decide) (fun h46 => ?_) (fun h46 => ?_) | refine r_icmp_le hX dX6_judge_46 (q := 49) rfl (tgt := 56) (by decide) (fun h46 => ?_) (fun h46 => ?_)
      ·
        refine r_aload0 hX dX6_judge_56 (q := 57) rfl ?_
        refine r_getR hX dX6_judge_57 (q := 60) rfl fX6_9 rfl ⟨by decide, by decide, rfl⟩ ?_
        refine r_aload0 hX dX6_judge_60 (q := 61) rfl ?_
        refine r_getR hX dX6_judge_61 (q := 64) rfl fX6_16 rfl ⟨by decide, by decide, rfl⟩ ?_
        refine r_callS hX dX6_judge_64 (q := 67) rfl (c_X6_row _ Γ _ 48 50 rfl rfl (by decide)) kX6_156 mlX6_row msX6_row rfl rfl ⟨by decide, by decide⟩ (Nat.le_of_ble_eq_true rfl) (keV ?_)
        obtain ⟨hM1, hW1, hF1⟩ := sv_ok hM
        generalize upc G 50 (rwK (G 48) (G 50) 115) = G1 at hM1 hW1 hF1 ⊢
        refine r_iconst hX dX6_judge_67 (q := 68) rfl (v := nI 0) (by decide +kernel) ?_
        refine r_istore2 hX dX6_judge_68 (q := 69) rfl rfl ?_
        have L69 : ∀ (zn69 : Nat) (k : Nat) (G2 : GG), zn69 = sx - k → (k ≤ sx) → (MR G2 (goF μ k).2) → (WS G2 μ) → (FrM G G2) → (∀ j, j < k → jgP μ N (cl x) j = false) → WP X Γ 69 [some (.ref (gad Γ 47)), some (.int x), some (.int (nI k))] [] G2 := by
          intro zn69
          induction zn69 using Nat.strongRecOn with
          | _ zn69 ih69 =>
            intro k G2 zh69 hk h2 hW hF hP
            have hVk := hV.go k (by omega)
            refine r_iload2 hX dX6_judge_69 (q := 70) rfl ?_
            refine r_aload0 hX dX6_judge_70 (q := 71) rfl ?_
            refine r_getR hX dX6_judge_71 (q := 74) rfl fX6_28 rfl ⟨by decide, by decide, rfl⟩ ?_
            refine r_iload1 hX dX6_judge_74 (q := 75) rfl ?_
            refine r_ialdN hX dX6_judge_75 (q := 76) rfl rfl xe (by omega) (by first | decide | omega) ?_
            rw [hF 54 (by decide) (by decide), (hS.1 (cl x) (by omega)).2, sx2]
            first | refine r_icmpN_ge hX dX6_judge_76 (q := 79) rfl (tgt := 107) (by decide) (by first | omega | decide) (by first | omega | decide) (fun h76 => ?_) (fun h76 => ?_) | refine r_icmp_ge hX dX6_judge_76 (q := 79) rfl (tgt := 107) (by decide) (fun h76 => ?_) (fun h76 => ?_)
            ·
              refine J107 k sx _ ?_ ?_ ?_ ?_ ?_ ?_ ?_ ?_
              ·
                exact h4
              ·
                exact fun q => h20 (q.trans nI_0)
              ·
                rw [sx2]; exact fun q => (past_r hV hb (h := 40) (by decide) (le_nI sx1 (by decide))).mp q h46
              ·
                exact sx2
              ·
                exact sx1
              ·
                exact hW
              ·
                exact hF
              ·
                exact Or.inl ⟨by omega, hP⟩
            ·
              refine r_aload0 hX dX6_judge_79 (q := 80) rfl ?_
              refine r_aload0 hX dX6_judge_80 (q := 81) rfl ?_
              refine r_callV hX dX6_judge_81 (q := 84) rfl (c_X6_served _ Γ _ (goF μ k).2 h2 (b + k) hVk (by omega)) kX6_126 mlX6_served mvX6_served rfl rfl rfl ⟨by decide, rfl⟩ ⟨by decide, by decide⟩ (Nat.le_of_ble_eq_true rfl) (keI ?_)
              refine r_callV hX dX6_judge_84 (q := 87) rfl (c_X6_meal _ Γ _ (goF μ k).2 h2 (b + k) hVk _ (servN (goF μ k).2) rfl (servN_lt hVk (by omega))) kX6_129 mlX6_meal mvX6_meal rfl rfl rfl ⟨by decide, rfl⟩ ⟨by decide, by decide⟩ (Nat.le_of_ble_eq_true rfl) (kpI (fun v84 G84 p84 => ?_))
              refine r_aload0 hX dX6_judge_87 (q := 88) rfl ?_
              refine r_getR hX dX6_judge_88 (q := 91) rfl fX6_31 rfl ⟨by decide, by decide, rfl⟩ ?_
              refine r_bipush hX dX6_judge_91 (q := 93) rfl (v := nI 40) (by decide +kernel) ?_
              refine r_iload1 hX dX6_judge_93 (q := 94) rfl ?_
              refine r_imul hX dX6_judge_94 (q := 95) rfl ?_
              refine r_iload2 hX dX6_judge_95 (q := 96) rfl ?_
              refine r_iadd hX dX6_judge_96 (q := 97) rfl ?_
              refine r_ialdN hX dX6_judge_97 (q := 98) rfl rfl (e_add (e_mul rfl xe) rfl) (by omega) (by first | decide | omega) ?_
              rw [p84.2.2 55 (by decide), hF 55 (by decide) (by decide), hS.2 _ (by omega)]
              first | refine r_icmpN_ne hX dX6_judge_98 (q := 101) rfl (tgt := 107) (by decide) (by first | omega | decide) (by first | omega | decide) (fun h98 => ?_) (fun h98 => ?_) | refine r_icmp_ne hX dX6_judge_98 (q := 101) rfl (tgt := 107) (by decide) (fun h98 => ?_) (fun h98 => ?_)
              ·
                refine J107 k sx _ ?_ ?_ ?_ ?_ ?_ ?_ ?_ ?_
                ·
                  exact h4
                ·
                  exact fun q => h20 (q.trans nI_0)
                ·
                  rw [sx2]; exact fun q => (past_r hV hb (h := 40) (by decide) (le_nI sx1 (by decide))).mp q h46
                ·
                  exact sx2
                ·
                  exact sx1
                ·
                  exact hW.n p84.2.2
                ·
                  exact hF.tr p84.2.2.M
                ·
                  exact Or.inr ⟨by omega, decide_eq_true (fun q => h98 (p84.1.trans q)), hP⟩
              ·
                refine r_iincN2 hX dX6_judge_101 (q := 104) rfl rfl ?_
                refine r_goto hX dX6_judge_104 (tgt := 69) (by decide) ?_
                refine ih69 _ ?_ (k + 1) _ rfl ?_ ?_ ?_ ?_ ?_
                ·
                  omega
                ·
                  omega
                ·
                  exact p84.2.1
                ·
                  exact hW.n p84.2.2
                ·
                  exact hF.tr p84.2.2.M
                ·
                  intro j hj
                  by_cases e : j = k
                  · subst e; exact decide_eq_false (fun q => q (p84.1.symm.trans h98))
                  · exact hP j (by omega)
        refine L69 _ 0 _ rfl ?_ ?_ ?_ ?_ ?_
        ·
          exact Nat.zero_le _
        ·
          exact hM1
        ·
          exact hW1
        ·
          exact hF1
        ·
          exact fun j hj => absurd hj (by omega)
      ·
        refine r_aload0 hX dX6_judge_49 (q := 50) rfl ?_
        refine r_ldc hX dX6_judge_50 (q := 52) rfl qX6_135 ?_
        refine r_callV hX dX6_judge_52 (q := 55) rfl (c_X6_finds _ Γ _ _ 4 (by decide) (by decide +kernel)) kX6_36 mlX6_finds mvX6_finds rfl rfl rfl ⟨by decide, rfl⟩ ⟨by decide, by decide⟩ (Nat.le_of_ble_eq_true rfl) (kpI (fun v52 G52 p52 => ?_))
        refine r_iret hX hR dX6_judge_55 ?_
        -- leaf 2 at 55
        refine ⟨_, rfl, ?_⟩
        exact MOut.fin (k := 4) ((if_pos h4).trans ((if_neg (fun q => h20 (q.trans nI_0))).trans (if_pos (by rw [sx2]; exact (past_r hV hb (h := 40) (by decide) (le_nI sx1 (by decide))).mpr h46)))) ⟨p52.1.trans (by decide +kernel), p52.2⟩ hM FrM.rf
    ·
      refine r_aload0 hX dX6_judge_23 (q := 24) rfl ?_
      refine r_ldc_w hX dX6_judge_24 (q := 27) rfl qX6_273 ?_
      refine r_callV hX dX6_judge_27 (q := 30) rfl (c_X6_finds _ Γ _ _ 5 (by decide) (by decide +kernel)) kX6_36 mlX6_finds mvX6_finds rfl rfl rfl ⟨by decide, rfl⟩ ⟨by decide, by decide⟩ (Nat.le_of_ble_eq_true rfl) (kpI (fun v27 G27 p27 => ?_))
      refine r_iret hX hR dX6_judge_30 ?_
      -- leaf 3 at 30
      refine ⟨_, rfl, ?_⟩
      exact MOut.fin (k := 5) ((if_pos h4).trans (if_pos (h20.trans nI_0.symm))) ⟨p27.1.trans (by decide +kernel), p27.2⟩ hM FrM.rf
  ·
    refine r_aload0 hX dX6_judge_7 (q := 8) rfl ?_
    refine r_ldc hX dX6_judge_8 (q := 10) rfl qX6_34 ?_
    refine r_callV hX dX6_judge_10 (q := 13) rfl (c_X6_finds _ Γ _ _ 0 (by decide) (by decide +kernel)) kX6_36 mlX6_finds mvX6_finds rfl rfl rfl ⟨by decide, rfl⟩ ⟨by decide, by decide⟩ (Nat.le_of_ble_eq_true rfl) (kpI (fun v10 G10 p10 => ?_))
    refine r_iret hX hR dX6_judge_13 ?_
    -- leaf 4 at 13
    refine ⟨_, rfl, ?_⟩
    exact MOut.fin (k := 0) (if_neg h4) ⟨p10.1.trans (by decide +kernel), p10.2⟩ hM FrM.rf

set_option maxRecDepth 100000 in
set_option maxHeartbeats 4000000 in
theorem c_X6_image (l : Launch) (Γ : Gam) (G : GG) (μ : MU) (hM : MR G μ) : Sp l yX6_image cX6_image 1 (some .int) 1 22 [.ref (gad Γ 47)] Γ G (pI (fun v G' => v = nI 1 ∧ KM G' μ ∧ MR G' μ ∧ G' 47 3 = nI 1 ∧ (∀ k, ¬ k = 3 → G' 47 k = G 47 k) ∧ ∀ c, ¬ c = 47 → ¬ c = 49 → G' c = G c)) := by
  refine Sp_of (own := RX6) rfl (by decide +kernel) rfl (Nat.le_of_ble_eq_true rfl) (fun X hX hR => ?_)
  show WP X Γ 0 [some (.ref (gad Γ 47))] [] G
  refine r_aload0 hX dX6_image_0 (q := 1) rfl ?_
  refine r_getR hX dX6_image_1 (q := 4) rfl fX6_9 rfl ⟨by decide, by decide, rfl⟩ ?_
  refine r_aload0 hX dX6_image_4 (q := 5) rfl ?_
  refine r_getR hX dX6_image_5 (q := 8) rfl fX6_13 rfl ⟨by decide, by decide, rfl⟩ ?_
  refine r_callS hX dX6_image_8 (q := 11) rfl (c_X6_row _ Γ _ 48 49 rfl rfl (by decide)) kX6_156 mlX6_row msX6_row rfl rfl ⟨by decide, by decide⟩ (Nat.le_of_ble_eq_true rfl) (keV ?_)
  refine r_aload0 hX dX6_image_11 (q := 12) rfl ?_
  refine r_iconst hX dX6_image_12 (q := 13) rfl (v := nI 1) (by decide +kernel) ?_
  refine r_put hX dX6_image_13 (q := 16) rfl fX6_282 wX6_3 (by decide +kernel) (by decide +kernel) rfl ⟨by decide, by decide, rfl⟩ ?_
  refine r_iconst hX dX6_image_16 (q := 17) rfl (v := nI 1) (by decide +kernel) ?_
  refine r_iret hX hR dX6_image_17 ?_
  -- leaf 0 at 17
  refine ⟨_, rfl, ?_⟩
  refine ⟨rfl, fun k hk => ?_, fun k hk => ?_, up_eq, fun k hk => ?_, fun c h1 h2 => ?_⟩
  · rw [up_ne (by omega)]
    simp only [upc, if_true, rwK]
    rw [if_pos hk]
    exact hM k hk
  · rw [up_ne (by omega)]
    simp only [upc]
    exact hM k hk
  · rw [up_ne (fun q => hk q.2)]
    simp only [upc]
    rfl
  · funext j
    rw [up_ne (fun q => h1 q.1)]
    simp [upc, h2]

set_option maxRecDepth 100000 in
set_option maxHeartbeats 4000000 in
theorem c_X6_undo (l : Launch) (Γ : Gam) (G : GG) (κ : MU) (h47 : G 47 3 = nI 0 ∨ (G 47 3 = nI 1 ∧ KM G κ)) : Sp l yX6_undo cX6_undo 1 (some .int) 1 22 [.ref (gad Γ 47)] Γ G (pI (fun v G' => (G 47 3 = nI 0 ∧ FOM G 3 v G') ∨ (G 47 3 = nI 1 ∧ v = κ 0 ∧ MR G' κ ∧ FrN G G'))) := by
  refine Sp_of (own := RX6) rfl (by decide +kernel) rfl (Nat.le_of_ble_eq_true rfl) (fun X hX hR => ?_)
  show WP X Γ 0 [some (.ref (gad Γ 47))] [] G
  refine r_aload0 hX dX6_undo_0 (q := 1) rfl ?_
  refine r_getI hX dX6_undo_1 (q := 4) rfl fX6_282 rfl ⟨by decide, by decide, rfl⟩ ?_
  refine r_if_ne hX dX6_undo_4 (q := 7) rfl (tgt := 14) (by decide) (fun h4 => ?_) (fun h4 => ?_)
  ·
    refine r_aload0 hX dX6_undo_14 (q := 15) rfl ?_
    refine r_getR hX dX6_undo_15 (q := 18) rfl fX6_13 rfl ⟨by decide, by decide, rfl⟩ ?_
    refine r_aload0 hX dX6_undo_18 (q := 19) rfl ?_
    refine r_getR hX dX6_undo_19 (q := 22) rfl fX6_9 rfl ⟨by decide, by decide, rfl⟩ ?_
    refine r_callS hX dX6_undo_22 (q := 25) rfl (c_X6_row _ Γ _ 49 48 rfl rfl (by decide)) kX6_156 mlX6_row msX6_row rfl rfl ⟨by decide, by decide⟩ (Nat.le_of_ble_eq_true rfl) (keV ?_)
    refine r_aload0 hX dX6_undo_25 (q := 26) rfl ?_
    refine r_getR hX dX6_undo_26 (q := 29) rfl fX6_9 rfl ⟨by decide, by decide, rfl⟩ ?_
    refine r_iconst hX dX6_undo_29 (q := 30) rfl (v := nI 0) (by decide +kernel) ?_
    refine r_ialdN hX dX6_undo_30 (q := 31) rfl rfl (by repeat' (first | assumption | with_reducible exact rfl | refine e_add ?_ ?_ | refine e_mul ?_ ?_)) (by first | assumption | omega) (by first | decide | omega) ?_
    refine r_iret hX hR dX6_undo_31 ?_
    -- leaf 0 at 31
    refine ⟨_, rfl, ?_⟩
    obtain ⟨h5, hK⟩ := h47.resolve_left (fun q => h4 (q.trans nI_0))
    have hMK : MR (upc G 48 (rwK (G 49) (G 48) 115)) κ := fun k hk => by
      simp only [upc, if_true, rwK]
      rw [if_pos hk]
      exact hK k hk
    exact Or.inr ⟨h5, hMK 0 (by decide), hMK, FrN.rf.upc⟩
  ·
    refine r_aload0 hX dX6_undo_7 (q := 8) rfl ?_
    refine r_ldc hX dX6_undo_8 (q := 10) rfl qX6_35 ?_
    refine r_callV hX dX6_undo_10 (q := 13) rfl (c_X6_finds _ Γ _ _ 3 (by decide) (by decide +kernel)) kX6_36 mlX6_finds mvX6_finds rfl rfl rfl ⟨by decide, rfl⟩ ⟨by decide, by decide⟩ (Nat.le_of_ble_eq_true rfl) (kpI (fun v10 G10 p10 => ?_))
    refine r_iret hX hR dX6_undo_13 ?_
    -- leaf 1 at 13
    refine ⟨_, rfl, ?_⟩
    exact Or.inl ⟨h4.trans nI_0.symm, p10.1.trans (by decide +kernel), p10.2⟩

set_option maxRecDepth 100000 in
set_option maxHeartbeats 4000000 in
theorem c_X6_tear (l : Launch) (Γ : Gam) (G : GG) (h47 : G 47 3 = nI 0 ∨ G 47 3 = nI 1) : Sp l yX6_tear cX6_tear 2 (some .int) 0 0 [.ref (gad Γ 47)] Γ G (pI (fun v G' => v = G 47 3 ∧ G' = up G 47 3 (nI 0))) := by
  refine Sp_of (own := RX6) rfl (by decide +kernel) rfl (Nat.le_of_ble_eq_true rfl) (fun X hX hR => ?_)
  show WP X Γ 0 [some (.ref (gad Γ 47)), none] [] G
  refine r_aload0 hX dX6_tear_0 (q := 1) rfl ?_
  refine r_getI hX dX6_tear_1 (q := 4) rfl fX6_282 rfl ⟨by decide, by decide, rfl⟩ ?_
  refine r_if_eq hX dX6_tear_4 (q := 7) rfl (tgt := 11) (by decide) (fun h4 => ?_) (fun h4 => ?_)
  ·
    refine r_iconst hX dX6_tear_11 (q := 12) rfl (v := nI 0) (by decide +kernel) ?_
    refine r_istore1 hX dX6_tear_12 (q := 13) rfl rfl ?_
    refine r_aload0 hX dX6_tear_13 (q := 14) rfl ?_
    refine r_iconst hX dX6_tear_14 (q := 15) rfl (v := nI 0) (by decide +kernel) ?_
    refine r_put hX dX6_tear_15 (q := 18) rfl fX6_282 wX6_3 (by decide +kernel) (by decide +kernel) rfl ⟨by decide, by decide, rfl⟩ ?_
    refine r_iload1 hX dX6_tear_18 (q := 19) rfl ?_
    refine r_iret hX hR dX6_tear_19 ?_
    -- leaf 0 at 19
    refine ⟨_, rfl, ?_⟩
    refine ⟨?_, rfl⟩
    first
      | exact h4.symm
      | exact (h4.trans nI_0.symm).symm
      | exact (h47.resolve_left (fun q => h4 (q.trans nI_0))).symm
  ·
    refine r_iconst hX dX6_tear_7 (q := 8) rfl (v := nI 1) (by decide +kernel) ?_
    refine r_goto hX dX6_tear_8 (tgt := 12) (by decide) ?_
    refine r_istore1 hX dX6_tear_12 (q := 13) rfl rfl ?_
    refine r_aload0 hX dX6_tear_13 (q := 14) rfl ?_
    refine r_iconst hX dX6_tear_14 (q := 15) rfl (v := nI 0) (by decide +kernel) ?_
    refine r_put hX dX6_tear_15 (q := 18) rfl fX6_282 wX6_3 (by decide +kernel) (by decide +kernel) rfl ⟨by decide, by decide, rfl⟩ ?_
    refine r_iload1 hX dX6_tear_18 (q := 19) rfl ?_
    refine r_iret hX hR dX6_tear_19 ?_
    -- leaf 1 at 19
    refine ⟨_, rfl, ?_⟩
    refine ⟨?_, rfl⟩
    first
      | exact h4.symm
      | exact (h4.trans nI_0.symm).symm
      | exact (h47.resolve_left (fun q => h4 (q.trans nI_0))).symm

set_option maxRecDepth 100000 in
set_option maxHeartbeats 4000000 in
theorem c_X6_count (l : Launch) (Γ : Gam) (G : GG) (μ : MU) (hM : MR G μ) (x : Int32) : Sp l yX6_count cX6_count 4 (some .int) 3 64 [.ref (gad Γ 47), .int x] Γ G (pI (fun v G' => MOut G μ (oCount μ (G 47 6) x) v G')) := by
  refine Sp_of (own := RX6) rfl (by decide +kernel) rfl (Nat.le_of_ble_eq_true rfl) (fun X hX hR => ?_)
  show WP X Γ 0 [some (.ref (gad Γ 47)), some (.int x), none, none] [] G
  refine r_iconst hX dX6_count_0 (q := 1) rfl (v := nI 0) (by decide +kernel) ?_
  refine r_istore2 hX dX6_count_1 (q := 2) rfl rfl ?_
  refine r_iload1 hX dX6_count_2 (q := 3) rfl ?_
  refine r_tabCase hX dX6_count_3 0 ⟨by decide, by decide, by decide, rfl, (by decide : (3 : Int) + 37 = (40 : Nat))⟩ (fun h3_0 => ?_) (fun h3_0 => ?_)
  ·
    refine r_aload0 hX dX6_count_40 (q := 41) rfl ?_
    refine r_getR hX dX6_count_41 (q := 44) rfl fX6_9 rfl ⟨by decide, by decide, rfl⟩ ?_
    refine r_bipush hX dX6_count_44 (q := 46) rfl (v := nI 8) (by decide +kernel) ?_
    refine r_ialdN hX dX6_count_46 (q := 47) rfl rfl (by repeat' (first | assumption | with_reducible exact rfl | refine e_add ?_ ?_ | refine e_mul ?_ ?_)) (by first | assumption | omega) (by first | decide | omega) ?_
    rw [hM 8 (by decide)]
    refine r_iret hX hR dX6_count_47 ?_
    -- leaf 0 at 47
    refine ⟨_, rfl, ?_⟩
    have e0 := h3_0
    subst e0
    exact MOut.ok (w := μ 8) (μ' := μ) (by unfold oCount; rw [if_pos ⟨by decide +kernel, by decide +kernel⟩, if_pos rfl]) (rfl) hM FrM.rf
  refine r_tabCase hX dX6_count_3 1 ⟨by decide, by decide, by decide, rfl, (by decide : (3 : Int) + 45 = (48 : Nat))⟩ (fun h3_1 => ?_) (fun h3_1 => ?_)
  ·
    refine r_aload0 hX dX6_count_48 (q := 49) rfl ?_
    refine r_callV hX dX6_count_49 (q := 52) rfl (c_X6_manyLiked _ Γ _ μ hM) kX6_163 mlX6_manyLiked mvX6_manyLiked rfl rfl rfl ⟨by decide, rfl⟩ ⟨by decide, by decide⟩ (Nat.le_of_ble_eq_true rfl) (keI ?_)
    refine r_iret hX hR dX6_count_52 ?_
    -- leaf 1 at 52
    refine ⟨_, rfl, ?_⟩
    have e0 := h3_1
    subst e0
    exact MOut.ok (w := mnF μ 10) (μ' := μ) (by unfold oCount; rw [if_pos ⟨by decide +kernel, by decide +kernel⟩, if_neg (by decide +kernel), if_pos rfl]) (rfl) hM FrM.rf
  refine r_tabCase hX dX6_count_3 2 ⟨by decide, by decide, by decide, rfl, (by decide : (3 : Int) + 50 = (53 : Nat))⟩ (fun h3_2 => ?_) (fun h3_2 => ?_)
  ·
    refine r_iconst hX dX6_count_53 (q := 54) rfl (v := nI 0) (by decide +kernel) ?_
    refine r_istore3 hX dX6_count_54 (q := 55) rfl rfl ?_
    have L55 : ∀ (zn55 : Nat) (k : Nat) (e : Int32), zn55 = 10 - k → (k ≤ 10) → (e = trF μ k) → WP X Γ 55 [some (.ref (gad Γ 47)), some (.int x), some (.int e), some (.int (nI k))] [] G := by
      intro zn55
      induction zn55 using Nat.strongRecOn with
      | _ zn55 ih55 =>
        intro k e zh55 hk he
        refine r_iload3 hX dX6_count_55 (q := 56) rfl ?_
        refine r_bipush hX dX6_count_56 (q := 58) rfl (v := nI 10) (by decide +kernel) ?_
        refine r_icmpN_ge hX dX6_count_58 (q := 61) rfl (tgt := 83) (by decide) (by first | omega | decide) (by first | omega | decide) (fun h58 => ?_) (fun h58 => ?_)
        ·
          refine r_iload2 hX dX6_count_83 (q := 84) rfl ?_
          refine r_iret hX hR dX6_count_84 ?_
          -- leaf 2 at 84
          refine ⟨_, rfl, ?_⟩
          have e0 := h3_2
          subst e0
          exact MOut.ok (w := trF μ 10) (μ' := μ) (by unfold oCount; rw [if_pos ⟨by decide +kernel, by decide +kernel⟩, if_neg (by decide +kernel), if_neg (by decide +kernel), if_pos rfl]) (by rw [he, show k = 10 by omega]) hM FrM.rf
        ·
          refine r_iload2 hX dX6_count_61 (q := 62) rfl ?_
          refine r_aload0 hX dX6_count_62 (q := 63) rfl ?_
          refine r_getR hX dX6_count_63 (q := 66) rfl fX6_9 rfl ⟨by decide, by decide, rfl⟩ ?_
          refine r_bipush hX dX6_count_66 (q := 68) rfl (v := nI 10) (by decide +kernel) ?_
          refine r_iconst hX dX6_count_68 (q := 69) rfl (v := nI 3) (by decide +kernel) ?_
          refine r_iload3 hX dX6_count_69 (q := 70) rfl ?_
          refine r_imul hX dX6_count_70 (q := 71) rfl ?_
          refine r_iadd hX dX6_count_71 (q := 72) rfl ?_
          refine r_iconst hX dX6_count_72 (q := 73) rfl (v := nI 2) (by decide +kernel) ?_
          refine r_iadd hX dX6_count_73 (q := 74) rfl ?_
          refine r_ialdN hX dX6_count_74 (q := 75) rfl rfl (e_add (e_add rfl (e_mul rfl rfl)) rfl) (by omega) (by first | decide | omega) ?_
          rw [hM _ (by omega), show 10 + 3 * k + 2 = 12 + 3 * k by omega]
          refine r_iadd hX dX6_count_75 (q := 76) rfl ?_
          refine r_istore2 hX dX6_count_76 (q := 77) rfl rfl ?_
          refine r_iincN3 hX dX6_count_77 (q := 80) rfl rfl ?_
          refine r_goto hX dX6_count_80 (tgt := 55) (by decide) ?_
          refine ih55 _ ?_ (k + 1) _ rfl ?_ ?_
          ·
            omega
          ·
            omega
          ·
            rw [he]; rfl
    refine L55 _ 0 _ rfl ?_ ?_
    ·
      exact Nat.zero_le _
    ·
      rfl
  refine r_tabCase hX dX6_count_3 3 ⟨by decide, by decide, by decide, rfl, (by decide : (3 : Int) + 82 = (85 : Nat))⟩ (fun h3_3 => ?_) (fun h3_3 => ?_)
  ·
    refine r_aload0 hX dX6_count_85 (q := 86) rfl ?_
    refine r_getI hX dX6_count_86 (q := 89) rfl fX6_173 rfl ⟨by decide, by decide, rfl⟩ ?_
    refine r_iret hX hR dX6_count_89 ?_
    -- leaf 3 at 89
    refine ⟨_, rfl, ?_⟩
    have e0 := h3_3
    subst e0
    exact MOut.ok (w := G 47 6) (μ' := μ) (by unfold oCount; rw [if_pos ⟨by decide +kernel, by decide +kernel⟩, if_neg (by decide +kernel), if_neg (by decide +kernel), if_neg (by decide +kernel), if_pos rfl]) (rfl) hM FrM.rf
  refine r_tabCase hX dX6_count_3 4 ⟨by decide, by decide, by decide, rfl, (by decide : (3 : Int) + 87 = (90 : Nat))⟩ (fun h3_4 => ?_) (fun h3_4 => ?_)
  ·
    refine r_aload0 hX dX6_count_90 (q := 91) rfl ?_
    refine r_getR hX dX6_count_91 (q := 94) rfl fX6_9 rfl ⟨by decide, by decide, rfl⟩ ?_
    refine r_iconst hX dX6_count_94 (q := 95) rfl (v := nI 1) (by decide +kernel) ?_
    refine r_ialdN hX dX6_count_95 (q := 96) rfl rfl (by repeat' (first | assumption | with_reducible exact rfl | refine e_add ?_ ?_ | refine e_mul ?_ ?_)) (by first | assumption | omega) (by first | decide | omega) ?_
    rw [hM 1 (by decide)]
    refine r_iret hX hR dX6_count_96 ?_
    -- leaf 4 at 96
    refine ⟨_, rfl, ?_⟩
    have e0 := h3_4
    subst e0
    exact MOut.ok (w := μ 1) (μ' := μ) (by unfold oCount; rw [if_pos ⟨by decide +kernel, by decide +kernel⟩, if_neg (by decide +kernel), if_neg (by decide +kernel), if_neg (by decide +kernel), if_neg (by decide +kernel), if_pos rfl]) (rfl) hM FrM.rf
  refine r_tabCase hX dX6_count_3 5 ⟨by decide, by decide, by decide, rfl, (by decide : (3 : Int) + 94 = (97 : Nat))⟩ (fun h3_5 => ?_) (fun h3_5 => ?_)
  ·
    refine r_iconst hX dX6_count_97 (q := 98) rfl (v := nI 0) (by decide +kernel) ?_
    refine r_istore3 hX dX6_count_98 (q := 99) rfl rfl ?_
    have L99 : ∀ (zn99 : Nat) (k : Nat) (e : Int32), zn99 = 10 - k → (k ≤ 10) → (e = spF μ k) → WP X Γ 99 [some (.ref (gad Γ 47)), some (.int x), some (.int e), some (.int (nI k))] [] G := by
      intro zn99
      induction zn99 using Nat.strongRecOn with
      | _ zn99 ih99 =>
        intro k e zh99 hk he
        refine r_iload3 hX dX6_count_99 (q := 100) rfl ?_
        refine r_bipush hX dX6_count_100 (q := 102) rfl (v := nI 10) (by decide +kernel) ?_
        refine r_icmpN_ge hX dX6_count_102 (q := 105) rfl (tgt := 131) (by decide) (by first | omega | decide) (by first | omega | decide) (fun h102 => ?_) (fun h102 => ?_)
        ·
          refine r_iload2 hX dX6_count_131 (q := 132) rfl ?_
          refine r_iret hX hR dX6_count_132 ?_
          -- leaf 5 at 132
          refine ⟨_, rfl, ?_⟩
          have e0 := h3_5
          subst e0
          exact MOut.ok (w := spF μ 10) (μ' := μ) (by unfold oCount; rw [if_pos ⟨by decide +kernel, by decide +kernel⟩, if_neg (by decide +kernel), if_neg (by decide +kernel), if_neg (by decide +kernel), if_neg (by decide +kernel), if_neg (by decide +kernel)]) (by rw [he, show k = 10 by omega]) hM FrM.rf
        ·
          refine r_iload2 hX dX6_count_105 (q := 106) rfl ?_
          refine r_aload0 hX dX6_count_106 (q := 107) rfl ?_
          refine r_getR hX dX6_count_107 (q := 110) rfl fX6_9 rfl ⟨by decide, by decide, rfl⟩ ?_
          refine r_bipush hX dX6_count_110 (q := 112) rfl (v := nI 70) (by decide +kernel) ?_
          refine r_iload3 hX dX6_count_112 (q := 113) rfl ?_
          refine r_iadd hX dX6_count_113 (q := 114) rfl ?_
          refine r_ialdN hX dX6_count_114 (q := 115) rfl rfl (nI_add 70 k) (by omega) (by first | decide | omega) ?_
          rw [hM _ (by omega)]
          refine r_if_ge hX dX6_count_115 (q := 118) rfl (tgt := 122) (by decide) (fun h115 => ?_) (fun h115 => ?_)
          ·
            refine r_iconst hX dX6_count_122 (q := 123) rfl (v := nI 1) (by decide +kernel) ?_
            refine r_iadd hX dX6_count_123 (q := 124) rfl ?_
            refine r_istore2 hX dX6_count_124 (q := 125) rfl rfl ?_
            refine r_iincN3 hX dX6_count_125 (q := 128) rfl rfl ?_
            refine r_goto hX dX6_count_128 (tgt := 99) (by decide) ?_
            refine ih99 _ ?_ (k + 1) _ rfl ?_ ?_
            ·
              omega
            ·
              omega
            ·
              rw [he]
              first
                | exact (if_neg (by rw [nI_0]; exact Int32.not_lt.mpr h115)).symm
                | (rw [nI_0, Int32.add_zero]; exact (if_pos (by rw [nI_0]; exact Int32.not_le.mp h115)).symm)
          ·
            refine r_iconst hX dX6_count_118 (q := 119) rfl (v := nI 0) (by decide +kernel) ?_
            refine r_goto hX dX6_count_119 (tgt := 123) (by decide) ?_
            refine r_iadd hX dX6_count_123 (q := 124) rfl ?_
            refine r_istore2 hX dX6_count_124 (q := 125) rfl rfl ?_
            refine r_iincN3 hX dX6_count_125 (q := 128) rfl rfl ?_
            refine r_goto hX dX6_count_128 (tgt := 99) (by decide) ?_
            refine ih99 _ ?_ (k + 1) _ rfl ?_ ?_
            ·
              omega
            ·
              omega
            ·
              rw [he]
              first
                | exact (if_neg (by rw [nI_0]; exact Int32.not_lt.mpr h115)).symm
                | (rw [nI_0, Int32.add_zero]; exact (if_pos (by rw [nI_0]; exact Int32.not_le.mp h115)).symm)
    refine L99 _ 0 _ rfl ?_ ?_
    ·
      exact Nat.zero_le _
    ·
      rfl
  refine r_tabOut hX dX6_count_3 (by have z0 := nI_neT h3_0 (by decide); have z1 := nI_neT h3_1 (by decide); have z2 := nI_neT h3_2 (by decide); have z3 := nI_neT h3_3 (by decide); have z4 := nI_neT h3_4 (by decide); have z5 := nI_neT h3_5 (by decide); omega) (tgt := 133) (by decide) ?_
  refine r_aload0 hX dX6_count_133 (q := 134) rfl ?_
  refine r_ldc hX dX6_count_134 (q := 136) rfl qX6_34 ?_
  refine r_callV hX dX6_count_136 (q := 139) rfl (c_X6_finds _ Γ _ _ 0 (by decide) (by decide +kernel)) kX6_36 mlX6_finds mvX6_finds rfl rfl rfl ⟨by decide, rfl⟩ ⟨by decide, by decide⟩ (Nat.le_of_ble_eq_true rfl) (kpI (fun v136 G136 p136 => ?_))
  refine r_iret hX hR dX6_count_139 ?_
  -- leaf 6 at 139
  refine ⟨_, rfl, ?_⟩
  exact MOut.fin (k := 0) (if_neg (notin (by decide) (fun j hj => by
    rcases (show j = 0 ∨ j = 1 ∨ j = 2 ∨ j = 3 ∨ j = 4 ∨ j = 5 by omega) with rfl | rfl | rfl | rfl | rfl | rfl
    · exact h3_0
    · exact h3_1
    · exact h3_2
    · exact h3_3
    · exact h3_4
    · exact h3_5))) ⟨p136.1.trans (by decide +kernel), p136.2⟩ hM FrM.rf

set_option maxRecDepth 100000 in
set_option maxHeartbeats 4000000 in
theorem c_X6_status (l : Launch) (Γ : Gam) (G : GG) (x : Int32) : Sp l yX6_status cX6_status 4 (some .int) 1 25 [.ref (gad Γ 47), .int x] Γ G (pI (fun v G' => (¬ ((-1) ≤ x ∧ x ≤ nI 6) ∧ FOM G 0 v G') ∨ (((-1) ≤ x ∧ x ≤ nI 6) ∧ G' = G ∧ v = if x < nI 0 then stF (G 51) 7 else G 51 (cl x)))) := by
  refine Sp_of (own := RX6) rfl (by decide +kernel) rfl (Nat.le_of_ble_eq_true rfl) (fun X hX hR => ?_)
  show WP X Γ 0 [some (.ref (gad Γ 47)), some (.int x), none, none] [] G
  refine r_iload1 hX dX6_status_0 (q := 1) rfl ?_
  refine r_i2l hX dX6_status_1 (q := 2) rfl ?_
  refine r_ldc2 hX dX6_status_2 (q := 5) rfl qX6_285 ?_
  refine r_ldc2 hX dX6_status_5 (q := 8) rfl qX6_46 ?_
  refine r_callS hX dX6_status_8 (q := 11) rfl (c_X6_in _ Γ _ _ _ _) kX6_42 mlX6_in msX6_in rfl rfl ⟨by decide, by decide⟩ (Nat.le_of_ble_eq_true rfl) (keB ?_)
  first | with_reducible refine r_ifd_ne hX dX6_status_11 (q := 14) rfl (tgt := 21) (by decide) (fun h11 => ?_) (fun h11 => ?_) | refine r_ifb_ne hX dX6_status_11 (q := 14) rfl (tgt := 21) (by decide) (fun h11 => ?_) (fun h11 => ?_)
  ·
    have hxx : ¬ x < nI 0 → cl x ≤ 6 ∧ x = nI (cl x) := fun q => ix_of (by decide) ⟨Int32.not_lt.mp q, h11.2⟩
    refine r_iconst hX dX6_status_21 (q := 22) rfl (v := nI 0) (by decide +kernel) ?_
    refine r_istore2 hX dX6_status_22 (q := 23) rfl rfl ?_
    refine r_iconst hX dX6_status_23 (q := 24) rfl (v := nI 0) (by decide +kernel) ?_
    refine r_istore3 hX dX6_status_24 (q := 25) rfl rfl ?_
    have L25 : ∀ (zn25 : Nat) (k : Nat) (e : Int32), zn25 = 7 - k → (k ≤ 7) → (e = if x < nI 0 then stF (G 51) k else if cl x < k then G 51 (cl x) else nI 0) → WP X Γ 25 [some (.ref (gad Γ 47)), some (.int x), some (.int e), some (.int (nI k))] [] G := by
      intro zn25
      induction zn25 using Nat.strongRecOn with
      | _ zn25 ih25 =>
        intro k e zh25 hk he
        refine r_iload3 hX dX6_status_25 (q := 26) rfl ?_
        refine r_bipush hX dX6_status_26 (q := 28) rfl (v := nI 7) (by decide +kernel) ?_
        refine r_icmpN_ge hX dX6_status_28 (q := 31) rfl (tgt := 59) (by decide) (by first | omega | decide) (by first | omega | decide) (fun h28 => ?_) (fun h28 => ?_)
        ·
          refine r_iload2 hX dX6_status_59 (q := 60) rfl ?_
          refine r_iret hX hR dX6_status_60 ?_
          -- leaf 0 at 60
          refine ⟨_, rfl, ?_⟩
          have e1 : k = 7 := by omega
          subst e1
          refine Or.inr ⟨h11, rfl, he.trans ?_⟩
          by_cases q : x < nI 0
          · rw [if_pos q, if_pos q]
          · rw [if_neg q, if_neg q, if_pos (by have := (hxx q).1; omega)]
        ·
          refine r_iload2 hX dX6_status_31 (q := 32) rfl ?_
          refine r_iload1 hX dX6_status_32 (q := 33) rfl ?_
          refine r_if_lt hX dX6_status_33 (q := 36) rfl (tgt := 41) (by decide) (fun h33 => ?_) (fun h33 => ?_)
          ·
            refine r_aload0 hX dX6_status_41 (q := 42) rfl ?_
            refine r_getR hX dX6_status_42 (q := 45) rfl fX6_19 rfl ⟨by decide, by decide, rfl⟩ ?_
            refine r_iload3 hX dX6_status_45 (q := 46) rfl ?_
            refine r_ialdN hX dX6_status_46 (q := 47) rfl rfl rfl (by omega) (by first | decide | omega) ?_
            refine r_goto hX dX6_status_47 (tgt := 51) (by decide) ?_
            refine r_iadd hX dX6_status_51 (q := 52) rfl ?_
            refine r_istore2 hX dX6_status_52 (q := 53) rfl rfl ?_
            refine r_iincN3 hX dX6_status_53 (q := 56) rfl rfl ?_
            refine r_goto hX dX6_status_56 (tgt := 25) (by decide) ?_
            refine ih25 _ ?_ (k + 1) _ rfl ?_ ?_
            ·
              omega
            ·
              omega
            ·
              rw [he]
              first
                | (have hl : x < nI 0 := by rw [nI_0]; exact h33
                   rw [if_pos hl, if_pos hl]; rfl)
                | (have hl : ¬ x < nI 0 := by rw [nI_0]; exact h33
                   rw [if_neg hl, if_neg hl]
                   first
                     | (have ek : cl x = k := by rw [h38]; exact cl_nI (by omega)
                        rw [if_neg (by omega), if_pos (by omega), ek, nI_0, Int32.zero_add])
                     | (have ek : ¬ cl x = k := fun q => h38 (by rw [← q]; exact xe)
                        rw [nI_0, Int32.add_zero]
                        by_cases q : cl x < k
                        · rw [if_pos q, if_pos (by omega)]
                        · rw [if_neg q, if_neg (by omega)]))
          ·
            obtain ⟨xl, xe⟩ := hxx (by rw [nI_0]; exact h33)
            refine r_iload1 hX dX6_status_36 (q := 37) rfl ?_
            refine r_iload3 hX dX6_status_37 (q := 38) rfl ?_
            first | refine r_icmpN_ne hX dX6_status_38 (q := 41) rfl (tgt := 50) (by decide) (by first | omega | decide) (by first | omega | decide) (fun h38 => ?_) (fun h38 => ?_) | refine r_icmp_ne hX dX6_status_38 (q := 41) rfl (tgt := 50) (by decide) (fun h38 => ?_) (fun h38 => ?_)
            ·
              refine r_iconst hX dX6_status_50 (q := 51) rfl (v := nI 0) (by decide +kernel) ?_
              refine r_iadd hX dX6_status_51 (q := 52) rfl ?_
              refine r_istore2 hX dX6_status_52 (q := 53) rfl rfl ?_
              refine r_iincN3 hX dX6_status_53 (q := 56) rfl rfl ?_
              refine r_goto hX dX6_status_56 (tgt := 25) (by decide) ?_
              refine ih25 _ ?_ (k + 1) _ rfl ?_ ?_
              ·
                omega
              ·
                omega
              ·
                rw [he]
                first
                  | (have hl : x < nI 0 := by rw [nI_0]; exact h33
                     rw [if_pos hl, if_pos hl]; rfl)
                  | (have hl : ¬ x < nI 0 := by rw [nI_0]; exact h33
                     rw [if_neg hl, if_neg hl]
                     first
                       | (have ek : cl x = k := by rw [h38]; exact cl_nI (by omega)
                          rw [if_neg (by omega), if_pos (by omega), ek, nI_0, Int32.zero_add])
                       | (have ek : ¬ cl x = k := fun q => h38 (by rw [← q]; exact xe)
                          rw [nI_0, Int32.add_zero]
                          by_cases q : cl x < k
                          · rw [if_pos q, if_pos (by omega)]
                          · rw [if_neg q, if_neg (by omega)]))
            ·
              refine r_aload0 hX dX6_status_41 (q := 42) rfl ?_
              refine r_getR hX dX6_status_42 (q := 45) rfl fX6_19 rfl ⟨by decide, by decide, rfl⟩ ?_
              refine r_iload3 hX dX6_status_45 (q := 46) rfl ?_
              refine r_ialdN hX dX6_status_46 (q := 47) rfl rfl rfl (by omega) (by first | decide | omega) ?_
              refine r_goto hX dX6_status_47 (tgt := 51) (by decide) ?_
              refine r_iadd hX dX6_status_51 (q := 52) rfl ?_
              refine r_istore2 hX dX6_status_52 (q := 53) rfl rfl ?_
              refine r_iincN3 hX dX6_status_53 (q := 56) rfl rfl ?_
              refine r_goto hX dX6_status_56 (tgt := 25) (by decide) ?_
              refine ih25 _ ?_ (k + 1) _ rfl ?_ ?_
              ·
                omega
              ·
                omega
              ·
                rw [he]
                first
                  | (have hl : x < nI 0 := by rw [nI_0]; exact h33
                     rw [if_pos hl, if_pos hl]; rfl)
                  | (have hl : ¬ x < nI 0 := by rw [nI_0]; exact h33
                     rw [if_neg hl, if_neg hl]
                     first
                       | (have ek : cl x = k := by rw [h38]; exact cl_nI (by omega)
                          rw [if_neg (by omega), if_pos (by omega), ek, nI_0, Int32.zero_add])
                       | (have ek : ¬ cl x = k := fun q => h38 (by rw [← q]; exact xe)
                          rw [nI_0, Int32.add_zero]
                          by_cases q : cl x < k
                          · rw [if_pos q, if_pos (by omega)]
                          · rw [if_neg q, if_neg (by omega)]))
    refine L25 _ 0 _ rfl ?_ ?_
    ·
      exact Nat.zero_le _
    ·
      rw [if_neg (Nat.not_lt_zero _)]; split <;> rfl
  ·
    refine r_aload0 hX dX6_status_14 (q := 15) rfl ?_
    refine r_ldc hX dX6_status_15 (q := 17) rfl qX6_34 ?_
    refine r_callV hX dX6_status_17 (q := 20) rfl (c_X6_finds _ Γ _ _ 0 (by decide) (by decide +kernel)) kX6_36 mlX6_finds mvX6_finds rfl rfl rfl ⟨by decide, rfl⟩ ⟨by decide, by decide⟩ (Nat.le_of_ble_eq_true rfl) (kpI (fun v17 G17 p17 => ?_))
    refine r_iret hX hR dX6_status_20 ?_
    -- leaf 1 at 20
    refine ⟨_, rfl, ?_⟩
    exact Or.inl ⟨h11, p17.1.trans (by decide +kernel), p17.2⟩

set_option maxRecDepth 100000 in
set_option maxHeartbeats 4000000 in
theorem c_X6_wipe (l : Launch) (Γ : Gam) (G : GG)  : Sp l yX6_wipe cX6_wipe 2 (some .int) 0 0 [.ref (gad Γ 47)] Γ G (eI (up G 47 6 (nI 0)) (G 47 6)) := by
  refine Sp_of (own := RX6) rfl (by decide +kernel) rfl (Nat.le_of_ble_eq_true rfl) (fun X hX hR => ?_)
  show WP X Γ 0 [some (.ref (gad Γ 47)), none] [] G
  refine r_aload0 hX dX6_wipe_0 (q := 1) rfl ?_
  refine r_getI hX dX6_wipe_1 (q := 4) rfl fX6_173 rfl ⟨by decide, by decide, rfl⟩ ?_
  refine r_istore1 hX dX6_wipe_4 (q := 5) rfl rfl ?_
  refine r_aload0 hX dX6_wipe_5 (q := 6) rfl ?_
  refine r_iconst hX dX6_wipe_6 (q := 7) rfl (v := nI 0) (by decide +kernel) ?_
  refine r_put hX dX6_wipe_7 (q := 10) rfl fX6_173 wX6_6 rfl rfl rfl ⟨by decide, by decide, rfl⟩ ?_
  refine r_iload1 hX dX6_wipe_10 (q := 11) rfl ?_
  refine r_iret hX hR dX6_wipe_11 ?_
  -- leaf 0 at 11
  refine ⟨congrArg (fun z => some (Value.int z)) ?_, ?_⟩
  ·
    rfl
  · rfl

set_option maxRecDepth 100000 in
set_option maxHeartbeats 4000000 in
theorem c_X6_feed (l : Launch) (Γ : Gam) (G : GG) (x y : Int32) (m : Nat) (hm : G 47 6 = nI m) (hm1 : m ≤ 120) : Sp l yX6_feed cX6_feed 4 (some .int) 1 25 [.ref (gad Γ 47), .int x, .int y] Γ G (pI (fun v G' => (¬ (nI 1 ≤ y ∧ y ≤ nI 4) ∧ FOM G 0 v G') ∨ ((nI 1 ≤ y ∧ y ≤ nI 4) ∧ 120 < m + cl y ∧ FOM G 1 v G') ∨ ((nI 1 ≤ y ∧ y ≤ nI 4) ∧ m + cl y ≤ 120 ∧ v = nI (m + cl y) ∧ G' = up (upc G 52 (fdT (G 52) m x (cl y) (cl y))) 47 6 (nI (m + cl y))))) := by
  refine Sp_of (own := RX6) rfl (by decide +kernel) rfl (Nat.le_of_ble_eq_true rfl) (fun X hX hR => ?_)
  show WP X Γ 0 [some (.ref (gad Γ 47)), some (.int x), some (.int y), none] [] G
  refine r_iload2 hX dX6_feed_0 (q := 1) rfl ?_
  refine r_i2l hX dX6_feed_1 (q := 2) rfl ?_
  refine r_lconst hX dX6_feed_2 (q := 3) rfl (v := (nI 1).toInt64) (by decide +kernel) ?_
  refine r_ldc2 hX dX6_feed_3 (q := 6) rfl qX6_102 ?_
  refine r_callS hX dX6_feed_6 (q := 9) rfl (c_X6_in _ Γ _ _ _ _) kX6_42 mlX6_in msX6_in rfl rfl ⟨by decide, by decide⟩ (Nat.le_of_ble_eq_true rfl) (keB ?_)
  first | with_reducible refine r_ifd_ne hX dX6_feed_9 (q := 12) rfl (tgt := 19) (by decide) (fun h9 => ?_) (fun h9 => ?_) | refine r_ifb_ne hX dX6_feed_9 (q := 12) rfl (tgt := 19) (by decide) (fun h9 => ?_) (fun h9 => ?_)
  ·
    obtain ⟨y0, y1, ye⟩ := ix1_of (by decide) (by decide) h9
    refine r_aload0 hX dX6_feed_19 (q := 20) rfl ?_
    refine r_getI hX dX6_feed_20 (q := 23) rfl fX6_173 rfl ⟨by decide, by decide, rfl⟩ ?_
    rw [hm]
    refine r_iload2 hX dX6_feed_23 (q := 24) rfl ?_
    refine r_iadd hX dX6_feed_24 (q := 25) rfl ?_
    rw [ye, nI_add]
    refine r_bipush hX dX6_feed_25 (q := 27) rfl (v := nI 120) (by decide +kernel) ?_
    first | refine r_icmpN_le hX dX6_feed_27 (q := 30) rfl (tgt := 37) (by decide) (by first | omega | decide) (by first | omega | decide) (fun h27 => ?_) (fun h27 => ?_) | refine r_icmp_le hX dX6_feed_27 (q := 30) rfl (tgt := 37) (by decide) (fun h27 => ?_) (fun h27 => ?_)
    ·
      refine r_iload2 hX dX6_feed_37 (q := 38) rfl ?_
      refine r_iconst hX dX6_feed_38 (q := 39) rfl (v := nI 1) (by decide +kernel) ?_
      refine r_isub hX dX6_feed_39 (q := 40) rfl ?_
      refine r_istore3 hX dX6_feed_40 (q := 41) rfl rfl ?_
      have L41 : ∀ (zn41 : Nat) (k : Nat) (G1 : GG), zn41 = cl y - k → (k ≤ cl y) → (G1 = up (upc G 52 (fdT (G 52) m x (cl y) k)) 47 6 (nI (m + k))) → WP X Γ 41 [some (.ref (gad Γ 47)), some (.int x), some (.int (nI (cl y))), some (.int (nI (cl y - k) - nI 1))] [] G1 := by
        intro zn41
        induction zn41 using Nat.strongRecOn with
        | _ zn41 ih41 =>
          intro k G1 zh41 hk hG
          refine r_iload3 hX dX6_feed_41 (q := 42) rfl ?_
          refine r_if_lt hX dX6_feed_42 (q := 45) rfl (tgt := 80) (by decide) (fun h42 => ?_) (fun h42 => ?_)
          ·
            refine r_aload0 hX dX6_feed_80 (q := 81) rfl ?_
            refine r_getI hX dX6_feed_81 (q := 84) rfl fX6_173 rfl ⟨by decide, by decide, rfl⟩ ?_
            refine r_iret hX hR dX6_feed_84 ?_
            -- leaf 0 at 84
            refine ⟨_, rfl, ?_⟩
            have hkk : k = cl y := by
              rcases Nat.lt_or_ge k (cl y) with q | q
              · rw [pk_sub (show 1 ≤ cl y - k by omega)] at h42
                exact absurd h42 (nI_pos (by omega))
              · omega
            subst hkk
            exact Or.inr (Or.inr ⟨h9, by omega, by rw [hG]; exact up_eq, hG⟩)
          ·
            have hkk : k < cl y := by
              rcases Nat.lt_or_ge k (cl y) with q | q
              · exact q
              · rw [show cl y - k = 0 by omega] at h42
                exact absurd (show nI 0 - nI 1 < 0 by decide +kernel) h42
            have hG6 : G1 47 6 = nI (m + k) := by rw [hG]; exact up_eq
            rw [pk_sub (show 1 ≤ cl y - k by omega)]
            refine r_aload0 hX dX6_feed_45 (q := 46) rfl ?_
            refine r_getR hX dX6_feed_46 (q := 49) rfl fX6_22 rfl ⟨by decide, by decide, rfl⟩ ?_
            refine r_aload0 hX dX6_feed_49 (q := 50) rfl ?_
            refine r_getI hX dX6_feed_50 (q := 53) rfl fX6_173 rfl ⟨by decide, by decide, rfl⟩ ?_
            rw [hG6]
            refine r_iload1 hX dX6_feed_53 (q := 54) rfl ?_
            refine r_bipush hX dX6_feed_54 (q := 56) rfl (v := nI 8) (by decide +kernel) ?_
            refine r_iload3 hX dX6_feed_56 (q := 57) rfl ?_
            refine r_imul hX dX6_feed_57 (q := 58) rfl ?_
            refine r_ishr hX dX6_feed_58 (q := 59) rfl ?_
            refine r_sipush hX dX6_feed_59 (q := 62) rfl (v := nI 255) (by decide +kernel) ?_
            refine r_iand hX dX6_feed_62 (q := 63) rfl ?_
            refine r_iastN hX dX6_feed_63 (q := 64) rfl rfl rfl (by omega) (by first | decide | omega) ?_
            refine r_aload0 hX dX6_feed_64 (q := 65) rfl ?_
            refine r_dup hX dX6_feed_65 (q := 66) rfl rfl ?_
            refine r_getI hX dX6_feed_66 (q := 69) rfl fX6_173 rfl ⟨by decide, by decide, rfl⟩ ?_
            rw [up_ne (by omega), hG6]
            refine r_iconst hX dX6_feed_69 (q := 70) rfl (v := nI 1) (by decide +kernel) ?_
            refine r_iadd hX dX6_feed_70 (q := 71) rfl ?_
            refine r_put hX dX6_feed_71 (q := 74) rfl fX6_173 wX6_6 rfl rfl rfl ⟨by decide, by decide, rfl⟩ ?_
            refine r_iinc3 hX dX6_feed_74 (q := 77) (v := nI (cl y - (k + 1)) - nI 1) rfl rfl (by rw [Nat.sub_sub, Int32.sub_eq_add_neg]; rfl) ?_
            refine r_goto hX dX6_feed_77 (tgt := 41) (by decide) ?_
            refine ih41 _ ?_ (k + 1) _ rfl ?_ ?_
            ·
              omega
            ·
              omega
            ·
              rw [hG, up_upcG (by decide), by_r x (by omega), show cl y - k - 1 = cl y - 1 - k by omega, fdT_s, nI_add] <;> rfl
      refine L41 _ 0 _ rfl ?_ ?_
      ·
        exact Nat.zero_le _
      ·
        have e1 : fdT (G 52) m x (cl y) 0 = G 52 := by funext j; unfold fdT; rw [if_neg (by omega)]
        rw [e1]
        funext c j
        by_cases h : c = 47 ∧ j = 6
        · obtain ⟨rfl, rfl⟩ := h
          rw [up_eq]; exact hm
        · rw [up_ne h]
          by_cases h2 : c = 52
          · subst h2; simp [upc]
          · simp [upc, h2]
    ·
      refine r_aload0 hX dX6_feed_30 (q := 31) rfl ?_
      refine r_ldc hX dX6_feed_31 (q := 33) rfl qX6_85 ?_
      refine r_callV hX dX6_feed_33 (q := 36) rfl (c_X6_finds _ Γ _ _ 1 (by decide) (by decide +kernel)) kX6_36 mlX6_finds mvX6_finds rfl rfl rfl ⟨by decide, rfl⟩ ⟨by decide, by decide⟩ (Nat.le_of_ble_eq_true rfl) (kpI (fun v33 G33 p33 => ?_))
      refine r_iret hX hR dX6_feed_36 ?_
      -- leaf 1 at 36
      refine ⟨_, rfl, ?_⟩
      exact Or.inr (Or.inl ⟨h9, by omega, p33.1.trans (by decide +kernel), p33.2⟩)
  ·
    refine r_aload0 hX dX6_feed_12 (q := 13) rfl ?_
    refine r_ldc hX dX6_feed_13 (q := 15) rfl qX6_34 ?_
    refine r_callV hX dX6_feed_15 (q := 18) rfl (c_X6_finds _ Γ _ _ 0 (by decide) (by decide +kernel)) kX6_36 mlX6_finds mvX6_finds rfl rfl rfl ⟨by decide, rfl⟩ ⟨by decide, by decide⟩ (Nat.le_of_ble_eq_true rfl) (kpI (fun v15 G15 p15 => ?_))
    refine r_iret hX hR dX6_feed_18 ?_
    -- leaf 2 at 18
    refine ⟨_, rfl, ?_⟩
    exact Or.inl ⟨h9, p15.1.trans (by decide +kernel), p15.2⟩
