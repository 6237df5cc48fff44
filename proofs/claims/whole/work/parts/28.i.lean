set_option maxRecDepth 100000 in
set_option maxHeartbeats 4000000 in
theorem c_X5_order (l : Launch) (Γ : Gam) (G : GG) (μ : MU) (b : Nat) (hC : CR G 0 μ) (hV : Inv b μ) (hb : b ≤ 100000) (x : Int32) : Sp l yX5_order cX5_order 7 (some .int) 6 136 [.ref (gad Γ 30), .int x] Γ G (pI (CO G μ (oOrder μ x))) := by
  refine Sp_of (own := RX5) rfl (by decide +kernel) rfl (Nat.le_of_ble_eq_true rfl) (fun X hX hR => ?_)
  show WP X Γ 0 [some (.ref (gad Γ 30)), some (.int x), none, none, none, none, none] [] G
  obtain ⟨n, hn1, hn2⟩ := hV.2.2.1
  have hcl : cl (μ 8) = n := by rw [hn2]; exact nI_clamp (by omega)
  refine r_iload1 hX dX5_order_0 (q := 1) rfl ?_
  refine r_iconst hX dX5_order_1 (q := 2) rfl (v := nI 1) (by decide +kernel) ?_
  refine r_bipush hX dX5_order_2 (q := 4) rfl (v := nI 70) (by decide +kernel) ?_
  refine r_callS hX dX5_order_4 (q := 7) rfl (c_X5_within _ Γ _ _ _ _) kX5_45 mlX5_within msX5_within rfl rfl ⟨by decide, by decide⟩ (Nat.le_of_ble_eq_true rfl) (keB ?_)
  first | with_reducible refine r_ifd_ne hX dX5_order_7 (q := 10) rfl (tgt := 17) (by decide) (fun h7 => ?_) (fun h7 => ?_) | refine r_ifb_ne hX dX5_order_7 (q := 10) rfl (tgt := 17) (by decide) (fun h7 => ?_) (fun h7 => ?_)
  ·
    obtain ⟨hx0, hx1, hxe⟩ := ix1_of (by decide) (by decide) h7
    refine r_aload0 hX dX5_order_17 (q := 18) rfl ?_
    refine r_iload1 hX dX5_order_18 (q := 19) rfl ?_
    refine r_callV hX dX5_order_19 (q := 22) rfl (c_X5_isPastLast _ Γ _ _ _ (by assumption) (by assumption) _) kX5_162 mlX5_isPastLast mvX5_isPastLast rfl rfl rfl ⟨by decide, rfl⟩ ⟨by decide, by decide⟩ (Nat.le_of_ble_eq_true rfl) (keB ?_)
    first | with_reducible refine r_ifd_eq hX dX5_order_22 (q := 25) rfl (tgt := 32) (by decide) (fun h22 => ?_) (fun h22 => ?_) | refine r_ifb_eq hX dX5_order_22 (q := 25) rfl (tgt := 32) (by decide) (fun h22 => ?_) (fun h22 => ?_)
    ·
      refine r_aload0 hX dX5_order_32 (q := 33) rfl ?_
      refine r_getR hX dX5_order_33 (q := 36) (c' := ch 1 0) rfl fX5_16 rfl ⟨by decide, by decide, rfl⟩ ?_
      refine r_aload0 hX dX5_order_36 (q := 37) rfl ?_
      refine r_getR hX dX5_order_37 (q := 40) (c' := ch 0 0) rfl fX5_12 rfl ⟨by decide, by decide, rfl⟩ ?_
      refine r_callV hX dX5_order_40 (q := 43) rfl (c_X0_become _ Γ _ 1 0 (by decide) (by decide) (by decide) μ hC) kX5_202 mlX0_become mvX0_become rfl rfl (ch_lay (j := 0) (by first | assumption | decide) (by decide) rfl) ⟨by decide, rfl⟩ ⟨by decide, by decide⟩ (Nat.le_of_ble_eq_true rfl) (kpV (fun G40 p40 => ?_))
      refine r_aload0 hX dX5_order_43 (q := 44) rfl ?_
      refine r_iload1 hX dX5_order_44 (q := 45) rfl ?_
      refine r_callV hX dX5_order_45 (q := 48) rfl (c_X5_likedBehind _ Γ _ μ μ b p40.1 hV _ (cl x) hxe (by omega)) kX5_226 mlX5_likedBehind mvX5_likedBehind rfl rfl rfl ⟨by decide, rfl⟩ ⟨by decide, by decide⟩ (Nat.le_of_ble_eq_true rfl) (kpI (fun v45 G45 p45 => ?_))
      refine r_istore2 hX dX5_order_48 (q := 49) rfl rfl ?_
      refine r_iconst hX dX5_order_49 (q := 50) rfl (v := (-1)) (by decide +kernel) ?_
      refine r_istore3 hX dX5_order_50 (q := 51) rfl rfl ?_
      refine r_iconst hX dX5_order_51 (q := 52) rfl (v := nI 0) (by decide +kernel) ?_
      refine r_istore4 hX dX5_order_52 (q := 54) rfl rfl ?_
      have L54 : ∀ (zn54 : Nat) (a : Nat) (g e : Int32) (G1 : GG), zn54 = n - a → (a ≤ n) → (g = (odA μ (cl x) n a).1) → (e = (odA μ (cl x) n a).2) → (CR G1 0 μ) → (∀ c, 20 ≤ c → G1 c = G c) → WP X Γ 54 [some (.ref (gad Γ 30)), some (.int x), some (.int g), some (.int e), some (.int (nI a)), none, none] [] G1 := by
        intro zn54
        induction zn54 using Nat.strongRecOn with
        | _ zn54 ih54 =>
          intro a g e G1 zh54 ha hg he hC0 hF
          have es : G1 (ch 0 4) 3 = nI n := hC0.1.2.2.2.2.2.2.2.2.trans hn2
          refine r_iload4 hX dX5_order_54 (q := 56) rfl ?_
          refine r_aload0 hX dX5_order_56 (q := 57) rfl ?_
          refine r_getR hX dX5_order_57 (q := 60) (c' := ch 0 0) rfl fX5_12 rfl ⟨by decide, by decide, rfl⟩ ?_
          refine r_getR hX dX5_order_60 (q := 63) rfl fX5_49 (ch_lay (j := 0) (by first | assumption | decide) (by decide) rfl) (rC_9 (by first | assumption | decide)) ?_
          refine r_getI hX dX5_order_63 (q := 66) rfl fX5_53 (ch_lay (j := 4) (by first | assumption | decide) (by decide) rfl) (rP_3 (by first | assumption | decide)) ?_
          rw [es]
          first | refine r_icmpN_ge hX dX5_order_66 (q := 69) rfl (tgt := 152) (by decide) (by first | decide | omega) (by first | decide | omega) (fun h66 => ?_) (fun h66 => ?_) | refine r_icmp_ge hX dX5_order_66 (q := 69) rfl (tgt := 152) (by decide) (fun h66 => ?_) (fun h66 => ?_)
          ·
            refine r_iload3 hX dX5_order_152 (q := 153) rfl ?_
            refine r_if_ge hX dX5_order_153 (q := 156) rfl (tgt := 165) (by decide) (fun h153 => ?_) (fun h153 => ?_)
            ·
              refine r_iload3 hX dX5_order_165 (q := 166) rfl ?_
              refine r_iret hX hR dX5_order_166 ?_
              -- leaf 0 at 166
              refine ⟨_, rfl, ?_⟩
              have e1 : a = n := by omega
              subst e1
              first
                | exact CO.fin (k := 3) (by unfold oOrder; rw [if_pos h7, if_neg h22, hcl, ← he]; exact if_pos (by rw [nI_0]; exact Int32.not_le.mp h153)) (by decide +kernel) hC0 hF
                | exact CO.ok (w := (odA μ (cl x) (cl (μ 8)) (cl (μ 8))).2) (μ' := μ) (by unfold oOrder; rw [if_pos h7, if_neg h22, if_neg (by rw [hcl, ← he, nI_0]; exact Int32.not_lt.mpr h153)]) (by rw [hcl]; exact he) hC0 hF
            ·
              refine r_aload0 hX dX5_order_156 (q := 157) rfl ?_
              refine r_ldc hX dX5_order_157 (q := 159) rfl qX5_110 ?_
              refine r_callV hX dX5_order_159 (q := 162) rfl (c_X5_finding _ Γ _ _ 3 (by decide) (by decide +kernel)) kX5_67 mlX5_finding mvX5_finding rfl rfl rfl ⟨by decide, rfl⟩ ⟨by decide, by decide⟩ (Nat.le_of_ble_eq_true rfl) (keI ?_)
              refine r_goto hX dX5_order_162 (tgt := 166) (by decide) ?_
              refine r_iret hX hR dX5_order_166 ?_
              -- leaf 1 at 166
              refine ⟨_, rfl, ?_⟩
              have e1 : a = n := by omega
              subst e1
              first
                | exact CO.fin (k := 3) (by unfold oOrder; rw [if_pos h7, if_neg h22, hcl, ← he]; exact if_pos (by rw [nI_0]; exact Int32.not_le.mp h153)) (by decide +kernel) hC0 hF
                | exact CO.ok (w := (odA μ (cl x) (cl (μ 8)) (cl (μ 8))).2) (μ' := μ) (by unfold oOrder; rw [if_pos h7, if_neg h22, if_neg (by rw [hcl, ← he, nI_0]; exact Int32.not_lt.mpr h153)]) (by rw [hcl]; exact he) hC0 hF
          ·
            refine r_iload4 hX dX5_order_69 (q := 71) rfl ?_
            refine r_iconst hX dX5_order_71 (q := 72) rfl (v := nI 1) (by decide +kernel) ?_
            refine r_iadd hX dX5_order_72 (q := 73) rfl ?_
            refine r_istore5 hX dX5_order_73 (q := 75) rfl rfl ?_
            rw [nI_add]
            have L75 : ∀ (zn75 : Nat) (k : Nat) (g e : Int32) (G1 : GG), zn75 = n - (a + 1) - k → (k ≤ n - (a + 1)) → (g = (odB μ (cl x) a (odA μ (cl x) n a) k).1) → (e = (odB μ (cl x) a (odA μ (cl x) n a) k).2) → (CR G1 0 μ) → (∀ c, 20 ≤ c → G1 c = G c) → WP X Γ 75 [some (.ref (gad Γ 30)), some (.int x), some (.int g), some (.int e), some (.int (nI a)), some (.int (nI (a + 1 + k))), none] [] G1 := by
              intro zn75
              induction zn75 using Nat.strongRecOn with
              | _ zn75 ih75 =>
                intro k g e G1 zh75 hk hg2 he2 hC2 hF2
                have es2 : G1 (ch 0 4) 3 = nI n := hC2.1.2.2.2.2.2.2.2.2.trans hn2
                refine r_iload5 hX dX5_order_75 (q := 77) rfl ?_
                refine r_aload0 hX dX5_order_77 (q := 78) rfl ?_
                refine r_getR hX dX5_order_78 (q := 81) (c' := ch 0 0) rfl fX5_12 rfl ⟨by decide, by decide, rfl⟩ ?_
                refine r_getR hX dX5_order_81 (q := 84) rfl fX5_49 (ch_lay (j := 0) (by first | assumption | decide) (by decide) rfl) (rC_9 (by first | assumption | decide)) ?_
                refine r_getI hX dX5_order_84 (q := 87) rfl fX5_53 (ch_lay (j := 4) (by first | assumption | decide) (by decide) rfl) (rP_3 (by first | assumption | decide)) ?_
                rw [es2]
                first | refine r_icmpN_ge hX dX5_order_87 (q := 90) rfl (tgt := 146) (by decide) (by first | decide | omega) (by first | decide | omega) (fun h87 => ?_) (fun h87 => ?_) | refine r_icmp_ge hX dX5_order_87 (q := 90) rfl (tgt := 146) (by decide) (fun h87 => ?_) (fun h87 => ?_)
                ·
                  refine r_iincN4 hX dX5_order_146 (q := 149) rfl rfl ?_
                  refine r_goto hX dX5_order_149 (tgt := 54) (by decide) ?_
                  refine r_drop5 ?_
                  refine ih54 _ ?_ (a + 1) _ _ _ rfl ?_ ?_ ?_ ?_ ?_
                  ·
                    omega
                  ·
                    omega
                  ·
                    have e1 : k = n - (a + 1) := by omega
                    rw [hg2, e1]; rfl
                  ·
                    have e1 : k = n - (a + 1) := by omega
                    rw [he2, e1]; rfl
                  ·
                    exact hC2
                  ·
                    exact hF2
                ·
                  refine r_aload0 hX dX5_order_90 (q := 91) rfl ?_
                  refine r_getR hX dX5_order_91 (q := 94) (c' := ch 1 0) rfl fX5_16 rfl ⟨by decide, by decide, rfl⟩ ?_
                  refine r_aload0 hX dX5_order_94 (q := 95) rfl ?_
                  refine r_getR hX dX5_order_95 (q := 98) (c' := ch 0 0) rfl fX5_12 rfl ⟨by decide, by decide, rfl⟩ ?_
                  refine r_callV hX dX5_order_98 (q := 101) rfl (c_X0_become _ Γ _ 1 0 (by decide) (by decide) (by decide) μ hC2) kX5_202 mlX0_become mvX0_become rfl rfl (ch_lay (j := 0) (by first | assumption | decide) (by decide) rfl) ⟨by decide, rfl⟩ ⟨by decide, by decide⟩ (Nat.le_of_ble_eq_true rfl) (kpV (fun G99 p99 => ?_))
                  refine r_aload0 hX dX5_order_101 (q := 102) rfl ?_
                  refine r_getR hX dX5_order_102 (q := 105) (c' := ch 1 0) rfl fX5_16 rfl ⟨by decide, by decide, rfl⟩ ?_
                  refine r_getR hX dX5_order_105 (q := 108) rfl fX5_49 (ch_lay (j := 0) (by first | assumption | decide) (by decide) rfl) (rC_9 (by first | assumption | decide)) ?_
                  refine r_iload4 hX dX5_order_108 (q := 110) rfl ?_
                  refine r_iload5 hX dX5_order_110 (q := 112) rfl ?_
                  refine r_callV hX dX5_order_112 (q := 115) rfl (c_X1_exchange _ Γ _ 1 (by decide) _ _ a (a + 1 + k) rfl rfl (by omega) (by omega)) kX5_155 mlX1_exchange mvX1_exchange rfl rfl (ch_lay (j := 4) (by first | assumption | decide) (by decide) rfl) ⟨by decide, rfl⟩ ⟨by decide, by decide⟩ (Nat.le_of_ble_eq_true rfl) (keV ?_)
                  have hCs := p99.1.exch (a := a) (b := a + 1 + k) (by omega) (by omega)
                  have hFs : Fr 1 G99 (exG (exG (exG G99 (ch 1 5) a (a + 1 + k)) (ch 1 6) a (a + 1 + k)) (ch 1 7) a (a + 1 + k)) := ((Fr.rf.ex (by decide)).ex (by decide)).ex (by decide)
                  generalize exG (exG (exG G99 (ch 1 5) a (a + 1 + k)) (ch 1 6) a (a + 1 + k)) (ch 1 7) a (a + 1 + k) = Gs at hCs hFs ⊢
                  refine r_aload0 hX dX5_order_115 (q := 116) rfl ?_
                  refine r_iload1 hX dX5_order_116 (q := 117) rfl ?_
                  refine r_callV hX dX5_order_117 (q := 120) rfl (c_X5_likedBehind _ Γ _ μ (swM μ a (a + 1 + k)) b hCs (hV.sw (by omega) (by omega)) _ (cl x) hxe (by omega)) kX5_226 mlX5_likedBehind mvX5_likedBehind rfl rfl rfl ⟨by decide, rfl⟩ ⟨by decide, by decide⟩ (Nat.le_of_ble_eq_true rfl) (kpI (fun v117 G117 p117 => ?_))
                  refine r_topi (fun vb hvb => ?_)
                  refine r_istore6 hX dX5_order_120 (q := 122) rfl rfl ?_
                  have hv : vb = lbF (swM μ a (a + 1 + k)) (cl x) := hvb.trans p117.1
                  refine r_iload6 hX dX5_order_122 (q := 124) rfl ?_
                  refine r_iload2 hX dX5_order_124 (q := 125) rfl ?_
                  first | refine r_icmpN_le hX dX5_order_125 (q := 128) rfl (tgt := 140) (by decide) (by first | decide | omega) (by first | decide | omega) (fun h125 => ?_) (fun h125 => ?_) | refine r_icmp_le hX dX5_order_125 (q := 128) rfl (tgt := 140) (by decide) (fun h125 => ?_) (fun h125 => ?_)
                  ·
                    rw [hg2, hv] at h125
                    have hlt := Int32.not_lt.mpr h125
                    refine r_iincN5 hX dX5_order_140 (q := 143) rfl rfl ?_
                    refine r_goto hX dX5_order_143 (tgt := 75) (by decide) ?_
                    refine r_drop6 ?_
                    refine ih75 _ ?_ (k + 1) _ _ _ rfl ?_ ?_ ?_ ?_ ?_
                    ·
                      omega
                    ·
                      omega
                    ·
                      simp only [odB]
                      first
                        | (rw [if_pos hlt]; exact hv)
                        | (rw [if_pos hlt]; rw [pk_mul, nI_add]; done)
                        | (rw [if_neg hlt]; exact hg2)
                        | (rw [if_neg hlt]; exact he2)
                    ·
                      simp only [odB]
                      first
                        | (rw [if_pos hlt]; exact hv)
                        | (rw [if_pos hlt]; rw [pk_mul, nI_add]; done)
                        | (rw [if_neg hlt]; exact hg2)
                        | (rw [if_neg hlt]; exact he2)
                    ·
                      exact cr_T (cr_T (cr_T hC2 p99.2) hFs) p117.2
                    ·
                      exact fr_T p117.2 (fr_T hFs (fr_T p99.2 hF2))
                  ·
                    rw [hg2, hv] at h125
                    have hlt := Int32.not_le.mp h125
                    refine r_iload6 hX dX5_order_128 (q := 130) rfl ?_
                    refine r_istore2 hX dX5_order_130 (q := 131) rfl rfl ?_
                    refine r_bipush hX dX5_order_131 (q := 133) rfl (v := nI 10) (by decide +kernel) ?_
                    refine r_iload4 hX dX5_order_133 (q := 135) rfl ?_
                    refine r_imul hX dX5_order_135 (q := 136) rfl ?_
                    refine r_iload5 hX dX5_order_136 (q := 138) rfl ?_
                    refine r_iadd hX dX5_order_138 (q := 139) rfl ?_
                    refine r_istore3 hX dX5_order_139 (q := 140) rfl rfl ?_
                    refine r_iincN5 hX dX5_order_140 (q := 143) rfl rfl ?_
                    refine r_goto hX dX5_order_143 (tgt := 75) (by decide) ?_
                    refine r_drop6 ?_
                    refine ih75 _ ?_ (k + 1) _ _ _ rfl ?_ ?_ ?_ ?_ ?_
                    ·
                      omega
                    ·
                      omega
                    ·
                      simp only [odB]
                      first
                        | (rw [if_pos hlt]; exact hv)
                        | (rw [if_pos hlt]; rw [pk_mul, nI_add]; done)
                        | (rw [if_neg hlt]; exact hg2)
                        | (rw [if_neg hlt]; exact he2)
                    ·
                      simp only [odB]
                      first
                        | (rw [if_pos hlt]; exact hv)
                        | (rw [if_pos hlt]; rw [pk_mul, nI_add]; done)
                        | (rw [if_neg hlt]; exact hg2)
                        | (rw [if_neg hlt]; exact he2)
                    ·
                      exact cr_T (cr_T (cr_T hC2 p99.2) hFs) p117.2
                    ·
                      exact fr_T p117.2 (fr_T hFs (fr_T p99.2 hF2))
            refine L75 _ 0 _ _ _ rfl ?_ ?_ ?_ ?_ ?_
            ·
              exact Nat.zero_le _
            ·
              exact hg
            ·
              exact he
            ·
              exact hC0
            ·
              exact hF
      refine L54 _ 0 _ _ _ rfl ?_ ?_ ?_ ?_ ?_
      ·
        exact Nat.zero_le _
      ·
        exact p45.1
      ·
        rfl
      ·
        exact cr_T (cr_T hC p40.2) p45.2
      ·
        exact fr_T p45.2 (fr_T p40.2 fr0)
    ·
      refine r_aload0 hX dX5_order_25 (q := 26) rfl ?_
      refine r_ldc hX dX5_order_26 (q := 28) rfl qX5_165 ?_
      refine r_callV hX dX5_order_28 (q := 31) rfl (c_X5_finding _ Γ _ _ 4 (by decide) (by decide +kernel)) kX5_67 mlX5_finding mvX5_finding rfl rfl rfl ⟨by decide, rfl⟩ ⟨by decide, by decide⟩ (Nat.le_of_ble_eq_true rfl) (keI ?_)
      refine r_iret hX hR dX5_order_31 ?_
      -- leaf 2 at 31
      refine ⟨_, rfl, ?_⟩
      exact CO.fin (k := 4) (by unfold oOrder; rw [if_pos h7]; exact if_pos h22) (by decide +kernel) hC fr0
  ·
    refine r_aload0 hX dX5_order_10 (q := 11) rfl ?_
    refine r_ldc hX dX5_order_11 (q := 13) rfl qX5_44 ?_
    refine r_callV hX dX5_order_13 (q := 16) rfl (c_X5_finding _ Γ _ _ 0 (by decide) (by decide +kernel)) kX5_67 mlX5_finding mvX5_finding rfl rfl rfl ⟨by decide, rfl⟩ ⟨by decide, by decide⟩ (Nat.le_of_ble_eq_true rfl) (keI ?_)
    refine r_iret hX hR dX5_order_16 ?_
    -- leaf 3 at 16
    refine ⟨_, rfl, ?_⟩
    exact CO.fin (k := 0) (if_neg h7) (by decide +kernel) hC fr0

set_option maxRecDepth 100000 in
set_option maxHeartbeats 4000000 in
theorem c_X5_chance (l : Launch) (Γ : Gam) (G : GG) (μ : MU) (b : Nat) (hC : CR G 0 μ) (hV : Inv b μ) (hb : b ≤ 100000) (x y z : Int32) : Sp l yX5_chance cX5_chance 6 (some .int) 5 115 [.ref (gad Γ 30), .int x, .int y, .int z] Γ G (pI (CO G μ (oChance μ x y z))) := by
  refine Sp_of (own := RX5) rfl (by decide +kernel) rfl (Nat.le_of_ble_eq_true rfl) (fun X hX hR => ?_)
  show WP X Γ 0 [some (.ref (gad Γ 30)), some (.int x), some (.int y), some (.int z), none, none] [] G
  refine r_iload1 hX dX5_chance_0 (q := 1) rfl ?_
  refine r_callS hX dX5_chance_1 (q := 4) rfl (c_X5_isFood _ Γ _ _) kX5_63 mlX5_isFood msX5_isFood rfl rfl ⟨by decide, by decide⟩ (Nat.le_of_ble_eq_true rfl) (keB ?_)
  first | with_reducible refine r_ifd_eq hX dX5_chance_4 (q := 7) rfl (tgt := 27) (by decide) (fun h4 => ?_) (fun h4 => ?_) | refine r_ifb_eq hX dX5_chance_4 (q := 7) rfl (tgt := 27) (by decide) (fun h4 => ?_) (fun h4 => ?_)
  ·
    refine r_aload0 hX dX5_chance_27 (q := 28) rfl ?_
    refine r_ldc hX dX5_chance_28 (q := 30) rfl qX5_44 ?_
    refine r_callV hX dX5_chance_30 (q := 33) rfl (c_X5_finding _ Γ _ _ 0 (by decide) (by decide +kernel)) kX5_67 mlX5_finding mvX5_finding rfl rfl rfl ⟨by decide, rfl⟩ ⟨by decide, by decide⟩ (Nat.le_of_ble_eq_true rfl) (keI ?_)
    refine r_iret hX hR dX5_chance_33 ?_
    -- leaf 0 at 33
    refine ⟨_, rfl, ?_⟩
    first
      | exact CO.fin (k := 0) (if_neg (fun q => h4 q.1)) (by decide +kernel) hC fr0
      | exact CO.fin (k := 0) (if_neg (fun q => h14 q.2.1)) (by decide +kernel) hC fr0
      | exact CO.fin (k := 0) (if_neg (fun q => h24 q.2.2)) (by decide +kernel) hC fr0
  ·
    obtain ⟨xl, xe⟩ := ix_of (by decide) h4
    refine r_iload2 hX dX5_chance_7 (q := 8) rfl ?_
    refine r_iconst hX dX5_chance_8 (q := 9) rfl (v := nI 1) (by decide +kernel) ?_
    refine r_bipush hX dX5_chance_9 (q := 11) rfl (v := nI 20) (by decide +kernel) ?_
    refine r_callS hX dX5_chance_11 (q := 14) rfl (c_X5_within _ Γ _ _ _ _) kX5_45 mlX5_within msX5_within rfl rfl ⟨by decide, by decide⟩ (Nat.le_of_ble_eq_true rfl) (keB ?_)
    first | with_reducible refine r_ifd_eq hX dX5_chance_14 (q := 17) rfl (tgt := 27) (by decide) (fun h14 => ?_) (fun h14 => ?_) | refine r_ifb_eq hX dX5_chance_14 (q := 17) rfl (tgt := 27) (by decide) (fun h14 => ?_) (fun h14 => ?_)
    ·
      refine r_aload0 hX dX5_chance_27 (q := 28) rfl ?_
      refine r_ldc hX dX5_chance_28 (q := 30) rfl qX5_44 ?_
      refine r_callV hX dX5_chance_30 (q := 33) rfl (c_X5_finding _ Γ _ _ 0 (by decide) (by decide +kernel)) kX5_67 mlX5_finding mvX5_finding rfl rfl rfl ⟨by decide, rfl⟩ ⟨by decide, by decide⟩ (Nat.le_of_ble_eq_true rfl) (keI ?_)
      refine r_iret hX hR dX5_chance_33 ?_
      -- leaf 1 at 33
      refine ⟨_, rfl, ?_⟩
      first
        | exact CO.fin (k := 0) (if_neg (fun q => h4 q.1)) (by decide +kernel) hC fr0
        | exact CO.fin (k := 0) (if_neg (fun q => h14 q.2.1)) (by decide +kernel) hC fr0
        | exact CO.fin (k := 0) (if_neg (fun q => h24 q.2.2)) (by decide +kernel) hC fr0
    ·
      obtain ⟨y0, y1, ye⟩ := ix1_of (by decide) (by decide) h14
      refine r_iload3 hX dX5_chance_17 (q := 18) rfl ?_
      refine r_iconst hX dX5_chance_18 (q := 19) rfl (v := nI 0) (by decide +kernel) ?_
      refine r_bipush hX dX5_chance_19 (q := 21) rfl (v := nI 70) (by decide +kernel) ?_
      refine r_callS hX dX5_chance_21 (q := 24) rfl (c_X5_within _ Γ _ _ _ _) kX5_45 mlX5_within msX5_within rfl rfl ⟨by decide, by decide⟩ (Nat.le_of_ble_eq_true rfl) (keB ?_)
      first | with_reducible refine r_ifd_ne hX dX5_chance_24 (q := 27) rfl (tgt := 34) (by decide) (fun h24 => ?_) (fun h24 => ?_) | refine r_ifb_ne hX dX5_chance_24 (q := 27) rfl (tgt := 34) (by decide) (fun h24 => ?_) (fun h24 => ?_)
      ·
        obtain ⟨zl, ze⟩ := ix_of (by decide) h24
        refine r_aload0 hX dX5_chance_34 (q := 35) rfl ?_
        refine r_iload3 hX dX5_chance_35 (q := 36) rfl ?_
        refine r_callV hX dX5_chance_36 (q := 39) rfl (c_X5_isPastLast _ Γ _ _ _ (by assumption) (by assumption) _) kX5_162 mlX5_isPastLast mvX5_isPastLast rfl rfl rfl ⟨by decide, rfl⟩ ⟨by decide, by decide⟩ (Nat.le_of_ble_eq_true rfl) (keB ?_)
        first | with_reducible refine r_ifd_eq hX dX5_chance_39 (q := 42) rfl (tgt := 49) (by decide) (fun h39 => ?_) (fun h39 => ?_) | refine r_ifb_eq hX dX5_chance_39 (q := 42) rfl (tgt := 49) (by decide) (fun h39 => ?_) (fun h39 => ?_)
        ·
          refine r_iconst hX dX5_chance_49 (q := 50) rfl (v := nI 0) (by decide +kernel) ?_
          refine r_istore4 hX dX5_chance_50 (q := 52) rfl rfl ?_
          refine r_iconst hX dX5_chance_52 (q := 53) rfl (v := nI 0) (by decide +kernel) ?_
          refine r_istore5 hX dX5_chance_53 (q := 55) rfl rfl ?_
          have hls : ∀ G2, WP X Γ 55 [some (.ref (gad Γ 30)), some (.int x), some (.int (nI (cl y))), some (.int z), some (.int (nI 0)), some (.int (nI 0))] [] G2 → WP X Γ 55 [some (.ref (gad Γ 30)), some (.int x), some (.int y), some (.int z), some (.int (nI 0)), some (.int (nI 0))] [] G2 := fun G2 q => by rw [← ye] at q; exact q
          refine hls _ ?_
          have L55 : ∀ (zn55 : Nat) (k : Nat) (e : Int32) (G1 : GG), zn55 = cl y - k → (k ≤ cl y) → (e = (chF μ (cl x) (cl z) k).1) → (CR G1 0 (chF μ (cl x) (cl z) k).2) → (∀ c, 20 ≤ c → G1 c = G c) → WP X Γ 55 [some (.ref (gad Γ 30)), some (.int x), some (.int (nI (cl y))), some (.int z), some (.int e), some (.int (nI k))] [] G1 := by
            intro zn55
            induction zn55 using Nat.strongRecOn with
            | _ zn55 ih55 =>
              intro k e G1 zh55 hk he hC0 hF
              have hVk := ch_inv hV (cl x) (cl z) k
              refine r_iload5 hX dX5_chance_55 (q := 57) rfl ?_
              refine r_iload2 hX dX5_chance_57 (q := 58) rfl ?_
              refine r_icmpN_ge hX dX5_chance_58 (q := 61) rfl (tgt := 115) (by decide) (by first | decide | omega) (by first | decide | omega) (fun h58 => ?_) (fun h58 => ?_)
              ·
                refine r_iload4 hX dX5_chance_115 (q := 117) rfl ?_
                refine r_iret hX hR dX5_chance_117 ?_
                -- leaf 2 at 117
                refine ⟨_, rfl, ?_⟩
                have e1 : k = cl y := by omega
                subst e1
                exact CO.ok (w := (chF μ (cl x) (cl z) (cl y)).1) (μ' := (chF μ (cl x) (cl z) (cl y)).2) (by unfold oChance; rw [if_pos ⟨h4, h14, h24⟩]; exact if_neg h39) he hC0 hF
              ·
                refine r_aload0 hX dX5_chance_61 (q := 62) rfl ?_
                refine r_getR hX dX5_chance_62 (q := 65) (c' := ch 1 0) rfl fX5_16 rfl ⟨by decide, by decide, rfl⟩ ?_
                refine r_aload0 hX dX5_chance_65 (q := 66) rfl ?_
                refine r_getR hX dX5_chance_66 (q := 69) (c' := ch 0 0) rfl fX5_12 rfl ⟨by decide, by decide, rfl⟩ ?_
                refine r_callV hX dX5_chance_69 (q := 72) rfl (c_X0_become _ Γ _ 1 0 (by decide) (by decide) (by decide) _ hC0) kX5_202 mlX0_become mvX0_become rfl rfl (ch_lay (j := 0) (by first | assumption | decide) (by decide) rfl) ⟨by decide, rfl⟩ ⟨by decide, by decide⟩ (Nat.le_of_ble_eq_true rfl) (kpV (fun G69 p69 => ?_))
                refine r_aload0 hX dX5_chance_72 (q := 73) rfl ?_
                refine r_getR hX dX5_chance_73 (q := 76) (c' := ch 1 0) rfl fX5_16 rfl ⟨by decide, by decide, rfl⟩ ?_
                refine r_iload3 hX dX5_chance_76 (q := 77) rfl ?_
                refine r_callV hX dX5_chance_77 (q := 80) rfl (c_X0_goOn _ Γ _ 1 (by decide) _ b p69.1 hVk _ (cl z) ze (by omega)) kX5_166 mlX0_goOn mvX0_goOn rfl rfl (ch_lay (j := 0) (by first | assumption | decide) (by decide) rfl) ⟨by decide, rfl⟩ ⟨by decide, by decide⟩ (Nat.le_of_ble_eq_true rfl) (kpI (fun v77 G77 p77 => ?_))
                have hCt := p77.2.1
                have hC2 := cr_T (cr_T hC0 p69.2) p77.2.2
                have hF2 := fr_T p77.2.2 (fr_T p69.2 hF)
                refine r_pop hX dX5_chance_80 (q := 81) rfl rfl ?_
                refine r_aload0 hX dX5_chance_81 (q := 82) rfl ?_
                refine r_getR hX dX5_chance_82 (q := 85) (c' := ch 0 0) rfl fX5_12 rfl ⟨by decide, by decide, rfl⟩ ?_
                refine r_aload0 hX dX5_chance_85 (q := 86) rfl ?_
                refine r_getR hX dX5_chance_86 (q := 89) (c' := ch 1 0) rfl fX5_16 rfl ⟨by decide, by decide, rfl⟩ ?_
                refine r_getI hX dX5_chance_89 (q := 92) rfl fX5_229 (ch_lay (j := 0) (by first | assumption | decide) (by decide) rfl) (rC_12 (by first | assumption | decide)) ?_
                refine r_put hX dX5_chance_92 (q := 95) rfl fX5_229 wX0_12 rfl rfl (ch_lay (j := 0) (by first | assumption | decide) (by decide) rfl) (rC_12 (by first | assumption | decide)) ?_
                have hz : G77 (ch 1 0) 12 = (goF (chF μ (cl x) (cl z) k).2 (cl z)).2 1 := p77.2.1.1.2.1
                have hCz := hC2.z (G77 (ch 1 0) 12)
                rw [hz] at hCz
                have hCt := p77.2.1.fr (Fr.rf.up (i := 0) (j := 0) (k := 12) (v := G77 (ch 1 0) 12) (by decide)) (by decide)
                have hFz := fr_C (Fr.rf.up (i := 0) (j := 0) (k := 12) (v := G77 (ch 1 0) 12) (by decide)) hF2
                rw [hz] at hCt hFz ⊢
                refine r_aload0 hX dX5_chance_95 (q := 96) rfl ?_
                refine r_getR hX dX5_chance_96 (q := 99) (c' := ch 1 0) rfl fX5_16 rfl ⟨by decide, by decide, rfl⟩ ?_
                refine r_iload1 hX dX5_chance_99 (q := 100) rfl ?_
                refine r_callV hX dX5_chance_100 (q := 103) rfl (c_X0_isLiked _ Γ _ 1 (by decide) _ (b + cl z) hCt (hVk.go _ (by omega)) _ (cl x) xe (by omega)) kX5_84 mlX0_isLiked mvX0_isLiked rfl rfl (ch_lay (j := 0) (by first | assumption | decide) (by decide) rfl) ⟨by decide, rfl⟩ ⟨by decide, by decide⟩ (Nat.le_of_ble_eq_true rfl) (keB ?_)
                first | with_reducible refine r_ifd_eq hX dX5_chance_103 (q := 106) rfl (tgt := 109) (by decide) (fun h103 => ?_) (fun h103 => ?_) | refine r_ifb_eq hX dX5_chance_103 (q := 106) rfl (tgt := 109) (by decide) (fun h103 => ?_) (fun h103 => ?_)
                ·
                  refine r_iincN5 hX dX5_chance_109 (q := 112) rfl rfl ?_
                  refine r_goto hX dX5_chance_112 (tgt := 55) (by decide) ?_
                  refine ih55 _ ?_ (k + 1) _ _ rfl ?_ ?_ ?_ ?_
                  ·
                    omega
                  ·
                    omega
                  ·
                    simp only [chF]
                    first
                      | (rw [if_pos h103, he]; rfl)
                      | (rw [if_neg (by rw [h103]; decide)]; exact he)
                  ·
                    exact hCz
                  ·
                    exact hFz
                ·
                  refine r_iinc4 hX dX5_chance_106 (q := 109) rfl rfl rfl ?_
                  refine r_iincN5 hX dX5_chance_109 (q := 112) rfl rfl ?_
                  refine r_goto hX dX5_chance_112 (tgt := 55) (by decide) ?_
                  refine ih55 _ ?_ (k + 1) _ _ rfl ?_ ?_ ?_ ?_
                  ·
                    omega
                  ·
                    omega
                  ·
                    simp only [chF]
                    first
                      | (rw [if_pos h103, he]; rfl)
                      | (rw [if_neg (by rw [h103]; decide)]; exact he)
                  ·
                    exact hCz
                  ·
                    exact hFz
          refine L55 _ 0 _ _ rfl ?_ ?_ ?_ ?_
          ·
            exact Nat.zero_le _
          ·
            rfl
          ·
            exact hC
          ·
            exact fr0
        ·
          refine r_aload0 hX dX5_chance_42 (q := 43) rfl ?_
          refine r_ldc hX dX5_chance_43 (q := 45) rfl qX5_165 ?_
          refine r_callV hX dX5_chance_45 (q := 48) rfl (c_X5_finding _ Γ _ _ 4 (by decide) (by decide +kernel)) kX5_67 mlX5_finding mvX5_finding rfl rfl rfl ⟨by decide, rfl⟩ ⟨by decide, by decide⟩ (Nat.le_of_ble_eq_true rfl) (keI ?_)
          refine r_iret hX hR dX5_chance_48 ?_
          -- leaf 3 at 48
          refine ⟨_, rfl, ?_⟩
          exact CO.fin (k := 4) (by unfold oChance; rw [if_pos ⟨h4, h14, h24⟩]; exact if_pos h39) (by decide +kernel) hC fr0
      ·
        refine r_aload0 hX dX5_chance_27 (q := 28) rfl ?_
        refine r_ldc hX dX5_chance_28 (q := 30) rfl qX5_44 ?_
        refine r_callV hX dX5_chance_30 (q := 33) rfl (c_X5_finding _ Γ _ _ 0 (by decide) (by decide +kernel)) kX5_67 mlX5_finding mvX5_finding rfl rfl rfl ⟨by decide, rfl⟩ ⟨by decide, by decide⟩ (Nat.le_of_ble_eq_true rfl) (keI ?_)
        refine r_iret hX hR dX5_chance_33 ?_
        -- leaf 4 at 33
        refine ⟨_, rfl, ?_⟩
        first
          | exact CO.fin (k := 0) (if_neg (fun q => h4 q.1)) (by decide +kernel) hC fr0
          | exact CO.fin (k := 0) (if_neg (fun q => h14 q.2.1)) (by decide +kernel) hC fr0
          | exact CO.fin (k := 0) (if_neg (fun q => h24 q.2.2)) (by decide +kernel) hC fr0
