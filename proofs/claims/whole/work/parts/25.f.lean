set_option maxRecDepth 100000 in
set_option maxHeartbeats 4000000 in
theorem c_X5_taste (l : Launch) (Γ : Gam) (G : GG) (μ : MU) (b : Nat) (hC : CR G 0 μ) (hV : Inv b μ) (k f p : Int32) : Sp l yX5_taste cX5_taste 4 (some .int) 2 44 [.ref (gad Γ 30), .int k, .int f, .int p] Γ G (pI (CO G μ (oTaste μ k f p))) := by
  refine Sp_of (own := RX5) rfl (by decide +kernel) rfl (Nat.le_of_ble_eq_true rfl) (fun X hX hR => ?_)
  show WP X Γ 0 [some (.ref (gad Γ 30)), some (.int k), some (.int f), some (.int p)] [] G
  obtain ⟨n, hn1, hn2⟩ := hV.2.2.1
  have es : G (ch 0 4) 3 = nI n := hC.1.2.2.2.2.2.2.2.2.trans hn2
  refine r_iload1 hX dX5_taste_0 (q := 1) rfl ?_
  refine r_callS hX dX5_taste_1 (q := 4) rfl (c_X5_isKind _ Γ _ _) kX5_111 mlX5_isKind msX5_isKind rfl rfl ⟨by decide, by decide⟩ (Nat.le_of_ble_eq_true rfl) (keB ?_)
  first | with_reducible refine r_ifd_eq hX dX5_taste_4 (q := 7) rfl (tgt := 21) (by decide) (fun h4 => ?_) (fun h4 => ?_) | refine r_ifb_eq hX dX5_taste_4 (q := 7) rfl (tgt := 21) (by decide) (fun h4 => ?_) (fun h4 => ?_)
  ·
    refine r_aload0 hX dX5_taste_21 (q := 22) rfl ?_
    refine r_ldc hX dX5_taste_22 (q := 24) rfl qX5_44 ?_
    refine r_callV hX dX5_taste_24 (q := 27) rfl (c_X5_finding _ Γ _ _ 0 (by decide) (by decide +kernel)) kX5_67 mlX5_finding mvX5_finding rfl rfl rfl ⟨by decide, rfl⟩ ⟨by decide, by decide⟩ (Nat.le_of_ble_eq_true rfl) (keI ?_)
    refine r_iret hX hR dX5_taste_27 ?_
    -- leaf 0 at 27
    refine ⟨_, rfl, ?_⟩
    exact CO.fin (k := 0) (by clear hX hR hC hV; unfold oTaste; grind [nI_0]) (by decide +kernel) hC fr0
  ·
    refine r_iload2 hX dX5_taste_7 (q := 8) rfl ?_
    refine r_callS hX dX5_taste_8 (q := 11) rfl (c_X5_isFood _ Γ _ _) kX5_63 mlX5_isFood msX5_isFood rfl rfl ⟨by decide, by decide⟩ (Nat.le_of_ble_eq_true rfl) (keB ?_)
    first | with_reducible refine r_ifd_eq hX dX5_taste_11 (q := 14) rfl (tgt := 21) (by decide) (fun h11 => ?_) (fun h11 => ?_) | refine r_ifb_eq hX dX5_taste_11 (q := 14) rfl (tgt := 21) (by decide) (fun h11 => ?_) (fun h11 => ?_)
    ·
      refine r_aload0 hX dX5_taste_21 (q := 22) rfl ?_
      refine r_ldc hX dX5_taste_22 (q := 24) rfl qX5_44 ?_
      refine r_callV hX dX5_taste_24 (q := 27) rfl (c_X5_finding _ Γ _ _ 0 (by decide) (by decide +kernel)) kX5_67 mlX5_finding mvX5_finding rfl rfl rfl ⟨by decide, rfl⟩ ⟨by decide, by decide⟩ (Nat.le_of_ble_eq_true rfl) (keI ?_)
      refine r_iret hX hR dX5_taste_27 ?_
      -- leaf 1 at 27
      refine ⟨_, rfl, ?_⟩
      exact CO.fin (k := 0) (by clear hX hR hC hV; unfold oTaste; grind [nI_0]) (by decide +kernel) hC fr0
    ·
      refine r_iload3 hX dX5_taste_14 (q := 15) rfl ?_
      refine r_callS hX dX5_taste_15 (q := 18) rfl (c_X5_isPut _ Γ _ _) kX5_114 mlX5_isPut msX5_isPut rfl rfl ⟨by decide, by decide⟩ (Nat.le_of_ble_eq_true rfl) (keB ?_)
      first | with_reducible refine r_ifd_ne hX dX5_taste_18 (q := 21) rfl (tgt := 28) (by decide) (fun h18 => ?_) (fun h18 => ?_) | refine r_ifb_ne hX dX5_taste_18 (q := 21) rfl (tgt := 28) (by decide) (fun h18 => ?_) (fun h18 => ?_)
      ·
        refine r_aload0 hX dX5_taste_28 (q := 29) rfl ?_
        refine r_getR hX dX5_taste_29 (q := 32) (c' := ch 0 0) rfl fX5_12 rfl ⟨by decide, by decide, rfl⟩ ?_
        refine r_getR hX dX5_taste_32 (q := 35) rfl fX5_49 (ch_lay (j := 0) (by first | assumption | decide) (by decide) rfl) (rC_9 (by first | assumption | decide)) ?_
        refine r_callV hX dX5_taste_35 (q := 38) rfl (c_X1_isFull _ Γ _ 0 (by decide) n es hn1) kX5_117 mlX1_isFull mvX1_isFull rfl rfl (ch_lay (j := 4) (by first | assumption | decide) (by decide) rfl) ⟨by decide, rfl⟩ ⟨by decide, by decide⟩ (Nat.le_of_ble_eq_true rfl) (keB ?_)
        first | with_reducible refine r_ifd_eq hX dX5_taste_38 (q := 41) rfl (tgt := 48) (by decide) (fun h38 => ?_) (fun h38 => ?_) | refine r_ifb_eq hX dX5_taste_38 (q := 41) rfl (tgt := 48) (by decide) (fun h38 => ?_) (fun h38 => ?_)
        ·
          refine r_aload0 hX dX5_taste_48 (q := 49) rfl ?_
          refine r_getR hX dX5_taste_49 (q := 52) (c' := ch 0 0) rfl fX5_12 rfl ⟨by decide, by decide, rfl⟩ ?_
          refine r_getR hX dX5_taste_52 (q := 55) rfl fX5_49 (ch_lay (j := 0) (by first | assumption | decide) (by decide) rfl) (rC_9 (by first | assumption | decide)) ?_
          refine r_iload1 hX dX5_taste_55 (q := 56) rfl ?_
          refine r_iload2 hX dX5_taste_56 (q := 57) rfl ?_
          refine r_iload3 hX dX5_taste_57 (q := 58) rfl ?_
          refine r_callV hX dX5_taste_58 (q := 61) rfl (c_X1_add _ Γ _ 0 (by decide) μ b hC hV _ _ _ n hn2 (by omega)) kX5_122 mlX1_add mvX1_add rfl rfl (ch_lay (j := 4) (by first | assumption | decide) (by decide) rfl) ⟨by decide, rfl⟩ ⟨by decide, by decide⟩ (Nat.le_of_ble_eq_true rfl) (kpI (fun v58 G58 p58 => ?_))
          refine r_iret hX hR dX5_taste_61 ?_
          -- leaf 2 at 61
          refine ⟨_, rfl, ?_⟩
          exact CO.ok (w := μ 8) (μ' := addM μ n k f p) (by unfold oTaste; rw [hn2, cl_nI (by omega), if_pos ⟨h4, h11, h18⟩, if_neg (nI_ne (by omega) (by decide) (by omega))]) (p58.1.trans hn2.symm) p58.2.1 (fr_C p58.2.2 fr0)
        ·
          refine r_aload0 hX dX5_taste_41 (q := 42) rfl ?_
          refine r_ldc hX dX5_taste_42 (q := 44) rfl qX5_121 ?_
          refine r_callV hX dX5_taste_44 (q := 47) rfl (c_X5_finding _ Γ _ _ 1 (by decide) (by decide +kernel)) kX5_67 mlX5_finding mvX5_finding rfl rfl rfl ⟨by decide, rfl⟩ ⟨by decide, by decide⟩ (Nat.le_of_ble_eq_true rfl) (keI ?_)
          refine r_iret hX hR dX5_taste_47 ?_
          -- leaf 3 at 47
          refine ⟨_, rfl, ?_⟩
          have : n = 10 := by omega
          subst this
          exact CO.fin (k := 1) (by clear hX hR hC hV; unfold oTaste; grind) (by decide +kernel) hC fr0
      ·
        refine r_aload0 hX dX5_taste_21 (q := 22) rfl ?_
        refine r_ldc hX dX5_taste_22 (q := 24) rfl qX5_44 ?_
        refine r_callV hX dX5_taste_24 (q := 27) rfl (c_X5_finding _ Γ _ _ 0 (by decide) (by decide +kernel)) kX5_67 mlX5_finding mvX5_finding rfl rfl rfl ⟨by decide, rfl⟩ ⟨by decide, by decide⟩ (Nat.le_of_ble_eq_true rfl) (keI ?_)
        refine r_iret hX hR dX5_taste_27 ?_
        -- leaf 4 at 27
        refine ⟨_, rfl, ?_⟩
        exact CO.fin (k := 0) (by clear hX hR hC hV; unfold oTaste; grind [nI_0]) (by decide +kernel) hC fr0

set_option maxRecDepth 100000 in
set_option maxHeartbeats 4000000 in
theorem c_X5_tasteOf (l : Launch) (Γ : Gam) (G : GG) (μ : MU) (b : Nat) (hC : CR G 0 μ) (hV : Inv b μ) (x w : Int32) : Sp l yX5_tasteOf cX5_tasteOf 3 (some .int) 2 46 [.ref (gad Γ 30), .int x, .int w] Γ G (pI (CO G μ (oTasteOf μ x w))) := by
  refine Sp_of (own := RX5) rfl (by decide +kernel) rfl (Nat.le_of_ble_eq_true rfl) (fun X hX hR => ?_)
  show WP X Γ 0 [some (.ref (gad Γ 30)), some (.int x), some (.int w)] [] G
  refine r_aload0 hX dX5_tasteOf_0 (q := 1) rfl ?_
  refine r_iload1 hX dX5_tasteOf_1 (q := 2) rfl ?_
  refine r_callV hX dX5_tasteOf_2 (q := 5) rfl (c_X5_isTaste _ Γ _ _ _ (by assumption) (by assumption) _) kX5_126 mlX5_isTaste mvX5_isTaste rfl rfl rfl ⟨by decide, rfl⟩ ⟨by decide, by decide⟩ (Nat.le_of_ble_eq_true rfl) (keB ?_)
  first | with_reducible refine r_ifd_ne hX dX5_tasteOf_5 (q := 8) rfl (tgt := 15) (by decide) (fun h5 => ?_) (fun h5 => ?_) | refine r_ifb_ne hX dX5_tasteOf_5 (q := 8) rfl (tgt := 15) (by decide) (fun h5 => ?_) (fun h5 => ?_)
  ·
    obtain ⟨n, t, hn, ht, hs, rfl⟩ := (ts_of hV).mp h5
    refine r_iload2 hX dX5_tasteOf_15 (q := 16) rfl ?_
    refine r_tabCase hX dX5_tasteOf_16 0 ⟨by decide, by decide, by decide, rfl, (by decide : (16 : Int) + 36 = (52 : Nat))⟩ (fun h16_0 => ?_) (fun h16_0 => ?_)
    ·
      refine r_aload0 hX dX5_tasteOf_52 (q := 53) rfl ?_
      refine r_getR hX dX5_tasteOf_53 (q := 56) (c' := ch 0 0) rfl fX5_12 rfl ⟨by decide, by decide, rfl⟩ ?_
      refine r_getR hX dX5_tasteOf_56 (q := 59) rfl fX5_49 (ch_lay (j := 0) (by first | assumption | decide) (by decide) rfl) (rC_9 (by first | assumption | decide)) ?_
      refine r_getR hX dX5_tasteOf_59 (q := 62) rfl fX5_129 (ch_lay (j := 4) (by first | assumption | decide) (by decide) rfl) (rP_0 (by first | assumption | decide)) ?_
      refine r_iload1 hX dX5_tasteOf_62 (q := 63) rfl ?_
      refine r_ialdN hX dX5_tasteOf_63 (q := 64) rfl (ch_lay (j := 5) (by first | assumption | decide) (by decide) rfl) (by repeat' (first | assumption | with_reducible exact rfl | refine e_add ?_ ?_ | refine e_mul ?_ ?_)) (by first | assumption | omega) (by first | decide | omega) ?_
      refine r_iret hX hR dX5_tasteOf_64 ?_
      -- leaf 0 at 64
      refine ⟨_, rfl, ?_⟩
      have e := h16_0
      subst e
      exact CO.ok (w := μ (40 + 3 * t)) (μ' := μ) (by unfold oTasteOf; rw [if_pos ⟨h5, by decide +kernel, by decide +kernel⟩, if_neg (by decide +kernel), if_neg (by decide +kernel), cl_nI (by omega)]; rfl) (hC.2.2.1 t (by omega)).1 hC fr0
    refine r_tabCase hX dX5_tasteOf_16 1 ⟨by decide, by decide, by decide, rfl, (by decide : (16 : Int) + 49 = (65 : Nat))⟩ (fun h16_1 => ?_) (fun h16_1 => ?_)
    ·
      refine r_aload0 hX dX5_tasteOf_65 (q := 66) rfl ?_
      refine r_getR hX dX5_tasteOf_66 (q := 69) (c' := ch 0 0) rfl fX5_12 rfl ⟨by decide, by decide, rfl⟩ ?_
      refine r_getR hX dX5_tasteOf_69 (q := 72) rfl fX5_49 (ch_lay (j := 0) (by first | assumption | decide) (by decide) rfl) (rC_9 (by first | assumption | decide)) ?_
      refine r_getR hX dX5_tasteOf_72 (q := 75) rfl fX5_132 (ch_lay (j := 4) (by first | assumption | decide) (by decide) rfl) (rP_1 (by first | assumption | decide)) ?_
      refine r_iload1 hX dX5_tasteOf_75 (q := 76) rfl ?_
      refine r_ialdN hX dX5_tasteOf_76 (q := 77) rfl (ch_lay (j := 6) (by first | assumption | decide) (by decide) rfl) (by repeat' (first | assumption | with_reducible exact rfl | refine e_add ?_ ?_ | refine e_mul ?_ ?_)) (by first | assumption | omega) (by first | decide | omega) ?_
      refine r_iret hX hR dX5_tasteOf_77 ?_
      -- leaf 1 at 77
      refine ⟨_, rfl, ?_⟩
      have e := h16_1
      subst e
      exact CO.ok (w := μ (41 + 3 * t)) (μ' := μ) (by unfold oTasteOf; rw [if_pos ⟨h5, by decide +kernel, by decide +kernel⟩, if_neg (by decide +kernel), if_neg (by decide +kernel), cl_nI (by omega), cl_nI (by decide), show 40 + 3 * t + 1 = 41 + 3 * t by omega]) (hC.2.2.1 t (by omega)).2.1 hC fr0
    refine r_tabCase hX dX5_tasteOf_16 2 ⟨by decide, by decide, by decide, rfl, (by decide : (16 : Int) + 62 = (78 : Nat))⟩ (fun h16_2 => ?_) (fun h16_2 => ?_)
    ·
      refine r_aload0 hX dX5_tasteOf_78 (q := 79) rfl ?_
      refine r_getR hX dX5_tasteOf_79 (q := 82) (c' := ch 0 0) rfl fX5_12 rfl ⟨by decide, by decide, rfl⟩ ?_
      refine r_getR hX dX5_tasteOf_82 (q := 85) rfl fX5_49 (ch_lay (j := 0) (by first | assumption | decide) (by decide) rfl) (rC_9 (by first | assumption | decide)) ?_
      refine r_getR hX dX5_tasteOf_85 (q := 88) rfl fX5_135 (ch_lay (j := 4) (by first | assumption | decide) (by decide) rfl) (rP_2 (by first | assumption | decide)) ?_
      refine r_iload1 hX dX5_tasteOf_88 (q := 89) rfl ?_
      refine r_ialdN hX dX5_tasteOf_89 (q := 90) rfl (ch_lay (j := 7) (by first | assumption | decide) (by decide) rfl) (by repeat' (first | assumption | with_reducible exact rfl | refine e_add ?_ ?_ | refine e_mul ?_ ?_)) (by first | assumption | omega) (by first | decide | omega) ?_
      refine r_iret hX hR dX5_tasteOf_90 ?_
      -- leaf 2 at 90
      refine ⟨_, rfl, ?_⟩
      have e := h16_2
      subst e
      exact CO.ok (w := μ (42 + 3 * t)) (μ' := μ) (by unfold oTasteOf; rw [if_pos ⟨h5, by decide +kernel, by decide +kernel⟩, if_neg (by decide +kernel), if_neg (by decide +kernel), cl_nI (by omega), cl_nI (by decide), show 40 + 3 * t + 2 = 42 + 3 * t by omega]) (hC.2.2.1 t (by omega)).2.2 hC fr0
    refine r_tabCase hX dX5_tasteOf_16 3 ⟨by decide, by decide, by decide, rfl, (by decide : (16 : Int) + 75 = (91 : Nat))⟩ (fun h16_3 => ?_) (fun h16_3 => ?_)
    ·
      refine r_aload0 hX dX5_tasteOf_91 (q := 92) rfl ?_
      refine r_getR hX dX5_tasteOf_92 (q := 95) (c' := ch 0 0) rfl fX5_12 rfl ⟨by decide, by decide, rfl⟩ ?_
      refine r_iload1 hX dX5_tasteOf_95 (q := 96) rfl ?_
      refine r_iconst hX dX5_tasteOf_96 (q := 97) rfl (v := nI 0) (by decide +kernel) ?_
      refine r_callV hX dX5_tasteOf_97 (q := 100) rfl (c_X0_eats _ Γ _ 0 (by decide) μ b hC hV _ t rfl (by omega) false) kX5_138 mlX0_eats mvX0_eats rfl rfl (ch_lay (j := 0) (by first | assumption | decide) (by decide) rfl) ⟨by decide, rfl⟩ ⟨by decide, by decide⟩ (Nat.le_of_ble_eq_true rfl) (keI ?_)
      refine r_iret hX hR dX5_tasteOf_100 ?_
      -- leaf 3 at 100
      refine ⟨_, rfl, ?_⟩
      have e := h16_3
      subst e
      exact CO.ok (w := eatT μ t false) (μ' := μ) (by unfold oTasteOf; rw [if_pos ⟨h5, by decide +kernel, by decide +kernel⟩, if_pos rfl, cl_nI (by omega)]) rfl hC fr0
    refine r_tabCase hX dX5_tasteOf_16 4 ⟨by decide, by decide, by decide, rfl, (by decide : (16 : Int) + 85 = (101 : Nat))⟩ (fun h16_4 => ?_) (fun h16_4 => ?_)
    ·
      refine r_aload0 hX dX5_tasteOf_101 (q := 102) rfl ?_
      refine r_getR hX dX5_tasteOf_102 (q := 105) (c' := ch 0 0) rfl fX5_12 rfl ⟨by decide, by decide, rfl⟩ ?_
      refine r_iload1 hX dX5_tasteOf_105 (q := 106) rfl ?_
      refine r_iconst hX dX5_tasteOf_106 (q := 107) rfl (v := nI 0) (by decide +kernel) ?_
      refine r_callV hX dX5_tasteOf_107 (q := 110) rfl (c_X0_moves _ Γ _ 0 (by decide) μ b hC hV _ t rfl (by omega) false) kX5_142 mlX0_moves mvX0_moves rfl rfl (ch_lay (j := 0) (by first | assumption | decide) (by decide) rfl) ⟨by decide, rfl⟩ ⟨by decide, by decide⟩ (Nat.le_of_ble_eq_true rfl) (keI ?_)
      refine r_iret hX hR dX5_tasteOf_110 ?_
      -- leaf 4 at 110
      refine ⟨_, rfl, ?_⟩
      have e := h16_4
      subst e
      exact CO.ok (w := movT μ t false) (μ' := μ) (by unfold oTasteOf; rw [if_pos ⟨h5, by decide +kernel, by decide +kernel⟩, if_neg (by decide +kernel), if_pos rfl, cl_nI (by omega)]) rfl hC fr0
    refine r_tabOut hX dX5_tasteOf_16 (by have z0 := nI_neT h16_0 (by decide); have z1 := nI_neT h16_1 (by decide); have z2 := nI_neT h16_2 (by decide); have z3 := nI_neT h16_3 (by decide); have z4 := nI_neT h16_4 (by decide); omega) (tgt := 111) (by decide) ?_
    refine r_aload0 hX dX5_tasteOf_111 (q := 112) rfl ?_
    refine r_ldc hX dX5_tasteOf_112 (q := 114) rfl qX5_44 ?_
    refine r_callV hX dX5_tasteOf_114 (q := 117) rfl (c_X5_finding _ Γ _ _ 0 (by decide) (by decide +kernel)) kX5_67 mlX5_finding mvX5_finding rfl rfl rfl ⟨by decide, rfl⟩ ⟨by decide, by decide⟩ (Nat.le_of_ble_eq_true rfl) (keI ?_)
    refine r_iret hX hR dX5_tasteOf_117 ?_
    -- leaf 5 at 117
    refine ⟨_, rfl, ?_⟩
    exact CO.fin (k := 0) (if_neg (fun z => notin (n := 4) (w := w) (by decide) (fun j hj => by
      rcases (show j = 0 ∨ j = 1 ∨ j = 2 ∨ j = 3 ∨ j = 4 by omega) with rfl | rfl | rfl | rfl | rfl <;> assumption) (z.2))) (by decide +kernel) hC fr0
  ·
    refine r_aload0 hX dX5_tasteOf_8 (q := 9) rfl ?_
    refine r_ldc hX dX5_tasteOf_9 (q := 11) rfl qX5_44 ?_
    refine r_callV hX dX5_tasteOf_11 (q := 14) rfl (c_X5_finding _ Γ _ _ 0 (by decide) (by decide +kernel)) kX5_67 mlX5_finding mvX5_finding rfl rfl rfl ⟨by decide, rfl⟩ ⟨by decide, by decide⟩ (Nat.le_of_ble_eq_true rfl) (keI ?_)
    refine r_iret hX hR dX5_tasteOf_14 ?_
    -- leaf 6 at 14
    refine ⟨_, rfl, ?_⟩
    exact CO.fin (k := 0) (if_neg (fun z => by rw [h5] at z; exact absurd z.1 (by decide))) (by decide +kernel) hC fr0

set_option maxRecDepth 100000 in
set_option maxHeartbeats 4000000 in
theorem c_X5_change (l : Launch) (Γ : Gam) (G : GG) (μ : MU) (b : Nat) (hC : CR G 0 μ) (hV : Inv b μ) (x w v : Int32) : Sp l yX5_change cX5_change 4 (some .int) 2 44 [.ref (gad Γ 30), .int x, .int w, .int v] Γ G (pI (CO G μ (oChange μ x w v))) := by
  refine Sp_of (own := RX5) rfl (by decide +kernel) rfl (Nat.le_of_ble_eq_true rfl) (fun X hX hR => ?_)
  show WP X Γ 0 [some (.ref (gad Γ 30)), some (.int x), some (.int w), some (.int v)] [] G
  refine r_aload0 hX dX5_change_0 (q := 1) rfl ?_
  refine r_iload1 hX dX5_change_1 (q := 2) rfl ?_
  refine r_callV hX dX5_change_2 (q := 5) rfl (c_X5_isTaste _ Γ _ _ _ (by assumption) (by assumption) _) kX5_126 mlX5_isTaste mvX5_isTaste rfl rfl rfl ⟨by decide, rfl⟩ ⟨by decide, by decide⟩ (Nat.le_of_ble_eq_true rfl) (keB ?_)
  first | with_reducible refine r_ifd_ne hX dX5_change_5 (q := 8) rfl (tgt := 15) (by decide) (fun h5 => ?_) (fun h5 => ?_) | refine r_ifb_ne hX dX5_change_5 (q := 8) rfl (tgt := 15) (by decide) (fun h5 => ?_) (fun h5 => ?_)
  ·
    obtain ⟨n, t, hn, ht, hs, rfl⟩ := (ts_of hV).mp h5
    refine r_iload3 hX dX5_change_15 (q := 16) rfl ?_
    refine r_iload2 hX dX5_change_16 (q := 17) rfl ?_
    refine r_callS hX dX5_change_17 (q := 20) rfl (c_X5_traitLow _ Γ _ _) kX5_145 mlX5_traitLow msX5_traitLow rfl rfl ⟨by decide, by decide⟩ (Nat.le_of_ble_eq_true rfl) (keI ?_)
    refine r_iload2 hX dX5_change_20 (q := 21) rfl ?_
    refine r_callS hX dX5_change_21 (q := 24) rfl (c_X5_traitTop _ Γ _ _) kX5_148 mlX5_traitTop msX5_traitTop rfl rfl ⟨by decide, by decide⟩ (Nat.le_of_ble_eq_true rfl) (keI ?_)
    refine r_callS hX dX5_change_24 (q := 27) rfl (c_X5_within _ Γ _ _ _ _) kX5_45 mlX5_within msX5_within rfl rfl ⟨by decide, by decide⟩ (Nat.le_of_ble_eq_true rfl) (keB ?_)
    first | with_reducible refine r_ifd_ne hX dX5_change_27 (q := 30) rfl (tgt := 37) (by decide) (fun h27 => ?_) (fun h27 => ?_) | refine r_ifb_ne hX dX5_change_27 (q := 30) rfl (tgt := 37) (by decide) (fun h27 => ?_) (fun h27 => ?_)
    ·
      obtain ⟨j, hj, rfl⟩ := trait_of h27
      refine r_aload0 hX dX5_change_37 (q := 38) rfl ?_
      refine r_getR hX dX5_change_38 (q := 41) (c' := ch 0 0) rfl fX5_12 rfl ⟨by decide, by decide, rfl⟩ ?_
      refine r_getR hX dX5_change_41 (q := 44) rfl fX5_49 (ch_lay (j := 0) (by first | assumption | decide) (by decide) rfl) (rC_9 (by first | assumption | decide)) ?_
      refine r_iload2 hX dX5_change_44 (q := 45) rfl ?_
      refine r_callV hX dX5_change_45 (q := 48) rfl (c_X1_row _ Γ _ 0 (by decide) _ j rfl hj) kX5_151 mlX1_row mvX1_row rfl rfl (ch_lay (j := 4) (by first | assumption | decide) (by decide) rfl) ⟨by decide, rfl⟩ ⟨by decide, by decide⟩ (Nat.le_of_ble_eq_true rfl) (keR ?_)
      refine r_iload1 hX dX5_change_48 (q := 49) rfl ?_
      refine r_iload3 hX dX5_change_49 (q := 50) rfl ?_
      refine r_callS hX dX5_change_50 (q := 53) rfl (c_X5_replaced _ Γ _ (ch 0 (5 + j)) (row_lay (by decide) hj) _ t rfl (by omega) _) kX5_74 mlX5_replaced msX5_replaced rfl rfl ⟨by decide, by decide⟩ (Nat.le_of_ble_eq_true rfl) (keI ?_)
      refine r_iret hX hR dX5_change_53 ?_
      -- leaf 0 at 53
      refine ⟨_, rfl, ?_⟩
      exact CO.ok (w := μ (40 + 3 * t + j)) (μ' := upd μ (40 + 3 * t + j) v) (by unfold oChange; rw [if_pos ⟨h5, h27⟩, cl_nI (by omega), cl_nI (by omega)]) (row_val hC (by omega) hj) (row_set hC (by omega) hj v) (fr_C (Fr.rf.up (by omega)) fr0)
    ·
      refine r_aload0 hX dX5_change_30 (q := 31) rfl ?_
      refine r_ldc hX dX5_change_31 (q := 33) rfl qX5_44 ?_
      refine r_callV hX dX5_change_33 (q := 36) rfl (c_X5_finding _ Γ _ _ 0 (by decide) (by decide +kernel)) kX5_67 mlX5_finding mvX5_finding rfl rfl rfl ⟨by decide, rfl⟩ ⟨by decide, by decide⟩ (Nat.le_of_ble_eq_true rfl) (keI ?_)
      refine r_iret hX hR dX5_change_36 ?_
      -- leaf 1 at 36
      refine ⟨_, rfl, ?_⟩
      exact CO.fin (k := 0) (if_neg (fun z => h27 z.2)) (by decide +kernel) hC fr0
  ·
    refine r_aload0 hX dX5_change_8 (q := 9) rfl ?_
    refine r_ldc hX dX5_change_9 (q := 11) rfl qX5_44 ?_
    refine r_callV hX dX5_change_11 (q := 14) rfl (c_X5_finding _ Γ _ _ 0 (by decide) (by decide +kernel)) kX5_67 mlX5_finding mvX5_finding rfl rfl rfl ⟨by decide, rfl⟩ ⟨by decide, by decide⟩ (Nat.le_of_ble_eq_true rfl) (keI ?_)
    refine r_iret hX hR dX5_change_14 ?_
    -- leaf 2 at 14
    refine ⟨_, rfl, ?_⟩
    exact CO.fin (k := 0) (if_neg (fun z => by rw [h5] at z; exact absurd z.1 (by decide))) (by decide +kernel) hC fr0

set_option maxRecDepth 100000 in
set_option maxHeartbeats 4000000 in
theorem c_X5_swap (l : Launch) (Γ : Gam) (G : GG) (μ : MU) (b : Nat) (hC : CR G 0 μ) (hV : Inv b μ) (x y : Int32) : Sp l yX5_swap cX5_swap 3 (some .int) 2 45 [.ref (gad Γ 30), .int x, .int y] Γ G (pI (CO G μ (oSwap μ x y))) := by
  refine Sp_of (own := RX5) rfl (by decide +kernel) rfl (Nat.le_of_ble_eq_true rfl) (fun X hX hR => ?_)
  show WP X Γ 0 [some (.ref (gad Γ 30)), some (.int x), some (.int y)] [] G
  refine r_aload0 hX dX5_swap_0 (q := 1) rfl ?_
  refine r_iload1 hX dX5_swap_1 (q := 2) rfl ?_
  refine r_callV hX dX5_swap_2 (q := 5) rfl (c_X5_isTaste _ Γ _ _ _ (by assumption) (by assumption) _) kX5_126 mlX5_isTaste mvX5_isTaste rfl rfl rfl ⟨by decide, rfl⟩ ⟨by decide, by decide⟩ (Nat.le_of_ble_eq_true rfl) (keB ?_)
  first | with_reducible refine r_ifd_eq hX dX5_swap_5 (q := 8) rfl (tgt := 16) (by decide) (fun h5 => ?_) (fun h5 => ?_) | refine r_ifb_eq hX dX5_swap_5 (q := 8) rfl (tgt := 16) (by decide) (fun h5 => ?_) (fun h5 => ?_)
  ·
    refine r_aload0 hX dX5_swap_16 (q := 17) rfl ?_
    refine r_ldc hX dX5_swap_17 (q := 19) rfl qX5_44 ?_
    refine r_callV hX dX5_swap_19 (q := 22) rfl (c_X5_finding _ Γ _ _ 0 (by decide) (by decide +kernel)) kX5_67 mlX5_finding mvX5_finding rfl rfl rfl ⟨by decide, rfl⟩ ⟨by decide, by decide⟩ (Nat.le_of_ble_eq_true rfl) (keI ?_)
    refine r_iret hX hR dX5_swap_22 ?_
    -- leaf 0 at 22
    refine ⟨_, rfl, ?_⟩
    exact CO.fin (k := 0) (if_neg (fun z => by first | (rw [h5] at z; exact absurd z.1 (by decide)) | (rw [h13] at z; exact absurd z.2 (by decide)))) (by decide +kernel) hC fr0
  ·
    skip
    refine r_aload0 hX dX5_swap_8 (q := 9) rfl ?_
    refine r_iload2 hX dX5_swap_9 (q := 10) rfl ?_
    refine r_callV hX dX5_swap_10 (q := 13) rfl (c_X5_isTaste _ Γ _ _ _ (by assumption) (by assumption) _) kX5_126 mlX5_isTaste mvX5_isTaste rfl rfl rfl ⟨by decide, rfl⟩ ⟨by decide, by decide⟩ (Nat.le_of_ble_eq_true rfl) (keB ?_)
    first | with_reducible refine r_ifd_ne hX dX5_swap_13 (q := 16) rfl (tgt := 23) (by decide) (fun h13 => ?_) (fun h13 => ?_) | refine r_ifb_ne hX dX5_swap_13 (q := 16) rfl (tgt := 23) (by decide) (fun h13 => ?_) (fun h13 => ?_)
    ·
      obtain ⟨na, ta, hna, hta, hsa, rfl⟩ := (ts_of hV).mp h5
      obtain ⟨nb, tb, hnb, htb, hsb, rfl⟩ := (ts_of hV).mp h13
      refine r_aload0 hX dX5_swap_23 (q := 24) rfl ?_
      refine r_getR hX dX5_swap_24 (q := 27) (c' := ch 0 0) rfl fX5_12 rfl ⟨by decide, by decide, rfl⟩ ?_
      refine r_getR hX dX5_swap_27 (q := 30) rfl fX5_49 (ch_lay (j := 0) (by first | assumption | decide) (by decide) rfl) (rC_9 (by first | assumption | decide)) ?_
      refine r_iload1 hX dX5_swap_30 (q := 31) rfl ?_
      refine r_iload2 hX dX5_swap_31 (q := 32) rfl ?_
      refine r_callV hX dX5_swap_32 (q := 35) rfl (c_X1_exchange _ Γ _ 0 (by decide) _ _ ta tb rfl rfl (by omega) (by omega)) kX5_155 mlX1_exchange mvX1_exchange rfl rfl (ch_lay (j := 4) (by first | assumption | decide) (by decide) rfl) ⟨by decide, rfl⟩ ⟨by decide, by decide⟩ (Nat.le_of_ble_eq_true rfl) (keV ?_)
      refine r_iconst hX dX5_swap_35 (q := 36) rfl (v := nI 1) (by decide +kernel) ?_
      refine r_iret hX hR dX5_swap_36 ?_
      -- leaf 1 at 36
      refine ⟨_, rfl, ?_⟩
      exact CO.ok (w := nI 1) (μ' := swM μ ta tb) (by unfold oSwap; rw [if_pos ⟨h5, h13⟩, cl_nI (by omega), cl_nI (by omega)]) rfl (hC.exch (by omega) (by omega)) (fr_C (((Fr.rf.ex (by decide)).ex (by decide)).ex (by decide)) fr0)
    ·
      refine r_aload0 hX dX5_swap_16 (q := 17) rfl ?_
      refine r_ldc hX dX5_swap_17 (q := 19) rfl qX5_44 ?_
      refine r_callV hX dX5_swap_19 (q := 22) rfl (c_X5_finding _ Γ _ _ 0 (by decide) (by decide +kernel)) kX5_67 mlX5_finding mvX5_finding rfl rfl rfl ⟨by decide, rfl⟩ ⟨by decide, by decide⟩ (Nat.le_of_ble_eq_true rfl) (keI ?_)
      refine r_iret hX hR dX5_swap_22 ?_
      -- leaf 2 at 22
      refine ⟨_, rfl, ?_⟩
      exact CO.fin (k := 0) (if_neg (fun z => by first | (rw [h5] at z; exact absurd z.1 (by decide)) | (rw [h13] at z; exact absurd z.2 (by decide)))) (by decide +kernel) hC fr0

set_option maxRecDepth 100000 in
set_option maxHeartbeats 4000000 in
theorem c_X5_drop (l : Launch) (Γ : Gam) (G : GG) (μ : MU) (b : Nat) (hC : CR G 0 μ) (hV : Inv b μ) : Sp l yX5_drop cX5_drop 1 (some .int) 2 44 [.ref (gad Γ 30)] Γ G (pI (CO G μ (oDrop μ))) := by
  refine Sp_of (own := RX5) rfl (by decide +kernel) rfl (Nat.le_of_ble_eq_true rfl) (fun X hX hR => ?_)
  show WP X Γ 0 [some (.ref (gad Γ 30))] [] G
  obtain ⟨n, hn1, hn2⟩ := hV.2.2.1
  have es : G (ch 0 4) 3 = nI n := hC.1.2.2.2.2.2.2.2.2.trans hn2
  refine r_aload0 hX dX5_drop_0 (q := 1) rfl ?_
  refine r_getR hX dX5_drop_1 (q := 4) (c' := ch 0 0) rfl fX5_12 rfl ⟨by decide, by decide, rfl⟩ ?_
  refine r_getR hX dX5_drop_4 (q := 7) rfl fX5_49 (ch_lay (j := 0) (by first | assumption | decide) (by decide) rfl) (rC_9 (by first | assumption | decide)) ?_
  refine r_getI hX dX5_drop_7 (q := 10) rfl fX5_53 (ch_lay (j := 4) (by first | assumption | decide) (by decide) rfl) (rP_3 (by first | assumption | decide)) ?_
  refine r_if_ne hX dX5_drop_10 (q := 13) rfl (tgt := 20) (by decide) (fun h10 => ?_) (fun h10 => ?_)
  ·
    have hn0 : 0 < n := by
      rcases Nat.eq_zero_or_pos n with q | q
      · subst q; exact absurd (by rw [es, nI_0]) h10
      · exact q
    refine r_aload0 hX dX5_drop_20 (q := 21) rfl ?_
    refine r_getR hX dX5_drop_21 (q := 24) (c' := ch 0 0) rfl fX5_12 rfl ⟨by decide, by decide, rfl⟩ ?_
    refine r_getR hX dX5_drop_24 (q := 27) rfl fX5_49 (ch_lay (j := 0) (by first | assumption | decide) (by decide) rfl) (rC_9 (by first | assumption | decide)) ?_
    refine r_dup hX dX5_drop_27 (q := 28) rfl rfl ?_
    refine r_getI hX dX5_drop_28 (q := 31) rfl fX5_53 (ch_lay (j := 4) (by first | assumption | decide) (by decide) rfl) (rP_3 (by first | assumption | decide)) ?_
    refine r_iconst hX dX5_drop_31 (q := 32) rfl (v := nI 1) (by decide +kernel) ?_
    refine r_isub hX dX5_drop_32 (q := 33) rfl ?_
    rw [es, pk_sub (by omega)]
    refine r_put hX dX5_drop_33 (q := 36) rfl fX5_53 wX1_3 rfl rfl (ch_lay (j := 4) (by first | assumption | decide) (by decide) rfl) (rP_3 (by first | assumption | decide)) ?_
    have hC2 := hC.size (nI (n - 1))
    have hF2 : Fr 0 G (up G (ch 0 4) 3 (nI (n - 1))) := Fr.rf.up (by decide)
    generalize up G (ch 0 4) 3 (nI (n - 1)) = G2 at hC2 hF2 ⊢
    have es2 : G2 (ch 0 4) 3 = nI (n - 1) := hC2.1.2.2.2.2.2.2.2.2.trans upd_eq
    refine r_aload0 hX dX5_drop_36 (q := 37) rfl ?_
    refine r_getR hX dX5_drop_37 (q := 40) (c' := ch 0 0) rfl fX5_12 rfl ⟨by decide, by decide, rfl⟩ ?_
    refine r_aload0 hX dX5_drop_40 (q := 41) rfl ?_
    refine r_getR hX dX5_drop_41 (q := 44) (c' := ch 0 0) rfl fX5_12 rfl ⟨by decide, by decide, rfl⟩ ?_
    refine r_getR hX dX5_drop_44 (q := 47) rfl fX5_49 (ch_lay (j := 0) (by first | assumption | decide) (by decide) rfl) (rC_9 (by first | assumption | decide)) ?_
    refine r_getI hX dX5_drop_47 (q := 50) rfl fX5_53 (ch_lay (j := 4) (by first | assumption | decide) (by decide) rfl) (rP_3 (by first | assumption | decide)) ?_
    refine r_callV hX dX5_drop_50 (q := 53) rfl (c_X0_freeSpotsOf _ Γ _ 0 (by decide) _ hC2 _ (n - 1) es2) kX5_158 mlX0_freeSpotsOf mvX0_freeSpotsOf rfl rfl (ch_lay (j := 0) (by first | assumption | decide) (by decide) rfl) ⟨by decide, rfl⟩ ⟨by decide, by decide⟩ (Nat.le_of_ble_eq_true rfl) (kpV (fun G50 p50 => ?_))
    refine r_aload0 hX dX5_drop_53 (q := 54) rfl ?_
    refine r_getR hX dX5_drop_54 (q := 57) (c' := ch 0 0) rfl fX5_12 rfl ⟨by decide, by decide, rfl⟩ ?_
    refine r_getR hX dX5_drop_57 (q := 60) rfl fX5_49 (ch_lay (j := 0) (by first | assumption | decide) (by decide) rfl) (rC_9 (by first | assumption | decide)) ?_
    refine r_getI hX dX5_drop_60 (q := 63) rfl fX5_53 (ch_lay (j := 4) (by first | assumption | decide) (by decide) rfl) (rP_3 (by first | assumption | decide)) ?_
    refine r_iret hX hR dX5_drop_63 ?_
    -- leaf 0 at 63
    refine ⟨_, rfl, ?_⟩
    exact CO.ok (w := nI (n - 1)) (μ' := fsM (upd μ 8 (nI (n - 1))) (n - 1) 10) (by unfold oDrop; rw [hn2, if_neg (nI_ne (by omega) (by decide) (by omega)), cl_nI (by omega)]) (p50.1.1.2.2.2.2.2.2.2.2.trans ((fsM_ne 10 8 (by omega)).trans upd_eq)) p50.1 (fr_C (hF2.tr p50.2) fr0)
  ·
    refine r_aload0 hX dX5_drop_13 (q := 14) rfl ?_
    refine r_ldc hX dX5_drop_14 (q := 16) rfl qX5_110 ?_
    refine r_callV hX dX5_drop_16 (q := 19) rfl (c_X5_finding _ Γ _ _ 3 (by decide) (by decide +kernel)) kX5_67 mlX5_finding mvX5_finding rfl rfl rfl ⟨by decide, rfl⟩ ⟨by decide, by decide⟩ (Nat.le_of_ble_eq_true rfl) (keI ?_)
    refine r_iret hX hR dX5_drop_19 ?_
    -- leaf 1 at 19
    refine ⟨_, rfl, ?_⟩
    exact CO.fin (k := 3) (if_pos (by rw [← nI_0] at h10; rw [hn2, ← es]; exact h10)) (by decide +kernel) hC fr0

set_option maxRecDepth 100000 in
set_option maxHeartbeats 4000000 in
theorem c_X5_meals (l : Launch) (Γ : Gam) (G : GG) (μ : MU) (b : Nat) (hC : CR G 0 μ) (hV : Inv b μ) (hb : b ≤ 100000) (x : Int32) : Sp l yX5_meals cX5_meals 2 (some .int) 5 115 [.ref (gad Γ 30), .int x] Γ G (pI (CO G μ (oMeals μ x))) := by
  refine Sp_of (own := RX5) rfl (by decide +kernel) rfl (Nat.le_of_ble_eq_true rfl) (fun X hX hR => ?_)
  show WP X Γ 0 [some (.ref (gad Γ 30)), some (.int x)] [] G
  refine r_iload1 hX dX5_meals_0 (q := 1) rfl ?_
  refine r_iconst hX dX5_meals_1 (q := 2) rfl (v := nI 1) (by decide +kernel) ?_
  refine r_bipush hX dX5_meals_2 (q := 4) rfl (v := nI 70) (by decide +kernel) ?_
  refine r_callS hX dX5_meals_4 (q := 7) rfl (c_X5_within _ Γ _ _ _ _) kX5_45 mlX5_within msX5_within rfl rfl ⟨by decide, by decide⟩ (Nat.le_of_ble_eq_true rfl) (keB ?_)
  first | with_reducible refine r_ifd_ne hX dX5_meals_7 (q := 10) rfl (tgt := 17) (by decide) (fun h7 => ?_) (fun h7 => ?_) | refine r_ifb_ne hX dX5_meals_7 (q := 10) rfl (tgt := 17) (by decide) (fun h7 => ?_) (fun h7 => ?_)
  ·
    obtain ⟨hx0, hx1, hxe⟩ := ix1_of (by decide) (by decide) h7
    refine r_aload0 hX dX5_meals_17 (q := 18) rfl ?_
    refine r_iload1 hX dX5_meals_18 (q := 19) rfl ?_
    refine r_callV hX dX5_meals_19 (q := 22) rfl (c_X5_isPastLast _ Γ _ _ _ (by assumption) (by assumption) _) kX5_162 mlX5_isPastLast mvX5_isPastLast rfl rfl rfl ⟨by decide, rfl⟩ ⟨by decide, by decide⟩ (Nat.le_of_ble_eq_true rfl) (keB ?_)
    first | with_reducible refine r_ifd_eq hX dX5_meals_22 (q := 25) rfl (tgt := 32) (by decide) (fun h22 => ?_) (fun h22 => ?_) | refine r_ifb_eq hX dX5_meals_22 (q := 25) rfl (tgt := 32) (by decide) (fun h22 => ?_) (fun h22 => ?_)
    ·
      refine r_aload0 hX dX5_meals_32 (q := 33) rfl ?_
      refine r_getR hX dX5_meals_33 (q := 36) (c' := ch 0 0) rfl fX5_12 rfl ⟨by decide, by decide, rfl⟩ ?_
      refine r_iload1 hX dX5_meals_36 (q := 37) rfl ?_
      refine r_callV hX dX5_meals_37 (q := 40) rfl (c_X0_goOn _ Γ _ 0 (by decide) μ b hC hV _ (cl x) hxe (by omega)) kX5_166 mlX0_goOn mvX0_goOn rfl rfl (ch_lay (j := 0) (by first | assumption | decide) (by decide) rfl) ⟨by decide, rfl⟩ ⟨by decide, by decide⟩ (Nat.le_of_ble_eq_true rfl) (kpI (fun v37 G37 p37 => ?_))
      refine r_iret hX hR dX5_meals_40 ?_
      -- leaf 0 at 40
      refine ⟨_, rfl, ?_⟩
      first
        | (exact CO.fin (k := 0) (if_neg h7) (by decide +kernel) hC fr0)
        | (exact CO.fin (k := 4) (by unfold oMeals; rw [if_pos h7]; exact if_pos h22) (by decide +kernel) hC fr0)
        | (exact CO.ok (w := (goF μ (cl x)).1) (μ' := (goF μ (cl x)).2) (by unfold oMeals; rw [if_pos h7]; exact if_neg h22) p37.1 p37.2.1 (fr_C p37.2.2 fr0))
    ·
      refine r_aload0 hX dX5_meals_25 (q := 26) rfl ?_
      refine r_ldc hX dX5_meals_26 (q := 28) rfl qX5_165 ?_
      refine r_callV hX dX5_meals_28 (q := 31) rfl (c_X5_finding _ Γ _ _ 4 (by decide) (by decide +kernel)) kX5_67 mlX5_finding mvX5_finding rfl rfl rfl ⟨by decide, rfl⟩ ⟨by decide, by decide⟩ (Nat.le_of_ble_eq_true rfl) (keI ?_)
      refine r_iret hX hR dX5_meals_31 ?_
      -- leaf 1 at 31
      refine ⟨_, rfl, ?_⟩
      first
        | (exact CO.fin (k := 0) (if_neg h7) (by decide +kernel) hC fr0)
        | (exact CO.fin (k := 4) (by unfold oMeals; rw [if_pos h7]; exact if_pos h22) (by decide +kernel) hC fr0)
        | (exact CO.ok (w := (goF μ (cl x)).1) (μ' := (goF μ (cl x)).2) (by unfold oMeals; rw [if_pos h7]; exact if_neg h22) p37.1 p37.2.1 (fr_C p37.2.2 fr0))
  ·
    refine r_aload0 hX dX5_meals_10 (q := 11) rfl ?_
    refine r_ldc hX dX5_meals_11 (q := 13) rfl qX5_44 ?_
    refine r_callV hX dX5_meals_13 (q := 16) rfl (c_X5_finding _ Γ _ _ 0 (by decide) (by decide +kernel)) kX5_67 mlX5_finding mvX5_finding rfl rfl rfl ⟨by decide, rfl⟩ ⟨by decide, by decide⟩ (Nat.le_of_ble_eq_true rfl) (keI ?_)
    refine r_iret hX hR dX5_meals_16 ?_
    -- leaf 2 at 16
    refine ⟨_, rfl, ?_⟩
    first
      | (exact CO.fin (k := 0) (if_neg h7) (by decide +kernel) hC fr0)
      | (exact CO.fin (k := 4) (by unfold oMeals; rw [if_pos h7]; exact if_pos h22) (by decide +kernel) hC fr0)
      | (exact CO.ok (w := (goF μ (cl x)).1) (μ' := (goF μ (cl x)).2) (by unfold oMeals; rw [if_pos h7]; exact if_neg h22) p37.1 p37.2.1 (fr_C p37.2.2 fr0))

set_option maxRecDepth 100000 in
set_option maxHeartbeats 4000000 in
theorem c_X5_now (l : Launch) (Γ : Gam) (G : GG) (μ : MU) (b : Nat) (hC : CR G 0 μ) (hV : Inv b μ) (hb : b ≤ 100000) (w : Int32) : Sp l yX5_now cX5_now 2 (some .int) 4 85 [.ref (gad Γ 30), .int w] Γ G (pI (CO G μ (oNow μ w))) := by
  refine Sp_of (own := RX5) rfl (by decide +kernel) rfl (Nat.le_of_ble_eq_true rfl) (fun X hX hR => ?_)
  show WP X Γ 0 [some (.ref (gad Γ 30)), some (.int w)] [] G
  refine r_iload1 hX dX5_now_0 (q := 1) rfl ?_
  refine r_tabCase hX dX5_now_1 0 ⟨by decide, by decide, by decide, rfl, (by decide : (1 : Int) + 59 = (60 : Nat))⟩ (fun h1_0 => ?_) (fun h1_0 => ?_)
  ·
    refine r_aload0 hX dX5_now_60 (q := 61) rfl ?_
    refine r_getR hX dX5_now_61 (q := 64) (c' := ch 0 0) rfl fX5_12 rfl ⟨by decide, by decide, rfl⟩ ?_
    refine r_getI hX dX5_now_64 (q := 67) rfl fX5_59 (ch_lay (j := 0) (by first | assumption | decide) (by decide) rfl) (rC_10 (by first | assumption | decide)) ?_
    refine r_iret hX hR dX5_now_67 ?_
    -- leaf 0 at 67
    refine ⟨_, rfl, ?_⟩
    have e := h1_0
    subst e
    exact CO.ok (w := μ 0) (μ' := μ) (by unfold oNow; rw [if_pos ⟨by decide +kernel, by decide +kernel⟩]; rw [if_neg (by decide +kernel), if_neg (by decide +kernel), if_neg (by decide +kernel), if_neg (by decide +kernel)]; rfl) (hC.1.1) hC fr0
  refine r_tabCase hX dX5_now_1 1 ⟨by decide, by decide, by decide, rfl, (by decide : (1 : Int) + 67 = (68 : Nat))⟩ (fun h1_1 => ?_) (fun h1_1 => ?_)
  ·
    refine r_aload0 hX dX5_now_68 (q := 69) rfl ?_
    refine r_getR hX dX5_now_69 (q := 72) (c' := ch 0 0) rfl fX5_12 rfl ⟨by decide, by decide, rfl⟩ ?_
    refine r_getI hX dX5_now_72 (q := 75) rfl fX5_59 (ch_lay (j := 0) (by first | assumption | decide) (by decide) rfl) (rC_10 (by first | assumption | decide)) ?_
    refine r_iconst hX dX5_now_75 (q := 76) rfl (v := nI 5) (by decide +kernel) ?_
    refine r_idiv hX dX5_now_76 (q := 77) rfl (by first | decide +kernel | assumption) ?_
    refine r_iret hX hR dX5_now_77 ?_
    -- leaf 1 at 77
    refine ⟨_, rfl, ?_⟩
    have e := h1_1
    subst e
    exact CO.ok (w := μ 0 / nI 5) (μ' := μ) (by unfold oNow; rw [if_pos ⟨by decide +kernel, by decide +kernel⟩]; rw [if_pos rfl]) (by rw [hC.1.1]) hC fr0
  refine r_tabCase hX dX5_now_1 2 ⟨by decide, by decide, by decide, rfl, (by decide : (1 : Int) + 77 = (78 : Nat))⟩ (fun h1_2 => ?_) (fun h1_2 => ?_)
  ·
    refine r_aload0 hX dX5_now_78 (q := 79) rfl ?_
    refine r_getR hX dX5_now_79 (q := 82) (c' := ch 0 0) rfl fX5_12 rfl ⟨by decide, by decide, rfl⟩ ?_
    refine r_getI hX dX5_now_82 (q := 85) rfl fX5_169 (ch_lay (j := 0) (by first | assumption | decide) (by decide) rfl) (rC_3 (by first | assumption | decide)) ?_
    refine r_iret hX hR dX5_now_85 ?_
    -- leaf 2 at 85
    refine ⟨_, rfl, ?_⟩
    have e := h1_2
    subst e
    exact CO.ok (w := μ 2) (μ' := μ) (by unfold oNow; rw [if_pos ⟨by decide +kernel, by decide +kernel⟩]; rw [if_neg (by decide +kernel), if_neg (by decide +kernel), if_neg (by decide +kernel), if_neg (by decide +kernel)]; rfl) (hC.1.2.2.1) hC fr0
  refine r_tabCase hX dX5_now_1 3 ⟨by decide, by decide, by decide, rfl, (by decide : (1 : Int) + 85 = (86 : Nat))⟩ (fun h1_3 => ?_) (fun h1_3 => ?_)
  ·
    refine r_aload0 hX dX5_now_86 (q := 87) rfl ?_
    refine r_getR hX dX5_now_87 (q := 90) (c' := ch 0 0) rfl fX5_12 rfl ⟨by decide, by decide, rfl⟩ ?_
    refine r_getI hX dX5_now_90 (q := 93) rfl fX5_172 (ch_lay (j := 0) (by first | assumption | decide) (by decide) rfl) (rC_4 (by first | assumption | decide)) ?_
    refine r_iret hX hR dX5_now_93 ?_
    -- leaf 3 at 93
    refine ⟨_, rfl, ?_⟩
    have e := h1_3
    subst e
    exact CO.ok (w := μ 3) (μ' := μ) (by unfold oNow; rw [if_pos ⟨by decide +kernel, by decide +kernel⟩]; rw [if_neg (by decide +kernel), if_neg (by decide +kernel), if_neg (by decide +kernel), if_neg (by decide +kernel)]; rfl) (hC.1.2.2.2.1) hC fr0
  refine r_tabCase hX dX5_now_1 4 ⟨by decide, by decide, by decide, rfl, (by decide : (1 : Int) + 93 = (94 : Nat))⟩ (fun h1_4 => ?_) (fun h1_4 => ?_)
  ·
    refine r_aload0 hX dX5_now_94 (q := 95) rfl ?_
    refine r_getR hX dX5_now_95 (q := 98) (c' := ch 0 0) rfl fX5_12 rfl ⟨by decide, by decide, rfl⟩ ?_
    refine r_getI hX dX5_now_98 (q := 101) rfl fX5_175 (ch_lay (j := 0) (by first | assumption | decide) (by decide) rfl) (rC_5 (by first | assumption | decide)) ?_
    refine r_iret hX hR dX5_now_101 ?_
    -- leaf 4 at 101
    refine ⟨_, rfl, ?_⟩
    have e := h1_4
    subst e
    exact CO.ok (w := μ 4) (μ' := μ) (by unfold oNow; rw [if_pos ⟨by decide +kernel, by decide +kernel⟩]; rw [if_neg (by decide +kernel), if_neg (by decide +kernel), if_neg (by decide +kernel), if_neg (by decide +kernel)]; rfl) (hC.1.2.2.2.2.1) hC fr0
  refine r_tabCase hX dX5_now_1 5 ⟨by decide, by decide, by decide, rfl, (by decide : (1 : Int) + 101 = (102 : Nat))⟩ (fun h1_5 => ?_) (fun h1_5 => ?_)
  ·
    refine r_aload0 hX dX5_now_102 (q := 103) rfl ?_
    refine r_getR hX dX5_now_103 (q := 106) (c' := ch 0 0) rfl fX5_12 rfl ⟨by decide, by decide, rfl⟩ ?_
    refine r_getI hX dX5_now_106 (q := 109) rfl fX5_178 (ch_lay (j := 0) (by first | assumption | decide) (by decide) rfl) (rC_6 (by first | assumption | decide)) ?_
    refine r_iret hX hR dX5_now_109 ?_
    -- leaf 5 at 109
    refine ⟨_, rfl, ?_⟩
    have e := h1_5
    subst e
    exact CO.ok (w := μ 5) (μ' := μ) (by unfold oNow; rw [if_pos ⟨by decide +kernel, by decide +kernel⟩]; rw [if_neg (by decide +kernel), if_neg (by decide +kernel), if_neg (by decide +kernel), if_neg (by decide +kernel)]; rfl) (hC.1.2.2.2.2.2.1) hC fr0
  refine r_tabCase hX dX5_now_1 6 ⟨by decide, by decide, by decide, rfl, (by decide : (1 : Int) + 109 = (110 : Nat))⟩ (fun h1_6 => ?_) (fun h1_6 => ?_)
  ·
    refine r_aload0 hX dX5_now_110 (q := 111) rfl ?_
    refine r_getR hX dX5_now_111 (q := 114) (c' := ch 0 0) rfl fX5_12 rfl ⟨by decide, by decide, rfl⟩ ?_
    refine r_getI hX dX5_now_114 (q := 117) rfl fX5_100 (ch_lay (j := 0) (by first | assumption | decide) (by decide) rfl) (rC_7 (by first | assumption | decide)) ?_
    refine r_iret hX hR dX5_now_117 ?_
    -- leaf 6 at 117
    refine ⟨_, rfl, ?_⟩
    have e := h1_6
    subst e
    exact CO.ok (w := μ 6) (μ' := μ) (by unfold oNow; rw [if_pos ⟨by decide +kernel, by decide +kernel⟩]; rw [if_neg (by decide +kernel), if_neg (by decide +kernel), if_neg (by decide +kernel), if_neg (by decide +kernel)]; rfl) (hC.1.2.2.2.2.2.2.1) hC fr0
  refine r_tabCase hX dX5_now_1 7 ⟨by decide, by decide, by decide, rfl, (by decide : (1 : Int) + 117 = (118 : Nat))⟩ (fun h1_7 => ?_) (fun h1_7 => ?_)
  ·
    refine r_aload0 hX dX5_now_118 (q := 119) rfl ?_
    refine r_getR hX dX5_now_119 (q := 122) (c' := ch 0 0) rfl fX5_12 rfl ⟨by decide, by decide, rfl⟩ ?_
    refine r_getI hX dX5_now_122 (q := 125) rfl fX5_103 (ch_lay (j := 0) (by first | assumption | decide) (by decide) rfl) (rC_8 (by first | assumption | decide)) ?_
    refine r_iret hX hR dX5_now_125 ?_
    -- leaf 7 at 125
    refine ⟨_, rfl, ?_⟩
    have e := h1_7
    subst e
    exact CO.ok (w := μ 7) (μ' := μ) (by unfold oNow; rw [if_pos ⟨by decide +kernel, by decide +kernel⟩]; rw [if_neg (by decide +kernel), if_neg (by decide +kernel), if_neg (by decide +kernel), if_neg (by decide +kernel)]; rfl) (hC.1.2.2.2.2.2.2.2.1) hC fr0
  refine r_tabCase hX dX5_now_1 8 ⟨by decide, by decide, by decide, rfl, (by decide : (1 : Int) + 125 = (126 : Nat))⟩ (fun h1_8 => ?_) (fun h1_8 => ?_)
  ·
    refine r_aload0 hX dX5_now_126 (q := 127) rfl ?_
    refine r_getR hX dX5_now_127 (q := 130) (c' := ch 0 0) rfl fX5_12 rfl ⟨by decide, by decide, rfl⟩ ?_
    refine r_callV hX dX5_now_130 (q := 133) rfl (c_X0_week _ Γ _ _ (by first | assumption | decide) _ _ (by assumption) (by assumption) (by omega)) kX5_181 mlX0_week mvX0_week rfl rfl (ch_lay (j := 0) (by first | assumption | decide) (by decide) rfl) ⟨by decide, rfl⟩ ⟨by decide, by decide⟩ (Nat.le_of_ble_eq_true rfl) (keI ?_)
    refine r_iret hX hR dX5_now_133 ?_
    -- leaf 8 at 133
    refine ⟨_, rfl, ?_⟩
    have e := h1_8
    subst e
    exact CO.ok (w := wkF μ (cl (μ 9))) (μ' := μ) (by unfold oNow; rw [if_pos ⟨by decide +kernel, by decide +kernel⟩]; rw [if_neg (by decide +kernel), if_pos rfl]) (rfl) hC fr0
  refine r_tabCase hX dX5_now_1 9 ⟨by decide, by decide, by decide, rfl, (by decide : (1 : Int) + 133 = (134 : Nat))⟩ (fun h1_9 => ?_) (fun h1_9 => ?_)
  ·
    refine r_aload0 hX dX5_now_134 (q := 135) rfl ?_
    refine r_getR hX dX5_now_135 (q := 138) (c' := ch 0 0) rfl fX5_12 rfl ⟨by decide, by decide, rfl⟩ ?_
    refine r_callV hX dX5_now_138 (q := 141) rfl (c_X0_booked _ Γ _ _ (by first | assumption | decide) _ _ (by assumption) (by assumption) (by omega)) kX5_184 mlX0_booked mvX0_booked rfl rfl (ch_lay (j := 0) (by first | assumption | decide) (by decide) rfl) ⟨by decide, rfl⟩ ⟨by decide, by decide⟩ (Nat.le_of_ble_eq_true rfl) (keI ?_)
    refine r_iret hX hR dX5_now_141 ?_
    -- leaf 9 at 141
    refine ⟨_, rfl, ?_⟩
    have e := h1_9
    subst e
    exact CO.ok (w := nI (cl (μ 9))) (μ' := μ) (by unfold oNow; rw [if_pos ⟨by decide +kernel, by decide +kernel⟩]; rw [if_neg (by decide +kernel), if_neg (by decide +kernel), if_pos rfl]) (rfl) hC fr0
  refine r_tabCase hX dX5_now_1 10 ⟨by decide, by decide, by decide, rfl, (by decide : (1 : Int) + 141 = (142 : Nat))⟩ (fun h1_10 => ?_) (fun h1_10 => ?_)
  ·
    refine r_aload0 hX dX5_now_142 (q := 143) rfl ?_
    refine r_getR hX dX5_now_143 (q := 146) (c' := ch 0 0) rfl fX5_12 rfl ⟨by decide, by decide, rfl⟩ ?_
    refine r_callV hX dX5_now_146 (q := 149) rfl (c_X0_isShort _ Γ _ _ (by first | assumption | decide) _ _ (by assumption) (by assumption) (by omega)) kX5_187 mlX0_isShort mvX0_isShort rfl rfl (ch_lay (j := 0) (by first | assumption | decide) (by decide) rfl) ⟨by decide, rfl⟩ ⟨by decide, by decide⟩ (Nat.le_of_ble_eq_true rfl) (keB ?_)
    first | with_reducible refine r_ifd_eq hX dX5_now_149 (q := 152) rfl (tgt := 156) (by decide) (fun h149 => ?_) (fun h149 => ?_) | refine r_ifb_eq hX dX5_now_149 (q := 152) rfl (tgt := 156) (by decide) (fun h149 => ?_) (fun h149 => ?_)
    ·
      refine r_iconst hX dX5_now_156 (q := 157) rfl (v := nI 0) (by decide +kernel) ?_
      refine r_iret hX hR dX5_now_157 ?_
      -- leaf 10 at 157
      refine ⟨_, rfl, ?_⟩
      have e := h1_10
      subst e
      exact CO.ok (w := bi (shortF μ)) (μ' := μ) (by unfold oNow; rw [if_pos ⟨by decide +kernel, by decide +kernel⟩]; rw [if_neg (by decide +kernel), if_neg (by decide +kernel), if_neg (by decide +kernel), if_pos rfl]) (by rw [h149]; rfl) hC fr0
    ·
      refine r_iconst hX dX5_now_152 (q := 153) rfl (v := nI 1) (by decide +kernel) ?_
      refine r_goto hX dX5_now_153 (tgt := 157) (by decide) ?_
      refine r_iret hX hR dX5_now_157 ?_
      -- leaf 11 at 157
      refine ⟨_, rfl, ?_⟩
      have e := h1_10
      subst e
      exact CO.ok (w := bi (shortF μ)) (μ' := μ) (by unfold oNow; rw [if_pos ⟨by decide +kernel, by decide +kernel⟩]; rw [if_neg (by decide +kernel), if_neg (by decide +kernel), if_neg (by decide +kernel), if_pos rfl]) (by rw [h149]; rfl) hC fr0
  refine r_tabOut hX dX5_now_1 (by have z0 := nI_neT h1_0 (by decide); have z1 := nI_neT h1_1 (by decide); have z2 := nI_neT h1_2 (by decide); have z3 := nI_neT h1_3 (by decide); have z4 := nI_neT h1_4 (by decide); have z5 := nI_neT h1_5 (by decide); have z6 := nI_neT h1_6 (by decide); have z7 := nI_neT h1_7 (by decide); have z8 := nI_neT h1_8 (by decide); have z9 := nI_neT h1_9 (by decide); have z10 := nI_neT h1_10 (by decide); omega) (tgt := 158) (by decide) ?_
  refine r_aload0 hX dX5_now_158 (q := 159) rfl ?_
  refine r_ldc hX dX5_now_159 (q := 161) rfl qX5_44 ?_
  refine r_callV hX dX5_now_161 (q := 164) rfl (c_X5_finding _ Γ _ _ 0 (by decide) (by decide +kernel)) kX5_67 mlX5_finding mvX5_finding rfl rfl rfl ⟨by decide, rfl⟩ ⟨by decide, by decide⟩ (Nat.le_of_ble_eq_true rfl) (keI ?_)
  refine r_iret hX hR dX5_now_164 ?_
  -- leaf 12 at 164
  refine ⟨_, rfl, ?_⟩
  exact CO.fin (k := 0) (if_neg (fun z => notin (n := 10) (w := w) (by decide) (fun j hj => by
    rcases (show j = 0 ∨ j = 1 ∨ j = 2 ∨ j = 3 ∨ j = 4 ∨ j = 5 ∨ j = 6 ∨ j = 7 ∨ j = 8 ∨ j = 9 ∨ j = 10 by omega) with rfl | rfl | rfl | rfl | rfl | rfl | rfl | rfl | rfl | rfl | rfl <;> assumption) (z))) (by decide +kernel) hC fr0

set_option maxRecDepth 100000 in
set_option maxHeartbeats 4000000 in
theorem c_X5_book (l : Launch) (Γ : Gam) (G : GG) (μ : MU) (b : Nat) (hC : CR G 0 μ) (hV : Inv b μ) (hb : b ≤ 100000) (x : Int32) : Sp l yX5_book cX5_book 2 (some .int) 2 44 [.ref (gad Γ 30), .int x] Γ G (pI (CO G μ (oBook μ x))) := by
  refine Sp_of (own := RX5) rfl (by decide +kernel) rfl (Nat.le_of_ble_eq_true rfl) (fun X hX hR => ?_)
  show WP X Γ 0 [some (.ref (gad Γ 30)), some (.int x)] [] G
  have h9 : cl (μ 9) ≤ 35 := b_le hV (by omega)
  refine r_iload1 hX dX5_book_0 (q := 1) rfl ?_
  refine r_iconst hX dX5_book_1 (q := 2) rfl (v := nI 0) (by decide +kernel) ?_
  refine r_aload0 hX dX5_book_2 (q := 3) rfl ?_
  refine r_getR hX dX5_book_3 (q := 6) (c' := ch 0 0) rfl fX5_12 rfl ⟨by decide, by decide, rfl⟩ ?_
  refine r_callV hX dX5_book_6 (q := 9) rfl (c_X0_booked _ Γ _ _ (by first | assumption | decide) _ _ (by assumption) (by assumption) (by omega)) kX5_184 mlX0_booked mvX0_booked rfl rfl (ch_lay (j := 0) (by first | assumption | decide) (by decide) rfl) ⟨by decide, rfl⟩ ⟨by decide, by decide⟩ (Nat.le_of_ble_eq_true rfl) (keI ?_)
  refine r_iconst hX dX5_book_9 (q := 10) rfl (v := nI 1) (by decide +kernel) ?_
  refine r_isub hX dX5_book_10 (q := 11) rfl ?_
  refine r_callS hX dX5_book_11 (q := 14) rfl (c_X5_within _ Γ _ _ _ _) kX5_45 mlX5_within msX5_within rfl rfl ⟨by decide, by decide⟩ (Nat.le_of_ble_eq_true rfl) (keB ?_)
  first | with_reducible refine r_ifd_ne hX dX5_book_14 (q := 17) rfl (tgt := 24) (by decide) (fun h14 => ?_) (fun h14 => ?_) | refine r_ifb_ne hX dX5_book_14 (q := 17) rfl (tgt := 24) (by decide) (fun h14 => ?_) (fun h14 => ?_)
  ·
    obtain ⟨hx1, hxe⟩ := ix_pred (by omega) h14
    refine r_aload0 hX dX5_book_24 (q := 25) rfl ?_
    refine r_getR hX dX5_book_25 (q := 28) (c' := ch 0 0) rfl fX5_12 rfl ⟨by decide, by decide, rfl⟩ ?_
    refine r_iload1 hX dX5_book_28 (q := 29) rfl ?_
    refine r_callV hX dX5_book_29 (q := 32) rfl (c_X0_spoonsAgo _ Γ _ 0 (by decide) μ b hC hV (by omega) _ (cl x) hxe (by omega)) kX5_190 mlX0_spoonsAgo mvX0_spoonsAgo rfl rfl (ch_lay (j := 0) (by first | assumption | decide) (by decide) rfl) ⟨by decide, rfl⟩ ⟨by decide, by decide⟩ (Nat.le_of_ble_eq_true rfl) (keI ?_)
    refine r_iret hX hR dX5_book_32 ?_
    -- leaf 0 at 32
    refine ⟨_, rfl, ?_⟩
    exact CO.ok (w := μ (80 + cl x)) (μ' := μ) (if_pos h14) rfl hC fr0
  ·
    refine r_aload0 hX dX5_book_17 (q := 18) rfl ?_
    refine r_ldc hX dX5_book_18 (q := 20) rfl qX5_44 ?_
    refine r_callV hX dX5_book_20 (q := 23) rfl (c_X5_finding _ Γ _ _ 0 (by decide) (by decide +kernel)) kX5_67 mlX5_finding mvX5_finding rfl rfl rfl ⟨by decide, rfl⟩ ⟨by decide, by decide⟩ (Nat.le_of_ble_eq_true rfl) (keI ?_)
    refine r_iret hX hR dX5_book_23 ?_
    -- leaf 1 at 23
    refine ⟨_, rfl, ?_⟩
    exact CO.fin (k := 0) (if_neg h14) (by decide +kernel) hC fr0

set_option maxRecDepth 100000 in
set_option maxHeartbeats 4000000 in
theorem c_X5_day (l : Launch) (Γ : Gam) (G : GG) (μ : MU) (b : Nat) (hC : CR G 0 μ) (hV : Inv b μ) (hb : b ≤ 100000) (x : Int32) : Sp l yX5_day cX5_day 6 (some .int) 2 44 [.ref (gad Γ 30), .int x] Γ G (pI (CO G μ (oDay μ x))) := by
  refine Sp_of (own := RX5) rfl (by decide +kernel) rfl (Nat.le_of_ble_eq_true rfl) (fun X hX hR => ?_)
  show WP X Γ 0 [some (.ref (gad Γ 30)), some (.int x), none, none, none, none] [] G
  have h9 : cl (μ 9) ≤ 35 := b_le hV (by omega)
  have em : G (ch 0 0) 10 = μ 0 := hC.1.1
  refine r_iload1 hX dX5_day_0 (q := 1) rfl ?_
  refine r_iconst hX dX5_day_1 (q := 2) rfl (v := nI 0) (by decide +kernel) ?_
  refine r_bipush hX dX5_day_2 (q := 4) rfl (v := nI 7) (by decide +kernel) ?_
  refine r_callS hX dX5_day_4 (q := 7) rfl (c_X5_within _ Γ _ _ _ _) kX5_45 mlX5_within msX5_within rfl rfl ⟨by decide, by decide⟩ (Nat.le_of_ble_eq_true rfl) (keB ?_)
  first | with_reducible refine r_ifd_ne hX dX5_day_7 (q := 10) rfl (tgt := 17) (by decide) (fun h7 => ?_) (fun h7 => ?_) | refine r_ifb_ne hX dX5_day_7 (q := 10) rfl (tgt := 17) (by decide) (fun h7 => ?_) (fun h7 => ?_)
  ·
    refine r_aload0 hX dX5_day_17 (q := 18) rfl ?_
    refine r_getR hX dX5_day_18 (q := 21) (c' := ch 0 0) rfl fX5_12 rfl ⟨by decide, by decide, rfl⟩ ?_
    refine r_callV hX dX5_day_21 (q := 24) rfl (c_X0_booked _ Γ _ _ (by first | assumption | decide) _ _ (by assumption) (by assumption) (by omega)) kX5_184 mlX0_booked mvX0_booked rfl rfl (ch_lay (j := 0) (by first | assumption | decide) (by decide) rfl) ⟨by decide, rfl⟩ ⟨by decide, by decide⟩ (Nat.le_of_ble_eq_true rfl) (keI ?_)
    refine r_if_ne hX dX5_day_24 (q := 27) rfl (tgt := 34) (by decide) (fun h24 => ?_) (fun h24 => ?_)
    ·
      refine r_aload0 hX dX5_day_34 (q := 35) rfl ?_
      refine r_getR hX dX5_day_35 (q := 38) (c' := ch 0 0) rfl fX5_12 rfl ⟨by decide, by decide, rfl⟩ ?_
      refine r_getI hX dX5_day_38 (q := 41) rfl fX5_59 (ch_lay (j := 0) (by first | assumption | decide) (by decide) rfl) (rC_10 (by first | assumption | decide)) ?_
      refine r_iconst hX dX5_day_41 (q := 42) rfl (v := nI 1) (by decide +kernel) ?_
      refine r_isub hX dX5_day_42 (q := 43) rfl ?_
      refine r_istore2 hX dX5_day_43 (q := 44) rfl rfl ?_
      refine r_iload2 hX dX5_day_44 (q := 45) rfl ?_
      refine r_iconst hX dX5_day_45 (q := 46) rfl (v := nI 5) (by decide +kernel) ?_
      refine r_idiv hX dX5_day_46 (q := 47) rfl (by first | decide +kernel | assumption) ?_
      refine r_iload1 hX dX5_day_47 (q := 48) rfl ?_
      refine r_isub hX dX5_day_48 (q := 49) rfl ?_
      refine r_istore3 hX dX5_day_49 (q := 50) rfl rfl ?_
      refine r_iconst hX dX5_day_50 (q := 51) rfl (v := nI 0) (by decide +kernel) ?_
      refine r_istore4 hX dX5_day_51 (q := 53) rfl rfl ?_
      refine r_iconst hX dX5_day_53 (q := 54) rfl (v := nI 0) (by decide +kernel) ?_
      refine r_istore5 hX dX5_day_54 (q := 56) rfl rfl ?_
      have L56 : ∀ (zn56 : Nat) (k : Nat) (e : Int32), zn56 = cl (μ 9) - k → (k ≤ cl (μ 9)) → (e = dyF μ x k) → WP X Γ 56 [some (.ref (gad Γ 30)), some (.int x), some (.int (G (ch 0 0) 10 - nI 1)), some (.int ((G (ch 0 0) 10 - nI 1) / nI 5 - x)), some (.int e), some (.int (nI k))] [] G := by
        intro zn56
        induction zn56 using Nat.strongRecOn with
        | _ zn56 ih56 =>
          intro k e zh56 hk he
          refine r_iload5 hX dX5_day_56 (q := 58) rfl ?_
          refine r_aload0 hX dX5_day_58 (q := 59) rfl ?_
          refine r_getR hX dX5_day_59 (q := 62) (c' := ch 0 0) rfl fX5_12 rfl ⟨by decide, by decide, rfl⟩ ?_
          refine r_callV hX dX5_day_62 (q := 65) rfl (c_X0_booked _ Γ _ _ (by first | assumption | decide) _ _ (by assumption) (by assumption) (by omega)) kX5_184 mlX0_booked mvX0_booked rfl rfl (ch_lay (j := 0) (by first | assumption | decide) (by decide) rfl) ⟨by decide, rfl⟩ ⟨by decide, by decide⟩ (Nat.le_of_ble_eq_true rfl) (keI ?_)
          first | refine r_icmpN_ge hX dX5_day_65 (q := 68) rfl (tgt := 98) (by decide) (by first | decide | omega) (by first | decide | omega) (fun h65 => ?_) (fun h65 => ?_) | refine r_icmp_ge hX dX5_day_65 (q := 68) rfl (tgt := 98) (by decide) (fun h65 => ?_) (fun h65 => ?_)
          ·
            refine r_iload4 hX dX5_day_98 (q := 100) rfl ?_
            refine r_iret hX hR dX5_day_100 ?_
            -- leaf 0 at 100
            refine ⟨_, rfl, ?_⟩
            have : k = cl (μ 9) := by omega
            subst this
            exact CO.ok (w := dyF μ x (cl (μ 9))) (μ' := μ) (by unfold oDay; rw [if_pos h7]; exact if_neg (fun z => h24 (by rw [z, nI_0]))) he hC fr0
          ·
            refine r_iload2 hX dX5_day_68 (q := 69) rfl ?_
            refine r_iload5 hX dX5_day_69 (q := 71) rfl ?_
            refine r_isub hX dX5_day_71 (q := 72) rfl ?_
            refine r_iconst hX dX5_day_72 (q := 73) rfl (v := nI 5) (by decide +kernel) ?_
            refine r_idiv hX dX5_day_73 (q := 74) rfl (by first | decide +kernel | assumption) ?_
            refine r_iload3 hX dX5_day_74 (q := 75) rfl ?_
            first | refine r_icmpN_ne hX dX5_day_75 (q := 78) rfl (tgt := 92) (by decide) (by first | decide | omega) (by first | decide | omega) (fun h75 => ?_) (fun h75 => ?_) | refine r_icmp_ne hX dX5_day_75 (q := 78) rfl (tgt := 92) (by decide) (fun h75 => ?_) (fun h75 => ?_)
            ·
              refine r_iincN5 hX dX5_day_92 (q := 95) rfl rfl ?_
              refine r_goto hX dX5_day_95 (tgt := 56) (by decide) ?_
              refine ih56 _ ?_ (k + 1) _ rfl ?_ ?_
              ·
                omega
              ·
                omega
              ·
                rw [em] at h75
                unfold dyF
                rw [he]
                first | exact (if_pos h75).symm | exact (if_neg h75).symm
            ·
              refine r_iload4 hX dX5_day_78 (q := 80) rfl ?_
              refine r_aload0 hX dX5_day_80 (q := 81) rfl ?_
              refine r_getR hX dX5_day_81 (q := 84) (c' := ch 0 0) rfl fX5_12 rfl ⟨by decide, by decide, rfl⟩ ?_
              refine r_iload5 hX dX5_day_84 (q := 86) rfl ?_
              refine r_callV hX dX5_day_86 (q := 89) rfl (c_X0_spoonsAgo _ Γ _ _ (by first | assumption | decide) _ _ (by assumption) (by assumption) (by omega) _ _ (by repeat' (first | assumption | with_reducible exact rfl | refine e_add ?_ ?_ | refine e_mul ?_ ?_)) (by first | assumption | omega)) kX5_190 mlX0_spoonsAgo mvX0_spoonsAgo rfl rfl (ch_lay (j := 0) (by first | assumption | decide) (by decide) rfl) ⟨by decide, rfl⟩ ⟨by decide, by decide⟩ (Nat.le_of_ble_eq_true rfl) (keI ?_)
              refine r_iadd hX dX5_day_89 (q := 90) rfl ?_
              refine r_istore4 hX dX5_day_90 (q := 92) rfl rfl ?_
              refine r_iincN5 hX dX5_day_92 (q := 95) rfl rfl ?_
              refine r_goto hX dX5_day_95 (tgt := 56) (by decide) ?_
              refine ih56 _ ?_ (k + 1) _ rfl ?_ ?_
              ·
                omega
              ·
                omega
              ·
                rw [em] at h75
                unfold dyF
                rw [he]
                first | exact (if_pos h75).symm | exact (if_neg h75).symm
      refine L56 _ 0 _ rfl ?_ ?_
      ·
        exact Nat.zero_le _
      ·
        rfl
    ·
      refine r_aload0 hX dX5_day_27 (q := 28) rfl ?_
      refine r_ldc hX dX5_day_28 (q := 30) rfl qX5_110 ?_
      refine r_callV hX dX5_day_30 (q := 33) rfl (c_X5_finding _ Γ _ _ 3 (by decide) (by decide +kernel)) kX5_67 mlX5_finding mvX5_finding rfl rfl rfl ⟨by decide, rfl⟩ ⟨by decide, by decide⟩ (Nat.le_of_ble_eq_true rfl) (keI ?_)
      refine r_iret hX hR dX5_day_33 ?_
      -- leaf 1 at 33
      refine ⟨_, rfl, ?_⟩
      exact CO.fin (k := 3) (by unfold oDay; rw [if_pos h7]; exact if_pos (nz_of (by omega) h24)) (by decide +kernel) hC fr0
  ·
    refine r_aload0 hX dX5_day_10 (q := 11) rfl ?_
    refine r_ldc hX dX5_day_11 (q := 13) rfl qX5_44 ?_
    refine r_callV hX dX5_day_13 (q := 16) rfl (c_X5_finding _ Γ _ _ 0 (by decide) (by decide +kernel)) kX5_67 mlX5_finding mvX5_finding rfl rfl rfl ⟨by decide, rfl⟩ ⟨by decide, by decide⟩ (Nat.le_of_ble_eq_true rfl) (keI ?_)
    refine r_iret hX hR dX5_day_16 ?_
    -- leaf 2 at 16
    refine ⟨_, rfl, ?_⟩
    exact CO.fin (k := 0) (if_neg h7) (by decide +kernel) hC fr0

set_option maxRecDepth 100000 in
set_option maxHeartbeats 4000000 in
theorem c_X5_spread (l : Launch) (Γ : Gam) (G : GG) (μ : MU) (b : Nat) (hC : CR G 0 μ) (hV : Inv b μ) (hb : b ≤ 100000) : Sp l yX5_spread cX5_spread 4 (some .int) 2 44 [.ref (gad Γ 30)] Γ G (pI (CO G μ (oSpread μ))) := by
  refine Sp_of (own := RX5) rfl (by decide +kernel) rfl (Nat.le_of_ble_eq_true rfl) (fun X hX hR => ?_)
  show WP X Γ 0 [some (.ref (gad Γ 30)), none, none, none] [] G
  have h9 : cl (μ 9) ≤ 35 := b_le hV (by omega)
  refine r_aload0 hX dX5_spread_0 (q := 1) rfl ?_
  refine r_getR hX dX5_spread_1 (q := 4) (c' := ch 0 0) rfl fX5_12 rfl ⟨by decide, by decide, rfl⟩ ?_
  refine r_callV hX dX5_spread_4 (q := 7) rfl (c_X0_booked _ Γ _ _ (by first | assumption | decide) _ _ (by assumption) (by assumption) (by omega)) kX5_184 mlX0_booked mvX0_booked rfl rfl (ch_lay (j := 0) (by first | assumption | decide) (by decide) rfl) ⟨by decide, rfl⟩ ⟨by decide, by decide⟩ (Nat.le_of_ble_eq_true rfl) (keI ?_)
  refine r_if_ne hX dX5_spread_7 (q := 10) rfl (tgt := 17) (by decide) (fun h7 => ?_) (fun h7 => ?_)
  ·
    have h0 : 0 < cl (μ 9) := Nat.pos_of_ne_zero (fun z => h7 (by rw [z, nI_0]))
    refine r_aload0 hX dX5_spread_17 (q := 18) rfl ?_
    refine r_getR hX dX5_spread_18 (q := 21) (c' := ch 0 0) rfl fX5_12 rfl ⟨by decide, by decide, rfl⟩ ?_
    refine r_iconst hX dX5_spread_21 (q := 22) rfl (v := nI 0) (by decide +kernel) ?_
    refine r_callV hX dX5_spread_22 (q := 25) rfl (c_X0_spoonsAgo _ Γ _ _ (by first | assumption | decide) _ _ (by assumption) (by assumption) (by omega) _ _ (by repeat' (first | assumption | with_reducible exact rfl | refine e_add ?_ ?_ | refine e_mul ?_ ?_)) (by first | assumption | omega)) kX5_190 mlX0_spoonsAgo mvX0_spoonsAgo rfl rfl (ch_lay (j := 0) (by first | assumption | decide) (by decide) rfl) ⟨by decide, rfl⟩ ⟨by decide, by decide⟩ (Nat.le_of_ble_eq_true rfl) (keI ?_)
    refine r_istore1 hX dX5_spread_25 (q := 26) rfl rfl ?_
    refine r_iload1 hX dX5_spread_26 (q := 27) rfl ?_
    refine r_istore2 hX dX5_spread_27 (q := 28) rfl rfl ?_
    refine r_iconst hX dX5_spread_28 (q := 29) rfl (v := nI 1) (by decide +kernel) ?_
    refine r_istore3 hX dX5_spread_29 (q := 30) rfl rfl ?_
    have L30 : ∀ (zn30 : Nat) (k : Nat) (e g : Int32), zn30 = cl (μ 9) - k → (k < cl (μ 9)) → (e = loF μ k) → (g = hiF μ k) → WP X Γ 30 [some (.ref (gad Γ 30)), some (.int e), some (.int g), some (.int (nI (k + 1)))] [] G := by
      intro zn30
      induction zn30 using Nat.strongRecOn with
      | _ zn30 ih30 =>
        intro k e g zh30 hk he hg
        refine r_iload3 hX dX5_spread_30 (q := 31) rfl ?_
        refine r_aload0 hX dX5_spread_31 (q := 32) rfl ?_
        refine r_getR hX dX5_spread_32 (q := 35) (c' := ch 0 0) rfl fX5_12 rfl ⟨by decide, by decide, rfl⟩ ?_
        refine r_callV hX dX5_spread_35 (q := 38) rfl (c_X0_booked _ Γ _ _ (by first | assumption | decide) _ _ (by assumption) (by assumption) (by omega)) kX5_184 mlX0_booked mvX0_booked rfl rfl (ch_lay (j := 0) (by first | assumption | decide) (by decide) rfl) ⟨by decide, rfl⟩ ⟨by decide, by decide⟩ (Nat.le_of_ble_eq_true rfl) (keI ?_)
        first | refine r_icmpN_ge hX dX5_spread_38 (q := 41) rfl (tgt := 73) (by decide) (by first | decide | omega) (by first | decide | omega) (fun h38 => ?_) (fun h38 => ?_) | refine r_icmp_ge hX dX5_spread_38 (q := 41) rfl (tgt := 73) (by decide) (fun h38 => ?_) (fun h38 => ?_)
        ·
          refine r_iload2 hX dX5_spread_73 (q := 74) rfl ?_
          refine r_iload1 hX dX5_spread_74 (q := 75) rfl ?_
          refine r_isub hX dX5_spread_75 (q := 76) rfl ?_
          refine r_iret hX hR dX5_spread_76 ?_
          -- leaf 0 at 76
          refine ⟨_, rfl, ?_⟩
          have e1 : cl (μ 9) - 1 = k := by omega
          exact CO.ok (w := hiF μ (cl (μ 9) - 1) - loF μ (cl (μ 9) - 1)) (μ' := μ) (if_neg (by omega)) (by rw [he, hg, e1]) hC fr0
        ·
          refine r_iload1 hX dX5_spread_41 (q := 42) rfl ?_
          refine r_aload0 hX dX5_spread_42 (q := 43) rfl ?_
          refine r_getR hX dX5_spread_43 (q := 46) (c' := ch 0 0) rfl fX5_12 rfl ⟨by decide, by decide, rfl⟩ ?_
          refine r_iload3 hX dX5_spread_46 (q := 47) rfl ?_
          refine r_callV hX dX5_spread_47 (q := 50) rfl (c_X0_spoonsAgo _ Γ _ _ (by first | assumption | decide) _ _ (by assumption) (by assumption) (by omega) _ _ (by repeat' (first | assumption | with_reducible exact rfl | refine e_add ?_ ?_ | refine e_mul ?_ ?_)) (by first | assumption | omega)) kX5_190 mlX0_spoonsAgo mvX0_spoonsAgo rfl rfl (ch_lay (j := 0) (by first | assumption | decide) (by decide) rfl) ⟨by decide, rfl⟩ ⟨by decide, by decide⟩ (Nat.le_of_ble_eq_true rfl) (keI ?_)
          refine r_mmin hX dX5_spread_50 (q := 53) rfl kX5_193 msMathmin ⟨by decide, Nat.le_of_ble_eq_true rfl⟩ ?_
          refine r_istore1 hX dX5_spread_53 (q := 54) rfl rfl ?_
          refine r_iload2 hX dX5_spread_54 (q := 55) rfl ?_
          refine r_aload0 hX dX5_spread_55 (q := 56) rfl ?_
          refine r_getR hX dX5_spread_56 (q := 59) (c' := ch 0 0) rfl fX5_12 rfl ⟨by decide, by decide, rfl⟩ ?_
          refine r_iload3 hX dX5_spread_59 (q := 60) rfl ?_
          refine r_callV hX dX5_spread_60 (q := 63) rfl (c_X0_spoonsAgo _ Γ _ _ (by first | assumption | decide) _ _ (by assumption) (by assumption) (by omega) _ _ (by repeat' (first | assumption | with_reducible exact rfl | refine e_add ?_ ?_ | refine e_mul ?_ ?_)) (by first | assumption | omega)) kX5_190 mlX0_spoonsAgo mvX0_spoonsAgo rfl rfl (ch_lay (j := 0) (by first | assumption | decide) (by decide) rfl) ⟨by decide, rfl⟩ ⟨by decide, by decide⟩ (Nat.le_of_ble_eq_true rfl) (keI ?_)
          refine r_mmax hX dX5_spread_63 (q := 66) rfl kX5_199 msMathmax ⟨by decide, Nat.le_of_ble_eq_true rfl⟩ ?_
          refine r_istore2 hX dX5_spread_66 (q := 67) rfl rfl ?_
          refine r_iincN3 hX dX5_spread_67 (q := 70) rfl rfl ?_
          refine r_goto hX dX5_spread_70 (tgt := 30) (by decide) ?_
          refine ih30 _ ?_ (k + 1) _ _ rfl ?_ ?_ ?_
          ·
            omega
          ·
            omega
          ·
            rw [he]; rfl
          ·
            rw [hg]; rfl
    refine L30 _ 0 _ _ rfl ?_ ?_ ?_
    ·
      exact h0
    ·
      rfl
    ·
      rfl
  ·
    refine r_aload0 hX dX5_spread_10 (q := 11) rfl ?_
    refine r_ldc hX dX5_spread_11 (q := 13) rfl qX5_110 ?_
    refine r_callV hX dX5_spread_13 (q := 16) rfl (c_X5_finding _ Γ _ _ 3 (by decide) (by decide +kernel)) kX5_67 mlX5_finding mvX5_finding rfl rfl rfl ⟨by decide, rfl⟩ ⟨by decide, by decide⟩ (Nat.le_of_ble_eq_true rfl) (keI ?_)
    refine r_iret hX hR dX5_spread_16 ?_
    -- leaf 1 at 16
    refine ⟨_, rfl, ?_⟩
    exact CO.fin (k := 3) (if_pos (nz_of (by omega) h7)) (by decide +kernel) hC fr0

set_option maxRecDepth 100000 in
set_option maxHeartbeats 4000000 in
theorem c_X5_ahead (l : Launch) (Γ : Gam) (G : GG) (μ : MU) (b : Nat) (hC : CR G 0 μ) (hV : Inv b μ) (hb : b ≤ 100000) (x w : Int32) : Sp l yX5_ahead cX5_ahead 4 (some .int) 5 115 [.ref (gad Γ 30), .int x, .int w] Γ G (pI (CO G μ (oAhead μ x w))) := by
  refine Sp_of (own := RX5) rfl (by decide +kernel) rfl (Nat.le_of_ble_eq_true rfl) (fun X hX hR => ?_)
  show WP X Γ 0 [some (.ref (gad Γ 30)), some (.int x), some (.int w), none] [] G
  refine r_iload1 hX dX5_ahead_0 (q := 1) rfl ?_
  refine r_iconst hX dX5_ahead_1 (q := 2) rfl (v := nI 0) (by decide +kernel) ?_
  refine r_sipush hX dX5_ahead_2 (q := 5) rfl (v := nI 350) (by decide +kernel) ?_
  refine r_callS hX dX5_ahead_5 (q := 8) rfl (c_X5_within _ Γ _ _ _ _) kX5_45 mlX5_within msX5_within rfl rfl ⟨by decide, by decide⟩ (Nat.le_of_ble_eq_true rfl) (keB ?_)
  first | with_reducible refine r_ifd_eq hX dX5_ahead_8 (q := 11) rfl (tgt := 21) (by decide) (fun h8 => ?_) (fun h8 => ?_) | refine r_ifb_eq hX dX5_ahead_8 (q := 11) rfl (tgt := 21) (by decide) (fun h8 => ?_) (fun h8 => ?_)
  ·
    refine r_aload0 hX dX5_ahead_21 (q := 22) rfl ?_
    refine r_ldc hX dX5_ahead_22 (q := 24) rfl qX5_44 ?_
    refine r_callV hX dX5_ahead_24 (q := 27) rfl (c_X5_finding _ Γ _ _ 0 (by decide) (by decide +kernel)) kX5_67 mlX5_finding mvX5_finding rfl rfl rfl ⟨by decide, rfl⟩ ⟨by decide, by decide⟩ (Nat.le_of_ble_eq_true rfl) (keI ?_)
    refine r_iret hX hR dX5_ahead_27 ?_
    -- leaf 0 at 27
    refine ⟨_, rfl, ?_⟩
    first
      | exact CO.fin (k := 0) (if_neg (fun z => h8 z.1)) (by decide +kernel) hC fr0
      | exact CO.fin (k := 0) (if_neg (fun z => h18 z.2)) (by decide +kernel) hC fr0
  ·
    obtain ⟨hxl, hxe⟩ := ix_of (by decide) h8
    refine r_iload2 hX dX5_ahead_11 (q := 12) rfl ?_
    refine r_iconst hX dX5_ahead_12 (q := 13) rfl (v := nI 0) (by decide +kernel) ?_
    refine r_bipush hX dX5_ahead_13 (q := 15) rfl (v := nI 13) (by decide +kernel) ?_
    refine r_callS hX dX5_ahead_15 (q := 18) rfl (c_X5_within _ Γ _ _ _ _) kX5_45 mlX5_within msX5_within rfl rfl ⟨by decide, by decide⟩ (Nat.le_of_ble_eq_true rfl) (keB ?_)
    first | with_reducible refine r_ifd_ne hX dX5_ahead_18 (q := 21) rfl (tgt := 28) (by decide) (fun h18 => ?_) (fun h18 => ?_) | refine r_ifb_ne hX dX5_ahead_18 (q := 21) rfl (tgt := 28) (by decide) (fun h18 => ?_) (fun h18 => ?_)
    ·
      refine r_aload0 hX dX5_ahead_28 (q := 29) rfl ?_
      refine r_iload1 hX dX5_ahead_29 (q := 30) rfl ?_
      refine r_callV hX dX5_ahead_30 (q := 33) rfl (c_X5_isPastLast _ Γ _ _ _ (by assumption) (by assumption) _) kX5_162 mlX5_isPastLast mvX5_isPastLast rfl rfl rfl ⟨by decide, rfl⟩ ⟨by decide, by decide⟩ (Nat.le_of_ble_eq_true rfl) (keB ?_)
      first | with_reducible refine r_ifd_eq hX dX5_ahead_33 (q := 36) rfl (tgt := 43) (by decide) (fun h33 => ?_) (fun h33 => ?_) | refine r_ifb_eq hX dX5_ahead_33 (q := 36) rfl (tgt := 43) (by decide) (fun h33 => ?_) (fun h33 => ?_)
      ·
        refine r_aload0 hX dX5_ahead_43 (q := 44) rfl ?_
        refine r_getR hX dX5_ahead_44 (q := 47) (c' := ch 1 0) rfl fX5_16 rfl ⟨by decide, by decide, rfl⟩ ?_
        refine r_aload0 hX dX5_ahead_47 (q := 48) rfl ?_
        refine r_getR hX dX5_ahead_48 (q := 51) (c' := ch 0 0) rfl fX5_12 rfl ⟨by decide, by decide, rfl⟩ ?_
        refine r_callV hX dX5_ahead_51 (q := 54) rfl (c_X0_become _ Γ _ 1 0 (by decide) (by decide) (by decide) μ hC) kX5_202 mlX0_become mvX0_become rfl rfl (ch_lay (j := 0) (by first | assumption | decide) (by decide) rfl) ⟨by decide, rfl⟩ ⟨by decide, by decide⟩ (Nat.le_of_ble_eq_true rfl) (kpV (fun G51 p51 => ?_))
        refine r_aload0 hX dX5_ahead_54 (q := 55) rfl ?_
        refine r_getR hX dX5_ahead_55 (q := 58) (c' := ch 1 0) rfl fX5_16 rfl ⟨by decide, by decide, rfl⟩ ?_
        refine r_iload1 hX dX5_ahead_58 (q := 59) rfl ?_
        refine r_callV hX dX5_ahead_59 (q := 62) rfl (c_X0_goOn _ Γ _ 1 (by decide) μ b p51.1 hV _ (cl x) hxe (by omega)) kX5_166 mlX0_goOn mvX0_goOn rfl rfl (ch_lay (j := 0) (by first | assumption | decide) (by decide) rfl) ⟨by decide, rfl⟩ ⟨by decide, by decide⟩ (Nat.le_of_ble_eq_true rfl) (kpI (fun v59 G59 p59 => ?_))
        have hCc := cr_T (cr_T hC p51.2) p59.2.2
        have hFf := fr_T p59.2.2 (fr_T p51.2 (fr0 (G := G)))
        have ho : ∀ r, aheadV (goF μ (cl x)) w = r → oAhead μ x w = .inr (r, μ) := by
          intro r hr
          unfold oAhead
          rw [if_pos ⟨h8, h18⟩, if_neg h33, hr]
        refine r_istore3 hX dX5_ahead_62 (q := 63) rfl rfl ?_
        refine r_iload2 hX dX5_ahead_63 (q := 64) rfl ?_
        refine r_tabCase hX dX5_ahead_64 0 ⟨by decide, by decide, by decide, rfl, (by decide : (64 : Int) + 32 = (96 : Nat))⟩ (fun h64_0 => ?_) (fun h64_0 => ?_)
        ·
          refine r_iload3 hX dX5_ahead_96 (q := 97) rfl ?_
          refine r_iret hX hR dX5_ahead_97 ?_
          -- leaf 1 at 97
          refine ⟨_, rfl, ?_⟩
          exact CO.ok (ho _ (if_pos h64_0)) p59.1 hCc hFf
        refine r_tabCase hX dX5_ahead_64 1 ⟨by decide, by decide, by decide, rfl, (by decide : (64 : Int) + 34 = (98 : Nat))⟩ (fun h64_1 => ?_) (fun h64_1 => ?_)
        ·
          refine r_aload0 hX dX5_ahead_98 (q := 99) rfl ?_
          refine r_getR hX dX5_ahead_99 (q := 102) (c' := ch 1 0) rfl fX5_16 rfl ⟨by decide, by decide, rfl⟩ ?_
          refine r_callV hX dX5_ahead_102 (q := 105) rfl (c_X0_likedSet _ Γ _ 1 (by decide) _ (b + cl x) p59.2.1 (hV.go (cl x) (by omega))) kX5_106 mlX0_likedSet mvX0_likedSet rfl rfl (ch_lay (j := 0) (by first | assumption | decide) (by decide) rfl) ⟨by decide, rfl⟩ ⟨by decide, by decide⟩ (Nat.le_of_ble_eq_true rfl) (keI ?_)
          refine r_iret hX hR dX5_ahead_105 ?_
          -- leaf 2 at 105
          refine ⟨_, rfl, ?_⟩
          exact CO.ok (ho _ (by unfold aheadV; rw [if_neg h64_0, if_pos h64_1])) rfl hCc hFf
        refine r_tabCase hX dX5_ahead_64 2 ⟨by decide, by decide, by decide, rfl, (by decide : (64 : Int) + 42 = (106 : Nat))⟩ (fun h64_2 => ?_) (fun h64_2 => ?_)
        ·
          refine r_aload0 hX dX5_ahead_106 (q := 107) rfl ?_
          refine r_getR hX dX5_ahead_107 (q := 110) (c' := ch 1 0) rfl fX5_16 rfl ⟨by decide, by decide, rfl⟩ ?_
          refine r_getI hX dX5_ahead_110 (q := 113) rfl fX5_175 (ch_lay (j := 0) (by first | assumption | decide) (by decide) rfl) (rC_5 (by first | assumption | decide)) ?_
          refine r_iret hX hR dX5_ahead_113 ?_
          -- leaf 3 at 113
          refine ⟨_, rfl, ?_⟩
          exact CO.ok (ho _ (by unfold aheadV; rw [if_neg h64_0, if_neg h64_1, if_pos h64_2])) p59.2.1.1.2.2.2.2.1 hCc hFf
        refine r_tabCase hX dX5_ahead_64 3 ⟨by decide, by decide, by decide, rfl, (by decide : (64 : Int) + 50 = (114 : Nat))⟩ (fun h64_3 => ?_) (fun h64_3 => ?_)
        ·
          refine r_aload0 hX dX5_ahead_114 (q := 115) rfl ?_
          refine r_getR hX dX5_ahead_115 (q := 118) (c' := ch 1 0) rfl fX5_16 rfl ⟨by decide, by decide, rfl⟩ ?_
          refine r_getI hX dX5_ahead_118 (q := 121) rfl fX5_172 (ch_lay (j := 0) (by first | assumption | decide) (by decide) rfl) (rC_4 (by first | assumption | decide)) ?_
          refine r_iret hX hR dX5_ahead_121 ?_
          -- leaf 4 at 121
          refine ⟨_, rfl, ?_⟩
          exact CO.ok (ho _ (by unfold aheadV; rw [if_neg h64_0, if_neg h64_1, if_neg h64_2, if_pos h64_3])) p59.2.1.1.2.2.2.1 hCc hFf
        refine r_tabOut hX dX5_ahead_64 (by have z0 := nI_neT h64_0 (by decide); have z1 := nI_neT h64_1 (by decide); have z2 := nI_neT h64_2 (by decide); have z3 := nI_neT h64_3 (by decide); omega) (tgt := 122) (by decide) ?_
        have hw4 : ∃ f, f < 10 ∧ w - nI 4 = nI f := by
          obtain ⟨q1, q2⟩ := ix_of (by decide) h18
          rw [q2] at h64_0 h64_1 h64_2 h64_3 ⊢
          generalize cl w = j at *
          have : 4 ≤ j := by
            rcases (show j = 0 ∨ j = 1 ∨ j = 2 ∨ j = 3 ∨ 4 ≤ j by omega) with q | q | q | q | q
            · subst q; exact absurd rfl h64_0
            · subst q; exact absurd rfl h64_1
            · subst q; exact absurd rfl h64_2
            · subst q; exact absurd rfl h64_3
            · exact q
          exact ⟨j - 4, by omega, pk_sub this⟩
        obtain ⟨f4, hf4, he4⟩ := hw4
        refine r_aload0 hX dX5_ahead_122 (q := 123) rfl ?_
        refine r_getR hX dX5_ahead_123 (q := 126) (c' := ch 1 0) rfl fX5_16 rfl ⟨by decide, by decide, rfl⟩ ?_
        refine r_getR hX dX5_ahead_126 (q := 129) rfl fX5_71 (ch_lay (j := 0) (by first | assumption | decide) (by decide) rfl) (rC_0 (by first | assumption | decide)) ?_
        refine r_iload2 hX dX5_ahead_129 (q := 130) rfl ?_
        refine r_iconst hX dX5_ahead_130 (q := 131) rfl (v := nI 4) (by decide +kernel) ?_
        refine r_isub hX dX5_ahead_131 (q := 132) rfl ?_
        refine r_ialdN hX dX5_ahead_132 (q := 133) rfl (ch_lay (j := 1) (by first | assumption | decide) (by decide) rfl) (by repeat' (first | assumption | with_reducible exact rfl | refine e_add ?_ ?_ | refine e_mul ?_ ?_)) (by first | assumption | omega) (by first | decide | omega) ?_
        refine r_iret hX hR dX5_ahead_133 ?_
        -- leaf 5 at 133
        refine ⟨_, rfl, ?_⟩
        exact CO.ok (ho _ (by unfold aheadV; rw [if_neg h64_0, if_neg h64_1, if_neg h64_2, if_neg h64_3, he4, cl_nI (by omega)])) (p59.2.1.2.1 f4 hf4).1 hCc hFf
      ·
        refine r_aload0 hX dX5_ahead_36 (q := 37) rfl ?_
        refine r_ldc hX dX5_ahead_37 (q := 39) rfl qX5_165 ?_
        refine r_callV hX dX5_ahead_39 (q := 42) rfl (c_X5_finding _ Γ _ _ 4 (by decide) (by decide +kernel)) kX5_67 mlX5_finding mvX5_finding rfl rfl rfl ⟨by decide, rfl⟩ ⟨by decide, by decide⟩ (Nat.le_of_ble_eq_true rfl) (keI ?_)
        refine r_iret hX hR dX5_ahead_42 ?_
        -- leaf 6 at 42
        refine ⟨_, rfl, ?_⟩
        exact CO.fin (k := 4) (by unfold oAhead; rw [if_pos ⟨h8, h18⟩]; exact if_pos h33) (by decide +kernel) hC fr0
    ·
      refine r_aload0 hX dX5_ahead_21 (q := 22) rfl ?_
      refine r_ldc hX dX5_ahead_22 (q := 24) rfl qX5_44 ?_
      refine r_callV hX dX5_ahead_24 (q := 27) rfl (c_X5_finding _ Γ _ _ 0 (by decide) (by decide +kernel)) kX5_67 mlX5_finding mvX5_finding rfl rfl rfl ⟨by decide, rfl⟩ ⟨by decide, by decide⟩ (Nat.le_of_ble_eq_true rfl) (keI ?_)
      refine r_iret hX hR dX5_ahead_27 ?_
      -- leaf 7 at 27
      refine ⟨_, rfl, ?_⟩
      first
        | exact CO.fin (k := 0) (if_neg (fun z => h8 z.1)) (by decide +kernel) hC fr0
        | exact CO.fin (k := 0) (if_neg (fun z => h18 z.2)) (by decide +kernel) hC fr0

set_option maxRecDepth 100000 in
set_option maxHeartbeats 4000000 in
theorem c_X5_seed (l : Launch) (Γ : Gam) (G : GG) (μ : MU) (b : Nat) (hC : CR G 0 μ) (hV : Inv b μ) (v : Int32) : Sp l yX5_seed cX5_seed 3 (some .int) 0 0 [.ref (gad Γ 30), .int v] Γ G (pI (CO G μ (.inr (μ 1, upd μ 1 v)))) := by
  refine Sp_of (own := RX5) rfl (by decide +kernel) rfl (Nat.le_of_ble_eq_true rfl) (fun X hX hR => ?_)
  show WP X Γ 0 [some (.ref (gad Γ 30)), some (.int v), none] [] G
  refine r_aload0 hX dX5_seed_0 (q := 1) rfl ?_
  refine r_getR hX dX5_seed_1 (q := 4) (c' := ch 0 0) rfl fX5_12 rfl ⟨by decide, by decide, rfl⟩ ?_
  refine r_getI hX dX5_seed_4 (q := 7) rfl fX5_229 (ch_lay (j := 0) (by first | assumption | decide) (by decide) rfl) (rC_12 (by first | assumption | decide)) ?_
  refine r_istore2 hX dX5_seed_7 (q := 8) rfl rfl ?_
  refine r_aload0 hX dX5_seed_8 (q := 9) rfl ?_
  refine r_getR hX dX5_seed_9 (q := 12) (c' := ch 0 0) rfl fX5_12 rfl ⟨by decide, by decide, rfl⟩ ?_
  refine r_iload1 hX dX5_seed_12 (q := 13) rfl ?_
  refine r_put hX dX5_seed_13 (q := 16) rfl fX5_229 wX0_12 rfl rfl (ch_lay (j := 0) (by first | assumption | decide) (by decide) rfl) (rC_12 (by first | assumption | decide)) ?_
  refine r_iload2 hX dX5_seed_16 (q := 17) rfl ?_
  refine r_iret hX hR dX5_seed_17 ?_
  -- leaf 0 at 17
  refine ⟨_, rfl, ?_⟩
  exact CO.ok rfl hC.1.2.1 (hC.z v) (fr_C (Fr.rf.up (by decide)) fr0)
