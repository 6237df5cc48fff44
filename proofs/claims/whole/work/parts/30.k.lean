set_option maxRecDepth 100000 in
set_option maxHeartbeats 4000000 in
theorem c_X5_image (l : Launch) (Γ : Gam) (G : GG) (μ : MU) (hC : CR G 0 μ) : Sp l yX5_image cX5_image 1 (some .int) 3 68 [.ref (gad Γ 30)] Γ G (pI (fun v G' => v = nI 1 ∧ CR G' 0 μ ∧ CR G' 2 μ ∧ G' 30 3 = nI 1 ∧ (∀ k, ¬ k = 3 → G' 30 k = G 30 k) ∧ ∀ c, 31 ≤ c → G' c = G c)) := by
  refine Sp_of (own := RX5) rfl (by decide +kernel) rfl (Nat.le_of_ble_eq_true rfl) (fun X hX hR => ?_)
  show WP X Γ 0 [some (.ref (gad Γ 30))] [] G
  refine r_aload0 hX dX5_image_0 (q := 1) rfl ?_
  refine r_getR hX dX5_image_1 (q := 4) (c' := ch 2 0) rfl fX5_19 rfl ⟨by decide, by decide, rfl⟩ ?_
  refine r_aload0 hX dX5_image_4 (q := 5) rfl ?_
  refine r_getR hX dX5_image_5 (q := 8) (c' := ch 0 0) rfl fX5_12 rfl ⟨by decide, by decide, rfl⟩ ?_
  refine r_callV hX dX5_image_8 (q := 11) rfl (c_X0_become _ Γ _ 2 0 (by decide) (by decide) (by decide) μ hC) kX5_202 mlX0_become mvX0_become rfl rfl (ch_lay (j := 0) (by first | assumption | decide) (by decide) rfl) ⟨by decide, rfl⟩ ⟨by decide, by decide⟩ (Nat.le_of_ble_eq_true rfl) (kpV (fun G8 p8 => ?_))
  refine r_aload0 hX dX5_image_11 (q := 12) rfl ?_
  refine r_iconst hX dX5_image_12 (q := 13) rfl (v := nI 1) (by decide +kernel) ?_
  refine r_put hX dX5_image_13 (q := 16) rfl fX5_22 wX5_3 (by decide +kernel) (by decide +kernel) rfl ⟨by decide, by decide, rfl⟩ ?_
  refine r_iconst hX dX5_image_16 (q := 17) rfl (v := nI 1) (by decide +kernel) ?_
  refine r_iret hX hR dX5_image_17 ?_
  -- leaf 0 at 17
  refine ⟨_, rfl, ?_⟩
  have hF : ∀ (H : GG), Fr 3 H (up H 30 3 (nI 1)) := fun H => Fr.rf.up (i := 3) (j := 0) (by decide)
  refine ⟨rfl, (hC.fr p8.2 (by decide)).fr (hF _) (by decide), p8.1.fr (hF _) (by decide), up_eq, fun k hk => ?_, fun c hc => ?_⟩
  · rw [up_ne (fun q => hk q.2), p8.2 30 (by decide)]
  · rw [← p8.2 c (by omega)]
    funext k
    exact up_ne (by omega)

set_option maxRecDepth 100000 in
set_option maxHeartbeats 4000000 in
theorem c_X5_undo (l : Launch) (Γ : Gam) (G : GG) (κ : MU) (h30 : G 30 3 = nI 0 ∨ (G 30 3 = nI 1 ∧ CR G 2 κ)) : Sp l yX5_undo cX5_undo 1 (some .int) 3 68 [.ref (gad Γ 30)] Γ G (pI (fun v G' => (G 30 3 = nI 0 ∧ FO G 3 v G') ∨ (G 30 3 = nI 1 ∧ v = κ 0 ∧ CR G' 0 κ ∧ Fr 0 G G'))) := by
  refine Sp_of (own := RX5) rfl (by decide +kernel) rfl (Nat.le_of_ble_eq_true rfl) (fun X hX hR => ?_)
  show WP X Γ 0 [some (.ref (gad Γ 30))] [] G
  refine r_aload0 hX dX5_undo_0 (q := 1) rfl ?_
  refine r_getI hX dX5_undo_1 (q := 4) rfl fX5_22 rfl ⟨by decide, by decide, rfl⟩ ?_
  refine r_if_ne hX dX5_undo_4 (q := 7) rfl (tgt := 14) (by decide) (fun h4 => ?_) (fun h4 => ?_)
  ·
    have hK : G 30 3 = nI 1 ∧ CR G 2 κ := h30.resolve_left (fun q => h4 (by rw [q, nI_0]))
    refine r_aload0 hX dX5_undo_14 (q := 15) rfl ?_
    refine r_getR hX dX5_undo_15 (q := 18) (c' := ch 0 0) rfl fX5_12 rfl ⟨by decide, by decide, rfl⟩ ?_
    refine r_aload0 hX dX5_undo_18 (q := 19) rfl ?_
    refine r_getR hX dX5_undo_19 (q := 22) (c' := ch 2 0) rfl fX5_19 rfl ⟨by decide, by decide, rfl⟩ ?_
    refine r_callV hX dX5_undo_22 (q := 25) rfl (c_X0_become _ Γ _ 0 2 (by decide) (by decide) (by decide) κ hK.2) kX5_202 mlX0_become mvX0_become rfl rfl (ch_lay (j := 0) (by first | assumption | decide) (by decide) rfl) ⟨by decide, rfl⟩ ⟨by decide, by decide⟩ (Nat.le_of_ble_eq_true rfl) (kpV (fun G22 p22 => ?_))
    refine r_aload0 hX dX5_undo_25 (q := 26) rfl ?_
    refine r_getR hX dX5_undo_26 (q := 29) (c' := ch 0 0) rfl fX5_12 rfl ⟨by decide, by decide, rfl⟩ ?_
    refine r_getI hX dX5_undo_29 (q := 32) rfl fX5_59 (ch_lay (j := 0) (by first | assumption | decide) (by decide) rfl) (rC_10 (by first | assumption | decide)) ?_
    refine r_iret hX hR dX5_undo_32 ?_
    -- leaf 0 at 32
    refine ⟨_, rfl, ?_⟩
    exact Or.inr ⟨hK.1, p22.1.1.1, p22.1, p22.2⟩
  ·
    refine r_aload0 hX dX5_undo_7 (q := 8) rfl ?_
    refine r_ldc hX dX5_undo_8 (q := 10) rfl qX5_110 ?_
    refine r_callV hX dX5_undo_10 (q := 13) rfl (c_X5_finding _ Γ _ _ 3 (by decide) (by decide +kernel)) kX5_67 mlX5_finding mvX5_finding rfl rfl rfl ⟨by decide, rfl⟩ ⟨by decide, by decide⟩ (Nat.le_of_ble_eq_true rfl) (keI ?_)
    refine r_iret hX hR dX5_undo_13 ?_
    -- leaf 1 at 13
    refine ⟨_, rfl, ?_⟩
    exact Or.inl ⟨by rw [nI_0]; exact h4, by decide +kernel, rfl⟩

set_option maxRecDepth 100000 in
set_option maxHeartbeats 4000000 in
theorem c_X5_tear (l : Launch) (Γ : Gam) (G : GG) (h30 : G 30 3 = nI 0 ∨ G 30 3 = nI 1) : Sp l yX5_tear cX5_tear 2 (some .int) 0 0 [.ref (gad Γ 30)] Γ G (pI (fun v G' => v = G 30 3 ∧ G' = up G 30 3 (nI 0))) := by
  refine Sp_of (own := RX5) rfl (by decide +kernel) rfl (Nat.le_of_ble_eq_true rfl) (fun X hX hR => ?_)
  show WP X Γ 0 [some (.ref (gad Γ 30)), none] [] G
  refine r_aload0 hX dX5_tear_0 (q := 1) rfl ?_
  refine r_getI hX dX5_tear_1 (q := 4) rfl fX5_22 rfl ⟨by decide, by decide, rfl⟩ ?_
  refine r_if_eq hX dX5_tear_4 (q := 7) rfl (tgt := 11) (by decide) (fun h4 => ?_) (fun h4 => ?_)
  ·
    refine r_iconst hX dX5_tear_11 (q := 12) rfl (v := nI 0) (by decide +kernel) ?_
    refine r_istore1 hX dX5_tear_12 (q := 13) rfl rfl ?_
    refine r_aload0 hX dX5_tear_13 (q := 14) rfl ?_
    refine r_iconst hX dX5_tear_14 (q := 15) rfl (v := nI 0) (by decide +kernel) ?_
    refine r_put hX dX5_tear_15 (q := 18) rfl fX5_22 wX5_3 (by decide +kernel) (by decide +kernel) rfl ⟨by decide, by decide, rfl⟩ ?_
    refine r_iload1 hX dX5_tear_18 (q := 19) rfl ?_
    refine r_iret hX hR dX5_tear_19 ?_
    -- leaf 0 at 19
    refine ⟨_, rfl, ?_⟩
    first
      | exact ⟨(show G 30 3 = nI 0 by rw [nI_0]; exact h4).symm, rfl⟩
      | exact ⟨(h30.resolve_left (fun q => h4 (by rw [q, nI_0]))).symm, rfl⟩
  ·
    refine r_iconst hX dX5_tear_7 (q := 8) rfl (v := nI 1) (by decide +kernel) ?_
    refine r_goto hX dX5_tear_8 (tgt := 12) (by decide) ?_
    refine r_istore1 hX dX5_tear_12 (q := 13) rfl rfl ?_
    refine r_aload0 hX dX5_tear_13 (q := 14) rfl ?_
    refine r_iconst hX dX5_tear_14 (q := 15) rfl (v := nI 0) (by decide +kernel) ?_
    refine r_put hX dX5_tear_15 (q := 18) rfl fX5_22 wX5_3 (by decide +kernel) (by decide +kernel) rfl ⟨by decide, by decide, rfl⟩ ?_
    refine r_iload1 hX dX5_tear_18 (q := 19) rfl ?_
    refine r_iret hX hR dX5_tear_19 ?_
    -- leaf 1 at 19
    refine ⟨_, rfl, ?_⟩
    first
      | exact ⟨(show G 30 3 = nI 0 by rw [nI_0]; exact h4).symm, rfl⟩
      | exact ⟨(h30.resolve_left (fun q => h4 (by rw [q, nI_0]))).symm, rfl⟩

set_option maxRecDepth 100000 in
set_option maxHeartbeats 4000000 in
theorem c_X5_count (l : Launch) (Γ : Gam) (G : GG) (μ : MU) (b : Nat) (hC : CR G 0 μ) (hV : Inv b μ) (w : Int32) : Sp l yX5_count cX5_count 2 (some .int) 2 44 [.ref (gad Γ 30), .int w] Γ G (pI (CO G μ (oCount μ (G 31 1) w))) := by
  refine Sp_of (own := RX5) rfl (by decide +kernel) rfl (Nat.le_of_ble_eq_true rfl) (fun X hX hR => ?_)
  show WP X Γ 0 [some (.ref (gad Γ 30)), some (.int w)] [] G
  refine r_iload1 hX dX5_count_0 (q := 1) rfl ?_
  refine r_tabCase hX dX5_count_1 0 ⟨by decide, by decide, by decide, rfl, (by decide : (1 : Int) + 39 = (40 : Nat))⟩ (fun h1_0 => ?_) (fun h1_0 => ?_)
  ·
    refine r_aload0 hX dX5_count_40 (q := 41) rfl ?_
    refine r_getR hX dX5_count_41 (q := 44) (c' := ch 0 0) rfl fX5_12 rfl ⟨by decide, by decide, rfl⟩ ?_
    refine r_getR hX dX5_count_44 (q := 47) rfl fX5_49 (ch_lay (j := 0) (by first | assumption | decide) (by decide) rfl) (rC_9 (by first | assumption | decide)) ?_
    refine r_getI hX dX5_count_47 (q := 50) rfl fX5_53 (ch_lay (j := 4) (by first | assumption | decide) (by decide) rfl) (rP_3 (by first | assumption | decide)) ?_
    refine r_iret hX hR dX5_count_50 ?_
    -- leaf 0 at 50
    refine ⟨_, rfl, ?_⟩
    have e := h1_0
    subst e
    exact CO.ok (w := μ 8) (μ' := μ) (by unfold oCount; rw [if_pos ⟨by decide +kernel, by decide +kernel⟩]; exact if_pos rfl) (hC.1.2.2.2.2.2.2.2.2) hC fr0
  refine r_tabCase hX dX5_count_1 1 ⟨by decide, by decide, by decide, rfl, (by decide : (1 : Int) + 50 = (51 : Nat))⟩ (fun h1_1 => ?_) (fun h1_1 => ?_)
  ·
    refine r_aload0 hX dX5_count_51 (q := 52) rfl ?_
    refine r_getR hX dX5_count_52 (q := 55) (c' := ch 0 0) rfl fX5_12 rfl ⟨by decide, by decide, rfl⟩ ?_
    refine r_callV hX dX5_count_55 (q := 58) rfl (c_X0_likedSet _ Γ _ _ (by first | assumption | decide) _ _ (by assumption) (by assumption)) kX5_106 mlX0_likedSet mvX0_likedSet rfl rfl (ch_lay (j := 0) (by first | assumption | decide) (by decide) rfl) ⟨by decide, rfl⟩ ⟨by decide, by decide⟩ (Nat.le_of_ble_eq_true rfl) (keI ?_)
    refine r_callS hX dX5_count_58 (q := 61) rfl (c_J6_bitCount_0f7a4 _ Γ _ _) kX5_218 mlJ6_bitCount_0f7a4 msJ6_bitCount_0f7a4 rfl rfl ⟨by decide, by decide⟩ (Nat.le_of_ble_eq_true rfl) (keI ?_)
    refine r_iret hX hR dX5_count_61 ?_
    -- leaf 1 at 61
    refine ⟨_, rfl, ?_⟩
    have e := h1_1
    subst e
    exact CO.ok (w := mnF μ 10) (μ' := μ) (by unfold oCount; rw [if_pos ⟨by decide +kernel, by decide +kernel⟩]; rw [if_neg (by decide +kernel)]; exact if_pos rfl) (bc_ls μ) hC fr0
  refine r_tabCase hX dX5_count_1 2 ⟨by decide, by decide, by decide, rfl, (by decide : (1 : Int) + 61 = (62 : Nat))⟩ (fun h1_2 => ?_) (fun h1_2 => ?_)
  ·
    refine r_aload0 hX dX5_count_62 (q := 63) rfl ?_
    refine r_getR hX dX5_count_63 (q := 66) (c' := ch 0 0) rfl fX5_12 rfl ⟨by decide, by decide, rfl⟩ ?_
    refine r_callV hX dX5_count_66 (q := 69) rfl (c_X0_triedInAll _ Γ _ _ (by first | assumption | decide) _ _ (by assumption) (by assumption)) kX5_285 mlX0_triedInAll mvX0_triedInAll rfl rfl (ch_lay (j := 0) (by first | assumption | decide) (by decide) rfl) ⟨by decide, rfl⟩ ⟨by decide, by decide⟩ (Nat.le_of_ble_eq_true rfl) (keI ?_)
    refine r_iret hX hR dX5_count_69 ?_
    -- leaf 2 at 69
    refine ⟨_, rfl, ?_⟩
    have e := h1_2
    subst e
    exact CO.ok (w := trF μ 10) (μ' := μ) (by unfold oCount; rw [if_pos ⟨by decide +kernel, by decide +kernel⟩]; rw [if_neg (by decide +kernel), if_neg (by decide +kernel)]; exact if_pos rfl) (rfl) hC fr0
  refine r_tabCase hX dX5_count_1 3 ⟨by decide, by decide, by decide, rfl, (by decide : (1 : Int) + 69 = (70 : Nat))⟩ (fun h1_3 => ?_) (fun h1_3 => ?_)
  ·
    refine r_aload0 hX dX5_count_70 (q := 71) rfl ?_
    refine r_getR hX dX5_count_71 (q := 74) rfl fX5_29 rfl ⟨by decide, by decide, rfl⟩ ?_
    refine r_getI hX dX5_count_74 (q := 77) rfl fX5_232 rfl ⟨by decide, by decide, rfl⟩ ?_
    refine r_iret hX hR dX5_count_77 ?_
    -- leaf 3 at 77
    refine ⟨_, rfl, ?_⟩
    have e := h1_3
    subst e
    exact CO.ok (w := G 31 1) (μ' := μ) (by unfold oCount; rw [if_pos ⟨by decide +kernel, by decide +kernel⟩]; rw [if_neg (by decide +kernel), if_neg (by decide +kernel), if_neg (by decide +kernel)]; exact if_pos rfl) (rfl) hC fr0
  refine r_tabCase hX dX5_count_1 4 ⟨by decide, by decide, by decide, rfl, (by decide : (1 : Int) + 77 = (78 : Nat))⟩ (fun h1_4 => ?_) (fun h1_4 => ?_)
  ·
    refine r_aload0 hX dX5_count_78 (q := 79) rfl ?_
    refine r_getR hX dX5_count_79 (q := 82) (c' := ch 0 0) rfl fX5_12 rfl ⟨by decide, by decide, rfl⟩ ?_
    refine r_getI hX dX5_count_82 (q := 85) rfl fX5_229 (ch_lay (j := 0) (by first | assumption | decide) (by decide) rfl) (rC_12 (by first | assumption | decide)) ?_
    refine r_iret hX hR dX5_count_85 ?_
    -- leaf 4 at 85
    refine ⟨_, rfl, ?_⟩
    have e := h1_4
    subst e
    exact CO.ok (w := μ 1) (μ' := μ) (by unfold oCount; rw [if_pos ⟨by decide +kernel, by decide +kernel⟩]; rw [if_neg (by decide +kernel), if_neg (by decide +kernel), if_neg (by decide +kernel), if_neg (by decide +kernel)]; exact if_pos rfl) (hC.1.2.1) hC fr0
  refine r_tabCase hX dX5_count_1 5 ⟨by decide, by decide, by decide, rfl, (by decide : (1 : Int) + 85 = (86 : Nat))⟩ (fun h1_5 => ?_) (fun h1_5 => ?_)
  ·
    refine r_aload0 hX dX5_count_86 (q := 87) rfl ?_
    refine r_getR hX dX5_count_87 (q := 90) (c' := ch 0 0) rfl fX5_12 rfl ⟨by decide, by decide, rfl⟩ ?_
    refine r_callV hX dX5_count_90 (q := 93) rfl (c_X0_spotsInUse _ Γ _ _ (by first | assumption | decide) _ _ (by assumption) (by assumption)) kX5_288 mlX0_spotsInUse mvX0_spotsInUse rfl rfl (ch_lay (j := 0) (by first | assumption | decide) (by decide) rfl) ⟨by decide, rfl⟩ ⟨by decide, by decide⟩ (Nat.le_of_ble_eq_true rfl) (keI ?_)
    refine r_iret hX hR dX5_count_93 ?_
    -- leaf 5 at 93
    refine ⟨_, rfl, ?_⟩
    have e := h1_5
    subst e
    exact CO.ok (w := spF μ 10) (μ' := μ) (by unfold oCount; rw [if_pos ⟨by decide +kernel, by decide +kernel⟩]; rw [if_neg (by decide +kernel), if_neg (by decide +kernel), if_neg (by decide +kernel), if_neg (by decide +kernel), if_neg (by decide +kernel)]) (rfl) hC fr0
  refine r_tabOut hX dX5_count_1 (by have z0 := nI_neT h1_0 (by decide); have z1 := nI_neT h1_1 (by decide); have z2 := nI_neT h1_2 (by decide); have z3 := nI_neT h1_3 (by decide); have z4 := nI_neT h1_4 (by decide); have z5 := nI_neT h1_5 (by decide); omega) (tgt := 94) (by decide) ?_
  refine r_aload0 hX dX5_count_94 (q := 95) rfl ?_
  refine r_ldc hX dX5_count_95 (q := 97) rfl qX5_44 ?_
  refine r_callV hX dX5_count_97 (q := 100) rfl (c_X5_finding _ Γ _ _ 0 (by decide) (by decide +kernel)) kX5_67 mlX5_finding mvX5_finding rfl rfl rfl ⟨by decide, rfl⟩ ⟨by decide, by decide⟩ (Nat.le_of_ble_eq_true rfl) (keI ?_)
  refine r_iret hX hR dX5_count_100 ?_
  -- leaf 6 at 100
  refine ⟨_, rfl, ?_⟩
  exact CO.fin (k := 0) (if_neg (fun z => notin (n := 5) (w := w) (by decide) (fun j hj => by
    rcases (show j = 0 ∨ j = 1 ∨ j = 2 ∨ j = 3 ∨ j = 4 ∨ j = 5 by omega) with rfl | rfl | rfl | rfl | rfl | rfl <;> assumption) (z))) (by decide +kernel) hC fr0

set_option maxRecDepth 100000 in
set_option maxHeartbeats 4000000 in
theorem c_X5_status (l : Launch) (Γ : Gam) (G : GG) (x : Int32) : Sp l yX5_status cX5_status 4 (some .int) 2 44 [.ref (gad Γ 30), .int x] Γ G (pI (fun v G' => (¬ ((-1) ≤ x ∧ x ≤ nI 6) ∧ FO G 0 v G') ∨ (((-1) ≤ x ∧ x ≤ nI 6) ∧ G' = G ∧ v = if x < nI 0 then stF (G 46) 7 else G 46 (cl x)))) := by
  refine Sp_of (own := RX5) rfl (by decide +kernel) rfl (Nat.le_of_ble_eq_true rfl) (fun X hX hR => ?_)
  show WP X Γ 0 [some (.ref (gad Γ 30)), some (.int x), none, none] [] G
  refine r_iload1 hX dX5_status_0 (q := 1) rfl ?_
  refine r_iconst hX dX5_status_1 (q := 2) rfl (v := (-1)) (by decide +kernel) ?_
  refine r_bipush hX dX5_status_2 (q := 4) rfl (v := nI 6) (by decide +kernel) ?_
  refine r_callS hX dX5_status_4 (q := 7) rfl (c_X5_within _ Γ _ _ _ _) kX5_45 mlX5_within msX5_within rfl rfl ⟨by decide, by decide⟩ (Nat.le_of_ble_eq_true rfl) (keB ?_)
  first | with_reducible refine r_ifd_ne hX dX5_status_7 (q := 10) rfl (tgt := 17) (by decide) (fun h7 => ?_) (fun h7 => ?_) | refine r_ifb_ne hX dX5_status_7 (q := 10) rfl (tgt := 17) (by decide) (fun h7 => ?_) (fun h7 => ?_)
  ·
    refine r_iload1 hX dX5_status_17 (q := 18) rfl ?_
    refine r_if_lt hX dX5_status_18 (q := 21) rfl (tgt := 28) (by decide) (fun h18 => ?_) (fun h18 => ?_)
    ·
      refine r_iconst hX dX5_status_28 (q := 29) rfl (v := nI 0) (by decide +kernel) ?_
      refine r_istore2 hX dX5_status_29 (q := 30) rfl rfl ?_
      refine r_iconst hX dX5_status_30 (q := 31) rfl (v := nI 0) (by decide +kernel) ?_
      refine r_istore3 hX dX5_status_31 (q := 32) rfl rfl ?_
      have L32 : ∀ (zn32 : Nat) (k : Nat) (e : Int32), zn32 = 7 - k → (k ≤ 7) → (e = stF (G 46) k) → WP X Γ 32 [some (.ref (gad Γ 30)), some (.int x), some (.int e), some (.int (nI k))] [] G := by
        intro zn32
        induction zn32 using Nat.strongRecOn with
        | _ zn32 ih32 =>
          intro k e zh32 hk he
          refine r_iload3 hX dX5_status_32 (q := 33) rfl ?_
          refine r_bipush hX dX5_status_33 (q := 35) rfl (v := nI 7) (by decide +kernel) ?_
          refine r_icmpN_ge hX dX5_status_35 (q := 38) rfl (tgt := 53) (by decide) (by first | decide | omega) (by first | decide | omega) (fun h35 => ?_) (fun h35 => ?_)
          ·
            refine r_iload2 hX dX5_status_53 (q := 54) rfl ?_
            refine r_iret hX hR dX5_status_54 ?_
            -- leaf 0 at 54
            refine ⟨_, rfl, ?_⟩
            have e1 : k = 7 := by omega
            subst e1
            exact Or.inr ⟨h7, rfl, he.trans (if_pos (by rw [nI_0]; exact h18)).symm⟩
          ·
            refine r_iload2 hX dX5_status_38 (q := 39) rfl ?_
            refine r_aload0 hX dX5_status_39 (q := 40) rfl ?_
            refine r_getR hX dX5_status_40 (q := 43) rfl fX5_40 rfl ⟨by decide, by decide, rfl⟩ ?_
            refine r_iload3 hX dX5_status_43 (q := 44) rfl ?_
            refine r_ialdN hX dX5_status_44 (q := 45) rfl rfl (by repeat' (first | assumption | with_reducible exact rfl | refine e_add ?_ ?_ | refine e_mul ?_ ?_)) (by first | assumption | omega) (by first | decide | omega) ?_
            refine r_iadd hX dX5_status_45 (q := 46) rfl ?_
            refine r_istore2 hX dX5_status_46 (q := 47) rfl rfl ?_
            refine r_iincN3 hX dX5_status_47 (q := 50) rfl rfl ?_
            refine r_goto hX dX5_status_50 (tgt := 32) (by decide) ?_
            refine ih32 _ ?_ (k + 1) _ rfl ?_ ?_
            ·
              omega
            ·
              omega
            ·
              rw [he]; rfl
      refine L32 _ 0 _ rfl ?_ ?_
      ·
        exact Nat.zero_le _
      ·
        rfl
    ·
      obtain ⟨xl, xe⟩ := ix_of (by decide) (show nI 0 ≤ x ∧ x ≤ nI 6 from ⟨by rw [nI_0]; exact Int32.not_lt.mp h18, h7.2⟩)
      refine r_aload0 hX dX5_status_21 (q := 22) rfl ?_
      refine r_getR hX dX5_status_22 (q := 25) rfl fX5_40 rfl ⟨by decide, by decide, rfl⟩ ?_
      refine r_iload1 hX dX5_status_25 (q := 26) rfl ?_
      refine r_ialdN hX dX5_status_26 (q := 27) rfl rfl xe (by omega) (by first | decide | omega) ?_
      refine r_iret hX hR dX5_status_27 ?_
      -- leaf 1 at 27
      refine ⟨_, rfl, ?_⟩
      exact Or.inr ⟨h7, rfl, (if_neg (by rw [nI_0]; exact h18)).symm⟩
  ·
    refine r_aload0 hX dX5_status_10 (q := 11) rfl ?_
    refine r_ldc hX dX5_status_11 (q := 13) rfl qX5_44 ?_
    refine r_callV hX dX5_status_13 (q := 16) rfl (c_X5_finding _ Γ _ _ 0 (by decide) (by decide +kernel)) kX5_67 mlX5_finding mvX5_finding rfl rfl rfl ⟨by decide, rfl⟩ ⟨by decide, by decide⟩ (Nat.le_of_ble_eq_true rfl) (keI ?_)
    refine r_iret hX hR dX5_status_16 ?_
    -- leaf 2 at 16
    refine ⟨_, rfl, ?_⟩
    exact Or.inl ⟨h7, by decide +kernel, rfl⟩

set_option maxRecDepth 100000 in
set_option maxHeartbeats 4000000 in
theorem c_X3_add (l : Launch) (Γ : Gam) (G : GG) (b : Int32) (n : Nat) (hn : G 31 1 = nI n) (hn1 : n < 120) : Sp l yX3_add cX3_add 2 none 0 0 [.ref (gad Γ 31), .int b] Γ G (eV (up (up G 32 n b) 31 1 (nI (n + 1)))) := by
  refine Sp_of (own := RX3) rfl (by decide +kernel) rfl (Nat.le_of_ble_eq_true rfl) (fun X hX hR => ?_)
  show WP X Γ 0 [some (.ref (gad Γ 31)), some (.int b)] [] G
  refine r_aload0 hX dX3_add_0 (q := 1) rfl ?_
  refine r_getI hX dX3_add_1 (q := 4) rfl fX3_15 rfl ⟨by decide, by decide, rfl⟩ ?_
  refine r_bipush hX dX3_add_4 (q := 6) rfl (v := nI 120) (by decide +kernel) ?_
  rw [hn]
  first | refine r_icmpN_ge hX dX3_add_6 (q := 9) rfl (tgt := 29) (by decide) (by first | decide | omega) (by first | decide | omega) (fun h6 => ?_) (fun h6 => ?_) | refine r_icmp_ge hX dX3_add_6 (q := 9) rfl (tgt := 29) (by decide) (fun h6 => ?_) (fun h6 => ?_)
  ·
    exact absurd hn1 (by omega) --end
  ·
    refine r_aload0 hX dX3_add_9 (q := 10) rfl ?_
    refine r_getR hX dX3_add_10 (q := 13) rfl fX3_9 rfl ⟨by decide, by decide, rfl⟩ ?_
    refine r_aload0 hX dX3_add_13 (q := 14) rfl ?_
    refine r_getI hX dX3_add_14 (q := 17) rfl fX3_15 rfl ⟨by decide, by decide, rfl⟩ ?_
    refine r_iload1 hX dX3_add_17 (q := 18) rfl ?_
    rw [hn]
    refine r_iastN hX dX3_add_18 (q := 19) rfl rfl (by repeat' (first | assumption | with_reducible exact rfl | refine e_add ?_ ?_ | refine e_mul ?_ ?_)) (by first | assumption | omega) (by first | decide | omega) ?_
    refine r_aload0 hX dX3_add_19 (q := 20) rfl ?_
    refine r_dup hX dX3_add_20 (q := 21) rfl rfl ?_
    refine r_getI hX dX3_add_21 (q := 24) rfl fX3_15 rfl ⟨by decide, by decide, rfl⟩ ?_
    rw [up_ne (show ¬ ((31 : Nat) = 32 ∧ 1 = n) by omega), hn]
    refine r_iconst hX dX3_add_24 (q := 25) rfl (v := nI 1) (by decide +kernel) ?_
    refine r_iadd hX dX3_add_25 (q := 26) rfl ?_
    refine r_put hX dX3_add_26 (q := 29) rfl fX3_15 wX3_1 rfl rfl rfl ⟨by decide, by decide, rfl⟩ ?_
    refine r_vret hX hR dX3_add_29 ?_
    -- leaf 0 at 29
    refine ⟨rfl, ?_⟩
    rw [nI_add]

set_option maxRecDepth 100000 in
set_option maxHeartbeats 4000000 in
theorem c_X5_wipe (l : Launch) (Γ : Gam) (G : GG)  : Sp l yX5_wipe cX5_wipe 2 (some .int) 0 0 [.ref (gad Γ 30)] Γ G (eI (up G 31 1 (nI 0)) (G 31 1)) := by
  refine Sp_of (own := RX5) rfl (by decide +kernel) rfl (Nat.le_of_ble_eq_true rfl) (fun X hX hR => ?_)
  show WP X Γ 0 [some (.ref (gad Γ 30)), none] [] G
  refine r_aload0 hX dX5_wipe_0 (q := 1) rfl ?_
  refine r_getR hX dX5_wipe_1 (q := 4) rfl fX5_29 rfl ⟨by decide, by decide, rfl⟩ ?_
  refine r_getI hX dX5_wipe_4 (q := 7) rfl fX5_232 rfl ⟨by decide, by decide, rfl⟩ ?_
  refine r_istore1 hX dX5_wipe_7 (q := 8) rfl rfl ?_
  refine r_aload0 hX dX5_wipe_8 (q := 9) rfl ?_
  refine r_getR hX dX5_wipe_9 (q := 12) rfl fX5_29 rfl ⟨by decide, by decide, rfl⟩ ?_
  refine r_iconst hX dX5_wipe_12 (q := 13) rfl (v := nI 0) (by decide +kernel) ?_
  refine r_put hX dX5_wipe_13 (q := 16) rfl fX5_232 wX3_1 rfl rfl rfl ⟨by decide, by decide, rfl⟩ ?_
  refine r_iload1 hX dX5_wipe_16 (q := 17) rfl ?_
  refine r_iret hX hR dX5_wipe_17 ?_
  -- leaf 0 at 17
  refine ⟨congrArg (fun z => some (Value.int z)) ?_, ?_⟩
  ·
    rfl
  · rfl

set_option maxRecDepth 100000 in
set_option maxHeartbeats 4000000 in
theorem c_X5_feed (l : Launch) (Γ : Gam) (G : GG) (x y : Int32) (m : Nat) (hm : G 31 1 = nI m) (hm1 : m ≤ 120) : Sp l yX5_feed cX5_feed 4 (some .int) 2 44 [.ref (gad Γ 30), .int x, .int y] Γ G (pI (fun v G' => (¬ (nI 1 ≤ y ∧ y ≤ nI 4) ∧ FO G 0 v G') ∨ ((nI 1 ≤ y ∧ y ≤ nI 4) ∧ 120 < m + cl y ∧ FO G 1 v G') ∨ ((nI 1 ≤ y ∧ y ≤ nI 4) ∧ m + cl y ≤ 120 ∧ v = nI (m + cl y) ∧ G' = up (upc G 32 (fdT (G 32) m x (cl y) (cl y))) 31 1 (nI (m + cl y))))) := by
  refine Sp_of (own := RX5) rfl (by decide +kernel) rfl (Nat.le_of_ble_eq_true rfl) (fun X hX hR => ?_)
  show WP X Γ 0 [some (.ref (gad Γ 30)), some (.int x), some (.int y), none] [] G
  refine r_iload2 hX dX5_feed_0 (q := 1) rfl ?_
  refine r_iconst hX dX5_feed_1 (q := 2) rfl (v := nI 1) (by decide +kernel) ?_
  refine r_iconst hX dX5_feed_2 (q := 3) rfl (v := nI 4) (by decide +kernel) ?_
  refine r_callS hX dX5_feed_3 (q := 6) rfl (c_X5_within _ Γ _ _ _ _) kX5_45 mlX5_within msX5_within rfl rfl ⟨by decide, by decide⟩ (Nat.le_of_ble_eq_true rfl) (keB ?_)
  first | with_reducible refine r_ifd_ne hX dX5_feed_6 (q := 9) rfl (tgt := 16) (by decide) (fun h6 => ?_) (fun h6 => ?_) | refine r_ifb_ne hX dX5_feed_6 (q := 9) rfl (tgt := 16) (by decide) (fun h6 => ?_) (fun h6 => ?_)
  ·
    obtain ⟨y0, y1, ye⟩ := ix1_of (by decide) (by decide) h6
    refine r_aload0 hX dX5_feed_16 (q := 17) rfl ?_
    refine r_getR hX dX5_feed_17 (q := 20) rfl fX5_29 rfl ⟨by decide, by decide, rfl⟩ ?_
    refine r_getI hX dX5_feed_20 (q := 23) rfl fX5_232 rfl ⟨by decide, by decide, rfl⟩ ?_
    refine r_bipush hX dX5_feed_23 (q := 25) rfl (v := nI 120) (by decide +kernel) ?_
    refine r_iload2 hX dX5_feed_25 (q := 26) rfl ?_
    refine r_isub hX dX5_feed_26 (q := 27) rfl ?_
    rw [hm, ye, pk_sub (by omega)]
    first | refine r_icmpN_le hX dX5_feed_27 (q := 30) rfl (tgt := 37) (by decide) (by first | decide | omega) (by first | decide | omega) (fun h27 => ?_) (fun h27 => ?_) | refine r_icmp_le hX dX5_feed_27 (q := 30) rfl (tgt := 37) (by decide) (fun h27 => ?_) (fun h27 => ?_)
    ·
      skip
      refine r_iload2 hX dX5_feed_37 (q := 38) rfl ?_
      refine r_iconst hX dX5_feed_38 (q := 39) rfl (v := nI 1) (by decide +kernel) ?_
      refine r_isub hX dX5_feed_39 (q := 40) rfl ?_
      refine r_istore3 hX dX5_feed_40 (q := 41) rfl rfl ?_
      have L41 : ∀ (zn41 : Nat) (k : Nat) (G1 : GG), zn41 = cl y - k → (k ≤ cl y) → (G1 = up (upc G 32 (fdT (G 32) m x (cl y) k)) 31 1 (nI (m + k))) → WP X Γ 41 [some (.ref (gad Γ 30)), some (.int x), some (.int (nI (cl y))), some (.int (nI (cl y - k) - nI 1))] [] G1 := by
        intro zn41
        induction zn41 using Nat.strongRecOn with
        | _ zn41 ih41 =>
          intro k G1 zh41 hk hG
          refine r_iload3 hX dX5_feed_41 (q := 42) rfl ?_
          refine r_if_lt hX dX5_feed_42 (q := 45) rfl (tgt := 68) (by decide) (fun h42 => ?_) (fun h42 => ?_)
          ·
            refine r_aload0 hX dX5_feed_68 (q := 69) rfl ?_
            refine r_getR hX dX5_feed_69 (q := 72) rfl fX5_29 rfl ⟨by decide, by decide, rfl⟩ ?_
            refine r_getI hX dX5_feed_72 (q := 75) rfl fX5_232 rfl ⟨by decide, by decide, rfl⟩ ?_
            refine r_iret hX hR dX5_feed_75 ?_
            -- leaf 0 at 75
            refine ⟨_, rfl, ?_⟩
            have hkk : k = cl y := by
              rcases Nat.lt_or_ge k (cl y) with q | q
              · rw [pk_sub (show 1 ≤ cl y - k by omega)] at h42
                exact absurd h42 (nI_pos (by omega))
              · omega
            subst hkk
            exact Or.inr (Or.inr ⟨h6, by omega, by rw [hG]; exact up_eq, hG⟩)
          ·
            have hkk : k < cl y := by
              rcases Nat.lt_or_ge k (cl y) with q | q
              · exact q
              · rw [show cl y - k = 0 by omega] at h42
                exact absurd (show nI 0 - nI 1 < 0 by decide +kernel) h42
            rw [pk_sub (show 1 ≤ cl y - k by omega)]
            refine r_aload0 hX dX5_feed_45 (q := 46) rfl ?_
            refine r_getR hX dX5_feed_46 (q := 49) rfl fX5_29 rfl ⟨by decide, by decide, rfl⟩ ?_
            refine r_iload1 hX dX5_feed_49 (q := 50) rfl ?_
            refine r_bipush hX dX5_feed_50 (q := 52) rfl (v := nI 8) (by decide +kernel) ?_
            refine r_iload3 hX dX5_feed_52 (q := 53) rfl ?_
            refine r_imul hX dX5_feed_53 (q := 54) rfl ?_
            refine r_iushr hX dX5_feed_54 (q := 55) rfl ?_
            refine r_sipush hX dX5_feed_55 (q := 58) rfl (v := nI 255) (by decide +kernel) ?_
            refine r_iand hX dX5_feed_58 (q := 59) rfl ?_
            refine r_callV hX dX5_feed_59 (q := 62) rfl (c_X3_add _ Γ _ _ (m + k) (by rw [hG]; exact up_eq) (by omega)) kX5_233 mlX3_add mvX3_add rfl rfl rfl ⟨by decide, rfl⟩ ⟨by decide, by decide⟩ (Nat.le_of_ble_eq_true rfl) (keV ?_)
            refine r_iinc3 hX dX5_feed_62 (q := 65) (v := nI (cl y - (k + 1)) - nI 1) rfl rfl (by rw [Nat.sub_sub, Int32.sub_eq_add_neg]; rfl) ?_
            refine r_goto hX dX5_feed_65 (tgt := 41) (by decide) ?_
            refine ih41 _ ?_ (k + 1) _ rfl ?_ ?_
            ·
              omega
            ·
              omega
            ·
              rw [hG, up_upc2, ← fdT_s, show cl y - 1 - k = cl y - k - 1 by omega]
              rfl
      refine L41 _ 0 _ rfl ?_ ?_
      ·
        exact Nat.zero_le _
      ·
        have e1 : fdT (G 32) m x (cl y) 0 = G 32 := by funext j; unfold fdT; rw [if_neg (by omega)]
        rw [e1]
        funext c j
        by_cases h : c = 31 ∧ j = 1
        · obtain ⟨rfl, rfl⟩ := h
          rw [up_eq]; exact hm
        · rw [up_ne h]
          by_cases h2 : c = 32
          · subst h2; simp [upc]
          · simp [upc, h2]
    ·
      refine r_aload0 hX dX5_feed_30 (q := 31) rfl ?_
      refine r_ldc hX dX5_feed_31 (q := 33) rfl qX5_121 ?_
      refine r_callV hX dX5_feed_33 (q := 36) rfl (c_X5_finding _ Γ _ _ 1 (by decide) (by decide +kernel)) kX5_67 mlX5_finding mvX5_finding rfl rfl rfl ⟨by decide, rfl⟩ ⟨by decide, by decide⟩ (Nat.le_of_ble_eq_true rfl) (keI ?_)
      refine r_iret hX hR dX5_feed_36 ?_
      -- leaf 1 at 36
      refine ⟨_, rfl, ?_⟩
      exact Or.inr (Or.inl ⟨h6, by omega, by decide +kernel, rfl⟩)
  ·
    refine r_aload0 hX dX5_feed_9 (q := 10) rfl ?_
    refine r_ldc hX dX5_feed_10 (q := 12) rfl qX5_44 ?_
    refine r_callV hX dX5_feed_12 (q := 15) rfl (c_X5_finding _ Γ _ _ 0 (by decide) (by decide +kernel)) kX5_67 mlX5_finding mvX5_finding rfl rfl rfl ⟨by decide, rfl⟩ ⟨by decide, by decide⟩ (Nat.le_of_ble_eq_true rfl) (keI ?_)
    refine r_iret hX hR dX5_feed_15 ?_
    -- leaf 2 at 15
    refine ⟨_, rfl, ?_⟩
    exact Or.inl ⟨h6, by decide +kernel, rfl⟩
