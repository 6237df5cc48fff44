set_option maxRecDepth 100000 in
set_option maxHeartbeats 4000000 in
theorem c_X5_mealsTillLiked (l : Launch) (Γ : Gam) (G : GG) (μ ν : MU) (b : Nat) (hC : CR G 0 μ) (hC1 : CR G 1 ν) (hV1 : Inv b ν) (x : Int32) (f : Nat) (hx : x = nI f) (hf : f < 10) (y : Int32) (m : Nat) (hy : y = nI m) (hm : b + m + 1 < 2 ^ 29) : Sp l yX5_mealsTillLiked cX5_mealsTillLiked 4 (some .int) 4 92 [.ref (gad Γ 30), .int x, .int y] Γ G (pI (CO G μ (tlO μ (fsF (tlP ν f) (m + 1))))) := by
  refine Sp_of (own := RX5) rfl (by decide +kernel) rfl (Nat.le_of_ble_eq_true rfl) (fun X hX hR => ?_)
  show WP X Γ 0 [some (.ref (gad Γ 30)), some (.int x), some (.int y), none] [] G
  subst hx
  subst hy
  refine r_iconst hX dX5_mealsTillLiked_0 (q := 1) rfl (v := nI 0) (by decide +kernel) ?_
  refine r_istore3 hX dX5_mealsTillLiked_1 (q := 2) rfl rfl ?_
  have L2 : ∀ (zn2 : Nat) (k : Nat) (G1 : GG), zn2 = m - k → (k ≤ m) → (CR G1 1 (goF ν k).2) → (CR G1 0 μ) → (∀ c, 20 ≤ c → G1 c = G c) → (∀ j, j < k → tlP ν f j = false) → WP X Γ 2 [some (.ref (gad Γ 30)), some (.int (nI f)), some (.int (nI m)), some (.int (nI k))] [] G1 := by
    intro zn2
    induction zn2 using Nat.strongRecOn with
    | _ zn2 ih2 =>
      intro k G1 zh2 hk hCk hC0 hF hP
      have hVk := hV1.go k (by omega)
      refine r_iload3 hX dX5_mealsTillLiked_2 (q := 3) rfl ?_
      refine r_iload2 hX dX5_mealsTillLiked_3 (q := 4) rfl ?_
      refine r_icmpN_ge hX dX5_mealsTillLiked_4 (q := 7) rfl (tgt := 34) (by decide) (by first | decide | omega) (by first | decide | omega) (fun h4 => ?_) (fun h4 => ?_)
      ·
        refine r_aload0 hX dX5_mealsTillLiked_34 (q := 35) rfl ?_
        refine r_getR hX dX5_mealsTillLiked_35 (q := 38) (c' := ch 1 0) rfl fX5_16 rfl ⟨by decide, by decide, rfl⟩ ?_
        refine r_iload1 hX dX5_mealsTillLiked_38 (q := 39) rfl ?_
        refine r_callV hX dX5_mealsTillLiked_39 (q := 42) rfl (c_X0_isLiked _ Γ _ 1 (by decide) _ _ hCk hVk _ f rfl hf) kX5_84 mlX0_isLiked mvX0_isLiked rfl rfl (ch_lay (j := 0) (by first | assumption | decide) (by decide) rfl) ⟨by decide, rfl⟩ ⟨by decide, by decide⟩ (Nat.le_of_ble_eq_true rfl) (keB ?_)
        first | with_reducible refine r_ifd_eq hX dX5_mealsTillLiked_42 (q := 45) rfl (tgt := 49) (by decide) (fun h42 => ?_) (fun h42 => ?_) | refine r_ifb_eq hX dX5_mealsTillLiked_42 (q := 45) rfl (tgt := 49) (by decide) (fun h42 => ?_) (fun h42 => ?_)
        ·
          refine r_aload0 hX dX5_mealsTillLiked_49 (q := 50) rfl ?_
          refine r_ldc hX dX5_mealsTillLiked_50 (q := 52) rfl qX5_110 ?_
          refine r_callV hX dX5_mealsTillLiked_52 (q := 55) rfl (c_X5_finding _ Γ _ _ 3 (by decide) (by decide +kernel)) kX5_67 mlX5_finding mvX5_finding rfl rfl rfl ⟨by decide, rfl⟩ ⟨by decide, by decide⟩ (Nat.le_of_ble_eq_true rfl) (keI ?_)
          refine r_iret hX hR dX5_mealsTillLiked_55 ?_
          -- leaf 0 at 55
          refine ⟨_, rfl, ?_⟩
          have e : k = m := by omega
          subst e
          first
            | exact CO.ok (tl_some h42 hP (by omega)) rfl hC0 hF
            | exact CO.fin (tl_none (fun j hj => by
                by_cases e : j = k
                · subst e; exact h42
                · exact hP j (by omega))) (by decide +kernel) hC0 hF
        ·
          refine r_iload2 hX dX5_mealsTillLiked_45 (q := 46) rfl ?_
          refine r_goto hX dX5_mealsTillLiked_46 (tgt := 55) (by decide) ?_
          refine r_iret hX hR dX5_mealsTillLiked_55 ?_
          -- leaf 1 at 55
          refine ⟨_, rfl, ?_⟩
          have e : k = m := by omega
          subst e
          first
            | exact CO.ok (tl_some h42 hP (by omega)) rfl hC0 hF
            | exact CO.fin (tl_none (fun j hj => by
                by_cases e : j = k
                · subst e; exact h42
                · exact hP j (by omega))) (by decide +kernel) hC0 hF
      ·
        refine r_aload0 hX dX5_mealsTillLiked_7 (q := 8) rfl ?_
        refine r_getR hX dX5_mealsTillLiked_8 (q := 11) (c' := ch 1 0) rfl fX5_16 rfl ⟨by decide, by decide, rfl⟩ ?_
        refine r_iload1 hX dX5_mealsTillLiked_11 (q := 12) rfl ?_
        refine r_callV hX dX5_mealsTillLiked_12 (q := 15) rfl (c_X0_isLiked _ Γ _ 1 (by decide) _ _ hCk hVk _ f rfl hf) kX5_84 mlX0_isLiked mvX0_isLiked rfl rfl (ch_lay (j := 0) (by first | assumption | decide) (by decide) rfl) ⟨by decide, rfl⟩ ⟨by decide, by decide⟩ (Nat.le_of_ble_eq_true rfl) (keB ?_)
        first | with_reducible refine r_ifd_eq hX dX5_mealsTillLiked_15 (q := 18) rfl (tgt := 20) (by decide) (fun h15 => ?_) (fun h15 => ?_) | refine r_ifb_eq hX dX5_mealsTillLiked_15 (q := 18) rfl (tgt := 20) (by decide) (fun h15 => ?_) (fun h15 => ?_)
        ·
          refine r_aload0 hX dX5_mealsTillLiked_20 (q := 21) rfl ?_
          refine r_getR hX dX5_mealsTillLiked_21 (q := 24) (c' := ch 1 0) rfl fX5_16 rfl ⟨by decide, by decide, rfl⟩ ?_
          refine r_callV hX dX5_mealsTillLiked_24 (q := 27) rfl (c_X0_serveMeal _ Γ _ 1 (by decide) _ (b + k) hCk hVk (by omega)) kX5_212 mlX0_serveMeal mvX0_serveMeal rfl rfl (ch_lay (j := 0) (by first | assumption | decide) (by decide) rfl) ⟨by decide, rfl⟩ ⟨by decide, by decide⟩ (Nat.le_of_ble_eq_true rfl) (kpI (fun v24 G24 p24 => ?_))
          refine r_pop hX dX5_mealsTillLiked_27 (q := 28) rfl rfl ?_
          refine r_iincN3 hX dX5_mealsTillLiked_28 (q := 31) rfl rfl ?_
          refine r_goto hX dX5_mealsTillLiked_31 (tgt := 2) (by decide) ?_
          refine ih2 _ ?_ (k + 1) _ rfl ?_ ?_ ?_ ?_ ?_
          ·
            omega
          ·
            omega
          ·
            exact p24.2.1
          ·
            exact cr_T hC0 p24.2.2
          ·
            exact fr_T p24.2.2 hF
          ·
            intro j hj
            by_cases e : j = k
            · subst e; exact h15
            · exact hP j (by omega)
        ·
          refine r_iload3 hX dX5_mealsTillLiked_18 (q := 19) rfl ?_
          refine r_iret hX hR dX5_mealsTillLiked_19 ?_
          -- leaf 2 at 19
          refine ⟨_, rfl, ?_⟩
          exact CO.ok (tl_some h15 hP (by omega)) rfl hC0 hF
  refine L2 _ 0 _ rfl ?_ ?_ ?_ ?_ ?_
  ·
    exact Nat.zero_le _
  ·
    exact hC1
  ·
    exact hC
  ·
    exact fr0
  ·
    exact fun j hj => absurd hj (by omega)

set_option maxRecDepth 100000 in
set_option maxHeartbeats 4000000 in
theorem c_X5_when (l : Launch) (Γ : Gam) (G : GG) (μ : MU) (b : Nat) (hC : CR G 0 μ) (hV : Inv b μ) (hb : b ≤ 100000) (x : Int32) : Sp l yX5_when cX5_when 2 (some .int) 5 115 [.ref (gad Γ 30), .int x] Γ G (pI (CO G μ (oWhen μ x))) := by
  refine Sp_of (own := RX5) rfl (by decide +kernel) rfl (Nat.le_of_ble_eq_true rfl) (fun X hX hR => ?_)
  show WP X Γ 0 [some (.ref (gad Γ 30)), some (.int x)] [] G
  refine r_iload1 hX dX5_when_0 (q := 1) rfl ?_
  refine r_callS hX dX5_when_1 (q := 4) rfl (c_X5_isFood _ Γ _ _) kX5_63 mlX5_isFood msX5_isFood rfl rfl ⟨by decide, by decide⟩ (Nat.le_of_ble_eq_true rfl) (keB ?_)
  first | with_reducible refine r_ifd_ne hX dX5_when_4 (q := 7) rfl (tgt := 14) (by decide) (fun h4 => ?_) (fun h4 => ?_) | refine r_ifb_ne hX dX5_when_4 (q := 7) rfl (tgt := 14) (by decide) (fun h4 => ?_) (fun h4 => ?_)
  ·
    obtain ⟨xl, xe⟩ := ix_of (by decide) h4
    refine r_aload0 hX dX5_when_14 (q := 15) rfl ?_
    refine r_sipush hX dX5_when_15 (q := 18) rfl (v := nI 350) (by decide +kernel) ?_
    refine r_callV hX dX5_when_18 (q := 21) rfl (c_X5_isPastLast _ Γ _ _ _ (by assumption) (by assumption) _) kX5_162 mlX5_isPastLast mvX5_isPastLast rfl rfl rfl ⟨by decide, rfl⟩ ⟨by decide, by decide⟩ (Nat.le_of_ble_eq_true rfl) (keB ?_)
    first | with_reducible refine r_ifd_eq hX dX5_when_21 (q := 24) rfl (tgt := 31) (by decide) (fun h21 => ?_) (fun h21 => ?_) | refine r_ifb_eq hX dX5_when_21 (q := 24) rfl (tgt := 31) (by decide) (fun h21 => ?_) (fun h21 => ?_)
    ·
      refine r_aload0 hX dX5_when_31 (q := 32) rfl ?_
      refine r_getR hX dX5_when_32 (q := 35) (c' := ch 1 0) rfl fX5_16 rfl ⟨by decide, by decide, rfl⟩ ?_
      refine r_aload0 hX dX5_when_35 (q := 36) rfl ?_
      refine r_getR hX dX5_when_36 (q := 39) (c' := ch 0 0) rfl fX5_12 rfl ⟨by decide, by decide, rfl⟩ ?_
      refine r_callV hX dX5_when_39 (q := 42) rfl (c_X0_become _ Γ _ 1 0 (by decide) (by decide) (by decide) μ hC) kX5_202 mlX0_become mvX0_become rfl rfl (ch_lay (j := 0) (by first | assumption | decide) (by decide) rfl) ⟨by decide, rfl⟩ ⟨by decide, by decide⟩ (Nat.le_of_ble_eq_true rfl) (kpV (fun G39 p39 => ?_))
      refine r_aload0 hX dX5_when_42 (q := 43) rfl ?_
      refine r_iload1 hX dX5_when_43 (q := 44) rfl ?_
      refine r_sipush hX dX5_when_44 (q := 47) rfl (v := nI 350) (by decide +kernel) ?_
      refine r_callV hX dX5_when_47 (q := 50) rfl (c_X5_mealsTillLiked _ Γ _ μ μ b (cr_T hC p39.2) p39.1 hV _ (cl x) xe (by omega) _ 350 rfl (by omega)) kX5_206 mlX5_mealsTillLiked mvX5_mealsTillLiked rfl rfl rfl ⟨by decide, rfl⟩ ⟨by decide, by decide⟩ (Nat.le_of_ble_eq_true rfl) (kpI (fun v47 G47 p47 => ?_))
      refine r_iret hX hR dX5_when_50 ?_
      -- leaf 0 at 50
      refine ⟨_, rfl, ?_⟩
      exact co_tr (o := oWhen μ x) (by unfold oWhen; rw [if_pos h4]; exact if_neg h21) p39.2 p47
    ·
      refine r_aload0 hX dX5_when_24 (q := 25) rfl ?_
      refine r_ldc hX dX5_when_25 (q := 27) rfl qX5_165 ?_
      refine r_callV hX dX5_when_27 (q := 30) rfl (c_X5_finding _ Γ _ _ 4 (by decide) (by decide +kernel)) kX5_67 mlX5_finding mvX5_finding rfl rfl rfl ⟨by decide, rfl⟩ ⟨by decide, by decide⟩ (Nat.le_of_ble_eq_true rfl) (keI ?_)
      refine r_iret hX hR dX5_when_30 ?_
      -- leaf 1 at 30
      refine ⟨_, rfl, ?_⟩
      exact CO.fin (k := 4) (by unfold oWhen; rw [if_pos h4]; exact if_pos h21) (by decide +kernel) hC fr0
  ·
    refine r_aload0 hX dX5_when_7 (q := 8) rfl ?_
    refine r_ldc hX dX5_when_8 (q := 10) rfl qX5_44 ?_
    refine r_callV hX dX5_when_10 (q := 13) rfl (c_X5_finding _ Γ _ _ 0 (by decide) (by decide +kernel)) kX5_67 mlX5_finding mvX5_finding rfl rfl rfl ⟨by decide, rfl⟩ ⟨by decide, by decide⟩ (Nat.le_of_ble_eq_true rfl) (keI ?_)
    refine r_iret hX hR dX5_when_13 ?_
    -- leaf 2 at 13
    refine ⟨_, rfl, ?_⟩
    exact CO.fin (k := 0) (if_neg h4) (by decide +kernel) hC fr0

set_option maxRecDepth 100000 in
set_option maxHeartbeats 4000000 in
theorem c_X5_times (l : Launch) (Γ : Gam) (G : GG) (μ : MU) (b : Nat) (hC : CR G 0 μ) (hV : Inv b μ) (hb : b ≤ 100000) (x : Int32) : Sp l yX5_times cX5_times 2 (some .int) 5 115 [.ref (gad Γ 30), .int x] Γ G (pI (CO G μ (oTimes μ x))) := by
  refine Sp_of (own := RX5) rfl (by decide +kernel) rfl (Nat.le_of_ble_eq_true rfl) (fun X hX hR => ?_)
  show WP X Γ 0 [some (.ref (gad Γ 30)), some (.int x)] [] G
  refine r_aload0 hX dX5_times_0 (q := 1) rfl ?_
  refine r_iload1 hX dX5_times_1 (q := 2) rfl ?_
  refine r_callV hX dX5_times_2 (q := 5) rfl (c_X5_isTaste _ Γ _ _ _ (by assumption) (by assumption) _) kX5_126 mlX5_isTaste mvX5_isTaste rfl rfl rfl ⟨by decide, rfl⟩ ⟨by decide, by decide⟩ (Nat.le_of_ble_eq_true rfl) (keB ?_)
  first | with_reducible refine r_ifd_ne hX dX5_times_5 (q := 8) rfl (tgt := 15) (by decide) (fun h5 => ?_) (fun h5 => ?_) | refine r_ifb_ne hX dX5_times_5 (q := 8) rfl (tgt := 15) (by decide) (fun h5 => ?_) (fun h5 => ?_)
  ·
    obtain ⟨n, t, hn, ht, hs, rfl⟩ := (ts_of hV).mp h5
    obtain ⟨hf, hfe⟩ := hV.fd (t := t) (by omega)
    refine r_aload0 hX dX5_times_15 (q := 16) rfl ?_
    refine r_bipush hX dX5_times_16 (q := 18) rfl (v := nI 99) (by decide +kernel) ?_
    refine r_callV hX dX5_times_18 (q := 21) rfl (c_X5_isPastLast _ Γ _ _ _ (by assumption) (by assumption) _) kX5_162 mlX5_isPastLast mvX5_isPastLast rfl rfl rfl ⟨by decide, rfl⟩ ⟨by decide, by decide⟩ (Nat.le_of_ble_eq_true rfl) (keB ?_)
    first | with_reducible refine r_ifd_eq hX dX5_times_21 (q := 24) rfl (tgt := 31) (by decide) (fun h21 => ?_) (fun h21 => ?_) | refine r_ifb_eq hX dX5_times_21 (q := 24) rfl (tgt := 31) (by decide) (fun h21 => ?_) (fun h21 => ?_)
    ·
      skip
      refine r_aload0 hX dX5_times_31 (q := 32) rfl ?_
      refine r_getR hX dX5_times_32 (q := 35) (c' := ch 1 0) rfl fX5_16 rfl ⟨by decide, by decide, rfl⟩ ?_
      refine r_aload0 hX dX5_times_35 (q := 36) rfl ?_
      refine r_getR hX dX5_times_36 (q := 39) (c' := ch 0 0) rfl fX5_12 rfl ⟨by decide, by decide, rfl⟩ ?_
      refine r_callV hX dX5_times_39 (q := 42) rfl (c_X0_become _ Γ _ 1 0 (by decide) (by decide) (by decide) μ hC) kX5_202 mlX0_become mvX0_become rfl rfl (ch_lay (j := 0) (by first | assumption | decide) (by decide) rfl) ⟨by decide, rfl⟩ ⟨by decide, by decide⟩ (Nat.le_of_ble_eq_true rfl) (kpV (fun G39 p39 => ?_))
      refine r_aload0 hX dX5_times_42 (q := 43) rfl ?_
      refine r_getR hX dX5_times_43 (q := 46) (c' := ch 1 0) rfl fX5_16 rfl ⟨by decide, by decide, rfl⟩ ?_
      refine r_getR hX dX5_times_46 (q := 49) rfl fX5_49 (ch_lay (j := 0) (by first | assumption | decide) (by decide) rfl) (rC_9 (by first | assumption | decide)) ?_
      refine r_iload1 hX dX5_times_49 (q := 50) rfl ?_
      refine r_callV hX dX5_times_50 (q := 53) rfl (c_X1_keepOnly _ Γ _ 1 (by decide) _ t rfl (by omega)) kX5_209 mlX1_keepOnly mvX1_keepOnly rfl rfl (ch_lay (j := 4) (by first | assumption | decide) (by decide) rfl) ⟨by decide, rfl⟩ ⟨by decide, by decide⟩ (Nat.le_of_ble_eq_true rfl) (keV ?_)
      have hCo : CR (up (exG (exG (exG G39 (ch 1 5) 0 t) (ch 1 6) 0 t) (ch 1 7) 0 t) (ch 1 4) 3 (nI 1)) 1 (onM μ t) := (p39.1.exch (by decide) (by omega)).size (nI 1)
      have hFo : Fr 1 G (up (exG (exG (exG G39 (ch 1 5) 0 t) (ch 1 6) 0 t) (ch 1 7) 0 t) (ch 1 4) 3 (nI 1)) := (((p39.2.ex (by decide)).ex (by decide)).ex (by decide)).up (by decide)
      generalize up (exG (exG (exG G39 (ch 1 5) 0 t) (ch 1 6) 0 t) (ch 1 7) 0 t) (ch 1 4) 3 (nI 1) = G2 at hCo hFo ⊢
      have hC2 := cr_T hC hFo
      have efo : G2 (ch 0 6) t = nI (cl (μ (41 + 3 * t))) := ((hC2.2.2.1 t (by omega)).2.1).trans hfe
      refine r_aload0 hX dX5_times_53 (q := 54) rfl ?_
      refine r_aload0 hX dX5_times_54 (q := 55) rfl ?_
      refine r_getR hX dX5_times_55 (q := 58) (c' := ch 0 0) rfl fX5_12 rfl ⟨by decide, by decide, rfl⟩ ?_
      refine r_getR hX dX5_times_58 (q := 61) rfl fX5_49 (ch_lay (j := 0) (by first | assumption | decide) (by decide) rfl) (rC_9 (by first | assumption | decide)) ?_
      refine r_getR hX dX5_times_61 (q := 64) rfl fX5_132 (ch_lay (j := 4) (by first | assumption | decide) (by decide) rfl) (rP_1 (by first | assumption | decide)) ?_
      refine r_iload1 hX dX5_times_64 (q := 65) rfl ?_
      refine r_ialdN hX dX5_times_65 (q := 66) rfl (ch_lay (j := 6) (by first | assumption | decide) (by decide) rfl) (by repeat' (first | assumption | with_reducible exact rfl | refine e_add ?_ ?_ | refine e_mul ?_ ?_)) (by first | assumption | omega) (by first | decide | omega) ?_
      refine r_bipush hX dX5_times_66 (q := 68) rfl (v := nI 99) (by decide +kernel) ?_
      refine r_callV hX dX5_times_68 (q := 71) rfl (c_X5_mealsTillLiked _ Γ _ μ (onM μ t) b hC2 hCo (on_inv hV (by omega)) _ (cl (μ (41 + 3 * t))) efo (by omega) _ 99 rfl (by omega)) kX5_206 mlX5_mealsTillLiked mvX5_mealsTillLiked rfl rfl rfl ⟨by decide, rfl⟩ ⟨by decide, by decide⟩ (Nat.le_of_ble_eq_true rfl) (kpI (fun v68 G68 p68 => ?_))
      refine r_iret hX hR dX5_times_71 ?_
      -- leaf 0 at 71
      refine ⟨_, rfl, ?_⟩
      exact co_tr (o := oTimes μ (nI t)) (by unfold oTimes; rw [if_pos h5, cl_nI (by omega)]; exact if_neg h21) hFo p68
    ·
      refine r_aload0 hX dX5_times_24 (q := 25) rfl ?_
      refine r_ldc hX dX5_times_25 (q := 27) rfl qX5_165 ?_
      refine r_callV hX dX5_times_27 (q := 30) rfl (c_X5_finding _ Γ _ _ 4 (by decide) (by decide +kernel)) kX5_67 mlX5_finding mvX5_finding rfl rfl rfl ⟨by decide, rfl⟩ ⟨by decide, by decide⟩ (Nat.le_of_ble_eq_true rfl) (keI ?_)
      refine r_iret hX hR dX5_times_30 ?_
      -- leaf 1 at 30
      refine ⟨_, rfl, ?_⟩
      exact CO.fin (k := 4) (by unfold oTimes; rw [if_pos h5]; exact if_pos h21) (by decide +kernel) hC fr0
  ·
    refine r_aload0 hX dX5_times_8 (q := 9) rfl ?_
    refine r_ldc hX dX5_times_9 (q := 11) rfl qX5_44 ?_
    refine r_callV hX dX5_times_11 (q := 14) rfl (c_X5_finding _ Γ _ _ 0 (by decide) (by decide +kernel)) kX5_67 mlX5_finding mvX5_finding rfl rfl rfl ⟨by decide, rfl⟩ ⟨by decide, by decide⟩ (Nat.le_of_ble_eq_true rfl) (keI ?_)
    refine r_iret hX hR dX5_times_14 ?_
    -- leaf 2 at 14
    refine ⟨_, rfl, ?_⟩
    exact CO.fin (k := 0) (if_neg (by rw [h5]; decide)) (by decide +kernel) hC fr0

set_option maxRecDepth 100000 in
set_option maxHeartbeats 4000000 in
theorem c_X5_likedBehind (l : Launch) (Γ : Gam) (G : GG) (μ ν : MU) (b : Nat) (hC1 : CR G 1 ν) (hV1 : Inv b ν) (x : Int32) (n : Nat) (hx : x = nI n) (hn : b + n < 2 ^ 29) : Sp l yX5_likedBehind cX5_likedBehind 2 (some .int) 5 115 [.ref (gad Γ 30), .int x] Γ G (pI (fun v G' => v = lbF ν n ∧ Fr 1 G G')) := by
  refine Sp_of (own := RX5) rfl (by decide +kernel) rfl (Nat.le_of_ble_eq_true rfl) (fun X hX hR => ?_)
  show WP X Γ 0 [some (.ref (gad Γ 30)), some (.int x)] [] G
  refine r_aload0 hX dX5_likedBehind_0 (q := 1) rfl ?_
  refine r_getR hX dX5_likedBehind_1 (q := 4) (c' := ch 1 0) rfl fX5_16 rfl ⟨by decide, by decide, rfl⟩ ?_
  refine r_iload1 hX dX5_likedBehind_4 (q := 5) rfl ?_
  refine r_callV hX dX5_likedBehind_5 (q := 8) rfl (c_X0_goOn _ Γ _ 1 (by decide) ν b hC1 hV1 _ n hx hn) kX5_166 mlX0_goOn mvX0_goOn rfl rfl (ch_lay (j := 0) (by first | assumption | decide) (by decide) rfl) ⟨by decide, rfl⟩ ⟨by decide, by decide⟩ (Nat.le_of_ble_eq_true rfl) (kpI (fun v5 G5 p5 => ?_))
  refine r_pop hX dX5_likedBehind_8 (q := 9) rfl rfl ?_
  refine r_aload0 hX dX5_likedBehind_9 (q := 10) rfl ?_
  refine r_getR hX dX5_likedBehind_10 (q := 13) (c' := ch 1 0) rfl fX5_16 rfl ⟨by decide, by decide, rfl⟩ ?_
  refine r_callV hX dX5_likedBehind_13 (q := 16) rfl (c_X0_likedSet _ Γ _ 1 (by decide) _ (b + n) p5.2.1 (hV1.go n (by omega))) kX5_106 mlX0_likedSet mvX0_likedSet rfl rfl (ch_lay (j := 0) (by first | assumption | decide) (by decide) rfl) ⟨by decide, rfl⟩ ⟨by decide, by decide⟩ (Nat.le_of_ble_eq_true rfl) (keI ?_)
  refine r_callS hX dX5_likedBehind_16 (q := 19) rfl (c_J6_bitCount_0f7a4 _ Γ _ _) kX5_218 mlJ6_bitCount_0f7a4 msJ6_bitCount_0f7a4 rfl rfl ⟨by decide, by decide⟩ (Nat.le_of_ble_eq_true rfl) (keI ?_)
  refine r_iret hX hR dX5_likedBehind_19 ?_
  -- leaf 0 at 19
  refine ⟨_, rfl, ?_⟩
  exact ⟨bc_ls _, p5.2.2⟩

set_option maxRecDepth 100000 in
set_option maxHeartbeats 4000000 in
theorem c_X5_bestFor (l : Launch) (Γ : Gam) (G : GG) (μ : MU) (b : Nat) (hC : CR G 0 μ) (hV : Inv b μ) (hb : b ≤ 100000) (x y z : Int32) (w : Nat) (hz : z = nI w) (hw : w < 3) : Sp l yX5_bestFor cX5_bestFor 9 (some .int) 5 115 [.ref (gad Γ 30), .int x, .int y, .int z] Γ G (pI (CO G μ (oBest μ x y w))) := by
  refine Sp_of (own := RX5) rfl (by decide +kernel) rfl (Nat.le_of_ble_eq_true rfl) (fun X hX hR => ?_)
  show WP X Γ 0 [some (.ref (gad Γ 30)), some (.int x), some (.int y), some (.int z), none, none, none, none, none] [] G
  subst hz
  have htop := top_eq hw
  have hlow := low_eq hw
  have hlh := lh_le hw
  refine r_aload0 hX dX5_bestFor_0 (q := 1) rfl ?_
  refine r_iload1 hX dX5_bestFor_1 (q := 2) rfl ?_
  refine r_callV hX dX5_bestFor_2 (q := 5) rfl (c_X5_isTaste _ Γ _ _ _ (by assumption) (by assumption) _) kX5_126 mlX5_isTaste mvX5_isTaste rfl rfl rfl ⟨by decide, rfl⟩ ⟨by decide, by decide⟩ (Nat.le_of_ble_eq_true rfl) (keB ?_)
  first | with_reducible refine r_ifd_eq hX dX5_bestFor_5 (q := 8) rfl (tgt := 19) (by decide) (fun h5 => ?_) (fun h5 => ?_) | refine r_ifb_eq hX dX5_bestFor_5 (q := 8) rfl (tgt := 19) (by decide) (fun h5 => ?_) (fun h5 => ?_)
  ·
    refine r_aload0 hX dX5_bestFor_19 (q := 20) rfl ?_
    refine r_ldc hX dX5_bestFor_20 (q := 22) rfl qX5_44 ?_
    refine r_callV hX dX5_bestFor_22 (q := 25) rfl (c_X5_finding _ Γ _ _ 0 (by decide) (by decide +kernel)) kX5_67 mlX5_finding mvX5_finding rfl rfl rfl ⟨by decide, rfl⟩ ⟨by decide, by decide⟩ (Nat.le_of_ble_eq_true rfl) (keI ?_)
    refine r_iret hX hR dX5_bestFor_25 ?_
    -- leaf 0 at 25
    refine ⟨_, rfl, ?_⟩
    first
      | exact CO.fin (k := 0) (if_neg (fun z => by rw [h5] at z; exact absurd z.1 (by decide))) (by decide +kernel) hC fr0
      | exact CO.fin (k := 0) (if_neg (fun z => h16 z.2)) (by decide +kernel) hC fr0
  ·
    refine r_iload2 hX dX5_bestFor_8 (q := 9) rfl ?_
    refine r_iconst hX dX5_bestFor_9 (q := 10) rfl (v := nI 1) (by decide +kernel) ?_
    refine r_sipush hX dX5_bestFor_10 (q := 13) rfl (v := nI 175) (by decide +kernel) ?_
    refine r_callS hX dX5_bestFor_13 (q := 16) rfl (c_X5_within _ Γ _ _ _ _) kX5_45 mlX5_within msX5_within rfl rfl ⟨by decide, by decide⟩ (Nat.le_of_ble_eq_true rfl) (keB ?_)
    first | with_reducible refine r_ifd_ne hX dX5_bestFor_16 (q := 19) rfl (tgt := 26) (by decide) (fun h16 => ?_) (fun h16 => ?_) | refine r_ifb_ne hX dX5_bestFor_16 (q := 19) rfl (tgt := 26) (by decide) (fun h16 => ?_) (fun h16 => ?_)
    ·
      obtain ⟨n, t, hn, ht, hs, rfl⟩ := (ts_of hV).mp h5
      obtain ⟨hy0, hy1, hye⟩ := ix1_of (by decide) (by decide) h16
      refine r_aload0 hX dX5_bestFor_26 (q := 27) rfl ?_
      refine r_iload2 hX dX5_bestFor_27 (q := 28) rfl ?_
      refine r_callV hX dX5_bestFor_28 (q := 31) rfl (c_X5_isPastLast _ Γ _ _ _ (by assumption) (by assumption) _) kX5_162 mlX5_isPastLast mvX5_isPastLast rfl rfl rfl ⟨by decide, rfl⟩ ⟨by decide, by decide⟩ (Nat.le_of_ble_eq_true rfl) (keB ?_)
      first | with_reducible refine r_ifd_eq hX dX5_bestFor_31 (q := 34) rfl (tgt := 41) (by decide) (fun h31 => ?_) (fun h31 => ?_) | refine r_ifb_eq hX dX5_bestFor_31 (q := 34) rfl (tgt := 41) (by decide) (fun h31 => ?_) (fun h31 => ?_)
      ·
        refine r_iconst hX dX5_bestFor_41 (q := 42) rfl (v := (-1)) (by decide +kernel) ?_
        refine r_istore4 hX dX5_bestFor_42 (q := 44) rfl rfl ?_
        refine r_iconst hX dX5_bestFor_44 (q := 45) rfl (v := (-1)) (by decide +kernel) ?_
        refine r_istore5 hX dX5_bestFor_45 (q := 47) rfl rfl ?_
        refine r_iload3 hX dX5_bestFor_47 (q := 48) rfl ?_
        refine r_callS hX dX5_bestFor_48 (q := 51) rfl (c_X5_traitLow _ Γ _ _) kX5_145 mlX5_traitLow msX5_traitLow rfl rfl ⟨by decide, by decide⟩ (Nat.le_of_ble_eq_true rfl) (keI ?_)
        rw [hlow]
        refine r_istore6 hX dX5_bestFor_51 (q := 53) rfl rfl ?_
        have L53 : ∀ (zn53 : Nat) (k : Nat) (e g : Int32) (G1 : GG), zn53 = hiw w + 1 - loww w - k → (k ≤ hiw w + 1 - loww w) → (e = (bsS (scW μ (cl y) t w) (loww w) k).1) → (g = (bsS (scW μ (cl y) t w) (loww w) k).2) → (CR G1 0 μ) → (∀ c, 20 ≤ c → G1 c = G c) → WP X Γ 53 [some (.ref (gad Γ 30)), some (.int (nI t)), some (.int y), some (.int (nI w)), some (.int e), some (.int g), some (.int (nI (loww w + k))), none, none] [] G1 := by
          intro zn53
          induction zn53 using Nat.strongRecOn with
          | _ zn53 ih53 =>
            intro k e g G1 zh53 hk he hg hC0 hF
            refine r_iload6 hX dX5_bestFor_53 (q := 55) rfl ?_
            refine r_iload3 hX dX5_bestFor_55 (q := 56) rfl ?_
            refine r_callS hX dX5_bestFor_56 (q := 59) rfl (c_X5_traitTop _ Γ _ _) kX5_148 mlX5_traitTop msX5_traitTop rfl rfl ⟨by decide, by decide⟩ (Nat.le_of_ble_eq_true rfl) (keI ?_)
            rw [htop]
            first | refine r_icmpN_gt hX dX5_bestFor_59 (q := 62) rfl (tgt := 141) (by decide) (by first | decide | omega) (by first | decide | omega) (fun h59 => ?_) (fun h59 => ?_) | refine r_icmp_gt hX dX5_bestFor_59 (q := 62) rfl (tgt := 141) (by decide) (fun h59 => ?_) (fun h59 => ?_)
            ·
              refine r_iload4 hX dX5_bestFor_141 (q := 143) rfl ?_
              refine r_iret hX hR dX5_bestFor_143 ?_
              -- leaf 1 at 143
              refine ⟨_, rfl, ?_⟩
              have ek : k = hiw w + 1 - loww w := by omega
              exact CO.ok (w := (bsS (scW μ (cl y) t w) (loww w) (hiw w + 1 - loww w)).1) (μ' := μ) (by unfold oBest; rw [if_pos ⟨h5, h16⟩, if_neg h31, cl_nI (by omega)]) (by rw [he, ek]) hC0 hF
            ·
              have hkk : k < hiw w + 1 - loww w := by omega
              have hV2 : Inv b (upd μ (40 + 3 * t + w) (nI (loww w + k))) := hV.row (by omega) hw (by omega) (by omega)
              refine r_aload0 hX dX5_bestFor_62 (q := 63) rfl ?_
              refine r_getR hX dX5_bestFor_63 (q := 66) (c' := ch 1 0) rfl fX5_16 rfl ⟨by decide, by decide, rfl⟩ ?_
              refine r_aload0 hX dX5_bestFor_66 (q := 67) rfl ?_
              refine r_getR hX dX5_bestFor_67 (q := 70) (c' := ch 0 0) rfl fX5_12 rfl ⟨by decide, by decide, rfl⟩ ?_
              refine r_callV hX dX5_bestFor_70 (q := 73) rfl (c_X0_become _ Γ _ 1 0 (by decide) (by decide) (by decide) μ hC0) kX5_202 mlX0_become mvX0_become rfl rfl (ch_lay (j := 0) (by first | assumption | decide) (by decide) rfl) ⟨by decide, rfl⟩ ⟨by decide, by decide⟩ (Nat.le_of_ble_eq_true rfl) (kpV (fun G70 p70 => ?_))
              refine r_aload0 hX dX5_bestFor_73 (q := 74) rfl ?_
              refine r_getR hX dX5_bestFor_74 (q := 77) (c' := ch 1 0) rfl fX5_16 rfl ⟨by decide, by decide, rfl⟩ ?_
              refine r_getR hX dX5_bestFor_77 (q := 80) rfl fX5_49 (ch_lay (j := 0) (by first | assumption | decide) (by decide) rfl) (rC_9 (by first | assumption | decide)) ?_
              refine r_iload3 hX dX5_bestFor_80 (q := 81) rfl ?_
              refine r_callV hX dX5_bestFor_81 (q := 84) rfl (c_X1_row _ Γ _ 1 (by decide) _ w rfl hw) kX5_151 mlX1_row mvX1_row rfl rfl (ch_lay (j := 4) (by first | assumption | decide) (by decide) rfl) ⟨by decide, rfl⟩ ⟨by decide, by decide⟩ (Nat.le_of_ble_eq_true rfl) (keR ?_)
              refine r_iload1 hX dX5_bestFor_84 (q := 85) rfl ?_
              refine r_iload6 hX dX5_bestFor_85 (q := 87) rfl ?_
              refine r_iastN hX dX5_bestFor_87 (q := 88) rfl (row_lay (by first | assumption | decide) (by first | assumption | decide)) (by repeat' (first | assumption | with_reducible exact rfl | refine e_add ?_ ?_ | refine e_mul ?_ ?_)) (by first | assumption | omega) (by first | decide | omega) ?_
              have hCr := row_set p70.1 (t := t) (j := w) (by omega) hw (nI (loww w + k))
              have hFr : Fr 1 G1 (up G70 (ch 1 (5 + w)) t (nI (loww w + k))) := p70.2.up (by omega)
              generalize up G70 (ch 1 (5 + w)) t (nI (loww w + k)) = G2 at hCr hFr ⊢
              refine r_aload0 hX dX5_bestFor_88 (q := 89) rfl ?_
              refine r_getR hX dX5_bestFor_89 (q := 92) (c' := ch 1 0) rfl fX5_16 rfl ⟨by decide, by decide, rfl⟩ ?_
              refine r_iload2 hX dX5_bestFor_92 (q := 93) rfl ?_
              refine r_callV hX dX5_bestFor_93 (q := 96) rfl (c_X0_goOn _ Γ _ 1 (by decide) _ b hCr hV2 _ (cl y) hye (by omega)) kX5_166 mlX0_goOn mvX0_goOn rfl rfl (ch_lay (j := 0) (by first | assumption | decide) (by decide) rfl) ⟨by decide, rfl⟩ ⟨by decide, by decide⟩ (Nat.le_of_ble_eq_true rfl) (kpI (fun v93 G93 p93 => ?_))
              have hCf := cr_T (cr_T hC0 hFr) p93.2.2
              have hFf := fr_T p93.2.2 (fr_T hFr hF)
              refine r_istore7 hX dX5_bestFor_96 (q := 98) rfl rfl ?_
              refine r_iload3 hX dX5_bestFor_98 (q := 99) rfl ?_
              refine r_iconst hX dX5_bestFor_99 (q := 100) rfl (v := nI 2) (by decide +kernel) ?_
              refine r_icmpN_ne hX dX5_bestFor_100 (q := 103) rfl (tgt := 108) (by decide) (by first | decide | omega) (by first | decide | omega) (fun h100 => ?_) (fun h100 => ?_)
              ·
                refine r_aload0 hX dX5_bestFor_108 (q := 109) rfl ?_
                refine r_getR hX dX5_bestFor_109 (q := 112) (c' := ch 1 0) rfl fX5_16 rfl ⟨by decide, by decide, rfl⟩ ?_
                refine r_callV hX dX5_bestFor_112 (q := 115) rfl (c_X0_likedSet _ Γ _ 1 (by decide) _ (b + cl y) p93.2.1 (hV2.go (cl y) (by omega))) kX5_106 mlX0_likedSet mvX0_likedSet rfl rfl (ch_lay (j := 0) (by first | assumption | decide) (by decide) rfl) ⟨by decide, rfl⟩ ⟨by decide, by decide⟩ (Nat.le_of_ble_eq_true rfl) (keI ?_)
                refine r_callS hX dX5_bestFor_115 (q := 118) rfl (c_J6_bitCount_0f7a4 _ Γ _ _) kX5_218 mlJ6_bitCount_0f7a4 msJ6_bitCount_0f7a4 rfl rfl ⟨by decide, by decide⟩ (Nat.le_of_ble_eq_true rfl) (keI ?_)
                refine r_topi (fun sc hsc => ?_)
                refine r_istore8 hX dX5_bestFor_118 (q := 120) rfl rfl ?_
                have hsc2 : sc = scW μ (cl y) t w (loww w + k) := by
                  unfold scW
                  first
                    | (rw [if_pos h100]; exact hsc.trans p93.1)
                    | (rw [if_neg h100]; exact hsc.trans (bc_ls _))
                refine r_iload8 hX dX5_bestFor_120 (q := 122) rfl ?_
                refine r_iload5 hX dX5_bestFor_122 (q := 124) rfl ?_
                first | refine r_icmpN_le hX dX5_bestFor_124 (q := 127) rfl (tgt := 135) (by decide) (by first | decide | omega) (by first | decide | omega) (fun h124 => ?_) (fun h124 => ?_) | refine r_icmp_le hX dX5_bestFor_124 (q := 127) rfl (tgt := 135) (by decide) (fun h124 => ?_) (fun h124 => ?_)
                ·
                  rw [hg, hsc2] at h124
                  have hlt := Int32.not_lt.mpr h124
                  refine r_iincN6 hX dX5_bestFor_135 (q := 138) rfl rfl ?_
                  refine r_goto hX dX5_bestFor_138 (tgt := 53) (by decide) ?_
                  refine r_drop7 ?_
                  refine r_drop8 ?_
                  refine ih53 _ ?_ (k + 1) _ _ _ rfl ?_ ?_ ?_ ?_ ?_
                  ·
                    omega
                  ·
                    omega
                  ·
                    simp only [bsS]
                    first
                      | (rw [if_pos hlt]; exact hsc2)
                      | (rw [if_pos hlt]; done)
                      | (rw [if_neg hlt]; exact he)
                      | (rw [if_neg hlt]; exact hg)
                  ·
                    simp only [bsS]
                    first
                      | (rw [if_pos hlt]; exact hsc2)
                      | (rw [if_pos hlt]; done)
                      | (rw [if_neg hlt]; exact he)
                      | (rw [if_neg hlt]; exact hg)
                  ·
                    exact hCf
                  ·
                    exact hFf
                ·
                  rw [hg, hsc2] at h124
                  have hlt := Int32.not_le.mp h124
                  refine r_iload8 hX dX5_bestFor_127 (q := 129) rfl ?_
                  refine r_istore5 hX dX5_bestFor_129 (q := 131) rfl rfl ?_
                  refine r_iload6 hX dX5_bestFor_131 (q := 133) rfl ?_
                  refine r_istore4 hX dX5_bestFor_133 (q := 135) rfl rfl ?_
                  refine r_iincN6 hX dX5_bestFor_135 (q := 138) rfl rfl ?_
                  refine r_goto hX dX5_bestFor_138 (tgt := 53) (by decide) ?_
                  refine r_drop7 ?_
                  refine r_drop8 ?_
                  refine ih53 _ ?_ (k + 1) _ _ _ rfl ?_ ?_ ?_ ?_ ?_
                  ·
                    omega
                  ·
                    omega
                  ·
                    simp only [bsS]
                    first
                      | (rw [if_pos hlt]; exact hsc2)
                      | (rw [if_pos hlt]; done)
                      | (rw [if_neg hlt]; exact he)
                      | (rw [if_neg hlt]; exact hg)
                  ·
                    simp only [bsS]
                    first
                      | (rw [if_pos hlt]; exact hsc2)
                      | (rw [if_pos hlt]; done)
                      | (rw [if_neg hlt]; exact he)
                      | (rw [if_neg hlt]; exact hg)
                  ·
                    exact hCf
                  ·
                    exact hFf
              ·
                refine r_iload7 hX dX5_bestFor_103 (q := 105) rfl ?_
                refine r_goto hX dX5_bestFor_105 (tgt := 118) (by decide) ?_
                refine r_topi (fun sc hsc => ?_)
                refine r_istore8 hX dX5_bestFor_118 (q := 120) rfl rfl ?_
                have hsc2 : sc = scW μ (cl y) t w (loww w + k) := by
                  unfold scW
                  first
                    | (rw [if_pos h100]; exact hsc.trans p93.1)
                    | (rw [if_neg h100]; exact hsc.trans (bc_ls _))
                refine r_iload8 hX dX5_bestFor_120 (q := 122) rfl ?_
                refine r_iload5 hX dX5_bestFor_122 (q := 124) rfl ?_
                first | refine r_icmpN_le hX dX5_bestFor_124 (q := 127) rfl (tgt := 135) (by decide) (by first | decide | omega) (by first | decide | omega) (fun h124 => ?_) (fun h124 => ?_) | refine r_icmp_le hX dX5_bestFor_124 (q := 127) rfl (tgt := 135) (by decide) (fun h124 => ?_) (fun h124 => ?_)
                ·
                  rw [hg, hsc2] at h124
                  have hlt := Int32.not_lt.mpr h124
                  refine r_iincN6 hX dX5_bestFor_135 (q := 138) rfl rfl ?_
                  refine r_goto hX dX5_bestFor_138 (tgt := 53) (by decide) ?_
                  refine r_drop7 ?_
                  refine r_drop8 ?_
                  refine ih53 _ ?_ (k + 1) _ _ _ rfl ?_ ?_ ?_ ?_ ?_
                  ·
                    omega
                  ·
                    omega
                  ·
                    simp only [bsS]
                    first
                      | (rw [if_pos hlt]; exact hsc2)
                      | (rw [if_pos hlt]; done)
                      | (rw [if_neg hlt]; exact he)
                      | (rw [if_neg hlt]; exact hg)
                  ·
                    simp only [bsS]
                    first
                      | (rw [if_pos hlt]; exact hsc2)
                      | (rw [if_pos hlt]; done)
                      | (rw [if_neg hlt]; exact he)
                      | (rw [if_neg hlt]; exact hg)
                  ·
                    exact hCf
                  ·
                    exact hFf
                ·
                  rw [hg, hsc2] at h124
                  have hlt := Int32.not_le.mp h124
                  refine r_iload8 hX dX5_bestFor_127 (q := 129) rfl ?_
                  refine r_istore5 hX dX5_bestFor_129 (q := 131) rfl rfl ?_
                  refine r_iload6 hX dX5_bestFor_131 (q := 133) rfl ?_
                  refine r_istore4 hX dX5_bestFor_133 (q := 135) rfl rfl ?_
                  refine r_iincN6 hX dX5_bestFor_135 (q := 138) rfl rfl ?_
                  refine r_goto hX dX5_bestFor_138 (tgt := 53) (by decide) ?_
                  refine r_drop7 ?_
                  refine r_drop8 ?_
                  refine ih53 _ ?_ (k + 1) _ _ _ rfl ?_ ?_ ?_ ?_ ?_
                  ·
                    omega
                  ·
                    omega
                  ·
                    simp only [bsS]
                    first
                      | (rw [if_pos hlt]; exact hsc2)
                      | (rw [if_pos hlt]; done)
                      | (rw [if_neg hlt]; exact he)
                      | (rw [if_neg hlt]; exact hg)
                  ·
                    simp only [bsS]
                    first
                      | (rw [if_pos hlt]; exact hsc2)
                      | (rw [if_pos hlt]; done)
                      | (rw [if_neg hlt]; exact he)
                      | (rw [if_neg hlt]; exact hg)
                  ·
                    exact hCf
                  ·
                    exact hFf
        refine L53 _ 0 _ _ _ rfl ?_ ?_ ?_ ?_ ?_
        ·
          exact Nat.zero_le _
        ·
          rfl
        ·
          rfl
        ·
          exact hC
        ·
          exact fr0
      ·
        refine r_aload0 hX dX5_bestFor_34 (q := 35) rfl ?_
        refine r_ldc hX dX5_bestFor_35 (q := 37) rfl qX5_165 ?_
        refine r_callV hX dX5_bestFor_37 (q := 40) rfl (c_X5_finding _ Γ _ _ 4 (by decide) (by decide +kernel)) kX5_67 mlX5_finding mvX5_finding rfl rfl rfl ⟨by decide, rfl⟩ ⟨by decide, by decide⟩ (Nat.le_of_ble_eq_true rfl) (keI ?_)
        refine r_iret hX hR dX5_bestFor_40 ?_
        -- leaf 2 at 40
        refine ⟨_, rfl, ?_⟩
        exact CO.fin (k := 4) (by unfold oBest; rw [if_pos ⟨h5, h16⟩]; exact if_pos h31) (by decide +kernel) hC fr0
    ·
      refine r_aload0 hX dX5_bestFor_19 (q := 20) rfl ?_
      refine r_ldc hX dX5_bestFor_20 (q := 22) rfl qX5_44 ?_
      refine r_callV hX dX5_bestFor_22 (q := 25) rfl (c_X5_finding _ Γ _ _ 0 (by decide) (by decide +kernel)) kX5_67 mlX5_finding mvX5_finding rfl rfl rfl ⟨by decide, rfl⟩ ⟨by decide, by decide⟩ (Nat.le_of_ble_eq_true rfl) (keI ?_)
      refine r_iret hX hR dX5_bestFor_25 ?_
      -- leaf 3 at 25
      refine ⟨_, rfl, ?_⟩
      first
        | exact CO.fin (k := 0) (if_neg (fun z => by rw [h5] at z; exact absurd z.1 (by decide))) (by decide +kernel) hC fr0
        | exact CO.fin (k := 0) (if_neg (fun z => h16 z.2)) (by decide +kernel) hC fr0

set_option maxRecDepth 100000 in
set_option maxHeartbeats 4000000 in
theorem c_X5_kindFor (l : Launch) (Γ : Gam) (G : GG) (μ : MU) (b : Nat) (hC : CR G 0 μ) (hV : Inv b μ) (hb : b ≤ 100000) (x y : Int32) : Sp l yX5_kindFor cX5_kindFor 3 (some .int) 6 143 [.ref (gad Γ 30), .int x, .int y] Γ G (pI (CO G μ (oBest μ x y 0))) := by
  refine Sp_of (own := RX5) rfl (by decide +kernel) rfl (Nat.le_of_ble_eq_true rfl) (fun X hX hR => ?_)
  show WP X Γ 0 [some (.ref (gad Γ 30)), some (.int x), some (.int y)] [] G
  refine r_aload0 hX dX5_kindFor_0 (q := 1) rfl ?_
  refine r_iload1 hX dX5_kindFor_1 (q := 2) rfl ?_
  refine r_iload2 hX dX5_kindFor_2 (q := 3) rfl ?_
  refine r_iconst hX dX5_kindFor_3 (q := 4) rfl (v := nI 0) (by decide +kernel) ?_
  refine r_callV hX dX5_kindFor_4 (q := 7) rfl (c_X5_bestFor _ Γ _ _ _ (by assumption) (by assumption) (by assumption) _ _ _ 0 rfl (by decide)) kX5_215 mlX5_bestFor mvX5_bestFor rfl rfl rfl ⟨by decide, rfl⟩ ⟨by decide, by decide⟩ (Nat.le_of_ble_eq_true rfl) (kpI (fun v4 G4 p4 => ?_))
  refine r_iret hX hR dX5_kindFor_7 ?_
  -- leaf 0 at 7
  refine ⟨_, rfl, ?_⟩
  exact p4

set_option maxRecDepth 100000 in
set_option maxHeartbeats 4000000 in
theorem c_X5_foodFor (l : Launch) (Γ : Gam) (G : GG) (μ : MU) (b : Nat) (hC : CR G 0 μ) (hV : Inv b μ) (hb : b ≤ 100000) (x y : Int32) : Sp l yX5_foodFor cX5_foodFor 3 (some .int) 6 143 [.ref (gad Γ 30), .int x, .int y] Γ G (pI (CO G μ (oBest μ x y 1))) := by
  refine Sp_of (own := RX5) rfl (by decide +kernel) rfl (Nat.le_of_ble_eq_true rfl) (fun X hX hR => ?_)
  show WP X Γ 0 [some (.ref (gad Γ 30)), some (.int x), some (.int y)] [] G
  refine r_aload0 hX dX5_foodFor_0 (q := 1) rfl ?_
  refine r_iload1 hX dX5_foodFor_1 (q := 2) rfl ?_
  refine r_iload2 hX dX5_foodFor_2 (q := 3) rfl ?_
  refine r_iconst hX dX5_foodFor_3 (q := 4) rfl (v := nI 1) (by decide +kernel) ?_
  refine r_callV hX dX5_foodFor_4 (q := 7) rfl (c_X5_bestFor _ Γ _ _ _ (by assumption) (by assumption) (by assumption) _ _ _ 1 rfl (by decide)) kX5_215 mlX5_bestFor mvX5_bestFor rfl rfl rfl ⟨by decide, rfl⟩ ⟨by decide, by decide⟩ (Nat.le_of_ble_eq_true rfl) (kpI (fun v4 G4 p4 => ?_))
  refine r_iret hX hR dX5_foodFor_7 ?_
  -- leaf 0 at 7
  refine ⟨_, rfl, ?_⟩
  exact p4

set_option maxRecDepth 100000 in
set_option maxHeartbeats 4000000 in
theorem c_X5_putFor (l : Launch) (Γ : Gam) (G : GG) (μ : MU) (b : Nat) (hC : CR G 0 μ) (hV : Inv b μ) (hb : b ≤ 100000) (x y : Int32) : Sp l yX5_putFor cX5_putFor 3 (some .int) 6 143 [.ref (gad Γ 30), .int x, .int y] Γ G (pI (CO G μ (oBest μ x y 2))) := by
  refine Sp_of (own := RX5) rfl (by decide +kernel) rfl (Nat.le_of_ble_eq_true rfl) (fun X hX hR => ?_)
  show WP X Γ 0 [some (.ref (gad Γ 30)), some (.int x), some (.int y)] [] G
  refine r_aload0 hX dX5_putFor_0 (q := 1) rfl ?_
  refine r_iload1 hX dX5_putFor_1 (q := 2) rfl ?_
  refine r_iload2 hX dX5_putFor_2 (q := 3) rfl ?_
  refine r_iconst hX dX5_putFor_3 (q := 4) rfl (v := nI 2) (by decide +kernel) ?_
  refine r_callV hX dX5_putFor_4 (q := 7) rfl (c_X5_bestFor _ Γ _ _ _ (by assumption) (by assumption) (by assumption) _ _ _ 2 rfl (by decide)) kX5_215 mlX5_bestFor mvX5_bestFor rfl rfl rfl ⟨by decide, rfl⟩ ⟨by decide, by decide⟩ (Nat.le_of_ble_eq_true rfl) (kpI (fun v4 G4 p4 => ?_))
  refine r_iret hX hR dX5_putFor_7 ?_
  -- leaf 0 at 7
  refine ⟨_, rfl, ?_⟩
  exact p4

set_option maxRecDepth 100000 in
set_option maxHeartbeats 4000000 in
theorem c_X5_paid (l : Launch) (Γ : Gam) (G : GG) (μ : MU) (b : Nat) (hC : CR G 0 μ) (hV : Inv b μ) (hb : b ≤ 100000) (x : Int32) : Sp l yX5_paid cX5_paid 4 (some .int) 5 115 [.ref (gad Γ 30), .int x] Γ G (pI (CO G μ (oPaid μ x))) := by
  refine Sp_of (own := RX5) rfl (by decide +kernel) rfl (Nat.le_of_ble_eq_true rfl) (fun X hX hR => ?_)
  show WP X Γ 0 [some (.ref (gad Γ 30)), some (.int x), none, none] [] G
  have ep : G (ch 0 0) 7 = μ 6 := hC.1.2.2.2.2.2.2.1
  obtain ⟨n, hn1, hn2⟩ := hV.2.2.1
  have hcl : cl (μ 8) = n := by rw [hn2]; exact nI_clamp (by omega)
  refine r_iload1 hX dX5_paid_0 (q := 1) rfl ?_
  refine r_iconst hX dX5_paid_1 (q := 2) rfl (v := nI 0) (by decide +kernel) ?_
  refine r_sipush hX dX5_paid_2 (q := 5) rfl (v := nI 175) (by decide +kernel) ?_
  refine r_callS hX dX5_paid_5 (q := 8) rfl (c_X5_within _ Γ _ _ _ _) kX5_45 mlX5_within msX5_within rfl rfl ⟨by decide, by decide⟩ (Nat.le_of_ble_eq_true rfl) (keB ?_)
  first | with_reducible refine r_ifd_ne hX dX5_paid_8 (q := 11) rfl (tgt := 18) (by decide) (fun h8 => ?_) (fun h8 => ?_) | refine r_ifb_ne hX dX5_paid_8 (q := 11) rfl (tgt := 18) (by decide) (fun h8 => ?_) (fun h8 => ?_)
  ·
    obtain ⟨xl, xe⟩ := ix_of (by decide) h8
    refine r_aload0 hX dX5_paid_18 (q := 19) rfl ?_
    refine r_iload1 hX dX5_paid_19 (q := 20) rfl ?_
    refine r_callV hX dX5_paid_20 (q := 23) rfl (c_X5_isPastLast _ Γ _ _ _ (by assumption) (by assumption) _) kX5_162 mlX5_isPastLast mvX5_isPastLast rfl rfl rfl ⟨by decide, rfl⟩ ⟨by decide, by decide⟩ (Nat.le_of_ble_eq_true rfl) (keB ?_)
    first | with_reducible refine r_ifd_eq hX dX5_paid_23 (q := 26) rfl (tgt := 33) (by decide) (fun h23 => ?_) (fun h23 => ?_) | refine r_ifb_eq hX dX5_paid_23 (q := 26) rfl (tgt := 33) (by decide) (fun h23 => ?_) (fun h23 => ?_)
    ·
      refine r_aload0 hX dX5_paid_33 (q := 34) rfl ?_
      refine r_getR hX dX5_paid_34 (q := 37) (c' := ch 0 0) rfl fX5_12 rfl ⟨by decide, by decide, rfl⟩ ?_
      refine r_getI hX dX5_paid_37 (q := 40) rfl fX5_100 (ch_lay (j := 0) (by first | assumption | decide) (by decide) rfl) (rC_7 (by first | assumption | decide)) ?_
      refine r_istore2 hX dX5_paid_40 (q := 41) rfl rfl ?_
      refine r_iload2 hX dX5_paid_41 (q := 42) rfl ?_
      refine r_callS hX dX5_paid_42 (q := 45) rfl (c_X5_isFood _ Γ _ _) kX5_63 mlX5_isFood msX5_isFood rfl rfl ⟨by decide, by decide⟩ (Nat.le_of_ble_eq_true rfl) (keB ?_)
      first | with_reducible refine r_ifd_ne hX dX5_paid_45 (q := 48) rfl (tgt := 55) (by decide) (fun h45 => ?_) (fun h45 => ?_) | refine r_ifb_ne hX dX5_paid_45 (q := 48) rfl (tgt := 55) (by decide) (fun h45 => ?_) (fun h45 => ?_)
      ·
        have hpd : ¬ μ 6 < nI 0 := by rw [← ep]; exact fun z => absurd (Int32.lt_of_lt_of_le z h45.1) Int32.lt_irrefl
        obtain ⟨pd1, pd2⟩ := hV.pd hpd
        have ep2 : G (ch 0 0) 7 = nI (cl (μ 6)) := ep.trans pd2
        refine r_aload0 hX dX5_paid_55 (q := 56) rfl ?_
        refine r_getR hX dX5_paid_56 (q := 59) (c' := ch 1 0) rfl fX5_16 rfl ⟨by decide, by decide, rfl⟩ ?_
        refine r_aload0 hX dX5_paid_59 (q := 60) rfl ?_
        refine r_getR hX dX5_paid_60 (q := 63) (c' := ch 0 0) rfl fX5_12 rfl ⟨by decide, by decide, rfl⟩ ?_
        refine r_callV hX dX5_paid_63 (q := 66) rfl (c_X0_become _ Γ _ 1 0 (by decide) (by decide) (by decide) μ hC) kX5_202 mlX0_become mvX0_become rfl rfl (ch_lay (j := 0) (by first | assumption | decide) (by decide) rfl) ⟨by decide, rfl⟩ ⟨by decide, by decide⟩ (Nat.le_of_ble_eq_true rfl) (kpV (fun G63 p63 => ?_))
        refine r_aload0 hX dX5_paid_66 (q := 67) rfl ?_
        refine r_getR hX dX5_paid_67 (q := 70) (c' := ch 1 0) rfl fX5_16 rfl ⟨by decide, by decide, rfl⟩ ?_
        refine r_iload1 hX dX5_paid_70 (q := 71) rfl ?_
        refine r_callV hX dX5_paid_71 (q := 74) rfl (c_X0_goOn _ Γ _ 1 (by decide) μ b p63.1 hV _ (cl x) xe (by omega)) kX5_166 mlX0_goOn mvX0_goOn rfl rfl (ch_lay (j := 0) (by first | assumption | decide) (by decide) rfl) ⟨by decide, rfl⟩ ⟨by decide, by decide⟩ (Nat.le_of_ble_eq_true rfl) (kpI (fun v71 G71 p71 => ?_))
        refine r_pop hX dX5_paid_74 (q := 75) rfl rfl ?_
        refine r_aload0 hX dX5_paid_75 (q := 76) rfl ?_
        refine r_getR hX dX5_paid_76 (q := 79) (c' := ch 1 0) rfl fX5_16 rfl ⟨by decide, by decide, rfl⟩ ?_
        refine r_getR hX dX5_paid_79 (q := 82) rfl fX5_71 (ch_lay (j := 0) (by first | assumption | decide) (by decide) rfl) (rC_0 (by first | assumption | decide)) ?_
        refine r_iload2 hX dX5_paid_82 (q := 83) rfl ?_
        refine r_ialdN hX dX5_paid_83 (q := 84) rfl (ch_lay (j := 1) (by first | assumption | decide) (by decide) rfl) (by repeat' (first | assumption | with_reducible exact rfl | refine e_add ?_ ?_ | refine e_mul ?_ ?_)) (by first | assumption | omega) (by first | decide | omega) ?_
        refine r_istore3 hX dX5_paid_84 (q := 85) rfl rfl ?_
        refine r_aload0 hX dX5_paid_85 (q := 86) rfl ?_
        refine r_getR hX dX5_paid_86 (q := 89) (c' := ch 1 0) rfl fX5_16 rfl ⟨by decide, by decide, rfl⟩ ?_
        refine r_aload0 hX dX5_paid_89 (q := 90) rfl ?_
        refine r_getR hX dX5_paid_90 (q := 93) (c' := ch 0 0) rfl fX5_12 rfl ⟨by decide, by decide, rfl⟩ ?_
        refine r_callV hX dX5_paid_93 (q := 96) rfl (c_X0_become _ Γ _ 1 0 (by decide) (by decide) (by decide) μ (cr_T (cr_T hC p63.2) p71.2.2)) kX5_202 mlX0_become mvX0_become rfl rfl (ch_lay (j := 0) (by first | assumption | decide) (by decide) rfl) ⟨by decide, rfl⟩ ⟨by decide, by decide⟩ (Nat.le_of_ble_eq_true rfl) (kpV (fun G93 p93 => ?_))
        refine r_aload0 hX dX5_paid_96 (q := 97) rfl ?_
        refine r_getR hX dX5_paid_97 (q := 100) (c' := ch 1 0) rfl fX5_16 rfl ⟨by decide, by decide, rfl⟩ ?_
        refine r_getR hX dX5_paid_100 (q := 103) rfl fX5_49 (ch_lay (j := 0) (by first | assumption | decide) (by decide) rfl) (rC_9 (by first | assumption | decide)) ?_
        refine r_callV hX dX5_paid_103 (q := 106) rfl (c_X1_pressThePaid _ Γ _ 1 (by decide) μ b p93.1 hV) kX5_223 mlX1_pressThePaid mvX1_pressThePaid rfl rfl (ch_lay (j := 4) (by first | assumption | decide) (by decide) rfl) ⟨by decide, rfl⟩ ⟨by decide, by decide⟩ (Nat.le_of_ble_eq_true rfl) (kpV (fun G103 p103 => ?_))
        refine r_aload0 hX dX5_paid_106 (q := 107) rfl ?_
        refine r_getR hX dX5_paid_107 (q := 110) (c' := ch 1 0) rfl fX5_16 rfl ⟨by decide, by decide, rfl⟩ ?_
        refine r_iload1 hX dX5_paid_110 (q := 111) rfl ?_
        refine r_callV hX dX5_paid_111 (q := 114) rfl (c_X0_goOn _ Γ _ 1 (by decide) _ b p103.1 (hV.pr _ (by omega)) _ (cl x) xe (by omega)) kX5_166 mlX0_goOn mvX0_goOn rfl rfl (ch_lay (j := 0) (by first | assumption | decide) (by decide) rfl) ⟨by decide, rfl⟩ ⟨by decide, by decide⟩ (Nat.le_of_ble_eq_true rfl) (kpI (fun v111 G111 p111 => ?_))
        refine r_pop hX dX5_paid_114 (q := 115) rfl rfl ?_
        refine r_iload3 hX dX5_paid_115 (q := 116) rfl ?_
        refine r_aload0 hX dX5_paid_116 (q := 117) rfl ?_
        refine r_getR hX dX5_paid_117 (q := 120) (c' := ch 1 0) rfl fX5_16 rfl ⟨by decide, by decide, rfl⟩ ?_
        refine r_getR hX dX5_paid_120 (q := 123) rfl fX5_71 (ch_lay (j := 0) (by first | assumption | decide) (by decide) rfl) (rC_0 (by first | assumption | decide)) ?_
        refine r_iload2 hX dX5_paid_123 (q := 124) rfl ?_
        refine r_ialdN hX dX5_paid_124 (q := 125) rfl (ch_lay (j := 1) (by first | assumption | decide) (by decide) rfl) (by repeat' (first | assumption | with_reducible exact rfl | refine e_add ?_ ?_ | refine e_mul ?_ ?_)) (by first | assumption | omega) (by first | decide | omega) ?_
        refine r_isub hX dX5_paid_125 (q := 126) rfl ?_
        refine r_iret hX hR dX5_paid_126 ?_
        -- leaf 0 at 126
        refine ⟨_, rfl, ?_⟩
        exact CO.ok (w := (goF μ (cl x)).2 (10 + 3 * cl (μ 6)) - (goF (prM μ (cl (μ 8))) (cl x)).2 (10 + 3 * cl (μ 6))) (μ' := μ) (by unfold oPaid; rw [if_pos h8, if_neg h23]; exact if_neg hpd)
          (by rw [(p71.2.1.2.1 _ pd1).1, (p111.2.1.2.1 _ pd1).1]) (cr_T (cr_T (cr_T (cr_T (cr_T hC p63.2) p71.2.2) p93.2) p103.2) p111.2.2) (fr_T p111.2.2 (fr_T p103.2 (fr_T p93.2 (fr_T p71.2.2 (fr_T p63.2 fr0)))))
      ·
        refine r_aload0 hX dX5_paid_48 (q := 49) rfl ?_
        refine r_ldc hX dX5_paid_49 (q := 51) rfl qX5_110 ?_
        refine r_callV hX dX5_paid_51 (q := 54) rfl (c_X5_finding _ Γ _ _ 3 (by decide) (by decide +kernel)) kX5_67 mlX5_finding mvX5_finding rfl rfl rfl ⟨by decide, rfl⟩ ⟨by decide, by decide⟩ (Nat.le_of_ble_eq_true rfl) (keI ?_)
        refine r_iret hX hR dX5_paid_54 ?_
        -- leaf 1 at 54
        refine ⟨_, rfl, ?_⟩
        exact CO.fin (k := 3) (by unfold oPaid; rw [if_pos h8, if_neg h23]; exact if_pos (Classical.byContradiction fun z => h45 (by rw [ep]; obtain ⟨p1, p2⟩ := hV.pd z; rw [p2]; exact ⟨nI_le (Nat.zero_le _) (by omega), nI_le (by omega) (by omega)⟩))) (by decide +kernel) hC fr0
    ·
      refine r_aload0 hX dX5_paid_26 (q := 27) rfl ?_
      refine r_ldc hX dX5_paid_27 (q := 29) rfl qX5_165 ?_
      refine r_callV hX dX5_paid_29 (q := 32) rfl (c_X5_finding _ Γ _ _ 4 (by decide) (by decide +kernel)) kX5_67 mlX5_finding mvX5_finding rfl rfl rfl ⟨by decide, rfl⟩ ⟨by decide, by decide⟩ (Nat.le_of_ble_eq_true rfl) (keI ?_)
      refine r_iret hX hR dX5_paid_32 ?_
      -- leaf 2 at 32
      refine ⟨_, rfl, ?_⟩
      exact CO.fin (k := 4) (by unfold oPaid; rw [if_pos h8]; exact if_pos h23) (by decide +kernel) hC fr0
  ·
    refine r_aload0 hX dX5_paid_11 (q := 12) rfl ?_
    refine r_ldc hX dX5_paid_12 (q := 14) rfl qX5_44 ?_
    refine r_callV hX dX5_paid_14 (q := 17) rfl (c_X5_finding _ Γ _ _ 0 (by decide) (by decide +kernel)) kX5_67 mlX5_finding mvX5_finding rfl rfl rfl ⟨by decide, rfl⟩ ⟨by decide, by decide⟩ (Nat.le_of_ble_eq_true rfl) (keI ?_)
    refine r_iret hX hR dX5_paid_17 ?_
    -- leaf 3 at 17
    refine ⟨_, rfl, ?_⟩
    exact CO.fin (k := 0) (if_neg h8) (by decide +kernel) hC fr0

set_option maxRecDepth 100000 in
set_option maxHeartbeats 4000000 in
theorem c_X5_worry (l : Launch) (Γ : Gam) (G : GG) (μ : MU) (b : Nat) (hC : CR G 0 μ) (hV : Inv b μ) (hb : b ≤ 100000) : Sp l yX5_worry cX5_worry 2 (some .int) 4 92 [.ref (gad Γ 30)] Γ G (pI (CO G μ (oWorry μ))) := by
  refine Sp_of (own := RX5) rfl (by decide +kernel) rfl (Nat.le_of_ble_eq_true rfl) (fun X hX hR => ?_)
  show WP X Γ 0 [some (.ref (gad Γ 30)), none] [] G
  refine r_aload0 hX dX5_worry_0 (q := 1) rfl ?_
  refine r_sipush hX dX5_worry_1 (q := 4) rfl (v := nI 175) (by decide +kernel) ?_
  refine r_callV hX dX5_worry_4 (q := 7) rfl (c_X5_isPastLast _ Γ _ _ _ (by assumption) (by assumption) _) kX5_162 mlX5_isPastLast mvX5_isPastLast rfl rfl rfl ⟨by decide, rfl⟩ ⟨by decide, by decide⟩ (Nat.le_of_ble_eq_true rfl) (keB ?_)
  first | with_reducible refine r_ifd_eq hX dX5_worry_7 (q := 10) rfl (tgt := 17) (by decide) (fun h7 => ?_) (fun h7 => ?_) | refine r_ifb_eq hX dX5_worry_7 (q := 10) rfl (tgt := 17) (by decide) (fun h7 => ?_) (fun h7 => ?_)
  ·
    refine r_aload0 hX dX5_worry_17 (q := 18) rfl ?_
    refine r_getR hX dX5_worry_18 (q := 21) (c' := ch 1 0) rfl fX5_16 rfl ⟨by decide, by decide, rfl⟩ ?_
    refine r_aload0 hX dX5_worry_21 (q := 22) rfl ?_
    refine r_getR hX dX5_worry_22 (q := 25) (c' := ch 0 0) rfl fX5_12 rfl ⟨by decide, by decide, rfl⟩ ?_
    refine r_callV hX dX5_worry_25 (q := 28) rfl (c_X0_become _ Γ _ 1 0 (by decide) (by decide) (by decide) μ hC) kX5_202 mlX0_become mvX0_become rfl rfl (ch_lay (j := 0) (by first | assumption | decide) (by decide) rfl) ⟨by decide, rfl⟩ ⟨by decide, by decide⟩ (Nat.le_of_ble_eq_true rfl) (kpV (fun G25 p25 => ?_))
    refine r_iconst hX dX5_worry_28 (q := 29) rfl (v := nI 1) (by decide +kernel) ?_
    refine r_istore1 hX dX5_worry_29 (q := 30) rfl rfl ?_
    have L30 : ∀ (zn30 : Nat) (k : Nat) (G1 : GG), zn30 = 175 - k → (k ≤ 175) → (CR G1 1 (goF μ k).2) → (CR G1 0 μ) → (∀ c, 20 ≤ c → G1 c = G c) → (∀ j, j < k → wyP μ j = false) → WP X Γ 30 [some (.ref (gad Γ 30)), some (.int (nI (k + 1)))] [] G1 := by
      intro zn30
      induction zn30 using Nat.strongRecOn with
      | _ zn30 ih30 =>
        intro k G1 zh30 hk hCk hC0 hF hP
        have hVk := hV.go k (by omega)
        refine r_iload1 hX dX5_worry_30 (q := 31) rfl ?_
        refine r_sipush hX dX5_worry_31 (q := 34) rfl (v := nI 175) (by decide +kernel) ?_
        refine r_icmpN_gt hX dX5_worry_34 (q := 37) rfl (tgt := 63) (by decide) (by first | decide | omega) (by first | decide | omega) (fun h34 => ?_) (fun h34 => ?_)
        ·
          refine r_aload0 hX dX5_worry_63 (q := 64) rfl ?_
          refine r_ldc hX dX5_worry_64 (q := 66) rfl qX5_110 ?_
          refine r_callV hX dX5_worry_66 (q := 69) rfl (c_X5_finding _ Γ _ _ 3 (by decide) (by decide +kernel)) kX5_67 mlX5_finding mvX5_finding rfl rfl rfl ⟨by decide, rfl⟩ ⟨by decide, by decide⟩ (Nat.le_of_ble_eq_true rfl) (keI ?_)
          refine r_iret hX hR dX5_worry_69 ?_
          -- leaf 0 at 69
          refine ⟨_, rfl, ?_⟩
          have e : k = 175 := by omega
          subst e
          exact CO.fin (k := 3) (by unfold oWorry; rw [if_neg h7, fsF_none 175 hP]) (by decide +kernel) hC0 hF
        ·
          refine r_aload0 hX dX5_worry_37 (q := 38) rfl ?_
          refine r_getR hX dX5_worry_38 (q := 41) (c' := ch 1 0) rfl fX5_16 rfl ⟨by decide, by decide, rfl⟩ ?_
          refine r_callV hX dX5_worry_41 (q := 44) rfl (c_X0_serveMeal _ Γ _ 1 (by decide) _ (b + k) hCk hVk (by omega)) kX5_212 mlX0_serveMeal mvX0_serveMeal rfl rfl (ch_lay (j := 0) (by first | assumption | decide) (by decide) rfl) ⟨by decide, rfl⟩ ⟨by decide, by decide⟩ (Nat.le_of_ble_eq_true rfl) (kpI (fun v41 G41 p41 => ?_))
          refine r_pop hX dX5_worry_44 (q := 45) rfl rfl ?_
          refine r_aload0 hX dX5_worry_45 (q := 46) rfl ?_
          refine r_getR hX dX5_worry_46 (q := 49) (c' := ch 1 0) rfl fX5_16 rfl ⟨by decide, by decide, rfl⟩ ?_
          refine r_callV hX dX5_worry_49 (q := 52) rfl (c_X0_isShort _ Γ _ 1 (by decide) _ (b + (k + 1)) p41.2.1 (hV.go (k + 1) (by omega)) (by omega)) kX5_187 mlX0_isShort mvX0_isShort rfl rfl (ch_lay (j := 0) (by first | assumption | decide) (by decide) rfl) ⟨by decide, rfl⟩ ⟨by decide, by decide⟩ (Nat.le_of_ble_eq_true rfl) (keB ?_)
          first | with_reducible refine r_ifd_eq hX dX5_worry_52 (q := 55) rfl (tgt := 57) (by decide) (fun h52 => ?_) (fun h52 => ?_) | refine r_ifb_eq hX dX5_worry_52 (q := 55) rfl (tgt := 57) (by decide) (fun h52 => ?_) (fun h52 => ?_)
          ·
            refine r_iincN1 hX dX5_worry_57 (q := 60) rfl rfl ?_
            refine r_goto hX dX5_worry_60 (tgt := 30) (by decide) ?_
            refine ih30 _ ?_ (k + 1) _ rfl ?_ ?_ ?_ ?_ ?_
            ·
              omega
            ·
              omega
            ·
              exact p41.2.1
            ·
              exact cr_T hC0 p41.2.2
            ·
              exact fr_T p41.2.2 hF
            ·
              intro j hj
              by_cases e : j = k
              · subst e; exact h52
              · exact hP j (by omega)
          ·
            refine r_iload1 hX dX5_worry_55 (q := 56) rfl ?_
            refine r_iret hX hR dX5_worry_56 ?_
            -- leaf 1 at 56
            refine ⟨_, rfl, ?_⟩
            exact CO.ok (w := nI (k + 1)) (μ' := μ) (by unfold oWorry; rw [if_neg h7, fsF_some (k := k) h52 hP 175 (by omega)]) rfl (cr_T hC0 p41.2.2) (fr_T p41.2.2 hF)
    refine L30 _ 0 _ rfl ?_ ?_ ?_ ?_ ?_
    ·
      exact Nat.zero_le _
    ·
      exact p25.1
    ·
      exact cr_T hC p25.2
    ·
      exact fr_T p25.2 fr0
    ·
      exact fun j hj => absurd hj (by omega)
  ·
    refine r_aload0 hX dX5_worry_10 (q := 11) rfl ?_
    refine r_ldc hX dX5_worry_11 (q := 13) rfl qX5_165 ?_
    refine r_callV hX dX5_worry_13 (q := 16) rfl (c_X5_finding _ Γ _ _ 4 (by decide) (by decide +kernel)) kX5_67 mlX5_finding mvX5_finding rfl rfl rfl ⟨by decide, rfl⟩ ⟨by decide, by decide⟩ (Nat.le_of_ble_eq_true rfl) (keI ?_)
    refine r_iret hX hR dX5_worry_16 ?_
    -- leaf 2 at 16
    refine ⟨_, rfl, ?_⟩
    exact CO.fin (k := 4) (if_pos h7) (by decide +kernel) hC fr0
