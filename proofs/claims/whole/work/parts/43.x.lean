set_option maxRecDepth 100000 in
set_option maxHeartbeats 4000000 in
theorem c_X6_mealsOf (l : Launch) (Γ : Gam) (G : GG) (μ : MU) (hM : MR G μ) (b : Nat) (hV : Inv b μ) (x : Int32) (n : Nat) (hx : x = nI n) (hn : b + n < 2 ^ 29) : Sp l yX6_mealsOf cX6_mealsOf 4 (some .int) 5 115 [.ref (gad Γ 47), .int x] Γ G (pI (fun v G' => v = (goF μ n).1 ∧ MR G' (goF μ n).2 ∧ FrN G G')) := by
  refine Sp_of (own := RX6) rfl (by decide +kernel) rfl (Nat.le_of_ble_eq_true rfl) (fun X hX hR => ?_)
  show WP X Γ 0 [some (.ref (gad Γ 47)), some (.int x), none, none] [] G
  subst hx
  refine r_iconst hX dX6_mealsOf_0 (q := 1) rfl (v := nI 0) (by decide +kernel) ?_
  refine r_istore2 hX dX6_mealsOf_1 (q := 2) rfl rfl ?_
  refine r_iconst hX dX6_mealsOf_2 (q := 3) rfl (v := nI 0) (by decide +kernel) ?_
  refine r_istore3 hX dX6_mealsOf_3 (q := 4) rfl rfl ?_
  have L4 : ∀ (zn4 : Nat) (k : Nat) (e : Int32) (G1 : GG), zn4 = n - k → (k ≤ n) → (e = (goF μ k).1) → (MR G1 (goF μ k).2) → (FrN G G1) → WP X Γ 4 [some (.ref (gad Γ 47)), some (.int (nI n)), some (.int e), some (.int (nI k))] [] G1 := by
    intro zn4
    induction zn4 using Nat.strongRecOn with
    | _ zn4 ih4 =>
      intro k e G1 zh4 hk he h1 hF
      have hVk := hV.go k (by omega)
      refine r_iload3 hX dX6_mealsOf_4 (q := 5) rfl ?_
      refine r_iload1 hX dX6_mealsOf_5 (q := 6) rfl ?_
      refine r_icmpN_ge hX dX6_mealsOf_6 (q := 9) rfl (tgt := 26) (by decide) (by first | omega | decide) (by first | omega | decide) (fun h6 => ?_) (fun h6 => ?_)
      ·
        refine r_iload2 hX dX6_mealsOf_26 (q := 27) rfl ?_
        refine r_iret hX hR dX6_mealsOf_27 ?_
        -- leaf 0 at 27
        refine ⟨_, rfl, ?_⟩
        have e0 : k = n := by omega
        subst e0
        exact ⟨he, h1, hF⟩
      ·
        refine r_iload2 hX dX6_mealsOf_9 (q := 10) rfl ?_
        refine r_aload0 hX dX6_mealsOf_10 (q := 11) rfl ?_
        refine r_aload0 hX dX6_mealsOf_11 (q := 12) rfl ?_
        refine r_callV hX dX6_mealsOf_12 (q := 15) rfl (c_X6_served _ Γ _ (goF μ k).2 h1 (b + k) hVk (by omega)) kX6_126 mlX6_served mvX6_served rfl rfl rfl ⟨by decide, rfl⟩ ⟨by decide, by decide⟩ (Nat.le_of_ble_eq_true rfl) (keI ?_)
        refine r_callV hX dX6_mealsOf_15 (q := 18) rfl (c_X6_meal _ Γ _ (goF μ k).2 h1 (b + k) hVk _ (servN (goF μ k).2) rfl (servN_lt hVk (by omega))) kX6_129 mlX6_meal mvX6_meal rfl rfl rfl ⟨by decide, rfl⟩ ⟨by decide, by decide⟩ (Nat.le_of_ble_eq_true rfl) (kpI (fun v15 G15 p15 => ?_))
        refine r_iadd hX dX6_mealsOf_18 (q := 19) rfl ?_
        refine r_istore2 hX dX6_mealsOf_19 (q := 20) rfl rfl ?_
        refine r_iincN3 hX dX6_mealsOf_20 (q := 23) rfl rfl ?_
        refine r_goto hX dX6_mealsOf_23 (tgt := 4) (by decide) ?_
        refine ih4 _ ?_ (k + 1) _ _ rfl ?_ ?_ ?_ ?_
        ·
          omega
        ·
          omega
        ·
          rw [he, p15.1]; rfl
        ·
          exact p15.2.1
        ·
          exact hF.tr p15.2.2
  refine L4 _ 0 _ _ rfl ?_ ?_ ?_ ?_
  ·
    exact Nat.zero_le _
  ·
    rfl
  ·
    exact hM
  ·
    exact FrN.rf

set_option maxRecDepth 100000 in
set_option maxHeartbeats 4000000 in
theorem c_X6_meals (l : Launch) (Γ : Gam) (G : GG) (μ : MU) (hM : MR G μ) (b : Nat) (hV : Inv b μ) (hb : b ≤ 100000) (x : Int32) : Sp l yX6_meals cX6_meals 2 (some .int) 6 138 [.ref (gad Γ 47), .int x] Γ G (pI (fun v G' => MOut G μ (oMeals μ x) v G')) := by
  refine Sp_of (own := RX6) rfl (by decide +kernel) rfl (Nat.le_of_ble_eq_true rfl) (fun X hX hR => ?_)
  show WP X Γ 0 [some (.ref (gad Γ 47)), some (.int x)] [] G
  refine r_iload1 hX dX6_meals_0 (q := 1) rfl ?_
  refine r_i2l hX dX6_meals_1 (q := 2) rfl ?_
  refine r_lconst hX dX6_meals_2 (q := 3) rfl (v := (nI 1).toInt64) (by decide +kernel) ?_
  refine r_ldc2 hX dX6_meals_3 (q := 6) rfl qX6_132 ?_
  refine r_callS hX dX6_meals_6 (q := 9) rfl (c_X6_in _ Γ _ _ _ _) kX6_42 mlX6_in msX6_in rfl rfl ⟨by decide, by decide⟩ (Nat.le_of_ble_eq_true rfl) (keB ?_)
  first | with_reducible refine r_ifd_ne hX dX6_meals_9 (q := 12) rfl (tgt := 19) (by decide) (fun h9 => ?_) (fun h9 => ?_) | refine r_ifb_ne hX dX6_meals_9 (q := 12) rfl (tgt := 19) (by decide) (fun h9 => ?_) (fun h9 => ?_)
  ·
    obtain ⟨xl, xh, xe⟩ := ix1_of (by decide) (by decide) h9
    refine r_aload0 hX dX6_meals_19 (q := 20) rfl ?_
    refine r_getR hX dX6_meals_20 (q := 23) rfl fX6_9 rfl ⟨by decide, by decide, rfl⟩ ?_
    refine r_iconst hX dX6_meals_23 (q := 24) rfl (v := nI 0) (by decide +kernel) ?_
    refine r_ialdN hX dX6_meals_24 (q := 25) rfl rfl (by repeat' (first | assumption | with_reducible exact rfl | refine e_add ?_ ?_ | refine e_mul ?_ ?_)) (by first | assumption | omega) (by first | decide | omega) ?_
    rw [hM 0 (by decide)]
    refine r_iload1 hX dX6_meals_25 (q := 26) rfl ?_
    refine r_iadd hX dX6_meals_26 (q := 27) rfl ?_
    refine r_ldc hX dX6_meals_27 (q := 29) rfl qX6_134 ?_
    first | refine r_icmpN_le hX dX6_meals_29 (q := 32) rfl (tgt := 41) (by decide) (by first | omega | decide) (by first | omega | decide) (fun h29 => ?_) (fun h29 => ?_) | refine r_icmp_le hX dX6_meals_29 (q := 32) rfl (tgt := 41) (by decide) (fun h29 => ?_) (fun h29 => ?_)
    ·
      refine r_aload0 hX dX6_meals_41 (q := 42) rfl ?_
      refine r_iload1 hX dX6_meals_42 (q := 43) rfl ?_
      refine r_callV hX dX6_meals_43 (q := 46) rfl (c_X6_mealsOf _ Γ _ μ hM b hV _ (cl x) xe (by omega)) kX6_136 mlX6_mealsOf mvX6_mealsOf rfl rfl rfl ⟨by decide, rfl⟩ ⟨by decide, by decide⟩ (Nat.le_of_ble_eq_true rfl) (kpI (fun v43 G43 p43 => ?_))
      refine r_iret hX hR dX6_meals_46 ?_
      -- leaf 0 at 46
      refine ⟨_, rfl, ?_⟩
      first
        | (exact MOut.fin (k := 4) ((if_pos h9).trans (if_pos ((past_r hV hb (by decide) (le_01 h9)).mpr h29))) ⟨p35.1.trans (by decide +kernel), p35.2⟩ hM FrM.rf)
        | exact MOut.ok (w := (goF μ (cl x)).1) (μ' := (goF μ (cl x)).2) ((if_pos h9).trans (if_neg (fun q => (past_r hV hb (by decide) (le_01 h9)).mp q h29))) p43.1 p43.2.1 p43.2.2.M
    ·
      refine r_aload0 hX dX6_meals_32 (q := 33) rfl ?_
      refine r_ldc hX dX6_meals_33 (q := 35) rfl qX6_135 ?_
      refine r_callV hX dX6_meals_35 (q := 38) rfl (c_X6_finds _ Γ _ _ 4 (by decide) (by decide +kernel)) kX6_36 mlX6_finds mvX6_finds rfl rfl rfl ⟨by decide, rfl⟩ ⟨by decide, by decide⟩ (Nat.le_of_ble_eq_true rfl) (kpI (fun v35 G35 p35 => ?_))
      refine r_goto hX dX6_meals_38 (tgt := 46) (by decide) ?_
      refine r_iret hX hR dX6_meals_46 ?_
      -- leaf 1 at 46
      refine ⟨_, rfl, ?_⟩
      first
        | (exact MOut.fin (k := 4) ((if_pos h9).trans (if_pos ((past_r hV hb (by decide) (le_01 h9)).mpr h29))) ⟨p35.1.trans (by decide +kernel), p35.2⟩ hM FrM.rf)
        | exact MOut.ok (w := (goF μ (cl x)).1) (μ' := (goF μ (cl x)).2) ((if_pos h9).trans (if_neg (fun q => (past_r hV hb (by decide) (le_01 h9)).mp q h29))) p43.1 p43.2.1 p43.2.2.M
  ·
    refine r_aload0 hX dX6_meals_12 (q := 13) rfl ?_
    refine r_ldc hX dX6_meals_13 (q := 15) rfl qX6_34 ?_
    refine r_callV hX dX6_meals_15 (q := 18) rfl (c_X6_finds _ Γ _ _ 0 (by decide) (by decide +kernel)) kX6_36 mlX6_finds mvX6_finds rfl rfl rfl ⟨by decide, rfl⟩ ⟨by decide, by decide⟩ (Nat.le_of_ble_eq_true rfl) (kpI (fun v15 G15 p15 => ?_))
    refine r_iret hX hR dX6_meals_18 ?_
    -- leaf 2 at 18
    refine ⟨_, rfl, ?_⟩
    exact MOut.fin (k := 0) (if_neg h9) ⟨p15.1.trans (by decide +kernel), p15.2⟩ hM FrM.rf

set_option maxRecDepth 100000 in
set_option maxHeartbeats 4000000 in
theorem c_X6_week (l : Launch) (Γ : Gam) (G : GG) (μ : MU) (hM : MR G μ) (b : Nat) (hV : Inv b μ) : Sp l yX6_week cX6_week 3 (some .int) 0 0 [.ref (gad Γ 47)] Γ G (eI G (wkF μ (cl (μ 9)))) := by
  refine Sp_of (own := RX6) rfl (by decide +kernel) rfl (Nat.le_of_ble_eq_true rfl) (fun X hX hR => ?_)
  show WP X Γ 0 [some (.ref (gad Γ 47)), none, none] [] G
  obtain ⟨s, hs, es, ec⟩ := nb_of hV
  refine r_iconst hX dX6_week_0 (q := 1) rfl (v := nI 0) (by decide +kernel) ?_
  refine r_istore1 hX dX6_week_1 (q := 2) rfl rfl ?_
  refine r_iconst hX dX6_week_2 (q := 3) rfl (v := nI 0) (by decide +kernel) ?_
  refine r_istore2 hX dX6_week_3 (q := 4) rfl rfl ?_
  have L4 : ∀ (zn4 : Nat) (k : Nat) (e : Int32), zn4 = s - k → (k ≤ s) → (e = wkF μ k) → WP X Γ 4 [some (.ref (gad Γ 47)), some (.int e), some (.int (nI k))] [] G := by
    intro zn4
    induction zn4 using Nat.strongRecOn with
    | _ zn4 ih4 =>
      intro k e zh4 hk he
      refine r_iload2 hX dX6_week_4 (q := 5) rfl ?_
      refine r_aload0 hX dX6_week_5 (q := 6) rfl ?_
      refine r_getR hX dX6_week_6 (q := 9) rfl fX6_9 rfl ⟨by decide, by decide, rfl⟩ ?_
      refine r_bipush hX dX6_week_9 (q := 11) rfl (v := nI 9) (by decide +kernel) ?_
      refine r_ialdN hX dX6_week_11 (q := 12) rfl rfl (by repeat' (first | assumption | with_reducible exact rfl | refine e_add ?_ ?_ | refine e_mul ?_ ?_)) (by first | assumption | omega) (by first | decide | omega) ?_
      rw [hM 9 (by decide), es]
      first | refine r_icmpN_ge hX dX6_week_12 (q := 15) rfl (tgt := 33) (by decide) (by first | omega | decide) (by first | omega | decide) (fun h12 => ?_) (fun h12 => ?_) | refine r_icmp_ge hX dX6_week_12 (q := 15) rfl (tgt := 33) (by decide) (fun h12 => ?_) (fun h12 => ?_)
      ·
        refine r_iload1 hX dX6_week_33 (q := 34) rfl ?_
        refine r_iret hX hR dX6_week_34 ?_
        -- leaf 0 at 34
        refine ⟨congrArg (fun z => some (Value.int z)) ?_, ?_⟩
        ·
          have e0 : k = s := by omega
          rw [ec, ← e0]
          exact he
        · rfl
      ·
        refine r_iload1 hX dX6_week_15 (q := 16) rfl ?_
        refine r_aload0 hX dX6_week_16 (q := 17) rfl ?_
        refine r_getR hX dX6_week_17 (q := 20) rfl fX6_9 rfl ⟨by decide, by decide, rfl⟩ ?_
        refine r_bipush hX dX6_week_20 (q := 22) rfl (v := nI 80) (by decide +kernel) ?_
        refine r_iload2 hX dX6_week_22 (q := 23) rfl ?_
        refine r_iadd hX dX6_week_23 (q := 24) rfl ?_
        refine r_ialdN hX dX6_week_24 (q := 25) rfl rfl (nI_add 80 k) (by omega) (by first | decide | omega) ?_
        rw [hM _ (by omega)]
        refine r_iadd hX dX6_week_25 (q := 26) rfl ?_
        refine r_istore1 hX dX6_week_26 (q := 27) rfl rfl ?_
        refine r_iincN2 hX dX6_week_27 (q := 30) rfl rfl ?_
        refine r_goto hX dX6_week_30 (tgt := 4) (by decide) ?_
        refine ih4 _ ?_ (k + 1) _ rfl ?_ ?_
        ·
          omega
        ·
          omega
        ·
          rw [he]; rfl
  refine L4 _ 0 _ rfl ?_ ?_
  ·
    exact Nat.zero_le _
  ·
    rfl

set_option maxRecDepth 100000 in
set_option maxHeartbeats 4000000 in
theorem c_X6_isShort (l : Launch) (Γ : Gam) (G : GG) (μ : MU) (hM : MR G μ) (b : Nat) (hV : Inv b μ) : Sp l yX6_isShort cX6_isShort 1 (some .boolean) 1 22 [.ref (gad Γ 47)] Γ G (eB G (shortF μ)) := by
  refine Sp_of (own := RX6) rfl (by decide +kernel) rfl (Nat.le_of_ble_eq_true rfl) (fun X hX hR => ?_)
  show WP X Γ 0 [some (.ref (gad Γ 47))] [] G
  obtain ⟨s, hs, es, ec⟩ := nb_of hV
  refine r_aload0 hX dX6_isShort_0 (q := 1) rfl ?_
  refine r_getR hX dX6_isShort_1 (q := 4) rfl fX6_9 rfl ⟨by decide, by decide, rfl⟩ ?_
  refine r_bipush hX dX6_isShort_4 (q := 6) rfl (v := nI 9) (by decide +kernel) ?_
  refine r_ialdN hX dX6_isShort_6 (q := 7) rfl rfl (by repeat' (first | assumption | with_reducible exact rfl | refine e_add ?_ ?_ | refine e_mul ?_ ?_)) (by first | assumption | omega) (by first | decide | omega) ?_
  rw [hM 9 (by decide), es]
  refine r_bipush hX dX6_isShort_7 (q := 9) rfl (v := nI 35) (by decide +kernel) ?_
  first | refine r_icmpN_ne hX dX6_isShort_9 (q := 12) rfl (tgt := 25) (by decide) (by first | omega | decide) (by first | omega | decide) (fun h9 => ?_) (fun h9 => ?_) | refine r_icmp_ne hX dX6_isShort_9 (q := 12) rfl (tgt := 25) (by decide) (fun h9 => ?_) (fun h9 => ?_)
  ·
    refine r_iconst hX dX6_isShort_25 (q := 26) rfl (v := nI 0) (by decide +kernel) ?_
    refine r_zret0 hX hR dX6_isShort_26 ?_
    -- leaf 0 at 26
    refine ⟨congrArg (fun z => some (Value.int (bi z))) ?_, ?_⟩
    ·
      first
        | exact (decide_eq_false (fun q => h9 (ec.symm.trans q.1))).symm
        | exact (decide_eq_false (fun q => by rw [q.1] at h18; exact absurd (Int32.lt_of_lt_of_le q.2 h18) Int32.lt_irrefl)).symm
        | exact (decide_eq_true ⟨ec.trans h9, by rw [ec, h9] at h18; exact Int32.not_le.mp h18⟩).symm
    · rfl
  ·
    refine r_aload0 hX dX6_isShort_12 (q := 13) rfl ?_
    refine r_callV hX dX6_isShort_13 (q := 16) rfl (c_X6_week _ Γ _ μ (by assumption) b (by assumption)) kX6_139 mlX6_week mvX6_week rfl rfl rfl ⟨by decide, rfl⟩ ⟨by decide, by decide⟩ (Nat.le_of_ble_eq_true rfl) (keI ?_)
    refine r_bipush hX dX6_isShort_16 (q := 18) rfl (v := nI 100) (by decide +kernel) ?_
    first | refine r_icmpN_ge hX dX6_isShort_18 (q := 21) rfl (tgt := 25) (by decide) (by first | omega | decide) (by first | omega | decide) (fun h18 => ?_) (fun h18 => ?_) | refine r_icmp_ge hX dX6_isShort_18 (q := 21) rfl (tgt := 25) (by decide) (fun h18 => ?_) (fun h18 => ?_)
    ·
      refine r_iconst hX dX6_isShort_25 (q := 26) rfl (v := nI 0) (by decide +kernel) ?_
      refine r_zret0 hX hR dX6_isShort_26 ?_
      -- leaf 1 at 26
      refine ⟨congrArg (fun z => some (Value.int (bi z))) ?_, ?_⟩
      ·
        first
          | exact (decide_eq_false (fun q => h9 (ec.symm.trans q.1))).symm
          | exact (decide_eq_false (fun q => by rw [q.1] at h18; exact absurd (Int32.lt_of_lt_of_le q.2 h18) Int32.lt_irrefl)).symm
          | exact (decide_eq_true ⟨ec.trans h9, by rw [ec, h9] at h18; exact Int32.not_le.mp h18⟩).symm
      · rfl
    ·
      refine r_iconst hX dX6_isShort_21 (q := 22) rfl (v := nI 1) (by decide +kernel) ?_
      refine r_goto hX dX6_isShort_22 (tgt := 26) (by decide) ?_
      refine r_zret1 hX hR dX6_isShort_26 ?_
      -- leaf 2 at 26
      refine ⟨congrArg (fun z => some (Value.int (bi z))) ?_, ?_⟩
      ·
        first
          | exact (decide_eq_false (fun q => h9 (ec.symm.trans q.1))).symm
          | exact (decide_eq_false (fun q => by rw [q.1] at h18; exact absurd (Int32.lt_of_lt_of_le q.2 h18) Int32.lt_irrefl)).symm
          | exact (decide_eq_true ⟨ec.trans h9, by rw [ec, h9] at h18; exact Int32.not_le.mp h18⟩).symm
      · rfl

set_option maxRecDepth 100000 in
set_option maxHeartbeats 4000000 in
theorem c_X6_now (l : Launch) (Γ : Gam) (G : GG) (μ : MU) (hM : MR G μ) (b : Nat) (hV : Inv b μ) (x : Int32) : Sp l yX6_now cX6_now 2 (some .int) 2 42 [.ref (gad Γ 47), .int x] Γ G (pI (fun v G' => MOut G μ (oNow μ x) v G')) := by
  refine Sp_of (own := RX6) rfl (by decide +kernel) rfl (Nat.le_of_ble_eq_true rfl) (fun X hX hR => ?_)
  show WP X Γ 0 [some (.ref (gad Γ 47)), some (.int x)] [] G
  obtain ⟨s, hs, es, ec⟩ := nb_of hV
  refine r_iload1 hX dX6_now_0 (q := 1) rfl ?_
  refine r_i2l hX dX6_now_1 (q := 2) rfl ?_
  refine r_lconst hX dX6_now_2 (q := 3) rfl (v := (nI 0).toInt64) (by decide +kernel) ?_
  refine r_ldc2 hX dX6_now_3 (q := 6) rfl qX6_142 ?_
  refine r_callS hX dX6_now_6 (q := 9) rfl (c_X6_in _ Γ _ _ _ _) kX6_42 mlX6_in msX6_in rfl rfl ⟨by decide, by decide⟩ (Nat.le_of_ble_eq_true rfl) (keB ?_)
  first | with_reducible refine r_ifd_ne hX dX6_now_9 (q := 12) rfl (tgt := 19) (by decide) (fun h9 => ?_) (fun h9 => ?_) | refine r_ifb_ne hX dX6_now_9 (q := 12) rfl (tgt := 19) (by decide) (fun h9 => ?_) (fun h9 => ?_)
  ·
    obtain ⟨xl, xe⟩ := ix_of (by decide) h9
    refine r_iload1 hX dX6_now_19 (q := 20) rfl ?_
    refine r_tabCase hX dX6_now_20 0 ⟨by decide, by decide, by decide, rfl, (by decide : (20 : Int) + 60 = (80 : Nat))⟩ (fun h20_0 => ?_) (fun h20_0 => ?_)
    ·
      refine r_aload0 hX dX6_now_80 (q := 81) rfl ?_
      refine r_getR hX dX6_now_81 (q := 84) rfl fX6_9 rfl ⟨by decide, by decide, rfl⟩ ?_
      refine r_iconst hX dX6_now_84 (q := 85) rfl (v := nI 0) (by decide +kernel) ?_
      refine r_ialdN hX dX6_now_85 (q := 86) rfl rfl (by repeat' (first | assumption | with_reducible exact rfl | refine e_add ?_ ?_ | refine e_mul ?_ ?_)) (by first | assumption | omega) (by first | decide | omega) ?_
      rw [hM 0 (by decide)]
      refine r_iret hX hR dX6_now_86 ?_
      -- leaf 0 at 86
      refine ⟨_, rfl, ?_⟩
      exact MOut.ok (w := μ 0) (μ' := μ) (by unfold oNow; rw [if_pos h9, if_neg (by first | assumption | (rw [h20_0]; decide +kernel) | (rw [h20_2]; decide +kernel) | (rw [h20_3]; decide +kernel) | (rw [h20_4]; decide +kernel) | (rw [h20_5]; decide +kernel) | (rw [h20_6]; decide +kernel) | (rw [h20_7]; decide +kernel) | (rw [h20_8]; decide +kernel) | (rw [h20_9]; decide +kernel) | (rw [h20_10]; decide +kernel)), if_neg (by first | assumption | (rw [h20_0]; decide +kernel) | (rw [h20_1]; decide +kernel) | (rw [h20_2]; decide +kernel) | (rw [h20_3]; decide +kernel) | (rw [h20_4]; decide +kernel) | (rw [h20_5]; decide +kernel) | (rw [h20_6]; decide +kernel) | (rw [h20_7]; decide +kernel) | (rw [h20_9]; decide +kernel) | (rw [h20_10]; decide +kernel)), if_neg (by first | assumption | (rw [h20_0]; decide +kernel) | (rw [h20_1]; decide +kernel) | (rw [h20_2]; decide +kernel) | (rw [h20_3]; decide +kernel) | (rw [h20_4]; decide +kernel) | (rw [h20_5]; decide +kernel) | (rw [h20_6]; decide +kernel) | (rw [h20_7]; decide +kernel) | (rw [h20_8]; decide +kernel) | (rw [h20_10]; decide +kernel)), if_neg (by first | assumption | (rw [h20_0]; decide +kernel) | (rw [h20_1]; decide +kernel) | (rw [h20_2]; decide +kernel) | (rw [h20_3]; decide +kernel) | (rw [h20_4]; decide +kernel) | (rw [h20_5]; decide +kernel) | (rw [h20_6]; decide +kernel) | (rw [h20_7]; decide +kernel) | (rw [h20_8]; decide +kernel) | (rw [h20_9]; decide +kernel)), h20_0]; rfl) rfl hM FrM.rf
    refine r_tabCase hX dX6_now_20 1 ⟨by decide, by decide, by decide, rfl, (by decide : (20 : Int) + 67 = (87 : Nat))⟩ (fun h20_1 => ?_) (fun h20_1 => ?_)
    ·
      refine r_aload0 hX dX6_now_87 (q := 88) rfl ?_
      refine r_getR hX dX6_now_88 (q := 91) rfl fX6_9 rfl ⟨by decide, by decide, rfl⟩ ?_
      refine r_iconst hX dX6_now_91 (q := 92) rfl (v := nI 0) (by decide +kernel) ?_
      refine r_ialdN hX dX6_now_92 (q := 93) rfl rfl (by repeat' (first | assumption | with_reducible exact rfl | refine e_add ?_ ?_ | refine e_mul ?_ ?_)) (by first | assumption | omega) (by first | decide | omega) ?_
      rw [hM 0 (by decide)]
      refine r_iconst hX dX6_now_93 (q := 94) rfl (v := nI 5) (by decide +kernel) ?_
      refine r_idiv hX dX6_now_94 (q := 95) rfl (by first | decide +kernel | assumption) ?_
      refine r_iret hX hR dX6_now_95 ?_
      -- leaf 1 at 95
      refine ⟨_, rfl, ?_⟩
      exact MOut.ok (w := μ 0 / nI 5) (μ' := μ) (by unfold oNow; rw [if_pos h9, if_pos h20_1]) rfl hM FrM.rf
    refine r_tabCase hX dX6_now_20 2 ⟨by decide, by decide, by decide, rfl, (by decide : (20 : Int) + 102 = (122 : Nat))⟩ (fun h20_2 => ?_) (fun h20_2 => ?_)
    ·
      refine r_aload0 hX dX6_now_122 (q := 123) rfl ?_
      refine r_getR hX dX6_now_123 (q := 126) rfl fX6_9 rfl ⟨by decide, by decide, rfl⟩ ?_
      refine r_iload1 hX dX6_now_126 (q := 127) rfl ?_
      refine r_ialdN hX dX6_now_127 (q := 128) rfl rfl xe (by omega) (by first | decide | omega) ?_
      refine r_iret hX hR dX6_now_128 ?_
      -- leaf 2 at 128
      refine ⟨_, rfl, ?_⟩
      exact MOut.ok (w := μ (cl x)) (μ' := μ) (by unfold oNow; rw [if_pos h9, if_neg (by first | assumption | (rw [h20_0]; decide +kernel) | (rw [h20_2]; decide +kernel) | (rw [h20_3]; decide +kernel) | (rw [h20_4]; decide +kernel) | (rw [h20_5]; decide +kernel) | (rw [h20_6]; decide +kernel) | (rw [h20_7]; decide +kernel) | (rw [h20_8]; decide +kernel) | (rw [h20_9]; decide +kernel) | (rw [h20_10]; decide +kernel)), if_neg (by first | assumption | (rw [h20_0]; decide +kernel) | (rw [h20_1]; decide +kernel) | (rw [h20_2]; decide +kernel) | (rw [h20_3]; decide +kernel) | (rw [h20_4]; decide +kernel) | (rw [h20_5]; decide +kernel) | (rw [h20_6]; decide +kernel) | (rw [h20_7]; decide +kernel) | (rw [h20_9]; decide +kernel) | (rw [h20_10]; decide +kernel)), if_neg (by first | assumption | (rw [h20_0]; decide +kernel) | (rw [h20_1]; decide +kernel) | (rw [h20_2]; decide +kernel) | (rw [h20_3]; decide +kernel) | (rw [h20_4]; decide +kernel) | (rw [h20_5]; decide +kernel) | (rw [h20_6]; decide +kernel) | (rw [h20_7]; decide +kernel) | (rw [h20_8]; decide +kernel) | (rw [h20_10]; decide +kernel)), if_neg (by first | assumption | (rw [h20_0]; decide +kernel) | (rw [h20_1]; decide +kernel) | (rw [h20_2]; decide +kernel) | (rw [h20_3]; decide +kernel) | (rw [h20_4]; decide +kernel) | (rw [h20_5]; decide +kernel) | (rw [h20_6]; decide +kernel) | (rw [h20_7]; decide +kernel) | (rw [h20_8]; decide +kernel) | (rw [h20_9]; decide +kernel))]) (hM _ (by omega)) hM FrM.rf
    refine r_tabCase hX dX6_now_20 3 ⟨by decide, by decide, by decide, rfl, (by decide : (20 : Int) + 102 = (122 : Nat))⟩ (fun h20_3 => ?_) (fun h20_3 => ?_)
    ·
      refine r_aload0 hX dX6_now_122 (q := 123) rfl ?_
      refine r_getR hX dX6_now_123 (q := 126) rfl fX6_9 rfl ⟨by decide, by decide, rfl⟩ ?_
      refine r_iload1 hX dX6_now_126 (q := 127) rfl ?_
      refine r_ialdN hX dX6_now_127 (q := 128) rfl rfl xe (by omega) (by first | decide | omega) ?_
      refine r_iret hX hR dX6_now_128 ?_
      -- leaf 3 at 128
      refine ⟨_, rfl, ?_⟩
      exact MOut.ok (w := μ (cl x)) (μ' := μ) (by unfold oNow; rw [if_pos h9, if_neg (by first | assumption | (rw [h20_0]; decide +kernel) | (rw [h20_2]; decide +kernel) | (rw [h20_3]; decide +kernel) | (rw [h20_4]; decide +kernel) | (rw [h20_5]; decide +kernel) | (rw [h20_6]; decide +kernel) | (rw [h20_7]; decide +kernel) | (rw [h20_8]; decide +kernel) | (rw [h20_9]; decide +kernel) | (rw [h20_10]; decide +kernel)), if_neg (by first | assumption | (rw [h20_0]; decide +kernel) | (rw [h20_1]; decide +kernel) | (rw [h20_2]; decide +kernel) | (rw [h20_3]; decide +kernel) | (rw [h20_4]; decide +kernel) | (rw [h20_5]; decide +kernel) | (rw [h20_6]; decide +kernel) | (rw [h20_7]; decide +kernel) | (rw [h20_9]; decide +kernel) | (rw [h20_10]; decide +kernel)), if_neg (by first | assumption | (rw [h20_0]; decide +kernel) | (rw [h20_1]; decide +kernel) | (rw [h20_2]; decide +kernel) | (rw [h20_3]; decide +kernel) | (rw [h20_4]; decide +kernel) | (rw [h20_5]; decide +kernel) | (rw [h20_6]; decide +kernel) | (rw [h20_7]; decide +kernel) | (rw [h20_8]; decide +kernel) | (rw [h20_10]; decide +kernel)), if_neg (by first | assumption | (rw [h20_0]; decide +kernel) | (rw [h20_1]; decide +kernel) | (rw [h20_2]; decide +kernel) | (rw [h20_3]; decide +kernel) | (rw [h20_4]; decide +kernel) | (rw [h20_5]; decide +kernel) | (rw [h20_6]; decide +kernel) | (rw [h20_7]; decide +kernel) | (rw [h20_8]; decide +kernel) | (rw [h20_9]; decide +kernel))]) (hM _ (by omega)) hM FrM.rf
    refine r_tabCase hX dX6_now_20 4 ⟨by decide, by decide, by decide, rfl, (by decide : (20 : Int) + 102 = (122 : Nat))⟩ (fun h20_4 => ?_) (fun h20_4 => ?_)
    ·
      refine r_aload0 hX dX6_now_122 (q := 123) rfl ?_
      refine r_getR hX dX6_now_123 (q := 126) rfl fX6_9 rfl ⟨by decide, by decide, rfl⟩ ?_
      refine r_iload1 hX dX6_now_126 (q := 127) rfl ?_
      refine r_ialdN hX dX6_now_127 (q := 128) rfl rfl xe (by omega) (by first | decide | omega) ?_
      refine r_iret hX hR dX6_now_128 ?_
      -- leaf 4 at 128
      refine ⟨_, rfl, ?_⟩
      exact MOut.ok (w := μ (cl x)) (μ' := μ) (by unfold oNow; rw [if_pos h9, if_neg (by first | assumption | (rw [h20_0]; decide +kernel) | (rw [h20_2]; decide +kernel) | (rw [h20_3]; decide +kernel) | (rw [h20_4]; decide +kernel) | (rw [h20_5]; decide +kernel) | (rw [h20_6]; decide +kernel) | (rw [h20_7]; decide +kernel) | (rw [h20_8]; decide +kernel) | (rw [h20_9]; decide +kernel) | (rw [h20_10]; decide +kernel)), if_neg (by first | assumption | (rw [h20_0]; decide +kernel) | (rw [h20_1]; decide +kernel) | (rw [h20_2]; decide +kernel) | (rw [h20_3]; decide +kernel) | (rw [h20_4]; decide +kernel) | (rw [h20_5]; decide +kernel) | (rw [h20_6]; decide +kernel) | (rw [h20_7]; decide +kernel) | (rw [h20_9]; decide +kernel) | (rw [h20_10]; decide +kernel)), if_neg (by first | assumption | (rw [h20_0]; decide +kernel) | (rw [h20_1]; decide +kernel) | (rw [h20_2]; decide +kernel) | (rw [h20_3]; decide +kernel) | (rw [h20_4]; decide +kernel) | (rw [h20_5]; decide +kernel) | (rw [h20_6]; decide +kernel) | (rw [h20_7]; decide +kernel) | (rw [h20_8]; decide +kernel) | (rw [h20_10]; decide +kernel)), if_neg (by first | assumption | (rw [h20_0]; decide +kernel) | (rw [h20_1]; decide +kernel) | (rw [h20_2]; decide +kernel) | (rw [h20_3]; decide +kernel) | (rw [h20_4]; decide +kernel) | (rw [h20_5]; decide +kernel) | (rw [h20_6]; decide +kernel) | (rw [h20_7]; decide +kernel) | (rw [h20_8]; decide +kernel) | (rw [h20_9]; decide +kernel))]) (hM _ (by omega)) hM FrM.rf
    refine r_tabCase hX dX6_now_20 5 ⟨by decide, by decide, by decide, rfl, (by decide : (20 : Int) + 102 = (122 : Nat))⟩ (fun h20_5 => ?_) (fun h20_5 => ?_)
    ·
      refine r_aload0 hX dX6_now_122 (q := 123) rfl ?_
      refine r_getR hX dX6_now_123 (q := 126) rfl fX6_9 rfl ⟨by decide, by decide, rfl⟩ ?_
      refine r_iload1 hX dX6_now_126 (q := 127) rfl ?_
      refine r_ialdN hX dX6_now_127 (q := 128) rfl rfl xe (by omega) (by first | decide | omega) ?_
      refine r_iret hX hR dX6_now_128 ?_
      -- leaf 5 at 128
      refine ⟨_, rfl, ?_⟩
      exact MOut.ok (w := μ (cl x)) (μ' := μ) (by unfold oNow; rw [if_pos h9, if_neg (by first | assumption | (rw [h20_0]; decide +kernel) | (rw [h20_2]; decide +kernel) | (rw [h20_3]; decide +kernel) | (rw [h20_4]; decide +kernel) | (rw [h20_5]; decide +kernel) | (rw [h20_6]; decide +kernel) | (rw [h20_7]; decide +kernel) | (rw [h20_8]; decide +kernel) | (rw [h20_9]; decide +kernel) | (rw [h20_10]; decide +kernel)), if_neg (by first | assumption | (rw [h20_0]; decide +kernel) | (rw [h20_1]; decide +kernel) | (rw [h20_2]; decide +kernel) | (rw [h20_3]; decide +kernel) | (rw [h20_4]; decide +kernel) | (rw [h20_5]; decide +kernel) | (rw [h20_6]; decide +kernel) | (rw [h20_7]; decide +kernel) | (rw [h20_9]; decide +kernel) | (rw [h20_10]; decide +kernel)), if_neg (by first | assumption | (rw [h20_0]; decide +kernel) | (rw [h20_1]; decide +kernel) | (rw [h20_2]; decide +kernel) | (rw [h20_3]; decide +kernel) | (rw [h20_4]; decide +kernel) | (rw [h20_5]; decide +kernel) | (rw [h20_6]; decide +kernel) | (rw [h20_7]; decide +kernel) | (rw [h20_8]; decide +kernel) | (rw [h20_10]; decide +kernel)), if_neg (by first | assumption | (rw [h20_0]; decide +kernel) | (rw [h20_1]; decide +kernel) | (rw [h20_2]; decide +kernel) | (rw [h20_3]; decide +kernel) | (rw [h20_4]; decide +kernel) | (rw [h20_5]; decide +kernel) | (rw [h20_6]; decide +kernel) | (rw [h20_7]; decide +kernel) | (rw [h20_8]; decide +kernel) | (rw [h20_9]; decide +kernel))]) (hM _ (by omega)) hM FrM.rf
    refine r_tabCase hX dX6_now_20 6 ⟨by decide, by decide, by decide, rfl, (by decide : (20 : Int) + 102 = (122 : Nat))⟩ (fun h20_6 => ?_) (fun h20_6 => ?_)
    ·
      refine r_aload0 hX dX6_now_122 (q := 123) rfl ?_
      refine r_getR hX dX6_now_123 (q := 126) rfl fX6_9 rfl ⟨by decide, by decide, rfl⟩ ?_
      refine r_iload1 hX dX6_now_126 (q := 127) rfl ?_
      refine r_ialdN hX dX6_now_127 (q := 128) rfl rfl xe (by omega) (by first | decide | omega) ?_
      refine r_iret hX hR dX6_now_128 ?_
      -- leaf 6 at 128
      refine ⟨_, rfl, ?_⟩
      exact MOut.ok (w := μ (cl x)) (μ' := μ) (by unfold oNow; rw [if_pos h9, if_neg (by first | assumption | (rw [h20_0]; decide +kernel) | (rw [h20_2]; decide +kernel) | (rw [h20_3]; decide +kernel) | (rw [h20_4]; decide +kernel) | (rw [h20_5]; decide +kernel) | (rw [h20_6]; decide +kernel) | (rw [h20_7]; decide +kernel) | (rw [h20_8]; decide +kernel) | (rw [h20_9]; decide +kernel) | (rw [h20_10]; decide +kernel)), if_neg (by first | assumption | (rw [h20_0]; decide +kernel) | (rw [h20_1]; decide +kernel) | (rw [h20_2]; decide +kernel) | (rw [h20_3]; decide +kernel) | (rw [h20_4]; decide +kernel) | (rw [h20_5]; decide +kernel) | (rw [h20_6]; decide +kernel) | (rw [h20_7]; decide +kernel) | (rw [h20_9]; decide +kernel) | (rw [h20_10]; decide +kernel)), if_neg (by first | assumption | (rw [h20_0]; decide +kernel) | (rw [h20_1]; decide +kernel) | (rw [h20_2]; decide +kernel) | (rw [h20_3]; decide +kernel) | (rw [h20_4]; decide +kernel) | (rw [h20_5]; decide +kernel) | (rw [h20_6]; decide +kernel) | (rw [h20_7]; decide +kernel) | (rw [h20_8]; decide +kernel) | (rw [h20_10]; decide +kernel)), if_neg (by first | assumption | (rw [h20_0]; decide +kernel) | (rw [h20_1]; decide +kernel) | (rw [h20_2]; decide +kernel) | (rw [h20_3]; decide +kernel) | (rw [h20_4]; decide +kernel) | (rw [h20_5]; decide +kernel) | (rw [h20_6]; decide +kernel) | (rw [h20_7]; decide +kernel) | (rw [h20_8]; decide +kernel) | (rw [h20_9]; decide +kernel))]) (hM _ (by omega)) hM FrM.rf
    refine r_tabCase hX dX6_now_20 7 ⟨by decide, by decide, by decide, rfl, (by decide : (20 : Int) + 102 = (122 : Nat))⟩ (fun h20_7 => ?_) (fun h20_7 => ?_)
    ·
      refine r_aload0 hX dX6_now_122 (q := 123) rfl ?_
      refine r_getR hX dX6_now_123 (q := 126) rfl fX6_9 rfl ⟨by decide, by decide, rfl⟩ ?_
      refine r_iload1 hX dX6_now_126 (q := 127) rfl ?_
      refine r_ialdN hX dX6_now_127 (q := 128) rfl rfl xe (by omega) (by first | decide | omega) ?_
      refine r_iret hX hR dX6_now_128 ?_
      -- leaf 7 at 128
      refine ⟨_, rfl, ?_⟩
      exact MOut.ok (w := μ (cl x)) (μ' := μ) (by unfold oNow; rw [if_pos h9, if_neg (by first | assumption | (rw [h20_0]; decide +kernel) | (rw [h20_2]; decide +kernel) | (rw [h20_3]; decide +kernel) | (rw [h20_4]; decide +kernel) | (rw [h20_5]; decide +kernel) | (rw [h20_6]; decide +kernel) | (rw [h20_7]; decide +kernel) | (rw [h20_8]; decide +kernel) | (rw [h20_9]; decide +kernel) | (rw [h20_10]; decide +kernel)), if_neg (by first | assumption | (rw [h20_0]; decide +kernel) | (rw [h20_1]; decide +kernel) | (rw [h20_2]; decide +kernel) | (rw [h20_3]; decide +kernel) | (rw [h20_4]; decide +kernel) | (rw [h20_5]; decide +kernel) | (rw [h20_6]; decide +kernel) | (rw [h20_7]; decide +kernel) | (rw [h20_9]; decide +kernel) | (rw [h20_10]; decide +kernel)), if_neg (by first | assumption | (rw [h20_0]; decide +kernel) | (rw [h20_1]; decide +kernel) | (rw [h20_2]; decide +kernel) | (rw [h20_3]; decide +kernel) | (rw [h20_4]; decide +kernel) | (rw [h20_5]; decide +kernel) | (rw [h20_6]; decide +kernel) | (rw [h20_7]; decide +kernel) | (rw [h20_8]; decide +kernel) | (rw [h20_10]; decide +kernel)), if_neg (by first | assumption | (rw [h20_0]; decide +kernel) | (rw [h20_1]; decide +kernel) | (rw [h20_2]; decide +kernel) | (rw [h20_3]; decide +kernel) | (rw [h20_4]; decide +kernel) | (rw [h20_5]; decide +kernel) | (rw [h20_6]; decide +kernel) | (rw [h20_7]; decide +kernel) | (rw [h20_8]; decide +kernel) | (rw [h20_9]; decide +kernel))]) (hM _ (by omega)) hM FrM.rf
    refine r_tabCase hX dX6_now_20 8 ⟨by decide, by decide, by decide, rfl, (by decide : (20 : Int) + 76 = (96 : Nat))⟩ (fun h20_8 => ?_) (fun h20_8 => ?_)
    ·
      refine r_aload0 hX dX6_now_96 (q := 97) rfl ?_
      refine r_callV hX dX6_now_97 (q := 100) rfl (c_X6_week _ Γ _ μ (by assumption) b (by assumption)) kX6_139 mlX6_week mvX6_week rfl rfl rfl ⟨by decide, rfl⟩ ⟨by decide, by decide⟩ (Nat.le_of_ble_eq_true rfl) (keI ?_)
      refine r_iret hX hR dX6_now_100 ?_
      -- leaf 8 at 100
      refine ⟨_, rfl, ?_⟩
      exact MOut.ok (w := wkF μ (cl (μ 9))) (μ' := μ) (by unfold oNow; rw [if_pos h9, if_neg (by first | assumption | (rw [h20_0]; decide +kernel) | (rw [h20_2]; decide +kernel) | (rw [h20_3]; decide +kernel) | (rw [h20_4]; decide +kernel) | (rw [h20_5]; decide +kernel) | (rw [h20_6]; decide +kernel) | (rw [h20_7]; decide +kernel) | (rw [h20_8]; decide +kernel) | (rw [h20_9]; decide +kernel) | (rw [h20_10]; decide +kernel)), if_pos h20_8]) rfl hM FrM.rf
    refine r_tabCase hX dX6_now_20 9 ⟨by decide, by decide, by decide, rfl, (by decide : (20 : Int) + 81 = (101 : Nat))⟩ (fun h20_9 => ?_) (fun h20_9 => ?_)
    ·
      refine r_aload0 hX dX6_now_101 (q := 102) rfl ?_
      refine r_getR hX dX6_now_102 (q := 105) rfl fX6_9 rfl ⟨by decide, by decide, rfl⟩ ?_
      refine r_bipush hX dX6_now_105 (q := 107) rfl (v := nI 9) (by decide +kernel) ?_
      refine r_ialdN hX dX6_now_107 (q := 108) rfl rfl (by repeat' (first | assumption | with_reducible exact rfl | refine e_add ?_ ?_ | refine e_mul ?_ ?_)) (by first | assumption | omega) (by first | decide | omega) ?_
      rw [hM 9 (by decide), es]
      refine r_iret hX hR dX6_now_108 ?_
      -- leaf 9 at 108
      refine ⟨_, rfl, ?_⟩
      exact MOut.ok (w := nI (cl (μ 9))) (μ' := μ) (by unfold oNow; rw [if_pos h9, if_neg (by first | assumption | (rw [h20_0]; decide +kernel) | (rw [h20_2]; decide +kernel) | (rw [h20_3]; decide +kernel) | (rw [h20_4]; decide +kernel) | (rw [h20_5]; decide +kernel) | (rw [h20_6]; decide +kernel) | (rw [h20_7]; decide +kernel) | (rw [h20_8]; decide +kernel) | (rw [h20_9]; decide +kernel) | (rw [h20_10]; decide +kernel)), if_neg (by first | assumption | (rw [h20_0]; decide +kernel) | (rw [h20_1]; decide +kernel) | (rw [h20_2]; decide +kernel) | (rw [h20_3]; decide +kernel) | (rw [h20_4]; decide +kernel) | (rw [h20_5]; decide +kernel) | (rw [h20_6]; decide +kernel) | (rw [h20_7]; decide +kernel) | (rw [h20_9]; decide +kernel) | (rw [h20_10]; decide +kernel)), if_pos h20_9]) (by rw [ec]) hM FrM.rf
    refine r_tabCase hX dX6_now_20 10 ⟨by decide, by decide, by decide, rfl, (by decide : (20 : Int) + 89 = (109 : Nat))⟩ (fun h20_10 => ?_) (fun h20_10 => ?_)
    ·
      refine r_aload0 hX dX6_now_109 (q := 110) rfl ?_
      refine r_callV hX dX6_now_110 (q := 113) rfl (c_X6_isShort _ Γ _ μ (by assumption) b (by assumption)) kX6_144 mlX6_isShort mvX6_isShort rfl rfl rfl ⟨by decide, rfl⟩ ⟨by decide, by decide⟩ (Nat.le_of_ble_eq_true rfl) (keB ?_)
      first | with_reducible refine r_ifd_eq hX dX6_now_113 (q := 116) rfl (tgt := 120) (by decide) (fun h113 => ?_) (fun h113 => ?_) | refine r_ifb_eq hX dX6_now_113 (q := 116) rfl (tgt := 120) (by decide) (fun h113 => ?_) (fun h113 => ?_)
      ·
        refine r_iconst hX dX6_now_120 (q := 121) rfl (v := nI 0) (by decide +kernel) ?_
        refine r_iret hX hR dX6_now_121 ?_
        -- leaf 10 at 121
        refine ⟨_, rfl, ?_⟩
        exact MOut.ok (w := bi (shortF μ)) (μ' := μ) (by unfold oNow; rw [if_pos h9, if_neg (by first | assumption | (rw [h20_0]; decide +kernel) | (rw [h20_2]; decide +kernel) | (rw [h20_3]; decide +kernel) | (rw [h20_4]; decide +kernel) | (rw [h20_5]; decide +kernel) | (rw [h20_6]; decide +kernel) | (rw [h20_7]; decide +kernel) | (rw [h20_8]; decide +kernel) | (rw [h20_9]; decide +kernel) | (rw [h20_10]; decide +kernel)), if_neg (by first | assumption | (rw [h20_0]; decide +kernel) | (rw [h20_1]; decide +kernel) | (rw [h20_2]; decide +kernel) | (rw [h20_3]; decide +kernel) | (rw [h20_4]; decide +kernel) | (rw [h20_5]; decide +kernel) | (rw [h20_6]; decide +kernel) | (rw [h20_7]; decide +kernel) | (rw [h20_9]; decide +kernel) | (rw [h20_10]; decide +kernel)), if_neg (by first | assumption | (rw [h20_0]; decide +kernel) | (rw [h20_1]; decide +kernel) | (rw [h20_2]; decide +kernel) | (rw [h20_3]; decide +kernel) | (rw [h20_4]; decide +kernel) | (rw [h20_5]; decide +kernel) | (rw [h20_6]; decide +kernel) | (rw [h20_7]; decide +kernel) | (rw [h20_8]; decide +kernel) | (rw [h20_10]; decide +kernel)), if_pos h20_10]) (by rw [h113]; rfl) hM FrM.rf
      ·
        refine r_iconst hX dX6_now_116 (q := 117) rfl (v := nI 1) (by decide +kernel) ?_
        refine r_goto hX dX6_now_117 (tgt := 121) (by decide) ?_
        refine r_iret hX hR dX6_now_121 ?_
        -- leaf 11 at 121
        refine ⟨_, rfl, ?_⟩
        exact MOut.ok (w := bi (shortF μ)) (μ' := μ) (by unfold oNow; rw [if_pos h9, if_neg (by first | assumption | (rw [h20_0]; decide +kernel) | (rw [h20_2]; decide +kernel) | (rw [h20_3]; decide +kernel) | (rw [h20_4]; decide +kernel) | (rw [h20_5]; decide +kernel) | (rw [h20_6]; decide +kernel) | (rw [h20_7]; decide +kernel) | (rw [h20_8]; decide +kernel) | (rw [h20_9]; decide +kernel) | (rw [h20_10]; decide +kernel)), if_neg (by first | assumption | (rw [h20_0]; decide +kernel) | (rw [h20_1]; decide +kernel) | (rw [h20_2]; decide +kernel) | (rw [h20_3]; decide +kernel) | (rw [h20_4]; decide +kernel) | (rw [h20_5]; decide +kernel) | (rw [h20_6]; decide +kernel) | (rw [h20_7]; decide +kernel) | (rw [h20_9]; decide +kernel) | (rw [h20_10]; decide +kernel)), if_neg (by first | assumption | (rw [h20_0]; decide +kernel) | (rw [h20_1]; decide +kernel) | (rw [h20_2]; decide +kernel) | (rw [h20_3]; decide +kernel) | (rw [h20_4]; decide +kernel) | (rw [h20_5]; decide +kernel) | (rw [h20_6]; decide +kernel) | (rw [h20_7]; decide +kernel) | (rw [h20_8]; decide +kernel) | (rw [h20_10]; decide +kernel)), if_pos h20_10]) (by rw [h113]; rfl) hM FrM.rf
    refine r_tabOut hX dX6_now_20 (by have z0 := nI_neT h20_0 (by decide); have z1 := nI_neT h20_1 (by decide); have z2 := nI_neT h20_2 (by decide); have z3 := nI_neT h20_3 (by decide); have z4 := nI_neT h20_4 (by decide); have z5 := nI_neT h20_5 (by decide); have z6 := nI_neT h20_6 (by decide); have z7 := nI_neT h20_7 (by decide); have z8 := nI_neT h20_8 (by decide); have z9 := nI_neT h20_9 (by decide); have z10 := nI_neT h20_10 (by decide); omega) (tgt := 122) (by decide) ?_
    refine r_aload0 hX dX6_now_122 (q := 123) rfl ?_
    refine r_getR hX dX6_now_123 (q := 126) rfl fX6_9 rfl ⟨by decide, by decide, rfl⟩ ?_
    refine r_iload1 hX dX6_now_126 (q := 127) rfl ?_
    refine r_ialdN hX dX6_now_127 (q := 128) rfl rfl xe (by omega) (by first | decide | omega) ?_
    refine r_iret hX hR dX6_now_128 ?_
    -- leaf 12 at 128
    refine ⟨_, rfl, ?_⟩
    exact MOut.ok (w := μ (cl x)) (μ' := μ) (by unfold oNow; rw [if_pos h9, if_neg (by first | assumption | (rw [h20_0]; decide +kernel) | (rw [h20_2]; decide +kernel) | (rw [h20_3]; decide +kernel) | (rw [h20_4]; decide +kernel) | (rw [h20_5]; decide +kernel) | (rw [h20_6]; decide +kernel) | (rw [h20_7]; decide +kernel) | (rw [h20_8]; decide +kernel) | (rw [h20_9]; decide +kernel) | (rw [h20_10]; decide +kernel)), if_neg (by first | assumption | (rw [h20_0]; decide +kernel) | (rw [h20_1]; decide +kernel) | (rw [h20_2]; decide +kernel) | (rw [h20_3]; decide +kernel) | (rw [h20_4]; decide +kernel) | (rw [h20_5]; decide +kernel) | (rw [h20_6]; decide +kernel) | (rw [h20_7]; decide +kernel) | (rw [h20_9]; decide +kernel) | (rw [h20_10]; decide +kernel)), if_neg (by first | assumption | (rw [h20_0]; decide +kernel) | (rw [h20_1]; decide +kernel) | (rw [h20_2]; decide +kernel) | (rw [h20_3]; decide +kernel) | (rw [h20_4]; decide +kernel) | (rw [h20_5]; decide +kernel) | (rw [h20_6]; decide +kernel) | (rw [h20_7]; decide +kernel) | (rw [h20_8]; decide +kernel) | (rw [h20_10]; decide +kernel)), if_neg (by first | assumption | (rw [h20_0]; decide +kernel) | (rw [h20_1]; decide +kernel) | (rw [h20_2]; decide +kernel) | (rw [h20_3]; decide +kernel) | (rw [h20_4]; decide +kernel) | (rw [h20_5]; decide +kernel) | (rw [h20_6]; decide +kernel) | (rw [h20_7]; decide +kernel) | (rw [h20_8]; decide +kernel) | (rw [h20_9]; decide +kernel))]) (hM _ (by omega)) hM FrM.rf
  ·
    refine r_aload0 hX dX6_now_12 (q := 13) rfl ?_
    refine r_ldc hX dX6_now_13 (q := 15) rfl qX6_34 ?_
    refine r_callV hX dX6_now_15 (q := 18) rfl (c_X6_finds _ Γ _ _ 0 (by decide) (by decide +kernel)) kX6_36 mlX6_finds mvX6_finds rfl rfl rfl ⟨by decide, rfl⟩ ⟨by decide, by decide⟩ (Nat.le_of_ble_eq_true rfl) (kpI (fun v15 G15 p15 => ?_))
    refine r_iret hX hR dX6_now_18 ?_
    -- leaf 13 at 18
    refine ⟨_, rfl, ?_⟩
    exact MOut.fin (k := 0) (if_neg h9) ⟨p15.1.trans (by decide +kernel), p15.2⟩ hM FrM.rf

set_option maxRecDepth 100000 in
set_option maxHeartbeats 4000000 in
theorem c_X6_book (l : Launch) (Γ : Gam) (G : GG) (μ : MU) (hM : MR G μ) (b : Nat) (hV : Inv b μ) (x : Int32) : Sp l yX6_book cX6_book 2 (some .int) 1 25 [.ref (gad Γ 47), .int x] Γ G (pI (fun v G' => MOut G μ (oBook μ x) v G')) := by
  refine Sp_of (own := RX6) rfl (by decide +kernel) rfl (Nat.le_of_ble_eq_true rfl) (fun X hX hR => ?_)
  show WP X Γ 0 [some (.ref (gad Γ 47)), some (.int x)] [] G
  obtain ⟨s, hs, es, ec⟩ := nb_of hV
  refine r_iload1 hX dX6_book_0 (q := 1) rfl ?_
  refine r_i2l hX dX6_book_1 (q := 2) rfl ?_
  refine r_lconst hX dX6_book_2 (q := 3) rfl (v := (nI 0).toInt64) (by decide +kernel) ?_
  refine r_aload0 hX dX6_book_3 (q := 4) rfl ?_
  refine r_getR hX dX6_book_4 (q := 7) rfl fX6_9 rfl ⟨by decide, by decide, rfl⟩ ?_
  refine r_bipush hX dX6_book_7 (q := 9) rfl (v := nI 9) (by decide +kernel) ?_
  refine r_ialdN hX dX6_book_9 (q := 10) rfl rfl (by repeat' (first | assumption | with_reducible exact rfl | refine e_add ?_ ?_ | refine e_mul ?_ ?_)) (by first | assumption | omega) (by first | decide | omega) ?_
  rw [hM 9 (by decide), es]
  refine r_iconst hX dX6_book_10 (q := 11) rfl (v := nI 1) (by decide +kernel) ?_
  refine r_isub hX dX6_book_11 (q := 12) rfl ?_
  refine r_i2l hX dX6_book_12 (q := 13) rfl ?_
  refine r_callS hX dX6_book_13 (q := 16) rfl (c_X6_in _ Γ _ _ _ _) kX6_42 mlX6_in msX6_in rfl rfl ⟨by decide, by decide⟩ (Nat.le_of_ble_eq_true rfl) (keB ?_)
  first | with_reducible refine r_ifd_eq hX dX6_book_16 (q := 19) rfl (tgt := 31) (by decide) (fun h16 => ?_) (fun h16 => ?_) | refine r_ifb_eq hX dX6_book_16 (q := 19) rfl (tgt := 31) (by decide) (fun h16 => ?_) (fun h16 => ?_)
  ·
    refine r_aload0 hX dX6_book_31 (q := 32) rfl ?_
    refine r_ldc hX dX6_book_32 (q := 34) rfl qX6_34 ?_
    refine r_callV hX dX6_book_34 (q := 37) rfl (c_X6_finds _ Γ _ _ 0 (by decide) (by decide +kernel)) kX6_36 mlX6_finds mvX6_finds rfl rfl rfl ⟨by decide, rfl⟩ ⟨by decide, by decide⟩ (Nat.le_of_ble_eq_true rfl) (kpI (fun v34 G34 p34 => ?_))
    refine r_iret hX hR dX6_book_37 ?_
    -- leaf 0 at 37
    refine ⟨_, rfl, ?_⟩
    first
      | (exact MOut.fin (k := 0) (if_neg (fun q => h16 (by rw [ec] at q; exact q))) ⟨p34.1.trans (by decide +kernel), p34.2⟩ hM FrM.rf)
      | exact MOut.ok (w := μ (80 + cl x)) (μ' := μ) (if_pos (by rw [ec]; exact h16)) (hM _ (by omega)) hM FrM.rf
  ·
    obtain ⟨xl, xe⟩ := ix_pred (by omega) h16
    refine r_aload0 hX dX6_book_19 (q := 20) rfl ?_
    refine r_getR hX dX6_book_20 (q := 23) rfl fX6_9 rfl ⟨by decide, by decide, rfl⟩ ?_
    refine r_bipush hX dX6_book_23 (q := 25) rfl (v := nI 80) (by decide +kernel) ?_
    refine r_iload1 hX dX6_book_25 (q := 26) rfl ?_
    refine r_iadd hX dX6_book_26 (q := 27) rfl ?_
    refine r_ialdN hX dX6_book_27 (q := 28) rfl rfl (e_add rfl xe) (by omega) (by first | decide | omega) ?_
    refine r_goto hX dX6_book_28 (tgt := 37) (by decide) ?_
    refine r_iret hX hR dX6_book_37 ?_
    -- leaf 1 at 37
    refine ⟨_, rfl, ?_⟩
    first
      | (exact MOut.fin (k := 0) (if_neg (fun q => h16 (by rw [ec] at q; exact q))) ⟨p34.1.trans (by decide +kernel), p34.2⟩ hM FrM.rf)
      | exact MOut.ok (w := μ (80 + cl x)) (μ' := μ) (if_pos (by rw [ec]; exact h16)) (hM _ (by omega)) hM FrM.rf

set_option maxRecDepth 100000 in
set_option maxHeartbeats 4000000 in
theorem c_X6_day (l : Launch) (Γ : Gam) (G : GG) (μ : MU) (hM : MR G μ) (b : Nat) (hV : Inv b μ) (x : Int32) : Sp l yX6_day cX6_day 5 (some .int) 1 25 [.ref (gad Γ 47), .int x] Γ G (pI (fun v G' => MOut G μ (oDay μ x) v G')) := by
  refine Sp_of (own := RX6) rfl (by decide +kernel) rfl (Nat.le_of_ble_eq_true rfl) (fun X hX hR => ?_)
  show WP X Γ 0 [some (.ref (gad Γ 47)), some (.int x), none, none, none] [] G
  obtain ⟨s, hs, es, ec⟩ := nb_of hV
  refine r_iload1 hX dX6_day_0 (q := 1) rfl ?_
  refine r_i2l hX dX6_day_1 (q := 2) rfl ?_
  refine r_lconst hX dX6_day_2 (q := 3) rfl (v := (nI 0).toInt64) (by decide +kernel) ?_
  refine r_ldc2 hX dX6_day_3 (q := 6) rfl qX6_148 ?_
  refine r_callS hX dX6_day_6 (q := 9) rfl (c_X6_in _ Γ _ _ _ _) kX6_42 mlX6_in msX6_in rfl rfl ⟨by decide, by decide⟩ (Nat.le_of_ble_eq_true rfl) (keB ?_)
  first | with_reducible refine r_ifd_ne hX dX6_day_9 (q := 12) rfl (tgt := 19) (by decide) (fun h9 => ?_) (fun h9 => ?_) | refine r_ifb_ne hX dX6_day_9 (q := 12) rfl (tgt := 19) (by decide) (fun h9 => ?_) (fun h9 => ?_)
  ·
    refine r_aload0 hX dX6_day_19 (q := 20) rfl ?_
    refine r_getR hX dX6_day_20 (q := 23) rfl fX6_9 rfl ⟨by decide, by decide, rfl⟩ ?_
    refine r_bipush hX dX6_day_23 (q := 25) rfl (v := nI 9) (by decide +kernel) ?_
    refine r_ialdN hX dX6_day_25 (q := 26) rfl rfl (by repeat' (first | assumption | with_reducible exact rfl | refine e_add ?_ ?_ | refine e_mul ?_ ?_)) (by first | assumption | omega) (by first | decide | omega) ?_
    rw [hM 9 (by decide), es]
    refine r_if_ne hX dX6_day_26 (q := 29) rfl (tgt := 36) (by decide) (fun h26 => ?_) (fun h26 => ?_)
    ·
      refine r_aload0 hX dX6_day_36 (q := 37) rfl ?_
      refine r_getR hX dX6_day_37 (q := 40) rfl fX6_9 rfl ⟨by decide, by decide, rfl⟩ ?_
      refine r_iconst hX dX6_day_40 (q := 41) rfl (v := nI 0) (by decide +kernel) ?_
      refine r_ialdN hX dX6_day_41 (q := 42) rfl rfl (by repeat' (first | assumption | with_reducible exact rfl | refine e_add ?_ ?_ | refine e_mul ?_ ?_)) (by first | assumption | omega) (by first | decide | omega) ?_
      rw [hM 0 (by decide)]
      refine r_iconst hX dX6_day_42 (q := 43) rfl (v := nI 1) (by decide +kernel) ?_
      refine r_isub hX dX6_day_43 (q := 44) rfl ?_
      refine r_istore2 hX dX6_day_44 (q := 45) rfl rfl ?_
      refine r_iconst hX dX6_day_45 (q := 46) rfl (v := nI 0) (by decide +kernel) ?_
      refine r_istore3 hX dX6_day_46 (q := 47) rfl rfl ?_
      refine r_iconst hX dX6_day_47 (q := 48) rfl (v := nI 0) (by decide +kernel) ?_
      refine r_istore4 hX dX6_day_48 (q := 50) rfl rfl ?_
      have L50 : ∀ (zn50 : Nat) (k : Nat) (e : Int32), zn50 = s - k → (k ≤ s) → (e = dyF μ x k) → WP X Γ 50 [some (.ref (gad Γ 47)), some (.int x), some (.int (μ 0 - nI 1)), some (.int e), some (.int (nI k))] [] G := by
        intro zn50
        induction zn50 using Nat.strongRecOn with
        | _ zn50 ih50 =>
          intro k e zh50 hk he
          refine r_iload4 hX dX6_day_50 (q := 52) rfl ?_
          refine r_aload0 hX dX6_day_52 (q := 53) rfl ?_
          refine r_getR hX dX6_day_53 (q := 56) rfl fX6_9 rfl ⟨by decide, by decide, rfl⟩ ?_
          refine r_bipush hX dX6_day_56 (q := 58) rfl (v := nI 9) (by decide +kernel) ?_
          refine r_ialdN hX dX6_day_58 (q := 59) rfl rfl (by repeat' (first | assumption | with_reducible exact rfl | refine e_add ?_ ?_ | refine e_mul ?_ ?_)) (by first | assumption | omega) (by first | decide | omega) ?_
          rw [hM 9 (by decide), es]
          first | refine r_icmpN_ge hX dX6_day_59 (q := 62) rfl (tgt := 99) (by decide) (by first | omega | decide) (by first | omega | decide) (fun h59 => ?_) (fun h59 => ?_) | refine r_icmp_ge hX dX6_day_59 (q := 62) rfl (tgt := 99) (by decide) (fun h59 => ?_) (fun h59 => ?_)
          ·
            refine r_iload3 hX dX6_day_99 (q := 100) rfl ?_
            refine r_iret hX hR dX6_day_100 ?_
            -- leaf 0 at 100
            refine ⟨_, rfl, ?_⟩
            have e0 : k = s := by omega
            exact MOut.ok (w := dyF μ x (cl (μ 9))) (μ' := μ) ((if_pos h9).trans (if_neg (fun q => h26 (by rw [← ec, q, nI_0])))) (by rw [ec, ← e0]; exact he) hM FrM.rf
          ·
            refine r_iload3 hX dX6_day_62 (q := 63) rfl ?_
            refine r_iload2 hX dX6_day_63 (q := 64) rfl ?_
            refine r_iload4 hX dX6_day_64 (q := 66) rfl ?_
            refine r_isub hX dX6_day_66 (q := 67) rfl ?_
            refine r_iconst hX dX6_day_67 (q := 68) rfl (v := nI 5) (by decide +kernel) ?_
            refine r_idiv hX dX6_day_68 (q := 69) rfl (by first | decide +kernel | assumption) ?_
            refine r_iload2 hX dX6_day_69 (q := 70) rfl ?_
            refine r_iconst hX dX6_day_70 (q := 71) rfl (v := nI 5) (by decide +kernel) ?_
            refine r_idiv hX dX6_day_71 (q := 72) rfl (by first | decide +kernel | assumption) ?_
            refine r_iload1 hX dX6_day_72 (q := 73) rfl ?_
            refine r_isub hX dX6_day_73 (q := 74) rfl ?_
            first | refine r_icmpN_ne hX dX6_day_74 (q := 77) rfl (tgt := 90) (by decide) (by first | omega | decide) (by first | omega | decide) (fun h74 => ?_) (fun h74 => ?_) | refine r_icmp_ne hX dX6_day_74 (q := 77) rfl (tgt := 90) (by decide) (fun h74 => ?_) (fun h74 => ?_)
            ·
              refine r_iconst hX dX6_day_90 (q := 91) rfl (v := nI 0) (by decide +kernel) ?_
              refine r_iadd hX dX6_day_91 (q := 92) rfl ?_
              refine r_istore3 hX dX6_day_92 (q := 93) rfl rfl ?_
              refine r_iincN4 hX dX6_day_93 (q := 96) rfl rfl ?_
              refine r_goto hX dX6_day_96 (tgt := 50) (by decide) ?_
              refine ih50 _ ?_ (k + 1) _ rfl ?_ ?_
              ·
                omega
              ·
                omega
              ·
                rw [he]
                first | exact (if_pos h74).symm | (rw [nI_0, Int32.add_zero]; exact (if_neg h74).symm)
            ·
              refine r_aload0 hX dX6_day_77 (q := 78) rfl ?_
              refine r_getR hX dX6_day_78 (q := 81) rfl fX6_9 rfl ⟨by decide, by decide, rfl⟩ ?_
              refine r_bipush hX dX6_day_81 (q := 83) rfl (v := nI 80) (by decide +kernel) ?_
              refine r_iload4 hX dX6_day_83 (q := 85) rfl ?_
              refine r_iadd hX dX6_day_85 (q := 86) rfl ?_
              refine r_ialdN hX dX6_day_86 (q := 87) rfl rfl (nI_add 80 k) (by omega) (by first | decide | omega) ?_
              rw [hM _ (by omega)]
              refine r_goto hX dX6_day_87 (tgt := 91) (by decide) ?_
              refine r_iadd hX dX6_day_91 (q := 92) rfl ?_
              refine r_istore3 hX dX6_day_92 (q := 93) rfl rfl ?_
              refine r_iincN4 hX dX6_day_93 (q := 96) rfl rfl ?_
              refine r_goto hX dX6_day_96 (tgt := 50) (by decide) ?_
              refine ih50 _ ?_ (k + 1) _ rfl ?_ ?_
              ·
                omega
              ·
                omega
              ·
                rw [he]
                first | exact (if_pos h74).symm | (rw [nI_0, Int32.add_zero]; exact (if_neg h74).symm)
      refine L50 _ 0 _ rfl ?_ ?_
      ·
        exact Nat.zero_le _
      ·
        rfl
    ·
      refine r_aload0 hX dX6_day_29 (q := 30) rfl ?_
      refine r_ldc hX dX6_day_30 (q := 32) rfl qX6_35 ?_
      refine r_callV hX dX6_day_32 (q := 35) rfl (c_X6_finds _ Γ _ _ 3 (by decide) (by decide +kernel)) kX6_36 mlX6_finds mvX6_finds rfl rfl rfl ⟨by decide, rfl⟩ ⟨by decide, by decide⟩ (Nat.le_of_ble_eq_true rfl) (kpI (fun v32 G32 p32 => ?_))
      refine r_iret hX hR dX6_day_35 ?_
      -- leaf 1 at 35
      refine ⟨_, rfl, ?_⟩
      exact MOut.fin (k := 3) ((if_pos h9).trans (if_pos (ec.trans (nz_of (by omega) h26)))) ⟨p32.1.trans (by decide +kernel), p32.2⟩ hM FrM.rf
  ·
    refine r_aload0 hX dX6_day_12 (q := 13) rfl ?_
    refine r_ldc hX dX6_day_13 (q := 15) rfl qX6_34 ?_
    refine r_callV hX dX6_day_15 (q := 18) rfl (c_X6_finds _ Γ _ _ 0 (by decide) (by decide +kernel)) kX6_36 mlX6_finds mvX6_finds rfl rfl rfl ⟨by decide, rfl⟩ ⟨by decide, by decide⟩ (Nat.le_of_ble_eq_true rfl) (kpI (fun v15 G15 p15 => ?_))
    refine r_iret hX hR dX6_day_18 ?_
    -- leaf 2 at 18
    refine ⟨_, rfl, ?_⟩
    exact MOut.fin (k := 0) (if_neg h9) ⟨p15.1.trans (by decide +kernel), p15.2⟩ hM FrM.rf

set_option maxRecDepth 100000 in
set_option maxHeartbeats 4000000 in
theorem c_X6_spread (l : Launch) (Γ : Gam) (G : GG) (μ : MU) (hM : MR G μ) (b : Nat) (hV : Inv b μ) : Sp l yX6_spread cX6_spread 4 (some .int) 1 21 [.ref (gad Γ 47)] Γ G (pI (fun v G' => MOut G μ (oSpread μ) v G')) := by
  refine Sp_of (own := RX6) rfl (by decide +kernel) rfl (Nat.le_of_ble_eq_true rfl) (fun X hX hR => ?_)
  show WP X Γ 0 [some (.ref (gad Γ 47)), none, none, none] [] G
  obtain ⟨s, hs, es, ec⟩ := nb_of hV
  refine r_aload0 hX dX6_spread_0 (q := 1) rfl ?_
  refine r_getR hX dX6_spread_1 (q := 4) rfl fX6_9 rfl ⟨by decide, by decide, rfl⟩ ?_
  refine r_bipush hX dX6_spread_4 (q := 6) rfl (v := nI 9) (by decide +kernel) ?_
  refine r_ialdN hX dX6_spread_6 (q := 7) rfl rfl (by repeat' (first | assumption | with_reducible exact rfl | refine e_add ?_ ?_ | refine e_mul ?_ ?_)) (by first | assumption | omega) (by first | decide | omega) ?_
  rw [hM 9 (by decide), es]
  refine r_if_ne hX dX6_spread_7 (q := 10) rfl (tgt := 17) (by decide) (fun h7 => ?_) (fun h7 => ?_)
  ·
    have s0 : 0 < s := Nat.pos_of_ne_zero (fun q => h7 (by rw [q, nI_0]))
    refine r_aload0 hX dX6_spread_17 (q := 18) rfl ?_
    refine r_getR hX dX6_spread_18 (q := 21) rfl fX6_9 rfl ⟨by decide, by decide, rfl⟩ ?_
    refine r_bipush hX dX6_spread_21 (q := 23) rfl (v := nI 80) (by decide +kernel) ?_
    refine r_ialdN hX dX6_spread_23 (q := 24) rfl rfl (by repeat' (first | assumption | with_reducible exact rfl | refine e_add ?_ ?_ | refine e_mul ?_ ?_)) (by first | assumption | omega) (by first | decide | omega) ?_
    rw [hM 80 (by decide)]
    refine r_istore1 hX dX6_spread_24 (q := 25) rfl rfl ?_
    refine r_aload0 hX dX6_spread_25 (q := 26) rfl ?_
    refine r_getR hX dX6_spread_26 (q := 29) rfl fX6_9 rfl ⟨by decide, by decide, rfl⟩ ?_
    refine r_bipush hX dX6_spread_29 (q := 31) rfl (v := nI 80) (by decide +kernel) ?_
    refine r_ialdN hX dX6_spread_31 (q := 32) rfl rfl (by repeat' (first | assumption | with_reducible exact rfl | refine e_add ?_ ?_ | refine e_mul ?_ ?_)) (by first | assumption | omega) (by first | decide | omega) ?_
    rw [hM 80 (by decide)]
    refine r_istore2 hX dX6_spread_32 (q := 33) rfl rfl ?_
    refine r_iconst hX dX6_spread_33 (q := 34) rfl (v := nI 1) (by decide +kernel) ?_
    refine r_istore3 hX dX6_spread_34 (q := 35) rfl rfl ?_
    have L35 : ∀ (zn35 : Nat) (k : Nat) (e g : Int32), zn35 = s - k → (k < s) → (e = loF μ k) → (g = hiF μ k) → WP X Γ 35 [some (.ref (gad Γ 47)), some (.int e), some (.int g), some (.int (nI (k + 1)))] [] G := by
      intro zn35
      induction zn35 using Nat.strongRecOn with
      | _ zn35 ih35 =>
        intro k e g zh35 hk he hg
        refine r_iload3 hX dX6_spread_35 (q := 36) rfl ?_
        refine r_aload0 hX dX6_spread_36 (q := 37) rfl ?_
        refine r_getR hX dX6_spread_37 (q := 40) rfl fX6_9 rfl ⟨by decide, by decide, rfl⟩ ?_
        refine r_bipush hX dX6_spread_40 (q := 42) rfl (v := nI 9) (by decide +kernel) ?_
        refine r_ialdN hX dX6_spread_42 (q := 43) rfl rfl (by repeat' (first | assumption | with_reducible exact rfl | refine e_add ?_ ?_ | refine e_mul ?_ ?_)) (by first | assumption | omega) (by first | decide | omega) ?_
        rw [hM 9 (by decide), es]
        first | refine r_icmpN_ge hX dX6_spread_43 (q := 46) rfl (tgt := 106) (by decide) (by first | omega | decide) (by first | omega | decide) (fun h43 => ?_) (fun h43 => ?_) | refine r_icmp_ge hX dX6_spread_43 (q := 46) rfl (tgt := 106) (by decide) (fun h43 => ?_) (fun h43 => ?_)
        ·
          refine r_iload2 hX dX6_spread_106 (q := 107) rfl ?_
          refine r_iload1 hX dX6_spread_107 (q := 108) rfl ?_
          refine r_isub hX dX6_spread_108 (q := 109) rfl ?_
          refine r_iret hX hR dX6_spread_109 ?_
          -- leaf 0 at 109
          refine ⟨_, rfl, ?_⟩
          have e0 : s - 1 = k := by omega
          exact MOut.ok (w := hiF μ (cl (μ 9) - 1) - loF μ (cl (μ 9) - 1)) (μ' := μ) (if_neg (by omega)) (by rw [ec, e0, he, hg]) hM FrM.rf
        ·
          refine r_aload0 hX dX6_spread_46 (q := 47) rfl ?_
          refine r_getR hX dX6_spread_47 (q := 50) rfl fX6_9 rfl ⟨by decide, by decide, rfl⟩ ?_
          refine r_bipush hX dX6_spread_50 (q := 52) rfl (v := nI 80) (by decide +kernel) ?_
          refine r_iload3 hX dX6_spread_52 (q := 53) rfl ?_
          refine r_iadd hX dX6_spread_53 (q := 54) rfl ?_
          refine r_ialdN hX dX6_spread_54 (q := 55) rfl rfl (nI_add 80 (k + 1)) (by omega) (by first | decide | omega) ?_
          rw [hM _ (by omega)]
          refine r_iload1 hX dX6_spread_55 (q := 56) rfl ?_
          first | refine r_icmpN_ge hX dX6_spread_56 (q := 59) rfl (tgt := 71) (by decide) (by first | omega | decide) (by first | omega | decide) (fun h56 => ?_) (fun h56 => ?_) | refine r_icmp_ge hX dX6_spread_56 (q := 59) rfl (tgt := 71) (by decide) (fun h56 => ?_) (fun h56 => ?_)
          ·
            refine r_iload1 hX dX6_spread_71 (q := 72) rfl ?_
            refine r_istore1 hX dX6_spread_72 (q := 73) rfl rfl ?_
            refine r_aload0 hX dX6_spread_73 (q := 74) rfl ?_
            refine r_getR hX dX6_spread_74 (q := 77) rfl fX6_9 rfl ⟨by decide, by decide, rfl⟩ ?_
            refine r_bipush hX dX6_spread_77 (q := 79) rfl (v := nI 80) (by decide +kernel) ?_
            refine r_iload3 hX dX6_spread_79 (q := 80) rfl ?_
            refine r_iadd hX dX6_spread_80 (q := 81) rfl ?_
            refine r_ialdN hX dX6_spread_81 (q := 82) rfl rfl (nI_add 80 (k + 1)) (by omega) (by first | decide | omega) ?_
            rw [hM _ (by omega)]
            refine r_iload2 hX dX6_spread_82 (q := 83) rfl ?_
            first | refine r_icmpN_le hX dX6_spread_83 (q := 86) rfl (tgt := 98) (by decide) (by first | omega | decide) (by first | omega | decide) (fun h83 => ?_) (fun h83 => ?_) | refine r_icmp_le hX dX6_spread_83 (q := 86) rfl (tgt := 98) (by decide) (fun h83 => ?_) (fun h83 => ?_)
            ·
              refine r_iload2 hX dX6_spread_98 (q := 99) rfl ?_
              refine r_istore2 hX dX6_spread_99 (q := 100) rfl rfl ?_
              refine r_iincN3 hX dX6_spread_100 (q := 103) rfl rfl ?_
              refine r_goto hX dX6_spread_103 (tgt := 35) (by decide) ?_
              refine ih35 _ ?_ (k + 1) _ _ rfl ?_ ?_ ?_
              ·
                omega
              ·
                omega
              ·
                show _ = imin (loF μ k) (μ (80 + (k + 1)))
                unfold imin
                rw [← he]
                first | exact (if_pos (Int32.not_le.mp h56)).symm | exact (if_neg (Int32.not_lt.mpr h56)).symm
              ·
                show _ = imax (hiF μ k) (μ (80 + (k + 1)))
                unfold imax
                rw [← hg]
                first | exact (if_pos (Int32.not_le.mp h83)).symm | exact (if_neg (Int32.not_lt.mpr h83)).symm
            ·
              refine r_aload0 hX dX6_spread_86 (q := 87) rfl ?_
              refine r_getR hX dX6_spread_87 (q := 90) rfl fX6_9 rfl ⟨by decide, by decide, rfl⟩ ?_
              refine r_bipush hX dX6_spread_90 (q := 92) rfl (v := nI 80) (by decide +kernel) ?_
              refine r_iload3 hX dX6_spread_92 (q := 93) rfl ?_
              refine r_iadd hX dX6_spread_93 (q := 94) rfl ?_
              refine r_ialdN hX dX6_spread_94 (q := 95) rfl rfl (nI_add 80 (k + 1)) (by omega) (by first | decide | omega) ?_
              rw [hM _ (by omega)]
              refine r_goto hX dX6_spread_95 (tgt := 99) (by decide) ?_
              refine r_istore2 hX dX6_spread_99 (q := 100) rfl rfl ?_
              refine r_iincN3 hX dX6_spread_100 (q := 103) rfl rfl ?_
              refine r_goto hX dX6_spread_103 (tgt := 35) (by decide) ?_
              refine ih35 _ ?_ (k + 1) _ _ rfl ?_ ?_ ?_
              ·
                omega
              ·
                omega
              ·
                show _ = imin (loF μ k) (μ (80 + (k + 1)))
                unfold imin
                rw [← he]
                first | exact (if_pos (Int32.not_le.mp h56)).symm | exact (if_neg (Int32.not_lt.mpr h56)).symm
              ·
                show _ = imax (hiF μ k) (μ (80 + (k + 1)))
                unfold imax
                rw [← hg]
                first | exact (if_pos (Int32.not_le.mp h83)).symm | exact (if_neg (Int32.not_lt.mpr h83)).symm
          ·
            refine r_aload0 hX dX6_spread_59 (q := 60) rfl ?_
            refine r_getR hX dX6_spread_60 (q := 63) rfl fX6_9 rfl ⟨by decide, by decide, rfl⟩ ?_
            refine r_bipush hX dX6_spread_63 (q := 65) rfl (v := nI 80) (by decide +kernel) ?_
            refine r_iload3 hX dX6_spread_65 (q := 66) rfl ?_
            refine r_iadd hX dX6_spread_66 (q := 67) rfl ?_
            refine r_ialdN hX dX6_spread_67 (q := 68) rfl rfl (nI_add 80 (k + 1)) (by omega) (by first | decide | omega) ?_
            rw [hM _ (by omega)]
            refine r_goto hX dX6_spread_68 (tgt := 72) (by decide) ?_
            refine r_istore1 hX dX6_spread_72 (q := 73) rfl rfl ?_
            refine r_aload0 hX dX6_spread_73 (q := 74) rfl ?_
            refine r_getR hX dX6_spread_74 (q := 77) rfl fX6_9 rfl ⟨by decide, by decide, rfl⟩ ?_
            refine r_bipush hX dX6_spread_77 (q := 79) rfl (v := nI 80) (by decide +kernel) ?_
            refine r_iload3 hX dX6_spread_79 (q := 80) rfl ?_
            refine r_iadd hX dX6_spread_80 (q := 81) rfl ?_
            refine r_ialdN hX dX6_spread_81 (q := 82) rfl rfl (nI_add 80 (k + 1)) (by omega) (by first | decide | omega) ?_
            rw [hM _ (by omega)]
            refine r_iload2 hX dX6_spread_82 (q := 83) rfl ?_
            first | refine r_icmpN_le hX dX6_spread_83 (q := 86) rfl (tgt := 98) (by decide) (by first | omega | decide) (by first | omega | decide) (fun h83 => ?_) (fun h83 => ?_) | refine r_icmp_le hX dX6_spread_83 (q := 86) rfl (tgt := 98) (by decide) (fun h83 => ?_) (fun h83 => ?_)
            ·
              refine r_iload2 hX dX6_spread_98 (q := 99) rfl ?_
              refine r_istore2 hX dX6_spread_99 (q := 100) rfl rfl ?_
              refine r_iincN3 hX dX6_spread_100 (q := 103) rfl rfl ?_
              refine r_goto hX dX6_spread_103 (tgt := 35) (by decide) ?_
              refine ih35 _ ?_ (k + 1) _ _ rfl ?_ ?_ ?_
              ·
                omega
              ·
                omega
              ·
                show _ = imin (loF μ k) (μ (80 + (k + 1)))
                unfold imin
                rw [← he]
                first | exact (if_pos (Int32.not_le.mp h56)).symm | exact (if_neg (Int32.not_lt.mpr h56)).symm
              ·
                show _ = imax (hiF μ k) (μ (80 + (k + 1)))
                unfold imax
                rw [← hg]
                first | exact (if_pos (Int32.not_le.mp h83)).symm | exact (if_neg (Int32.not_lt.mpr h83)).symm
            ·
              refine r_aload0 hX dX6_spread_86 (q := 87) rfl ?_
              refine r_getR hX dX6_spread_87 (q := 90) rfl fX6_9 rfl ⟨by decide, by decide, rfl⟩ ?_
              refine r_bipush hX dX6_spread_90 (q := 92) rfl (v := nI 80) (by decide +kernel) ?_
              refine r_iload3 hX dX6_spread_92 (q := 93) rfl ?_
              refine r_iadd hX dX6_spread_93 (q := 94) rfl ?_
              refine r_ialdN hX dX6_spread_94 (q := 95) rfl rfl (nI_add 80 (k + 1)) (by omega) (by first | decide | omega) ?_
              rw [hM _ (by omega)]
              refine r_goto hX dX6_spread_95 (tgt := 99) (by decide) ?_
              refine r_istore2 hX dX6_spread_99 (q := 100) rfl rfl ?_
              refine r_iincN3 hX dX6_spread_100 (q := 103) rfl rfl ?_
              refine r_goto hX dX6_spread_103 (tgt := 35) (by decide) ?_
              refine ih35 _ ?_ (k + 1) _ _ rfl ?_ ?_ ?_
              ·
                omega
              ·
                omega
              ·
                show _ = imin (loF μ k) (μ (80 + (k + 1)))
                unfold imin
                rw [← he]
                first | exact (if_pos (Int32.not_le.mp h56)).symm | exact (if_neg (Int32.not_lt.mpr h56)).symm
              ·
                show _ = imax (hiF μ k) (μ (80 + (k + 1)))
                unfold imax
                rw [← hg]
                first | exact (if_pos (Int32.not_le.mp h83)).symm | exact (if_neg (Int32.not_lt.mpr h83)).symm
    refine L35 _ 0 _ _ rfl ?_ ?_ ?_
    ·
      exact s0
    ·
      rfl
    ·
      rfl
  ·
    refine r_aload0 hX dX6_spread_10 (q := 11) rfl ?_
    refine r_ldc hX dX6_spread_11 (q := 13) rfl qX6_35 ?_
    refine r_callV hX dX6_spread_13 (q := 16) rfl (c_X6_finds _ Γ _ _ 3 (by decide) (by decide +kernel)) kX6_36 mlX6_finds mvX6_finds rfl rfl rfl ⟨by decide, rfl⟩ ⟨by decide, by decide⟩ (Nat.le_of_ble_eq_true rfl) (kpI (fun v13 G13 p13 => ?_))
    refine r_iret hX hR dX6_spread_16 ?_
    -- leaf 1 at 16
    refine ⟨_, rfl, ?_⟩
    exact MOut.fin (k := 3) (if_pos (ec.trans (nz_of (by omega) h7))) ⟨p13.1.trans (by decide +kernel), p13.2⟩ hM FrM.rf

set_option maxRecDepth 100000 in
set_option maxHeartbeats 4000000 in
theorem c_X6_wrongMeals (l : Launch) (Γ : Gam) (G : GG) (μ : MU) (hM : MR G μ) (n lo hi : Int32) (g : Bool) : Sp l yX6_wrongMeals cX6_wrongMeals 5 (some .int) 1 25 [.ref (gad Γ 47), .int n, .int lo, .int hi, .int (bi g)] Γ G (eI G (wmF μ n lo hi g)) := by
  refine Sp_of (own := RX6) rfl (by decide +kernel) rfl (Nat.le_of_ble_eq_true rfl) (fun X hX hR => ?_)
  show WP X Γ 0 [some (.ref (gad Γ 47)), some (.int n), some (.int lo), some (.int hi), some (.int (bi g))] [] G
  refine r_iload4 hX dX6_wrongMeals_0 (q := 2) rfl ?_
  first | with_reducible refine r_ifd_eq hX dX6_wrongMeals_2 (q := 5) rfl (tgt := 17) (by decide) (fun h2 => ?_) (fun h2 => ?_) | refine r_ifb_eq hX dX6_wrongMeals_2 (q := 5) rfl (tgt := 17) (by decide) (fun h2 => ?_) (fun h2 => ?_)
  ·
    refine r_ldc hX dX6_wrongMeals_17 (q := 19) rfl qX6_34 ?_
    refine r_goto hX dX6_wrongMeals_19 (tgt := 41) (by decide) ?_
    refine r_iret hX hR dX6_wrongMeals_41 ?_
    -- leaf 0 at 41
    refine ⟨congrArg (fun z => some (Value.int z)) ?_, ?_⟩
    ·
      unfold wmF
      first
        | (rw [if_neg (fun q => by rw [h2] at q; exact absurd q.1 (by decide))]; decide +kernel)
        | (rw [if_neg (fun q => h14 q.2)]; decide +kernel)
        | (rw [if_pos ⟨h2, h14⟩, if_pos h32])
        | (rw [if_pos ⟨h2, h14⟩, if_neg h32]; decide +kernel)
    · rfl
  ·
    refine r_iload1 hX dX6_wrongMeals_5 (q := 6) rfl ?_
    refine r_i2l hX dX6_wrongMeals_6 (q := 7) rfl ?_
    refine r_iload2 hX dX6_wrongMeals_7 (q := 8) rfl ?_
    refine r_i2l hX dX6_wrongMeals_8 (q := 9) rfl ?_
    refine r_iload3 hX dX6_wrongMeals_9 (q := 10) rfl ?_
    refine r_i2l hX dX6_wrongMeals_10 (q := 11) rfl ?_
    refine r_callS hX dX6_wrongMeals_11 (q := 14) rfl (c_X6_in _ Γ _ _ _ _) kX6_42 mlX6_in msX6_in rfl rfl ⟨by decide, by decide⟩ (Nat.le_of_ble_eq_true rfl) (keB ?_)
    first | with_reducible refine r_ifd_ne hX dX6_wrongMeals_14 (q := 17) rfl (tgt := 22) (by decide) (fun h14 => ?_) (fun h14 => ?_) | refine r_ifb_ne hX dX6_wrongMeals_14 (q := 17) rfl (tgt := 22) (by decide) (fun h14 => ?_) (fun h14 => ?_)
    ·
      refine r_aload0 hX dX6_wrongMeals_22 (q := 23) rfl ?_
      refine r_getR hX dX6_wrongMeals_23 (q := 26) rfl fX6_9 rfl ⟨by decide, by decide, rfl⟩ ?_
      refine r_iconst hX dX6_wrongMeals_26 (q := 27) rfl (v := nI 0) (by decide +kernel) ?_
      refine r_ialdN hX dX6_wrongMeals_27 (q := 28) rfl rfl (by repeat' (first | assumption | with_reducible exact rfl | refine e_add ?_ ?_ | refine e_mul ?_ ?_)) (by first | assumption | omega) (by first | decide | omega) ?_
      rw [hM 0 (by decide)]
      refine r_iload1 hX dX6_wrongMeals_28 (q := 29) rfl ?_
      refine r_iadd hX dX6_wrongMeals_29 (q := 30) rfl ?_
      refine r_ldc hX dX6_wrongMeals_30 (q := 32) rfl qX6_134 ?_
      first | refine r_icmpN_le hX dX6_wrongMeals_32 (q := 35) rfl (tgt := 40) (by decide) (by first | omega | decide) (by first | omega | decide) (fun h32 => ?_) (fun h32 => ?_) | refine r_icmp_le hX dX6_wrongMeals_32 (q := 35) rfl (tgt := 40) (by decide) (fun h32 => ?_) (fun h32 => ?_)
      ·
        refine r_iconst hX dX6_wrongMeals_40 (q := 41) rfl (v := nI 0) (by decide +kernel) ?_
        refine r_iret hX hR dX6_wrongMeals_41 ?_
        -- leaf 1 at 41
        refine ⟨congrArg (fun z => some (Value.int z)) ?_, ?_⟩
        ·
          unfold wmF
          first
            | (rw [if_neg (fun q => by rw [h2] at q; exact absurd q.1 (by decide))]; decide +kernel)
            | (rw [if_neg (fun q => h14 q.2)]; decide +kernel)
            | (rw [if_pos ⟨h2, h14⟩, if_pos h32])
            | (rw [if_pos ⟨h2, h14⟩, if_neg h32]; decide +kernel)
        · rfl
      ·
        refine r_ldc hX dX6_wrongMeals_35 (q := 37) rfl qX6_135 ?_
        refine r_goto hX dX6_wrongMeals_37 (tgt := 41) (by decide) ?_
        refine r_iret hX hR dX6_wrongMeals_41 ?_
        -- leaf 2 at 41
        refine ⟨congrArg (fun z => some (Value.int z)) ?_, ?_⟩
        ·
          unfold wmF
          first
            | (rw [if_neg (fun q => by rw [h2] at q; exact absurd q.1 (by decide))]; decide +kernel)
            | (rw [if_neg (fun q => h14 q.2)]; decide +kernel)
            | (rw [if_pos ⟨h2, h14⟩, if_pos h32])
            | (rw [if_pos ⟨h2, h14⟩, if_neg h32]; decide +kernel)
        · rfl
    ·
      refine r_ldc hX dX6_wrongMeals_17 (q := 19) rfl qX6_34 ?_
      refine r_goto hX dX6_wrongMeals_19 (tgt := 41) (by decide) ?_
      refine r_iret hX hR dX6_wrongMeals_41 ?_
      -- leaf 3 at 41
      refine ⟨congrArg (fun z => some (Value.int z)) ?_, ?_⟩
      ·
        unfold wmF
        first
          | (rw [if_neg (fun q => by rw [h2] at q; exact absurd q.1 (by decide))]; decide +kernel)
          | (rw [if_neg (fun q => h14 q.2)]; decide +kernel)
          | (rw [if_pos ⟨h2, h14⟩, if_pos h32])
          | (rw [if_pos ⟨h2, h14⟩, if_neg h32]; decide +kernel)
      · rfl

set_option maxRecDepth 100000 in
set_option maxHeartbeats 4000000 in
theorem c_X6_tasteOf (l : Launch) (Γ : Gam) (G : GG) (μ : MU) (hM : MR G μ) (b : Nat) (hV : Inv b μ) (x w : Int32) : Sp l yX6_tasteOf cX6_tasteOf 3 (some .int) 3 68 [.ref (gad Γ 47), .int x, .int w] Γ G (pI (fun v G' => MOut G μ (oTasteOf μ x w) v G')) := by
  refine Sp_of (own := RX6) rfl (by decide +kernel) rfl (Nat.le_of_ble_eq_true rfl) (fun X hX hR => ?_)
  show WP X Γ 0 [some (.ref (gad Γ 47)), some (.int x), some (.int w)] [] G
  refine r_aload0 hX dX6_tasteOf_0 (q := 1) rfl ?_
  refine r_iload1 hX dX6_tasteOf_1 (q := 2) rfl ?_
  refine r_callV hX dX6_tasteOf_2 (q := 5) rfl (c_X6_isTaste _ Γ _ μ (by assumption) _) kX6_99 mlX6_isTaste mvX6_isTaste rfl rfl rfl ⟨by decide, rfl⟩ ⟨by decide, by decide⟩ (Nat.le_of_ble_eq_true rfl) (keB ?_)
  first | with_reducible refine r_ifd_eq hX dX6_tasteOf_5 (q := 8) rfl (tgt := 20) (by decide) (fun h5 => ?_) (fun h5 => ?_) | refine r_ifb_eq hX dX6_tasteOf_5 (q := 8) rfl (tgt := 20) (by decide) (fun h5 => ?_) (fun h5 => ?_)
  ·
    refine r_aload0 hX dX6_tasteOf_20 (q := 21) rfl ?_
    refine r_ldc hX dX6_tasteOf_21 (q := 23) rfl qX6_34 ?_
    refine r_callV hX dX6_tasteOf_23 (q := 26) rfl (c_X6_finds _ Γ _ _ 0 (by decide) (by decide +kernel)) kX6_36 mlX6_finds mvX6_finds rfl rfl rfl ⟨by decide, rfl⟩ ⟨by decide, by decide⟩ (Nat.le_of_ble_eq_true rfl) (kpI (fun v23 G23 p23 => ?_))
    refine r_iret hX hR dX6_tasteOf_26 ?_
    -- leaf 0 at 26
    refine ⟨_, rfl, ?_⟩
    first
      | (exact MOut.fin (k := 0) (if_neg (fun q => h5 (of_decide_eq_true q.1))) ⟨p23.1.trans (by decide +kernel), p23.2⟩ hM FrM.rf)
      | (exact MOut.fin (k := 0) (if_neg (fun q => h17 q.2)) ⟨p23.1.trans (by decide +kernel), p23.2⟩ hM FrM.rf)
  ·
    have h5t : tsB μ x = true := decide_eq_true h5
    obtain ⟨n, t, hn, ht, hs, rfl⟩ := (ts_of hV).mp h5t
    refine r_iload2 hX dX6_tasteOf_8 (q := 9) rfl ?_
    refine r_i2l hX dX6_tasteOf_9 (q := 10) rfl ?_
    refine r_lconst hX dX6_tasteOf_10 (q := 11) rfl (v := (nI 0).toInt64) (by decide +kernel) ?_
    refine r_ldc2 hX dX6_tasteOf_11 (q := 14) rfl qX6_102 ?_
    refine r_callS hX dX6_tasteOf_14 (q := 17) rfl (c_X6_in _ Γ _ _ _ _) kX6_42 mlX6_in msX6_in rfl rfl ⟨by decide, by decide⟩ (Nat.le_of_ble_eq_true rfl) (keB ?_)
    first | with_reducible refine r_ifd_ne hX dX6_tasteOf_17 (q := 20) rfl (tgt := 27) (by decide) (fun h17 => ?_) (fun h17 => ?_) | refine r_ifb_ne hX dX6_tasteOf_17 (q := 20) rfl (tgt := 27) (by decide) (fun h17 => ?_) (fun h17 => ?_)
    ·
      obtain ⟨wl, we⟩ := ix_of (by decide) h17
      refine r_iload2 hX dX6_tasteOf_27 (q := 28) rfl ?_
      refine r_iconst hX dX6_tasteOf_28 (q := 29) rfl (v := nI 3) (by decide +kernel) ?_
      first | refine r_icmpN_ge hX dX6_tasteOf_29 (q := 32) rfl (tgt := 41) (by decide) (by first | omega | decide) (by first | omega | decide) (fun h29 => ?_) (fun h29 => ?_) | refine r_icmp_ge hX dX6_tasteOf_29 (q := 32) rfl (tgt := 41) (by decide) (fun h29 => ?_) (fun h29 => ?_)
      ·
        refine r_iload2 hX dX6_tasteOf_41 (q := 42) rfl ?_
        refine r_iconst hX dX6_tasteOf_42 (q := 43) rfl (v := nI 3) (by decide +kernel) ?_
        first | refine r_icmpN_ne hX dX6_tasteOf_43 (q := 46) rfl (tgt := 55) (by decide) (by first | omega | decide) (by first | omega | decide) (fun h43 => ?_) (fun h43 => ?_) | refine r_icmp_ne hX dX6_tasteOf_43 (q := 46) rfl (tgt := 55) (by decide) (fun h43 => ?_) (fun h43 => ?_)
        ·
          refine r_aload0 hX dX6_tasteOf_55 (q := 56) rfl ?_
          refine r_iload1 hX dX6_tasteOf_56 (q := 57) rfl ?_
          refine r_iconst hX dX6_tasteOf_57 (q := 58) rfl (v := nI 0) (by decide +kernel) ?_
          refine r_callV hX dX6_tasteOf_58 (q := 61) rfl (c_X6_moves _ Γ _ μ hM b hV _ t rfl (by omega) false) kX6_108 mlX6_moves mvX6_moves rfl rfl rfl ⟨by decide, rfl⟩ ⟨by decide, by decide⟩ (Nat.le_of_ble_eq_true rfl) (keI ?_)
          refine r_iret hX hR dX6_tasteOf_61 ?_
          -- leaf 1 at 61
          refine ⟨_, rfl, ?_⟩
          first
            | exact MOut.ok (w := μ (40 + 3 * t + cl w)) (μ' := μ) (by unfold oTasteOf; rw [if_pos ⟨h5t, h17⟩, if_neg (fun q => h29 (by rw [q]; decide +kernel)), if_neg (fun q => h29 (by rw [q]; decide +kernel)), cl_nI (by omega)]) (hM _ (by omega)) hM FrM.rf
            | exact MOut.ok (w := eatT μ t false) (μ' := μ) (by unfold oTasteOf; rw [if_pos ⟨h5t, h17⟩, if_pos h43, cl_nI (by omega)]) rfl hM FrM.rf
            | (have w4 : w = nI 4 := by
                 rw [we] at h29 h43 ⊢
                 have q1 := (nI_leI (by decide) (by omega)).mp h29
                 have q2 : ¬ cl w = 3 := fun q => h43 (by rw [q])
                 rw [show cl w = 4 by omega]
               exact MOut.ok (w := movT μ t false) (μ' := μ) (by unfold oTasteOf; rw [if_pos ⟨h5t, h17⟩, if_neg h43, if_pos w4, cl_nI (by omega)]) rfl hM FrM.rf)
        ·
          refine r_aload0 hX dX6_tasteOf_46 (q := 47) rfl ?_
          refine r_iload1 hX dX6_tasteOf_47 (q := 48) rfl ?_
          refine r_iconst hX dX6_tasteOf_48 (q := 49) rfl (v := nI 0) (by decide +kernel) ?_
          refine r_callV hX dX6_tasteOf_49 (q := 52) rfl (c_X6_eats _ Γ _ μ hM b hV _ t rfl (by omega) false) kX6_104 mlX6_eats mvX6_eats rfl rfl rfl ⟨by decide, rfl⟩ ⟨by decide, by decide⟩ (Nat.le_of_ble_eq_true rfl) (keI ?_)
          refine r_goto hX dX6_tasteOf_52 (tgt := 61) (by decide) ?_
          refine r_iret hX hR dX6_tasteOf_61 ?_
          -- leaf 2 at 61
          refine ⟨_, rfl, ?_⟩
          first
            | exact MOut.ok (w := μ (40 + 3 * t + cl w)) (μ' := μ) (by unfold oTasteOf; rw [if_pos ⟨h5t, h17⟩, if_neg (fun q => h29 (by rw [q]; decide +kernel)), if_neg (fun q => h29 (by rw [q]; decide +kernel)), cl_nI (by omega)]) (hM _ (by omega)) hM FrM.rf
            | exact MOut.ok (w := eatT μ t false) (μ' := μ) (by unfold oTasteOf; rw [if_pos ⟨h5t, h17⟩, if_pos h43, cl_nI (by omega)]) rfl hM FrM.rf
            | (have w4 : w = nI 4 := by
                 rw [we] at h29 h43 ⊢
                 have q1 := (nI_leI (by decide) (by omega)).mp h29
                 have q2 : ¬ cl w = 3 := fun q => h43 (by rw [q])
                 rw [show cl w = 4 by omega]
               exact MOut.ok (w := movT μ t false) (μ' := μ) (by unfold oTasteOf; rw [if_pos ⟨h5t, h17⟩, if_neg h43, if_pos w4, cl_nI (by omega)]) rfl hM FrM.rf)
      ·
        have w3 : cl w < 3 := by
          rcases Nat.lt_or_ge (cl w) 3 with q | q
          · exact q
          · exact absurd (by rw [we]; exact nI_le q (by omega)) h29
        refine r_aload0 hX dX6_tasteOf_32 (q := 33) rfl ?_
        refine r_iload1 hX dX6_tasteOf_33 (q := 34) rfl ?_
        refine r_iload2 hX dX6_tasteOf_34 (q := 35) rfl ?_
        refine r_callV hX dX6_tasteOf_35 (q := 38) rfl (c_X6_of _ Γ _ _ _ t (cl w) rfl we (by omega) w3) kX6_90 mlX6_of mvX6_of rfl rfl rfl ⟨by decide, rfl⟩ ⟨by decide, by decide⟩ (Nat.le_of_ble_eq_true rfl) (keI ?_)
        refine r_goto hX dX6_tasteOf_38 (tgt := 61) (by decide) ?_
        refine r_iret hX hR dX6_tasteOf_61 ?_
        -- leaf 3 at 61
        refine ⟨_, rfl, ?_⟩
        first
          | exact MOut.ok (w := μ (40 + 3 * t + cl w)) (μ' := μ) (by unfold oTasteOf; rw [if_pos ⟨h5t, h17⟩, if_neg (fun q => h29 (by rw [q]; decide +kernel)), if_neg (fun q => h29 (by rw [q]; decide +kernel)), cl_nI (by omega)]) (hM _ (by omega)) hM FrM.rf
          | exact MOut.ok (w := eatT μ t false) (μ' := μ) (by unfold oTasteOf; rw [if_pos ⟨h5t, h17⟩, if_pos h43, cl_nI (by omega)]) rfl hM FrM.rf
          | (have w4 : w = nI 4 := by
               rw [we] at h29 h43 ⊢
               have q1 := (nI_leI (by decide) (by omega)).mp h29
               have q2 : ¬ cl w = 3 := fun q => h43 (by rw [q])
               rw [show cl w = 4 by omega]
             exact MOut.ok (w := movT μ t false) (μ' := μ) (by unfold oTasteOf; rw [if_pos ⟨h5t, h17⟩, if_neg h43, if_pos w4, cl_nI (by omega)]) rfl hM FrM.rf)
    ·
      refine r_aload0 hX dX6_tasteOf_20 (q := 21) rfl ?_
      refine r_ldc hX dX6_tasteOf_21 (q := 23) rfl qX6_34 ?_
      refine r_callV hX dX6_tasteOf_23 (q := 26) rfl (c_X6_finds _ Γ _ _ 0 (by decide) (by decide +kernel)) kX6_36 mlX6_finds mvX6_finds rfl rfl rfl ⟨by decide, rfl⟩ ⟨by decide, by decide⟩ (Nat.le_of_ble_eq_true rfl) (kpI (fun v23 G23 p23 => ?_))
      refine r_iret hX hR dX6_tasteOf_26 ?_
      -- leaf 4 at 26
      refine ⟨_, rfl, ?_⟩
      first
        | (exact MOut.fin (k := 0) (if_neg (fun q => h5 (of_decide_eq_true q.1))) ⟨p23.1.trans (by decide +kernel), p23.2⟩ hM FrM.rf)
        | (exact MOut.fin (k := 0) (if_neg (fun q => h17 q.2)) ⟨p23.1.trans (by decide +kernel), p23.2⟩ hM FrM.rf)

set_option maxRecDepth 100000 in
set_option maxHeartbeats 4000000 in
theorem c_X6_change (l : Launch) (Γ : Gam) (G : GG) (μ : MU) (hM : MR G μ) (b : Nat) (hV : Inv b μ) (x w u : Int32) : Sp l yX6_change cX6_change 5 (some .int) 2 46 [.ref (gad Γ 47), .int x, .int w, .int u] Γ G (pI (fun v G' => MOut G μ (oChange μ x w u) v G')) := by
  refine Sp_of (own := RX6) rfl (by decide +kernel) rfl (Nat.le_of_ble_eq_true rfl) (fun X hX hR => ?_)
  show WP X Γ 0 [some (.ref (gad Γ 47)), some (.int x), some (.int w), some (.int u), none] [] G
  refine r_iload2 hX dX6_change_0 (q := 1) rfl ?_
  refine r_if_ne hX dX6_change_1 (q := 4) rfl (tgt := 11) (by decide) (fun h1 => ?_) (fun h1 => ?_)
  ·
    refine r_iload2 hX dX6_change_11 (q := 12) rfl ?_
    refine r_iconst hX dX6_change_12 (q := 13) rfl (v := nI 1) (by decide +kernel) ?_
    first | refine r_icmpN_ne hX dX6_change_13 (q := 16) rfl (tgt := 23) (by decide) (by first | omega | decide) (by first | omega | decide) (fun h13 => ?_) (fun h13 => ?_) | refine r_icmp_ne hX dX6_change_13 (q := 16) rfl (tgt := 23) (by decide) (fun h13 => ?_) (fun h13 => ?_)
    ·
      refine r_iload2 hX dX6_change_23 (q := 24) rfl ?_
      refine r_iconst hX dX6_change_24 (q := 25) rfl (v := nI 2) (by decide +kernel) ?_
      first | refine r_icmpN_ne hX dX6_change_25 (q := 28) rfl (tgt := 39) (by decide) (by first | omega | decide) (by first | omega | decide) (fun h25 => ?_) (fun h25 => ?_) | refine r_icmp_ne hX dX6_change_25 (q := 28) rfl (tgt := 39) (by decide) (fun h25 => ?_) (fun h25 => ?_)
      ·
        refine r_iconst hX dX6_change_39 (q := 40) rfl (v := nI 0) (by decide +kernel) ?_
        refine r_istore4 hX dX6_change_40 (q := 42) rfl rfl ?_
        refine r_aload0 hX dX6_change_42 (q := 43) rfl ?_
        refine r_iload1 hX dX6_change_43 (q := 44) rfl ?_
        refine r_callV hX dX6_change_44 (q := 47) rfl (c_X6_isTaste _ Γ _ μ (by assumption) _) kX6_99 mlX6_isTaste mvX6_isTaste rfl rfl rfl ⟨by decide, rfl⟩ ⟨by decide, by decide⟩ (Nat.le_of_ble_eq_true rfl) (keB ?_)
        first | with_reducible refine r_ifd_eq hX dX6_change_47 (q := 50) rfl (tgt := 71) (by decide) (fun h47 => ?_) (fun h47 => ?_) | refine r_ifb_eq hX dX6_change_47 (q := 50) rfl (tgt := 71) (by decide) (fun h47 => ?_) (fun h47 => ?_)
        ·
          refine r_aload0 hX dX6_change_71 (q := 72) rfl ?_
          refine r_ldc hX dX6_change_72 (q := 74) rfl qX6_34 ?_
          refine r_callV hX dX6_change_74 (q := 77) rfl (c_X6_finds _ Γ _ _ 0 (by decide) (by decide +kernel)) kX6_36 mlX6_finds mvX6_finds rfl rfl rfl ⟨by decide, rfl⟩ ⟨by decide, by decide⟩ (Nat.le_of_ble_eq_true rfl) (kpI (fun v74 G74 p74 => ?_))
          refine r_iret hX hR dX6_change_77 ?_
          -- leaf 0 at 77
          refine ⟨_, rfl, ?_⟩
          first
            | (exact MOut.fin (k := 0) (if_neg (fun q => h47 (of_decide_eq_true q.1))) ⟨p74.1.trans (by decide +kernel), p74.2⟩ hM FrM.rf)
            | (exact MOut.fin (k := 0) (if_neg (fun q => h52 (by have z := q.2; rw [ew, low_eq (by decide), top_eq (by decide)] at z; exact z))) ⟨p74.1.trans (by decide +kernel), p74.2⟩ hM FrM.rf)
            | (exact MOut.fin (k := 0) (if_neg (fun q => h32 (by have z := q.2; rw [ew, low_eq (by decide), top_eq (by decide)] at z; exact z))) ⟨p74.1.trans (by decide +kernel), p74.2⟩ hM FrM.rf)
            | (exact MOut.fin (k := 0) (if_neg (fun q => by obtain ⟨j, hj, e⟩ := trait_of q.2; rcases (show j = 0 ∨ j = 1 ∨ j = 2 by omega) with rfl | rfl | rfl; exact h1 (e.trans nI_0); exact h13 e; exact h25 e)) ⟨p74.1.trans (by decide +kernel), p74.2⟩ hM FrM.rf)
            | (have hr : tLow w ≤ u ∧ u ≤ tTop w := by
                 rw [ew, low_eq (by decide), top_eq (by decide)]
                 first | exact h52 | exact h32
               exact MOut.ok (w := μ (40 + 3 * t + cl w)) (μ' := upd μ (40 + 3 * t + cl w) u) (by unfold oChange; rw [if_pos ⟨h47t, hr⟩, cl_nI (by omega)]) (hM _ (by omega)) (hM.u _ _) FrM.rf.up)
        ·
          have h47t : tsB μ x = true := decide_eq_true h47
          obtain ⟨n, t, hn, ht, hs, rfl⟩ := (ts_of hV).mp h47t
          refine r_iload4 hX dX6_change_50 (q := 52) rfl ?_
          refine r_if_eq hX dX6_change_52 (q := 55) rfl (tgt := 71) (by decide) (fun _ => ?_) (fun h => absurd (by decide +kernel) h)
          refine r_aload0 hX dX6_change_71 (q := 72) rfl ?_
          refine r_ldc hX dX6_change_72 (q := 74) rfl qX6_34 ?_
          refine r_callV hX dX6_change_74 (q := 77) rfl (c_X6_finds _ Γ _ _ 0 (by decide) (by decide +kernel)) kX6_36 mlX6_finds mvX6_finds rfl rfl rfl ⟨by decide, rfl⟩ ⟨by decide, by decide⟩ (Nat.le_of_ble_eq_true rfl) (kpI (fun v74 G74 p74 => ?_))
          refine r_iret hX hR dX6_change_77 ?_
          -- leaf 1 at 77
          refine ⟨_, rfl, ?_⟩
          first
            | (exact MOut.fin (k := 0) (if_neg (fun q => h47 (of_decide_eq_true q.1))) ⟨p74.1.trans (by decide +kernel), p74.2⟩ hM FrM.rf)
            | (exact MOut.fin (k := 0) (if_neg (fun q => h52 (by have z := q.2; rw [ew, low_eq (by decide), top_eq (by decide)] at z; exact z))) ⟨p74.1.trans (by decide +kernel), p74.2⟩ hM FrM.rf)
            | (exact MOut.fin (k := 0) (if_neg (fun q => h32 (by have z := q.2; rw [ew, low_eq (by decide), top_eq (by decide)] at z; exact z))) ⟨p74.1.trans (by decide +kernel), p74.2⟩ hM FrM.rf)
            | (exact MOut.fin (k := 0) (if_neg (fun q => by obtain ⟨j, hj, e⟩ := trait_of q.2; rcases (show j = 0 ∨ j = 1 ∨ j = 2 by omega) with rfl | rfl | rfl; exact h1 (e.trans nI_0); exact h13 e; exact h25 e)) ⟨p74.1.trans (by decide +kernel), p74.2⟩ hM FrM.rf)
            | (have hr : tLow w ≤ u ∧ u ≤ tTop w := by
                 rw [ew, low_eq (by decide), top_eq (by decide)]
                 first | exact h52 | exact h32
               exact MOut.ok (w := μ (40 + 3 * t + cl w)) (μ' := upd μ (40 + 3 * t + cl w) u) (by unfold oChange; rw [if_pos ⟨h47t, hr⟩, cl_nI (by omega)]) (hM _ (by omega)) (hM.u _ _) FrM.rf.up)
      ·
        have ew : w = nI 2 := h25
        obtain ⟨wl, we⟩ : cl w < 3 ∧ w = nI (cl w) := by rw [ew]; decide +kernel
        refine r_iload3 hX dX6_change_28 (q := 29) rfl ?_
        refine r_callS hX dX6_change_29 (q := 32) rfl (c_X6_isPut _ Γ _ _) kX6_82 mlX6_isPut msX6_isPut rfl rfl ⟨by decide, by decide⟩ (Nat.le_of_ble_eq_true rfl) (keB ?_)
        first | with_reducible refine r_ifd_eq hX dX6_change_32 (q := 35) rfl (tgt := 39) (by decide) (fun h32 => ?_) (fun h32 => ?_) | refine r_ifb_eq hX dX6_change_32 (q := 35) rfl (tgt := 39) (by decide) (fun h32 => ?_) (fun h32 => ?_)
        ·
          refine r_iconst hX dX6_change_39 (q := 40) rfl (v := nI 0) (by decide +kernel) ?_
          refine r_istore4 hX dX6_change_40 (q := 42) rfl rfl ?_
          refine r_aload0 hX dX6_change_42 (q := 43) rfl ?_
          refine r_iload1 hX dX6_change_43 (q := 44) rfl ?_
          refine r_callV hX dX6_change_44 (q := 47) rfl (c_X6_isTaste _ Γ _ μ (by assumption) _) kX6_99 mlX6_isTaste mvX6_isTaste rfl rfl rfl ⟨by decide, rfl⟩ ⟨by decide, by decide⟩ (Nat.le_of_ble_eq_true rfl) (keB ?_)
          first | with_reducible refine r_ifd_eq hX dX6_change_47 (q := 50) rfl (tgt := 71) (by decide) (fun h47 => ?_) (fun h47 => ?_) | refine r_ifb_eq hX dX6_change_47 (q := 50) rfl (tgt := 71) (by decide) (fun h47 => ?_) (fun h47 => ?_)
          ·
            refine r_aload0 hX dX6_change_71 (q := 72) rfl ?_
            refine r_ldc hX dX6_change_72 (q := 74) rfl qX6_34 ?_
            refine r_callV hX dX6_change_74 (q := 77) rfl (c_X6_finds _ Γ _ _ 0 (by decide) (by decide +kernel)) kX6_36 mlX6_finds mvX6_finds rfl rfl rfl ⟨by decide, rfl⟩ ⟨by decide, by decide⟩ (Nat.le_of_ble_eq_true rfl) (kpI (fun v74 G74 p74 => ?_))
            refine r_iret hX hR dX6_change_77 ?_
            -- leaf 2 at 77
            refine ⟨_, rfl, ?_⟩
            first
              | (exact MOut.fin (k := 0) (if_neg (fun q => h47 (of_decide_eq_true q.1))) ⟨p74.1.trans (by decide +kernel), p74.2⟩ hM FrM.rf)
              | (exact MOut.fin (k := 0) (if_neg (fun q => h52 (by have z := q.2; rw [ew, low_eq (by decide), top_eq (by decide)] at z; exact z))) ⟨p74.1.trans (by decide +kernel), p74.2⟩ hM FrM.rf)
              | (exact MOut.fin (k := 0) (if_neg (fun q => h32 (by have z := q.2; rw [ew, low_eq (by decide), top_eq (by decide)] at z; exact z))) ⟨p74.1.trans (by decide +kernel), p74.2⟩ hM FrM.rf)
              | (exact MOut.fin (k := 0) (if_neg (fun q => by obtain ⟨j, hj, e⟩ := trait_of q.2; rcases (show j = 0 ∨ j = 1 ∨ j = 2 by omega) with rfl | rfl | rfl; exact h1 (e.trans nI_0); exact h13 e; exact h25 e)) ⟨p74.1.trans (by decide +kernel), p74.2⟩ hM FrM.rf)
              | (have hr : tLow w ≤ u ∧ u ≤ tTop w := by
                   rw [ew, low_eq (by decide), top_eq (by decide)]
                   first | exact h52 | exact h32
                 exact MOut.ok (w := μ (40 + 3 * t + cl w)) (μ' := upd μ (40 + 3 * t + cl w) u) (by unfold oChange; rw [if_pos ⟨h47t, hr⟩, cl_nI (by omega)]) (hM _ (by omega)) (hM.u _ _) FrM.rf.up)
          ·
            have h47t : tsB μ x = true := decide_eq_true h47
            obtain ⟨n, t, hn, ht, hs, rfl⟩ := (ts_of hV).mp h47t
            refine r_iload4 hX dX6_change_50 (q := 52) rfl ?_
            refine r_if_eq hX dX6_change_52 (q := 55) rfl (tgt := 71) (by decide) (fun _ => ?_) (fun h => absurd (by decide +kernel) h)
            refine r_aload0 hX dX6_change_71 (q := 72) rfl ?_
            refine r_ldc hX dX6_change_72 (q := 74) rfl qX6_34 ?_
            refine r_callV hX dX6_change_74 (q := 77) rfl (c_X6_finds _ Γ _ _ 0 (by decide) (by decide +kernel)) kX6_36 mlX6_finds mvX6_finds rfl rfl rfl ⟨by decide, rfl⟩ ⟨by decide, by decide⟩ (Nat.le_of_ble_eq_true rfl) (kpI (fun v74 G74 p74 => ?_))
            refine r_iret hX hR dX6_change_77 ?_
            -- leaf 3 at 77
            refine ⟨_, rfl, ?_⟩
            first
              | (exact MOut.fin (k := 0) (if_neg (fun q => h47 (of_decide_eq_true q.1))) ⟨p74.1.trans (by decide +kernel), p74.2⟩ hM FrM.rf)
              | (exact MOut.fin (k := 0) (if_neg (fun q => h52 (by have z := q.2; rw [ew, low_eq (by decide), top_eq (by decide)] at z; exact z))) ⟨p74.1.trans (by decide +kernel), p74.2⟩ hM FrM.rf)
              | (exact MOut.fin (k := 0) (if_neg (fun q => h32 (by have z := q.2; rw [ew, low_eq (by decide), top_eq (by decide)] at z; exact z))) ⟨p74.1.trans (by decide +kernel), p74.2⟩ hM FrM.rf)
              | (exact MOut.fin (k := 0) (if_neg (fun q => by obtain ⟨j, hj, e⟩ := trait_of q.2; rcases (show j = 0 ∨ j = 1 ∨ j = 2 by omega) with rfl | rfl | rfl; exact h1 (e.trans nI_0); exact h13 e; exact h25 e)) ⟨p74.1.trans (by decide +kernel), p74.2⟩ hM FrM.rf)
              | (have hr : tLow w ≤ u ∧ u ≤ tTop w := by
                   rw [ew, low_eq (by decide), top_eq (by decide)]
                   first | exact h52 | exact h32
                 exact MOut.ok (w := μ (40 + 3 * t + cl w)) (μ' := upd μ (40 + 3 * t + cl w) u) (by unfold oChange; rw [if_pos ⟨h47t, hr⟩, cl_nI (by omega)]) (hM _ (by omega)) (hM.u _ _) FrM.rf.up)
        ·
          refine r_iconst hX dX6_change_35 (q := 36) rfl (v := nI 1) (by decide +kernel) ?_
          refine r_goto hX dX6_change_36 (tgt := 40) (by decide) ?_
          refine r_istore4 hX dX6_change_40 (q := 42) rfl rfl ?_
          refine r_aload0 hX dX6_change_42 (q := 43) rfl ?_
          refine r_iload1 hX dX6_change_43 (q := 44) rfl ?_
          refine r_callV hX dX6_change_44 (q := 47) rfl (c_X6_isTaste _ Γ _ μ (by assumption) _) kX6_99 mlX6_isTaste mvX6_isTaste rfl rfl rfl ⟨by decide, rfl⟩ ⟨by decide, by decide⟩ (Nat.le_of_ble_eq_true rfl) (keB ?_)
          first | with_reducible refine r_ifd_eq hX dX6_change_47 (q := 50) rfl (tgt := 71) (by decide) (fun h47 => ?_) (fun h47 => ?_) | refine r_ifb_eq hX dX6_change_47 (q := 50) rfl (tgt := 71) (by decide) (fun h47 => ?_) (fun h47 => ?_)
          ·
            refine r_aload0 hX dX6_change_71 (q := 72) rfl ?_
            refine r_ldc hX dX6_change_72 (q := 74) rfl qX6_34 ?_
            refine r_callV hX dX6_change_74 (q := 77) rfl (c_X6_finds _ Γ _ _ 0 (by decide) (by decide +kernel)) kX6_36 mlX6_finds mvX6_finds rfl rfl rfl ⟨by decide, rfl⟩ ⟨by decide, by decide⟩ (Nat.le_of_ble_eq_true rfl) (kpI (fun v74 G74 p74 => ?_))
            refine r_iret hX hR dX6_change_77 ?_
            -- leaf 4 at 77
            refine ⟨_, rfl, ?_⟩
            first
              | (exact MOut.fin (k := 0) (if_neg (fun q => h47 (of_decide_eq_true q.1))) ⟨p74.1.trans (by decide +kernel), p74.2⟩ hM FrM.rf)
              | (exact MOut.fin (k := 0) (if_neg (fun q => h52 (by have z := q.2; rw [ew, low_eq (by decide), top_eq (by decide)] at z; exact z))) ⟨p74.1.trans (by decide +kernel), p74.2⟩ hM FrM.rf)
              | (exact MOut.fin (k := 0) (if_neg (fun q => h32 (by have z := q.2; rw [ew, low_eq (by decide), top_eq (by decide)] at z; exact z))) ⟨p74.1.trans (by decide +kernel), p74.2⟩ hM FrM.rf)
              | (exact MOut.fin (k := 0) (if_neg (fun q => by obtain ⟨j, hj, e⟩ := trait_of q.2; rcases (show j = 0 ∨ j = 1 ∨ j = 2 by omega) with rfl | rfl | rfl; exact h1 (e.trans nI_0); exact h13 e; exact h25 e)) ⟨p74.1.trans (by decide +kernel), p74.2⟩ hM FrM.rf)
              | (have hr : tLow w ≤ u ∧ u ≤ tTop w := by
                   rw [ew, low_eq (by decide), top_eq (by decide)]
                   first | exact h52 | exact h32
                 exact MOut.ok (w := μ (40 + 3 * t + cl w)) (μ' := upd μ (40 + 3 * t + cl w) u) (by unfold oChange; rw [if_pos ⟨h47t, hr⟩, cl_nI (by omega)]) (hM _ (by omega)) (hM.u _ _) FrM.rf.up)
          ·
            have h47t : tsB μ x = true := decide_eq_true h47
            obtain ⟨n, t, hn, ht, hs, rfl⟩ := (ts_of hV).mp h47t
            refine r_iload4 hX dX6_change_50 (q := 52) rfl ?_
            refine r_if_eq hX dX6_change_52 (q := 55) rfl (tgt := 71) (by decide) (fun h => absurd h (by decide +kernel)) (fun _ => ?_)
            refine r_aload0 hX dX6_change_55 (q := 56) rfl ?_
            refine r_bipush hX dX6_change_56 (q := 58) rfl (v := nI 40) (by decide +kernel) ?_
            refine r_iconst hX dX6_change_58 (q := 59) rfl (v := nI 3) (by decide +kernel) ?_
            refine r_iload1 hX dX6_change_59 (q := 60) rfl ?_
            refine r_imul hX dX6_change_60 (q := 61) rfl ?_
            refine r_iadd hX dX6_change_61 (q := 62) rfl ?_
            refine r_iload2 hX dX6_change_62 (q := 63) rfl ?_
            refine r_iadd hX dX6_change_63 (q := 64) rfl ?_
            refine r_iload3 hX dX6_change_64 (q := 65) rfl ?_
            refine r_callV hX dX6_change_65 (q := 68) rfl (c_X6_becomes _ Γ _ (40 + 3 * t + cl w) (by omega) _ _ (e_add (e_add rfl (e_mul rfl rfl)) we)) kX6_59 mlX6_becomes mvX6_becomes rfl rfl rfl ⟨by decide, rfl⟩ ⟨by decide, by decide⟩ (Nat.le_of_ble_eq_true rfl) (keI ?_)
            refine r_goto hX dX6_change_68 (tgt := 77) (by decide) ?_
            refine r_iret hX hR dX6_change_77 ?_
            -- leaf 5 at 77
            refine ⟨_, rfl, ?_⟩
            first
              | (exact MOut.fin (k := 0) (if_neg (fun q => h47 (of_decide_eq_true q.1))) ⟨p74.1.trans (by decide +kernel), p74.2⟩ hM FrM.rf)
              | (exact MOut.fin (k := 0) (if_neg (fun q => h52 (by have z := q.2; rw [ew, low_eq (by decide), top_eq (by decide)] at z; exact z))) ⟨p74.1.trans (by decide +kernel), p74.2⟩ hM FrM.rf)
              | (exact MOut.fin (k := 0) (if_neg (fun q => h32 (by have z := q.2; rw [ew, low_eq (by decide), top_eq (by decide)] at z; exact z))) ⟨p74.1.trans (by decide +kernel), p74.2⟩ hM FrM.rf)
              | (exact MOut.fin (k := 0) (if_neg (fun q => by obtain ⟨j, hj, e⟩ := trait_of q.2; rcases (show j = 0 ∨ j = 1 ∨ j = 2 by omega) with rfl | rfl | rfl; exact h1 (e.trans nI_0); exact h13 e; exact h25 e)) ⟨p74.1.trans (by decide +kernel), p74.2⟩ hM FrM.rf)
              | (have hr : tLow w ≤ u ∧ u ≤ tTop w := by
                   rw [ew, low_eq (by decide), top_eq (by decide)]
                   first | exact h52 | exact h32
                 exact MOut.ok (w := μ (40 + 3 * t + cl w)) (μ' := upd μ (40 + 3 * t + cl w) u) (by unfold oChange; rw [if_pos ⟨h47t, hr⟩, cl_nI (by omega)]) (hM _ (by omega)) (hM.u _ _) FrM.rf.up)
    ·
      have ew : w = nI 1 := h13
      obtain ⟨wl, we⟩ : cl w < 3 ∧ w = nI (cl w) := by rw [ew]; decide +kernel
      refine r_iload3 hX dX6_change_16 (q := 17) rfl ?_
      refine r_callS hX dX6_change_17 (q := 20) rfl (c_X6_isFood _ Γ _ _) kX6_55 mlX6_isFood msX6_isFood rfl rfl ⟨by decide, by decide⟩ (Nat.le_of_ble_eq_true rfl) (keB ?_)
      refine r_goto hX dX6_change_20 (tgt := 40) (by decide) ?_
      refine r_istore4 hX dX6_change_40 (q := 42) rfl rfl ?_
      refine r_aload0 hX dX6_change_42 (q := 43) rfl ?_
      refine r_iload1 hX dX6_change_43 (q := 44) rfl ?_
      refine r_callV hX dX6_change_44 (q := 47) rfl (c_X6_isTaste _ Γ _ μ (by assumption) _) kX6_99 mlX6_isTaste mvX6_isTaste rfl rfl rfl ⟨by decide, rfl⟩ ⟨by decide, by decide⟩ (Nat.le_of_ble_eq_true rfl) (keB ?_)
      first | with_reducible refine r_ifd_eq hX dX6_change_47 (q := 50) rfl (tgt := 71) (by decide) (fun h47 => ?_) (fun h47 => ?_) | refine r_ifb_eq hX dX6_change_47 (q := 50) rfl (tgt := 71) (by decide) (fun h47 => ?_) (fun h47 => ?_)
      ·
        refine r_aload0 hX dX6_change_71 (q := 72) rfl ?_
        refine r_ldc hX dX6_change_72 (q := 74) rfl qX6_34 ?_
        refine r_callV hX dX6_change_74 (q := 77) rfl (c_X6_finds _ Γ _ _ 0 (by decide) (by decide +kernel)) kX6_36 mlX6_finds mvX6_finds rfl rfl rfl ⟨by decide, rfl⟩ ⟨by decide, by decide⟩ (Nat.le_of_ble_eq_true rfl) (kpI (fun v74 G74 p74 => ?_))
        refine r_iret hX hR dX6_change_77 ?_
        -- leaf 6 at 77
        refine ⟨_, rfl, ?_⟩
        first
          | (exact MOut.fin (k := 0) (if_neg (fun q => h47 (of_decide_eq_true q.1))) ⟨p74.1.trans (by decide +kernel), p74.2⟩ hM FrM.rf)
          | (exact MOut.fin (k := 0) (if_neg (fun q => h52 (by have z := q.2; rw [ew, low_eq (by decide), top_eq (by decide)] at z; exact z))) ⟨p74.1.trans (by decide +kernel), p74.2⟩ hM FrM.rf)
          | (exact MOut.fin (k := 0) (if_neg (fun q => h32 (by have z := q.2; rw [ew, low_eq (by decide), top_eq (by decide)] at z; exact z))) ⟨p74.1.trans (by decide +kernel), p74.2⟩ hM FrM.rf)
          | (exact MOut.fin (k := 0) (if_neg (fun q => by obtain ⟨j, hj, e⟩ := trait_of q.2; rcases (show j = 0 ∨ j = 1 ∨ j = 2 by omega) with rfl | rfl | rfl; exact h1 (e.trans nI_0); exact h13 e; exact h25 e)) ⟨p74.1.trans (by decide +kernel), p74.2⟩ hM FrM.rf)
          | (have hr : tLow w ≤ u ∧ u ≤ tTop w := by
               rw [ew, low_eq (by decide), top_eq (by decide)]
               first | exact h52 | exact h32
             exact MOut.ok (w := μ (40 + 3 * t + cl w)) (μ' := upd μ (40 + 3 * t + cl w) u) (by unfold oChange; rw [if_pos ⟨h47t, hr⟩, cl_nI (by omega)]) (hM _ (by omega)) (hM.u _ _) FrM.rf.up)
      ·
        have h47t : tsB μ x = true := decide_eq_true h47
        obtain ⟨n, t, hn, ht, hs, rfl⟩ := (ts_of hV).mp h47t
        refine r_iload4 hX dX6_change_50 (q := 52) rfl ?_
        first | with_reducible refine r_ifd_eq hX dX6_change_52 (q := 55) rfl (tgt := 71) (by decide) (fun h52 => ?_) (fun h52 => ?_) | refine r_ifb_eq hX dX6_change_52 (q := 55) rfl (tgt := 71) (by decide) (fun h52 => ?_) (fun h52 => ?_)
        ·
          refine r_aload0 hX dX6_change_71 (q := 72) rfl ?_
          refine r_ldc hX dX6_change_72 (q := 74) rfl qX6_34 ?_
          refine r_callV hX dX6_change_74 (q := 77) rfl (c_X6_finds _ Γ _ _ 0 (by decide) (by decide +kernel)) kX6_36 mlX6_finds mvX6_finds rfl rfl rfl ⟨by decide, rfl⟩ ⟨by decide, by decide⟩ (Nat.le_of_ble_eq_true rfl) (kpI (fun v74 G74 p74 => ?_))
          refine r_iret hX hR dX6_change_77 ?_
          -- leaf 7 at 77
          refine ⟨_, rfl, ?_⟩
          first
            | (exact MOut.fin (k := 0) (if_neg (fun q => h47 (of_decide_eq_true q.1))) ⟨p74.1.trans (by decide +kernel), p74.2⟩ hM FrM.rf)
            | (exact MOut.fin (k := 0) (if_neg (fun q => h52 (by have z := q.2; rw [ew, low_eq (by decide), top_eq (by decide)] at z; exact z))) ⟨p74.1.trans (by decide +kernel), p74.2⟩ hM FrM.rf)
            | (exact MOut.fin (k := 0) (if_neg (fun q => h32 (by have z := q.2; rw [ew, low_eq (by decide), top_eq (by decide)] at z; exact z))) ⟨p74.1.trans (by decide +kernel), p74.2⟩ hM FrM.rf)
            | (exact MOut.fin (k := 0) (if_neg (fun q => by obtain ⟨j, hj, e⟩ := trait_of q.2; rcases (show j = 0 ∨ j = 1 ∨ j = 2 by omega) with rfl | rfl | rfl; exact h1 (e.trans nI_0); exact h13 e; exact h25 e)) ⟨p74.1.trans (by decide +kernel), p74.2⟩ hM FrM.rf)
            | (have hr : tLow w ≤ u ∧ u ≤ tTop w := by
                 rw [ew, low_eq (by decide), top_eq (by decide)]
                 first | exact h52 | exact h32
               exact MOut.ok (w := μ (40 + 3 * t + cl w)) (μ' := upd μ (40 + 3 * t + cl w) u) (by unfold oChange; rw [if_pos ⟨h47t, hr⟩, cl_nI (by omega)]) (hM _ (by omega)) (hM.u _ _) FrM.rf.up)
        ·
          refine r_aload0 hX dX6_change_55 (q := 56) rfl ?_
          refine r_bipush hX dX6_change_56 (q := 58) rfl (v := nI 40) (by decide +kernel) ?_
          refine r_iconst hX dX6_change_58 (q := 59) rfl (v := nI 3) (by decide +kernel) ?_
          refine r_iload1 hX dX6_change_59 (q := 60) rfl ?_
          refine r_imul hX dX6_change_60 (q := 61) rfl ?_
          refine r_iadd hX dX6_change_61 (q := 62) rfl ?_
          refine r_iload2 hX dX6_change_62 (q := 63) rfl ?_
          refine r_iadd hX dX6_change_63 (q := 64) rfl ?_
          refine r_iload3 hX dX6_change_64 (q := 65) rfl ?_
          refine r_callV hX dX6_change_65 (q := 68) rfl (c_X6_becomes _ Γ _ (40 + 3 * t + cl w) (by omega) _ _ (e_add (e_add rfl (e_mul rfl rfl)) we)) kX6_59 mlX6_becomes mvX6_becomes rfl rfl rfl ⟨by decide, rfl⟩ ⟨by decide, by decide⟩ (Nat.le_of_ble_eq_true rfl) (keI ?_)
          refine r_goto hX dX6_change_68 (tgt := 77) (by decide) ?_
          refine r_iret hX hR dX6_change_77 ?_
          -- leaf 8 at 77
          refine ⟨_, rfl, ?_⟩
          first
            | (exact MOut.fin (k := 0) (if_neg (fun q => h47 (of_decide_eq_true q.1))) ⟨p74.1.trans (by decide +kernel), p74.2⟩ hM FrM.rf)
            | (exact MOut.fin (k := 0) (if_neg (fun q => h52 (by have z := q.2; rw [ew, low_eq (by decide), top_eq (by decide)] at z; exact z))) ⟨p74.1.trans (by decide +kernel), p74.2⟩ hM FrM.rf)
            | (exact MOut.fin (k := 0) (if_neg (fun q => h32 (by have z := q.2; rw [ew, low_eq (by decide), top_eq (by decide)] at z; exact z))) ⟨p74.1.trans (by decide +kernel), p74.2⟩ hM FrM.rf)
            | (exact MOut.fin (k := 0) (if_neg (fun q => by obtain ⟨j, hj, e⟩ := trait_of q.2; rcases (show j = 0 ∨ j = 1 ∨ j = 2 by omega) with rfl | rfl | rfl; exact h1 (e.trans nI_0); exact h13 e; exact h25 e)) ⟨p74.1.trans (by decide +kernel), p74.2⟩ hM FrM.rf)
            | (have hr : tLow w ≤ u ∧ u ≤ tTop w := by
                 rw [ew, low_eq (by decide), top_eq (by decide)]
                 first | exact h52 | exact h32
               exact MOut.ok (w := μ (40 + 3 * t + cl w)) (μ' := upd μ (40 + 3 * t + cl w) u) (by unfold oChange; rw [if_pos ⟨h47t, hr⟩, cl_nI (by omega)]) (hM _ (by omega)) (hM.u _ _) FrM.rf.up)
  ·
    have ew : w = nI 0 := h1.trans nI_0.symm
    obtain ⟨wl, we⟩ : cl w < 3 ∧ w = nI (cl w) := by rw [ew]; decide +kernel
    refine r_iload3 hX dX6_change_4 (q := 5) rfl ?_
    refine r_callS hX dX6_change_5 (q := 8) rfl (c_X6_isKind _ Γ _ _) kX6_79 mlX6_isKind msX6_isKind rfl rfl ⟨by decide, by decide⟩ (Nat.le_of_ble_eq_true rfl) (keB ?_)
    refine r_goto hX dX6_change_8 (tgt := 40) (by decide) ?_
    refine r_istore4 hX dX6_change_40 (q := 42) rfl rfl ?_
    refine r_aload0 hX dX6_change_42 (q := 43) rfl ?_
    refine r_iload1 hX dX6_change_43 (q := 44) rfl ?_
    refine r_callV hX dX6_change_44 (q := 47) rfl (c_X6_isTaste _ Γ _ μ (by assumption) _) kX6_99 mlX6_isTaste mvX6_isTaste rfl rfl rfl ⟨by decide, rfl⟩ ⟨by decide, by decide⟩ (Nat.le_of_ble_eq_true rfl) (keB ?_)
    first | with_reducible refine r_ifd_eq hX dX6_change_47 (q := 50) rfl (tgt := 71) (by decide) (fun h47 => ?_) (fun h47 => ?_) | refine r_ifb_eq hX dX6_change_47 (q := 50) rfl (tgt := 71) (by decide) (fun h47 => ?_) (fun h47 => ?_)
    ·
      refine r_aload0 hX dX6_change_71 (q := 72) rfl ?_
      refine r_ldc hX dX6_change_72 (q := 74) rfl qX6_34 ?_
      refine r_callV hX dX6_change_74 (q := 77) rfl (c_X6_finds _ Γ _ _ 0 (by decide) (by decide +kernel)) kX6_36 mlX6_finds mvX6_finds rfl rfl rfl ⟨by decide, rfl⟩ ⟨by decide, by decide⟩ (Nat.le_of_ble_eq_true rfl) (kpI (fun v74 G74 p74 => ?_))
      refine r_iret hX hR dX6_change_77 ?_
      -- leaf 9 at 77
      refine ⟨_, rfl, ?_⟩
      first
        | (exact MOut.fin (k := 0) (if_neg (fun q => h47 (of_decide_eq_true q.1))) ⟨p74.1.trans (by decide +kernel), p74.2⟩ hM FrM.rf)
        | (exact MOut.fin (k := 0) (if_neg (fun q => h52 (by have z := q.2; rw [ew, low_eq (by decide), top_eq (by decide)] at z; exact z))) ⟨p74.1.trans (by decide +kernel), p74.2⟩ hM FrM.rf)
        | (exact MOut.fin (k := 0) (if_neg (fun q => h32 (by have z := q.2; rw [ew, low_eq (by decide), top_eq (by decide)] at z; exact z))) ⟨p74.1.trans (by decide +kernel), p74.2⟩ hM FrM.rf)
        | (exact MOut.fin (k := 0) (if_neg (fun q => by obtain ⟨j, hj, e⟩ := trait_of q.2; rcases (show j = 0 ∨ j = 1 ∨ j = 2 by omega) with rfl | rfl | rfl; exact h1 (e.trans nI_0); exact h13 e; exact h25 e)) ⟨p74.1.trans (by decide +kernel), p74.2⟩ hM FrM.rf)
        | (have hr : tLow w ≤ u ∧ u ≤ tTop w := by
             rw [ew, low_eq (by decide), top_eq (by decide)]
             first | exact h52 | exact h32
           exact MOut.ok (w := μ (40 + 3 * t + cl w)) (μ' := upd μ (40 + 3 * t + cl w) u) (by unfold oChange; rw [if_pos ⟨h47t, hr⟩, cl_nI (by omega)]) (hM _ (by omega)) (hM.u _ _) FrM.rf.up)
    ·
      have h47t : tsB μ x = true := decide_eq_true h47
      obtain ⟨n, t, hn, ht, hs, rfl⟩ := (ts_of hV).mp h47t
      refine r_iload4 hX dX6_change_50 (q := 52) rfl ?_
      first | with_reducible refine r_ifd_eq hX dX6_change_52 (q := 55) rfl (tgt := 71) (by decide) (fun h52 => ?_) (fun h52 => ?_) | refine r_ifb_eq hX dX6_change_52 (q := 55) rfl (tgt := 71) (by decide) (fun h52 => ?_) (fun h52 => ?_)
      ·
        refine r_aload0 hX dX6_change_71 (q := 72) rfl ?_
        refine r_ldc hX dX6_change_72 (q := 74) rfl qX6_34 ?_
        refine r_callV hX dX6_change_74 (q := 77) rfl (c_X6_finds _ Γ _ _ 0 (by decide) (by decide +kernel)) kX6_36 mlX6_finds mvX6_finds rfl rfl rfl ⟨by decide, rfl⟩ ⟨by decide, by decide⟩ (Nat.le_of_ble_eq_true rfl) (kpI (fun v74 G74 p74 => ?_))
        refine r_iret hX hR dX6_change_77 ?_
        -- leaf 10 at 77
        refine ⟨_, rfl, ?_⟩
        first
          | (exact MOut.fin (k := 0) (if_neg (fun q => h47 (of_decide_eq_true q.1))) ⟨p74.1.trans (by decide +kernel), p74.2⟩ hM FrM.rf)
          | (exact MOut.fin (k := 0) (if_neg (fun q => h52 (by have z := q.2; rw [ew, low_eq (by decide), top_eq (by decide)] at z; exact z))) ⟨p74.1.trans (by decide +kernel), p74.2⟩ hM FrM.rf)
          | (exact MOut.fin (k := 0) (if_neg (fun q => h32 (by have z := q.2; rw [ew, low_eq (by decide), top_eq (by decide)] at z; exact z))) ⟨p74.1.trans (by decide +kernel), p74.2⟩ hM FrM.rf)
          | (exact MOut.fin (k := 0) (if_neg (fun q => by obtain ⟨j, hj, e⟩ := trait_of q.2; rcases (show j = 0 ∨ j = 1 ∨ j = 2 by omega) with rfl | rfl | rfl; exact h1 (e.trans nI_0); exact h13 e; exact h25 e)) ⟨p74.1.trans (by decide +kernel), p74.2⟩ hM FrM.rf)
          | (have hr : tLow w ≤ u ∧ u ≤ tTop w := by
               rw [ew, low_eq (by decide), top_eq (by decide)]
               first | exact h52 | exact h32
             exact MOut.ok (w := μ (40 + 3 * t + cl w)) (μ' := upd μ (40 + 3 * t + cl w) u) (by unfold oChange; rw [if_pos ⟨h47t, hr⟩, cl_nI (by omega)]) (hM _ (by omega)) (hM.u _ _) FrM.rf.up)
      ·
        refine r_aload0 hX dX6_change_55 (q := 56) rfl ?_
        refine r_bipush hX dX6_change_56 (q := 58) rfl (v := nI 40) (by decide +kernel) ?_
        refine r_iconst hX dX6_change_58 (q := 59) rfl (v := nI 3) (by decide +kernel) ?_
        refine r_iload1 hX dX6_change_59 (q := 60) rfl ?_
        refine r_imul hX dX6_change_60 (q := 61) rfl ?_
        refine r_iadd hX dX6_change_61 (q := 62) rfl ?_
        refine r_iload2 hX dX6_change_62 (q := 63) rfl ?_
        refine r_iadd hX dX6_change_63 (q := 64) rfl ?_
        refine r_iload3 hX dX6_change_64 (q := 65) rfl ?_
        refine r_callV hX dX6_change_65 (q := 68) rfl (c_X6_becomes _ Γ _ (40 + 3 * t + cl w) (by omega) _ _ (e_add (e_add rfl (e_mul rfl rfl)) we)) kX6_59 mlX6_becomes mvX6_becomes rfl rfl rfl ⟨by decide, rfl⟩ ⟨by decide, by decide⟩ (Nat.le_of_ble_eq_true rfl) (keI ?_)
        refine r_goto hX dX6_change_68 (tgt := 77) (by decide) ?_
        refine r_iret hX hR dX6_change_77 ?_
        -- leaf 11 at 77
        refine ⟨_, rfl, ?_⟩
        first
          | (exact MOut.fin (k := 0) (if_neg (fun q => h47 (of_decide_eq_true q.1))) ⟨p74.1.trans (by decide +kernel), p74.2⟩ hM FrM.rf)
          | (exact MOut.fin (k := 0) (if_neg (fun q => h52 (by have z := q.2; rw [ew, low_eq (by decide), top_eq (by decide)] at z; exact z))) ⟨p74.1.trans (by decide +kernel), p74.2⟩ hM FrM.rf)
          | (exact MOut.fin (k := 0) (if_neg (fun q => h32 (by have z := q.2; rw [ew, low_eq (by decide), top_eq (by decide)] at z; exact z))) ⟨p74.1.trans (by decide +kernel), p74.2⟩ hM FrM.rf)
          | (exact MOut.fin (k := 0) (if_neg (fun q => by obtain ⟨j, hj, e⟩ := trait_of q.2; rcases (show j = 0 ∨ j = 1 ∨ j = 2 by omega) with rfl | rfl | rfl; exact h1 (e.trans nI_0); exact h13 e; exact h25 e)) ⟨p74.1.trans (by decide +kernel), p74.2⟩ hM FrM.rf)
          | (have hr : tLow w ≤ u ∧ u ≤ tTop w := by
               rw [ew, low_eq (by decide), top_eq (by decide)]
               first | exact h52 | exact h32
             exact MOut.ok (w := μ (40 + 3 * t + cl w)) (μ' := upd μ (40 + 3 * t + cl w) u) (by unfold oChange; rw [if_pos ⟨h47t, hr⟩, cl_nI (by omega)]) (hM _ (by omega)) (hM.u _ _) FrM.rf.up)

set_option maxRecDepth 100000 in
set_option maxHeartbeats 4000000 in
theorem c_X6_swaps (l : Launch) (Γ : Gam) (G : GG) (μ : MU) (hM : MR G μ) (x y : Int32) (t u : Nat) (hx : x = nI t) (hy : y = nI u) (ht : t < 10) (hu : u < 10) : Sp l yX6_swaps cX6_swaps 4 none 1 23 [.ref (gad Γ 47), .int x, .int y] Γ G (pV (fun G' => MR G' (swM μ t u) ∧ FrN G G')) := by
  refine Sp_of (own := RX6) rfl (by decide +kernel) rfl (Nat.le_of_ble_eq_true rfl) (fun X hX hR => ?_)
  show WP X Γ 0 [some (.ref (gad Γ 47)), some (.int x), some (.int y), none] [] G
  subst hx
  subst hy
  refine r_iconst hX dX6_swaps_0 (q := 1) rfl (v := nI 0) (by decide +kernel) ?_
  refine r_istore3 hX dX6_swaps_1 (q := 2) rfl rfl ?_
  have L2 : ∀ (zn2 : Nat) (k : Nat) (G1 : GG), zn2 = 3 - k → (k ≤ 3) → (MR G1 (swK μ t u k)) → (FrN G G1) → WP X Γ 2 [some (.ref (gad Γ 47)), some (.int (nI t)), some (.int (nI u)), some (.int (nI k))] [] G1 := by
    intro zn2
    induction zn2 using Nat.strongRecOn with
    | _ zn2 ih2 =>
      intro k G1 zh2 hk h1 hF
      refine r_iload3 hX dX6_swaps_2 (q := 3) rfl ?_
      refine r_iconst hX dX6_swaps_3 (q := 4) rfl (v := nI 3) (by decide +kernel) ?_
      refine r_icmpN_ge hX dX6_swaps_4 (q := 7) rfl (tgt := 44) (by decide) (by first | omega | decide) (by first | omega | decide) (fun h4 => ?_) (fun h4 => ?_)
      ·
        refine r_vret hX hR dX6_swaps_44 ?_
        -- leaf 0 at 44
        refine ⟨rfl, ?_⟩
        have e0 : k = 3 := by omega
        subst e0
        exact ⟨h1.cg swK_3, hF⟩
      ·
        refine r_aload0 hX dX6_swaps_7 (q := 8) rfl ?_
        refine r_getR hX dX6_swaps_8 (q := 11) rfl fX6_9 rfl ⟨by decide, by decide, rfl⟩ ?_
        refine r_bipush hX dX6_swaps_11 (q := 13) rfl (v := nI 40) (by decide +kernel) ?_
        refine r_iconst hX dX6_swaps_13 (q := 14) rfl (v := nI 3) (by decide +kernel) ?_
        refine r_iload2 hX dX6_swaps_14 (q := 15) rfl ?_
        refine r_imul hX dX6_swaps_15 (q := 16) rfl ?_
        refine r_iadd hX dX6_swaps_16 (q := 17) rfl ?_
        refine r_iload3 hX dX6_swaps_17 (q := 18) rfl ?_
        refine r_iadd hX dX6_swaps_18 (q := 19) rfl ?_
        refine r_aload0 hX dX6_swaps_19 (q := 20) rfl ?_
        refine r_bipush hX dX6_swaps_20 (q := 22) rfl (v := nI 40) (by decide +kernel) ?_
        refine r_iconst hX dX6_swaps_22 (q := 23) rfl (v := nI 3) (by decide +kernel) ?_
        refine r_iload1 hX dX6_swaps_23 (q := 24) rfl ?_
        refine r_imul hX dX6_swaps_24 (q := 25) rfl ?_
        refine r_iadd hX dX6_swaps_25 (q := 26) rfl ?_
        refine r_iload3 hX dX6_swaps_26 (q := 27) rfl ?_
        refine r_iadd hX dX6_swaps_27 (q := 28) rfl ?_
        refine r_aload0 hX dX6_swaps_28 (q := 29) rfl ?_
        refine r_iload2 hX dX6_swaps_29 (q := 30) rfl ?_
        refine r_iload3 hX dX6_swaps_30 (q := 31) rfl ?_
        refine r_callV hX dX6_swaps_31 (q := 34) rfl (c_X6_of _ Γ _ _ _ u k rfl rfl hu (by omega)) kX6_90 mlX6_of mvX6_of rfl rfl rfl ⟨by decide, rfl⟩ ⟨by decide, by decide⟩ (Nat.le_of_ble_eq_true rfl) (keI ?_)
        refine r_callV hX dX6_swaps_34 (q := 37) rfl (c_X6_becomes _ Γ _ (40 + 3 * t + k) (by omega) _ _ (e_add (e_add rfl (e_mul rfl rfl)) rfl)) kX6_59 mlX6_becomes mvX6_becomes rfl rfl rfl ⟨by decide, rfl⟩ ⟨by decide, by decide⟩ (Nat.le_of_ble_eq_true rfl) (keI ?_)
        refine r_iastN hX dX6_swaps_37 (q := 38) rfl rfl (e_add (e_add rfl (e_mul rfl rfl)) rfl) (by omega) (by first | decide | omega) ?_
        refine r_iincN3 hX dX6_swaps_38 (q := 41) rfl rfl ?_
        refine r_goto hX dX6_swaps_41 (tgt := 2) (by decide) ?_
        refine ih2 _ ?_ (k + 1) _ rfl ?_ ?_ ?_
        ·
          omega
        ·
          omega
        ·
          rw [h1 (40 + 3 * t + k) (by omega), h1 (40 + 3 * u + k) (by omega)]
          exact (h1.u _ _).u _ _
        ·
          exact hF.up.up
  refine L2 _ 0 _ rfl ?_ ?_ ?_
  ·
    exact Nat.zero_le _
  ·
    exact hM
  ·
    exact FrN.rf

set_option maxRecDepth 100000 in
set_option maxHeartbeats 4000000 in
theorem c_X6_swap (l : Launch) (Γ : Gam) (G : GG) (μ : MU) (hM : MR G μ) (b : Nat) (hV : Inv b μ) (x y : Int32) : Sp l yX6_swap cX6_swap 3 (some .int) 2 46 [.ref (gad Γ 47), .int x, .int y] Γ G (pI (fun v G' => MOut G μ (oSwap μ x y) v G')) := by
  refine Sp_of (own := RX6) rfl (by decide +kernel) rfl (Nat.le_of_ble_eq_true rfl) (fun X hX hR => ?_)
  show WP X Γ 0 [some (.ref (gad Γ 47)), some (.int x), some (.int y)] [] G
  refine r_aload0 hX dX6_swap_0 (q := 1) rfl ?_
  refine r_iload1 hX dX6_swap_1 (q := 2) rfl ?_
  refine r_callV hX dX6_swap_2 (q := 5) rfl (c_X6_isTaste _ Γ _ μ (by assumption) _) kX6_99 mlX6_isTaste mvX6_isTaste rfl rfl rfl ⟨by decide, rfl⟩ ⟨by decide, by decide⟩ (Nat.le_of_ble_eq_true rfl) (keB ?_)
  first | with_reducible refine r_ifd_eq hX dX6_swap_5 (q := 8) rfl (tgt := 16) (by decide) (fun h5 => ?_) (fun h5 => ?_) | refine r_ifb_eq hX dX6_swap_5 (q := 8) rfl (tgt := 16) (by decide) (fun h5 => ?_) (fun h5 => ?_)
  ·
    refine r_aload0 hX dX6_swap_16 (q := 17) rfl ?_
    refine r_ldc hX dX6_swap_17 (q := 19) rfl qX6_34 ?_
    refine r_callV hX dX6_swap_19 (q := 22) rfl (c_X6_finds _ Γ _ _ 0 (by decide) (by decide +kernel)) kX6_36 mlX6_finds mvX6_finds rfl rfl rfl ⟨by decide, rfl⟩ ⟨by decide, by decide⟩ (Nat.le_of_ble_eq_true rfl) (kpI (fun v19 G19 p19 => ?_))
    refine r_iret hX hR dX6_swap_22 ?_
    -- leaf 0 at 22
    refine ⟨_, rfl, ?_⟩
    first
      | (exact MOut.fin (k := 0) (if_neg (fun q => h5 (of_decide_eq_true q.1))) ⟨p19.1.trans (by decide +kernel), p19.2⟩ hM FrM.rf)
      | (exact MOut.fin (k := 0) (if_neg (fun q => h13 (of_decide_eq_true q.2))) ⟨p19.1.trans (by decide +kernel), p19.2⟩ hM FrM.rf)
  ·
    have h5t : tsB μ x = true := decide_eq_true h5
    obtain ⟨na, ta, hna, hta, hsa, rfl⟩ := (ts_of hV).mp h5t
    refine r_aload0 hX dX6_swap_8 (q := 9) rfl ?_
    refine r_iload2 hX dX6_swap_9 (q := 10) rfl ?_
    refine r_callV hX dX6_swap_10 (q := 13) rfl (c_X6_isTaste _ Γ _ μ (by assumption) _) kX6_99 mlX6_isTaste mvX6_isTaste rfl rfl rfl ⟨by decide, rfl⟩ ⟨by decide, by decide⟩ (Nat.le_of_ble_eq_true rfl) (keB ?_)
    first | with_reducible refine r_ifd_ne hX dX6_swap_13 (q := 16) rfl (tgt := 23) (by decide) (fun h13 => ?_) (fun h13 => ?_) | refine r_ifb_ne hX dX6_swap_13 (q := 16) rfl (tgt := 23) (by decide) (fun h13 => ?_) (fun h13 => ?_)
    ·
      have h13t : tsB μ y = true := decide_eq_true h13
      obtain ⟨nb, tb, hnb, htb, hsb, rfl⟩ := (ts_of hV).mp h13t
      refine r_aload0 hX dX6_swap_23 (q := 24) rfl ?_
      refine r_iload1 hX dX6_swap_24 (q := 25) rfl ?_
      refine r_iload2 hX dX6_swap_25 (q := 26) rfl ?_
      refine r_callV hX dX6_swap_26 (q := 29) rfl (c_X6_swaps _ Γ _ μ hM _ _ ta tb rfl rfl (by omega) (by omega)) kX6_111 mlX6_swaps mvX6_swaps rfl rfl rfl ⟨by decide, rfl⟩ ⟨by decide, by decide⟩ (Nat.le_of_ble_eq_true rfl) (kpV (fun G26 p26 => ?_))
      refine r_iconst hX dX6_swap_29 (q := 30) rfl (v := nI 1) (by decide +kernel) ?_
      refine r_iret hX hR dX6_swap_30 ?_
      -- leaf 1 at 30
      refine ⟨_, rfl, ?_⟩
      exact MOut.ok (w := nI 1) (μ' := swM μ ta tb) (by unfold oSwap; rw [if_pos ⟨h5t, h13t⟩, cl_nI (by omega), cl_nI (by omega)]) rfl p26.1 p26.2.M
    ·
      refine r_aload0 hX dX6_swap_16 (q := 17) rfl ?_
      refine r_ldc hX dX6_swap_17 (q := 19) rfl qX6_34 ?_
      refine r_callV hX dX6_swap_19 (q := 22) rfl (c_X6_finds _ Γ _ _ 0 (by decide) (by decide +kernel)) kX6_36 mlX6_finds mvX6_finds rfl rfl rfl ⟨by decide, rfl⟩ ⟨by decide, by decide⟩ (Nat.le_of_ble_eq_true rfl) (kpI (fun v19 G19 p19 => ?_))
      refine r_iret hX hR dX6_swap_22 ?_
      -- leaf 2 at 22
      refine ⟨_, rfl, ?_⟩
      first
        | (exact MOut.fin (k := 0) (if_neg (fun q => h5 (of_decide_eq_true q.1))) ⟨p19.1.trans (by decide +kernel), p19.2⟩ hM FrM.rf)
        | (exact MOut.fin (k := 0) (if_neg (fun q => h13 (of_decide_eq_true q.2))) ⟨p19.1.trans (by decide +kernel), p19.2⟩ hM FrM.rf)

set_option maxRecDepth 100000 in
set_option maxHeartbeats 4000000 in
theorem c_X6_drop (l : Launch) (Γ : Gam) (G : GG) (μ : MU) (hM : MR G μ) (b : Nat) (hV : Inv b μ) : Sp l yX6_drop cX6_drop 2 (some .int) 1 21 [.ref (gad Γ 47)] Γ G (pI (fun v G' => MOut G μ (oDrop μ) v G')) := by
  refine Sp_of (own := RX6) rfl (by decide +kernel) rfl (Nat.le_of_ble_eq_true rfl) (fun X hX hR => ?_)
  show WP X Γ 0 [some (.ref (gad Γ 47)), none] [] G
  obtain ⟨s, hs, es, ec⟩ := nt_of hV
  refine r_aload0 hX dX6_drop_0 (q := 1) rfl ?_
  refine r_getR hX dX6_drop_1 (q := 4) rfl fX6_9 rfl ⟨by decide, by decide, rfl⟩ ?_
  refine r_bipush hX dX6_drop_4 (q := 6) rfl (v := nI 8) (by decide +kernel) ?_
  refine r_ialdN hX dX6_drop_6 (q := 7) rfl rfl (by repeat' (first | assumption | with_reducible exact rfl | refine e_add ?_ ?_ | refine e_mul ?_ ?_)) (by first | assumption | omega) (by first | decide | omega) ?_
  rw [hM 8 (by decide), es]
  refine r_if_ne hX dX6_drop_7 (q := 10) rfl (tgt := 17) (by decide) (fun h7 => ?_) (fun h7 => ?_)
  ·
    have s0 : 0 < s := Nat.pos_of_ne_zero (fun q => h7 (by rw [q, nI_0]))
    refine r_aload0 hX dX6_drop_17 (q := 18) rfl ?_
    refine r_getR hX dX6_drop_18 (q := 21) rfl fX6_9 rfl ⟨by decide, by decide, rfl⟩ ?_
    refine r_bipush hX dX6_drop_21 (q := 23) rfl (v := nI 8) (by decide +kernel) ?_
    refine r_dup2 hX dX6_drop_23 (q := 24) rfl rfl rfl ?_
    refine r_ialdN hX dX6_drop_24 (q := 25) rfl rfl (by repeat' (first | assumption | with_reducible exact rfl | refine e_add ?_ ?_ | refine e_mul ?_ ?_)) (by first | assumption | omega) (by first | decide | omega) ?_
    rw [hM 8 (by decide), es]
    refine r_iconst hX dX6_drop_25 (q := 26) rfl (v := nI 1) (by decide +kernel) ?_
    refine r_isub hX dX6_drop_26 (q := 27) rfl ?_
    refine r_iastN hX dX6_drop_27 (q := 28) rfl rfl (by repeat' (first | assumption | with_reducible exact rfl | refine e_add ?_ ?_ | refine e_mul ?_ ?_)) (by first | assumption | omega) (by first | decide | omega) ?_
    refine r_iconst hX dX6_drop_28 (q := 29) rfl (v := nI 0) (by decide +kernel) ?_
    refine r_istore1 hX dX6_drop_29 (q := 30) rfl rfl ?_
    rw [pk_sub (by omega)]
    have L30 : ∀ (zn30 : Nat) (k : Nat) (G1 : GG), zn30 = 10 - k → (k ≤ 10) → (MR G1 (fsM (upd μ 8 (nI (s - 1))) (s - 1) k)) → (FrM G G1) → WP X Γ 30 [some (.ref (gad Γ 47)), some (.int (nI k))] [] G1 := by
      intro zn30
      induction zn30 using Nat.strongRecOn with
      | _ zn30 ih30 =>
        intro k G1 zh30 hk h1 hF
        refine r_iload1 hX dX6_drop_30 (q := 31) rfl ?_
        refine r_bipush hX dX6_drop_31 (q := 33) rfl (v := nI 10) (by decide +kernel) ?_
        refine r_icmpN_ge hX dX6_drop_33 (q := 36) rfl (tgt := 83) (by decide) (by first | omega | decide) (by first | omega | decide) (fun h33 => ?_) (fun h33 => ?_)
        ·
          refine r_aload0 hX dX6_drop_83 (q := 84) rfl ?_
          refine r_getR hX dX6_drop_84 (q := 87) rfl fX6_9 rfl ⟨by decide, by decide, rfl⟩ ?_
          refine r_bipush hX dX6_drop_87 (q := 89) rfl (v := nI 8) (by decide +kernel) ?_
          refine r_ialdN hX dX6_drop_89 (q := 90) rfl rfl (by repeat' (first | assumption | with_reducible exact rfl | refine e_add ?_ ?_ | refine e_mul ?_ ?_)) (by first | assumption | omega) (by first | decide | omega) ?_
          rw [h1 8 (by decide), fsM_ne k 8 (by omega), upd_eq]
          refine r_iret hX hR dX6_drop_90 ?_
          -- leaf 0 at 90
          refine ⟨_, rfl, ?_⟩
          have e0 : k = 10 := by omega
          subst e0
          exact MOut.ok (w := nI (s - 1)) (μ' := fsM (upd μ 8 (nI (s - 1))) (s - 1) 10) (by unfold oDrop; rw [es, if_neg (nI_ne (by omega) (by decide) (by omega)), cl_nI (by omega)]) rfl h1 hF
        ·
          refine r_aload0 hX dX6_drop_36 (q := 37) rfl ?_
          refine r_getR hX dX6_drop_37 (q := 40) rfl fX6_9 rfl ⟨by decide, by decide, rfl⟩ ?_
          refine r_bipush hX dX6_drop_40 (q := 42) rfl (v := nI 70) (by decide +kernel) ?_
          refine r_iload1 hX dX6_drop_42 (q := 43) rfl ?_
          refine r_iadd hX dX6_drop_43 (q := 44) rfl ?_
          refine r_aload0 hX dX6_drop_44 (q := 45) rfl ?_
          refine r_getR hX dX6_drop_45 (q := 48) rfl fX6_9 rfl ⟨by decide, by decide, rfl⟩ ?_
          refine r_bipush hX dX6_drop_48 (q := 50) rfl (v := nI 70) (by decide +kernel) ?_
          refine r_iload1 hX dX6_drop_50 (q := 51) rfl ?_
          refine r_iadd hX dX6_drop_51 (q := 52) rfl ?_
          refine r_ialdN hX dX6_drop_52 (q := 53) rfl rfl (nI_add 70 k) (by omega) (by first | decide | omega) ?_
          rw [h1 (70 + k) (by omega), fsM_ne k (70 + k) (by omega), upd_ne (show ¬ 70 + k = 8 by omega)]
          refine r_aload0 hX dX6_drop_53 (q := 54) rfl ?_
          refine r_getR hX dX6_drop_54 (q := 57) rfl fX6_9 rfl ⟨by decide, by decide, rfl⟩ ?_
          refine r_bipush hX dX6_drop_57 (q := 59) rfl (v := nI 8) (by decide +kernel) ?_
          refine r_ialdN hX dX6_drop_59 (q := 60) rfl rfl (by repeat' (first | assumption | with_reducible exact rfl | refine e_add ?_ ?_ | refine e_mul ?_ ?_)) (by first | assumption | omega) (by first | decide | omega) ?_
          rw [h1 8 (by decide), fsM_ne k 8 (by omega), upd_eq]
          first | refine r_icmpN_ne hX dX6_drop_60 (q := 63) rfl (tgt := 67) (by decide) (by first | omega | decide) (by first | omega | decide) (fun h60 => ?_) (fun h60 => ?_) | refine r_icmp_ne hX dX6_drop_60 (q := 63) rfl (tgt := 67) (by decide) (fun h60 => ?_) (fun h60 => ?_)
          ·
            refine r_aload0 hX dX6_drop_67 (q := 68) rfl ?_
            refine r_getR hX dX6_drop_68 (q := 71) rfl fX6_9 rfl ⟨by decide, by decide, rfl⟩ ?_
            refine r_bipush hX dX6_drop_71 (q := 73) rfl (v := nI 70) (by decide +kernel) ?_
            refine r_iload1 hX dX6_drop_73 (q := 74) rfl ?_
            refine r_iadd hX dX6_drop_74 (q := 75) rfl ?_
            refine r_ialdN hX dX6_drop_75 (q := 76) rfl rfl (nI_add 70 k) (by omega) (by first | decide | omega) ?_
            try rw [h1 (70 + k) (by omega), fsM_ne k (70 + k) (by omega), upd_ne (show ¬ 70 + k = 8 by omega)]
            refine r_iastN hX dX6_drop_76 (q := 77) rfl rfl (nI_add 70 k) (by omega) (by first | decide | omega) ?_
            refine r_iincN1 hX dX6_drop_77 (q := 80) rfl rfl ?_
            refine r_goto hX dX6_drop_80 (tgt := 30) (by decide) ?_
            refine ih30 _ ?_ (k + 1) _ rfl ?_ ?_ ?_
            ·
              omega
            ·
              omega
            ·
              have hc : upd μ 8 (nI (s - 1)) (70 + k) = μ (70 + k) := upd_ne (by omega)
              first
                | (rw [fsM, hc, if_pos h60]; exact h1.u _ _)
                | (rw [fsM, hc, if_neg h60]; exact h1.same ((fsM_ne k (70 + k) (by omega)).trans hc))
            ·
              exact hF.up
          ·
            refine r_iconst hX dX6_drop_63 (q := 64) rfl (v := (-1)) (by decide +kernel) ?_
            refine r_goto hX dX6_drop_64 (tgt := 76) (by decide) ?_
            try rw [h1 (70 + k) (by omega), fsM_ne k (70 + k) (by omega), upd_ne (show ¬ 70 + k = 8 by omega)]
            refine r_iastN hX dX6_drop_76 (q := 77) rfl rfl (nI_add 70 k) (by omega) (by first | decide | omega) ?_
            refine r_iincN1 hX dX6_drop_77 (q := 80) rfl rfl ?_
            refine r_goto hX dX6_drop_80 (tgt := 30) (by decide) ?_
            refine ih30 _ ?_ (k + 1) _ rfl ?_ ?_ ?_
            ·
              omega
            ·
              omega
            ·
              have hc : upd μ 8 (nI (s - 1)) (70 + k) = μ (70 + k) := upd_ne (by omega)
              first
                | (rw [fsM, hc, if_pos h60]; exact h1.u _ _)
                | (rw [fsM, hc, if_neg h60]; exact h1.same ((fsM_ne k (70 + k) (by omega)).trans hc))
            ·
              exact hF.up
    refine L30 _ 0 _ rfl ?_ ?_ ?_
    ·
      exact Nat.zero_le _
    ·
      exact hM.u 8 _
    ·
      exact FrM.rf.up
  ·
    refine r_aload0 hX dX6_drop_10 (q := 11) rfl ?_
    refine r_ldc hX dX6_drop_11 (q := 13) rfl qX6_35 ?_
    refine r_callV hX dX6_drop_13 (q := 16) rfl (c_X6_finds _ Γ _ _ 3 (by decide) (by decide +kernel)) kX6_36 mlX6_finds mvX6_finds rfl rfl rfl ⟨by decide, rfl⟩ ⟨by decide, by decide⟩ (Nat.le_of_ble_eq_true rfl) (kpI (fun v13 G13 p13 => ?_))
    refine r_iret hX hR dX6_drop_16 ?_
    -- leaf 1 at 16
    refine ⟨_, rfl, ?_⟩
    exact MOut.fin (k := 3) (if_pos (by rw [es]; exact h7.trans nI_0.symm)) ⟨p13.1.trans (by decide +kernel), p13.2⟩ hM FrM.rf
