set_option maxRecDepth 100000 in
set_option maxHeartbeats 4000000 in
theorem c_X5_within (l : Launch) (Γ : Gam) (G : GG) (v a b : Int32) : Sp l yX5_within cX5_within 3 (some .boolean) 0 0 [.int v, .int a, .int b] Γ G (eB G (decide (a ≤ v ∧ v ≤ b))) := by
  refine Sp_of (own := RX5) rfl (by decide +kernel) rfl (Nat.le_of_ble_eq_true rfl) (fun X hX hR => ?_)
  show WP X Γ 0 [some (.int v), some (.int a), some (.int b)] [] G
  refine r_iload0 hX dX5_within_0 (q := 1) rfl ?_
  refine r_iload1 hX dX5_within_1 (q := 2) rfl ?_
  first | refine r_icmpN_lt hX dX5_within_2 (q := 5) rfl (tgt := 14) (by decide) (by first | decide | omega) (by first | decide | omega) (fun h2 => ?_) (fun h2 => ?_) | refine r_icmp_lt hX dX5_within_2 (q := 5) rfl (tgt := 14) (by decide) (fun h2 => ?_) (fun h2 => ?_)
  ·
    refine r_iconst hX dX5_within_14 (q := 15) rfl (v := nI 0) (by decide +kernel) ?_
    refine r_zret0 hX hR dX5_within_15 ?_
    -- leaf 0 at 15
    refine ⟨congrArg (fun z => some (Value.int (bi z))) ?_, ?_⟩
    ·
      clear hX hR
      first
        | (refine (decide_eq_true ?_).symm; simp only [Int32.le_iff_toInt_le, Int32.lt_iff_toInt_lt] at *; omega)
        | (refine (decide_eq_false ?_).symm; simp only [Int32.le_iff_toInt_le, Int32.lt_iff_toInt_lt] at *; omega)
    · rfl
  ·
    refine r_iload0 hX dX5_within_5 (q := 6) rfl ?_
    refine r_iload2 hX dX5_within_6 (q := 7) rfl ?_
    first | refine r_icmpN_gt hX dX5_within_7 (q := 10) rfl (tgt := 14) (by decide) (by first | decide | omega) (by first | decide | omega) (fun h7 => ?_) (fun h7 => ?_) | refine r_icmp_gt hX dX5_within_7 (q := 10) rfl (tgt := 14) (by decide) (fun h7 => ?_) (fun h7 => ?_)
    ·
      refine r_iconst hX dX5_within_14 (q := 15) rfl (v := nI 0) (by decide +kernel) ?_
      refine r_zret0 hX hR dX5_within_15 ?_
      -- leaf 1 at 15
      refine ⟨congrArg (fun z => some (Value.int (bi z))) ?_, ?_⟩
      ·
        clear hX hR
        first
          | (refine (decide_eq_true ?_).symm; simp only [Int32.le_iff_toInt_le, Int32.lt_iff_toInt_lt] at *; omega)
          | (refine (decide_eq_false ?_).symm; simp only [Int32.le_iff_toInt_le, Int32.lt_iff_toInt_lt] at *; omega)
      · rfl
    ·
      refine r_iconst hX dX5_within_10 (q := 11) rfl (v := nI 1) (by decide +kernel) ?_
      refine r_goto hX dX5_within_11 (tgt := 15) (by decide) ?_
      refine r_zret1 hX hR dX5_within_15 ?_
      -- leaf 2 at 15
      refine ⟨congrArg (fun z => some (Value.int (bi z))) ?_, ?_⟩
      ·
        clear hX hR
        first
          | (refine (decide_eq_true ?_).symm; simp only [Int32.le_iff_toInt_le, Int32.lt_iff_toInt_lt] at *; omega)
          | (refine (decide_eq_false ?_).symm; simp only [Int32.le_iff_toInt_le, Int32.lt_iff_toInt_lt] at *; omega)
      · rfl

set_option maxRecDepth 100000 in
set_option maxHeartbeats 4000000 in
theorem c_X5_isFood (l : Launch) (Γ : Gam) (G : GG) (v : Int32) : Sp l yX5_isFood cX5_isFood 1 (some .boolean) 1 22 [.int v] Γ G (eB G (decide (nI 0 ≤ v ∧ v ≤ nI 9))) := by
  refine Sp_of (own := RX5) rfl (by decide +kernel) rfl (Nat.le_of_ble_eq_true rfl) (fun X hX hR => ?_)
  show WP X Γ 0 [some (.int v)] [] G
  refine r_iload0 hX dX5_isFood_0 (q := 1) rfl ?_
  refine r_iconst hX dX5_isFood_1 (q := 2) rfl (v := nI 0) (by decide +kernel) ?_
  refine r_bipush hX dX5_isFood_2 (q := 4) rfl (v := nI 9) (by decide +kernel) ?_
  refine r_callS hX dX5_isFood_4 (q := 7) rfl (c_X5_within _ Γ _ _ _ _) kX5_45 mlX5_within msX5_within rfl rfl ⟨by decide, by decide⟩ (Nat.le_of_ble_eq_true rfl) (keB ?_)
  refine r_zret hX hR dX5_isFood_7 ?_
  -- leaf 0 at 7
  refine ⟨congrArg (fun z => some (Value.int (bi z))) ?_, ?_⟩
  ·
    rfl
  · rfl

set_option maxRecDepth 100000 in
set_option maxHeartbeats 4000000 in
theorem c_X5_isKind (l : Launch) (Γ : Gam) (G : GG) (v : Int32) : Sp l yX5_isKind cX5_isKind 1 (some .boolean) 1 22 [.int v] Γ G (eB G (decide (nI 0 ≤ v ∧ v ≤ nI 6))) := by
  refine Sp_of (own := RX5) rfl (by decide +kernel) rfl (Nat.le_of_ble_eq_true rfl) (fun X hX hR => ?_)
  show WP X Γ 0 [some (.int v)] [] G
  refine r_iload0 hX dX5_isKind_0 (q := 1) rfl ?_
  refine r_iconst hX dX5_isKind_1 (q := 2) rfl (v := nI 0) (by decide +kernel) ?_
  refine r_bipush hX dX5_isKind_2 (q := 4) rfl (v := nI 6) (by decide +kernel) ?_
  refine r_callS hX dX5_isKind_4 (q := 7) rfl (c_X5_within _ Γ _ _ _ _) kX5_45 mlX5_within msX5_within rfl rfl ⟨by decide, by decide⟩ (Nat.le_of_ble_eq_true rfl) (keB ?_)
  refine r_zret hX hR dX5_isKind_7 ?_
  -- leaf 0 at 7
  refine ⟨congrArg (fun z => some (Value.int (bi z))) ?_, ?_⟩
  ·
    rfl
  · rfl

set_option maxRecDepth 100000 in
set_option maxHeartbeats 4000000 in
theorem c_X5_isPut (l : Launch) (Γ : Gam) (G : GG) (v : Int32) : Sp l yX5_isPut cX5_isPut 1 (some .boolean) 1 22 [.int v] Γ G (eB G (decide (nI 1 ≤ v ∧ v ≤ nI 20))) := by
  refine Sp_of (own := RX5) rfl (by decide +kernel) rfl (Nat.le_of_ble_eq_true rfl) (fun X hX hR => ?_)
  show WP X Γ 0 [some (.int v)] [] G
  refine r_iload0 hX dX5_isPut_0 (q := 1) rfl ?_
  refine r_iconst hX dX5_isPut_1 (q := 2) rfl (v := nI 1) (by decide +kernel) ?_
  refine r_bipush hX dX5_isPut_2 (q := 4) rfl (v := nI 20) (by decide +kernel) ?_
  refine r_callS hX dX5_isPut_4 (q := 7) rfl (c_X5_within _ Γ _ _ _ _) kX5_45 mlX5_within msX5_within rfl rfl ⟨by decide, by decide⟩ (Nat.le_of_ble_eq_true rfl) (keB ?_)
  refine r_zret hX hR dX5_isPut_7 ?_
  -- leaf 0 at 7
  refine ⟨congrArg (fun z => some (Value.int (bi z))) ?_, ?_⟩
  ·
    rfl
  · rfl

set_option maxRecDepth 100000 in
set_option maxHeartbeats 4000000 in
theorem c_X5_isSheet (l : Launch) (Γ : Gam) (G : GG) (v : Int32) : Sp l yX5_isSheet cX5_isSheet 1 (some .boolean) 1 22 [.int v] Γ G (eB G (decide (nI 0 ≤ v ∧ v ≤ nI 3))) := by
  refine Sp_of (own := RX5) rfl (by decide +kernel) rfl (Nat.le_of_ble_eq_true rfl) (fun X hX hR => ?_)
  show WP X Γ 0 [some (.int v)] [] G
  refine r_iload0 hX dX5_isSheet_0 (q := 1) rfl ?_
  refine r_iconst hX dX5_isSheet_1 (q := 2) rfl (v := nI 0) (by decide +kernel) ?_
  refine r_iconst hX dX5_isSheet_2 (q := 3) rfl (v := nI 3) (by decide +kernel) ?_
  refine r_callS hX dX5_isSheet_3 (q := 6) rfl (c_X5_within _ Γ _ _ _ _) kX5_45 mlX5_within msX5_within rfl rfl ⟨by decide, by decide⟩ (Nat.le_of_ble_eq_true rfl) (keB ?_)
  refine r_zret hX hR dX5_isSheet_6 ?_
  -- leaf 0 at 6
  refine ⟨congrArg (fun z => some (Value.int (bi z))) ?_, ?_⟩
  ·
    rfl
  · rfl

set_option maxRecDepth 100000 in
set_option maxHeartbeats 4000000 in
theorem c_X5_partLow (l : Launch) (Γ : Gam) (G : GG) (v : Int32) : Sp l yX5_partLow cX5_partLow 1 (some .int) 0 0 [.int v] Γ G (eI G (pLow v)) := by
  refine Sp_of (own := RX5) rfl (by decide +kernel) rfl (Nat.le_of_ble_eq_true rfl) (fun X hX hR => ?_)
  show WP X Γ 0 [some (.int v)] [] G
  refine r_iload0 hX dX5_partLow_0 (q := 1) rfl ?_
  refine r_iconst hX dX5_partLow_1 (q := 2) rfl (v := nI 3) (by decide +kernel) ?_
  first | refine r_icmpN_ne hX dX5_partLow_2 (q := 5) rfl (tgt := 9) (by decide) (by first | decide | omega) (by first | decide | omega) (fun h2 => ?_) (fun h2 => ?_) | refine r_icmp_ne hX dX5_partLow_2 (q := 5) rfl (tgt := 9) (by decide) (fun h2 => ?_) (fun h2 => ?_)
  ·
    refine r_iconst hX dX5_partLow_9 (q := 10) rfl (v := nI 0) (by decide +kernel) ?_
    refine r_iret hX hR dX5_partLow_10 ?_
    -- leaf 0 at 10
    refine ⟨congrArg (fun z => some (Value.int z)) ?_, ?_⟩
    ·
      clear hX hR
      first | rfl | (subst_vars; decide +kernel) | (simp only [pLow, *, if_true, if_false]; done) | (simp [pLow, *]; done)
    · rfl
  ·
    refine r_iconst hX dX5_partLow_5 (q := 6) rfl (v := nI 1) (by decide +kernel) ?_
    refine r_goto hX dX5_partLow_6 (tgt := 10) (by decide) ?_
    refine r_iret hX hR dX5_partLow_10 ?_
    -- leaf 1 at 10
    refine ⟨congrArg (fun z => some (Value.int z)) ?_, ?_⟩
    ·
      clear hX hR
      first | rfl | (subst_vars; decide +kernel) | (simp only [pLow, *, if_true, if_false]; done) | (simp [pLow, *]; done)
    · rfl

set_option maxRecDepth 100000 in
set_option maxHeartbeats 4000000 in
theorem c_X5_partTop (l : Launch) (Γ : Gam) (G : GG) (v : Int32) : Sp l yX5_partTop cX5_partTop 1 (some .int) 0 0 [.int v] Γ G (eI G (pTop v)) := by
  refine Sp_of (own := RX5) rfl (by decide +kernel) rfl (Nat.le_of_ble_eq_true rfl) (fun X hX hR => ?_)
  show WP X Γ 0 [some (.int v)] [] G
  refine r_iload0 hX dX5_partTop_0 (q := 1) rfl ?_
  refine r_tabCase hX dX5_partTop_1 0 ⟨by decide, by decide, by decide, rfl, (by decide : (1 : Int) + 31 = (32 : Nat))⟩ (fun h1_0 => ?_) (fun h1_0 => ?_)
  ·
    refine r_bipush hX dX5_partTop_32 (q := 34) rfl (v := nI 9) (by decide +kernel) ?_
    refine r_iret hX hR dX5_partTop_34 ?_
    -- leaf 0 at 34
    refine ⟨congrArg (fun z => some (Value.int z)) ?_, ?_⟩
    ·
      clear hX hR
      first | rfl | (subst_vars; decide +kernel) | (simp only [pTop, *, if_true, if_false]; done) | (simp [pTop, *]; done)
    · rfl
  refine r_tabCase hX dX5_partTop_1 1 ⟨by decide, by decide, by decide, rfl, (by decide : (1 : Int) + 34 = (35 : Nat))⟩ (fun h1_1 => ?_) (fun h1_1 => ?_)
  ·
    refine r_bipush hX dX5_partTop_35 (q := 37) rfl (v := nI 99) (by decide +kernel) ?_
    refine r_iret hX hR dX5_partTop_37 ?_
    -- leaf 1 at 37
    refine ⟨congrArg (fun z => some (Value.int z)) ?_, ?_⟩
    ·
      clear hX hR
      first | rfl | (subst_vars; decide +kernel) | (simp only [pTop, *, if_true, if_false]; done) | (simp [pTop, *]; done)
    · rfl
  refine r_tabCase hX dX5_partTop_1 2 ⟨by decide, by decide, by decide, rfl, (by decide : (1 : Int) + 37 = (38 : Nat))⟩ (fun h1_2 => ?_) (fun h1_2 => ?_)
  ·
    refine r_sipush hX dX5_partTop_38 (q := 41) rfl (v := nI 9999) (by decide +kernel) ?_
    refine r_iret hX hR dX5_partTop_41 ?_
    -- leaf 2 at 41
    refine ⟨congrArg (fun z => some (Value.int z)) ?_, ?_⟩
    ·
      clear hX hR
      first | rfl | (subst_vars; decide +kernel) | (simp only [pTop, *, if_true, if_false]; done) | (simp [pTop, *]; done)
    · rfl
  refine r_tabCase hX dX5_partTop_1 3 ⟨by decide, by decide, by decide, rfl, (by decide : (1 : Int) + 41 = (42 : Nat))⟩ (fun h1_3 => ?_) (fun h1_3 => ?_)
  ·
    refine r_bipush hX dX5_partTop_42 (q := 44) rfl (v := nI 99) (by decide +kernel) ?_
    refine r_iret hX hR dX5_partTop_44 ?_
    -- leaf 3 at 44
    refine ⟨congrArg (fun z => some (Value.int z)) ?_, ?_⟩
    ·
      clear hX hR
      first | rfl | (subst_vars; decide +kernel) | (simp only [pTop, *, if_true, if_false]; done) | (simp [pTop, *]; done)
    · rfl
  refine r_tabOut hX dX5_partTop_1 (by have z0 := nI_neT h1_0 (by decide); have z1 := nI_neT h1_1 (by decide); have z2 := nI_neT h1_2 (by decide); have z3 := nI_neT h1_3 (by decide); omega) (tgt := 45) (by decide) ?_
  refine r_iconst hX dX5_partTop_45 (q := 46) rfl (v := (-1)) (by decide +kernel) ?_
  refine r_iret hX hR dX5_partTop_46 ?_
  -- leaf 4 at 46
  refine ⟨congrArg (fun z => some (Value.int z)) ?_, ?_⟩
  ·
    clear hX hR
    first | rfl | (subst_vars; decide +kernel) | (simp only [pTop, *, if_true, if_false]; done) | (simp [pTop, *]; done)
  · rfl

set_option maxRecDepth 100000 in
set_option maxHeartbeats 4000000 in
theorem c_X5_traitLow (l : Launch) (Γ : Gam) (G : GG) (v : Int32) : Sp l yX5_traitLow cX5_traitLow 1 (some .int) 0 0 [.int v] Γ G (eI G (tLow v)) := by
  refine Sp_of (own := RX5) rfl (by decide +kernel) rfl (Nat.le_of_ble_eq_true rfl) (fun X hX hR => ?_)
  show WP X Γ 0 [some (.int v)] [] G
  refine r_iload0 hX dX5_traitLow_0 (q := 1) rfl ?_
  refine r_iconst hX dX5_traitLow_1 (q := 2) rfl (v := nI 2) (by decide +kernel) ?_
  first | refine r_icmpN_ne hX dX5_traitLow_2 (q := 5) rfl (tgt := 9) (by decide) (by first | decide | omega) (by first | decide | omega) (fun h2 => ?_) (fun h2 => ?_) | refine r_icmp_ne hX dX5_traitLow_2 (q := 5) rfl (tgt := 9) (by decide) (fun h2 => ?_) (fun h2 => ?_)
  ·
    refine r_iconst hX dX5_traitLow_9 (q := 10) rfl (v := nI 0) (by decide +kernel) ?_
    refine r_iret hX hR dX5_traitLow_10 ?_
    -- leaf 0 at 10
    refine ⟨congrArg (fun z => some (Value.int z)) ?_, ?_⟩
    ·
      clear hX hR
      first | rfl | (subst_vars; decide +kernel) | (simp only [tLow, *, if_true, if_false]; done) | (simp [tLow, *]; done)
    · rfl
  ·
    refine r_iconst hX dX5_traitLow_5 (q := 6) rfl (v := nI 1) (by decide +kernel) ?_
    refine r_goto hX dX5_traitLow_6 (tgt := 10) (by decide) ?_
    refine r_iret hX hR dX5_traitLow_10 ?_
    -- leaf 1 at 10
    refine ⟨congrArg (fun z => some (Value.int z)) ?_, ?_⟩
    ·
      clear hX hR
      first | rfl | (subst_vars; decide +kernel) | (simp only [tLow, *, if_true, if_false]; done) | (simp [tLow, *]; done)
    · rfl

set_option maxRecDepth 100000 in
set_option maxHeartbeats 4000000 in
theorem c_X5_traitTop (l : Launch) (Γ : Gam) (G : GG) (v : Int32) : Sp l yX5_traitTop cX5_traitTop 1 (some .int) 0 0 [.int v] Γ G (eI G (tTop v)) := by
  refine Sp_of (own := RX5) rfl (by decide +kernel) rfl (Nat.le_of_ble_eq_true rfl) (fun X hX hR => ?_)
  show WP X Γ 0 [some (.int v)] [] G
  refine r_iload0 hX dX5_traitTop_0 (q := 1) rfl ?_
  refine r_tabCase hX dX5_traitTop_1 0 ⟨by decide, by decide, by decide, rfl, (by decide : (1 : Int) + 27 = (28 : Nat))⟩ (fun h1_0 => ?_) (fun h1_0 => ?_)
  ·
    refine r_bipush hX dX5_traitTop_28 (q := 30) rfl (v := nI 6) (by decide +kernel) ?_
    refine r_iret hX hR dX5_traitTop_30 ?_
    -- leaf 0 at 30
    refine ⟨congrArg (fun z => some (Value.int z)) ?_, ?_⟩
    ·
      clear hX hR
      first | rfl | (subst_vars; decide +kernel) | (simp only [tTop, *, if_true, if_false]; done) | (simp [tTop, *]; done)
    · rfl
  refine r_tabCase hX dX5_traitTop_1 1 ⟨by decide, by decide, by decide, rfl, (by decide : (1 : Int) + 30 = (31 : Nat))⟩ (fun h1_1 => ?_) (fun h1_1 => ?_)
  ·
    refine r_bipush hX dX5_traitTop_31 (q := 33) rfl (v := nI 9) (by decide +kernel) ?_
    refine r_iret hX hR dX5_traitTop_33 ?_
    -- leaf 1 at 33
    refine ⟨congrArg (fun z => some (Value.int z)) ?_, ?_⟩
    ·
      clear hX hR
      first | rfl | (subst_vars; decide +kernel) | (simp only [tTop, *, if_true, if_false]; done) | (simp [tTop, *]; done)
    · rfl
  refine r_tabCase hX dX5_traitTop_1 2 ⟨by decide, by decide, by decide, rfl, (by decide : (1 : Int) + 33 = (34 : Nat))⟩ (fun h1_2 => ?_) (fun h1_2 => ?_)
  ·
    refine r_bipush hX dX5_traitTop_34 (q := 36) rfl (v := nI 20) (by decide +kernel) ?_
    refine r_iret hX hR dX5_traitTop_36 ?_
    -- leaf 2 at 36
    refine ⟨congrArg (fun z => some (Value.int z)) ?_, ?_⟩
    ·
      clear hX hR
      first | rfl | (subst_vars; decide +kernel) | (simp only [tTop, *, if_true, if_false]; done) | (simp [tTop, *]; done)
    · rfl
  refine r_tabOut hX dX5_traitTop_1 (by have z0 := nI_neT h1_0 (by decide); have z1 := nI_neT h1_1 (by decide); have z2 := nI_neT h1_2 (by decide); omega) (tgt := 37) (by decide) ?_
  refine r_iconst hX dX5_traitTop_37 (q := 38) rfl (v := (-1)) (by decide +kernel) ?_
  refine r_iret hX hR dX5_traitTop_38 ?_
  -- leaf 3 at 38
  refine ⟨congrArg (fun z => some (Value.int z)) ?_, ?_⟩
  ·
    clear hX hR
    first | rfl | (subst_vars; decide +kernel) | (simp only [tTop, *, if_true, if_false]; done) | (simp [tTop, *]; done)
  · rfl

set_option maxRecDepth 100000 in
set_option maxHeartbeats 4000000 in
theorem c_X5_finding (l : Launch) (Γ : Gam) (G : GG) (x : Int32) (k : Nat) (hk : k < 7) (hx : (-1000001) - x = nI k) : Sp l yX5_finding cX5_finding 3 (some .int) 1 22 [.ref (gad Γ 30), .int x] Γ G (eI (up G 46 k (G 46 k + nI 1)) x) := by
  refine Sp_of (own := RX5) rfl (by decide +kernel) rfl (Nat.le_of_ble_eq_true rfl) (fun X hX hR => ?_)
  show WP X Γ 0 [some (.ref (gad Γ 30)), some (.int x), none] [] G
  refine r_ldc hX dX5_finding_0 (q := 2) rfl qX5_44 ?_
  refine r_iload1 hX dX5_finding_2 (q := 3) rfl ?_
  refine r_isub hX dX5_finding_3 (q := 4) rfl ?_
  refine r_istore2 hX dX5_finding_4 (q := 5) rfl rfl ?_
  refine r_iload2 hX dX5_finding_5 (q := 6) rfl ?_
  refine r_iconst hX dX5_finding_6 (q := 7) rfl (v := nI 0) (by decide +kernel) ?_
  refine r_bipush hX dX5_finding_7 (q := 9) rfl (v := nI 6) (by decide +kernel) ?_
  refine r_callS hX dX5_finding_9 (q := 12) rfl (c_X5_within _ Γ _ _ _ _) kX5_45 mlX5_within msX5_within rfl rfl ⟨by decide, by decide⟩ (Nat.le_of_ble_eq_true rfl) (keB ?_)
  first | with_reducible refine r_ifd_eq hX dX5_finding_12 (q := 15) rfl (tgt := 25) (by decide) (fun h12 => ?_) (fun h12 => ?_) | refine r_ifb_eq hX dX5_finding_12 (q := 15) rfl (tgt := 25) (by decide) (fun h12 => ?_) (fun h12 => ?_)
  ·
    exact absurd (by rw [hx]; exact ⟨nI_le (by omega) (by omega), nI_le (by omega) (by omega)⟩) h12 --end
  ·
    refine r_aload0 hX dX5_finding_15 (q := 16) rfl ?_
    refine r_getR hX dX5_finding_16 (q := 19) rfl fX5_40 rfl ⟨by decide, by decide, rfl⟩ ?_
    refine r_iload2 hX dX5_finding_19 (q := 20) rfl ?_
    refine r_dup2 hX dX5_finding_20 (q := 21) rfl rfl rfl ?_
    refine r_ialdN hX dX5_finding_21 (q := 22) rfl rfl (by repeat' (first | assumption | with_reducible exact rfl | refine e_add ?_ ?_ | refine e_mul ?_ ?_)) (by first | assumption | omega) (by first | decide | omega) ?_
    refine r_iconst hX dX5_finding_22 (q := 23) rfl (v := nI 1) (by decide +kernel) ?_
    refine r_iadd hX dX5_finding_23 (q := 24) rfl ?_
    refine r_iastN hX dX5_finding_24 (q := 25) rfl rfl (by repeat' (first | assumption | with_reducible exact rfl | refine e_add ?_ ?_ | refine e_mul ?_ ?_)) (by first | assumption | omega) (by first | decide | omega) ?_
    refine r_iload1 hX dX5_finding_25 (q := 26) rfl ?_
    refine r_iret hX hR dX5_finding_26 ?_
    -- leaf 0 at 26
    refine ⟨congrArg (fun z => some (Value.int z)) ?_, ?_⟩
    ·
      rfl
    · rfl
