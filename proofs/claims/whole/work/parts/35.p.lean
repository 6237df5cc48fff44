set_option maxRecDepth 100000 in
set_option maxHeartbeats 4000000 in
theorem c_X6_in (l : Launch) (Γ : Gam) (G : GG) (x y z : Int32) : Sp l yX6_in cX6_in 6 (some .boolean) 0 0 [.long (x).toInt64, .long (y).toInt64, .long (z).toInt64] Γ G (eB G (decide (y ≤ x ∧ x ≤ z))) := by
  refine Sp_of3 (own := RX6) rfl (by decide +kernel) (fun X hX hR => ?_)
  show WP X Γ 0 [some (.long (x).toInt64), none, some (.long (y).toInt64), none, some (.long (z).toInt64), none] [] G
  refine r_lload0 hX dX6_in_0 (q := 1) rfl rfl ?_
  refine r_lload2 hX dX6_in_1 (q := 2) rfl rfl ?_
  refine r_lcmp hX dX6_in_2 (q := 3) rfl ?_
  refine r_if_lt hX dX6_in_3 (q := 6) rfl (tgt := 17) (by decide) (fun h3 => ?_) (fun h3 => ?_)
  ·
    refine r_iconst hX dX6_in_17 (q := 18) rfl (v := nI 0) (by decide +kernel) ?_
    refine r_zret0 hX hR dX6_in_18 ?_
    -- leaf 0 at 18
    refine ⟨congrArg (fun z => some (Value.int (bi z))) ?_, ?_⟩
    ·
      first
        | exact (decide_eq_false (fun q => absurd (lc_lt.mp h3) (Int32.not_lt.mpr q.1))).symm
        | exact (decide_eq_false (fun q => absurd (lc_gt.mp h10) (Int32.not_lt.mpr q.2))).symm
        | exact (decide_eq_true ⟨Int32.not_lt.mp (fun q => h3 (lc_lt.mpr q)), Int32.not_lt.mp (fun q => h10 (lc_gt.mpr q))⟩).symm
    · rfl
  ·
    refine r_lload0 hX dX6_in_6 (q := 7) rfl rfl ?_
    refine r_lload4 hX dX6_in_7 (q := 9) rfl rfl ?_
    refine r_lcmp hX dX6_in_9 (q := 10) rfl ?_
    refine r_if_gt hX dX6_in_10 (q := 13) rfl (tgt := 17) (by decide) (fun h10 => ?_) (fun h10 => ?_)
    ·
      refine r_iconst hX dX6_in_17 (q := 18) rfl (v := nI 0) (by decide +kernel) ?_
      refine r_zret0 hX hR dX6_in_18 ?_
      -- leaf 1 at 18
      refine ⟨congrArg (fun z => some (Value.int (bi z))) ?_, ?_⟩
      ·
        first
          | exact (decide_eq_false (fun q => absurd (lc_lt.mp h3) (Int32.not_lt.mpr q.1))).symm
          | exact (decide_eq_false (fun q => absurd (lc_gt.mp h10) (Int32.not_lt.mpr q.2))).symm
          | exact (decide_eq_true ⟨Int32.not_lt.mp (fun q => h3 (lc_lt.mpr q)), Int32.not_lt.mp (fun q => h10 (lc_gt.mpr q))⟩).symm
      · rfl
    ·
      refine r_iconst hX dX6_in_13 (q := 14) rfl (v := nI 1) (by decide +kernel) ?_
      refine r_goto hX dX6_in_14 (tgt := 18) (by decide) ?_
      refine r_zret1 hX hR dX6_in_18 ?_
      -- leaf 2 at 18
      refine ⟨congrArg (fun z => some (Value.int (bi z))) ?_, ?_⟩
      ·
        first
          | exact (decide_eq_false (fun q => absurd (lc_lt.mp h3) (Int32.not_lt.mpr q.1))).symm
          | exact (decide_eq_false (fun q => absurd (lc_gt.mp h10) (Int32.not_lt.mpr q.2))).symm
          | exact (decide_eq_true ⟨Int32.not_lt.mp (fun q => h3 (lc_lt.mpr q)), Int32.not_lt.mp (fun q => h10 (lc_gt.mpr q))⟩).symm
      · rfl

set_option maxRecDepth 100000 in
set_option maxHeartbeats 4000000 in
theorem c_X6_finds (l : Launch) (Γ : Gam) (G : GG) (x : Int32) (k : Nat) (hk : k < 7) (hx : (-1000001) - x = nI k) : Sp l yX6_finds cX6_finds 2 (some .int) 0 0 [.ref (gad Γ 47), .int x] Γ G (pI (fun v G' => v = x ∧ G' = up G 51 k (G 51 k + nI 1))) := by
  refine Sp_of (own := RX6) rfl (by decide +kernel) rfl (Nat.le_of_ble_eq_true rfl) (fun X hX hR => ?_)
  show WP X Γ 0 [some (.ref (gad Γ 47)), some (.int x)] [] G
  refine r_aload0 hX dX6_finds_0 (q := 1) rfl ?_
  refine r_getR hX dX6_finds_1 (q := 4) rfl fX6_19 rfl ⟨by decide, by decide, rfl⟩ ?_
  refine r_ldc hX dX6_finds_4 (q := 6) rfl qX6_34 ?_
  refine r_iload1 hX dX6_finds_6 (q := 7) rfl ?_
  refine r_isub hX dX6_finds_7 (q := 8) rfl ?_
  refine r_dup2 hX dX6_finds_8 (q := 9) rfl rfl rfl ?_
  refine r_ialdN hX dX6_finds_9 (q := 10) rfl rfl (by assumption) (by omega) (by first | decide | omega) ?_
  refine r_iconst hX dX6_finds_10 (q := 11) rfl (v := nI 1) (by decide +kernel) ?_
  refine r_iadd hX dX6_finds_11 (q := 12) rfl ?_
  refine r_iastN hX dX6_finds_12 (q := 13) rfl rfl (by assumption) (by omega) (by first | decide | omega) ?_
  refine r_iload1 hX dX6_finds_13 (q := 14) rfl ?_
  refine r_iret hX hR dX6_finds_14 ?_
  -- leaf 0 at 14
  refine ⟨_, rfl, ?_⟩
  exact ⟨rfl, rfl⟩

set_option maxRecDepth 100000 in
set_option maxHeartbeats 4000000 in
theorem c_X6_orNone (l : Launch) (Γ : Gam) (G : GG) (x : Int32) : Sp l yX6_orNone cX6_orNone 2 (some .int) 1 21 [.ref (gad Γ 47), .int x] Γ G (pI (fun v G' => (0 ≤ x ∧ v = x ∧ G' = G) ∨ (¬ 0 ≤ x ∧ FOM G 3 v G'))) := by
  refine Sp_of (own := RX6) rfl (by decide +kernel) rfl (Nat.le_of_ble_eq_true rfl) (fun X hX hR => ?_)
  show WP X Γ 0 [some (.ref (gad Γ 47)), some (.int x)] [] G
  refine r_iload1 hX dX6_orNone_0 (q := 1) rfl ?_
  refine r_if_ge hX dX6_orNone_1 (q := 4) rfl (tgt := 13) (by decide) (fun h1 => ?_) (fun h1 => ?_)
  ·
    refine r_iload1 hX dX6_orNone_13 (q := 14) rfl ?_
    refine r_iret hX hR dX6_orNone_14 ?_
    -- leaf 0 at 14
    refine ⟨_, rfl, ?_⟩
    first
      | exact Or.inl ⟨h1, rfl, rfl⟩
      | exact Or.inr ⟨h1, by rw [p7.1]; decide +kernel, p7.2⟩
  ·
    refine r_aload0 hX dX6_orNone_4 (q := 5) rfl ?_
    refine r_ldc hX dX6_orNone_5 (q := 7) rfl qX6_35 ?_
    refine r_callV hX dX6_orNone_7 (q := 10) rfl (c_X6_finds _ Γ _ _ 3 (by decide) (by decide +kernel)) kX6_36 mlX6_finds mvX6_finds rfl rfl rfl ⟨by decide, rfl⟩ ⟨by decide, by decide⟩ (Nat.le_of_ble_eq_true rfl) (kpI (fun v7 G7 p7 => ?_))
    refine r_goto hX dX6_orNone_10 (tgt := 14) (by decide) ?_
    refine r_iret hX hR dX6_orNone_14 ?_
    -- leaf 1 at 14
    refine ⟨_, rfl, ?_⟩
    first
      | exact Or.inl ⟨h1, rfl, rfl⟩
      | exact Or.inr ⟨h1, by rw [p7.1]; decide +kernel, p7.2⟩

set_option maxRecDepth 100000 in
set_option maxHeartbeats 4000000 in
theorem c_X6_held (l : Launch) (Γ : Gam) (G : GG) (x y : Int32) : Sp l yX6_held cX6_held 2 (some .int) 0 0 [.int x, .int y] Γ G (eI G (heS x y)) := by
  refine Sp_of (own := RX6) rfl (by decide +kernel) rfl (Nat.le_of_ble_eq_true rfl) (fun X hX hR => ?_)
  show WP X Γ 0 [some (.int x), some (.int y)] [] G
  refine r_iload0 hX dX6_held_0 (q := 1) rfl ?_
  refine r_if_ge hX dX6_held_1 (q := 4) rfl (tgt := 8) (by decide) (fun h1 => ?_) (fun h1 => ?_)
  ·
    refine r_iload0 hX dX6_held_8 (q := 9) rfl ?_
    refine r_iload1 hX dX6_held_9 (q := 10) rfl ?_
    first | refine r_icmpN_le hX dX6_held_10 (q := 13) rfl (tgt := 17) (by decide) (by first | omega | decide) (by first | omega | decide) (fun h10 => ?_) (fun h10 => ?_) | refine r_icmp_le hX dX6_held_10 (q := 13) rfl (tgt := 17) (by decide) (fun h10 => ?_) (fun h10 => ?_)
    ·
      refine r_iload0 hX dX6_held_17 (q := 18) rfl ?_
      refine r_iret hX hR dX6_held_18 ?_
      -- leaf 0 at 18
      refine ⟨congrArg (fun z => some (Value.int z)) ?_, ?_⟩
      ·
        unfold heS
        rw [nI_0]
        first
          | rw [if_pos (Int32.not_le.mp h1)]
          | rw [if_neg (Int32.not_lt.mpr h1), if_pos (Int32.not_le.mp h10)]
          | rw [if_neg (Int32.not_lt.mpr h1), if_neg (Int32.not_lt.mpr h10)]
      · rfl
    ·
      refine r_iload1 hX dX6_held_13 (q := 14) rfl ?_
      refine r_goto hX dX6_held_14 (tgt := 18) (by decide) ?_
      refine r_iret hX hR dX6_held_18 ?_
      -- leaf 1 at 18
      refine ⟨congrArg (fun z => some (Value.int z)) ?_, ?_⟩
      ·
        unfold heS
        rw [nI_0]
        first
          | rw [if_pos (Int32.not_le.mp h1)]
          | rw [if_neg (Int32.not_lt.mpr h1), if_pos (Int32.not_le.mp h10)]
          | rw [if_neg (Int32.not_lt.mpr h1), if_neg (Int32.not_lt.mpr h10)]
      · rfl
  ·
    refine r_iconst hX dX6_held_4 (q := 5) rfl (v := nI 0) (by decide +kernel) ?_
    refine r_goto hX dX6_held_5 (tgt := 18) (by decide) ?_
    refine r_iret hX hR dX6_held_18 ?_
    -- leaf 2 at 18
    refine ⟨congrArg (fun z => some (Value.int z)) ?_, ?_⟩
    ·
      unfold heS
      rw [nI_0]
      first
        | rw [if_pos (Int32.not_le.mp h1)]
        | rw [if_neg (Int32.not_lt.mpr h1), if_pos (Int32.not_le.mp h10)]
        | rw [if_neg (Int32.not_lt.mpr h1), if_neg (Int32.not_lt.mpr h10)]
    · rfl

set_option maxRecDepth 100000 in
set_option maxHeartbeats 4000000 in
theorem c_X6_row (l : Launch) (Γ : Gam) (G : GG) (a c : Nat) (ha : lay a = (7, 115)) (hc : lay c = (7, 115)) (hac : ¬ a = c) : Sp l yX6_row cX6_row 3 none 0 0 [.ref (gad Γ a), .ref (gad Γ c)] Γ G (eV (upc G c (rwK (G a) (G c) 115))) := by
  refine Sp_of (own := RX6) rfl (by decide +kernel) rfl (Nat.le_of_ble_eq_true rfl) (fun X hX hR => ?_)
  show WP X Γ 0 [some (.ref (gad Γ a)), some (.ref (gad Γ c)), none] [] G
  refine r_iconst hX dX6_row_0 (q := 1) rfl (v := nI 0) (by decide +kernel) ?_
  refine r_istore2 hX dX6_row_1 (q := 2) rfl rfl ?_
  have L2 : ∀ (zn2 : Nat) (k : Nat) (G1 : GG), zn2 = 115 - k → (k ≤ 115) → (G1 = upc G c (rwK (G a) (G c) k)) → WP X Γ 2 [some (.ref (gad Γ a)), some (.ref (gad Γ c)), some (.int (nI k))] [] G1 := by
    intro zn2
    induction zn2 using Nat.strongRecOn with
    | _ zn2 ih2 =>
      intro k G1 zh2 hk hG
      refine r_iload2 hX dX6_row_2 (q := 3) rfl ?_
      refine r_bipush hX dX6_row_3 (q := 5) rfl (v := nI 115) (by decide +kernel) ?_
      refine r_icmpN_ge hX dX6_row_5 (q := 8) rfl (tgt := 20) (by decide) (by first | omega | decide) (by first | omega | decide) (fun h5 => ?_) (fun h5 => ?_)
      ·
        refine r_vret hX hR dX6_row_20 ?_
        -- leaf 0 at 20
        refine ⟨rfl, ?_⟩
        have e : k = 115 := by omega
        subst e
        exact hG
      ·
        refine r_aload1 hX dX6_row_8 (q := 9) rfl ?_
        refine r_iload2 hX dX6_row_9 (q := 10) rfl ?_
        refine r_aload0 hX dX6_row_10 (q := 11) rfl ?_
        refine r_iload2 hX dX6_row_11 (q := 12) rfl ?_
        refine r_ialdN hX dX6_row_12 (q := 13) rfl ha (by repeat' (first | assumption | with_reducible exact rfl | refine e_add ?_ ?_ | refine e_mul ?_ ?_)) (by first | assumption | omega) (by first | decide | omega) ?_
        refine r_iastN hX dX6_row_13 (q := 14) rfl hc (by repeat' (first | assumption | with_reducible exact rfl | refine e_add ?_ ?_ | refine e_mul ?_ ?_)) (by first | assumption | omega) (by first | decide | omega) ?_
        refine r_iincN2 hX dX6_row_14 (q := 17) rfl rfl ?_
        refine r_goto hX dX6_row_17 (tgt := 2) (by decide) ?_
        refine ih2 _ ?_ (k + 1) _ rfl ?_ ?_
        ·
          omega
        ·
          omega
        ·
          rw [hG, show upc G c (rwK (G a) (G c) k) a k = G a k by simp [upc, hac], upc_u, rwK_s]
  refine L2 _ 0 _ rfl ?_ ?_
  ·
    exact Nat.zero_le _
  ·
    rw [rwK_0]
    funext x j
    by_cases e : x = c
    · subst e; simp [upc]
    · simp [upc, e]

set_option maxRecDepth 100000 in
set_option maxHeartbeats 4000000 in
theorem c_X6_becomes (l : Launch) (Γ : Gam) (G : GG) (i : Nat) (hi : i < 115) (x v : Int32) (hx : x = nI i) : Sp l yX6_becomes cX6_becomes 4 (some .int) 0 0 [.ref (gad Γ 47), .int x, .int v] Γ G (eI (up G 48 i v) (G 48 i)) := by
  refine Sp_of (own := RX6) rfl (by decide +kernel) rfl (Nat.le_of_ble_eq_true rfl) (fun X hX hR => ?_)
  show WP X Γ 0 [some (.ref (gad Γ 47)), some (.int x), some (.int v), none] [] G
  refine r_aload0 hX dX6_becomes_0 (q := 1) rfl ?_
  refine r_getR hX dX6_becomes_1 (q := 4) rfl fX6_9 rfl ⟨by decide, by decide, rfl⟩ ?_
  refine r_iload1 hX dX6_becomes_4 (q := 5) rfl ?_
  refine r_ialdN hX dX6_becomes_5 (q := 6) rfl rfl (by repeat' (first | assumption | with_reducible exact rfl | refine e_add ?_ ?_ | refine e_mul ?_ ?_)) (by first | assumption | omega) (by first | decide | omega) ?_
  refine r_istore3 hX dX6_becomes_6 (q := 7) rfl rfl ?_
  refine r_aload0 hX dX6_becomes_7 (q := 8) rfl ?_
  refine r_getR hX dX6_becomes_8 (q := 11) rfl fX6_9 rfl ⟨by decide, by decide, rfl⟩ ?_
  refine r_iload1 hX dX6_becomes_11 (q := 12) rfl ?_
  refine r_iload2 hX dX6_becomes_12 (q := 13) rfl ?_
  refine r_iastN hX dX6_becomes_13 (q := 14) rfl rfl (by repeat' (first | assumption | with_reducible exact rfl | refine e_add ?_ ?_ | refine e_mul ?_ ?_)) (by first | assumption | omega) (by first | decide | omega) ?_
  refine r_iload3 hX dX6_becomes_14 (q := 15) rfl ?_
  refine r_iret hX hR dX6_becomes_15 ?_
  -- leaf 0 at 15
  refine ⟨congrArg (fun z => some (Value.int z)) ?_, ?_⟩
  ·
    rfl
  · rfl

set_option maxRecDepth 100000 in
set_option maxHeartbeats 4000000 in
theorem c_X6_isFood (l : Launch) (Γ : Gam) (G : GG) (v : Int32) : Sp l yX6_isFood cX6_isFood 1 (some .boolean) 1 25 [.int v] Γ G (eB G (decide (nI 0 ≤ v ∧ v ≤ nI 9))) := by
  refine Sp_of (own := RX6) rfl (by decide +kernel) rfl (Nat.le_of_ble_eq_true rfl) (fun X hX hR => ?_)
  show WP X Γ 0 [some (.int v)] [] G
  refine r_iload0 hX dX6_isFood_0 (q := 1) rfl ?_
  refine r_i2l hX dX6_isFood_1 (q := 2) rfl ?_
  refine r_lconst hX dX6_isFood_2 (q := 3) rfl (v := (nI 0).toInt64) (by decide +kernel) ?_
  refine r_ldc2 hX dX6_isFood_3 (q := 6) rfl qX6_40 ?_
  refine r_callS hX dX6_isFood_6 (q := 9) rfl (c_X6_in _ Γ _ _ _ _) kX6_42 mlX6_in msX6_in rfl rfl ⟨by decide, by decide⟩ (Nat.le_of_ble_eq_true rfl) (keB ?_)
  refine r_zret hX hR dX6_isFood_9 ?_
  -- leaf 0 at 9
  refine ⟨congrArg (fun z => some (Value.int (bi z))) ?_, ?_⟩
  ·
    rfl
  · rfl

set_option maxRecDepth 100000 in
set_option maxHeartbeats 4000000 in
theorem c_X6_isKind (l : Launch) (Γ : Gam) (G : GG) (v : Int32) : Sp l yX6_isKind cX6_isKind 1 (some .boolean) 1 25 [.int v] Γ G (eB G (decide (nI 0 ≤ v ∧ v ≤ nI 6))) := by
  refine Sp_of (own := RX6) rfl (by decide +kernel) rfl (Nat.le_of_ble_eq_true rfl) (fun X hX hR => ?_)
  show WP X Γ 0 [some (.int v)] [] G
  refine r_iload0 hX dX6_isKind_0 (q := 1) rfl ?_
  refine r_i2l hX dX6_isKind_1 (q := 2) rfl ?_
  refine r_lconst hX dX6_isKind_2 (q := 3) rfl (v := (nI 0).toInt64) (by decide +kernel) ?_
  refine r_ldc2 hX dX6_isKind_3 (q := 6) rfl qX6_46 ?_
  refine r_callS hX dX6_isKind_6 (q := 9) rfl (c_X6_in _ Γ _ _ _ _) kX6_42 mlX6_in msX6_in rfl rfl ⟨by decide, by decide⟩ (Nat.le_of_ble_eq_true rfl) (keB ?_)
  refine r_zret hX hR dX6_isKind_9 ?_
  -- leaf 0 at 9
  refine ⟨congrArg (fun z => some (Value.int (bi z))) ?_, ?_⟩
  ·
    rfl
  · rfl

set_option maxRecDepth 100000 in
set_option maxHeartbeats 4000000 in
theorem c_X6_isPut (l : Launch) (Γ : Gam) (G : GG) (v : Int32) : Sp l yX6_isPut cX6_isPut 1 (some .boolean) 1 25 [.int v] Γ G (eB G (decide (nI 1 ≤ v ∧ v ≤ nI 20))) := by
  refine Sp_of (own := RX6) rfl (by decide +kernel) rfl (Nat.le_of_ble_eq_true rfl) (fun X hX hR => ?_)
  show WP X Γ 0 [some (.int v)] [] G
  refine r_iload0 hX dX6_isPut_0 (q := 1) rfl ?_
  refine r_i2l hX dX6_isPut_1 (q := 2) rfl ?_
  refine r_lconst hX dX6_isPut_2 (q := 3) rfl (v := (nI 1).toInt64) (by decide +kernel) ?_
  refine r_ldc2 hX dX6_isPut_3 (q := 6) rfl qX6_48 ?_
  refine r_callS hX dX6_isPut_6 (q := 9) rfl (c_X6_in _ Γ _ _ _ _) kX6_42 mlX6_in msX6_in rfl rfl ⟨by decide, by decide⟩ (Nat.le_of_ble_eq_true rfl) (keB ?_)
  refine r_zret hX hR dX6_isPut_9 ?_
  -- leaf 0 at 9
  refine ⟨congrArg (fun z => some (Value.int (bi z))) ?_, ?_⟩
  ·
    rfl
  · rfl

set_option maxRecDepth 100000 in
set_option maxHeartbeats 4000000 in
theorem c_X6_isSheet (l : Launch) (Γ : Gam) (G : GG) (v : Int32) : Sp l yX6_isSheet cX6_isSheet 1 (some .boolean) 1 25 [.int v] Γ G (eB G (decide (nI 0 ≤ v ∧ v ≤ nI 3))) := by
  refine Sp_of (own := RX6) rfl (by decide +kernel) rfl (Nat.le_of_ble_eq_true rfl) (fun X hX hR => ?_)
  show WP X Γ 0 [some (.int v)] [] G
  refine r_iload0 hX dX6_isSheet_0 (q := 1) rfl ?_
  refine r_i2l hX dX6_isSheet_1 (q := 2) rfl ?_
  refine r_lconst hX dX6_isSheet_2 (q := 3) rfl (v := (nI 0).toInt64) (by decide +kernel) ?_
  refine r_ldc2 hX dX6_isSheet_3 (q := 6) rfl qX6_63 ?_
  refine r_callS hX dX6_isSheet_6 (q := 9) rfl (c_X6_in _ Γ _ _ _ _) kX6_42 mlX6_in msX6_in rfl rfl ⟨by decide, by decide⟩ (Nat.le_of_ble_eq_true rfl) (keB ?_)
  refine r_zret hX hR dX6_isSheet_9 ?_
  -- leaf 0 at 9
  refine ⟨congrArg (fun z => some (Value.int (bi z))) ?_, ?_⟩
  ·
    rfl
  · rfl

set_option maxRecDepth 100000 in
set_option maxHeartbeats 4000000 in
theorem c_X6_isTaste (l : Launch) (Γ : Gam) (G : GG) (μ : MU) (hM : MR G μ) (x : Int32) : Sp l yX6_isTaste cX6_isTaste 2 (some .boolean) 1 25 [.ref (gad Γ 47), .int x] Γ G (eB G (decide (nI 0 ≤ x ∧ x ≤ μ 8 - nI 1))) := by
  refine Sp_of (own := RX6) rfl (by decide +kernel) rfl (Nat.le_of_ble_eq_true rfl) (fun X hX hR => ?_)
  show WP X Γ 0 [some (.ref (gad Γ 47)), some (.int x)] [] G
  refine r_iload1 hX dX6_isTaste_0 (q := 1) rfl ?_
  refine r_i2l hX dX6_isTaste_1 (q := 2) rfl ?_
  refine r_lconst hX dX6_isTaste_2 (q := 3) rfl (v := (nI 0).toInt64) (by decide +kernel) ?_
  refine r_aload0 hX dX6_isTaste_3 (q := 4) rfl ?_
  refine r_getR hX dX6_isTaste_4 (q := 7) rfl fX6_9 rfl ⟨by decide, by decide, rfl⟩ ?_
  refine r_bipush hX dX6_isTaste_7 (q := 9) rfl (v := nI 8) (by decide +kernel) ?_
  refine r_ialdN hX dX6_isTaste_9 (q := 10) rfl rfl (by repeat' (first | assumption | with_reducible exact rfl | refine e_add ?_ ?_ | refine e_mul ?_ ?_)) (by first | assumption | omega) (by first | decide | omega) ?_
  refine r_iconst hX dX6_isTaste_10 (q := 11) rfl (v := nI 1) (by decide +kernel) ?_
  rw [hM 8 (by decide)]
  refine r_isub hX dX6_isTaste_11 (q := 12) rfl ?_
  refine r_i2l hX dX6_isTaste_12 (q := 13) rfl ?_
  refine r_callS hX dX6_isTaste_13 (q := 16) rfl (c_X6_in _ Γ _ _ _ _) kX6_42 mlX6_in msX6_in rfl rfl ⟨by decide, by decide⟩ (Nat.le_of_ble_eq_true rfl) (keB ?_)
  refine r_zret hX hR dX6_isTaste_16 ?_
  -- leaf 0 at 16
  refine ⟨congrArg (fun z => some (Value.int (bi z))) ?_, ?_⟩
  ·
    rfl
  · rfl

set_option maxRecDepth 100000 in
set_option maxHeartbeats 4000000 in
theorem c_X6_of (l : Launch) (Γ : Gam) (G : GG) (x y : Int32) (t w : Nat) (hx : x = nI t) (hy : y = nI w) (ht : t < 10) (hw : w < 3) : Sp l yX6_of cX6_of 3 (some .int) 0 0 [.ref (gad Γ 47), .int x, .int y] Γ G (eI G (G 48 (40 + 3 * t + w))) := by
  refine Sp_of (own := RX6) rfl (by decide +kernel) rfl (Nat.le_of_ble_eq_true rfl) (fun X hX hR => ?_)
  show WP X Γ 0 [some (.ref (gad Γ 47)), some (.int x), some (.int y)] [] G
  subst hx
  subst hy
  refine r_aload0 hX dX6_of_0 (q := 1) rfl ?_
  refine r_getR hX dX6_of_1 (q := 4) rfl fX6_9 rfl ⟨by decide, by decide, rfl⟩ ?_
  refine r_bipush hX dX6_of_4 (q := 6) rfl (v := nI 40) (by decide +kernel) ?_
  refine r_iconst hX dX6_of_6 (q := 7) rfl (v := nI 3) (by decide +kernel) ?_
  refine r_iload1 hX dX6_of_7 (q := 8) rfl ?_
  refine r_imul hX dX6_of_8 (q := 9) rfl ?_
  refine r_iadd hX dX6_of_9 (q := 10) rfl ?_
  refine r_iload2 hX dX6_of_10 (q := 11) rfl ?_
  refine r_iadd hX dX6_of_11 (q := 12) rfl ?_
  refine r_ialdN hX dX6_of_12 (q := 13) rfl rfl (e_add (e_add rfl (e_mul rfl rfl)) rfl) (by omega) (by first | decide | omega) ?_
  refine r_iret hX hR dX6_of_13 ?_
  -- leaf 0 at 13
  refine ⟨congrArg (fun z => some (Value.int z)) ?_, ?_⟩
  ·
    rfl
  · rfl

set_option maxRecDepth 100000 in
set_option maxHeartbeats 4000000 in
theorem c_X6_like (l : Launch) (Γ : Gam) (G : GG) (x : Int32) (f : Nat) (hx : x = nI f) (hf : f < 10) : Sp l yX6_like cX6_like 2 (some .int) 0 0 [.ref (gad Γ 47), .int x] Γ G (eI G (G 48 (10 + 3 * f))) := by
  refine Sp_of (own := RX6) rfl (by decide +kernel) rfl (Nat.le_of_ble_eq_true rfl) (fun X hX hR => ?_)
  show WP X Γ 0 [some (.ref (gad Γ 47)), some (.int x)] [] G
  subst hx
  refine r_aload0 hX dX6_like_0 (q := 1) rfl ?_
  refine r_getR hX dX6_like_1 (q := 4) rfl fX6_9 rfl ⟨by decide, by decide, rfl⟩ ?_
  refine r_bipush hX dX6_like_4 (q := 6) rfl (v := nI 10) (by decide +kernel) ?_
  refine r_iconst hX dX6_like_6 (q := 7) rfl (v := nI 3) (by decide +kernel) ?_
  refine r_iload1 hX dX6_like_7 (q := 8) rfl ?_
  refine r_imul hX dX6_like_8 (q := 9) rfl ?_
  refine r_iadd hX dX6_like_9 (q := 10) rfl ?_
  refine r_ialdN hX dX6_like_10 (q := 11) rfl rfl (e_add rfl (e_mul rfl rfl)) (by omega) (by first | decide | omega) ?_
  refine r_iret hX hR dX6_like_11 ?_
  -- leaf 0 at 11
  refine ⟨congrArg (fun z => some (Value.int z)) ?_, ?_⟩
  ·
    rfl
  · rfl
