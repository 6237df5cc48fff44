set_option maxRecDepth 100000 in
set_option maxHeartbeats 4000000 in
theorem c_X4_kindWord (l : Launch) (Γ : Gam) (G : GG) (x : Int32) (j : Nat) (hx : x = nI j) (hj : j < 7) : Sp l yX4_kindWord cX4_kindWord 1 (some (.object "java/lang/String")) 0 0 [.int x] Γ G (eR G (gK Γ (4 + j))) := by
  refine Sp_of (own := RX4) rfl (by decide +kernel) rfl (Nat.le_of_ble_eq_true rfl) (fun X hX hR => ?_)
  show WP X Γ 0 [some (.int x)] [] G
  subst hx
  refine r_iload0 hX dX4_kindWord_0 (q := 1) rfl ?_
  refine r_tabCase hX dX4_kindWord_1 1 ⟨by decide, by decide, by decide, rfl, (by decide : (1 : Int) + 39 = (40 : Nat))⟩ (fun h1_1 => ?_) (fun h1_1 => ?_)
  ·
    refine r_ldcS hX dX4_kindWord_40 (q := 42) (i := 5) (tx := "licked") rfl (by decide +kernel) ?_
    refine r_aret hX hR (Or.inl ⟨_, rfl⟩) dX4_kindWord_42 ?_
    -- leaf 0 at 42
    refine ⟨?_, ?_⟩
    ·
      have e : j = 1 := (nI_eq (by omega) (by decide)).mp h1_1
      subst e
      rfl
    · rfl
  refine r_tabCase hX dX4_kindWord_1 2 ⟨by decide, by decide, by decide, rfl, (by decide : (1 : Int) + 42 = (43 : Nat))⟩ (fun h1_2 => ?_) (fun h1_2 => ?_)
  ·
    refine r_ldcS hX dX4_kindWord_43 (q := 45) (i := 6) (tx := "pressed") rfl (by decide +kernel) ?_
    refine r_aret hX hR (Or.inl ⟨_, rfl⟩) dX4_kindWord_45 ?_
    -- leaf 1 at 45
    refine ⟨?_, ?_⟩
    ·
      have e : j = 2 := (nI_eq (by omega) (by decide)).mp h1_2
      subst e
      rfl
    · rfl
  refine r_tabCase hX dX4_kindWord_1 3 ⟨by decide, by decide, by decide, rfl, (by decide : (1 : Int) + 45 = (46 : Nat))⟩ (fun h1_3 => ?_) (fun h1_3 => ?_)
  ·
    refine r_ldcS hX dX4_kindWord_46 (q := 48) (i := 7) (tx := "paid") rfl (by decide +kernel) ?_
    refine r_aret hX hR (Or.inl ⟨_, rfl⟩) dX4_kindWord_48 ?_
    -- leaf 2 at 48
    refine ⟨?_, ?_⟩
    ·
      have e : j = 3 := (nI_eq (by omega) (by decide)).mp h1_3
      subst e
      rfl
    · rfl
  refine r_tabCase hX dX4_kindWord_1 4 ⟨by decide, by decide, by decide, rfl, (by decide : (1 : Int) + 48 = (49 : Nat))⟩ (fun h1_4 => ?_) (fun h1_4 => ?_)
  ·
    refine r_ldcS hX dX4_kindWord_49 (q := 51) (i := 8) (tx := "copied") rfl (by decide +kernel) ?_
    refine r_aret hX hR (Or.inl ⟨_, rfl⟩) dX4_kindWord_51 ?_
    -- leaf 3 at 51
    refine ⟨?_, ?_⟩
    ·
      have e : j = 4 := (nI_eq (by omega) (by decide)).mp h1_4
      subst e
      rfl
    · rfl
  refine r_tabCase hX dX4_kindWord_1 5 ⟨by decide, by decide, by decide, rfl, (by decide : (1 : Int) + 51 = (52 : Nat))⟩ (fun h1_5 => ?_) (fun h1_5 => ?_)
  ·
    refine r_ldcS hX dX4_kindWord_52 (q := 54) (i := 9) (tx := "grown") rfl (by decide +kernel) ?_
    refine r_aret hX hR (Or.inl ⟨_, rfl⟩) dX4_kindWord_54 ?_
    -- leaf 4 at 54
    refine ⟨?_, ?_⟩
    ·
      have e : j = 5 := (nI_eq (by omega) (by decide)).mp h1_5
      subst e
      rfl
    · rfl
  refine r_tabCase hX dX4_kindWord_1 6 ⟨by decide, by decide, by decide, rfl, (by decide : (1 : Int) + 54 = (55 : Nat))⟩ (fun h1_6 => ?_) (fun h1_6 => ?_)
  ·
    refine r_ldcS hX dX4_kindWord_55 (q := 57) (i := 10) (tx := "hidden") rfl (by decide +kernel) ?_
    refine r_aret hX hR (Or.inl ⟨_, rfl⟩) dX4_kindWord_57 ?_
    -- leaf 5 at 57
    refine ⟨?_, ?_⟩
    ·
      have e : j = 6 := (nI_eq (by omega) (by decide)).mp h1_6
      subst e
      rfl
    · rfl
  refine r_tabOut hX dX4_kindWord_1 (by have z1 := nI_neT h1_1 (by decide); have z2 := nI_neT h1_2 (by decide); have z3 := nI_neT h1_3 (by decide); have z4 := nI_neT h1_4 (by decide); have z5 := nI_neT h1_5 (by decide); have z6 := nI_neT h1_6 (by decide); omega) (tgt := 58) (by decide) ?_
  refine r_ldcS hX dX4_kindWord_58 (q := 60) (i := 4) (tx := "taste") rfl (by decide +kernel) ?_
  refine r_aret hX hR (Or.inl ⟨_, rfl⟩) dX4_kindWord_60 ?_
  -- leaf 6 at 60
  refine ⟨?_, ?_⟩
  ·
    have e : j = 0 := by
      have a1 : ¬ j = 1 := fun z => h1_1 (by rw [z])
      have a2 : ¬ j = 2 := fun z => h1_2 (by rw [z])
      have a3 : ¬ j = 3 := fun z => h1_3 (by rw [z])
      have a4 : ¬ j = 4 := fun z => h1_4 (by rw [z])
      have a5 : ¬ j = 5 := fun z => h1_5 (by rw [z])
      have a6 : ¬ j = 6 := fun z => h1_6 (by rw [z])
      omega
    subst e
    rfl
  · rfl

set_option maxRecDepth 100000 in
set_option maxHeartbeats 4000000 in
theorem c_X4_partTold (l : Launch) (Γ : Gam) (G : GG) (T : MU) (n c k : Nat) (μ : MU) (b : Nat) (hS : TxS G G T n c k μ) (hV : Inv b μ) : Sp l yX4_partTold cX4_partTold 1 (some .int) 5 107 [.ref (gad Γ 31)] Γ G (eI G (ptF T n (pk T n k))) := by
  refine Sp_of (own := RX4) rfl (by decide +kernel) rfl (Nat.le_of_ble_eq_true rfl) (fun X hX hR => ?_)
  show WP X Γ 0 [some (.ref (gad Γ 31))] [] G
  refine r_aload0 hX dX4_partTold_0 (q := 1) rfl ?_
  refine r_ldcS hX dX4_partTold_1 (q := 3) (i := 0) (tx := "bent") rfl (by decide +kernel) ?_
  refine r_callV hX dX4_partTold_3 (q := 6) rfl (c_X3_isAtWord _ Γ _ T n c k hS.1.1 hS.1.2.1 hS.1.2.2 0 (by omega)) kX4_43 mlX3_isAtWord mvX3_isAtWord rfl rfl rfl ⟨by decide, rfl⟩ ⟨by decide, by decide⟩ (Nat.le_of_ble_eq_true rfl) (keB ?_)
  first | with_reducible refine r_ifd_eq hX dX4_partTold_6 (q := 9) rfl (tgt := 11) (by decide) (fun h6 => ?_) (fun h6 => ?_) | refine r_ifb_eq hX dX4_partTold_6 (q := 9) rfl (tgt := 11) (by decide) (fun h6 => ?_) (fun h6 => ?_)
  ·
    refine r_aload0 hX dX4_partTold_11 (q := 12) rfl ?_
    refine r_ldcS hX dX4_partTold_12 (q := 14) (i := 1) (tx := "hunger") rfl (by decide +kernel) ?_
    refine r_callV hX dX4_partTold_14 (q := 17) rfl (c_X3_isAtWord _ Γ _ T n c k hS.1.1 hS.1.2.1 hS.1.2.2 1 (by omega)) kX4_43 mlX3_isAtWord mvX3_isAtWord rfl rfl rfl ⟨by decide, rfl⟩ ⟨by decide, by decide⟩ (Nat.le_of_ble_eq_true rfl) (keB ?_)
    first | with_reducible refine r_ifd_eq hX dX4_partTold_17 (q := 20) rfl (tgt := 22) (by decide) (fun h17 => ?_) (fun h17 => ?_) | refine r_ifb_eq hX dX4_partTold_17 (q := 20) rfl (tgt := 22) (by decide) (fun h17 => ?_) (fun h17 => ?_)
    ·
      refine r_aload0 hX dX4_partTold_22 (q := 23) rfl ?_
      refine r_ldcS hX dX4_partTold_23 (q := 25) (i := 2) (tx := "weight") rfl (by decide +kernel) ?_
      refine r_callV hX dX4_partTold_25 (q := 28) rfl (c_X3_isAtWord _ Γ _ T n c k hS.1.1 hS.1.2.1 hS.1.2.2 2 (by omega)) kX4_43 mlX3_isAtWord mvX3_isAtWord rfl rfl rfl ⟨by decide, rfl⟩ ⟨by decide, by decide⟩ (Nat.le_of_ble_eq_true rfl) (keB ?_)
      first | with_reducible refine r_ifd_eq hX dX4_partTold_28 (q := 31) rfl (tgt := 33) (by decide) (fun h28 => ?_) (fun h28 => ?_) | refine r_ifb_eq hX dX4_partTold_28 (q := 31) rfl (tgt := 33) (by decide) (fun h28 => ?_) (fun h28 => ?_)
      ·
        refine r_aload0 hX dX4_partTold_33 (q := 34) rfl ?_
        refine r_ldcS hX dX4_partTold_34 (q := 36) (i := 3) (tx := "line") rfl (by decide +kernel) ?_
        refine r_callV hX dX4_partTold_36 (q := 39) rfl (c_X3_isAtWord _ Γ _ T n c k hS.1.1 hS.1.2.1 hS.1.2.2 3 (by omega)) kX4_43 mlX3_isAtWord mvX3_isAtWord rfl rfl rfl ⟨by decide, rfl⟩ ⟨by decide, by decide⟩ (Nat.le_of_ble_eq_true rfl) (keB ?_)
        first | with_reducible refine r_ifd_eq hX dX4_partTold_39 (q := 42) rfl (tgt := 46) (by decide) (fun h39 => ?_) (fun h39 => ?_) | refine r_ifb_eq hX dX4_partTold_39 (q := 42) rfl (tgt := 46) (by decide) (fun h39 => ?_) (fun h39 => ?_)
        ·
          refine r_iconst hX dX4_partTold_46 (q := 47) rfl (v := (-1)) (by decide +kernel) ?_
          refine r_iret hX hR dX4_partTold_47 ?_
          -- leaf 0 at 47
          refine ⟨congrArg (fun z => some (Value.int z)) ?_, ?_⟩
          ·
            unfold ptF
            first
              | rw [if_pos h6]
              | rw [if_neg (by rw [h6]; decide), if_pos h17]
              | rw [if_neg (by rw [h6]; decide), if_neg (by rw [h17]; decide), if_pos h28]
              | rw [if_neg (by rw [h6]; decide), if_neg (by rw [h17]; decide), if_neg (by rw [h28]; decide), if_pos h39]
              | rw [if_neg (by rw [h6]; decide), if_neg (by rw [h17]; decide), if_neg (by rw [h28]; decide), if_neg (by rw [h39]; decide)]
          · rfl
        ·
          refine r_iconst hX dX4_partTold_42 (q := 43) rfl (v := nI 3) (by decide +kernel) ?_
          refine r_goto hX dX4_partTold_43 (tgt := 47) (by decide) ?_
          refine r_iret hX hR dX4_partTold_47 ?_
          -- leaf 1 at 47
          refine ⟨congrArg (fun z => some (Value.int z)) ?_, ?_⟩
          ·
            unfold ptF
            first
              | rw [if_pos h6]
              | rw [if_neg (by rw [h6]; decide), if_pos h17]
              | rw [if_neg (by rw [h6]; decide), if_neg (by rw [h17]; decide), if_pos h28]
              | rw [if_neg (by rw [h6]; decide), if_neg (by rw [h17]; decide), if_neg (by rw [h28]; decide), if_pos h39]
              | rw [if_neg (by rw [h6]; decide), if_neg (by rw [h17]; decide), if_neg (by rw [h28]; decide), if_neg (by rw [h39]; decide)]
          · rfl
      ·
        refine r_iconst hX dX4_partTold_31 (q := 32) rfl (v := nI 2) (by decide +kernel) ?_
        refine r_iret hX hR dX4_partTold_32 ?_
        -- leaf 2 at 32
        refine ⟨congrArg (fun z => some (Value.int z)) ?_, ?_⟩
        ·
          unfold ptF
          first
            | rw [if_pos h6]
            | rw [if_neg (by rw [h6]; decide), if_pos h17]
            | rw [if_neg (by rw [h6]; decide), if_neg (by rw [h17]; decide), if_pos h28]
            | rw [if_neg (by rw [h6]; decide), if_neg (by rw [h17]; decide), if_neg (by rw [h28]; decide), if_pos h39]
            | rw [if_neg (by rw [h6]; decide), if_neg (by rw [h17]; decide), if_neg (by rw [h28]; decide), if_neg (by rw [h39]; decide)]
        · rfl
    ·
      refine r_iconst hX dX4_partTold_20 (q := 21) rfl (v := nI 1) (by decide +kernel) ?_
      refine r_iret hX hR dX4_partTold_21 ?_
      -- leaf 3 at 21
      refine ⟨congrArg (fun z => some (Value.int z)) ?_, ?_⟩
      ·
        unfold ptF
        first
          | rw [if_pos h6]
          | rw [if_neg (by rw [h6]; decide), if_pos h17]
          | rw [if_neg (by rw [h6]; decide), if_neg (by rw [h17]; decide), if_pos h28]
          | rw [if_neg (by rw [h6]; decide), if_neg (by rw [h17]; decide), if_neg (by rw [h28]; decide), if_pos h39]
          | rw [if_neg (by rw [h6]; decide), if_neg (by rw [h17]; decide), if_neg (by rw [h28]; decide), if_neg (by rw [h39]; decide)]
      · rfl
  ·
    refine r_iconst hX dX4_partTold_9 (q := 10) rfl (v := nI 0) (by decide +kernel) ?_
    refine r_iret hX hR dX4_partTold_10 ?_
    -- leaf 4 at 10
    refine ⟨congrArg (fun z => some (Value.int z)) ?_, ?_⟩
    ·
      unfold ptF
      first
        | rw [if_pos h6]
        | rw [if_neg (by rw [h6]; decide), if_pos h17]
        | rw [if_neg (by rw [h6]; decide), if_neg (by rw [h17]; decide), if_pos h28]
        | rw [if_neg (by rw [h6]; decide), if_neg (by rw [h17]; decide), if_neg (by rw [h28]; decide), if_pos h39]
        | rw [if_neg (by rw [h6]; decide), if_neg (by rw [h17]; decide), if_neg (by rw [h28]; decide), if_neg (by rw [h39]; decide)]
    · rfl

set_option maxRecDepth 100000 in
set_option maxHeartbeats 4000000 in
theorem c_X4_kindTold (l : Launch) (Γ : Gam) (G : GG) (T : MU) (n c k : Nat) (μ : MU) (b : Nat) (hS : TxS G G T n c k μ) (hV : Inv b μ) : Sp l yX4_kindTold cX4_kindTold 2 (some .int) 5 107 [.ref (gad Γ 31)] Γ G (eI G (kdF T n (pk T n k) 7)) := by
  refine Sp_of (own := RX4) rfl (by decide +kernel) rfl (Nat.le_of_ble_eq_true rfl) (fun X hX hR => ?_)
  show WP X Γ 0 [some (.ref (gad Γ 31)), none] [] G
  refine r_iconst hX dX4_kindTold_0 (q := 1) rfl (v := nI 0) (by decide +kernel) ?_
  refine r_istore1 hX dX4_kindTold_1 (q := 2) rfl rfl ?_
  have L2 : ∀ (zn2 : Nat) (j : Nat), zn2 = 7 - j → (j ≤ 7) → (kdF T n (pk T n k) 7 = kdF T n (pk T n k) (7 - j)) → WP X Γ 2 [some (.ref (gad Γ 31)), some (.int (nI j))] [] G := by
    intro zn2
    induction zn2 using Nat.strongRecOn with
    | _ zn2 ih2 =>
      intro j zh2 hj he
      refine r_iload1 hX dX4_kindTold_2 (q := 3) rfl ?_
      refine r_bipush hX dX4_kindTold_3 (q := 5) rfl (v := nI 7) (by decide +kernel) ?_
      refine r_icmpN_ge hX dX4_kindTold_5 (q := 8) rfl (tgt := 27) (by decide) (by first | omega | decide) (by first | omega | decide) (fun h5 => ?_) (fun h5 => ?_)
      ·
        refine r_iconst hX dX4_kindTold_27 (q := 28) rfl (v := (-1)) (by decide +kernel) ?_
        refine r_iret hX hR dX4_kindTold_28 ?_
        -- leaf 0 at 28
        refine ⟨congrArg (fun z => some (Value.int z)) ?_, ?_⟩
        ·
          rw [he, show 7 - j = 0 by omega]
          rfl
        · rfl
      ·
        refine r_aload0 hX dX4_kindTold_8 (q := 9) rfl ?_
        refine r_iload1 hX dX4_kindTold_9 (q := 10) rfl ?_
        refine r_callS hX dX4_kindTold_10 (q := 13) rfl (c_X4_kindWord _ Γ _ _ j rfl (by omega)) kX4_68 mlX4_kindWord msX4_kindWord rfl rfl ⟨by decide, by decide⟩ (Nat.le_of_ble_eq_true rfl) (keR ?_)
        refine r_callV hX dX4_kindTold_13 (q := 16) rfl (c_X3_isAtWord _ Γ _ T n c k hS.1.1 hS.1.2.1 hS.1.2.2 (4 + j) (by omega)) kX4_43 mlX3_isAtWord mvX3_isAtWord rfl rfl rfl ⟨by decide, rfl⟩ ⟨by decide, by decide⟩ (Nat.le_of_ble_eq_true rfl) (keB ?_)
        first | with_reducible refine r_ifd_eq hX dX4_kindTold_16 (q := 19) rfl (tgt := 21) (by decide) (fun h16 => ?_) (fun h16 => ?_) | refine r_ifb_eq hX dX4_kindTold_16 (q := 19) rfl (tgt := 21) (by decide) (fun h16 => ?_) (fun h16 => ?_)
        ·
          refine r_iincN1 hX dX4_kindTold_21 (q := 24) rfl rfl ?_
          refine r_goto hX dX4_kindTold_24 (tgt := 2) (by decide) ?_
          refine ih2 _ ?_ (j + 1) rfl ?_ ?_
          ·
            omega
          ·
            omega
          ·
            rw [he, show 7 - j = (7 - (j + 1)) + 1 by omega]
            show (if wdB T n (pk T n k) (4 + (6 - (7 - (j + 1)))) = true then _ else _) = _
            rw [show 6 - (7 - (j + 1)) = j by omega, if_neg (by rw [h16]; decide)]
        ·
          refine r_iload1 hX dX4_kindTold_19 (q := 20) rfl ?_
          refine r_iret hX hR dX4_kindTold_20 ?_
          -- leaf 1 at 20
          refine ⟨congrArg (fun z => some (Value.int z)) ?_, ?_⟩
          ·
            rw [he, show 7 - j = (7 - (j + 1)) + 1 by omega]
            show _ = (if wdB T n (pk T n k) (4 + (6 - (7 - (j + 1)))) = true then _ else _)
            rw [show 6 - (7 - (j + 1)) = j by omega, if_pos h16]
          · rfl
  refine L2 _ 0 rfl ?_ ?_
  ·
    exact Nat.zero_le _
  ·
    rfl

set_option maxRecDepth 100000 in
set_option maxHeartbeats 4000000 in
theorem c_X4_readPart (l : Launch) (Γ : Gam) (G : GG) (T : MU) (n c k : Nat) (μ : MU) (b : Nat) (hS : TxS G G T n c k μ) (hV : Inv b μ) (x : Int32) (j : Nat) (hx : x = nI j) (hj : j < 4) (hw : ¬ srt T n (pk T n k) = 0) : Sp l yX4_readPart cX4_readPart 4 (some .boolean) 3 67 [.ref (gad Γ 31), .ref (gad Γ (ch 1 0)), .int x] Γ G (pB (fun b' G' => RdO G G' T n c b' (partF T n (pk T n k) μ j))) := by
  refine Sp_of (own := RX4) rfl (by decide +kernel) rfl (Nat.le_of_ble_eq_true rfl) (fun X hX hR => ?_)
  show WP X Γ 0 [some (.ref (gad Γ 31)), some (.ref (gad Γ (ch 1 0))), some (.int x), none] [] G
  subst hx
  obtain ⟨pl1, pl2, pl3, pl4⟩ := plo_e hj
  refine r_aload0 hX dX4_readPart_0 (q := 1) rfl ?_
  refine r_iload2 hX dX4_readPart_1 (q := 2) rfl ?_
  refine r_callN hX dX4_readPart_2 (q := 5) rfl (c_X5_partLow _ Γ _ _) kX4_86 mlX5_partLow msX5_partLow rfl rfl ⟨by decide, by decide⟩ (Nat.le_of_ble_eq_true rfl) (keI ?_)
  refine r_iload2 hX dX4_readPart_5 (q := 6) rfl ?_
  refine r_callN hX dX4_readPart_6 (q := 9) rfl (c_X5_partTop _ Γ _ _) kX4_90 mlX5_partTop msX5_partTop rfl rfl ⟨by decide, by decide⟩ (Nat.le_of_ble_eq_true rfl) (keI ?_)
  rw [pl1, pl2]
  refine r_callV hX dX4_readPart_9 (q := 12) rfl (c_X3_takenNumberBehindWord _ Γ _ T n c k hS.1.1 hS.1.2.1 hS.1.2.2 hw _ _ (plo j) (phi j) rfl rfl (by omega) (by omega)) kX4_93 mlX3_takenNumberBehindWord mvX3_takenNumberBehindWord rfl rfl rfl ⟨by decide, rfl⟩ ⟨by decide, by decide⟩ (Nat.le_of_ble_eq_true rfl) (kpI (fun v9 G9 p9 => ?_))
  have q9 := hS.tn2 hw p9
  refine r_istore3 hX dX4_readPart_12 (q := 13) rfl rfl ?_
  refine r_iload3 hX dX4_readPart_13 (q := 14) rfl ?_
  refine r_if_ge hX dX4_readPart_14 (q := 17) rfl (tgt := 19) (by decide) (fun h14 => ?_) (fun h14 => ?_)
  ·
    obtain ⟨z, e1, e2, e3, hS1⟩ := q9.1 h14
    subst e2
    refine r_aload1 hX dX4_readPart_19 (q := 20) rfl ?_
    refine r_iload2 hX dX4_readPart_20 (q := 21) rfl ?_
    refine r_iload3 hX dX4_readPart_21 (q := 22) rfl ?_
    refine r_callV hX dX4_readPart_22 (q := 25) rfl (c_X0_setPart _ Γ _ _ (by first | assumption | decide) _ _) kX4_97 mlX0_setPart mvX0_setPart rfl rfl (ch_lay (j := 0) (by first | assumption | decide) (by decide) rfl) ⟨by decide, rfl⟩ ⟨by decide, by decide⟩ (Nat.le_of_ble_eq_true rfl) (keV ?_)
    refine r_iconst hX dX4_readPart_25 (q := 26) rfl (v := nI 1) (by decide +kernel) ?_
    refine r_zret1 hX hR dX4_readPart_26 ?_
    -- leaf 0 at 26
    refine ⟨_, rfl, ?_⟩
    exact RdO.ok (hS1.wr (setP_fr Fr.rf) (setP_val hS1.2.1 hj _)) (part_s e1)
  ·
    obtain ⟨e1, hS1⟩ := q9.2 h14
    refine r_iconst hX dX4_readPart_17 (q := 18) rfl (v := nI 0) (by decide +kernel) ?_
    refine r_zret0 hX hR dX4_readPart_18 ?_
    -- leaf 1 at 18
    refine ⟨_, rfl, ?_⟩
    exact RdO.no hS1 (part_n e1)

set_option maxRecDepth 100000 in
set_option maxHeartbeats 4000000 in
theorem c_X4_readTaste (l : Launch) (Γ : Gam) (G : GG) (T : MU) (n c k : Nat) (μ : MU) (b : Nat) (hS : TxS G G T n c k μ) (hV : Inv b μ) (x : Int32) (kd : Nat) (hx : x = nI kd) (hk : kd < 7) (hw : ¬ srt T n (pk T n k) = 0) : Sp l yX4_readTaste cX4_readTaste 5 (some .boolean) 5 107 [.ref (gad Γ 31), .ref (gad Γ (ch 1 0)), .int x] Γ G (pB (fun b' G' => RdO G G' T n c b' (tasteF T n (pk T n k) μ kd))) := by
  refine Sp_of (own := RX4) rfl (by decide +kernel) rfl (Nat.le_of_ble_eq_true rfl) (fun X hX hR => ?_)
  show WP X Γ 0 [some (.ref (gad Γ 31)), some (.ref (gad Γ (ch 1 0))), some (.int x), none, none] [] G
  subst hx
  obtain ⟨m, hm, em⟩ := hV.2.2.1
  have e4 : G (ch 1 4) 3 = nI m := hS.2.1.1.2.2.2.2.2.2.2.2.trans em
  refine r_aload1 hX dX4_readTaste_0 (q := 1) rfl ?_
  refine r_getR hX dX4_readTaste_1 (q := 4) rfl fX4_103 (ch_lay (j := 0) (by first | assumption | decide) (by decide) rfl) (rC_9 (by first | assumption | decide)) ?_
  refine r_callV hX dX4_readTaste_4 (q := 7) rfl (c_X1_isFull _ Γ _ _ (by decide) m e4 hm) kX4_107 mlX1_isFull mvX1_isFull rfl rfl (ch_lay (j := 4) (by first | assumption | decide) (by decide) rfl) ⟨by decide, rfl⟩ ⟨by decide, by decide⟩ (Nat.le_of_ble_eq_true rfl) (keB ?_)
  first | with_reducible refine r_ifd_eq hX dX4_readTaste_7 (q := 10) rfl (tgt := 12) (by decide) (fun h7 => ?_) (fun h7 => ?_) | refine r_ifb_eq hX dX4_readTaste_7 (q := 10) rfl (tgt := 12) (by decide) (fun h7 => ?_) (fun h7 => ?_)
  ·
    have h10 : ¬ μ 8 = nI 10 := by rw [em]; exact nI_ne (by omega) (by omega) (by omega)
    refine r_aload0 hX dX4_readTaste_12 (q := 13) rfl ?_
    refine r_iconst hX dX4_readTaste_13 (q := 14) rfl (v := nI 0) (by decide +kernel) ?_
    refine r_bipush hX dX4_readTaste_14 (q := 16) rfl (v := nI 9) (by decide +kernel) ?_
    refine r_callV hX dX4_readTaste_16 (q := 19) rfl (c_X3_takenNumberBehindWord _ Γ _ T n c k hS.1.1 hS.1.2.1 hS.1.2.2 hw _ _ 0 9 rfl rfl (by omega) (by omega)) kX4_93 mlX3_takenNumberBehindWord mvX3_takenNumberBehindWord rfl rfl rfl ⟨by decide, rfl⟩ ⟨by decide, by decide⟩ (Nat.le_of_ble_eq_true rfl) (kpI (fun v16 G16 p16 => ?_))
    have q16 := hS.tn2 hw p16
    refine r_istore3 hX dX4_readTaste_19 (q := 20) rfl rfl ?_
    refine r_iload3 hX dX4_readTaste_20 (q := 21) rfl ?_
    refine r_if_ge hX dX4_readTaste_21 (q := 24) rfl (tgt := 26) (by decide) (fun h21 => ?_) (fun h21 => ?_)
    ·
      obtain ⟨z, e1, e2, e3, hS1⟩ := q16.1 h21
      subst e2
      refine r_iconst hX dX4_readTaste_26 (q := 27) rfl (v := nI 5) (by decide +kernel) ?_
      refine r_istore4 hX dX4_readTaste_27 (q := 29) rfl rfl ?_
      refine r_aload0 hX dX4_readTaste_29 (q := 30) rfl ?_
      refine r_ldcS hX dX4_readTaste_30 (q := 32) (i := 12) (tx := "put") rfl (by decide +kernel) ?_
      refine r_callV hX dX4_readTaste_32 (q := 35) rfl (c_X3_isAtWord _ Γ _ T n c (k + 1 + 1) hS1.1.1 hS1.1.2.1 hS1.1.2.2 12 (by omega)) kX4_43 mlX3_isAtWord mvX3_isAtWord rfl rfl rfl ⟨by decide, rfl⟩ ⟨by decide, by decide⟩ (Nat.le_of_ble_eq_true rfl) (keB ?_)
      first | with_reducible refine r_ifd_eq hX dX4_readTaste_35 (q := 38) rfl (tgt := 54) (by decide) (fun h35 => ?_) (fun h35 => ?_) | refine r_ifb_eq hX dX4_readTaste_35 (q := 38) rfl (tgt := 54) (by decide) (fun h35 => ?_) (fun h35 => ?_)
      ·
        refine r_aload1 hX dX4_readTaste_54 (q := 55) rfl ?_
        refine r_getR hX dX4_readTaste_55 (q := 58) rfl fX4_103 (ch_lay (j := 0) (by first | assumption | decide) (by decide) rfl) (rC_9 (by first | assumption | decide)) ?_
        refine r_iload2 hX dX4_readTaste_58 (q := 59) rfl ?_
        refine r_iload3 hX dX4_readTaste_59 (q := 60) rfl ?_
        refine r_iload4 hX dX4_readTaste_60 (q := 62) rfl ?_
        refine r_callV hX dX4_readTaste_62 (q := 65) rfl (c_X1_add _ Γ _ 1 (by decide) μ b (by first | exact hS2.2.1 | exact hS1.2.1) hV _ _ _ m em (by omega)) kX4_114 mlX1_add mvX1_add rfl rfl (ch_lay (j := 4) (by first | assumption | decide) (by decide) rfl) ⟨by decide, rfl⟩ ⟨by decide, by decide⟩ (Nat.le_of_ble_eq_true rfl) (kpI (fun v62 G62 p62 => ?_))
        refine r_pop hX dX4_readTaste_65 (q := 66) rfl rfl ?_
        refine r_iconst hX dX4_readTaste_66 (q := 67) rfl (v := nI 1) (by decide +kernel) ?_
        refine r_zret1 hX hR dX4_readTaste_67 ?_
        -- leaf 0 at 67
        refine ⟨_, rfl, ?_⟩
        first
          | exact RdO.ok (hS2.wr p62.2.2 p62.2.1) (taste_s h10 em (by omega) e1 (put_s h35 f1))
          | exact RdO.ok (hS1.wr p62.2.2 p62.2.1) (taste_s h10 em (by omega) e1 (put_0 (fun q => absurd (h35.symm.trans q) (by decide))))
      ·
        refine r_aload0 hX dX4_readTaste_38 (q := 39) rfl ?_
        refine r_iconst hX dX4_readTaste_39 (q := 40) rfl (v := nI 1) (by decide +kernel) ?_
        refine r_bipush hX dX4_readTaste_40 (q := 42) rfl (v := nI 20) (by decide +kernel) ?_
        refine r_callV hX dX4_readTaste_42 (q := 45) rfl (c_X3_takenNumberBehindWord _ Γ _ T n c (k + 1 + 1) hS1.1.1 hS1.1.2.1 hS1.1.2.2 (by rw [wd_srt h35]; decide) _ _ 1 20 rfl rfl (by omega) (by omega)) kX4_93 mlX3_takenNumberBehindWord mvX3_takenNumberBehindWord rfl rfl rfl ⟨by decide, rfl⟩ ⟨by decide, by decide⟩ (Nat.le_of_ble_eq_true rfl) (kpI (fun v42 G42 p42 => ?_))
        have q42 := hS1.tn2 (by rw [wd_srt h35]; decide) p42
        refine r_istore4 hX dX4_readTaste_45 (q := 47) rfl rfl ?_
        refine r_iload4 hX dX4_readTaste_47 (q := 49) rfl ?_
        refine r_if_ge hX dX4_readTaste_49 (q := 52) rfl (tgt := 54) (by decide) (fun h49 => ?_) (fun h49 => ?_)
        ·
          obtain ⟨u, f1, f2, f3, hS2⟩ := q42.1 h49
          subst f2
          refine r_aload1 hX dX4_readTaste_54 (q := 55) rfl ?_
          refine r_getR hX dX4_readTaste_55 (q := 58) rfl fX4_103 (ch_lay (j := 0) (by first | assumption | decide) (by decide) rfl) (rC_9 (by first | assumption | decide)) ?_
          refine r_iload2 hX dX4_readTaste_58 (q := 59) rfl ?_
          refine r_iload3 hX dX4_readTaste_59 (q := 60) rfl ?_
          refine r_iload4 hX dX4_readTaste_60 (q := 62) rfl ?_
          refine r_callV hX dX4_readTaste_62 (q := 65) rfl (c_X1_add _ Γ _ 1 (by decide) μ b (by first | exact hS2.2.1 | exact hS1.2.1) hV _ _ _ m em (by omega)) kX4_114 mlX1_add mvX1_add rfl rfl (ch_lay (j := 4) (by first | assumption | decide) (by decide) rfl) ⟨by decide, rfl⟩ ⟨by decide, by decide⟩ (Nat.le_of_ble_eq_true rfl) (kpI (fun v62 G62 p62 => ?_))
          refine r_pop hX dX4_readTaste_65 (q := 66) rfl rfl ?_
          refine r_iconst hX dX4_readTaste_66 (q := 67) rfl (v := nI 1) (by decide +kernel) ?_
          refine r_zret1 hX hR dX4_readTaste_67 ?_
          -- leaf 1 at 67
          refine ⟨_, rfl, ?_⟩
          first
            | exact RdO.ok (hS2.wr p62.2.2 p62.2.1) (taste_s h10 em (by omega) e1 (put_s h35 f1))
            | exact RdO.ok (hS1.wr p62.2.2 p62.2.1) (taste_s h10 em (by omega) e1 (put_0 (fun q => absurd (h35.symm.trans q) (by decide))))
        ·
          obtain ⟨f1, hS2⟩ := q42.2 h49
          refine r_iconst hX dX4_readTaste_52 (q := 53) rfl (v := nI 0) (by decide +kernel) ?_
          refine r_zret0 hX hR dX4_readTaste_53 ?_
          -- leaf 2 at 53
          refine ⟨_, rfl, ?_⟩
          exact RdO.no hS2 (taste_p h10 e1 (put_n h35 f1))
    ·
      obtain ⟨e1, hS1⟩ := q16.2 h21
      refine r_iconst hX dX4_readTaste_24 (q := 25) rfl (v := nI 0) (by decide +kernel) ?_
      refine r_zret0 hX hR dX4_readTaste_25 ?_
      -- leaf 3 at 25
      refine ⟨_, rfl, ?_⟩
      exact RdO.no hS1 (taste_n h10 e1)
  ·
    have e10 : m = 10 := by omega
    refine r_iconst hX dX4_readTaste_10 (q := 11) rfl (v := nI 0) (by decide +kernel) ?_
    refine r_zret0 hX hR dX4_readTaste_11 ?_
    -- leaf 4 at 11
    refine ⟨_, rfl, ?_⟩
    exact RdO.no hS (taste_10 (by rw [em, e10]))

set_option maxRecDepth 100000 in
set_option maxHeartbeats 4000000 in
theorem c_X4_readFood (l : Launch) (Γ : Gam) (G : GG) (T : MU) (n c k : Nat) (μ : MU) (b : Nat) (hS : TxS G G T n c k μ) (hV : Inv b μ) (hw : ¬ srt T n (pk T n k) = 0) : Sp l yX4_readFood cX4_readFood 4 (some .boolean) 5 107 [.ref (gad Γ 31), .ref (gad Γ (ch 1 0))] Γ G (pB (fun b' G' => RdO G G' T n c b' (foodF T n (pk T n k) μ))) := by
  refine Sp_of (own := RX4) rfl (by decide +kernel) rfl (Nat.le_of_ble_eq_true rfl) (fun X hX hR => ?_)
  show WP X Γ 0 [some (.ref (gad Γ 31)), some (.ref (gad Γ (ch 1 0))), none, none] [] G
  have J44 : ∀ (f k1 : Nat) (G1 : GG) (κ : MU), (f < 10) → (numF T n (nxt T n (pk T n k)) 0 9 = some f) → (TxS G G1 T n c k1 κ) → (optF T n (nxt T n (nxt T n (pk T n k))) μ 13 (10 + 3 * f) 99 = .inr (pk T n k1, κ)) → WP X Γ 44 [some (.ref (gad Γ 31)), some (.ref (gad Γ (ch 1 0))), some (.int (nI f)), none] [] G1 := by
    intro f k1 G1 κ hf e1 hS1 ho
    refine r_aload0 hX dX4_readFood_44 (q := 45) rfl ?_
    refine r_ldcS hX dX4_readFood_45 (q := 47) (i := 14) (tx := "bitter") rfl (by decide +kernel) ?_
    refine r_callV hX dX4_readFood_47 (q := 50) rfl (c_X3_isAtWord _ Γ _ T n c k1 hS1.1.1 hS1.1.2.1 hS1.1.2.2 14 (by omega)) kX4_43 mlX3_isAtWord mvX3_isAtWord rfl rfl rfl ⟨by decide, rfl⟩ ⟨by decide, by decide⟩ (Nat.le_of_ble_eq_true rfl) (keB ?_)
    first | with_reducible refine r_ifd_eq hX dX4_readFood_50 (q := 53) rfl (tgt := 74) (by decide) (fun h50 => ?_) (fun h50 => ?_) | refine r_ifb_eq hX dX4_readFood_50 (q := 53) rfl (tgt := 74) (by decide) (fun h50 => ?_) (fun h50 => ?_)
    ·
      refine r_iconst hX dX4_readFood_74 (q := 75) rfl (v := nI 1) (by decide +kernel) ?_
      refine r_zret1 hX hR dX4_readFood_75 ?_
      -- leaf 0 at 75
      refine ⟨_, rfl, ?_⟩
      first
        | exact RdO.ok (hS2.wr (Fr.rf.up (by decide)) (hS2.2.1.bit hf _)) ((food_s e1 ho).trans (opt_s h50 f1))
        | exact RdO.ok hS1 ((food_s e1 ho).trans (opt_0 (by rw [h50]; decide)))
    ·
      refine r_aload0 hX dX4_readFood_53 (q := 54) rfl ?_
      refine r_iconst hX dX4_readFood_54 (q := 55) rfl (v := nI 0) (by decide +kernel) ?_
      refine r_bipush hX dX4_readFood_55 (q := 57) rfl (v := nI 9) (by decide +kernel) ?_
      refine r_callV hX dX4_readFood_57 (q := 60) rfl (c_X3_takenNumberBehindWord _ Γ _ T n c k1 hS1.1.1 hS1.1.2.1 hS1.1.2.2 (by rw [wd_srt h50]; decide) _ _ 0 9 rfl rfl (by omega) (by omega)) kX4_93 mlX3_takenNumberBehindWord mvX3_takenNumberBehindWord rfl rfl rfl ⟨by decide, rfl⟩ ⟨by decide, by decide⟩ (Nat.le_of_ble_eq_true rfl) (kpI (fun v57 G57 p57 => ?_))
      have q57 := hS1.tn2 (by rw [wd_srt h50]; decide) p57
      refine r_istore3 hX dX4_readFood_60 (q := 61) rfl rfl ?_
      refine r_iload3 hX dX4_readFood_61 (q := 62) rfl ?_
      refine r_if_ge hX dX4_readFood_62 (q := 65) rfl (tgt := 67) (by decide) (fun h62 => ?_) (fun h62 => ?_)
      ·
        obtain ⟨u, f1, f2, f3, hS2⟩ := q57.1 h62
        subst f2
        refine r_aload1 hX dX4_readFood_67 (q := 68) rfl ?_
        refine r_getR hX dX4_readFood_68 (q := 71) rfl fX4_125 (ch_lay (j := 0) (by first | assumption | decide) (by decide) rfl) (rC_1 (by first | assumption | decide)) ?_
        refine r_iload2 hX dX4_readFood_71 (q := 72) rfl ?_
        refine r_iload3 hX dX4_readFood_72 (q := 73) rfl ?_
        refine r_iastN hX dX4_readFood_73 (q := 74) rfl (ch_lay (j := 2) (by first | assumption | decide) (by decide) rfl) (by repeat' (first | assumption | with_reducible exact rfl | refine e_add ?_ ?_ | refine e_mul ?_ ?_)) (by first | assumption | omega) (by first | decide | omega) ?_
        refine r_iconst hX dX4_readFood_74 (q := 75) rfl (v := nI 1) (by decide +kernel) ?_
        refine r_zret1 hX hR dX4_readFood_75 ?_
        -- leaf 1 at 75
        refine ⟨_, rfl, ?_⟩
        first
          | exact RdO.ok (hS2.wr (Fr.rf.up (by decide)) (hS2.2.1.bit hf _)) ((food_s e1 ho).trans (opt_s h50 f1))
          | exact RdO.ok hS1 ((food_s e1 ho).trans (opt_0 (by rw [h50]; decide)))
      ·
        obtain ⟨f1, hS2⟩ := q57.2 h62
        refine r_iconst hX dX4_readFood_65 (q := 66) rfl (v := nI 0) (by decide +kernel) ?_
        refine r_zret0 hX hR dX4_readFood_66 ?_
        -- leaf 2 at 66
        refine ⟨_, rfl, ?_⟩
        exact RdO.no hS2 ((food_s e1 ho).trans (opt_n h50 f1))
  refine r_aload0 hX dX4_readFood_0 (q := 1) rfl ?_
  refine r_iconst hX dX4_readFood_1 (q := 2) rfl (v := nI 0) (by decide +kernel) ?_
  refine r_bipush hX dX4_readFood_2 (q := 4) rfl (v := nI 9) (by decide +kernel) ?_
  refine r_callV hX dX4_readFood_4 (q := 7) rfl (c_X3_takenNumberBehindWord _ Γ _ T n c k hS.1.1 hS.1.2.1 hS.1.2.2 hw _ _ 0 9 rfl rfl (by omega) (by omega)) kX4_93 mlX3_takenNumberBehindWord mvX3_takenNumberBehindWord rfl rfl rfl ⟨by decide, rfl⟩ ⟨by decide, by decide⟩ (Nat.le_of_ble_eq_true rfl) (kpI (fun v4 G4 p4 => ?_))
  have q4 := hS.tn2 hw p4
  refine r_istore2 hX dX4_readFood_7 (q := 8) rfl rfl ?_
  refine r_iload2 hX dX4_readFood_8 (q := 9) rfl ?_
  refine r_if_ge hX dX4_readFood_9 (q := 12) rfl (tgt := 14) (by decide) (fun h9 => ?_) (fun h9 => ?_)
  ·
    obtain ⟨f, e1, e2, e3, hS1⟩ := q4.1 h9
    subst e2
    have hf : f < 10 := by omega
    refine r_aload0 hX dX4_readFood_14 (q := 15) rfl ?_
    refine r_ldcS hX dX4_readFood_15 (q := 17) (i := 13) (tx := "like") rfl (by decide +kernel) ?_
    refine r_callV hX dX4_readFood_17 (q := 20) rfl (c_X3_isAtWord _ Γ _ T n c (k + 1 + 1) hS1.1.1 hS1.1.2.1 hS1.1.2.2 13 (by omega)) kX4_43 mlX3_isAtWord mvX3_isAtWord rfl rfl rfl ⟨by decide, rfl⟩ ⟨by decide, by decide⟩ (Nat.le_of_ble_eq_true rfl) (keB ?_)
    first | with_reducible refine r_ifd_eq hX dX4_readFood_20 (q := 23) rfl (tgt := 44) (by decide) (fun h20 => ?_) (fun h20 => ?_) | refine r_ifb_eq hX dX4_readFood_20 (q := 23) rfl (tgt := 44) (by decide) (fun h20 => ?_) (fun h20 => ?_)
    ·
      refine J44 f (k + 1 + 1) _ μ ?_ ?_ ?_ ?_
      ·
        exact hf
      ·
        exact e1
      ·
        exact hS1
      ·
        exact opt_0 (fun q => absurd (h20.symm.trans q) (by decide))
    ·
      refine r_aload0 hX dX4_readFood_23 (q := 24) rfl ?_
      refine r_iconst hX dX4_readFood_24 (q := 25) rfl (v := nI 0) (by decide +kernel) ?_
      refine r_bipush hX dX4_readFood_25 (q := 27) rfl (v := nI 99) (by decide +kernel) ?_
      refine r_callV hX dX4_readFood_27 (q := 30) rfl (c_X3_takenNumberBehindWord _ Γ _ T n c (k + 1 + 1) hS1.1.1 hS1.1.2.1 hS1.1.2.2 (by rw [wd_srt h20]; decide) _ _ 0 99 rfl rfl (by omega) (by omega)) kX4_93 mlX3_takenNumberBehindWord mvX3_takenNumberBehindWord rfl rfl rfl ⟨by decide, rfl⟩ ⟨by decide, by decide⟩ (Nat.le_of_ble_eq_true rfl) (kpI (fun v27 G27 p27 => ?_))
      have q27 := hS1.tn2 (by rw [wd_srt h20]; decide) p27
      refine r_istore3 hX dX4_readFood_30 (q := 31) rfl rfl ?_
      refine r_iload3 hX dX4_readFood_31 (q := 32) rfl ?_
      refine r_if_ge hX dX4_readFood_32 (q := 35) rfl (tgt := 37) (by decide) (fun h32 => ?_) (fun h32 => ?_)
      ·
        obtain ⟨u, f1, f2, f3, hS2⟩ := q27.1 h32
        subst f2
        refine r_aload1 hX dX4_readFood_37 (q := 38) rfl ?_
        refine r_getR hX dX4_readFood_38 (q := 41) rfl fX4_120 (ch_lay (j := 0) (by first | assumption | decide) (by decide) rfl) (rC_0 (by first | assumption | decide)) ?_
        refine r_iload2 hX dX4_readFood_41 (q := 42) rfl ?_
        refine r_iload3 hX dX4_readFood_42 (q := 43) rfl ?_
        refine r_iastN hX dX4_readFood_43 (q := 44) rfl (ch_lay (j := 1) (by first | assumption | decide) (by decide) rfl) (by repeat' (first | assumption | with_reducible exact rfl | refine e_add ?_ ?_ | refine e_mul ?_ ?_)) (by first | assumption | omega) (by first | decide | omega) ?_
        refine r_drop3 ?_
        refine J44 f (k + 1 + 1 + 1 + 1) _ (upd μ (10 + 3 * f) (nI u)) ?_ ?_ ?_ ?_
        ·
          exact hf
        ·
          exact e1
        ·
          exact hS2.wr (Fr.rf.up (by decide)) (hS2.2.1.like hf _)
        ·
          exact opt_s h20 f1
      ·
        obtain ⟨f1, hS2⟩ := q27.2 h32
        refine r_iconst hX dX4_readFood_35 (q := 36) rfl (v := nI 0) (by decide +kernel) ?_
        refine r_zret0 hX hR dX4_readFood_36 ?_
        -- leaf 3 at 36
        refine ⟨_, rfl, ?_⟩
        exact RdO.no hS2 (food_o e1 (opt_n h20 f1))
  ·
    obtain ⟨e1, hS1⟩ := q4.2 h9
    refine r_iconst hX dX4_readFood_12 (q := 13) rfl (v := nI 0) (by decide +kernel) ?_
    refine r_zret0 hX hR dX4_readFood_13 ?_
    -- leaf 4 at 13
    refine ⟨_, rfl, ?_⟩
    exact RdO.no hS1 (food_n e1)

set_option maxRecDepth 100000 in
set_option maxHeartbeats 4000000 in
theorem c_X4_readPudding (l : Launch) (Γ : Gam) (G : GG) (T : MU) (n c k : Nat) (μ : MU) (b : Nat) (hS : TxS G G T n c k μ) (hV : Inv b μ) (hw : ¬ srt T n (pk T n k) = 0) : Sp l yX4_readPudding cX4_readPudding 3 (some .boolean) 3 67 [.ref (gad Γ 31), .ref (gad Γ (ch 1 0))] Γ G (pB (fun b' G' => RdO G G' T n c b' (pudF T n (pk T n k) μ))) := by
  refine Sp_of (own := RX4) rfl (by decide +kernel) rfl (Nat.le_of_ble_eq_true rfl) (fun X hX hR => ?_)
  show WP X Γ 0 [some (.ref (gad Γ 31)), some (.ref (gad Γ (ch 1 0))), none] [] G
  refine r_aload0 hX dX4_readPudding_0 (q := 1) rfl ?_
  refine r_iconst hX dX4_readPudding_1 (q := 2) rfl (v := nI 0) (by decide +kernel) ?_
  refine r_bipush hX dX4_readPudding_2 (q := 4) rfl (v := nI 9) (by decide +kernel) ?_
  refine r_callV hX dX4_readPudding_4 (q := 7) rfl (c_X3_takenNumberBehindWord _ Γ _ T n c k hS.1.1 hS.1.2.1 hS.1.2.2 hw _ _ 0 9 rfl rfl (by omega) (by omega)) kX4_93 mlX3_takenNumberBehindWord mvX3_takenNumberBehindWord rfl rfl rfl ⟨by decide, rfl⟩ ⟨by decide, by decide⟩ (Nat.le_of_ble_eq_true rfl) (kpI (fun v4 G4 p4 => ?_))
  have q4 := hS.tn2 hw p4
  refine r_istore2 hX dX4_readPudding_7 (q := 8) rfl rfl ?_
  refine r_iload2 hX dX4_readPudding_8 (q := 9) rfl ?_
  refine r_if_ge hX dX4_readPudding_9 (q := 12) rfl (tgt := 14) (by decide) (fun h9 => ?_) (fun h9 => ?_)
  ·
    obtain ⟨f, e1, e2, e3, hS1⟩ := q4.1 h9
    subst e2
    refine r_aload1 hX dX4_readPudding_14 (q := 15) rfl ?_
    refine r_iload2 hX dX4_readPudding_15 (q := 16) rfl ?_
    refine r_put hX dX4_readPudding_16 (q := 19) rfl fX4_127 wX0_7 rfl rfl (ch_lay (j := 0) (by first | assumption | decide) (by decide) rfl) (rC_7 (by first | assumption | decide)) ?_
    refine r_iconst hX dX4_readPudding_19 (q := 20) rfl (v := nI 1) (by decide +kernel) ?_
    refine r_zret1 hX hR dX4_readPudding_20 ?_
    -- leaf 0 at 20
    refine ⟨_, rfl, ?_⟩
    exact RdO.ok (hS1.wr (Fr.rf.up (by decide)) (hS1.2.1.pud _)) (pud_s e1)
  ·
    obtain ⟨e1, hS1⟩ := q4.2 h9
    refine r_iconst hX dX4_readPudding_12 (q := 13) rfl (v := nI 0) (by decide +kernel) ?_
    refine r_zret0 hX hR dX4_readPudding_13 ?_
    -- leaf 1 at 13
    refine ⟨_, rfl, ?_⟩
    exact RdO.no hS1 (pud_n e1)

set_option maxRecDepth 100000 in
set_option maxHeartbeats 4000000 in
theorem c_X4_readFriend (l : Launch) (Γ : Gam) (G : GG) (T : MU) (n c k : Nat) (μ : MU) (b : Nat) (hS : TxS G G T n c k μ) (hV : Inv b μ) (hw : ¬ srt T n (pk T n k) = 0) : Sp l yX4_readFriend cX4_readFriend 5 (some .boolean) 3 67 [.ref (gad Γ 31), .ref (gad Γ (ch 1 0))] Γ G (pB (fun b' G' => RdO G G' T n c b' (friF T n (pk T n k) μ))) := by
  refine Sp_of (own := RX4) rfl (by decide +kernel) rfl (Nat.le_of_ble_eq_true rfl) (fun X hX hR => ?_)
  show WP X Γ 0 [some (.ref (gad Γ 31)), some (.ref (gad Γ (ch 1 0))), none, none, none] [] G
  refine r_aload0 hX dX4_readFriend_0 (q := 1) rfl ?_
  refine r_iconst hX dX4_readFriend_1 (q := 2) rfl (v := nI 0) (by decide +kernel) ?_
  refine r_bipush hX dX4_readFriend_2 (q := 4) rfl (v := nI 9) (by decide +kernel) ?_
  refine r_callV hX dX4_readFriend_4 (q := 7) rfl (c_X3_takenNumberBehindWord _ Γ _ T n c k hS.1.1 hS.1.2.1 hS.1.2.2 hw _ _ 0 9 rfl rfl (by omega) (by omega)) kX4_93 mlX3_takenNumberBehindWord mvX3_takenNumberBehindWord rfl rfl rfl ⟨by decide, rfl⟩ ⟨by decide, by decide⟩ (Nat.le_of_ble_eq_true rfl) (kpI (fun v4 G4 p4 => ?_))
  have q4 := hS.tn2 hw p4
  refine r_istore2 hX dX4_readFriend_7 (q := 8) rfl rfl ?_
  refine r_iconst hX dX4_readFriend_8 (q := 9) rfl (v := nI 0) (by decide +kernel) ?_
  refine r_istore3 hX dX4_readFriend_9 (q := 10) rfl rfl ?_
  refine r_iconst hX dX4_readFriend_10 (q := 11) rfl (v := nI 0) (by decide +kernel) ?_
  refine r_istore4 hX dX4_readFriend_11 (q := 13) rfl rfl ?_
  have L13 : ∀ (zn13 : Nat) (u : Nat) (x s : Int32) (G1 : GG), zn13 = 10 - u → (u ≤ 10) → ((∃ f lo k1, x = nI f ∧ u ≤ f ∧ f ≤ 9 ∧ numF T n (pk T n k1) lo 9 = some f ∧ TxS G G1 T n c (k1 + 1) μ ∧ frF T n 11 (nxt T n (pk T n k)) 0 (nI 0) = frF T n (11 - u) (pk T n k1) lo s) ∨ (¬ 0 ≤ x ∧ ∃ k1, TxS G G1 T n c k1 μ ∧ frF T n 11 (nxt T n (pk T n k)) 0 (nI 0) = .inl (pk T n k1))) → WP X Γ 13 [some (.ref (gad Γ 31)), some (.ref (gad Γ (ch 1 0))), some (.int x), some (.int s), some (.int (nI u))] [] G1 := by
    intro zn13
    induction zn13 using Nat.strongRecOn with
    | _ zn13 ih13 =>
      intro u x s G1 zh13 hu hI
      refine r_iload4 hX dX4_readFriend_13 (q := 15) rfl ?_
      refine r_bipush hX dX4_readFriend_15 (q := 17) rfl (v := nI 10) (by decide +kernel) ?_
      refine r_icmpN_ge hX dX4_readFriend_17 (q := 20) rfl (tgt := 60) (by decide) (by first | omega | decide) (by first | omega | decide) (fun h17 => ?_) (fun h17 => ?_)
      ·
        obtain ⟨k1, hS1, hE⟩ : ∃ k1, TxS G G1 T n c k1 μ ∧ frF T n 11 (nxt T n (pk T n k)) 0 (nI 0) = .inl (pk T n k1) := by
          rcases hI with ⟨f, lo, k1, e1, e2, e3, hN, hS1, hE⟩ | hI
          · omega
          · exact hI.2
        refine r_iconst hX dX4_readFriend_60 (q := 61) rfl (v := nI 0) (by decide +kernel) ?_
        refine r_zret0 hX hR dX4_readFriend_61 ?_
        -- leaf 0 at 61
        refine ⟨_, rfl, ?_⟩
        exact RdO.no hS1 (fri_n hE)
      ·
        obtain ⟨w, g1, g2⟩ : ∃ w, 11 - u = w + 2 ∧ 11 - (u + 1) = w + 1 := ⟨9 - u, by omega, by omega⟩
        refine r_iload2 hX dX4_readFriend_20 (q := 21) rfl ?_
        refine r_if_lt hX dX4_readFriend_21 (q := 24) rfl (tgt := 60) (by decide) (fun h21 => ?_) (fun h21 => ?_)
        ·
          obtain ⟨k1, hS1, hE⟩ : ∃ k1, TxS G G1 T n c k1 μ ∧ frF T n 11 (nxt T n (pk T n k)) 0 (nI 0) = .inl (pk T n k1) := by
            rcases hI with ⟨f, lo, k1, e1, e2, e3, hN, hS1, hE⟩ | hI
            · exact absurd h21 (Int32.not_lt.mpr (by rw [e1]; exact nn_ge (by omega)))
            · exact hI.2
          refine r_iconst hX dX4_readFriend_60 (q := 61) rfl (v := nI 0) (by decide +kernel) ?_
          refine r_zret0 hX hR dX4_readFriend_61 ?_
          -- leaf 1 at 61
          refine ⟨_, rfl, ?_⟩
          exact RdO.no hS1 (fri_n hE)
        ·
          obtain ⟨f, lo, k1, ex, e2, e3, hN, hS1, hE⟩ := hI.resolve_right (fun q => q.1 (Int32.not_lt.mp h21))
          subst ex
          refine r_iload3 hX dX4_readFriend_24 (q := 25) rfl ?_
          refine r_iconst hX dX4_readFriend_25 (q := 26) rfl (v := nI 1) (by decide +kernel) ?_
          refine r_iload2 hX dX4_readFriend_26 (q := 27) rfl ?_
          refine r_ishl hX dX4_readFriend_27 (q := 28) rfl ?_
          refine r_ior hX dX4_readFriend_28 (q := 29) rfl ?_
          refine r_istore3 hX dX4_readFriend_29 (q := 30) rfl rfl ?_
          refine r_aload0 hX dX4_readFriend_30 (q := 31) rfl ?_
          refine r_callV hX dX4_readFriend_31 (q := 34) rfl (c_X3_isAtNumber _ Γ _ T n c (k1 + 1) hS1.1.1 hS1.1.2.1 hS1.1.2.2) kX4_130 mlX3_isAtNumber mvX3_isAtNumber rfl rfl rfl ⟨by decide, rfl⟩ ⟨by decide, by decide⟩ (Nat.le_of_ble_eq_true rfl) (keB ?_)
          first | with_reducible refine r_ifd_ne hX dX4_readFriend_34 (q := 37) rfl (tgt := 44) (by decide) (fun h34 => ?_) (fun h34 => ?_) | refine r_ifb_ne hX dX4_readFriend_34 (q := 37) rfl (tgt := 44) (by decide) (fun h34 => ?_) (fun h34 => ?_)
          ·
            refine r_aload0 hX dX4_readFriend_44 (q := 45) rfl ?_
            refine r_iload2 hX dX4_readFriend_45 (q := 46) rfl ?_
            refine r_iconst hX dX4_readFriend_46 (q := 47) rfl (v := nI 1) (by decide +kernel) ?_
            refine r_iadd hX dX4_readFriend_47 (q := 48) rfl ?_
            refine r_bipush hX dX4_readFriend_48 (q := 50) rfl (v := nI 9) (by decide +kernel) ?_
            refine r_callV hX dX4_readFriend_50 (q := 53) rfl (c_X3_takenNumber _ Γ _ T n c (k1 + 1) hS1.1.1 hS1.1.2.1 hS1.1.2.2 _ _ (f + 1) 9 (nI_add _ _) rfl (by omega) (by omega)) kX4_135 mlX3_takenNumber mvX3_takenNumber rfl rfl rfl ⟨by decide, rfl⟩ ⟨by decide, by decide⟩ (Nat.le_of_ble_eq_true rfl) (kpI (fun v50 G50 p50 => ?_))
            have q50 := hS1.tn1 p50
            refine r_istore2 hX dX4_readFriend_53 (q := 54) rfl rfl ?_
            refine r_iincN4 hX dX4_readFriend_54 (q := 57) rfl rfl ?_
            refine r_goto hX dX4_readFriend_57 (tgt := 13) (by decide) ?_
            refine ih13 _ ?_ (u + 1) _ _ _ rfl ?_ ?_
            ·
              omega
            ·
              omega
            ·
              have hfr : frF T n 11 (nxt T n (pk T n k)) 0 (nI 0) = frF T n (11 - (u + 1)) (pk T n (k1 + 1)) (f + 1) (s ||| (nI 1 <<< (nI f &&& 31))) := by
                rw [hE, g1, g2]
                exact fr_m hN h34
              by_cases h9 : 0 ≤ v50
              · obtain ⟨z, e1, e2, e3, hS2⟩ := q50.1 h9
                have hz := (numF_some e1).2.2.1
                exact Or.inl ⟨z, f + 1, k1 + 1, e2, by omega, e3, e1, hS2, hfr⟩
              · obtain ⟨e1, hS2⟩ := q50.2 h9
                refine Or.inr ⟨h9, k1 + 1, hS2, ?_⟩
                rw [hfr, g2]
                exact fr_n e1
          ·
            refine r_aload1 hX dX4_readFriend_37 (q := 38) rfl ?_
            refine r_iload3 hX dX4_readFriend_38 (q := 39) rfl ?_
            refine r_put hX dX4_readFriend_39 (q := 42) rfl fX4_133 wX0_8 rfl rfl (ch_lay (j := 0) (by first | assumption | decide) (by decide) rfl) (rC_8 (by first | assumption | decide)) ?_
            refine r_iconst hX dX4_readFriend_42 (q := 43) rfl (v := nI 1) (by decide +kernel) ?_
            refine r_zret1 hX hR dX4_readFriend_43 ?_
            -- leaf 2 at 43
            refine ⟨_, rfl, ?_⟩
            refine RdO.ok (hS1.wr (Fr.rf.up (by decide)) (hS1.2.1.fri _)) (fri_s ?_)
            rw [hE, g1]
            exact fr_s hN h34
  refine L13 _ 0 _ _ _ rfl ?_ ?_
  ·
    exact Nat.zero_le _
  ·
    by_cases h9 : 0 ≤ v4
    · obtain ⟨f, e1, e2, e3, hS1⟩ := q4.1 h9
      exact Or.inl ⟨f, 0, k + 1, e2, Nat.zero_le _, e3, e1, hS1, rfl⟩
    · obtain ⟨e1, hS1⟩ := q4.2 h9
      exact Or.inr ⟨h9, k + 1, hS1, fr_n e1⟩
