set_option maxRecDepth 100000 in
set_option maxHeartbeats 4000000 in
theorem c_X6_hold (l : Launch) (Γ : Gam) (G : GG) (μ : MU) (hM : MR G μ) (b : Nat) (hV : Inv b μ) (x y : Int32) : Sp l yX6_hold cX6_hold 3 (some .int) 2 46 [.ref (gad Γ 47), .int x, .int y] Γ G (pI (fun v G' => MOut G μ (oHold μ x y) v G')) := by
  refine Sp_of (own := RX6) rfl (by decide +kernel) rfl (Nat.le_of_ble_eq_true rfl) (fun X hX hR => ?_)
  show WP X Γ 0 [some (.ref (gad Γ 47)), some (.int x), some (.int y)] [] G
  refine r_iload1 hX dX6_hold_0 (q := 1) rfl ?_
  refine r_i2l hX dX6_hold_1 (q := 2) rfl ?_
  refine r_lconst hX dX6_hold_2 (q := 3) rfl (v := (nI 0).toInt64) (by decide +kernel) ?_
  refine r_ldc2 hX dX6_hold_3 (q := 6) rfl qX6_40 ?_
  refine r_callS hX dX6_hold_6 (q := 9) rfl (c_X6_in _ Γ _ _ _ _) kX6_42 mlX6_in msX6_in rfl rfl ⟨by decide, by decide⟩ (Nat.le_of_ble_eq_true rfl) (keB ?_)
  first | with_reducible refine r_ifd_eq hX dX6_hold_9 (q := 12) rfl (tgt := 25) (by decide) (fun h9 => ?_) (fun h9 => ?_) | refine r_ifb_eq hX dX6_hold_9 (q := 12) rfl (tgt := 25) (by decide) (fun h9 => ?_) (fun h9 => ?_)
  ·
    refine r_aload0 hX dX6_hold_25 (q := 26) rfl ?_
    refine r_ldc hX dX6_hold_26 (q := 28) rfl qX6_34 ?_
    refine r_callV hX dX6_hold_28 (q := 31) rfl (c_X6_finds _ Γ _ _ 0 (by decide) (by decide +kernel)) kX6_36 mlX6_finds mvX6_finds rfl rfl rfl ⟨by decide, rfl⟩ ⟨by decide, by decide⟩ (Nat.le_of_ble_eq_true rfl) (kpI (fun v28 G28 p28 => ?_))
    refine r_iret hX hR dX6_hold_31 ?_
    -- leaf 0 at 31
    refine ⟨_, rfl, ?_⟩
    first
      | (exact MOut.fin (k := 0) (if_neg (fun q => h9 q.1)) ⟨p28.1.trans (by decide +kernel), p28.2⟩ hM FrM.rf)
      | (exact MOut.fin (k := 0) (if_neg (fun q => q.2.elim h14 (fun z => h22 (of_decide_eq_true z)))) ⟨p28.1.trans (by decide +kernel), p28.2⟩ hM FrM.rf)
  ·
    obtain ⟨xl, xe⟩ := ix_of (by decide) h9
    refine r_iload2 hX dX6_hold_12 (q := 13) rfl ?_
    refine r_iconst hX dX6_hold_13 (q := 14) rfl (v := (-1)) (by decide +kernel) ?_
    first | refine r_icmpN_eq hX dX6_hold_14 (q := 17) rfl (tgt := 32) (by decide) (by first | omega | decide) (by first | omega | decide) (fun h14 => ?_) (fun h14 => ?_) | refine r_icmp_eq hX dX6_hold_14 (q := 17) rfl (tgt := 32) (by decide) (fun h14 => ?_) (fun h14 => ?_)
    ·
      refine r_aload0 hX dX6_hold_32 (q := 33) rfl ?_
      refine r_getR hX dX6_hold_33 (q := 36) rfl fX6_9 rfl ⟨by decide, by decide, rfl⟩ ?_
      refine r_bipush hX dX6_hold_36 (q := 38) rfl (v := nI 70) (by decide +kernel) ?_
      refine r_iload1 hX dX6_hold_38 (q := 39) rfl ?_
      refine r_iadd hX dX6_hold_39 (q := 40) rfl ?_
      refine r_iload2 hX dX6_hold_40 (q := 41) rfl ?_
      refine r_iastN hX dX6_hold_41 (q := 42) rfl rfl (e_add rfl xe) (by omega) (by first | decide | omega) ?_
      refine r_iconst hX dX6_hold_42 (q := 43) rfl (v := nI 1) (by decide +kernel) ?_
      refine r_iret hX hR dX6_hold_43 ?_
      -- leaf 1 at 43
      refine ⟨_, rfl, ?_⟩
      have hc : y = -1 ∨ tsB μ y = true := by first | exact Or.inl h14 | exact Or.inr h22t
      exact MOut.ok (w := nI 1) (μ' := upd μ (70 + cl x) y) (if_pos ⟨h9, hc⟩) rfl (hM.u _ _) FrM.rf.up
    ·
      refine r_aload0 hX dX6_hold_17 (q := 18) rfl ?_
      refine r_iload2 hX dX6_hold_18 (q := 19) rfl ?_
      refine r_callV hX dX6_hold_19 (q := 22) rfl (c_X6_isTaste _ Γ _ μ (by assumption) _) kX6_99 mlX6_isTaste mvX6_isTaste rfl rfl rfl ⟨by decide, rfl⟩ ⟨by decide, by decide⟩ (Nat.le_of_ble_eq_true rfl) (keB ?_)
      first | with_reducible refine r_ifd_ne hX dX6_hold_22 (q := 25) rfl (tgt := 32) (by decide) (fun h22 => ?_) (fun h22 => ?_) | refine r_ifb_ne hX dX6_hold_22 (q := 25) rfl (tgt := 32) (by decide) (fun h22 => ?_) (fun h22 => ?_)
      ·
        have h22t : tsB μ y = true := decide_eq_true h22
        refine r_aload0 hX dX6_hold_32 (q := 33) rfl ?_
        refine r_getR hX dX6_hold_33 (q := 36) rfl fX6_9 rfl ⟨by decide, by decide, rfl⟩ ?_
        refine r_bipush hX dX6_hold_36 (q := 38) rfl (v := nI 70) (by decide +kernel) ?_
        refine r_iload1 hX dX6_hold_38 (q := 39) rfl ?_
        refine r_iadd hX dX6_hold_39 (q := 40) rfl ?_
        refine r_iload2 hX dX6_hold_40 (q := 41) rfl ?_
        refine r_iastN hX dX6_hold_41 (q := 42) rfl rfl (e_add rfl xe) (by omega) (by first | decide | omega) ?_
        refine r_iconst hX dX6_hold_42 (q := 43) rfl (v := nI 1) (by decide +kernel) ?_
        refine r_iret hX hR dX6_hold_43 ?_
        -- leaf 2 at 43
        refine ⟨_, rfl, ?_⟩
        have hc : y = -1 ∨ tsB μ y = true := by first | exact Or.inl h14 | exact Or.inr h22t
        exact MOut.ok (w := nI 1) (μ' := upd μ (70 + cl x) y) (if_pos ⟨h9, hc⟩) rfl (hM.u _ _) FrM.rf.up
      ·
        refine r_aload0 hX dX6_hold_25 (q := 26) rfl ?_
        refine r_ldc hX dX6_hold_26 (q := 28) rfl qX6_34 ?_
        refine r_callV hX dX6_hold_28 (q := 31) rfl (c_X6_finds _ Γ _ _ 0 (by decide) (by decide +kernel)) kX6_36 mlX6_finds mvX6_finds rfl rfl rfl ⟨by decide, rfl⟩ ⟨by decide, by decide⟩ (Nat.le_of_ble_eq_true rfl) (kpI (fun v28 G28 p28 => ?_))
        refine r_iret hX hR dX6_hold_31 ?_
        -- leaf 3 at 31
        refine ⟨_, rfl, ?_⟩
        first
          | (exact MOut.fin (k := 0) (if_neg (fun q => h9 q.1)) ⟨p28.1.trans (by decide +kernel), p28.2⟩ hM FrM.rf)
          | (exact MOut.fin (k := 0) (if_neg (fun q => q.2.elim h14 (fun z => h22 (of_decide_eq_true z)))) ⟨p28.1.trans (by decide +kernel), p28.2⟩ hM FrM.rf)

set_option maxRecDepth 100000 in
set_option maxHeartbeats 4000000 in
theorem c_X6_above (l : Launch) (Γ : Gam) (G : GG) (x : Int32) (k : Nat) (hx : x = nI k) (hk : k < 7) : Sp l yX6_above cX6_above 1 (some .int) 0 0 [.int x] Γ G (eI G (kab k)) := by
  refine Sp_of (own := RX6) rfl (by decide +kernel) rfl (Nat.le_of_ble_eq_true rfl) (fun X hX hR => ?_)
  show WP X Γ 0 [some (.int x)] [] G
  subst hx
  refine r_iload0 hX dX6_above_0 (q := 1) rfl ?_
  refine r_if_ne hX dX6_above_1 (q := 4) rfl (tgt := 8) (by decide) (fun h1 => ?_) (fun h1 => ?_)
  ·
    refine r_iload0 hX dX6_above_8 (q := 9) rfl ?_
    refine r_iconst hX dX6_above_9 (q := 10) rfl (v := nI 3) (by decide +kernel) ?_
    first | refine r_icmpN_ne hX dX6_above_10 (q := 13) rfl (tgt := 17) (by decide) (by first | omega | decide) (by first | omega | decide) (fun h10 => ?_) (fun h10 => ?_) | refine r_icmp_ne hX dX6_above_10 (q := 13) rfl (tgt := 17) (by decide) (fun h10 => ?_) (fun h10 => ?_)
    ·
      refine r_iload0 hX dX6_above_17 (q := 18) rfl ?_
      refine r_iconst hX dX6_above_18 (q := 19) rfl (v := nI 5) (by decide +kernel) ?_
      first | refine r_icmpN_ne hX dX6_above_19 (q := 22) rfl (tgt := 26) (by decide) (by first | omega | decide) (by first | omega | decide) (fun h19 => ?_) (fun h19 => ?_) | refine r_icmp_ne hX dX6_above_19 (q := 22) rfl (tgt := 26) (by decide) (fun h19 => ?_) (fun h19 => ?_)
      ·
        refine r_iconst hX dX6_above_26 (q := 27) rfl (v := nI 0) (by decide +kernel) ?_
        refine r_iret hX hR dX6_above_27 ?_
        -- leaf 0 at 27
        refine ⟨congrArg (fun z => some (Value.int z)) ?_, ?_⟩
        ·
          unfold kab
          first
            | (rw [if_pos (nz_of (by omega) h1)]; done)
            | (rw [if_neg (fun q => h1 (by rw [q, nI_0])), if_pos h10]; rfl)
            | (rw [if_neg (fun q => h1 (by rw [q, nI_0])), if_neg h10, if_pos h19]; rfl)
            | (rw [if_neg (fun q => h1 (by rw [q, nI_0])), if_neg h10, if_neg h19]; rfl)
        · rfl
      ·
        refine r_iconst hX dX6_above_22 (q := 23) rfl (v := nI 4) (by decide +kernel) ?_
        refine r_goto hX dX6_above_23 (tgt := 27) (by decide) ?_
        refine r_iret hX hR dX6_above_27 ?_
        -- leaf 1 at 27
        refine ⟨congrArg (fun z => some (Value.int z)) ?_, ?_⟩
        ·
          unfold kab
          first
            | (rw [if_pos (nz_of (by omega) h1)]; done)
            | (rw [if_neg (fun q => h1 (by rw [q, nI_0])), if_pos h10]; rfl)
            | (rw [if_neg (fun q => h1 (by rw [q, nI_0])), if_neg h10, if_pos h19]; rfl)
            | (rw [if_neg (fun q => h1 (by rw [q, nI_0])), if_neg h10, if_neg h19]; rfl)
        · rfl
    ·
      refine r_iconst hX dX6_above_13 (q := 14) rfl (v := nI 2) (by decide +kernel) ?_
      refine r_goto hX dX6_above_14 (tgt := 27) (by decide) ?_
      refine r_iret hX hR dX6_above_27 ?_
      -- leaf 2 at 27
      refine ⟨congrArg (fun z => some (Value.int z)) ?_, ?_⟩
      ·
        unfold kab
        first
          | (rw [if_pos (nz_of (by omega) h1)]; done)
          | (rw [if_neg (fun q => h1 (by rw [q, nI_0])), if_pos h10]; rfl)
          | (rw [if_neg (fun q => h1 (by rw [q, nI_0])), if_neg h10, if_pos h19]; rfl)
          | (rw [if_neg (fun q => h1 (by rw [q, nI_0])), if_neg h10, if_neg h19]; rfl)
      · rfl
  ·
    refine r_iconst hX dX6_above_4 (q := 5) rfl (v := (-1)) (by decide +kernel) ?_
    refine r_goto hX dX6_above_5 (tgt := 27) (by decide) ?_
    refine r_iret hX hR dX6_above_27 ?_
    -- leaf 3 at 27
    refine ⟨congrArg (fun z => some (Value.int z)) ?_, ?_⟩
    ·
      unfold kab
      first
        | (rw [if_pos (nz_of (by omega) h1)]; done)
        | (rw [if_neg (fun q => h1 (by rw [q, nI_0])), if_pos h10]; rfl)
        | (rw [if_neg (fun q => h1 (by rw [q, nI_0])), if_neg h10, if_pos h19]; rfl)
        | (rw [if_neg (fun q => h1 (by rw [q, nI_0])), if_neg h10, if_neg h19]; rfl)
    · rfl

set_option maxRecDepth 100000 in
set_option maxHeartbeats 4000000 in
theorem c_X6_as (l : Launch) (Γ : Gam) (G : GG) (μ : MU) (hM : MR G μ) (b : Nat) (hV : Inv b μ) (hSp : SpI μ) (x y : Int32) : Sp l yX6_as cX6_as 5 (some .int) 2 45 [.ref (gad Γ 47), .int x, .int y] Γ G (pI (fun v G' => MOut G μ (oAs μ x y) v G')) := by
  refine Sp_of (own := RX6) rfl (by decide +kernel) rfl (Nat.le_of_ble_eq_true rfl) (fun X hX hR => ?_)
  show WP X Γ 0 [some (.ref (gad Γ 47)), some (.int x), some (.int y), none, none] [] G
  refine r_iload1 hX dX6_as_0 (q := 1) rfl ?_
  refine r_i2l hX dX6_as_1 (q := 2) rfl ?_
  refine r_lconst hX dX6_as_2 (q := 3) rfl (v := (nI 0).toInt64) (by decide +kernel) ?_
  refine r_ldc2 hX dX6_as_3 (q := 6) rfl qX6_40 ?_
  refine r_callS hX dX6_as_6 (q := 9) rfl (c_X6_in _ Γ _ _ _ _) kX6_42 mlX6_in msX6_in rfl rfl ⟨by decide, by decide⟩ (Nat.le_of_ble_eq_true rfl) (keB ?_)
  first | with_reducible refine r_ifd_eq hX dX6_as_9 (q := 12) rfl (tgt := 19) (by decide) (fun h9 => ?_) (fun h9 => ?_) | refine r_ifb_eq hX dX6_as_9 (q := 12) rfl (tgt := 19) (by decide) (fun h9 => ?_) (fun h9 => ?_)
  ·
    refine r_aload0 hX dX6_as_19 (q := 20) rfl ?_
    refine r_ldc hX dX6_as_20 (q := 22) rfl qX6_34 ?_
    refine r_callV hX dX6_as_22 (q := 25) rfl (c_X6_finds _ Γ _ _ 0 (by decide) (by decide +kernel)) kX6_36 mlX6_finds mvX6_finds rfl rfl rfl ⟨by decide, rfl⟩ ⟨by decide, by decide⟩ (Nat.le_of_ble_eq_true rfl) (kpI (fun v22 G22 p22 => ?_))
    refine r_iret hX hR dX6_as_25 ?_
    -- leaf 0 at 25
    refine ⟨_, rfl, ?_⟩
    first
      | (exact MOut.fin (k := 0) (if_neg (fun q => h9 q.1)) ⟨p22.1.trans (by decide +kernel), p22.2⟩ hM FrM.rf)
      | (exact MOut.fin (k := 0) (if_neg (fun q => h16 q.2)) ⟨p22.1.trans (by decide +kernel), p22.2⟩ hM FrM.rf)
  ·
    obtain ⟨xl, xe⟩ := ix_of (by decide) h9
    refine r_iload2 hX dX6_as_12 (q := 13) rfl ?_
    refine r_callS hX dX6_as_13 (q := 16) rfl (c_X6_isKind _ Γ _ _) kX6_79 mlX6_isKind msX6_isKind rfl rfl ⟨by decide, by decide⟩ (Nat.le_of_ble_eq_true rfl) (keB ?_)
    first | with_reducible refine r_ifd_ne hX dX6_as_16 (q := 19) rfl (tgt := 26) (by decide) (fun h16 => ?_) (fun h16 => ?_) | refine r_ifb_ne hX dX6_as_16 (q := 19) rfl (tgt := 26) (by decide) (fun h16 => ?_) (fun h16 => ?_)
    ·
      refine r_aload0 hX dX6_as_26 (q := 27) rfl ?_
      refine r_getR hX dX6_as_27 (q := 30) rfl fX6_9 rfl ⟨by decide, by decide, rfl⟩ ?_
      refine r_bipush hX dX6_as_30 (q := 32) rfl (v := nI 70) (by decide +kernel) ?_
      refine r_iload1 hX dX6_as_32 (q := 33) rfl ?_
      refine r_iadd hX dX6_as_33 (q := 34) rfl ?_
      refine r_ialdN hX dX6_as_34 (q := 35) rfl rfl (e_add rfl xe) (by omega) (by first | decide | omega) ?_
      rw [hM _ (by omega)]
      refine r_istore3 hX dX6_as_35 (q := 36) rfl rfl ?_
      refine r_iload3 hX dX6_as_36 (q := 37) rfl ?_
      refine r_if_ge hX dX6_as_37 (q := 40) rfl (tgt := 48) (by decide) (fun h37 => ?_) (fun h37 => ?_)
      ·
        have hts : tsB μ (μ (70 + cl x)) = true := (hSp (cl x) (by omega)).resolve_left (fun q => by rw [q] at h37; exact absurd h37 (by decide +kernel))
        obtain ⟨n, t, hn, ht, hs8, hte⟩ := (ts_of hV).mp hts
        obtain ⟨j0, hj0, ej0⟩ := (hV.2.2.2.2.1 t (by omega)).1
        rw [hte]
        refine r_aload0 hX dX6_as_48 (q := 49) rfl ?_
        refine r_iload3 hX dX6_as_49 (q := 50) rfl ?_
        refine r_iconst hX dX6_as_50 (q := 51) rfl (v := nI 0) (by decide +kernel) ?_
        refine r_callV hX dX6_as_51 (q := 54) rfl (c_X6_of _ Γ _ _ _ t 0 rfl rfl (by omega) (by decide)) kX6_90 mlX6_of mvX6_of rfl rfl rfl ⟨by decide, rfl⟩ ⟨by decide, by decide⟩ (Nat.le_of_ble_eq_true rfl) (keI ?_)
        rw [hM _ (by omega), show μ (40 + 3 * t + 0) = nI j0 from ej0]
        refine r_istore4 hX dX6_as_54 (q := 56) rfl rfl ?_
        have L56 : ∀ (zn56 : Nat) (u : Nat) (c : Int32), zn56 = u → (c = -1 ∨ ∃ j, j < 7 ∧ c = nI j ∧ rk j ≤ u) → (udF 7 (μ (40 + 3 * t)) y = udF u c y) → WP X Γ 56 [some (.ref (gad Γ 47)), some (.int x), some (.int y), some (.int (nI t)), some (.int c)] [] G := by
          intro zn56
          induction zn56 using Nat.strongRecOn with
          | _ zn56 ih56 =>
            intro u c zh56 hc hu
            refine r_iload4 hX dX6_as_56 (q := 58) rfl ?_
            refine r_if_lt hX dX6_as_58 (q := 61) rfl (tgt := 79) (by decide) (fun h58 => ?_) (fun h58 => ?_)
            ·
              refine r_aload0 hX dX6_as_79 (q := 80) rfl ?_
              refine r_ldc_w hX dX6_as_80 (q := 83) rfl qX6_277 ?_
              refine r_callV hX dX6_as_83 (q := 86) rfl (c_X6_finds _ Γ _ _ 2 (by decide) (by decide +kernel)) kX6_36 mlX6_finds mvX6_finds rfl rfl rfl ⟨by decide, rfl⟩ ⟨by decide, by decide⟩ (Nat.le_of_ble_eq_true rfl) (kpI (fun v83 G83 p83 => ?_))
              refine r_iret hX hR dX6_as_86 ?_
              -- leaf 1 at 86
              refine ⟨_, rfl, ?_⟩
              have hcn : c = -1 := by
                rcases hc with q | ⟨j, hj, rfl, -⟩
                · exact q
                · exact absurd h58 (Int32.not_lt.mpr (nn_ge (by omega)))
              exact MOut.fin (k := 2) (by unfold oAs; rw [if_pos ⟨h9, h16⟩, if_pos hts, hte, cl_nI (by omega), if_neg (by rw [hu, hcn, ud_n]; decide)]) ⟨p83.1.trans (by decide +kernel), p83.2⟩ hM FrM.rf
            ·
              obtain ⟨j, hj, rfl, hrk⟩ := hc.resolve_left (fun q => by rw [q] at h58; exact h58 (by decide +kernel))
              obtain ⟨v0, rfl⟩ : ∃ v0, u = v0 + 1 := ⟨u - 1, by have := (rk_b j).1; omega⟩
              refine r_iload4 hX dX6_as_61 (q := 63) rfl ?_
              refine r_iload2 hX dX6_as_63 (q := 64) rfl ?_
              first | refine r_icmpN_ne hX dX6_as_64 (q := 67) rfl (tgt := 69) (by decide) (by first | omega | decide) (by first | omega | decide) (fun h64 => ?_) (fun h64 => ?_) | refine r_icmp_ne hX dX6_as_64 (q := 67) rfl (tgt := 69) (by decide) (fun h64 => ?_) (fun h64 => ?_)
              ·
                refine r_iload4 hX dX6_as_69 (q := 71) rfl ?_
                refine r_callS hX dX6_as_71 (q := 74) rfl (c_X6_above _ Γ _ _ j rfl hj) kX6_274 mlX6_above msX6_above rfl rfl ⟨by decide, by decide⟩ (Nat.le_of_ble_eq_true rfl) (keI ?_)
                refine r_istore4 hX dX6_as_74 (q := 76) rfl rfl ?_
                refine r_goto hX dX6_as_76 (tgt := 56) (by decide) ?_
                refine ih56 _ ?_ v0 _ rfl ?_ ?_
                ·
                  omega
                ·
                  rcases kab_n j hj with ⟨q, e⟩ | ⟨e1, e2, e3⟩
                  · exact Or.inl e
                  · exact Or.inr ⟨nxk j, e2, e1, by omega⟩
                ·
                  exact hu.trans (ud_s hj h64)
              ·
                refine r_iload3 hX dX6_as_67 (q := 68) rfl ?_
                refine r_iret hX hR dX6_as_68 ?_
                -- leaf 2 at 68
                refine ⟨_, rfl, ?_⟩
                exact MOut.ok (w := μ (70 + cl x)) (μ' := μ) (by unfold oAs; rw [if_pos ⟨h9, h16⟩, if_pos hts, hte, cl_nI (by omega), if_pos (hu.trans (by rw [← h64]; exact ud_t hj))]) hte.symm hM FrM.rf
        refine L56 _ 7 _ rfl ?_ ?_
        ·
          exact Or.inr ⟨j0, by omega, rfl, by have := (rk_b j0).2; omega⟩
        ·
          rw [ej0]
      ·
        refine r_aload0 hX dX6_as_40 (q := 41) rfl ?_
        refine r_ldc_w hX dX6_as_41 (q := 44) rfl qX6_273 ?_
        refine r_callV hX dX6_as_44 (q := 47) rfl (c_X6_finds _ Γ _ _ 5 (by decide) (by decide +kernel)) kX6_36 mlX6_finds mvX6_finds rfl rfl rfl ⟨by decide, rfl⟩ ⟨by decide, by decide⟩ (Nat.le_of_ble_eq_true rfl) (kpI (fun v44 G44 p44 => ?_))
        refine r_iret hX hR dX6_as_47 ?_
        -- leaf 3 at 47
        refine ⟨_, rfl, ?_⟩
        exact MOut.fin (k := 5) ((if_pos ⟨h9, h16⟩).trans (if_neg (fun q => by
          obtain ⟨n, t, hn, ht, hs8, hte⟩ := (ts_of hV).mp q
          rw [hte] at h37
          exact h37 (nn_ge (by omega))))) ⟨p44.1.trans (by decide +kernel), p44.2⟩ hM FrM.rf
    ·
      refine r_aload0 hX dX6_as_19 (q := 20) rfl ?_
      refine r_ldc hX dX6_as_20 (q := 22) rfl qX6_34 ?_
      refine r_callV hX dX6_as_22 (q := 25) rfl (c_X6_finds _ Γ _ _ 0 (by decide) (by decide +kernel)) kX6_36 mlX6_finds mvX6_finds rfl rfl rfl ⟨by decide, rfl⟩ ⟨by decide, by decide⟩ (Nat.le_of_ble_eq_true rfl) (kpI (fun v22 G22 p22 => ?_))
      refine r_iret hX hR dX6_as_25 ?_
      -- leaf 4 at 25
      refine ⟨_, rfl, ?_⟩
      first
        | (exact MOut.fin (k := 0) (if_neg (fun q => h9 q.1)) ⟨p22.1.trans (by decide +kernel), p22.2⟩ hM FrM.rf)
        | (exact MOut.fin (k := 0) (if_neg (fun q => h16 q.2)) ⟨p22.1.trans (by decide +kernel), p22.2⟩ hM FrM.rf)

set_option maxRecDepth 100000 in
set_option maxHeartbeats 4000000 in
theorem c_X6_sheet (l : Launch) (Γ : Gam) (G : GG) (B Z N : MU) (hS : SRM G B Z N) (hZ : SInv Z) (x b n : Int32) : Sp l yX6_sheet cX6_sheet 5 (some .int) 2 45 [.ref (gad Γ 47), .int x, .int b, .int n] Γ G (pI (fun v G' => SOM G (oSheet B Z N x b n) v G')) := by
  refine Sp_of (own := RX6) rfl (by decide +kernel) rfl (Nat.le_of_ble_eq_true rfl) (fun X hX hR => ?_)
  show WP X Γ 0 [some (.ref (gad Γ 47)), some (.int x), some (.int b), some (.int n), none] [] G
  have J36 : (nI 0 ≤ x ∧ x ≤ nI 3) → (b = nI 0 ∨ b = nI 8 ∨ b = nI 16 ∨ b = nI 32) → WP X Γ 36 [some (.ref (gad Γ 47)), some (.int x), some (.int b), some (.int n), none] [] G := by
    intro  h4 hb
    obtain ⟨xl, xe⟩ := ix_of (by decide) h4
    refine r_iload3 hX dX6_sheet_36 (q := 37) rfl ?_
    refine r_if_ge hX dX6_sheet_37 (q := 40) rfl (tgt := 48) (by decide) (fun h37 => ?_) (fun h37 => ?_)
    ·
      refine r_iload3 hX dX6_sheet_48 (q := 49) rfl ?_
      refine r_bipush hX dX6_sheet_49 (q := 51) rfl (v := nI 40) (by decide +kernel) ?_
      first | refine r_icmpN_le hX dX6_sheet_51 (q := 54) rfl (tgt := 61) (by decide) (by first | omega | decide) (by first | omega | decide) (fun h51 => ?_) (fun h51 => ?_) | refine r_icmp_le hX dX6_sheet_51 (q := 54) rfl (tgt := 61) (by decide) (fun h51 => ?_) (fun h51 => ?_)
      ·
        refine r_aload0 hX dX6_sheet_61 (q := 62) rfl ?_
        refine r_getR hX dX6_sheet_62 (q := 65) rfl fX6_25 rfl ⟨by decide, by decide, rfl⟩ ?_
        refine r_iload1 hX dX6_sheet_65 (q := 66) rfl ?_
        refine r_iload2 hX dX6_sheet_66 (q := 67) rfl ?_
        refine r_iastN hX dX6_sheet_67 (q := 68) rfl rfl xe (by omega) (by first | decide | omega) ?_
        refine r_aload0 hX dX6_sheet_68 (q := 69) rfl ?_
        refine r_getR hX dX6_sheet_69 (q := 72) rfl fX6_28 rfl ⟨by decide, by decide, rfl⟩ ?_
        refine r_iload1 hX dX6_sheet_72 (q := 73) rfl ?_
        refine r_iload2 hX dX6_sheet_73 (q := 74) rfl ?_
        refine r_if_ne hX dX6_sheet_74 (q := 77) rfl (tgt := 81) (by decide) (fun h74 => ?_) (fun h74 => ?_)
        ·
          refine r_iload3 hX dX6_sheet_81 (q := 82) rfl ?_
          refine r_iastN hX dX6_sheet_82 (q := 83) rfl rfl xe (by omega) (by first | decide | omega) ?_
          refine r_iconst hX dX6_sheet_83 (q := 84) rfl (v := nI 0) (by decide +kernel) ?_
          refine r_istore4 hX dX6_sheet_84 (q := 86) rfl rfl ?_
          have L86 : ∀ (zn86 : Nat) (k : Nat) (G1 : GG), zn86 = 40 - k → (k ≤ 40) → (SRM G1 (upd B (cl x) b) (upd Z (cl x) (if b = nI 0 then nI 0 else n)) (zrN N (cl x) k)) → (FrS G G1) → WP X Γ 86 [some (.ref (gad Γ 47)), some (.int x), some (.int b), some (.int n), some (.int (nI k))] [] G1 := by
            intro zn86
            induction zn86 using Nat.strongRecOn with
            | _ zn86 ih86 =>
              intro k G1 zh86 hk h1 hF
              refine r_iload4 hX dX6_sheet_86 (q := 88) rfl ?_
              refine r_bipush hX dX6_sheet_88 (q := 90) rfl (v := nI 40) (by decide +kernel) ?_
              refine r_icmpN_ge hX dX6_sheet_90 (q := 93) rfl (tgt := 112) (by decide) (by first | omega | decide) (by first | omega | decide) (fun h90 => ?_) (fun h90 => ?_)
              ·
                refine r_aload0 hX dX6_sheet_112 (q := 113) rfl ?_
                refine r_getR hX dX6_sheet_113 (q := 116) rfl fX6_28 rfl ⟨by decide, by decide, rfl⟩ ?_
                refine r_iload1 hX dX6_sheet_116 (q := 117) rfl ?_
                refine r_ialdN hX dX6_sheet_117 (q := 118) rfl rfl xe (by omega) (by first | decide | omega) ?_
                refine r_iret hX hR dX6_sheet_118 ?_
                -- leaf 0 at 118
                refine ⟨_, rfl, ?_⟩
                have e0 : k = 40 := by omega
                subst e0
                refine SOM.ok ((if_pos ⟨h4, hb⟩).trans ((if_neg (by rw [nI_0]; exact Int32.not_lt.mpr h37)).trans (if_neg (Int32.not_lt.mpr h51)))) ?_ h1 hF
                exact (h1.1 (cl x) (by omega)).2.trans upd_eq
              ·
                refine r_aload0 hX dX6_sheet_93 (q := 94) rfl ?_
                refine r_getR hX dX6_sheet_94 (q := 97) rfl fX6_31 rfl ⟨by decide, by decide, rfl⟩ ?_
                refine r_bipush hX dX6_sheet_97 (q := 99) rfl (v := nI 40) (by decide +kernel) ?_
                refine r_iload1 hX dX6_sheet_99 (q := 100) rfl ?_
                refine r_imul hX dX6_sheet_100 (q := 101) rfl ?_
                refine r_iload4 hX dX6_sheet_101 (q := 103) rfl ?_
                refine r_iadd hX dX6_sheet_103 (q := 104) rfl ?_
                refine r_iconst hX dX6_sheet_104 (q := 105) rfl (v := nI 0) (by decide +kernel) ?_
                refine r_iastN hX dX6_sheet_105 (q := 106) rfl rfl (e_add (e_mul rfl xe) rfl) (by omega) (by first | decide | omega) ?_
                refine r_iincN4 hX dX6_sheet_106 (q := 109) rfl rfl ?_
                refine r_goto hX dX6_sheet_109 (tgt := 86) (by decide) ?_
                refine ih86 _ ?_ (k + 1) _ rfl ?_ ?_ ?_
                ·
                  omega
                ·
                  omega
                ·
                  exact (h1.n _ _).cg zr_s
                ·
                  exact hF.up (Or.inr (Or.inr rfl))
          refine L86 _ 0 _ rfl ?_ ?_ ?_
          ·
            exact Nat.zero_le _
          ·
            first
              | (rw [if_pos (h74.trans nI_0.symm)]; exact (((hS.b _ _).z _ _).cg zr_0))
              | (rw [if_neg (fun q => h74 (q.trans nI_0))]; exact (((hS.b _ _).z _ _).cg zr_0))
          ·
            exact (FrS.rf.up (Or.inl rfl)).up (Or.inr (Or.inl rfl))
        ·
          refine r_iconst hX dX6_sheet_77 (q := 78) rfl (v := nI 0) (by decide +kernel) ?_
          refine r_goto hX dX6_sheet_78 (tgt := 82) (by decide) ?_
          refine r_iastN hX dX6_sheet_82 (q := 83) rfl rfl xe (by omega) (by first | decide | omega) ?_
          refine r_iconst hX dX6_sheet_83 (q := 84) rfl (v := nI 0) (by decide +kernel) ?_
          refine r_istore4 hX dX6_sheet_84 (q := 86) rfl rfl ?_
          have L86 : ∀ (zn86 : Nat) (k : Nat) (G1 : GG), zn86 = 40 - k → (k ≤ 40) → (SRM G1 (upd B (cl x) b) (upd Z (cl x) (if b = nI 0 then nI 0 else n)) (zrN N (cl x) k)) → (FrS G G1) → WP X Γ 86 [some (.ref (gad Γ 47)), some (.int x), some (.int b), some (.int n), some (.int (nI k))] [] G1 := by
            intro zn86
            induction zn86 using Nat.strongRecOn with
            | _ zn86 ih86 =>
              intro k G1 zh86 hk h1 hF
              refine r_iload4 hX dX6_sheet_86 (q := 88) rfl ?_
              refine r_bipush hX dX6_sheet_88 (q := 90) rfl (v := nI 40) (by decide +kernel) ?_
              refine r_icmpN_ge hX dX6_sheet_90 (q := 93) rfl (tgt := 112) (by decide) (by first | omega | decide) (by first | omega | decide) (fun h90 => ?_) (fun h90 => ?_)
              ·
                refine r_aload0 hX dX6_sheet_112 (q := 113) rfl ?_
                refine r_getR hX dX6_sheet_113 (q := 116) rfl fX6_28 rfl ⟨by decide, by decide, rfl⟩ ?_
                refine r_iload1 hX dX6_sheet_116 (q := 117) rfl ?_
                refine r_ialdN hX dX6_sheet_117 (q := 118) rfl rfl xe (by omega) (by first | decide | omega) ?_
                refine r_iret hX hR dX6_sheet_118 ?_
                -- leaf 1 at 118
                refine ⟨_, rfl, ?_⟩
                have e0 : k = 40 := by omega
                subst e0
                refine SOM.ok ((if_pos ⟨h4, hb⟩).trans ((if_neg (by rw [nI_0]; exact Int32.not_lt.mpr h37)).trans (if_neg (Int32.not_lt.mpr h51)))) ?_ h1 hF
                exact (h1.1 (cl x) (by omega)).2.trans upd_eq
              ·
                refine r_aload0 hX dX6_sheet_93 (q := 94) rfl ?_
                refine r_getR hX dX6_sheet_94 (q := 97) rfl fX6_31 rfl ⟨by decide, by decide, rfl⟩ ?_
                refine r_bipush hX dX6_sheet_97 (q := 99) rfl (v := nI 40) (by decide +kernel) ?_
                refine r_iload1 hX dX6_sheet_99 (q := 100) rfl ?_
                refine r_imul hX dX6_sheet_100 (q := 101) rfl ?_
                refine r_iload4 hX dX6_sheet_101 (q := 103) rfl ?_
                refine r_iadd hX dX6_sheet_103 (q := 104) rfl ?_
                refine r_iconst hX dX6_sheet_104 (q := 105) rfl (v := nI 0) (by decide +kernel) ?_
                refine r_iastN hX dX6_sheet_105 (q := 106) rfl rfl (e_add (e_mul rfl xe) rfl) (by omega) (by first | decide | omega) ?_
                refine r_iincN4 hX dX6_sheet_106 (q := 109) rfl rfl ?_
                refine r_goto hX dX6_sheet_109 (tgt := 86) (by decide) ?_
                refine ih86 _ ?_ (k + 1) _ rfl ?_ ?_ ?_
                ·
                  omega
                ·
                  omega
                ·
                  exact (h1.n _ _).cg zr_s
                ·
                  exact hF.up (Or.inr (Or.inr rfl))
          refine L86 _ 0 _ rfl ?_ ?_ ?_
          ·
            exact Nat.zero_le _
          ·
            first
              | (rw [if_pos (h74.trans nI_0.symm)]; exact (((hS.b _ _).z _ _).cg zr_0))
              | (rw [if_neg (fun q => h74 (q.trans nI_0))]; exact (((hS.b _ _).z _ _).cg zr_0))
          ·
            exact (FrS.rf.up (Or.inl rfl)).up (Or.inr (Or.inl rfl))
      ·
        refine r_aload0 hX dX6_sheet_54 (q := 55) rfl ?_
        refine r_ldc hX dX6_sheet_55 (q := 57) rfl qX6_34 ?_
        refine r_callV hX dX6_sheet_57 (q := 60) rfl (c_X6_finds _ Γ _ _ 0 (by decide) (by decide +kernel)) kX6_36 mlX6_finds mvX6_finds rfl rfl rfl ⟨by decide, rfl⟩ ⟨by decide, by decide⟩ (Nat.le_of_ble_eq_true rfl) (kpI (fun v57 G57 p57 => ?_))
        refine r_iret hX hR dX6_sheet_60 ?_
        -- leaf 2 at 60
        refine ⟨_, rfl, ?_⟩
        exact SOM.fin (k := 0) ((if_pos ⟨h4, hb⟩).trans ((if_neg (by rw [nI_0]; exact Int32.not_lt.mpr h37)).trans (if_pos (Int32.not_le.mp h51)))) ⟨p57.1.trans (by decide +kernel), p57.2⟩
    ·
      refine r_aload0 hX dX6_sheet_40 (q := 41) rfl ?_
      refine r_ldc_w hX dX6_sheet_41 (q := 44) rfl qX6_281 ?_
      refine r_callV hX dX6_sheet_44 (q := 47) rfl (c_X6_finds _ Γ _ _ 6 (by decide) (by decide +kernel)) kX6_36 mlX6_finds mvX6_finds rfl rfl rfl ⟨by decide, rfl⟩ ⟨by decide, by decide⟩ (Nat.le_of_ble_eq_true rfl) (kpI (fun v44 G44 p44 => ?_))
      refine r_iret hX hR dX6_sheet_47 ?_
      -- leaf 3 at 47
      refine ⟨_, rfl, ?_⟩
      exact SOM.fin (k := 6) ((if_pos ⟨h4, hb⟩).trans (if_pos (by rw [nI_0]; exact Int32.not_le.mp h37))) ⟨p44.1.trans (by decide +kernel), p44.2⟩
  refine r_iload1 hX dX6_sheet_0 (q := 1) rfl ?_
  refine r_callS hX dX6_sheet_1 (q := 4) rfl (c_X6_isSheet _ Γ _ _) kX6_278 mlX6_isSheet msX6_isSheet rfl rfl ⟨by decide, by decide⟩ (Nat.le_of_ble_eq_true rfl) (keB ?_)
  first | with_reducible refine r_ifd_eq hX dX6_sheet_4 (q := 7) rfl (tgt := 29) (by decide) (fun h4 => ?_) (fun h4 => ?_) | refine r_ifb_eq hX dX6_sheet_4 (q := 7) rfl (tgt := 29) (by decide) (fun h4 => ?_) (fun h4 => ?_)
  ·
    refine r_aload0 hX dX6_sheet_29 (q := 30) rfl ?_
    refine r_ldc hX dX6_sheet_30 (q := 32) rfl qX6_34 ?_
    refine r_callV hX dX6_sheet_32 (q := 35) rfl (c_X6_finds _ Γ _ _ 0 (by decide) (by decide +kernel)) kX6_36 mlX6_finds mvX6_finds rfl rfl rfl ⟨by decide, rfl⟩ ⟨by decide, by decide⟩ (Nat.le_of_ble_eq_true rfl) (kpI (fun v32 G32 p32 => ?_))
    refine r_iret hX hR dX6_sheet_35 ?_
    -- leaf 4 at 35
    refine ⟨_, rfl, ?_⟩
    first
      | (exact SOM.fin (k := 0) (if_neg (fun q => h4 q.1)) ⟨p32.1.trans (by decide +kernel), p32.2⟩)
      | (exact SOM.fin (k := 0) (if_neg (fun q => by rcases q.2 with z | z | z | z; exact h8 (z.trans nI_0); exact h14 z; exact h20 z; exact h26 z)) ⟨p32.1.trans (by decide +kernel), p32.2⟩)
  ·
    refine r_iload2 hX dX6_sheet_7 (q := 8) rfl ?_
    refine r_if_eq hX dX6_sheet_8 (q := 11) rfl (tgt := 36) (by decide) (fun h8 => ?_) (fun h8 => ?_)
    ·
      refine J36  ?_ ?_
      ·
        exact h4
      ·
        exact Or.inl (h8.trans nI_0.symm)
    ·
      refine r_iload2 hX dX6_sheet_11 (q := 12) rfl ?_
      refine r_bipush hX dX6_sheet_12 (q := 14) rfl (v := nI 8) (by decide +kernel) ?_
      first | refine r_icmpN_eq hX dX6_sheet_14 (q := 17) rfl (tgt := 36) (by decide) (by first | omega | decide) (by first | omega | decide) (fun h14 => ?_) (fun h14 => ?_) | refine r_icmp_eq hX dX6_sheet_14 (q := 17) rfl (tgt := 36) (by decide) (fun h14 => ?_) (fun h14 => ?_)
      ·
        refine J36  ?_ ?_
        ·
          exact h4
        ·
          exact Or.inr (Or.inl h14)
      ·
        refine r_iload2 hX dX6_sheet_17 (q := 18) rfl ?_
        refine r_bipush hX dX6_sheet_18 (q := 20) rfl (v := nI 16) (by decide +kernel) ?_
        first | refine r_icmpN_eq hX dX6_sheet_20 (q := 23) rfl (tgt := 36) (by decide) (by first | omega | decide) (by first | omega | decide) (fun h20 => ?_) (fun h20 => ?_) | refine r_icmp_eq hX dX6_sheet_20 (q := 23) rfl (tgt := 36) (by decide) (fun h20 => ?_) (fun h20 => ?_)
        ·
          refine J36  ?_ ?_
          ·
            exact h4
          ·
            exact Or.inr (Or.inr (Or.inl h20))
        ·
          refine r_iload2 hX dX6_sheet_23 (q := 24) rfl ?_
          refine r_bipush hX dX6_sheet_24 (q := 26) rfl (v := nI 32) (by decide +kernel) ?_
          first | refine r_icmpN_eq hX dX6_sheet_26 (q := 29) rfl (tgt := 36) (by decide) (by first | omega | decide) (by first | omega | decide) (fun h26 => ?_) (fun h26 => ?_) | refine r_icmp_eq hX dX6_sheet_26 (q := 29) rfl (tgt := 36) (by decide) (fun h26 => ?_) (fun h26 => ?_)
          ·
            refine J36  ?_ ?_
            ·
              exact h4
            ·
              exact Or.inr (Or.inr (Or.inr h26))
          ·
            refine r_aload0 hX dX6_sheet_29 (q := 30) rfl ?_
            refine r_ldc hX dX6_sheet_30 (q := 32) rfl qX6_34 ?_
            refine r_callV hX dX6_sheet_32 (q := 35) rfl (c_X6_finds _ Γ _ _ 0 (by decide) (by decide +kernel)) kX6_36 mlX6_finds mvX6_finds rfl rfl rfl ⟨by decide, rfl⟩ ⟨by decide, by decide⟩ (Nat.le_of_ble_eq_true rfl) (kpI (fun v32 G32 p32 => ?_))
            refine r_iret hX hR dX6_sheet_35 ?_
            -- leaf 5 at 35
            refine ⟨_, rfl, ?_⟩
            first
              | (exact SOM.fin (k := 0) (if_neg (fun q => h4 q.1)) ⟨p32.1.trans (by decide +kernel), p32.2⟩)
              | (exact SOM.fin (k := 0) (if_neg (fun q => by rcases q.2 with z | z | z | z; exact h8 (z.trans nI_0); exact h14 z; exact h20 z; exact h26 z)) ⟨p32.1.trans (by decide +kernel), p32.2⟩)

set_option maxRecDepth 100000 in
set_option maxHeartbeats 4000000 in
theorem c_X6_write (l : Launch) (Γ : Gam) (G : GG) (B Z N : MU) (hS : SRM G B Z N) (hZ : SInv Z) (x y u : Int32) : Sp l yX6_write cX6_write 4 (some .int) 2 45 [.ref (gad Γ 47), .int x, .int y, .int u] Γ G (pI (fun v G' => SOM G (oWrite B Z N x y u) v G')) := by
  refine Sp_of (own := RX6) rfl (by decide +kernel) rfl (Nat.le_of_ble_eq_true rfl) (fun X hX hR => ?_)
  show WP X Γ 0 [some (.ref (gad Γ 47)), some (.int x), some (.int y), some (.int u)] [] G
  refine r_iload1 hX dX6_write_0 (q := 1) rfl ?_
  refine r_callS hX dX6_write_1 (q := 4) rfl (c_X6_isSheet _ Γ _ _) kX6_278 mlX6_isSheet msX6_isSheet rfl rfl ⟨by decide, by decide⟩ (Nat.le_of_ble_eq_true rfl) (keB ?_)
  first | with_reducible refine r_ifd_ne hX dX6_write_4 (q := 7) rfl (tgt := 14) (by decide) (fun h4 => ?_) (fun h4 => ?_) | refine r_ifb_ne hX dX6_write_4 (q := 7) rfl (tgt := 14) (by decide) (fun h4 => ?_) (fun h4 => ?_)
  ·
    obtain ⟨xl, xe⟩ := ix_of (by decide) h4
    obtain ⟨sx, sx1, sx2⟩ := hZ (cl x) (by omega)
    refine r_aload0 hX dX6_write_14 (q := 15) rfl ?_
    refine r_getR hX dX6_write_15 (q := 18) rfl fX6_25 rfl ⟨by decide, by decide, rfl⟩ ?_
    refine r_iload1 hX dX6_write_18 (q := 19) rfl ?_
    refine r_ialdN hX dX6_write_19 (q := 20) rfl rfl xe (by omega) (by first | decide | omega) ?_
    rw [(hS.1 (cl x) (by omega)).1]
    refine r_if_ne hX dX6_write_20 (q := 23) rfl (tgt := 31) (by decide) (fun h20 => ?_) (fun h20 => ?_)
    ·
      refine r_iload2 hX dX6_write_31 (q := 32) rfl ?_
      refine r_i2l hX dX6_write_32 (q := 33) rfl ?_
      refine r_lconst hX dX6_write_33 (q := 34) rfl (v := (nI 0).toInt64) (by decide +kernel) ?_
      refine r_aload0 hX dX6_write_34 (q := 35) rfl ?_
      refine r_getR hX dX6_write_35 (q := 38) rfl fX6_28 rfl ⟨by decide, by decide, rfl⟩ ?_
      refine r_iload1 hX dX6_write_38 (q := 39) rfl ?_
      refine r_ialdN hX dX6_write_39 (q := 40) rfl rfl xe (by omega) (by first | decide | omega) ?_
      rw [(hS.1 (cl x) (by omega)).2]
      refine r_iconst hX dX6_write_40 (q := 41) rfl (v := nI 1) (by decide +kernel) ?_
      refine r_isub hX dX6_write_41 (q := 42) rfl ?_
      refine r_i2l hX dX6_write_42 (q := 43) rfl ?_
      refine r_callS hX dX6_write_43 (q := 46) rfl (c_X6_in _ Γ _ _ _ _) kX6_42 mlX6_in msX6_in rfl rfl ⟨by decide, by decide⟩ (Nat.le_of_ble_eq_true rfl) (keB ?_)
      first | with_reducible refine r_ifd_ne hX dX6_write_46 (q := 49) rfl (tgt := 56) (by decide) (fun h46 => ?_) (fun h46 => ?_) | refine r_ifb_ne hX dX6_write_46 (q := 49) rfl (tgt := 56) (by decide) (fun h46 => ?_) (fun h46 => ?_)
      ·
        have h46' := h46
        rw [sx2] at h46'
        obtain ⟨yl, ye⟩ := ix_pred (by omega) h46'
        refine r_aload0 hX dX6_write_56 (q := 57) rfl ?_
        refine r_getR hX dX6_write_57 (q := 60) rfl fX6_31 rfl ⟨by decide, by decide, rfl⟩ ?_
        refine r_bipush hX dX6_write_60 (q := 62) rfl (v := nI 40) (by decide +kernel) ?_
        refine r_iload1 hX dX6_write_62 (q := 63) rfl ?_
        refine r_imul hX dX6_write_63 (q := 64) rfl ?_
        refine r_iload2 hX dX6_write_64 (q := 65) rfl ?_
        refine r_iadd hX dX6_write_65 (q := 66) rfl ?_
        refine r_aload0 hX dX6_write_66 (q := 67) rfl ?_
        refine r_getR hX dX6_write_67 (q := 70) rfl fX6_25 rfl ⟨by decide, by decide, rfl⟩ ?_
        refine r_iload1 hX dX6_write_70 (q := 71) rfl ?_
        refine r_ialdN hX dX6_write_71 (q := 72) rfl rfl xe (by omega) (by first | decide | omega) ?_
        rw [(hS.1 (cl x) (by omega)).1]
        refine r_bipush hX dX6_write_72 (q := 74) rfl (v := nI 8) (by decide +kernel) ?_
        first | refine r_icmpN_ne hX dX6_write_74 (q := 77) rfl (tgt := 82) (by decide) (by first | omega | decide) (by first | omega | decide) (fun h74 => ?_) (fun h74 => ?_) | refine r_icmp_ne hX dX6_write_74 (q := 77) rfl (tgt := 82) (by decide) (fun h74 => ?_) (fun h74 => ?_)
        ·
          refine r_aload0 hX dX6_write_82 (q := 83) rfl ?_
          refine r_getR hX dX6_write_83 (q := 86) rfl fX6_25 rfl ⟨by decide, by decide, rfl⟩ ?_
          refine r_iload1 hX dX6_write_86 (q := 87) rfl ?_
          refine r_ialdN hX dX6_write_87 (q := 88) rfl rfl xe (by omega) (by first | decide | omega) ?_
          rw [(hS.1 (cl x) (by omega)).1]
          refine r_bipush hX dX6_write_88 (q := 90) rfl (v := nI 16) (by decide +kernel) ?_
          first | refine r_icmpN_ne hX dX6_write_90 (q := 93) rfl (tgt := 98) (by decide) (by first | omega | decide) (by first | omega | decide) (fun h90 => ?_) (fun h90 => ?_) | refine r_icmp_ne hX dX6_write_90 (q := 93) rfl (tgt := 98) (by decide) (fun h90 => ?_) (fun h90 => ?_)
          ·
            refine r_iload3 hX dX6_write_98 (q := 99) rfl ?_
            refine r_iastN hX dX6_write_99 (q := 100) rfl rfl (e_add (e_mul rfl xe) ye) (by omega) (by first | decide | omega) ?_
            refine r_iconst hX dX6_write_100 (q := 101) rfl (v := nI 1) (by decide +kernel) ?_
            refine r_iret hX hR dX6_write_101 ?_
            -- leaf 0 at 101
            refine ⟨_, rfl, ?_⟩
            refine SOM.ok ((if_pos h4).trans ((if_neg (fun q => h20 (q.trans nI_0))).trans (if_pos h46))) rfl ?_ (FrS.rf.up (Or.inr (Or.inr rfl)))
            unfold narS
            first
              | (rw [if_pos h74]; exact hS.n _ _)
              | (rw [if_neg h74, if_pos h90]; exact hS.n _ _)
              | (rw [if_neg h74, if_neg h90]; exact hS.n _ _)
          ·
            refine r_iload3 hX dX6_write_93 (q := 94) rfl ?_
            refine r_i2s hX dX6_write_94 (q := 95) rfl ?_
            refine r_goto hX dX6_write_95 (tgt := 99) (by decide) ?_
            refine r_iastN hX dX6_write_99 (q := 100) rfl rfl (e_add (e_mul rfl xe) ye) (by omega) (by first | decide | omega) ?_
            refine r_iconst hX dX6_write_100 (q := 101) rfl (v := nI 1) (by decide +kernel) ?_
            refine r_iret hX hR dX6_write_101 ?_
            -- leaf 1 at 101
            refine ⟨_, rfl, ?_⟩
            refine SOM.ok ((if_pos h4).trans ((if_neg (fun q => h20 (q.trans nI_0))).trans (if_pos h46))) rfl ?_ (FrS.rf.up (Or.inr (Or.inr rfl)))
            unfold narS
            first
              | (rw [if_pos h74]; exact hS.n _ _)
              | (rw [if_neg h74, if_pos h90]; exact hS.n _ _)
              | (rw [if_neg h74, if_neg h90]; exact hS.n _ _)
        ·
          refine r_iload3 hX dX6_write_77 (q := 78) rfl ?_
          refine r_i2b hX dX6_write_78 (q := 79) rfl ?_
          refine r_goto hX dX6_write_79 (tgt := 99) (by decide) ?_
          refine r_iastN hX dX6_write_99 (q := 100) rfl rfl (e_add (e_mul rfl xe) ye) (by omega) (by first | decide | omega) ?_
          refine r_iconst hX dX6_write_100 (q := 101) rfl (v := nI 1) (by decide +kernel) ?_
          refine r_iret hX hR dX6_write_101 ?_
          -- leaf 2 at 101
          refine ⟨_, rfl, ?_⟩
          refine SOM.ok ((if_pos h4).trans ((if_neg (fun q => h20 (q.trans nI_0))).trans (if_pos h46))) rfl ?_ (FrS.rf.up (Or.inr (Or.inr rfl)))
          unfold narS
          first
            | (rw [if_pos h74]; exact hS.n _ _)
            | (rw [if_neg h74, if_pos h90]; exact hS.n _ _)
            | (rw [if_neg h74, if_neg h90]; exact hS.n _ _)
      ·
        refine r_aload0 hX dX6_write_49 (q := 50) rfl ?_
        refine r_ldc hX dX6_write_50 (q := 52) rfl qX6_34 ?_
        refine r_callV hX dX6_write_52 (q := 55) rfl (c_X6_finds _ Γ _ _ 0 (by decide) (by decide +kernel)) kX6_36 mlX6_finds mvX6_finds rfl rfl rfl ⟨by decide, rfl⟩ ⟨by decide, by decide⟩ (Nat.le_of_ble_eq_true rfl) (kpI (fun v52 G52 p52 => ?_))
        refine r_iret hX hR dX6_write_55 ?_
        -- leaf 3 at 55
        refine ⟨_, rfl, ?_⟩
        exact SOM.fin (k := 0) ((if_pos h4).trans ((if_neg (fun q => h20 (q.trans nI_0))).trans (if_neg h46))) ⟨p52.1.trans (by decide +kernel), p52.2⟩
    ·
      refine r_aload0 hX dX6_write_23 (q := 24) rfl ?_
      refine r_ldc_w hX dX6_write_24 (q := 27) rfl qX6_273 ?_
      refine r_callV hX dX6_write_27 (q := 30) rfl (c_X6_finds _ Γ _ _ 5 (by decide) (by decide +kernel)) kX6_36 mlX6_finds mvX6_finds rfl rfl rfl ⟨by decide, rfl⟩ ⟨by decide, by decide⟩ (Nat.le_of_ble_eq_true rfl) (kpI (fun v27 G27 p27 => ?_))
      refine r_iret hX hR dX6_write_30 ?_
      -- leaf 4 at 30
      refine ⟨_, rfl, ?_⟩
      exact SOM.fin (k := 5) ((if_pos h4).trans (if_pos (h20.trans nI_0.symm))) ⟨p27.1.trans (by decide +kernel), p27.2⟩
  ·
    refine r_aload0 hX dX6_write_7 (q := 8) rfl ?_
    refine r_ldc hX dX6_write_8 (q := 10) rfl qX6_34 ?_
    refine r_callV hX dX6_write_10 (q := 13) rfl (c_X6_finds _ Γ _ _ 0 (by decide) (by decide +kernel)) kX6_36 mlX6_finds mvX6_finds rfl rfl rfl ⟨by decide, rfl⟩ ⟨by decide, by decide⟩ (Nat.le_of_ble_eq_true rfl) (kpI (fun v10 G10 p10 => ?_))
    refine r_iret hX hR dX6_write_13 ?_
    -- leaf 5 at 13
    refine ⟨_, rfl, ?_⟩
    exact SOM.fin (k := 0) (if_neg h4) ⟨p10.1.trans (by decide +kernel), p10.2⟩

set_option maxRecDepth 100000 in
set_option maxHeartbeats 4000000 in
theorem c_X6_copy (l : Launch) (Γ : Gam) (G : GG) (B Z N : MU) (hS : SRM G B Z N) (hZ : SInv Z) (x y z u n : Int32) : Sp l yX6_copy cX6_copy 9 (some .int) 2 45 [.ref (gad Γ 47), .int x, .int y, .int z, .int u, .int n] Γ G (pI (fun v G' => SOM G (oCopy B Z N x y z u n) v G')) := by
  refine Sp_of (own := RX6) rfl (by decide +kernel) rfl (Nat.le_of_ble_eq_true rfl) (fun X hX hR => ?_)
  show WP X Γ 0 [some (.ref (gad Γ 47)), some (.int x), some (.int y), some (.int z), some (.int u), some (.int n), none, none, none] [] G
  have J136 : ∀ (a d c f m : Nat) (ub : Bool), ((x = nI a ∧ y = nI d ∧ z = nI c ∧ u = nI f ∧ n = nI m) ∧ a < 4 ∧ c < 4 ∧ d + m ≤ 40 ∧ f + m ≤ 40) → (ub = decide (a = c ∧ d < f)) → (oCopy B Z N x y z u n = .inr (n, B, Z, fun k => if 40 * c + f ≤ k ∧ k < 40 * c + f + m then N (40 * a + d + (k - (40 * c + f))) else N k)) → WP X Γ 136 [some (.ref (gad Γ 47)), some (.int x), some (.int y), some (.int z), some (.int u), some (.int n), some (.int (bi ub)), none, none] [] G := by
    intro a d c f m ub hq hub ho
    obtain ⟨⟨rfl, rfl, rfl, rfl, rfl⟩, ha, hc, hd, hf⟩ := hq
    refine r_iconst hX dX6_copy_136 (q := 137) rfl (v := nI 0) (by decide +kernel) ?_
    refine r_istore7 hX dX6_copy_137 (q := 139) rfl rfl ?_
    have L139 : ∀ (zn139 : Nat) (k : Nat) (G1 : GG), zn139 = m - k → (k ≤ m) → (SRM G1 B Z (cpN N (40 * a + d) (40 * c + f) m ub k)) → (FrS G G1) → WP X Γ 139 [some (.ref (gad Γ 47)), some (.int (nI a)), some (.int (nI d)), some (.int (nI c)), some (.int (nI f)), some (.int (nI m)), some (.int (bi ub)), some (.int (nI k)), none] [] G1 := by
      intro zn139
      induction zn139 using Nat.strongRecOn with
      | _ zn139 ih139 =>
        intro k G1 zh139 hk h1 hF
        refine r_iload7 hX dX6_copy_139 (q := 141) rfl ?_
        refine r_iload5 hX dX6_copy_141 (q := 143) rfl ?_
        refine r_icmpN_ge hX dX6_copy_143 (q := 146) rfl (tgt := 200) (by decide) (by first | omega | decide) (by first | omega | decide) (fun h143 => ?_) (fun h143 => ?_)
        ·
          refine r_iload5 hX dX6_copy_200 (q := 202) rfl ?_
          refine r_iret hX hR dX6_copy_202 ?_
          -- leaf 0 at 202
          refine ⟨_, rfl, ?_⟩
          have e0 : k = m := by omega
          subst e0
          exact SOM.ok ho rfl (h1.cg cp_n) hF
        ·
          refine r_iload6 hX dX6_copy_146 (q := 148) rfl ?_
          first | with_reducible refine r_ifd_eq hX dX6_copy_148 (q := 151) rfl (tgt := 161) (by decide) (fun h148 => ?_) (fun h148 => ?_) | refine r_ifb_eq hX dX6_copy_148 (q := 151) rfl (tgt := 161) (by decide) (fun h148 => ?_) (fun h148 => ?_)
          ·
            subst h148
            have hd2 : 40 * c + f ≤ 40 * a + d ∨ 40 * a + d + m ≤ 40 * c + f := by
              have := of_decide_eq_false hub.symm
              omega
            refine r_iload7 hX dX6_copy_161 (q := 163) rfl ?_
            refine r_istore8 hX dX6_copy_163 (q := 165) rfl rfl ?_
            refine r_aload0 hX dX6_copy_165 (q := 166) rfl ?_
            refine r_getR hX dX6_copy_166 (q := 169) rfl fX6_31 rfl ⟨by decide, by decide, rfl⟩ ?_
            refine r_bipush hX dX6_copy_169 (q := 171) rfl (v := nI 40) (by decide +kernel) ?_
            refine r_iload3 hX dX6_copy_171 (q := 172) rfl ?_
            refine r_imul hX dX6_copy_172 (q := 173) rfl ?_
            refine r_iload4 hX dX6_copy_173 (q := 175) rfl ?_
            refine r_iadd hX dX6_copy_175 (q := 176) rfl ?_
            refine r_iload8 hX dX6_copy_176 (q := 178) rfl ?_
            refine r_iadd hX dX6_copy_178 (q := 179) rfl ?_
            refine r_aload0 hX dX6_copy_179 (q := 180) rfl ?_
            refine r_getR hX dX6_copy_180 (q := 183) rfl fX6_31 rfl ⟨by decide, by decide, rfl⟩ ?_
            refine r_bipush hX dX6_copy_183 (q := 185) rfl (v := nI 40) (by decide +kernel) ?_
            refine r_iload1 hX dX6_copy_185 (q := 186) rfl ?_
            refine r_imul hX dX6_copy_186 (q := 187) rfl ?_
            refine r_iload2 hX dX6_copy_187 (q := 188) rfl ?_
            refine r_iadd hX dX6_copy_188 (q := 189) rfl ?_
            refine r_iload8 hX dX6_copy_189 (q := 191) rfl ?_
            refine r_iadd hX dX6_copy_191 (q := 192) rfl ?_
            refine r_ialdN hX dX6_copy_192 (q := 193) rfl rfl (e_add (e_add (e_mul rfl rfl) rfl) rfl) (by omega) (by first | decide | omega) ?_
            rw [h1.2 _ (by omega)]
            first
              | rw [cp_rt (S := 40 * a + d) (by omega) (by omega)]
              | rw [cp_rf (S := 40 * a + d) (by omega) (by omega)]
            refine r_iastN hX dX6_copy_193 (q := 194) rfl rfl (e_add (e_add (e_mul rfl rfl) rfl) rfl) (by omega) (by first | decide | omega) ?_
            refine r_iincN7 hX dX6_copy_194 (q := 197) rfl rfl ?_
            refine r_goto hX dX6_copy_197 (tgt := 139) (by decide) ?_
            refine r_drop8 ?_
            refine ih139 _ ?_ (k + 1) _ rfl ?_ ?_ ?_
            ·
              omega
            ·
              omega
            ·
              first
                | exact (h1.n _ _).cg (cp_t (by omega))
                | exact (h1.n _ _).cg cp_f
            ·
              exact hF.up (Or.inr (Or.inr rfl))
          ·
            subst h148
            have hd2 := of_decide_eq_true hub.symm
            refine r_iload5 hX dX6_copy_151 (q := 153) rfl ?_
            refine r_iconst hX dX6_copy_153 (q := 154) rfl (v := nI 1) (by decide +kernel) ?_
            refine r_isub hX dX6_copy_154 (q := 155) rfl ?_
            refine r_iload7 hX dX6_copy_155 (q := 157) rfl ?_
            refine r_isub hX dX6_copy_157 (q := 158) rfl ?_
            rw [pk_sub (by omega), pk_sub (by omega)]
            refine r_goto hX dX6_copy_158 (tgt := 163) (by decide) ?_
            refine r_istore8 hX dX6_copy_163 (q := 165) rfl rfl ?_
            refine r_aload0 hX dX6_copy_165 (q := 166) rfl ?_
            refine r_getR hX dX6_copy_166 (q := 169) rfl fX6_31 rfl ⟨by decide, by decide, rfl⟩ ?_
            refine r_bipush hX dX6_copy_169 (q := 171) rfl (v := nI 40) (by decide +kernel) ?_
            refine r_iload3 hX dX6_copy_171 (q := 172) rfl ?_
            refine r_imul hX dX6_copy_172 (q := 173) rfl ?_
            refine r_iload4 hX dX6_copy_173 (q := 175) rfl ?_
            refine r_iadd hX dX6_copy_175 (q := 176) rfl ?_
            refine r_iload8 hX dX6_copy_176 (q := 178) rfl ?_
            refine r_iadd hX dX6_copy_178 (q := 179) rfl ?_
            refine r_aload0 hX dX6_copy_179 (q := 180) rfl ?_
            refine r_getR hX dX6_copy_180 (q := 183) rfl fX6_31 rfl ⟨by decide, by decide, rfl⟩ ?_
            refine r_bipush hX dX6_copy_183 (q := 185) rfl (v := nI 40) (by decide +kernel) ?_
            refine r_iload1 hX dX6_copy_185 (q := 186) rfl ?_
            refine r_imul hX dX6_copy_186 (q := 187) rfl ?_
            refine r_iload2 hX dX6_copy_187 (q := 188) rfl ?_
            refine r_iadd hX dX6_copy_188 (q := 189) rfl ?_
            refine r_iload8 hX dX6_copy_189 (q := 191) rfl ?_
            refine r_iadd hX dX6_copy_191 (q := 192) rfl ?_
            refine r_ialdN hX dX6_copy_192 (q := 193) rfl rfl (e_add (e_add (e_mul rfl rfl) rfl) rfl) (by omega) (by first | decide | omega) ?_
            rw [h1.2 _ (by omega)]
            first
              | rw [cp_rt (S := 40 * a + d) (by omega) (by omega)]
              | rw [cp_rf (S := 40 * a + d) (by omega) (by omega)]
            refine r_iastN hX dX6_copy_193 (q := 194) rfl rfl (e_add (e_add (e_mul rfl rfl) rfl) rfl) (by omega) (by first | decide | omega) ?_
            refine r_iincN7 hX dX6_copy_194 (q := 197) rfl rfl ?_
            refine r_goto hX dX6_copy_197 (tgt := 139) (by decide) ?_
            refine r_drop8 ?_
            refine ih139 _ ?_ (k + 1) _ rfl ?_ ?_ ?_
            ·
              omega
            ·
              omega
            ·
              first
                | exact (h1.n _ _).cg (cp_t (by omega))
                | exact (h1.n _ _).cg cp_f
            ·
              exact hF.up (Or.inr (Or.inr rfl))
    refine L139 _ 0 _ rfl ?_ ?_ ?_
    ·
      exact Nat.zero_le _
    ·
      exact hS.cg cp_0
    ·
      exact FrS.rf
  refine r_iload1 hX dX6_copy_0 (q := 1) rfl ?_
  refine r_callS hX dX6_copy_1 (q := 4) rfl (c_X6_isSheet _ Γ _ _) kX6_278 mlX6_isSheet msX6_isSheet rfl rfl ⟨by decide, by decide⟩ (Nat.le_of_ble_eq_true rfl) (keB ?_)
  first | with_reducible refine r_ifd_eq hX dX6_copy_4 (q := 7) rfl (tgt := 14) (by decide) (fun h4 => ?_) (fun h4 => ?_) | refine r_ifb_eq hX dX6_copy_4 (q := 7) rfl (tgt := 14) (by decide) (fun h4 => ?_) (fun h4 => ?_)
  ·
    refine r_aload0 hX dX6_copy_14 (q := 15) rfl ?_
    refine r_ldc hX dX6_copy_15 (q := 17) rfl qX6_34 ?_
    refine r_callV hX dX6_copy_17 (q := 20) rfl (c_X6_finds _ Γ _ _ 0 (by decide) (by decide +kernel)) kX6_36 mlX6_finds mvX6_finds rfl rfl rfl ⟨by decide, rfl⟩ ⟨by decide, by decide⟩ (Nat.le_of_ble_eq_true rfl) (kpI (fun v17 G17 p17 => ?_))
    refine r_iret hX hR dX6_copy_20 ?_
    -- leaf 1 at 20
    refine ⟨_, rfl, ?_⟩
    first
      | (exact SOM.fin (k := 0) (if_neg (fun q => h4 q.1)) ⟨p17.1.trans (by decide +kernel), p17.2⟩)
      | (exact SOM.fin (k := 0) (if_neg (fun q => h11 q.2)) ⟨p17.1.trans (by decide +kernel), p17.2⟩)
  ·
    obtain ⟨xl, xe⟩ := ix_of (by decide) h4
    obtain ⟨sx, sx1, sx2⟩ := hZ (cl x) (by omega)
    refine r_iload3 hX dX6_copy_7 (q := 8) rfl ?_
    refine r_callS hX dX6_copy_8 (q := 11) rfl (c_X6_isSheet _ Γ _ _) kX6_278 mlX6_isSheet msX6_isSheet rfl rfl ⟨by decide, by decide⟩ (Nat.le_of_ble_eq_true rfl) (keB ?_)
    first | with_reducible refine r_ifd_ne hX dX6_copy_11 (q := 14) rfl (tgt := 21) (by decide) (fun h11 => ?_) (fun h11 => ?_) | refine r_ifb_ne hX dX6_copy_11 (q := 14) rfl (tgt := 21) (by decide) (fun h11 => ?_) (fun h11 => ?_)
    ·
      obtain ⟨zl, ze⟩ := ix_of (by decide) h11
      obtain ⟨sz, sz1, sz2⟩ := hZ (cl z) (by omega)
      refine r_aload0 hX dX6_copy_21 (q := 22) rfl ?_
      refine r_getR hX dX6_copy_22 (q := 25) rfl fX6_25 rfl ⟨by decide, by decide, rfl⟩ ?_
      refine r_iload1 hX dX6_copy_25 (q := 26) rfl ?_
      refine r_ialdN hX dX6_copy_26 (q := 27) rfl rfl xe (by omega) (by first | decide | omega) ?_
      rw [(hS.1 (cl x) (by omega)).1]
      refine r_if_eq hX dX6_copy_27 (q := 30) rfl (tgt := 39) (by decide) (fun h27 => ?_) (fun h27 => ?_)
      ·
        refine r_aload0 hX dX6_copy_39 (q := 40) rfl ?_
        refine r_ldc_w hX dX6_copy_40 (q := 43) rfl qX6_273 ?_
        refine r_callV hX dX6_copy_43 (q := 46) rfl (c_X6_finds _ Γ _ _ 5 (by decide) (by decide +kernel)) kX6_36 mlX6_finds mvX6_finds rfl rfl rfl ⟨by decide, rfl⟩ ⟨by decide, by decide⟩ (Nat.le_of_ble_eq_true rfl) (kpI (fun v43 G43 p43 => ?_))
        refine r_iret hX hR dX6_copy_46 ?_
        -- leaf 2 at 46
        refine ⟨_, rfl, ?_⟩
        first
          | (exact SOM.fin (k := 5) ((if_pos ⟨h4, h11⟩).trans (if_pos (Or.inl (h27.trans nI_0.symm)))) ⟨p43.1.trans (by decide +kernel), p43.2⟩)
          | (exact SOM.fin (k := 5) ((if_pos ⟨h4, h11⟩).trans (if_pos (Or.inr (h36.trans nI_0.symm)))) ⟨p43.1.trans (by decide +kernel), p43.2⟩)
      ·
        refine r_aload0 hX dX6_copy_30 (q := 31) rfl ?_
        refine r_getR hX dX6_copy_31 (q := 34) rfl fX6_25 rfl ⟨by decide, by decide, rfl⟩ ?_
        refine r_iload3 hX dX6_copy_34 (q := 35) rfl ?_
        refine r_ialdN hX dX6_copy_35 (q := 36) rfl rfl ze (by omega) (by first | decide | omega) ?_
        rw [(hS.1 (cl z) (by omega)).1]
        refine r_if_ne hX dX6_copy_36 (q := 39) rfl (tgt := 47) (by decide) (fun h36 => ?_) (fun h36 => ?_)
        ·
          refine r_aload0 hX dX6_copy_47 (q := 48) rfl ?_
          refine r_getR hX dX6_copy_48 (q := 51) rfl fX6_25 rfl ⟨by decide, by decide, rfl⟩ ?_
          refine r_iload1 hX dX6_copy_51 (q := 52) rfl ?_
          refine r_ialdN hX dX6_copy_52 (q := 53) rfl rfl xe (by omega) (by first | decide | omega) ?_
          rw [(hS.1 (cl x) (by omega)).1]
          refine r_aload0 hX dX6_copy_53 (q := 54) rfl ?_
          refine r_getR hX dX6_copy_54 (q := 57) rfl fX6_25 rfl ⟨by decide, by decide, rfl⟩ ?_
          refine r_iload3 hX dX6_copy_57 (q := 58) rfl ?_
          refine r_ialdN hX dX6_copy_58 (q := 59) rfl rfl ze (by omega) (by first | decide | omega) ?_
          rw [(hS.1 (cl z) (by omega)).1]
          first | refine r_icmpN_eq hX dX6_copy_59 (q := 62) rfl (tgt := 70) (by decide) (by first | omega | decide) (by first | omega | decide) (fun h59 => ?_) (fun h59 => ?_) | refine r_icmp_eq hX dX6_copy_59 (q := 62) rfl (tgt := 70) (by decide) (fun h59 => ?_) (fun h59 => ?_)
          ·
            refine r_iload5 hX dX6_copy_70 (q := 72) rfl ?_
            refine r_if_lt hX dX6_copy_72 (q := 75) rfl (tgt := 111) (by decide) (fun h72 => ?_) (fun h72 => ?_)
            ·
              refine r_aload0 hX dX6_copy_111 (q := 112) rfl ?_
              refine r_ldc hX dX6_copy_112 (q := 114) rfl qX6_34 ?_
              refine r_callV hX dX6_copy_114 (q := 117) rfl (c_X6_finds _ Γ _ _ 0 (by decide) (by decide +kernel)) kX6_36 mlX6_finds mvX6_finds rfl rfl rfl ⟨by decide, rfl⟩ ⟨by decide, by decide⟩ (Nat.le_of_ble_eq_true rfl) (kpI (fun v114 G114 p114 => ?_))
              refine r_iret hX hR dX6_copy_117 ?_
              -- leaf 3 at 117
              refine ⟨_, rfl, ?_⟩
              have key : ¬ ((nI 0 ≤ y ∧ nI 0 ≤ n ∧ y ≤ Z (cl x) - n) ∧ nI 0 ≤ u ∧ nI 0 ≤ n ∧ u ≤ Z (cl z) - n) := fun q => by
                rw [sx2, sz2] at q
                first
                  | exact absurd h72 (Int32.not_lt.mpr (by rw [← nI_0]; exact q.1.2.1))
                  | exact absurd h76 (Int32.not_lt.mpr (by rw [← nI_0]; exact q.1.1))
                  | exact absurd h81 (Int32.not_lt.mpr (by rw [← nI_0]; exact q.2.1))
                  | exact absurd h94 (Int32.not_lt.mpr ((sub_sw sx1 q.1.1 q.1.2.1).mpr q.1.2.2))
                  | exact h108 ((sub_sw sz1 q.2.1 q.2.2.1).mpr q.2.2.2)
              exact SOM.fin (k := 0) ((if_pos ⟨h4, h11⟩).trans ((if_neg (not_or.mpr ⟨fun q => h27 (q.trans nI_0), fun q => h36 (q.trans nI_0)⟩)).trans ((if_neg (fun q => q h59)).trans (if_neg key)))) ⟨p114.1.trans (by decide +kernel), p114.2⟩
            ·
              refine r_iload2 hX dX6_copy_75 (q := 76) rfl ?_
              refine r_if_lt hX dX6_copy_76 (q := 79) rfl (tgt := 111) (by decide) (fun h76 => ?_) (fun h76 => ?_)
              ·
                refine r_aload0 hX dX6_copy_111 (q := 112) rfl ?_
                refine r_ldc hX dX6_copy_112 (q := 114) rfl qX6_34 ?_
                refine r_callV hX dX6_copy_114 (q := 117) rfl (c_X6_finds _ Γ _ _ 0 (by decide) (by decide +kernel)) kX6_36 mlX6_finds mvX6_finds rfl rfl rfl ⟨by decide, rfl⟩ ⟨by decide, by decide⟩ (Nat.le_of_ble_eq_true rfl) (kpI (fun v114 G114 p114 => ?_))
                refine r_iret hX hR dX6_copy_117 ?_
                -- leaf 4 at 117
                refine ⟨_, rfl, ?_⟩
                have key : ¬ ((nI 0 ≤ y ∧ nI 0 ≤ n ∧ y ≤ Z (cl x) - n) ∧ nI 0 ≤ u ∧ nI 0 ≤ n ∧ u ≤ Z (cl z) - n) := fun q => by
                  rw [sx2, sz2] at q
                  first
                    | exact absurd h72 (Int32.not_lt.mpr (by rw [← nI_0]; exact q.1.2.1))
                    | exact absurd h76 (Int32.not_lt.mpr (by rw [← nI_0]; exact q.1.1))
                    | exact absurd h81 (Int32.not_lt.mpr (by rw [← nI_0]; exact q.2.1))
                    | exact absurd h94 (Int32.not_lt.mpr ((sub_sw sx1 q.1.1 q.1.2.1).mpr q.1.2.2))
                    | exact h108 ((sub_sw sz1 q.2.1 q.2.2.1).mpr q.2.2.2)
                exact SOM.fin (k := 0) ((if_pos ⟨h4, h11⟩).trans ((if_neg (not_or.mpr ⟨fun q => h27 (q.trans nI_0), fun q => h36 (q.trans nI_0)⟩)).trans ((if_neg (fun q => q h59)).trans (if_neg key)))) ⟨p114.1.trans (by decide +kernel), p114.2⟩
              ·
                refine r_iload4 hX dX6_copy_79 (q := 81) rfl ?_
                refine r_if_lt hX dX6_copy_81 (q := 84) rfl (tgt := 111) (by decide) (fun h81 => ?_) (fun h81 => ?_)
                ·
                  refine r_aload0 hX dX6_copy_111 (q := 112) rfl ?_
                  refine r_ldc hX dX6_copy_112 (q := 114) rfl qX6_34 ?_
                  refine r_callV hX dX6_copy_114 (q := 117) rfl (c_X6_finds _ Γ _ _ 0 (by decide) (by decide +kernel)) kX6_36 mlX6_finds mvX6_finds rfl rfl rfl ⟨by decide, rfl⟩ ⟨by decide, by decide⟩ (Nat.le_of_ble_eq_true rfl) (kpI (fun v114 G114 p114 => ?_))
                  refine r_iret hX hR dX6_copy_117 ?_
                  -- leaf 5 at 117
                  refine ⟨_, rfl, ?_⟩
                  have key : ¬ ((nI 0 ≤ y ∧ nI 0 ≤ n ∧ y ≤ Z (cl x) - n) ∧ nI 0 ≤ u ∧ nI 0 ≤ n ∧ u ≤ Z (cl z) - n) := fun q => by
                    rw [sx2, sz2] at q
                    first
                      | exact absurd h72 (Int32.not_lt.mpr (by rw [← nI_0]; exact q.1.2.1))
                      | exact absurd h76 (Int32.not_lt.mpr (by rw [← nI_0]; exact q.1.1))
                      | exact absurd h81 (Int32.not_lt.mpr (by rw [← nI_0]; exact q.2.1))
                      | exact absurd h94 (Int32.not_lt.mpr ((sub_sw sx1 q.1.1 q.1.2.1).mpr q.1.2.2))
                      | exact h108 ((sub_sw sz1 q.2.1 q.2.2.1).mpr q.2.2.2)
                  exact SOM.fin (k := 0) ((if_pos ⟨h4, h11⟩).trans ((if_neg (not_or.mpr ⟨fun q => h27 (q.trans nI_0), fun q => h36 (q.trans nI_0)⟩)).trans ((if_neg (fun q => q h59)).trans (if_neg key)))) ⟨p114.1.trans (by decide +kernel), p114.2⟩
                ·
                  refine r_iload5 hX dX6_copy_84 (q := 86) rfl ?_
                  refine r_aload0 hX dX6_copy_86 (q := 87) rfl ?_
                  refine r_getR hX dX6_copy_87 (q := 90) rfl fX6_28 rfl ⟨by decide, by decide, rfl⟩ ?_
                  refine r_iload1 hX dX6_copy_90 (q := 91) rfl ?_
                  refine r_ialdN hX dX6_copy_91 (q := 92) rfl rfl xe (by omega) (by first | decide | omega) ?_
                  rw [(hS.1 (cl x) (by omega)).2, sx2]
                  refine r_iload2 hX dX6_copy_92 (q := 93) rfl ?_
                  refine r_isub hX dX6_copy_93 (q := 94) rfl ?_
                  first | refine r_icmpN_gt hX dX6_copy_94 (q := 97) rfl (tgt := 111) (by decide) (by first | omega | decide) (by first | omega | decide) (fun h94 => ?_) (fun h94 => ?_) | refine r_icmp_gt hX dX6_copy_94 (q := 97) rfl (tgt := 111) (by decide) (fun h94 => ?_) (fun h94 => ?_)
                  ·
                    refine r_aload0 hX dX6_copy_111 (q := 112) rfl ?_
                    refine r_ldc hX dX6_copy_112 (q := 114) rfl qX6_34 ?_
                    refine r_callV hX dX6_copy_114 (q := 117) rfl (c_X6_finds _ Γ _ _ 0 (by decide) (by decide +kernel)) kX6_36 mlX6_finds mvX6_finds rfl rfl rfl ⟨by decide, rfl⟩ ⟨by decide, by decide⟩ (Nat.le_of_ble_eq_true rfl) (kpI (fun v114 G114 p114 => ?_))
                    refine r_iret hX hR dX6_copy_117 ?_
                    -- leaf 6 at 117
                    refine ⟨_, rfl, ?_⟩
                    have key : ¬ ((nI 0 ≤ y ∧ nI 0 ≤ n ∧ y ≤ Z (cl x) - n) ∧ nI 0 ≤ u ∧ nI 0 ≤ n ∧ u ≤ Z (cl z) - n) := fun q => by
                      rw [sx2, sz2] at q
                      first
                        | exact absurd h72 (Int32.not_lt.mpr (by rw [← nI_0]; exact q.1.2.1))
                        | exact absurd h76 (Int32.not_lt.mpr (by rw [← nI_0]; exact q.1.1))
                        | exact absurd h81 (Int32.not_lt.mpr (by rw [← nI_0]; exact q.2.1))
                        | exact absurd h94 (Int32.not_lt.mpr ((sub_sw sx1 q.1.1 q.1.2.1).mpr q.1.2.2))
                        | exact h108 ((sub_sw sz1 q.2.1 q.2.2.1).mpr q.2.2.2)
                    exact SOM.fin (k := 0) ((if_pos ⟨h4, h11⟩).trans ((if_neg (not_or.mpr ⟨fun q => h27 (q.trans nI_0), fun q => h36 (q.trans nI_0)⟩)).trans ((if_neg (fun q => q h59)).trans (if_neg key)))) ⟨p114.1.trans (by decide +kernel), p114.2⟩
                  ·
                    refine r_iload5 hX dX6_copy_97 (q := 99) rfl ?_
                    refine r_aload0 hX dX6_copy_99 (q := 100) rfl ?_
                    refine r_getR hX dX6_copy_100 (q := 103) rfl fX6_28 rfl ⟨by decide, by decide, rfl⟩ ?_
                    refine r_iload3 hX dX6_copy_103 (q := 104) rfl ?_
                    refine r_ialdN hX dX6_copy_104 (q := 105) rfl rfl ze (by omega) (by first | decide | omega) ?_
                    rw [(hS.1 (cl z) (by omega)).2, sz2]
                    refine r_iload4 hX dX6_copy_105 (q := 107) rfl ?_
                    refine r_isub hX dX6_copy_107 (q := 108) rfl ?_
                    first | refine r_icmpN_le hX dX6_copy_108 (q := 111) rfl (tgt := 118) (by decide) (by first | omega | decide) (by first | omega | decide) (fun h108 => ?_) (fun h108 => ?_) | refine r_icmp_le hX dX6_copy_108 (q := 111) rfl (tgt := 118) (by decide) (fun h108 => ?_) (fun h108 => ?_)
                    ·
                      have n0 : nI 0 ≤ n := by rw [nI_0]; exact Int32.not_lt.mp h72
                      have y0 : nI 0 ≤ y := by rw [nI_0]; exact Int32.not_lt.mp h76
                      have u0 : nI 0 ≤ u := by rw [nI_0]; exact Int32.not_lt.mp h81
                      have hy := (sub_sw sx1 y0 n0).mp (Int32.not_lt.mp h94)
                      have hu := (sub_sw sz1 u0 n0).mp h108
                      obtain ⟨n1, n2, y1, y2⟩ := has_of sx1 ⟨y0, n0, hy⟩
                      obtain ⟨n3, n4, u1, u2⟩ := has_of sz1 ⟨u0, n0, hu⟩
                      have ho : oCopy B Z N x y z u n = .inr (n, B, Z, fun k => if 40 * cl z + cl u ≤ k ∧ k < 40 * cl z + cl u + cl n then N (40 * cl x + cl y + (k - (40 * cl z + cl u))) else N k) := by
                        unfold oCopy
                        rw [if_pos ⟨h4, h11⟩, if_neg (not_or.mpr ⟨fun q => h27 (q.trans nI_0), fun q => h36 (q.trans nI_0)⟩), if_neg (fun q => q h59), if_pos (by rw [sx2, sz2]; exact ⟨⟨y0, n0, hy⟩, u0, n0, hu⟩)]
                      have hq : (x = nI (cl x) ∧ y = nI (cl y) ∧ z = nI (cl z) ∧ u = nI (cl u) ∧ n = nI (cl n)) ∧ cl x < 4 ∧ cl z < 4 ∧ cl y + cl n ≤ 40 ∧ cl u + cl n ≤ 40 := ⟨⟨xe, y2, ze, u2, n2⟩, by omega, by omega, by omega, by omega⟩
                      refine r_iload1 hX dX6_copy_118 (q := 119) rfl ?_
                      refine r_iload3 hX dX6_copy_119 (q := 120) rfl ?_
                      first | refine r_icmpN_ne hX dX6_copy_120 (q := 123) rfl (tgt := 133) (by decide) (by first | omega | decide) (by first | omega | decide) (fun h120 => ?_) (fun h120 => ?_) | refine r_icmp_ne hX dX6_copy_120 (q := 123) rfl (tgt := 133) (by decide) (fun h120 => ?_) (fun h120 => ?_)
                      ·
                        refine r_iconst hX dX6_copy_133 (q := 134) rfl (v := nI 0) (by decide +kernel) ?_
                        refine r_istore6 hX dX6_copy_134 (q := 136) rfl rfl ?_
                        refine J136 (cl x) (cl y) (cl z) (cl u) (cl n) false ?_ ?_ ?_
                        ·
                          exact hq
                        ·
                          exact (decide_eq_false (fun q => h120 (by rw [xe, ze, q.1]))).symm
                        ·
                          exact ho
                      ·
                        refine r_iload2 hX dX6_copy_123 (q := 124) rfl ?_
                        refine r_iload4 hX dX6_copy_124 (q := 126) rfl ?_
                        first | refine r_icmpN_ge hX dX6_copy_126 (q := 129) rfl (tgt := 133) (by decide) (by first | omega | decide) (by first | omega | decide) (fun h126 => ?_) (fun h126 => ?_) | refine r_icmp_ge hX dX6_copy_126 (q := 129) rfl (tgt := 133) (by decide) (fun h126 => ?_) (fun h126 => ?_)
                        ·
                          refine r_iconst hX dX6_copy_133 (q := 134) rfl (v := nI 0) (by decide +kernel) ?_
                          refine r_istore6 hX dX6_copy_134 (q := 136) rfl rfl ?_
                          refine J136 (cl x) (cl y) (cl z) (cl u) (cl n) false ?_ ?_ ?_
                          ·
                            exact hq
                          ·
                            refine (decide_eq_false (fun q => ?_)).symm
                            rw [u2, y2] at h126
                            have := (nI_leI (by omega) (by omega)).mp h126
                            omega
                          ·
                            exact ho
                        ·
                          refine r_iconst hX dX6_copy_129 (q := 130) rfl (v := nI 1) (by decide +kernel) ?_
                          refine r_goto hX dX6_copy_130 (tgt := 134) (by decide) ?_
                          refine r_istore6 hX dX6_copy_134 (q := 136) rfl rfl ?_
                          refine J136 (cl x) (cl y) (cl z) (cl u) (cl n) true ?_ ?_ ?_
                          ·
                            exact hq
                          ·
                            refine (decide_eq_true ⟨by rw [h120], ?_⟩).symm
                            rcases Nat.lt_or_ge (cl y) (cl u) with q | q
                            · exact q
                            · exact absurd (by rw [u2, y2]; exact nI_le q (by omega)) h126
                          ·
                            exact ho
                    ·
                      refine r_aload0 hX dX6_copy_111 (q := 112) rfl ?_
                      refine r_ldc hX dX6_copy_112 (q := 114) rfl qX6_34 ?_
                      refine r_callV hX dX6_copy_114 (q := 117) rfl (c_X6_finds _ Γ _ _ 0 (by decide) (by decide +kernel)) kX6_36 mlX6_finds mvX6_finds rfl rfl rfl ⟨by decide, rfl⟩ ⟨by decide, by decide⟩ (Nat.le_of_ble_eq_true rfl) (kpI (fun v114 G114 p114 => ?_))
                      refine r_iret hX hR dX6_copy_117 ?_
                      -- leaf 7 at 117
                      refine ⟨_, rfl, ?_⟩
                      have key : ¬ ((nI 0 ≤ y ∧ nI 0 ≤ n ∧ y ≤ Z (cl x) - n) ∧ nI 0 ≤ u ∧ nI 0 ≤ n ∧ u ≤ Z (cl z) - n) := fun q => by
                        rw [sx2, sz2] at q
                        first
                          | exact absurd h72 (Int32.not_lt.mpr (by rw [← nI_0]; exact q.1.2.1))
                          | exact absurd h76 (Int32.not_lt.mpr (by rw [← nI_0]; exact q.1.1))
                          | exact absurd h81 (Int32.not_lt.mpr (by rw [← nI_0]; exact q.2.1))
                          | exact absurd h94 (Int32.not_lt.mpr ((sub_sw sx1 q.1.1 q.1.2.1).mpr q.1.2.2))
                          | exact h108 ((sub_sw sz1 q.2.1 q.2.2.1).mpr q.2.2.2)
                      exact SOM.fin (k := 0) ((if_pos ⟨h4, h11⟩).trans ((if_neg (not_or.mpr ⟨fun q => h27 (q.trans nI_0), fun q => h36 (q.trans nI_0)⟩)).trans ((if_neg (fun q => q h59)).trans (if_neg key)))) ⟨p114.1.trans (by decide +kernel), p114.2⟩
          ·
            refine r_aload0 hX dX6_copy_62 (q := 63) rfl ?_
            refine r_ldc_w hX dX6_copy_63 (q := 66) rfl qX6_277 ?_
            refine r_callV hX dX6_copy_66 (q := 69) rfl (c_X6_finds _ Γ _ _ 2 (by decide) (by decide +kernel)) kX6_36 mlX6_finds mvX6_finds rfl rfl rfl ⟨by decide, rfl⟩ ⟨by decide, by decide⟩ (Nat.le_of_ble_eq_true rfl) (kpI (fun v66 G66 p66 => ?_))
            refine r_iret hX hR dX6_copy_69 ?_
            -- leaf 8 at 69
            refine ⟨_, rfl, ?_⟩
            exact SOM.fin (k := 2) ((if_pos ⟨h4, h11⟩).trans ((if_neg (not_or.mpr ⟨fun q => h27 (q.trans nI_0), fun q => h36 (q.trans nI_0)⟩)).trans (if_pos h59))) ⟨p66.1.trans (by decide +kernel), p66.2⟩
        ·
          refine r_aload0 hX dX6_copy_39 (q := 40) rfl ?_
          refine r_ldc_w hX dX6_copy_40 (q := 43) rfl qX6_273 ?_
          refine r_callV hX dX6_copy_43 (q := 46) rfl (c_X6_finds _ Γ _ _ 5 (by decide) (by decide +kernel)) kX6_36 mlX6_finds mvX6_finds rfl rfl rfl ⟨by decide, rfl⟩ ⟨by decide, by decide⟩ (Nat.le_of_ble_eq_true rfl) (kpI (fun v43 G43 p43 => ?_))
          refine r_iret hX hR dX6_copy_46 ?_
          -- leaf 9 at 46
          refine ⟨_, rfl, ?_⟩
          first
            | (exact SOM.fin (k := 5) ((if_pos ⟨h4, h11⟩).trans (if_pos (Or.inl (h27.trans nI_0.symm)))) ⟨p43.1.trans (by decide +kernel), p43.2⟩)
            | (exact SOM.fin (k := 5) ((if_pos ⟨h4, h11⟩).trans (if_pos (Or.inr (h36.trans nI_0.symm)))) ⟨p43.1.trans (by decide +kernel), p43.2⟩)
    ·
      refine r_aload0 hX dX6_copy_14 (q := 15) rfl ?_
      refine r_ldc hX dX6_copy_15 (q := 17) rfl qX6_34 ?_
      refine r_callV hX dX6_copy_17 (q := 20) rfl (c_X6_finds _ Γ _ _ 0 (by decide) (by decide +kernel)) kX6_36 mlX6_finds mvX6_finds rfl rfl rfl ⟨by decide, rfl⟩ ⟨by decide, by decide⟩ (Nat.le_of_ble_eq_true rfl) (kpI (fun v17 G17 p17 => ?_))
      refine r_iret hX hR dX6_copy_20 ?_
      -- leaf 10 at 20
      refine ⟨_, rfl, ?_⟩
      first
        | (exact SOM.fin (k := 0) (if_neg (fun q => h4 q.1)) ⟨p17.1.trans (by decide +kernel), p17.2⟩)
        | (exact SOM.fin (k := 0) (if_neg (fun q => h11 q.2)) ⟨p17.1.trans (by decide +kernel), p17.2⟩)
