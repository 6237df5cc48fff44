set_option maxRecDepth 100000 in
set_option maxHeartbeats 4000000 in
theorem c_J9_floorMod_7cf53 (l : Launch) (Γ : Gam) (G : GG) (x : Int32) (m k : Nat) (hx : x = nI m - nI 1 - nI k) (hk : k < 35) (hm : m < 2 ^ 30) : Sp l yJ9_floorMod_7cf53 cJ9_floorMod_7cf53 3 (some .int) 0 0 [.int x, .int (nI 35)] Γ G (eI G (nI (rix m k))) := by
  refine Sp_of (own := RJ9) rfl (by decide +kernel) rfl (Nat.le_of_ble_eq_true rfl) (fun X hX hR => ?_)
  show WP X Γ 0 [some (.int x), some (.int (nI 35)), none] [] G
  subst hx
  refine r_iload0 hX dJ9_floorMod_7cf53_0 (q := 1) rfl ?_
  refine r_iload1 hX dJ9_floorMod_7cf53_1 (q := 2) rfl ?_
  refine r_irem hX dJ9_floorMod_7cf53_2 (q := 3) rfl (by first | decide +kernel | assumption) ?_
  refine r_istore2 hX dJ9_floorMod_7cf53_3 (q := 4) rfl rfl ?_
  refine r_iload0 hX dJ9_floorMod_7cf53_4 (q := 5) rfl ?_
  refine r_iload1 hX dJ9_floorMod_7cf53_5 (q := 6) rfl ?_
  refine r_ixor hX dJ9_floorMod_7cf53_6 (q := 7) rfl ?_
  refine r_if_ge hX dJ9_floorMod_7cf53_7 (q := 10) rfl (tgt := 18) (by decide) (fun h7 => ?_) (fun h7 => ?_)
  ·
    refine r_iload2 hX dJ9_floorMod_7cf53_18 (q := 19) rfl ?_
    refine r_iret hX hR dJ9_floorMod_7cf53_19 ?_
    -- leaf 0 at 19
    refine ⟨congrArg (fun z => some (Value.int z)) ?_, ?_⟩
    ·
      rcases Nat.lt_or_ge m (k + 1) with q | q
      · exact absurd h7 (fm_b m (by omega) k hk q).1
      · exact (fm_a hm q hk).2
    · rfl
  ·
    refine r_iload2 hX dJ9_floorMod_7cf53_10 (q := 11) rfl ?_
    refine r_if_eq hX dJ9_floorMod_7cf53_11 (q := 14) rfl (tgt := 18) (by decide) (fun h11 => ?_) (fun h11 => ?_)
    ·
      refine r_iload2 hX dJ9_floorMod_7cf53_18 (q := 19) rfl ?_
      refine r_iret hX hR dJ9_floorMod_7cf53_19 ?_
      -- leaf 1 at 19
      refine ⟨congrArg (fun z => some (Value.int z)) ?_, ?_⟩
      ·
        rcases Nat.lt_or_ge m (k + 1) with q | q
        · exact (fm_b m (by omega) k hk q).2.1 h11
        · exact absurd (fm_a hm q hk).1 h7
      · rfl
    ·
      refine r_iload2 hX dJ9_floorMod_7cf53_14 (q := 15) rfl ?_
      refine r_iload1 hX dJ9_floorMod_7cf53_15 (q := 16) rfl ?_
      refine r_iadd hX dJ9_floorMod_7cf53_16 (q := 17) rfl ?_
      refine r_iret hX hR dJ9_floorMod_7cf53_17 ?_
      -- leaf 2 at 17
      refine ⟨congrArg (fun z => some (Value.int z)) ?_, ?_⟩
      ·
        rcases Nat.lt_or_ge m (k + 1) with q | q
        · exact (fm_b m (by omega) k hk q).2.2 h11
        · exact absurd (fm_a hm q hk).1 h7
      · rfl

set_option maxRecDepth 100000 in
set_option maxHeartbeats 4000000 in
theorem c_J6_bitCount_0f7a4 (l : Launch) (Γ : Gam) (G : GG) (x : Int32) : Sp l yJ6_bitCount_0f7a4 cJ6_bitCount_0f7a4 1 (some .int) 0 0 [.int x] Γ G (eI G (bcF x)) := by
  refine Sp_of (own := RJ6) rfl (by decide +kernel) rfl (Nat.le_of_ble_eq_true rfl) (fun X hX hR => ?_)
  show WP X Γ 0 [some (.int x)] [] G
  refine r_iload0 hX dJ6_bitCount_0f7a4_0 (q := 1) rfl ?_
  refine r_iload0 hX dJ6_bitCount_0f7a4_1 (q := 2) rfl ?_
  refine r_iconst hX dJ6_bitCount_0f7a4_2 (q := 3) rfl (v := nI 1) (by decide +kernel) ?_
  refine r_iushr hX dJ6_bitCount_0f7a4_3 (q := 4) rfl ?_
  refine r_ldc_w hX dJ6_bitCount_0f7a4_4 (q := 7) rfl qJ6_265 ?_
  refine r_iand hX dJ6_bitCount_0f7a4_7 (q := 8) rfl ?_
  refine r_isub hX dJ6_bitCount_0f7a4_8 (q := 9) rfl ?_
  refine r_istore0 hX dJ6_bitCount_0f7a4_9 (q := 10) rfl rfl ?_
  refine r_iload0 hX dJ6_bitCount_0f7a4_10 (q := 11) rfl ?_
  refine r_ldc_w hX dJ6_bitCount_0f7a4_11 (q := 14) rfl qJ6_266 ?_
  refine r_iand hX dJ6_bitCount_0f7a4_14 (q := 15) rfl ?_
  refine r_iload0 hX dJ6_bitCount_0f7a4_15 (q := 16) rfl ?_
  refine r_iconst hX dJ6_bitCount_0f7a4_16 (q := 17) rfl (v := nI 2) (by decide +kernel) ?_
  refine r_iushr hX dJ6_bitCount_0f7a4_17 (q := 18) rfl ?_
  refine r_ldc_w hX dJ6_bitCount_0f7a4_18 (q := 21) rfl qJ6_266 ?_
  refine r_iand hX dJ6_bitCount_0f7a4_21 (q := 22) rfl ?_
  refine r_iadd hX dJ6_bitCount_0f7a4_22 (q := 23) rfl ?_
  refine r_istore0 hX dJ6_bitCount_0f7a4_23 (q := 24) rfl rfl ?_
  refine r_iload0 hX dJ6_bitCount_0f7a4_24 (q := 25) rfl ?_
  refine r_iload0 hX dJ6_bitCount_0f7a4_25 (q := 26) rfl ?_
  refine r_iconst hX dJ6_bitCount_0f7a4_26 (q := 27) rfl (v := nI 4) (by decide +kernel) ?_
  refine r_iushr hX dJ6_bitCount_0f7a4_27 (q := 28) rfl ?_
  refine r_iadd hX dJ6_bitCount_0f7a4_28 (q := 29) rfl ?_
  refine r_ldc_w hX dJ6_bitCount_0f7a4_29 (q := 32) rfl qJ6_267 ?_
  refine r_iand hX dJ6_bitCount_0f7a4_32 (q := 33) rfl ?_
  refine r_istore0 hX dJ6_bitCount_0f7a4_33 (q := 34) rfl rfl ?_
  refine r_iload0 hX dJ6_bitCount_0f7a4_34 (q := 35) rfl ?_
  refine r_iload0 hX dJ6_bitCount_0f7a4_35 (q := 36) rfl ?_
  refine r_bipush hX dJ6_bitCount_0f7a4_36 (q := 38) rfl (v := nI 8) (by decide +kernel) ?_
  refine r_iushr hX dJ6_bitCount_0f7a4_38 (q := 39) rfl ?_
  refine r_iadd hX dJ6_bitCount_0f7a4_39 (q := 40) rfl ?_
  refine r_istore0 hX dJ6_bitCount_0f7a4_40 (q := 41) rfl rfl ?_
  refine r_iload0 hX dJ6_bitCount_0f7a4_41 (q := 42) rfl ?_
  refine r_iload0 hX dJ6_bitCount_0f7a4_42 (q := 43) rfl ?_
  refine r_bipush hX dJ6_bitCount_0f7a4_43 (q := 45) rfl (v := nI 16) (by decide +kernel) ?_
  refine r_iushr hX dJ6_bitCount_0f7a4_45 (q := 46) rfl ?_
  refine r_iadd hX dJ6_bitCount_0f7a4_46 (q := 47) rfl ?_
  refine r_istore0 hX dJ6_bitCount_0f7a4_47 (q := 48) rfl rfl ?_
  refine r_iload0 hX dJ6_bitCount_0f7a4_48 (q := 49) rfl ?_
  refine r_bipush hX dJ6_bitCount_0f7a4_49 (q := 51) rfl (v := nI 63) (by decide +kernel) ?_
  refine r_iand hX dJ6_bitCount_0f7a4_51 (q := 52) rfl ?_
  refine r_iret hX hR dJ6_bitCount_0f7a4_52 ?_
  -- leaf 0 at 52
  refine ⟨congrArg (fun z => some (Value.int z)) ?_, ?_⟩
  ·
    rfl
  · rfl

set_option maxRecDepth 100000 in
set_option maxHeartbeats 4000000 in
theorem c_X1_isFull (l : Launch) (Γ : Gam) (G : GG) (i : Nat) (hi : i < 3) (n : Nat) (hn : G (ch i 4) 3 = nI n) (hn1 : n ≤ 10) : Sp l yX1_isFull cX1_isFull 1 (some .boolean) 0 0 [.ref (gad Γ (ch i 4))] Γ G (eB G (decide (10 ≤ n))) := by
  refine Sp_of (own := RX1) rfl (by decide +kernel) rfl (Nat.le_of_ble_eq_true rfl) (fun X hX hR => ?_)
  show WP X Γ 0 [some (.ref (gad Γ (ch i 4)))] [] G
  refine r_aload0 hX dX1_isFull_0 (q := 1) rfl ?_
  refine r_getI hX dX1_isFull_1 (q := 4) rfl fX1_21 (ch_lay (j := 4) (by first | assumption | decide) (by decide) rfl) (rP_3 (by first | assumption | decide)) ?_
  refine r_bipush hX dX1_isFull_4 (q := 6) rfl (v := nI 10) (by decide +kernel) ?_
  rw [hn]
  first | refine r_icmpN_lt hX dX1_isFull_6 (q := 9) rfl (tgt := 13) (by decide) (by first | decide | omega) (by first | decide | omega) (fun h6 => ?_) (fun h6 => ?_) | refine r_icmp_lt hX dX1_isFull_6 (q := 9) rfl (tgt := 13) (by decide) (fun h6 => ?_) (fun h6 => ?_)
  ·
    refine r_iconst hX dX1_isFull_13 (q := 14) rfl (v := nI 0) (by decide +kernel) ?_
    refine r_zret0 hX hR dX1_isFull_14 ?_
    -- leaf 0 at 14
    refine ⟨congrArg (fun z => some (Value.int (bi z))) ?_, ?_⟩
    ·
      clear hX hR
      first | (refine (decide_eq_true ?_).symm; omega) | (refine (decide_eq_false ?_).symm; omega)
    · rfl
  ·
    refine r_iconst hX dX1_isFull_9 (q := 10) rfl (v := nI 1) (by decide +kernel) ?_
    refine r_goto hX dX1_isFull_10 (tgt := 14) (by decide) ?_
    refine r_zret1 hX hR dX1_isFull_14 ?_
    -- leaf 1 at 14
    refine ⟨congrArg (fun z => some (Value.int (bi z))) ?_, ?_⟩
    ·
      clear hX hR
      first | (refine (decide_eq_true ?_).symm; omega) | (refine (decide_eq_false ?_).symm; omega)
    · rfl

set_option maxRecDepth 100000 in
set_option maxHeartbeats 4000000 in
theorem c_X0_friendHas (l : Launch) (Γ : Gam) (G : GG) (i : Nat) (hi : i < 3) (x : Int32) (f : Nat) (hx : x = nI f) : Sp l yX0_friendHas cX0_friendHas 2 (some .boolean) 0 0 [.ref (gad Γ (ch i 0)), .int x] Γ G (eB G (frS (G (ch i 0) 8) f)) := by
  refine Sp_of (own := RX0) rfl (by decide +kernel) rfl (Nat.le_of_ble_eq_true rfl) (fun X hX hR => ?_)
  show WP X Γ 0 [some (.ref (gad Γ (ch i 0))), some (.int x)] [] G
  subst hx
  refine r_aload0 hX dX0_friendHas_0 (q := 1) rfl ?_
  refine r_getI hX dX0_friendHas_1 (q := 4) rfl fX0_43 (ch_lay (j := 0) (by first | assumption | decide) (by decide) rfl) (rC_8 (by first | assumption | decide)) ?_
  refine r_iload1 hX dX0_friendHas_4 (q := 5) rfl ?_
  refine r_iushr hX dX0_friendHas_5 (q := 6) rfl ?_
  refine r_iconst hX dX0_friendHas_6 (q := 7) rfl (v := nI 1) (by decide +kernel) ?_
  refine r_iand hX dX0_friendHas_7 (q := 8) rfl ?_
  refine r_iconst hX dX0_friendHas_8 (q := 9) rfl (v := nI 1) (by decide +kernel) ?_
  first | refine r_icmpN_ne hX dX0_friendHas_9 (q := 12) rfl (tgt := 16) (by decide) (by first | decide | omega) (by first | decide | omega) (fun h9 => ?_) (fun h9 => ?_) | refine r_icmp_ne hX dX0_friendHas_9 (q := 12) rfl (tgt := 16) (by decide) (fun h9 => ?_) (fun h9 => ?_)
  ·
    refine r_iconst hX dX0_friendHas_16 (q := 17) rfl (v := nI 0) (by decide +kernel) ?_
    refine r_zret0 hX hR dX0_friendHas_17 ?_
    -- leaf 0 at 17
    refine ⟨congrArg (fun z => some (Value.int (bi z))) ?_, ?_⟩
    ·
      first | exact (decide_eq_true h9).symm | exact (decide_eq_false h9).symm
    · rfl
  ·
    refine r_iconst hX dX0_friendHas_12 (q := 13) rfl (v := nI 1) (by decide +kernel) ?_
    refine r_goto hX dX0_friendHas_13 (tgt := 17) (by decide) ?_
    refine r_zret1 hX hR dX0_friendHas_17 ?_
    -- leaf 1 at 17
    refine ⟨congrArg (fun z => some (Value.int (bi z))) ?_, ?_⟩
    ·
      first | exact (decide_eq_true h9).symm | exact (decide_eq_false h9).symm
    · rfl

set_option maxRecDepth 100000 in
set_option maxHeartbeats 4000000 in
theorem c_X0_drawn (l : Launch) (Γ : Gam) (G : GG) (i : Nat) (hi : i < 3) : Sp l yX0_drawn cX0_drawn 1 (some .int) 0 0 [.ref (gad Γ (ch i 0))] Γ G (eI (up G (ch i 0) 12 (drS (G (ch i 0) 12))) (shr8 (drS (G (ch i 0) 12)))) := by
  refine Sp_of (own := RX0) rfl (by decide +kernel) rfl (Nat.le_of_ble_eq_true rfl) (fun X hX hR => ?_)
  show WP X Γ 0 [some (.ref (gad Γ (ch i 0)))] [] G
  refine r_aload0 hX dX0_drawn_0 (q := 1) rfl ?_
  refine r_aload0 hX dX0_drawn_1 (q := 2) rfl ?_
  refine r_getI hX dX0_drawn_2 (q := 5) rfl fX0_59 (ch_lay (j := 0) (by first | assumption | decide) (by decide) rfl) (rC_12 (by first | assumption | decide)) ?_
  refine r_ldc hX dX0_drawn_5 (q := 7) rfl qX0_97 ?_
  refine r_imul hX dX0_drawn_7 (q := 8) rfl ?_
  refine r_sipush hX dX0_drawn_8 (q := 11) rfl (v := nI 12345) (by decide +kernel) ?_
  refine r_iadd hX dX0_drawn_11 (q := 12) rfl ?_
  refine r_put hX dX0_drawn_12 (q := 15) rfl fX0_59 wX0_12 rfl rfl (ch_lay (j := 0) (by first | assumption | decide) (by decide) rfl) (rC_12 (by first | assumption | decide)) ?_
  refine r_aload0 hX dX0_drawn_15 (q := 16) rfl ?_
  refine r_getI hX dX0_drawn_16 (q := 19) rfl fX0_59 (ch_lay (j := 0) (by first | assumption | decide) (by decide) rfl) (rC_12 (by first | assumption | decide)) ?_
  refine r_bipush hX dX0_drawn_19 (q := 21) rfl (v := nI 8) (by decide +kernel) ?_
  refine r_iushr hX dX0_drawn_21 (q := 22) rfl ?_
  refine r_iret hX hR dX0_drawn_22 ?_
  -- leaf 0 at 22
  refine ⟨congrArg (fun z => some (Value.int z)) ?_, ?_⟩
  ·
    rw [up_eq]; rfl
  · rfl

set_option maxRecDepth 100000 in
set_option maxHeartbeats 4000000 in
theorem c_X0_moveLike (l : Launch) (Γ : Gam) (G : GG) (i : Nat) (hi : i < 3) (x : Int32) (f : Nat) (hx : x = nI f) (hf : f < 10) (by0 : Int32) : Sp l yX0_moveLike cX0_moveLike 3 none 1 21 [.ref (gad Γ (ch i 0)), .int x, .int by0] Γ G (eV (up G (ch i 1) f (lkS (G (ch i 1) f + by0)))) := by
  refine Sp_of (own := RX0) rfl (by decide +kernel) rfl (Nat.le_of_ble_eq_true rfl) (fun X hX hR => ?_)
  show WP X Γ 0 [some (.ref (gad Γ (ch i 0))), some (.int x), some (.int by0)] [] G
  subst hx
  refine r_aload0 hX dX0_moveLike_0 (q := 1) rfl ?_
  refine r_getR hX dX0_moveLike_1 (q := 4) rfl fX0_9 (ch_lay (j := 0) (by first | assumption | decide) (by decide) rfl) (rC_0 (by first | assumption | decide)) ?_
  refine r_iload1 hX dX0_moveLike_4 (q := 5) rfl ?_
  refine r_iconst hX dX0_moveLike_5 (q := 6) rfl (v := nI 0) (by decide +kernel) ?_
  refine r_bipush hX dX0_moveLike_6 (q := 8) rfl (v := nI 99) (by decide +kernel) ?_
  refine r_aload0 hX dX0_moveLike_8 (q := 9) rfl ?_
  refine r_getR hX dX0_moveLike_9 (q := 12) rfl fX0_9 (ch_lay (j := 0) (by first | assumption | decide) (by decide) rfl) (rC_0 (by first | assumption | decide)) ?_
  refine r_iload1 hX dX0_moveLike_12 (q := 13) rfl ?_
  refine r_ialdN hX dX0_moveLike_13 (q := 14) rfl (ch_lay (j := 1) (by first | assumption | decide) (by decide) rfl) (by repeat' (first | assumption | with_reducible exact rfl | refine e_add ?_ ?_ | refine e_mul ?_ ?_)) (by first | assumption | omega) (by first | decide | omega) ?_
  refine r_iload2 hX dX0_moveLike_14 (q := 15) rfl ?_
  refine r_iadd hX dX0_moveLike_15 (q := 16) rfl ?_
  refine r_mmin hX dX0_moveLike_16 (q := 19) rfl kX0_88 msMathmin ⟨by decide, Nat.le_of_ble_eq_true rfl⟩ ?_
  refine r_mmax hX dX0_moveLike_19 (q := 22) rfl kX0_98 msMathmax ⟨by decide, Nat.le_of_ble_eq_true rfl⟩ ?_
  refine r_iastN hX dX0_moveLike_22 (q := 23) rfl (ch_lay (j := 1) (by first | assumption | decide) (by decide) rfl) (by repeat' (first | assumption | with_reducible exact rfl | refine e_add ?_ ?_ | refine e_mul ?_ ?_)) (by first | assumption | omega) (by first | decide | omega) ?_
  refine r_vret hX hR dX0_moveLike_23 ?_
  -- leaf 0 at 23
  refine ⟨rfl, ?_⟩
  rfl

set_option maxRecDepth 100000 in
set_option maxHeartbeats 4000000 in
theorem c_X0_eats (l : Launch) (Γ : Gam) (G : GG) (i : Nat) (hi : i < 3) (μ : MU) (b : Nat) (hC : CR G i μ) (hV : Inv b μ) (x : Int32) (t : Nat) (hx : x = nI t) (ht : t < 10) (fb : Bool) : Sp l yX0_eats cX0_eats 6 (some .int) 1 21 [.ref (gad Γ (ch i 0)), .int x, .int (bi fb)] Γ G (eI G (eatT μ t fb)) := by
  refine Sp_of (own := RX0) rfl (by decide +kernel) rfl (Nat.le_of_ble_eq_true rfl) (fun X hX hR => ?_)
  show WP X Γ 0 [some (.ref (gad Γ (ch i 0))), some (.int x), some (.int (bi fb)), none, none, none] [] G
  subst hx
  obtain ⟨hf, hfe⟩ := hV.fd ht
  obtain ⟨e5, e6, e7⟩ := hC.2.2.1 t ht
  have e6' : G (ch i 6) t = nI (cl (μ (41 + 3 * t))) := e6.trans hfe
  have e1 := (hC.2.1 _ hf).1
  have e4 : G (ch i 0) 4 = μ 3 := hC.1.2.2.2.1
  have e8 : G (ch i 0) 8 = μ 7 := hC.1.2.2.2.2.2.2.2.1
  refine r_aload0 hX dX0_eats_0 (q := 1) rfl ?_
  refine r_getR hX dX0_eats_1 (q := 4) rfl fX0_49 (ch_lay (j := 0) (by first | assumption | decide) (by decide) rfl) (rC_9 (by first | assumption | decide)) ?_
  refine r_getR hX dX0_eats_4 (q := 7) rfl fX0_79 (ch_lay (j := 4) (by first | assumption | decide) (by decide) rfl) (rP_2 (by first | assumption | decide)) ?_
  refine r_iload1 hX dX0_eats_7 (q := 8) rfl ?_
  refine r_ialdN hX dX0_eats_8 (q := 9) rfl (ch_lay (j := 7) (by first | assumption | decide) (by decide) rfl) (by repeat' (first | assumption | with_reducible exact rfl | refine e_add ?_ ?_ | refine e_mul ?_ ?_)) (by first | assumption | omega) (by first | decide | omega) ?_
  refine r_istore3 hX dX0_eats_9 (q := 10) rfl rfl ?_
  refine r_aload0 hX dX0_eats_10 (q := 11) rfl ?_
  refine r_getR hX dX0_eats_11 (q := 14) rfl fX0_49 (ch_lay (j := 0) (by first | assumption | decide) (by decide) rfl) (rC_9 (by first | assumption | decide)) ?_
  refine r_getR hX dX0_eats_14 (q := 17) rfl fX0_82 (ch_lay (j := 4) (by first | assumption | decide) (by decide) rfl) (rP_1 (by first | assumption | decide)) ?_
  refine r_iload1 hX dX0_eats_17 (q := 18) rfl ?_
  refine r_ialdN hX dX0_eats_18 (q := 19) rfl (ch_lay (j := 6) (by first | assumption | decide) (by decide) rfl) (by repeat' (first | assumption | with_reducible exact rfl | refine e_add ?_ ?_ | refine e_mul ?_ ?_)) (by first | assumption | omega) (by first | decide | omega) ?_
  refine r_istore4 hX dX0_eats_19 (q := 21) rfl rfl ?_
  refine r_iload3 hX dX0_eats_21 (q := 22) rfl ?_
  refine r_aload0 hX dX0_eats_22 (q := 23) rfl ?_
  refine r_getR hX dX0_eats_23 (q := 26) rfl fX0_9 (ch_lay (j := 0) (by first | assumption | decide) (by decide) rfl) (rC_0 (by first | assumption | decide)) ?_
  refine r_iload4 hX dX0_eats_26 (q := 28) rfl ?_
  refine r_ialdN hX dX0_eats_28 (q := 29) rfl (ch_lay (j := 1) (by first | assumption | decide) (by decide) rfl) (by repeat' (first | assumption | with_reducible exact rfl | refine e_add ?_ ?_ | refine e_mul ?_ ?_)) (by first | assumption | omega) (by first | decide | omega) ?_
  refine r_imul hX dX0_eats_29 (q := 30) rfl ?_
  refine r_aload0 hX dX0_eats_30 (q := 31) rfl ?_
  refine r_getI hX dX0_eats_31 (q := 34) rfl fX0_31 (ch_lay (j := 0) (by first | assumption | decide) (by decide) rfl) (rC_4 (by first | assumption | decide)) ?_
  refine r_bipush hX dX0_eats_34 (q := 36) rfl (v := nI 20) (by decide +kernel) ?_
  refine r_iadd hX dX0_eats_36 (q := 37) rfl ?_
  refine r_imul hX dX0_eats_37 (q := 38) rfl ?_
  refine r_sipush hX dX0_eats_38 (q := 41) rfl (v := nI 10000) (by decide +kernel) ?_
  refine r_idiv hX dX0_eats_41 (q := 42) rfl (by first | decide +kernel | assumption) ?_
  refine r_istore5 hX dX0_eats_42 (q := 44) rfl rfl ?_
  refine r_aload0 hX dX0_eats_44 (q := 45) rfl ?_
  refine r_getR hX dX0_eats_45 (q := 48) rfl fX0_49 (ch_lay (j := 0) (by first | assumption | decide) (by decide) rfl) (rC_9 (by first | assumption | decide)) ?_
  refine r_getR hX dX0_eats_48 (q := 51) rfl fX0_85 (ch_lay (j := 4) (by first | assumption | decide) (by decide) rfl) (rP_0 (by first | assumption | decide)) ?_
  refine r_iload1 hX dX0_eats_51 (q := 52) rfl ?_
  refine r_ialdN hX dX0_eats_52 (q := 53) rfl (ch_lay (j := 5) (by first | assumption | decide) (by decide) rfl) (by repeat' (first | assumption | with_reducible exact rfl | refine e_add ?_ ?_ | refine e_mul ?_ ?_)) (by first | assumption | omega) (by first | decide | omega) ?_
  refine r_tabCase hX dX0_eats_53 1 ⟨by decide, by decide, by decide, rfl, (by decide : (53 : Int) + 39 = (92 : Nat))⟩ (fun h53_1 => ?_) (fun h53_1 => ?_)
  ·
    refine r_iconst hX dX0_eats_92 (q := 93) rfl (v := nI 0) (by decide +kernel) ?_
    refine r_iret hX hR dX0_eats_93 ?_
    -- leaf 0 at 93
    refine ⟨congrArg (fun z => some (Value.int z)) ?_, ?_⟩
    ·
      unfold eatT eatS
      rw [← e5, if_pos h53_1]
    · rfl
  refine r_tabCase hX dX0_eats_53 2 ⟨by decide, by decide, by decide, rfl, (by decide : (53 : Int) + 41 = (94 : Nat))⟩ (fun h53_2 => ?_) (fun h53_2 => ?_)
  ·
    refine r_iload3 hX dX0_eats_94 (q := 95) rfl ?_
    refine r_iload5 hX dX0_eats_95 (q := 97) rfl ?_
    refine r_iconst hX dX0_eats_97 (q := 98) rfl (v := nI 2) (by decide +kernel) ?_
    refine r_iadd hX dX0_eats_98 (q := 99) rfl ?_
    refine r_mmin hX dX0_eats_99 (q := 102) rfl kX0_88 msMathmin ⟨by decide, Nat.le_of_ble_eq_true rfl⟩ ?_
    refine r_iret hX hR dX0_eats_102 ?_
    -- leaf 1 at 102
    refine ⟨congrArg (fun z => some (Value.int z)) ?_, ?_⟩
    ·
      unfold eatT eatS
      rw [← e5, if_neg h53_1, if_pos h53_2]
      simp only [plS, e7, e1, e4]
    · rfl
  refine r_tabCase hX dX0_eats_53 3 ⟨by decide, by decide, by decide, rfl, (by decide : (53 : Int) + 50 = (103 : Nat))⟩ (fun h53_3 => ?_) (fun h53_3 => ?_)
  ·
    refine r_iload3 hX dX0_eats_103 (q := 104) rfl ?_
    refine r_iload5 hX dX0_eats_104 (q := 106) rfl ?_
    refine r_iconst hX dX0_eats_106 (q := 107) rfl (v := nI 2) (by decide +kernel) ?_
    refine r_iadd hX dX0_eats_107 (q := 108) rfl ?_
    refine r_iconst hX dX0_eats_108 (q := 109) rfl (v := nI 3) (by decide +kernel) ?_
    refine r_iadd hX dX0_eats_109 (q := 110) rfl ?_
    refine r_mmin hX dX0_eats_110 (q := 113) rfl kX0_88 msMathmin ⟨by decide, Nat.le_of_ble_eq_true rfl⟩ ?_
    refine r_iret hX hR dX0_eats_113 ?_
    -- leaf 2 at 113
    refine ⟨congrArg (fun z => some (Value.int z)) ?_, ?_⟩
    ·
      unfold eatT eatS
      rw [← e5, if_neg h53_1, if_neg h53_2, if_pos h53_3]
      simp only [plS, e7, e1, e4]
    · rfl
  refine r_tabCase hX dX0_eats_53 4 ⟨by decide, by decide, by decide, rfl, (by decide : (53 : Int) + 61 = (114 : Nat))⟩ (fun h53_4 => ?_) (fun h53_4 => ?_)
  ·
    refine r_iload3 hX dX0_eats_114 (q := 115) rfl ?_
    refine r_aload0 hX dX0_eats_115 (q := 116) rfl ?_
    refine r_iload4 hX dX0_eats_116 (q := 118) rfl ?_
    refine r_callV hX dX0_eats_118 (q := 121) rfl (c_X0_friendHas _ Γ _ _ (by first | assumption | decide) _ _ (by repeat' (first | assumption | with_reducible exact rfl | refine e_add ?_ ?_ | refine e_mul ?_ ?_))) kX0_94 mlX0_friendHas mvX0_friendHas rfl rfl (ch_lay (j := 0) (by first | assumption | decide) (by decide) rfl) ⟨by decide, rfl⟩ ⟨by decide, by decide⟩ (Nat.le_of_ble_eq_true rfl) (keB ?_)
    first | with_reducible refine r_ifd_eq hX dX0_eats_121 (q := 124) rfl (tgt := 134) (by decide) (fun h121 => ?_) (fun h121 => ?_) | refine r_ifb_eq hX dX0_eats_121 (q := 124) rfl (tgt := 134) (by decide) (fun h121 => ?_) (fun h121 => ?_)
    ·
      refine r_iload5 hX dX0_eats_134 (q := 136) rfl ?_
      refine r_mmin hX dX0_eats_136 (q := 139) rfl kX0_88 msMathmin ⟨by decide, Nat.le_of_ble_eq_true rfl⟩ ?_
      refine r_iret hX hR dX0_eats_139 ?_
      -- leaf 3 at 139
      refine ⟨congrArg (fun z => some (Value.int z)) ?_, ?_⟩
      ·
        unfold eatT eatS
        rw [← e5, if_neg h53_1, if_neg h53_2, if_neg h53_3, if_pos (Or.inl h53_4)]
        rw [if_neg (by rw [← e8, h121]; decide)]
        simp only [plS, e7, e1, e4]
      · rfl
    ·
      refine r_iload5 hX dX0_eats_124 (q := 126) rfl ?_
      refine r_iload5 hX dX0_eats_126 (q := 128) rfl ?_
      refine r_iconst hX dX0_eats_128 (q := 129) rfl (v := nI 2) (by decide +kernel) ?_
      refine r_idiv hX dX0_eats_129 (q := 130) rfl (by first | decide +kernel | assumption) ?_
      refine r_iadd hX dX0_eats_130 (q := 131) rfl ?_
      refine r_goto hX dX0_eats_131 (tgt := 136) (by decide) ?_
      refine r_mmin hX dX0_eats_136 (q := 139) rfl kX0_88 msMathmin ⟨by decide, Nat.le_of_ble_eq_true rfl⟩ ?_
      refine r_iret hX hR dX0_eats_139 ?_
      -- leaf 4 at 139
      refine ⟨congrArg (fun z => some (Value.int z)) ?_, ?_⟩
      ·
        unfold eatT eatS
        rw [← e5, if_neg h53_1, if_neg h53_2, if_neg h53_3, if_pos (Or.inl h53_4)]
        rw [if_pos (by rw [← e8]; exact h121)]
        simp only [plS, e7, e1, e4]
      · rfl
  refine r_tabCase hX dX0_eats_53 5 ⟨by decide, by decide, by decide, rfl, (by decide : (53 : Int) + 61 = (114 : Nat))⟩ (fun h53_5 => ?_) (fun h53_5 => ?_)
  ·
    refine r_iload3 hX dX0_eats_114 (q := 115) rfl ?_
    refine r_aload0 hX dX0_eats_115 (q := 116) rfl ?_
    refine r_iload4 hX dX0_eats_116 (q := 118) rfl ?_
    refine r_callV hX dX0_eats_118 (q := 121) rfl (c_X0_friendHas _ Γ _ _ (by first | assumption | decide) _ _ (by repeat' (first | assumption | with_reducible exact rfl | refine e_add ?_ ?_ | refine e_mul ?_ ?_))) kX0_94 mlX0_friendHas mvX0_friendHas rfl rfl (ch_lay (j := 0) (by first | assumption | decide) (by decide) rfl) ⟨by decide, rfl⟩ ⟨by decide, by decide⟩ (Nat.le_of_ble_eq_true rfl) (keB ?_)
    first | with_reducible refine r_ifd_eq hX dX0_eats_121 (q := 124) rfl (tgt := 134) (by decide) (fun h121 => ?_) (fun h121 => ?_) | refine r_ifb_eq hX dX0_eats_121 (q := 124) rfl (tgt := 134) (by decide) (fun h121 => ?_) (fun h121 => ?_)
    ·
      refine r_iload5 hX dX0_eats_134 (q := 136) rfl ?_
      refine r_mmin hX dX0_eats_136 (q := 139) rfl kX0_88 msMathmin ⟨by decide, Nat.le_of_ble_eq_true rfl⟩ ?_
      refine r_iret hX hR dX0_eats_139 ?_
      -- leaf 5 at 139
      refine ⟨congrArg (fun z => some (Value.int z)) ?_, ?_⟩
      ·
        unfold eatT eatS
        rw [← e5, if_neg h53_1, if_neg h53_2, if_neg h53_3, if_pos (Or.inr h53_5)]
        rw [if_neg (by rw [← e8, h121]; decide)]
        simp only [plS, e7, e1, e4]
      · rfl
    ·
      refine r_iload5 hX dX0_eats_124 (q := 126) rfl ?_
      refine r_iload5 hX dX0_eats_126 (q := 128) rfl ?_
      refine r_iconst hX dX0_eats_128 (q := 129) rfl (v := nI 2) (by decide +kernel) ?_
      refine r_idiv hX dX0_eats_129 (q := 130) rfl (by first | decide +kernel | assumption) ?_
      refine r_iadd hX dX0_eats_130 (q := 131) rfl ?_
      refine r_goto hX dX0_eats_131 (tgt := 136) (by decide) ?_
      refine r_mmin hX dX0_eats_136 (q := 139) rfl kX0_88 msMathmin ⟨by decide, Nat.le_of_ble_eq_true rfl⟩ ?_
      refine r_iret hX hR dX0_eats_139 ?_
      -- leaf 6 at 139
      refine ⟨congrArg (fun z => some (Value.int z)) ?_, ?_⟩
      ·
        unfold eatT eatS
        rw [← e5, if_neg h53_1, if_neg h53_2, if_neg h53_3, if_pos (Or.inr h53_5)]
        rw [if_pos (by rw [← e8]; exact h121)]
        simp only [plS, e7, e1, e4]
      · rfl
  refine r_tabCase hX dX0_eats_53 6 ⟨by decide, by decide, by decide, rfl, (by decide : (53 : Int) + 87 = (140 : Nat))⟩ (fun h53_6 => ?_) (fun h53_6 => ?_)
  ·
    refine r_iload2 hX dX0_eats_140 (q := 141) rfl ?_
    first | with_reducible refine r_ifd_eq hX dX0_eats_141 (q := 144) rfl (tgt := 148) (by decide) (fun h141 => ?_) (fun h141 => ?_) | refine r_ifb_eq hX dX0_eats_141 (q := 144) rfl (tgt := 148) (by decide) (fun h141 => ?_) (fun h141 => ?_)
    ·
      refine r_iload3 hX dX0_eats_148 (q := 149) rfl ?_
      refine r_iret hX hR dX0_eats_149 ?_
      -- leaf 7 at 149
      refine ⟨congrArg (fun z => some (Value.int z)) ?_, ?_⟩
      ·
        unfold eatT eatS
        rw [← e5, if_neg h53_1, if_neg h53_2, if_neg h53_3, if_neg (not_or.mpr ⟨h53_4, h53_5⟩), if_pos h53_6]
        rw [if_neg (by simp [h141])]
        exact e7
      · rfl
    ·
      refine r_iconst hX dX0_eats_144 (q := 145) rfl (v := nI 0) (by decide +kernel) ?_
      refine r_goto hX dX0_eats_145 (tgt := 149) (by decide) ?_
      refine r_iret hX hR dX0_eats_149 ?_
      -- leaf 8 at 149
      refine ⟨congrArg (fun z => some (Value.int z)) ?_, ?_⟩
      ·
        unfold eatT eatS
        rw [← e5, if_neg h53_1, if_neg h53_2, if_neg h53_3, if_neg (not_or.mpr ⟨h53_4, h53_5⟩), if_pos h53_6]
        rw [if_pos h141]
      · rfl
  refine r_tabOut hX dX0_eats_53 (by have z1 := nI_neT h53_1 (by decide); have z2 := nI_neT h53_2 (by decide); have z3 := nI_neT h53_3 (by decide); have z4 := nI_neT h53_4 (by decide); have z5 := nI_neT h53_5 (by decide); have z6 := nI_neT h53_6 (by decide); omega) (tgt := 150) (by decide) ?_
  refine r_iload3 hX dX0_eats_150 (q := 151) rfl ?_
  refine r_iload5 hX dX0_eats_151 (q := 153) rfl ?_
  refine r_mmin hX dX0_eats_153 (q := 156) rfl kX0_88 msMathmin ⟨by decide, Nat.le_of_ble_eq_true rfl⟩ ?_
  refine r_iret hX hR dX0_eats_156 ?_
  -- leaf 9 at 156
  refine ⟨congrArg (fun z => some (Value.int z)) ?_, ?_⟩
  ·
    unfold eatT eatS
    rw [← e5, if_neg h53_1, if_neg h53_2, if_neg h53_3, if_neg (not_or.mpr ⟨h53_4, h53_5⟩), if_neg h53_6]
    simp only [plS, e7, e1, e4]
  · rfl

set_option maxRecDepth 100000 in
set_option maxHeartbeats 4000000 in
theorem c_X0_moves (l : Launch) (Γ : Gam) (G : GG) (i : Nat) (hi : i < 3) (μ : MU) (b : Nat) (hC : CR G i μ) (hV : Inv b μ) (x : Int32) (t : Nat) (hx : x = nI t) (ht : t < 10) (fb : Bool) : Sp l yX0_moves cX0_moves 6 (some .int) 1 21 [.ref (gad Γ (ch i 0)), .int x, .int (bi fb)] Γ G (eI G (movT μ t fb)) := by
  refine Sp_of (own := RX0) rfl (by decide +kernel) rfl (Nat.le_of_ble_eq_true rfl) (fun X hX hR => ?_)
  show WP X Γ 0 [some (.ref (gad Γ (ch i 0))), some (.int x), some (.int (bi fb)), none, none, none] [] G
  subst hx
  obtain ⟨hf, hfe⟩ := hV.fd ht
  obtain ⟨e5, e6, e7⟩ := hC.2.2.1 t ht
  have e6' : G (ch i 6) t = nI (cl (μ (41 + 3 * t))) := e6.trans hfe
  have e2 := (hC.2.1 _ hf).2.1
  have e3 : G (ch i 0) 3 = μ 2 := hC.1.2.2.1
  have e8 : G (ch i 0) 8 = μ 7 := hC.1.2.2.2.2.2.2.2.1
  refine r_aload0 hX dX0_moves_0 (q := 1) rfl ?_
  refine r_getR hX dX0_moves_1 (q := 4) rfl fX0_49 (ch_lay (j := 0) (by first | assumption | decide) (by decide) rfl) (rC_9 (by first | assumption | decide)) ?_
  refine r_getR hX dX0_moves_4 (q := 7) rfl fX0_82 (ch_lay (j := 4) (by first | assumption | decide) (by decide) rfl) (rP_1 (by first | assumption | decide)) ?_
  refine r_iload1 hX dX0_moves_7 (q := 8) rfl ?_
  refine r_ialdN hX dX0_moves_8 (q := 9) rfl (ch_lay (j := 6) (by first | assumption | decide) (by decide) rfl) (by repeat' (first | assumption | with_reducible exact rfl | refine e_add ?_ ?_ | refine e_mul ?_ ?_)) (by first | assumption | omega) (by first | decide | omega) ?_
  refine r_istore3 hX dX0_moves_9 (q := 10) rfl rfl ?_
  refine r_bipush hX dX0_moves_10 (q := 12) rfl (v := nI 6) (by decide +kernel) ?_
  refine r_aload0 hX dX0_moves_12 (q := 13) rfl ?_
  refine r_getR hX dX0_moves_13 (q := 16) rfl fX0_15 (ch_lay (j := 0) (by first | assumption | decide) (by decide) rfl) (rC_1 (by first | assumption | decide)) ?_
  refine r_iload3 hX dX0_moves_16 (q := 17) rfl ?_
  refine r_ialdN hX dX0_moves_17 (q := 18) rfl (ch_lay (j := 2) (by first | assumption | decide) (by decide) rfl) (by repeat' (first | assumption | with_reducible exact rfl | refine e_add ?_ ?_ | refine e_mul ?_ ?_)) (by first | assumption | omega) (by first | decide | omega) ?_
  refine r_aload0 hX dX0_moves_18 (q := 19) rfl ?_
  refine r_getI hX dX0_moves_19 (q := 22) rfl fX0_27 (ch_lay (j := 0) (by first | assumption | decide) (by decide) rfl) (rC_3 (by first | assumption | decide)) ?_
  refine r_imul hX dX0_moves_22 (q := 23) rfl ?_
  refine r_bipush hX dX0_moves_23 (q := 25) rfl (v := nI 10) (by decide +kernel) ?_
  refine r_idiv hX dX0_moves_25 (q := 26) rfl (by first | decide +kernel | assumption) ?_
  refine r_isub hX dX0_moves_26 (q := 27) rfl ?_
  refine r_istore4 hX dX0_moves_27 (q := 29) rfl rfl ?_
  refine r_aload0 hX dX0_moves_29 (q := 30) rfl ?_
  refine r_iload3 hX dX0_moves_30 (q := 31) rfl ?_
  refine r_callV hX dX0_moves_31 (q := 34) rfl (c_X0_friendHas _ Γ _ _ (by first | assumption | decide) _ _ (by repeat' (first | assumption | with_reducible exact rfl | refine e_add ?_ ?_ | refine e_mul ?_ ?_))) kX0_94 mlX0_friendHas mvX0_friendHas rfl rfl (ch_lay (j := 0) (by first | assumption | decide) (by decide) rfl) ⟨by decide, rfl⟩ ⟨by decide, by decide⟩ (Nat.le_of_ble_eq_true rfl) (keB ?_)
  first | with_reducible refine r_ifd_eq hX dX0_moves_34 (q := 37) rfl (tgt := 44) (by decide) (fun h34 => ?_) (fun h34 => ?_) | refine r_ifb_eq hX dX0_moves_34 (q := 37) rfl (tgt := 44) (by decide) (fun h34 => ?_) (fun h34 => ?_)
  ·
    refine r_iload4 hX dX0_moves_44 (q := 46) rfl ?_
    refine r_istore5 hX dX0_moves_46 (q := 48) rfl rfl ?_
    refine r_aload0 hX dX0_moves_48 (q := 49) rfl ?_
    refine r_getR hX dX0_moves_49 (q := 52) rfl fX0_49 (ch_lay (j := 0) (by first | assumption | decide) (by decide) rfl) (rC_9 (by first | assumption | decide)) ?_
    refine r_getR hX dX0_moves_52 (q := 55) rfl fX0_85 (ch_lay (j := 4) (by first | assumption | decide) (by decide) rfl) (rP_0 (by first | assumption | decide)) ?_
    refine r_iload1 hX dX0_moves_55 (q := 56) rfl ?_
    refine r_ialdN hX dX0_moves_56 (q := 57) rfl (ch_lay (j := 5) (by first | assumption | decide) (by decide) rfl) (by repeat' (first | assumption | with_reducible exact rfl | refine e_add ?_ ?_ | refine e_mul ?_ ?_)) (by first | assumption | omega) (by first | decide | omega) ?_
    refine r_tabCase hX dX0_moves_57 1 ⟨by decide, by decide, by decide, rfl, (by decide : (57 : Int) + 39 = (96 : Nat))⟩ (fun h57_1 => ?_) (fun h57_1 => ?_)
    ·
      refine r_iload4 hX dX0_moves_96 (q := 98) rfl ?_
      refine r_iconst hX dX0_moves_98 (q := 99) rfl (v := nI 2) (by decide +kernel) ?_
      refine r_idiv hX dX0_moves_99 (q := 100) rfl (by first | decide +kernel | assumption) ?_
      refine r_iret hX hR dX0_moves_100 ?_
      -- leaf 0 at 100
      refine ⟨congrArg (fun z => some (Value.int z)) ?_, ?_⟩
      ·
        unfold movT movS
        rw [← e5, if_pos h57_1]
        simp only [mvS, e2, e3]
      · rfl
    refine r_tabCase hX dX0_moves_57 2 ⟨by decide, by decide, by decide, rfl, (by decide : (57 : Int) + 44 = (101 : Nat))⟩ (fun h57_2 => ?_) (fun h57_2 => ?_)
    ·
      refine r_iload4 hX dX0_moves_101 (q := 103) rfl ?_
      refine r_bipush hX dX0_moves_103 (q := 105) rfl (v := nI 8) (by decide +kernel) ?_
      refine r_isub hX dX0_moves_105 (q := 106) rfl ?_
      refine r_iret hX hR dX0_moves_106 ?_
      -- leaf 1 at 106
      refine ⟨congrArg (fun z => some (Value.int z)) ?_, ?_⟩
      ·
        unfold movT movS
        rw [← e5, if_neg h57_1, if_pos h57_2]
        simp only [mvS, e2, e3]
      · rfl
    refine r_tabCase hX dX0_moves_57 3 ⟨by decide, by decide, by decide, rfl, (by decide : (57 : Int) + 50 = (107 : Nat))⟩ (fun h57_3 => ?_) (fun h57_3 => ?_)
    ·
      refine r_iload4 hX dX0_moves_107 (q := 109) rfl ?_
      refine r_bipush hX dX0_moves_109 (q := 111) rfl (v := nI 8) (by decide +kernel) ?_
      refine r_isub hX dX0_moves_111 (q := 112) rfl ?_
      refine r_iconst hX dX0_moves_112 (q := 113) rfl (v := nI 2) (by decide +kernel) ?_
      refine r_iadd hX dX0_moves_113 (q := 114) rfl ?_
      refine r_iret hX hR dX0_moves_114 ?_
      -- leaf 2 at 114
      refine ⟨congrArg (fun z => some (Value.int z)) ?_, ?_⟩
      ·
        unfold movT movS
        rw [← e5, if_neg h57_1, if_neg h57_2, if_pos h57_3]
        simp only [mvS, e2, e3]
      · rfl
    refine r_tabCase hX dX0_moves_57 4 ⟨by decide, by decide, by decide, rfl, (by decide : (57 : Int) + 58 = (115 : Nat))⟩ (fun h57_4 => ?_) (fun h57_4 => ?_)
    ·
      refine r_iload5 hX dX0_moves_115 (q := 117) rfl ?_
      refine r_iret hX hR dX0_moves_117 ?_
      -- leaf 3 at 117
      refine ⟨congrArg (fun z => some (Value.int z)) ?_, ?_⟩
      ·
        unfold movT movS
        rw [← e5, if_neg h57_1, if_neg h57_2, if_neg h57_3, if_pos h57_4]
        rw [if_neg (by rw [← e8, h34]; decide)]
        simp only [mvS, e2, e3]
      · rfl
    refine r_tabCase hX dX0_moves_57 5 ⟨by decide, by decide, by decide, rfl, (by decide : (57 : Int) + 61 = (118 : Nat))⟩ (fun h57_5 => ?_) (fun h57_5 => ?_)
    ·
      refine r_iload5 hX dX0_moves_118 (q := 120) rfl ?_
      refine r_iconst hX dX0_moves_120 (q := 121) rfl (v := nI 2) (by decide +kernel) ?_
      refine r_iadd hX dX0_moves_121 (q := 122) rfl ?_
      refine r_iret hX hR dX0_moves_122 ?_
      -- leaf 4 at 122
      refine ⟨congrArg (fun z => some (Value.int z)) ?_, ?_⟩
      ·
        unfold movT movS
        rw [← e5, if_neg h57_1, if_neg h57_2, if_neg h57_3, if_neg h57_4, if_pos h57_5]
        rw [if_neg (by rw [← e8, h34]; decide)]
        simp only [mvS, e2, e3]
      · rfl
    refine r_tabCase hX dX0_moves_57 6 ⟨by decide, by decide, by decide, rfl, (by decide : (57 : Int) + 66 = (123 : Nat))⟩ (fun h57_6 => ?_) (fun h57_6 => ?_)
    ·
      refine r_iload2 hX dX0_moves_123 (q := 124) rfl ?_
      first | with_reducible refine r_ifd_eq hX dX0_moves_124 (q := 127) rfl (tgt := 132) (by decide) (fun h124 => ?_) (fun h124 => ?_) | refine r_ifb_eq hX dX0_moves_124 (q := 127) rfl (tgt := 132) (by decide) (fun h124 => ?_) (fun h124 => ?_)
      ·
        refine r_iconst hX dX0_moves_132 (q := 133) rfl (v := nI 1) (by decide +kernel) ?_
        refine r_iret hX hR dX0_moves_133 ?_
        -- leaf 5 at 133
        refine ⟨congrArg (fun z => some (Value.int z)) ?_, ?_⟩
        ·
          unfold movT movS
          rw [← e5, if_neg h57_1, if_neg h57_2, if_neg h57_3, if_neg h57_4, if_neg h57_5, if_pos h57_6]
          rw [if_neg (by simp [h124])]
        · rfl
      ·
        refine r_bipush hX dX0_moves_127 (q := 129) rfl (v := (-10)) (by decide +kernel) ?_
        refine r_goto hX dX0_moves_129 (tgt := 133) (by decide) ?_
        refine r_iret hX hR dX0_moves_133 ?_
        -- leaf 6 at 133
        refine ⟨congrArg (fun z => some (Value.int z)) ?_, ?_⟩
        ·
          unfold movT movS
          rw [← e5, if_neg h57_1, if_neg h57_2, if_neg h57_3, if_neg h57_4, if_neg h57_5, if_pos h57_6]
          rw [if_pos h124]
        · rfl
    refine r_tabOut hX dX0_moves_57 (by have z1 := nI_neT h57_1 (by decide); have z2 := nI_neT h57_2 (by decide); have z3 := nI_neT h57_3 (by decide); have z4 := nI_neT h57_4 (by decide); have z5 := nI_neT h57_5 (by decide); have z6 := nI_neT h57_6 (by decide); omega) (tgt := 134) (by decide) ?_
    refine r_iload4 hX dX0_moves_134 (q := 136) rfl ?_
    refine r_iret hX hR dX0_moves_136 ?_
    -- leaf 7 at 136
    refine ⟨congrArg (fun z => some (Value.int z)) ?_, ?_⟩
    ·
      unfold movT movS
      rw [← e5, if_neg h57_1, if_neg h57_2, if_neg h57_3, if_neg h57_4, if_neg h57_5, if_neg h57_6]
      simp only [mvS, e2, e3]
    · rfl
  ·
    refine r_iload4 hX dX0_moves_37 (q := 39) rfl ?_
    refine r_iconst hX dX0_moves_39 (q := 40) rfl (v := nI 3) (by decide +kernel) ?_
    refine r_iadd hX dX0_moves_40 (q := 41) rfl ?_
    refine r_goto hX dX0_moves_41 (tgt := 46) (by decide) ?_
    refine r_istore5 hX dX0_moves_46 (q := 48) rfl rfl ?_
    refine r_aload0 hX dX0_moves_48 (q := 49) rfl ?_
    refine r_getR hX dX0_moves_49 (q := 52) rfl fX0_49 (ch_lay (j := 0) (by first | assumption | decide) (by decide) rfl) (rC_9 (by first | assumption | decide)) ?_
    refine r_getR hX dX0_moves_52 (q := 55) rfl fX0_85 (ch_lay (j := 4) (by first | assumption | decide) (by decide) rfl) (rP_0 (by first | assumption | decide)) ?_
    refine r_iload1 hX dX0_moves_55 (q := 56) rfl ?_
    refine r_ialdN hX dX0_moves_56 (q := 57) rfl (ch_lay (j := 5) (by first | assumption | decide) (by decide) rfl) (by repeat' (first | assumption | with_reducible exact rfl | refine e_add ?_ ?_ | refine e_mul ?_ ?_)) (by first | assumption | omega) (by first | decide | omega) ?_
    refine r_tabCase hX dX0_moves_57 1 ⟨by decide, by decide, by decide, rfl, (by decide : (57 : Int) + 39 = (96 : Nat))⟩ (fun h57_1 => ?_) (fun h57_1 => ?_)
    ·
      refine r_iload4 hX dX0_moves_96 (q := 98) rfl ?_
      refine r_iconst hX dX0_moves_98 (q := 99) rfl (v := nI 2) (by decide +kernel) ?_
      refine r_idiv hX dX0_moves_99 (q := 100) rfl (by first | decide +kernel | assumption) ?_
      refine r_iret hX hR dX0_moves_100 ?_
      -- leaf 8 at 100
      refine ⟨congrArg (fun z => some (Value.int z)) ?_, ?_⟩
      ·
        unfold movT movS
        rw [← e5, if_pos h57_1]
        simp only [mvS, e2, e3]
      · rfl
    refine r_tabCase hX dX0_moves_57 2 ⟨by decide, by decide, by decide, rfl, (by decide : (57 : Int) + 44 = (101 : Nat))⟩ (fun h57_2 => ?_) (fun h57_2 => ?_)
    ·
      refine r_iload4 hX dX0_moves_101 (q := 103) rfl ?_
      refine r_bipush hX dX0_moves_103 (q := 105) rfl (v := nI 8) (by decide +kernel) ?_
      refine r_isub hX dX0_moves_105 (q := 106) rfl ?_
      refine r_iret hX hR dX0_moves_106 ?_
      -- leaf 9 at 106
      refine ⟨congrArg (fun z => some (Value.int z)) ?_, ?_⟩
      ·
        unfold movT movS
        rw [← e5, if_neg h57_1, if_pos h57_2]
        simp only [mvS, e2, e3]
      · rfl
    refine r_tabCase hX dX0_moves_57 3 ⟨by decide, by decide, by decide, rfl, (by decide : (57 : Int) + 50 = (107 : Nat))⟩ (fun h57_3 => ?_) (fun h57_3 => ?_)
    ·
      refine r_iload4 hX dX0_moves_107 (q := 109) rfl ?_
      refine r_bipush hX dX0_moves_109 (q := 111) rfl (v := nI 8) (by decide +kernel) ?_
      refine r_isub hX dX0_moves_111 (q := 112) rfl ?_
      refine r_iconst hX dX0_moves_112 (q := 113) rfl (v := nI 2) (by decide +kernel) ?_
      refine r_iadd hX dX0_moves_113 (q := 114) rfl ?_
      refine r_iret hX hR dX0_moves_114 ?_
      -- leaf 10 at 114
      refine ⟨congrArg (fun z => some (Value.int z)) ?_, ?_⟩
      ·
        unfold movT movS
        rw [← e5, if_neg h57_1, if_neg h57_2, if_pos h57_3]
        simp only [mvS, e2, e3]
      · rfl
    refine r_tabCase hX dX0_moves_57 4 ⟨by decide, by decide, by decide, rfl, (by decide : (57 : Int) + 58 = (115 : Nat))⟩ (fun h57_4 => ?_) (fun h57_4 => ?_)
    ·
      refine r_iload5 hX dX0_moves_115 (q := 117) rfl ?_
      refine r_iret hX hR dX0_moves_117 ?_
      -- leaf 11 at 117
      refine ⟨congrArg (fun z => some (Value.int z)) ?_, ?_⟩
      ·
        unfold movT movS
        rw [← e5, if_neg h57_1, if_neg h57_2, if_neg h57_3, if_pos h57_4]
        rw [if_pos (by rw [← e8]; exact h34)]
        simp only [mvS, e2, e3]
      · rfl
    refine r_tabCase hX dX0_moves_57 5 ⟨by decide, by decide, by decide, rfl, (by decide : (57 : Int) + 61 = (118 : Nat))⟩ (fun h57_5 => ?_) (fun h57_5 => ?_)
    ·
      refine r_iload5 hX dX0_moves_118 (q := 120) rfl ?_
      refine r_iconst hX dX0_moves_120 (q := 121) rfl (v := nI 2) (by decide +kernel) ?_
      refine r_iadd hX dX0_moves_121 (q := 122) rfl ?_
      refine r_iret hX hR dX0_moves_122 ?_
      -- leaf 12 at 122
      refine ⟨congrArg (fun z => some (Value.int z)) ?_, ?_⟩
      ·
        unfold movT movS
        rw [← e5, if_neg h57_1, if_neg h57_2, if_neg h57_3, if_neg h57_4, if_pos h57_5]
        rw [if_pos (by rw [← e8]; exact h34)]
        simp only [mvS, e2, e3]
      · rfl
    refine r_tabCase hX dX0_moves_57 6 ⟨by decide, by decide, by decide, rfl, (by decide : (57 : Int) + 66 = (123 : Nat))⟩ (fun h57_6 => ?_) (fun h57_6 => ?_)
    ·
      refine r_iload2 hX dX0_moves_123 (q := 124) rfl ?_
      first | with_reducible refine r_ifd_eq hX dX0_moves_124 (q := 127) rfl (tgt := 132) (by decide) (fun h124 => ?_) (fun h124 => ?_) | refine r_ifb_eq hX dX0_moves_124 (q := 127) rfl (tgt := 132) (by decide) (fun h124 => ?_) (fun h124 => ?_)
      ·
        refine r_iconst hX dX0_moves_132 (q := 133) rfl (v := nI 1) (by decide +kernel) ?_
        refine r_iret hX hR dX0_moves_133 ?_
        -- leaf 13 at 133
        refine ⟨congrArg (fun z => some (Value.int z)) ?_, ?_⟩
        ·
          unfold movT movS
          rw [← e5, if_neg h57_1, if_neg h57_2, if_neg h57_3, if_neg h57_4, if_neg h57_5, if_pos h57_6]
          rw [if_neg (by simp [h124])]
        · rfl
      ·
        refine r_bipush hX dX0_moves_127 (q := 129) rfl (v := (-10)) (by decide +kernel) ?_
        refine r_goto hX dX0_moves_129 (tgt := 133) (by decide) ?_
        refine r_iret hX hR dX0_moves_133 ?_
        -- leaf 14 at 133
        refine ⟨congrArg (fun z => some (Value.int z)) ?_, ?_⟩
        ·
          unfold movT movS
          rw [← e5, if_neg h57_1, if_neg h57_2, if_neg h57_3, if_neg h57_4, if_neg h57_5, if_pos h57_6]
          rw [if_pos h124]
        · rfl
    refine r_tabOut hX dX0_moves_57 (by have z1 := nI_neT h57_1 (by decide); have z2 := nI_neT h57_2 (by decide); have z3 := nI_neT h57_3 (by decide); have z4 := nI_neT h57_4 (by decide); have z5 := nI_neT h57_5 (by decide); have z6 := nI_neT h57_6 (by decide); omega) (tgt := 134) (by decide) ?_
    refine r_iload4 hX dX0_moves_134 (q := 136) rfl ?_
    refine r_iret hX hR dX0_moves_136 ?_
    -- leaf 15 at 136
    refine ⟨congrArg (fun z => some (Value.int z)) ?_, ?_⟩
    ·
      unfold movT movS
      rw [← e5, if_neg h57_1, if_neg h57_2, if_neg h57_3, if_neg h57_4, if_neg h57_5, if_neg h57_6]
      simp only [mvS, e2, e3]
    · rfl
