set_option maxRecDepth 100000 in
set_option maxHeartbeats 4000000 in
theorem c_X6_isFriends (l : Launch) (Γ : Gam) (G : GG) (μ : MU) (hM : MR G μ) (b : Nat) (hV : Inv b μ) (x : Int32) (t : Nat) (hx : x = nI t) (ht : t < 10) : Sp l yX6_isFriends cX6_isFriends 2 (some .boolean) 1 22 [.ref (gad Γ 47), .int x] Γ G (eB G (frS (μ 7) (cl (μ (41 + 3 * t))))) := by
  refine Sp_of (own := RX6) rfl (by decide +kernel) rfl (Nat.le_of_ble_eq_true rfl) (fun X hX hR => ?_)
  show WP X Γ 0 [some (.ref (gad Γ 47)), some (.int x)] [] G
  subst hx
  obtain ⟨hf, hfe⟩ := hV.fd ht
  obtain ⟨f, hfd⟩ : ∃ f, f = cl (μ (41 + 3 * t)) := ⟨_, rfl⟩
  rw [← hfd] at hf hfe
  have a0 : G 48 (40 + 3 * t + 0) = μ (40 + 3 * t) := hM _ (by omega)
  have a1 : G 48 (40 + 3 * t + 1) = nI f := ((hM _ (by omega)).trans (congrArg μ (by omega))).trans hfe
  have a2 : G 48 (40 + 3 * t + 2) = μ (42 + 3 * t) := (hM _ (by omega)).trans (congrArg μ (by omega))
  have b1 : G 48 (10 + 3 * f + 1) = μ (11 + 3 * f) := (hM _ (by omega)).trans (congrArg μ (by omega))
  have hp : nn (μ (42 + 3 * t)) 20 := (hV.2.2.2.2.1 t ht).2.2
  have hl : nn (μ (10 + 3 * f)) 99 := (hV.2.2.2.1 f hf).1
  have hh : nn (μ 3) 99 := hV.2.1.2.1
  have h7 : nn (μ 7) 1023 := hV.2.1.2.2.2.2.2
  refine r_aload0 hX dX6_isFriends_0 (q := 1) rfl ?_
  refine r_getR hX dX6_isFriends_1 (q := 4) rfl fX6_9 rfl ⟨by decide, by decide, rfl⟩ ?_
  refine r_bipush hX dX6_isFriends_4 (q := 6) rfl (v := nI 7) (by decide +kernel) ?_
  refine r_ialdN hX dX6_isFriends_6 (q := 7) rfl rfl (by repeat' (first | assumption | with_reducible exact rfl | refine e_add ?_ ?_ | refine e_mul ?_ ?_)) (by first | assumption | omega) (by first | decide | omega) ?_
  refine r_aload0 hX dX6_isFriends_7 (q := 8) rfl ?_
  refine r_iload1 hX dX6_isFriends_8 (q := 9) rfl ?_
  refine r_iconst hX dX6_isFriends_9 (q := 10) rfl (v := nI 1) (by decide +kernel) ?_
  refine r_callV hX dX6_isFriends_10 (q := 13) rfl (c_X6_of _ Γ _ _ _ t 1 rfl rfl ht (by decide)) kX6_90 mlX6_of mvX6_of rfl rfl rfl ⟨by decide, rfl⟩ ⟨by decide, by decide⟩ (Nat.le_of_ble_eq_true rfl) (keI ?_)
  rw [hM 7 (by decide), a1]
  refine r_ishr hX dX6_isFriends_13 (q := 14) rfl ?_
  refine r_iconst hX dX6_isFriends_14 (q := 15) rfl (v := nI 1) (by decide +kernel) ?_
  refine r_iand hX dX6_isFriends_15 (q := 16) rfl ?_
  refine r_iconst hX dX6_isFriends_16 (q := 17) rfl (v := nI 1) (by decide +kernel) ?_
  first | refine r_icmpN_ne hX dX6_isFriends_17 (q := 20) rfl (tgt := 24) (by decide) (by first | omega | decide) (by first | omega | decide) (fun h17 => ?_) (fun h17 => ?_) | refine r_icmp_ne hX dX6_isFriends_17 (q := 20) rfl (tgt := 24) (by decide) (fun h17 => ?_) (fun h17 => ?_)
  ·
    refine r_iconst hX dX6_isFriends_24 (q := 25) rfl (v := nI 0) (by decide +kernel) ?_
    refine r_zret0 hX hR dX6_isFriends_25 ?_
    -- leaf 0 at 25
    refine ⟨congrArg (fun z => some (Value.int (bi z))) ?_, ?_⟩
    ·
      rw [← hfd, ← frS_r h7 hf]
      first | exact (decide_eq_true h17).symm | exact (decide_eq_false h17).symm
    · rfl
  ·
    refine r_iconst hX dX6_isFriends_20 (q := 21) rfl (v := nI 1) (by decide +kernel) ?_
    refine r_goto hX dX6_isFriends_21 (tgt := 25) (by decide) ?_
    refine r_zret1 hX hR dX6_isFriends_25 ?_
    -- leaf 1 at 25
    refine ⟨congrArg (fun z => some (Value.int (bi z))) ?_, ?_⟩
    ·
      rw [← hfd, ← frS_r h7 hf]
      first | exact (decide_eq_true h17).symm | exact (decide_eq_false h17).symm
    · rfl

set_option maxRecDepth 100000 in
set_option maxHeartbeats 4000000 in
theorem c_X6_eats (l : Launch) (Γ : Gam) (G : GG) (μ : MU) (hM : MR G μ) (b : Nat) (hV : Inv b μ) (x : Int32) (t : Nat) (hx : x = nI t) (ht : t < 10) (fb : Bool) : Sp l yX6_eats cX6_eats 6 (some .int) 2 43 [.ref (gad Γ 47), .int x, .int (bi fb)] Γ G (eI G (eatT μ t fb)) := by
  refine Sp_of (own := RX6) rfl (by decide +kernel) rfl (Nat.le_of_ble_eq_true rfl) (fun X hX hR => ?_)
  show WP X Γ 0 [some (.ref (gad Γ 47)), some (.int x), some (.int (bi fb)), none, none, none] [] G
  subst hx
  obtain ⟨hf, hfe⟩ := hV.fd ht
  obtain ⟨f, hfd⟩ : ∃ f, f = cl (μ (41 + 3 * t)) := ⟨_, rfl⟩
  rw [← hfd] at hf hfe
  have a0 : G 48 (40 + 3 * t + 0) = μ (40 + 3 * t) := hM _ (by omega)
  have a1 : G 48 (40 + 3 * t + 1) = nI f := ((hM _ (by omega)).trans (congrArg μ (by omega))).trans hfe
  have a2 : G 48 (40 + 3 * t + 2) = μ (42 + 3 * t) := (hM _ (by omega)).trans (congrArg μ (by omega))
  have b1 : G 48 (10 + 3 * f + 1) = μ (11 + 3 * f) := (hM _ (by omega)).trans (congrArg μ (by omega))
  have hp : nn (μ (42 + 3 * t)) 20 := (hV.2.2.2.2.1 t ht).2.2
  have hl : nn (μ (10 + 3 * f)) 99 := (hV.2.2.2.1 f hf).1
  have hh : nn (μ 3) 99 := hV.2.1.2.1
  have h7 : nn (μ 7) 1023 := hV.2.1.2.2.2.2.2
  refine r_aload0 hX dX6_eats_0 (q := 1) rfl ?_
  refine r_iload1 hX dX6_eats_1 (q := 2) rfl ?_
  refine r_iconst hX dX6_eats_2 (q := 3) rfl (v := nI 2) (by decide +kernel) ?_
  refine r_callV hX dX6_eats_3 (q := 6) rfl (c_X6_of _ Γ _ _ _ t 2 rfl rfl ht (by decide)) kX6_90 mlX6_of mvX6_of rfl rfl rfl ⟨by decide, rfl⟩ ⟨by decide, by decide⟩ (Nat.le_of_ble_eq_true rfl) (keI ?_)
  rw [a2]
  refine r_istore3 hX dX6_eats_6 (q := 7) rfl rfl ?_
  refine r_iload3 hX dX6_eats_7 (q := 8) rfl ?_
  refine r_aload0 hX dX6_eats_8 (q := 9) rfl ?_
  refine r_aload0 hX dX6_eats_9 (q := 10) rfl ?_
  refine r_iload1 hX dX6_eats_10 (q := 11) rfl ?_
  refine r_iconst hX dX6_eats_11 (q := 12) rfl (v := nI 1) (by decide +kernel) ?_
  refine r_callV hX dX6_eats_12 (q := 15) rfl (c_X6_of _ Γ _ _ _ t 1 rfl rfl ht (by decide)) kX6_90 mlX6_of mvX6_of rfl rfl rfl ⟨by decide, rfl⟩ ⟨by decide, by decide⟩ (Nat.le_of_ble_eq_true rfl) (keI ?_)
  rw [a1]
  refine r_callV hX dX6_eats_15 (q := 18) rfl (c_X6_like _ Γ _ _ f rfl hf) kX6_50 mlX6_like mvX6_like rfl rfl rfl ⟨by decide, rfl⟩ ⟨by decide, by decide⟩ (Nat.le_of_ble_eq_true rfl) (keI ?_)
  rw [hM _ (by omega)]
  refine r_imul hX dX6_eats_18 (q := 19) rfl ?_
  refine r_aload0 hX dX6_eats_19 (q := 20) rfl ?_
  refine r_getR hX dX6_eats_20 (q := 23) rfl fX6_9 rfl ⟨by decide, by decide, rfl⟩ ?_
  refine r_iconst hX dX6_eats_23 (q := 24) rfl (v := nI 3) (by decide +kernel) ?_
  refine r_ialdN hX dX6_eats_24 (q := 25) rfl rfl (by repeat' (first | assumption | with_reducible exact rfl | refine e_add ?_ ?_ | refine e_mul ?_ ?_)) (by first | assumption | omega) (by first | decide | omega) ?_
  rw [hM 3 (by decide)]
  refine r_bipush hX dX6_eats_25 (q := 27) rfl (v := nI 20) (by decide +kernel) ?_
  refine r_iadd hX dX6_eats_27 (q := 28) rfl ?_
  refine r_imul hX dX6_eats_28 (q := 29) rfl ?_
  refine r_sipush hX dX6_eats_29 (q := 32) rfl (v := nI 10000) (by decide +kernel) ?_
  refine r_idiv hX dX6_eats_32 (q := 33) rfl (by first | decide +kernel | assumption) ?_
  refine r_istore4 hX dX6_eats_33 (q := 35) rfl rfl ?_
  refine r_iload4 hX dX6_eats_35 (q := 37) rfl ?_
  refine r_istore5 hX dX6_eats_37 (q := 39) rfl rfl ?_
  refine r_aload0 hX dX6_eats_39 (q := 40) rfl ?_
  refine r_iload1 hX dX6_eats_40 (q := 41) rfl ?_
  refine r_iconst hX dX6_eats_41 (q := 42) rfl (v := nI 0) (by decide +kernel) ?_
  refine r_callV hX dX6_eats_42 (q := 45) rfl (c_X6_of _ Γ _ _ _ t 0 rfl rfl ht (by decide)) kX6_90 mlX6_of mvX6_of rfl rfl rfl ⟨by decide, rfl⟩ ⟨by decide, by decide⟩ (Nat.le_of_ble_eq_true rfl) (keI ?_)
  rw [a0]
  refine r_tabCase hX dX6_eats_45 1 ⟨by decide, by decide, by decide, rfl, (by decide : (45 : Int) + 39 = (84 : Nat))⟩ (fun h45_1 => ?_) (fun h45_1 => ?_)
  ·
    refine r_iconst hX dX6_eats_84 (q := 85) rfl (v := nI 0) (by decide +kernel) ?_
    refine r_istore5 hX dX6_eats_85 (q := 87) rfl rfl ?_
    refine r_goto hX dX6_eats_87 (tgt := 147) (by decide) ?_
    refine r_iload5 hX dX6_eats_147 (q := 149) rfl ?_
    refine r_iload3 hX dX6_eats_149 (q := 150) rfl ?_
    refine r_callS hX dX6_eats_150 (q := 153) rfl (c_X6_held _ Γ _ _ _) kX6_96 mlX6_held msX6_held rfl rfl ⟨by decide, by decide⟩ (Nat.le_of_ble_eq_true rfl) (keI ?_)
    refine r_iret hX hR dX6_eats_153 ?_
    -- leaf 0 at 153
    refine ⟨congrArg (fun z => some (Value.int z)) ?_, ?_⟩
    ·
      unfold eatT
      rw [← hfd, ← he_eat _ _ _ hp hl hh]
      refine congrArg (fun z => heS z _) ?_
      unfold eatR plS
      first
        | rw [if_pos h45_1]
        | rw [if_neg h45_1, if_pos h45_2]
        | rw [if_neg h45_1, if_neg h45_2, if_pos h45_3]
        | (rw [if_neg h45_1, if_neg h45_2, if_neg h45_3, if_pos (Or.inl h45_4)]; first | rw [if_pos h113] | rw [if_neg (by rw [h113]; decide)])
        | (rw [if_neg h45_1, if_neg h45_2, if_neg h45_3, if_pos (Or.inr h45_5)]; first | rw [if_pos h113] | rw [if_neg (by rw [h113]; decide)])
        | (rw [if_neg h45_1, if_neg h45_2, if_neg h45_3, if_neg (fun q => q.elim h45_4 h45_5), if_pos h45_6]; first | rw [if_pos h134] | rw [if_neg (by rw [h134]; decide)])
        | rw [if_neg h45_1, if_neg h45_2, if_neg h45_3, if_neg (fun q => q.elim h45_4 h45_5), if_neg h45_6]
    · rfl
  refine r_tabCase hX dX6_eats_45 2 ⟨by decide, by decide, by decide, rfl, (by decide : (45 : Int) + 45 = (90 : Nat))⟩ (fun h45_2 => ?_) (fun h45_2 => ?_)
  ·
    refine r_iload4 hX dX6_eats_90 (q := 92) rfl ?_
    refine r_iconst hX dX6_eats_92 (q := 93) rfl (v := nI 2) (by decide +kernel) ?_
    refine r_iadd hX dX6_eats_93 (q := 94) rfl ?_
    refine r_istore5 hX dX6_eats_94 (q := 96) rfl rfl ?_
    refine r_goto hX dX6_eats_96 (tgt := 147) (by decide) ?_
    refine r_iload5 hX dX6_eats_147 (q := 149) rfl ?_
    refine r_iload3 hX dX6_eats_149 (q := 150) rfl ?_
    refine r_callS hX dX6_eats_150 (q := 153) rfl (c_X6_held _ Γ _ _ _) kX6_96 mlX6_held msX6_held rfl rfl ⟨by decide, by decide⟩ (Nat.le_of_ble_eq_true rfl) (keI ?_)
    refine r_iret hX hR dX6_eats_153 ?_
    -- leaf 1 at 153
    refine ⟨congrArg (fun z => some (Value.int z)) ?_, ?_⟩
    ·
      unfold eatT
      rw [← hfd, ← he_eat _ _ _ hp hl hh]
      refine congrArg (fun z => heS z _) ?_
      unfold eatR plS
      first
        | rw [if_pos h45_1]
        | rw [if_neg h45_1, if_pos h45_2]
        | rw [if_neg h45_1, if_neg h45_2, if_pos h45_3]
        | (rw [if_neg h45_1, if_neg h45_2, if_neg h45_3, if_pos (Or.inl h45_4)]; first | rw [if_pos h113] | rw [if_neg (by rw [h113]; decide)])
        | (rw [if_neg h45_1, if_neg h45_2, if_neg h45_3, if_pos (Or.inr h45_5)]; first | rw [if_pos h113] | rw [if_neg (by rw [h113]; decide)])
        | (rw [if_neg h45_1, if_neg h45_2, if_neg h45_3, if_neg (fun q => q.elim h45_4 h45_5), if_pos h45_6]; first | rw [if_pos h134] | rw [if_neg (by rw [h134]; decide)])
        | rw [if_neg h45_1, if_neg h45_2, if_neg h45_3, if_neg (fun q => q.elim h45_4 h45_5), if_neg h45_6]
    · rfl
  refine r_tabCase hX dX6_eats_45 3 ⟨by decide, by decide, by decide, rfl, (by decide : (45 : Int) + 54 = (99 : Nat))⟩ (fun h45_3 => ?_) (fun h45_3 => ?_)
  ·
    refine r_iload4 hX dX6_eats_99 (q := 101) rfl ?_
    refine r_iconst hX dX6_eats_101 (q := 102) rfl (v := nI 5) (by decide +kernel) ?_
    refine r_iadd hX dX6_eats_102 (q := 103) rfl ?_
    refine r_istore5 hX dX6_eats_103 (q := 105) rfl rfl ?_
    refine r_goto hX dX6_eats_105 (tgt := 147) (by decide) ?_
    refine r_iload5 hX dX6_eats_147 (q := 149) rfl ?_
    refine r_iload3 hX dX6_eats_149 (q := 150) rfl ?_
    refine r_callS hX dX6_eats_150 (q := 153) rfl (c_X6_held _ Γ _ _ _) kX6_96 mlX6_held msX6_held rfl rfl ⟨by decide, by decide⟩ (Nat.le_of_ble_eq_true rfl) (keI ?_)
    refine r_iret hX hR dX6_eats_153 ?_
    -- leaf 2 at 153
    refine ⟨congrArg (fun z => some (Value.int z)) ?_, ?_⟩
    ·
      unfold eatT
      rw [← hfd, ← he_eat _ _ _ hp hl hh]
      refine congrArg (fun z => heS z _) ?_
      unfold eatR plS
      first
        | rw [if_pos h45_1]
        | rw [if_neg h45_1, if_pos h45_2]
        | rw [if_neg h45_1, if_neg h45_2, if_pos h45_3]
        | (rw [if_neg h45_1, if_neg h45_2, if_neg h45_3, if_pos (Or.inl h45_4)]; first | rw [if_pos h113] | rw [if_neg (by rw [h113]; decide)])
        | (rw [if_neg h45_1, if_neg h45_2, if_neg h45_3, if_pos (Or.inr h45_5)]; first | rw [if_pos h113] | rw [if_neg (by rw [h113]; decide)])
        | (rw [if_neg h45_1, if_neg h45_2, if_neg h45_3, if_neg (fun q => q.elim h45_4 h45_5), if_pos h45_6]; first | rw [if_pos h134] | rw [if_neg (by rw [h134]; decide)])
        | rw [if_neg h45_1, if_neg h45_2, if_neg h45_3, if_neg (fun q => q.elim h45_4 h45_5), if_neg h45_6]
    · rfl
  refine r_tabCase hX dX6_eats_45 4 ⟨by decide, by decide, by decide, rfl, (by decide : (45 : Int) + 63 = (108 : Nat))⟩ (fun h45_4 => ?_) (fun h45_4 => ?_)
  ·
    refine r_aload0 hX dX6_eats_108 (q := 109) rfl ?_
    refine r_iload1 hX dX6_eats_109 (q := 110) rfl ?_
    refine r_callV hX dX6_eats_110 (q := 113) rfl (c_X6_isFriends _ Γ _ μ hM b hV _ t rfl ht) kX6_93 mlX6_isFriends mvX6_isFriends rfl rfl rfl ⟨by decide, rfl⟩ ⟨by decide, by decide⟩ (Nat.le_of_ble_eq_true rfl) (keB ?_)
    rw [← hfd]
    first | with_reducible refine r_ifd_eq hX dX6_eats_113 (q := 116) rfl (tgt := 126) (by decide) (fun h113 => ?_) (fun h113 => ?_) | refine r_ifb_eq hX dX6_eats_113 (q := 116) rfl (tgt := 126) (by decide) (fun h113 => ?_) (fun h113 => ?_)
    ·
      refine r_iload4 hX dX6_eats_126 (q := 128) rfl ?_
      refine r_istore5 hX dX6_eats_128 (q := 130) rfl rfl ?_
      refine r_goto hX dX6_eats_130 (tgt := 147) (by decide) ?_
      refine r_iload5 hX dX6_eats_147 (q := 149) rfl ?_
      refine r_iload3 hX dX6_eats_149 (q := 150) rfl ?_
      refine r_callS hX dX6_eats_150 (q := 153) rfl (c_X6_held _ Γ _ _ _) kX6_96 mlX6_held msX6_held rfl rfl ⟨by decide, by decide⟩ (Nat.le_of_ble_eq_true rfl) (keI ?_)
      refine r_iret hX hR dX6_eats_153 ?_
      -- leaf 3 at 153
      refine ⟨congrArg (fun z => some (Value.int z)) ?_, ?_⟩
      ·
        unfold eatT
        rw [← hfd, ← he_eat _ _ _ hp hl hh]
        refine congrArg (fun z => heS z _) ?_
        unfold eatR plS
        first
          | rw [if_pos h45_1]
          | rw [if_neg h45_1, if_pos h45_2]
          | rw [if_neg h45_1, if_neg h45_2, if_pos h45_3]
          | (rw [if_neg h45_1, if_neg h45_2, if_neg h45_3, if_pos (Or.inl h45_4)]; first | rw [if_pos h113] | rw [if_neg (by rw [h113]; decide)])
          | (rw [if_neg h45_1, if_neg h45_2, if_neg h45_3, if_pos (Or.inr h45_5)]; first | rw [if_pos h113] | rw [if_neg (by rw [h113]; decide)])
          | (rw [if_neg h45_1, if_neg h45_2, if_neg h45_3, if_neg (fun q => q.elim h45_4 h45_5), if_pos h45_6]; first | rw [if_pos h134] | rw [if_neg (by rw [h134]; decide)])
          | rw [if_neg h45_1, if_neg h45_2, if_neg h45_3, if_neg (fun q => q.elim h45_4 h45_5), if_neg h45_6]
      · rfl
    ·
      refine r_iload4 hX dX6_eats_116 (q := 118) rfl ?_
      refine r_iload4 hX dX6_eats_118 (q := 120) rfl ?_
      refine r_iconst hX dX6_eats_120 (q := 121) rfl (v := nI 2) (by decide +kernel) ?_
      refine r_idiv hX dX6_eats_121 (q := 122) rfl (by first | decide +kernel | assumption) ?_
      refine r_iadd hX dX6_eats_122 (q := 123) rfl ?_
      refine r_goto hX dX6_eats_123 (tgt := 128) (by decide) ?_
      refine r_istore5 hX dX6_eats_128 (q := 130) rfl rfl ?_
      refine r_goto hX dX6_eats_130 (tgt := 147) (by decide) ?_
      refine r_iload5 hX dX6_eats_147 (q := 149) rfl ?_
      refine r_iload3 hX dX6_eats_149 (q := 150) rfl ?_
      refine r_callS hX dX6_eats_150 (q := 153) rfl (c_X6_held _ Γ _ _ _) kX6_96 mlX6_held msX6_held rfl rfl ⟨by decide, by decide⟩ (Nat.le_of_ble_eq_true rfl) (keI ?_)
      refine r_iret hX hR dX6_eats_153 ?_
      -- leaf 4 at 153
      refine ⟨congrArg (fun z => some (Value.int z)) ?_, ?_⟩
      ·
        unfold eatT
        rw [← hfd, ← he_eat _ _ _ hp hl hh]
        refine congrArg (fun z => heS z _) ?_
        unfold eatR plS
        first
          | rw [if_pos h45_1]
          | rw [if_neg h45_1, if_pos h45_2]
          | rw [if_neg h45_1, if_neg h45_2, if_pos h45_3]
          | (rw [if_neg h45_1, if_neg h45_2, if_neg h45_3, if_pos (Or.inl h45_4)]; first | rw [if_pos h113] | rw [if_neg (by rw [h113]; decide)])
          | (rw [if_neg h45_1, if_neg h45_2, if_neg h45_3, if_pos (Or.inr h45_5)]; first | rw [if_pos h113] | rw [if_neg (by rw [h113]; decide)])
          | (rw [if_neg h45_1, if_neg h45_2, if_neg h45_3, if_neg (fun q => q.elim h45_4 h45_5), if_pos h45_6]; first | rw [if_pos h134] | rw [if_neg (by rw [h134]; decide)])
          | rw [if_neg h45_1, if_neg h45_2, if_neg h45_3, if_neg (fun q => q.elim h45_4 h45_5), if_neg h45_6]
      · rfl
  refine r_tabCase hX dX6_eats_45 5 ⟨by decide, by decide, by decide, rfl, (by decide : (45 : Int) + 63 = (108 : Nat))⟩ (fun h45_5 => ?_) (fun h45_5 => ?_)
  ·
    refine r_aload0 hX dX6_eats_108 (q := 109) rfl ?_
    refine r_iload1 hX dX6_eats_109 (q := 110) rfl ?_
    refine r_callV hX dX6_eats_110 (q := 113) rfl (c_X6_isFriends _ Γ _ μ hM b hV _ t rfl ht) kX6_93 mlX6_isFriends mvX6_isFriends rfl rfl rfl ⟨by decide, rfl⟩ ⟨by decide, by decide⟩ (Nat.le_of_ble_eq_true rfl) (keB ?_)
    rw [← hfd]
    first | with_reducible refine r_ifd_eq hX dX6_eats_113 (q := 116) rfl (tgt := 126) (by decide) (fun h113 => ?_) (fun h113 => ?_) | refine r_ifb_eq hX dX6_eats_113 (q := 116) rfl (tgt := 126) (by decide) (fun h113 => ?_) (fun h113 => ?_)
    ·
      refine r_iload4 hX dX6_eats_126 (q := 128) rfl ?_
      refine r_istore5 hX dX6_eats_128 (q := 130) rfl rfl ?_
      refine r_goto hX dX6_eats_130 (tgt := 147) (by decide) ?_
      refine r_iload5 hX dX6_eats_147 (q := 149) rfl ?_
      refine r_iload3 hX dX6_eats_149 (q := 150) rfl ?_
      refine r_callS hX dX6_eats_150 (q := 153) rfl (c_X6_held _ Γ _ _ _) kX6_96 mlX6_held msX6_held rfl rfl ⟨by decide, by decide⟩ (Nat.le_of_ble_eq_true rfl) (keI ?_)
      refine r_iret hX hR dX6_eats_153 ?_
      -- leaf 5 at 153
      refine ⟨congrArg (fun z => some (Value.int z)) ?_, ?_⟩
      ·
        unfold eatT
        rw [← hfd, ← he_eat _ _ _ hp hl hh]
        refine congrArg (fun z => heS z _) ?_
        unfold eatR plS
        first
          | rw [if_pos h45_1]
          | rw [if_neg h45_1, if_pos h45_2]
          | rw [if_neg h45_1, if_neg h45_2, if_pos h45_3]
          | (rw [if_neg h45_1, if_neg h45_2, if_neg h45_3, if_pos (Or.inl h45_4)]; first | rw [if_pos h113] | rw [if_neg (by rw [h113]; decide)])
          | (rw [if_neg h45_1, if_neg h45_2, if_neg h45_3, if_pos (Or.inr h45_5)]; first | rw [if_pos h113] | rw [if_neg (by rw [h113]; decide)])
          | (rw [if_neg h45_1, if_neg h45_2, if_neg h45_3, if_neg (fun q => q.elim h45_4 h45_5), if_pos h45_6]; first | rw [if_pos h134] | rw [if_neg (by rw [h134]; decide)])
          | rw [if_neg h45_1, if_neg h45_2, if_neg h45_3, if_neg (fun q => q.elim h45_4 h45_5), if_neg h45_6]
      · rfl
    ·
      refine r_iload4 hX dX6_eats_116 (q := 118) rfl ?_
      refine r_iload4 hX dX6_eats_118 (q := 120) rfl ?_
      refine r_iconst hX dX6_eats_120 (q := 121) rfl (v := nI 2) (by decide +kernel) ?_
      refine r_idiv hX dX6_eats_121 (q := 122) rfl (by first | decide +kernel | assumption) ?_
      refine r_iadd hX dX6_eats_122 (q := 123) rfl ?_
      refine r_goto hX dX6_eats_123 (tgt := 128) (by decide) ?_
      refine r_istore5 hX dX6_eats_128 (q := 130) rfl rfl ?_
      refine r_goto hX dX6_eats_130 (tgt := 147) (by decide) ?_
      refine r_iload5 hX dX6_eats_147 (q := 149) rfl ?_
      refine r_iload3 hX dX6_eats_149 (q := 150) rfl ?_
      refine r_callS hX dX6_eats_150 (q := 153) rfl (c_X6_held _ Γ _ _ _) kX6_96 mlX6_held msX6_held rfl rfl ⟨by decide, by decide⟩ (Nat.le_of_ble_eq_true rfl) (keI ?_)
      refine r_iret hX hR dX6_eats_153 ?_
      -- leaf 6 at 153
      refine ⟨congrArg (fun z => some (Value.int z)) ?_, ?_⟩
      ·
        unfold eatT
        rw [← hfd, ← he_eat _ _ _ hp hl hh]
        refine congrArg (fun z => heS z _) ?_
        unfold eatR plS
        first
          | rw [if_pos h45_1]
          | rw [if_neg h45_1, if_pos h45_2]
          | rw [if_neg h45_1, if_neg h45_2, if_pos h45_3]
          | (rw [if_neg h45_1, if_neg h45_2, if_neg h45_3, if_pos (Or.inl h45_4)]; first | rw [if_pos h113] | rw [if_neg (by rw [h113]; decide)])
          | (rw [if_neg h45_1, if_neg h45_2, if_neg h45_3, if_pos (Or.inr h45_5)]; first | rw [if_pos h113] | rw [if_neg (by rw [h113]; decide)])
          | (rw [if_neg h45_1, if_neg h45_2, if_neg h45_3, if_neg (fun q => q.elim h45_4 h45_5), if_pos h45_6]; first | rw [if_pos h134] | rw [if_neg (by rw [h134]; decide)])
          | rw [if_neg h45_1, if_neg h45_2, if_neg h45_3, if_neg (fun q => q.elim h45_4 h45_5), if_neg h45_6]
      · rfl
  refine r_tabCase hX dX6_eats_45 6 ⟨by decide, by decide, by decide, rfl, (by decide : (45 : Int) + 88 = (133 : Nat))⟩ (fun h45_6 => ?_) (fun h45_6 => ?_)
  ·
    refine r_iload2 hX dX6_eats_133 (q := 134) rfl ?_
    first | with_reducible refine r_ifd_eq hX dX6_eats_134 (q := 137) rfl (tgt := 141) (by decide) (fun h134 => ?_) (fun h134 => ?_) | refine r_ifb_eq hX dX6_eats_134 (q := 137) rfl (tgt := 141) (by decide) (fun h134 => ?_) (fun h134 => ?_)
    ·
      refine r_iload3 hX dX6_eats_141 (q := 142) rfl ?_
      refine r_istore5 hX dX6_eats_142 (q := 144) rfl rfl ?_
      refine r_goto hX dX6_eats_144 (tgt := 147) (by decide) ?_
      refine r_iload5 hX dX6_eats_147 (q := 149) rfl ?_
      refine r_iload3 hX dX6_eats_149 (q := 150) rfl ?_
      refine r_callS hX dX6_eats_150 (q := 153) rfl (c_X6_held _ Γ _ _ _) kX6_96 mlX6_held msX6_held rfl rfl ⟨by decide, by decide⟩ (Nat.le_of_ble_eq_true rfl) (keI ?_)
      refine r_iret hX hR dX6_eats_153 ?_
      -- leaf 7 at 153
      refine ⟨congrArg (fun z => some (Value.int z)) ?_, ?_⟩
      ·
        unfold eatT
        rw [← hfd, ← he_eat _ _ _ hp hl hh]
        refine congrArg (fun z => heS z _) ?_
        unfold eatR plS
        first
          | rw [if_pos h45_1]
          | rw [if_neg h45_1, if_pos h45_2]
          | rw [if_neg h45_1, if_neg h45_2, if_pos h45_3]
          | (rw [if_neg h45_1, if_neg h45_2, if_neg h45_3, if_pos (Or.inl h45_4)]; first | rw [if_pos h113] | rw [if_neg (by rw [h113]; decide)])
          | (rw [if_neg h45_1, if_neg h45_2, if_neg h45_3, if_pos (Or.inr h45_5)]; first | rw [if_pos h113] | rw [if_neg (by rw [h113]; decide)])
          | (rw [if_neg h45_1, if_neg h45_2, if_neg h45_3, if_neg (fun q => q.elim h45_4 h45_5), if_pos h45_6]; first | rw [if_pos h134] | rw [if_neg (by rw [h134]; decide)])
          | rw [if_neg h45_1, if_neg h45_2, if_neg h45_3, if_neg (fun q => q.elim h45_4 h45_5), if_neg h45_6]
      · rfl
    ·
      refine r_iconst hX dX6_eats_137 (q := 138) rfl (v := nI 0) (by decide +kernel) ?_
      refine r_goto hX dX6_eats_138 (tgt := 142) (by decide) ?_
      refine r_istore5 hX dX6_eats_142 (q := 144) rfl rfl ?_
      refine r_goto hX dX6_eats_144 (tgt := 147) (by decide) ?_
      refine r_iload5 hX dX6_eats_147 (q := 149) rfl ?_
      refine r_iload3 hX dX6_eats_149 (q := 150) rfl ?_
      refine r_callS hX dX6_eats_150 (q := 153) rfl (c_X6_held _ Γ _ _ _) kX6_96 mlX6_held msX6_held rfl rfl ⟨by decide, by decide⟩ (Nat.le_of_ble_eq_true rfl) (keI ?_)
      refine r_iret hX hR dX6_eats_153 ?_
      -- leaf 8 at 153
      refine ⟨congrArg (fun z => some (Value.int z)) ?_, ?_⟩
      ·
        unfold eatT
        rw [← hfd, ← he_eat _ _ _ hp hl hh]
        refine congrArg (fun z => heS z _) ?_
        unfold eatR plS
        first
          | rw [if_pos h45_1]
          | rw [if_neg h45_1, if_pos h45_2]
          | rw [if_neg h45_1, if_neg h45_2, if_pos h45_3]
          | (rw [if_neg h45_1, if_neg h45_2, if_neg h45_3, if_pos (Or.inl h45_4)]; first | rw [if_pos h113] | rw [if_neg (by rw [h113]; decide)])
          | (rw [if_neg h45_1, if_neg h45_2, if_neg h45_3, if_pos (Or.inr h45_5)]; first | rw [if_pos h113] | rw [if_neg (by rw [h113]; decide)])
          | (rw [if_neg h45_1, if_neg h45_2, if_neg h45_3, if_neg (fun q => q.elim h45_4 h45_5), if_pos h45_6]; first | rw [if_pos h134] | rw [if_neg (by rw [h134]; decide)])
          | rw [if_neg h45_1, if_neg h45_2, if_neg h45_3, if_neg (fun q => q.elim h45_4 h45_5), if_neg h45_6]
      · rfl
  refine r_tabOut hX dX6_eats_45 (by have z1 := nI_neT h45_1 (by decide); have z2 := nI_neT h45_2 (by decide); have z3 := nI_neT h45_3 (by decide); have z4 := nI_neT h45_4 (by decide); have z5 := nI_neT h45_5 (by decide); have z6 := nI_neT h45_6 (by decide); omega) (tgt := 147) (by decide) ?_
  refine r_iload5 hX dX6_eats_147 (q := 149) rfl ?_
  refine r_iload3 hX dX6_eats_149 (q := 150) rfl ?_
  refine r_callS hX dX6_eats_150 (q := 153) rfl (c_X6_held _ Γ _ _ _) kX6_96 mlX6_held msX6_held rfl rfl ⟨by decide, by decide⟩ (Nat.le_of_ble_eq_true rfl) (keI ?_)
  refine r_iret hX hR dX6_eats_153 ?_
  -- leaf 9 at 153
  refine ⟨congrArg (fun z => some (Value.int z)) ?_, ?_⟩
  ·
    unfold eatT
    rw [← hfd, ← he_eat _ _ _ hp hl hh]
    refine congrArg (fun z => heS z _) ?_
    unfold eatR plS
    first
      | rw [if_pos h45_1]
      | rw [if_neg h45_1, if_pos h45_2]
      | rw [if_neg h45_1, if_neg h45_2, if_pos h45_3]
      | (rw [if_neg h45_1, if_neg h45_2, if_neg h45_3, if_pos (Or.inl h45_4)]; first | rw [if_pos h113] | rw [if_neg (by rw [h113]; decide)])
      | (rw [if_neg h45_1, if_neg h45_2, if_neg h45_3, if_pos (Or.inr h45_5)]; first | rw [if_pos h113] | rw [if_neg (by rw [h113]; decide)])
      | (rw [if_neg h45_1, if_neg h45_2, if_neg h45_3, if_neg (fun q => q.elim h45_4 h45_5), if_pos h45_6]; first | rw [if_pos h134] | rw [if_neg (by rw [h134]; decide)])
      | rw [if_neg h45_1, if_neg h45_2, if_neg h45_3, if_neg (fun q => q.elim h45_4 h45_5), if_neg h45_6]
  · rfl

set_option maxRecDepth 100000 in
set_option maxHeartbeats 4000000 in
theorem c_X6_moves (l : Launch) (Γ : Gam) (G : GG) (μ : MU) (hM : MR G μ) (b : Nat) (hV : Inv b μ) (x : Int32) (t : Nat) (hx : x = nI t) (ht : t < 10) (fb : Bool) : Sp l yX6_moves cX6_moves 5 (some .int) 2 43 [.ref (gad Γ 47), .int x, .int (bi fb)] Γ G (eI G (movT μ t fb)) := by
  refine Sp_of (own := RX6) rfl (by decide +kernel) rfl (Nat.le_of_ble_eq_true rfl) (fun X hX hR => ?_)
  show WP X Γ 0 [some (.ref (gad Γ 47)), some (.int x), some (.int (bi fb)), none, none] [] G
  subst hx
  obtain ⟨hf, hfe⟩ := hV.fd ht
  obtain ⟨f, hfd⟩ : ∃ f, f = cl (μ (41 + 3 * t)) := ⟨_, rfl⟩
  rw [← hfd] at hf hfe
  have a0 : G 48 (40 + 3 * t + 0) = μ (40 + 3 * t) := hM _ (by omega)
  have a1 : G 48 (40 + 3 * t + 1) = nI f := ((hM _ (by omega)).trans (congrArg μ (by omega))).trans hfe
  have a2 : G 48 (40 + 3 * t + 2) = μ (42 + 3 * t) := (hM _ (by omega)).trans (congrArg μ (by omega))
  have b1 : G 48 (10 + 3 * f + 1) = μ (11 + 3 * f) := (hM _ (by omega)).trans (congrArg μ (by omega))
  have hp : nn (μ (42 + 3 * t)) 20 := (hV.2.2.2.2.1 t ht).2.2
  have hl : nn (μ (10 + 3 * f)) 99 := (hV.2.2.2.1 f hf).1
  have hh : nn (μ 3) 99 := hV.2.1.2.1
  have h7 : nn (μ 7) 1023 := hV.2.1.2.2.2.2.2
  refine r_bipush hX dX6_moves_0 (q := 2) rfl (v := nI 6) (by decide +kernel) ?_
  refine r_aload0 hX dX6_moves_2 (q := 3) rfl ?_
  refine r_getR hX dX6_moves_3 (q := 6) rfl fX6_9 rfl ⟨by decide, by decide, rfl⟩ ?_
  refine r_bipush hX dX6_moves_6 (q := 8) rfl (v := nI 10) (by decide +kernel) ?_
  refine r_iconst hX dX6_moves_8 (q := 9) rfl (v := nI 3) (by decide +kernel) ?_
  refine r_aload0 hX dX6_moves_9 (q := 10) rfl ?_
  refine r_iload1 hX dX6_moves_10 (q := 11) rfl ?_
  refine r_iconst hX dX6_moves_11 (q := 12) rfl (v := nI 1) (by decide +kernel) ?_
  refine r_callV hX dX6_moves_12 (q := 15) rfl (c_X6_of _ Γ _ _ _ t 1 rfl rfl ht (by decide)) kX6_90 mlX6_of mvX6_of rfl rfl rfl ⟨by decide, rfl⟩ ⟨by decide, by decide⟩ (Nat.le_of_ble_eq_true rfl) (keI ?_)
  rw [a1]
  refine r_imul hX dX6_moves_15 (q := 16) rfl ?_
  refine r_iadd hX dX6_moves_16 (q := 17) rfl ?_
  refine r_iconst hX dX6_moves_17 (q := 18) rfl (v := nI 1) (by decide +kernel) ?_
  refine r_iadd hX dX6_moves_18 (q := 19) rfl ?_
  refine r_ialdN hX dX6_moves_19 (q := 20) rfl rfl (e_add (e_add rfl (e_mul rfl rfl)) rfl) (by omega) (by first | decide | omega) ?_
  rw [b1]
  refine r_aload0 hX dX6_moves_20 (q := 21) rfl ?_
  refine r_getR hX dX6_moves_21 (q := 24) rfl fX6_9 rfl ⟨by decide, by decide, rfl⟩ ?_
  refine r_iconst hX dX6_moves_24 (q := 25) rfl (v := nI 2) (by decide +kernel) ?_
  refine r_ialdN hX dX6_moves_25 (q := 26) rfl rfl (by repeat' (first | assumption | with_reducible exact rfl | refine e_add ?_ ?_ | refine e_mul ?_ ?_)) (by first | assumption | omega) (by first | decide | omega) ?_
  rw [hM 2 (by decide)]
  refine r_imul hX dX6_moves_26 (q := 27) rfl ?_
  refine r_bipush hX dX6_moves_27 (q := 29) rfl (v := nI 10) (by decide +kernel) ?_
  refine r_idiv hX dX6_moves_29 (q := 30) rfl (by first | decide +kernel | assumption) ?_
  refine r_isub hX dX6_moves_30 (q := 31) rfl ?_
  refine r_istore3 hX dX6_moves_31 (q := 32) rfl rfl ?_
  refine r_iload3 hX dX6_moves_32 (q := 33) rfl ?_
  refine r_aload0 hX dX6_moves_33 (q := 34) rfl ?_
  refine r_iload1 hX dX6_moves_34 (q := 35) rfl ?_
  refine r_callV hX dX6_moves_35 (q := 38) rfl (c_X6_isFriends _ Γ _ μ hM b hV _ t rfl ht) kX6_93 mlX6_isFriends mvX6_isFriends rfl rfl rfl ⟨by decide, rfl⟩ ⟨by decide, by decide⟩ (Nat.le_of_ble_eq_true rfl) (keB ?_)
  rw [← hfd]
  first | with_reducible refine r_ifd_eq hX dX6_moves_38 (q := 41) rfl (tgt := 45) (by decide) (fun h38 => ?_) (fun h38 => ?_) | refine r_ifb_eq hX dX6_moves_38 (q := 41) rfl (tgt := 45) (by decide) (fun h38 => ?_) (fun h38 => ?_)
  ·
    refine r_iconst hX dX6_moves_45 (q := 46) rfl (v := nI 0) (by decide +kernel) ?_
    refine r_iadd hX dX6_moves_46 (q := 47) rfl ?_
    refine r_istore4 hX dX6_moves_47 (q := 49) rfl rfl ?_
    refine r_aload0 hX dX6_moves_49 (q := 50) rfl ?_
    refine r_iload1 hX dX6_moves_50 (q := 51) rfl ?_
    refine r_iconst hX dX6_moves_51 (q := 52) rfl (v := nI 0) (by decide +kernel) ?_
    refine r_callV hX dX6_moves_52 (q := 55) rfl (c_X6_of _ Γ _ _ _ t 0 rfl rfl ht (by decide)) kX6_90 mlX6_of mvX6_of rfl rfl rfl ⟨by decide, rfl⟩ ⟨by decide, by decide⟩ (Nat.le_of_ble_eq_true rfl) (keI ?_)
    rw [a0]
    refine r_tabCase hX dX6_moves_55 1 ⟨by decide, by decide, by decide, rfl, (by decide : (55 : Int) + 37 = (92 : Nat))⟩ (fun h55_1 => ?_) (fun h55_1 => ?_)
    ·
      refine r_iload3 hX dX6_moves_92 (q := 93) rfl ?_
      refine r_iconst hX dX6_moves_93 (q := 94) rfl (v := nI 2) (by decide +kernel) ?_
      refine r_idiv hX dX6_moves_94 (q := 95) rfl (by first | decide +kernel | assumption) ?_
      refine r_iret hX hR dX6_moves_95 ?_
      -- leaf 0 at 95
      refine ⟨congrArg (fun z => some (Value.int z)) ?_, ?_⟩
      ·
        unfold movT
        rw [← hfd]
        unfold movS mvS
        first
          | rw [if_pos h55_1]
          | rw [if_neg h55_1, if_pos h55_2]
          | (rw [if_neg h55_1, if_neg h55_2, if_pos h55_3]; exact (sub86 _).symm)
          | (rw [if_neg h55_1, if_neg h55_2, if_neg h55_3, if_pos h55_4]; first | rw [if_pos h38] | (rw [if_neg (by rw [h38]; decide), nI_0, Int32.add_zero]))
          | (rw [if_neg h55_1, if_neg h55_2, if_neg h55_3, if_neg h55_4, if_pos h55_5]; first | rw [if_pos h38] | (rw [if_neg (by rw [h38]; decide), nI_0, Int32.add_zero]))
          | (rw [if_neg h55_1, if_neg h55_2, if_neg h55_3, if_neg h55_4, if_neg h55_5, if_pos h55_6]; first | rw [if_pos h115] | rw [if_neg (by rw [h115]; decide)])
          | rw [if_neg h55_1, if_neg h55_2, if_neg h55_3, if_neg h55_4, if_neg h55_5, if_neg h55_6]
      · rfl
    refine r_tabCase hX dX6_moves_55 2 ⟨by decide, by decide, by decide, rfl, (by decide : (55 : Int) + 41 = (96 : Nat))⟩ (fun h55_2 => ?_) (fun h55_2 => ?_)
    ·
      refine r_iload3 hX dX6_moves_96 (q := 97) rfl ?_
      refine r_bipush hX dX6_moves_97 (q := 99) rfl (v := nI 8) (by decide +kernel) ?_
      refine r_isub hX dX6_moves_99 (q := 100) rfl ?_
      refine r_iret hX hR dX6_moves_100 ?_
      -- leaf 1 at 100
      refine ⟨congrArg (fun z => some (Value.int z)) ?_, ?_⟩
      ·
        unfold movT
        rw [← hfd]
        unfold movS mvS
        first
          | rw [if_pos h55_1]
          | rw [if_neg h55_1, if_pos h55_2]
          | (rw [if_neg h55_1, if_neg h55_2, if_pos h55_3]; exact (sub86 _).symm)
          | (rw [if_neg h55_1, if_neg h55_2, if_neg h55_3, if_pos h55_4]; first | rw [if_pos h38] | (rw [if_neg (by rw [h38]; decide), nI_0, Int32.add_zero]))
          | (rw [if_neg h55_1, if_neg h55_2, if_neg h55_3, if_neg h55_4, if_pos h55_5]; first | rw [if_pos h38] | (rw [if_neg (by rw [h38]; decide), nI_0, Int32.add_zero]))
          | (rw [if_neg h55_1, if_neg h55_2, if_neg h55_3, if_neg h55_4, if_neg h55_5, if_pos h55_6]; first | rw [if_pos h115] | rw [if_neg (by rw [h115]; decide)])
          | rw [if_neg h55_1, if_neg h55_2, if_neg h55_3, if_neg h55_4, if_neg h55_5, if_neg h55_6]
      · rfl
    refine r_tabCase hX dX6_moves_55 3 ⟨by decide, by decide, by decide, rfl, (by decide : (55 : Int) + 46 = (101 : Nat))⟩ (fun h55_3 => ?_) (fun h55_3 => ?_)
    ·
      refine r_iload3 hX dX6_moves_101 (q := 102) rfl ?_
      refine r_bipush hX dX6_moves_102 (q := 104) rfl (v := nI 6) (by decide +kernel) ?_
      refine r_isub hX dX6_moves_104 (q := 105) rfl ?_
      refine r_iret hX hR dX6_moves_105 ?_
      -- leaf 2 at 105
      refine ⟨congrArg (fun z => some (Value.int z)) ?_, ?_⟩
      ·
        unfold movT
        rw [← hfd]
        unfold movS mvS
        first
          | rw [if_pos h55_1]
          | rw [if_neg h55_1, if_pos h55_2]
          | (rw [if_neg h55_1, if_neg h55_2, if_pos h55_3]; exact (sub86 _).symm)
          | (rw [if_neg h55_1, if_neg h55_2, if_neg h55_3, if_pos h55_4]; first | rw [if_pos h38] | (rw [if_neg (by rw [h38]; decide), nI_0, Int32.add_zero]))
          | (rw [if_neg h55_1, if_neg h55_2, if_neg h55_3, if_neg h55_4, if_pos h55_5]; first | rw [if_pos h38] | (rw [if_neg (by rw [h38]; decide), nI_0, Int32.add_zero]))
          | (rw [if_neg h55_1, if_neg h55_2, if_neg h55_3, if_neg h55_4, if_neg h55_5, if_pos h55_6]; first | rw [if_pos h115] | rw [if_neg (by rw [h115]; decide)])
          | rw [if_neg h55_1, if_neg h55_2, if_neg h55_3, if_neg h55_4, if_neg h55_5, if_neg h55_6]
      · rfl
    refine r_tabCase hX dX6_moves_55 4 ⟨by decide, by decide, by decide, rfl, (by decide : (55 : Int) + 51 = (106 : Nat))⟩ (fun h55_4 => ?_) (fun h55_4 => ?_)
    ·
      refine r_iload4 hX dX6_moves_106 (q := 108) rfl ?_
      refine r_iret hX hR dX6_moves_108 ?_
      -- leaf 3 at 108
      refine ⟨congrArg (fun z => some (Value.int z)) ?_, ?_⟩
      ·
        unfold movT
        rw [← hfd]
        unfold movS mvS
        first
          | rw [if_pos h55_1]
          | rw [if_neg h55_1, if_pos h55_2]
          | (rw [if_neg h55_1, if_neg h55_2, if_pos h55_3]; exact (sub86 _).symm)
          | (rw [if_neg h55_1, if_neg h55_2, if_neg h55_3, if_pos h55_4]; first | rw [if_pos h38] | (rw [if_neg (by rw [h38]; decide), nI_0, Int32.add_zero]))
          | (rw [if_neg h55_1, if_neg h55_2, if_neg h55_3, if_neg h55_4, if_pos h55_5]; first | rw [if_pos h38] | (rw [if_neg (by rw [h38]; decide), nI_0, Int32.add_zero]))
          | (rw [if_neg h55_1, if_neg h55_2, if_neg h55_3, if_neg h55_4, if_neg h55_5, if_pos h55_6]; first | rw [if_pos h115] | rw [if_neg (by rw [h115]; decide)])
          | rw [if_neg h55_1, if_neg h55_2, if_neg h55_3, if_neg h55_4, if_neg h55_5, if_neg h55_6]
      · rfl
    refine r_tabCase hX dX6_moves_55 5 ⟨by decide, by decide, by decide, rfl, (by decide : (55 : Int) + 54 = (109 : Nat))⟩ (fun h55_5 => ?_) (fun h55_5 => ?_)
    ·
      refine r_iload4 hX dX6_moves_109 (q := 111) rfl ?_
      refine r_iconst hX dX6_moves_111 (q := 112) rfl (v := nI 2) (by decide +kernel) ?_
      refine r_iadd hX dX6_moves_112 (q := 113) rfl ?_
      refine r_iret hX hR dX6_moves_113 ?_
      -- leaf 4 at 113
      refine ⟨congrArg (fun z => some (Value.int z)) ?_, ?_⟩
      ·
        unfold movT
        rw [← hfd]
        unfold movS mvS
        first
          | rw [if_pos h55_1]
          | rw [if_neg h55_1, if_pos h55_2]
          | (rw [if_neg h55_1, if_neg h55_2, if_pos h55_3]; exact (sub86 _).symm)
          | (rw [if_neg h55_1, if_neg h55_2, if_neg h55_3, if_pos h55_4]; first | rw [if_pos h38] | (rw [if_neg (by rw [h38]; decide), nI_0, Int32.add_zero]))
          | (rw [if_neg h55_1, if_neg h55_2, if_neg h55_3, if_neg h55_4, if_pos h55_5]; first | rw [if_pos h38] | (rw [if_neg (by rw [h38]; decide), nI_0, Int32.add_zero]))
          | (rw [if_neg h55_1, if_neg h55_2, if_neg h55_3, if_neg h55_4, if_neg h55_5, if_pos h55_6]; first | rw [if_pos h115] | rw [if_neg (by rw [h115]; decide)])
          | rw [if_neg h55_1, if_neg h55_2, if_neg h55_3, if_neg h55_4, if_neg h55_5, if_neg h55_6]
      · rfl
    refine r_tabCase hX dX6_moves_55 6 ⟨by decide, by decide, by decide, rfl, (by decide : (55 : Int) + 59 = (114 : Nat))⟩ (fun h55_6 => ?_) (fun h55_6 => ?_)
    ·
      refine r_iload2 hX dX6_moves_114 (q := 115) rfl ?_
      first | with_reducible refine r_ifd_eq hX dX6_moves_115 (q := 118) rfl (tgt := 123) (by decide) (fun h115 => ?_) (fun h115 => ?_) | refine r_ifb_eq hX dX6_moves_115 (q := 118) rfl (tgt := 123) (by decide) (fun h115 => ?_) (fun h115 => ?_)
      ·
        refine r_iconst hX dX6_moves_123 (q := 124) rfl (v := nI 1) (by decide +kernel) ?_
        refine r_iret hX hR dX6_moves_124 ?_
        -- leaf 5 at 124
        refine ⟨congrArg (fun z => some (Value.int z)) ?_, ?_⟩
        ·
          unfold movT
          rw [← hfd]
          unfold movS mvS
          first
            | rw [if_pos h55_1]
            | rw [if_neg h55_1, if_pos h55_2]
            | (rw [if_neg h55_1, if_neg h55_2, if_pos h55_3]; exact (sub86 _).symm)
            | (rw [if_neg h55_1, if_neg h55_2, if_neg h55_3, if_pos h55_4]; first | rw [if_pos h38] | (rw [if_neg (by rw [h38]; decide), nI_0, Int32.add_zero]))
            | (rw [if_neg h55_1, if_neg h55_2, if_neg h55_3, if_neg h55_4, if_pos h55_5]; first | rw [if_pos h38] | (rw [if_neg (by rw [h38]; decide), nI_0, Int32.add_zero]))
            | (rw [if_neg h55_1, if_neg h55_2, if_neg h55_3, if_neg h55_4, if_neg h55_5, if_pos h55_6]; first | rw [if_pos h115] | rw [if_neg (by rw [h115]; decide)])
            | rw [if_neg h55_1, if_neg h55_2, if_neg h55_3, if_neg h55_4, if_neg h55_5, if_neg h55_6]
        · rfl
      ·
        refine r_bipush hX dX6_moves_118 (q := 120) rfl (v := (-10)) (by decide +kernel) ?_
        refine r_goto hX dX6_moves_120 (tgt := 124) (by decide) ?_
        refine r_iret hX hR dX6_moves_124 ?_
        -- leaf 6 at 124
        refine ⟨congrArg (fun z => some (Value.int z)) ?_, ?_⟩
        ·
          unfold movT
          rw [← hfd]
          unfold movS mvS
          first
            | rw [if_pos h55_1]
            | rw [if_neg h55_1, if_pos h55_2]
            | (rw [if_neg h55_1, if_neg h55_2, if_pos h55_3]; exact (sub86 _).symm)
            | (rw [if_neg h55_1, if_neg h55_2, if_neg h55_3, if_pos h55_4]; first | rw [if_pos h38] | (rw [if_neg (by rw [h38]; decide), nI_0, Int32.add_zero]))
            | (rw [if_neg h55_1, if_neg h55_2, if_neg h55_3, if_neg h55_4, if_pos h55_5]; first | rw [if_pos h38] | (rw [if_neg (by rw [h38]; decide), nI_0, Int32.add_zero]))
            | (rw [if_neg h55_1, if_neg h55_2, if_neg h55_3, if_neg h55_4, if_neg h55_5, if_pos h55_6]; first | rw [if_pos h115] | rw [if_neg (by rw [h115]; decide)])
            | rw [if_neg h55_1, if_neg h55_2, if_neg h55_3, if_neg h55_4, if_neg h55_5, if_neg h55_6]
        · rfl
    refine r_tabOut hX dX6_moves_55 (by have z1 := nI_neT h55_1 (by decide); have z2 := nI_neT h55_2 (by decide); have z3 := nI_neT h55_3 (by decide); have z4 := nI_neT h55_4 (by decide); have z5 := nI_neT h55_5 (by decide); have z6 := nI_neT h55_6 (by decide); omega) (tgt := 125) (by decide) ?_
    refine r_iload3 hX dX6_moves_125 (q := 126) rfl ?_
    refine r_iret hX hR dX6_moves_126 ?_
    -- leaf 7 at 126
    refine ⟨congrArg (fun z => some (Value.int z)) ?_, ?_⟩
    ·
      unfold movT
      rw [← hfd]
      unfold movS mvS
      first
        | rw [if_pos h55_1]
        | rw [if_neg h55_1, if_pos h55_2]
        | (rw [if_neg h55_1, if_neg h55_2, if_pos h55_3]; exact (sub86 _).symm)
        | (rw [if_neg h55_1, if_neg h55_2, if_neg h55_3, if_pos h55_4]; first | rw [if_pos h38] | (rw [if_neg (by rw [h38]; decide), nI_0, Int32.add_zero]))
        | (rw [if_neg h55_1, if_neg h55_2, if_neg h55_3, if_neg h55_4, if_pos h55_5]; first | rw [if_pos h38] | (rw [if_neg (by rw [h38]; decide), nI_0, Int32.add_zero]))
        | (rw [if_neg h55_1, if_neg h55_2, if_neg h55_3, if_neg h55_4, if_neg h55_5, if_pos h55_6]; first | rw [if_pos h115] | rw [if_neg (by rw [h115]; decide)])
        | rw [if_neg h55_1, if_neg h55_2, if_neg h55_3, if_neg h55_4, if_neg h55_5, if_neg h55_6]
    · rfl
  ·
    refine r_iconst hX dX6_moves_41 (q := 42) rfl (v := nI 3) (by decide +kernel) ?_
    refine r_goto hX dX6_moves_42 (tgt := 46) (by decide) ?_
    refine r_iadd hX dX6_moves_46 (q := 47) rfl ?_
    refine r_istore4 hX dX6_moves_47 (q := 49) rfl rfl ?_
    refine r_aload0 hX dX6_moves_49 (q := 50) rfl ?_
    refine r_iload1 hX dX6_moves_50 (q := 51) rfl ?_
    refine r_iconst hX dX6_moves_51 (q := 52) rfl (v := nI 0) (by decide +kernel) ?_
    refine r_callV hX dX6_moves_52 (q := 55) rfl (c_X6_of _ Γ _ _ _ t 0 rfl rfl ht (by decide)) kX6_90 mlX6_of mvX6_of rfl rfl rfl ⟨by decide, rfl⟩ ⟨by decide, by decide⟩ (Nat.le_of_ble_eq_true rfl) (keI ?_)
    rw [a0]
    refine r_tabCase hX dX6_moves_55 1 ⟨by decide, by decide, by decide, rfl, (by decide : (55 : Int) + 37 = (92 : Nat))⟩ (fun h55_1 => ?_) (fun h55_1 => ?_)
    ·
      refine r_iload3 hX dX6_moves_92 (q := 93) rfl ?_
      refine r_iconst hX dX6_moves_93 (q := 94) rfl (v := nI 2) (by decide +kernel) ?_
      refine r_idiv hX dX6_moves_94 (q := 95) rfl (by first | decide +kernel | assumption) ?_
      refine r_iret hX hR dX6_moves_95 ?_
      -- leaf 8 at 95
      refine ⟨congrArg (fun z => some (Value.int z)) ?_, ?_⟩
      ·
        unfold movT
        rw [← hfd]
        unfold movS mvS
        first
          | rw [if_pos h55_1]
          | rw [if_neg h55_1, if_pos h55_2]
          | (rw [if_neg h55_1, if_neg h55_2, if_pos h55_3]; exact (sub86 _).symm)
          | (rw [if_neg h55_1, if_neg h55_2, if_neg h55_3, if_pos h55_4]; first | rw [if_pos h38] | (rw [if_neg (by rw [h38]; decide), nI_0, Int32.add_zero]))
          | (rw [if_neg h55_1, if_neg h55_2, if_neg h55_3, if_neg h55_4, if_pos h55_5]; first | rw [if_pos h38] | (rw [if_neg (by rw [h38]; decide), nI_0, Int32.add_zero]))
          | (rw [if_neg h55_1, if_neg h55_2, if_neg h55_3, if_neg h55_4, if_neg h55_5, if_pos h55_6]; first | rw [if_pos h115] | rw [if_neg (by rw [h115]; decide)])
          | rw [if_neg h55_1, if_neg h55_2, if_neg h55_3, if_neg h55_4, if_neg h55_5, if_neg h55_6]
      · rfl
    refine r_tabCase hX dX6_moves_55 2 ⟨by decide, by decide, by decide, rfl, (by decide : (55 : Int) + 41 = (96 : Nat))⟩ (fun h55_2 => ?_) (fun h55_2 => ?_)
    ·
      refine r_iload3 hX dX6_moves_96 (q := 97) rfl ?_
      refine r_bipush hX dX6_moves_97 (q := 99) rfl (v := nI 8) (by decide +kernel) ?_
      refine r_isub hX dX6_moves_99 (q := 100) rfl ?_
      refine r_iret hX hR dX6_moves_100 ?_
      -- leaf 9 at 100
      refine ⟨congrArg (fun z => some (Value.int z)) ?_, ?_⟩
      ·
        unfold movT
        rw [← hfd]
        unfold movS mvS
        first
          | rw [if_pos h55_1]
          | rw [if_neg h55_1, if_pos h55_2]
          | (rw [if_neg h55_1, if_neg h55_2, if_pos h55_3]; exact (sub86 _).symm)
          | (rw [if_neg h55_1, if_neg h55_2, if_neg h55_3, if_pos h55_4]; first | rw [if_pos h38] | (rw [if_neg (by rw [h38]; decide), nI_0, Int32.add_zero]))
          | (rw [if_neg h55_1, if_neg h55_2, if_neg h55_3, if_neg h55_4, if_pos h55_5]; first | rw [if_pos h38] | (rw [if_neg (by rw [h38]; decide), nI_0, Int32.add_zero]))
          | (rw [if_neg h55_1, if_neg h55_2, if_neg h55_3, if_neg h55_4, if_neg h55_5, if_pos h55_6]; first | rw [if_pos h115] | rw [if_neg (by rw [h115]; decide)])
          | rw [if_neg h55_1, if_neg h55_2, if_neg h55_3, if_neg h55_4, if_neg h55_5, if_neg h55_6]
      · rfl
    refine r_tabCase hX dX6_moves_55 3 ⟨by decide, by decide, by decide, rfl, (by decide : (55 : Int) + 46 = (101 : Nat))⟩ (fun h55_3 => ?_) (fun h55_3 => ?_)
    ·
      refine r_iload3 hX dX6_moves_101 (q := 102) rfl ?_
      refine r_bipush hX dX6_moves_102 (q := 104) rfl (v := nI 6) (by decide +kernel) ?_
      refine r_isub hX dX6_moves_104 (q := 105) rfl ?_
      refine r_iret hX hR dX6_moves_105 ?_
      -- leaf 10 at 105
      refine ⟨congrArg (fun z => some (Value.int z)) ?_, ?_⟩
      ·
        unfold movT
        rw [← hfd]
        unfold movS mvS
        first
          | rw [if_pos h55_1]
          | rw [if_neg h55_1, if_pos h55_2]
          | (rw [if_neg h55_1, if_neg h55_2, if_pos h55_3]; exact (sub86 _).symm)
          | (rw [if_neg h55_1, if_neg h55_2, if_neg h55_3, if_pos h55_4]; first | rw [if_pos h38] | (rw [if_neg (by rw [h38]; decide), nI_0, Int32.add_zero]))
          | (rw [if_neg h55_1, if_neg h55_2, if_neg h55_3, if_neg h55_4, if_pos h55_5]; first | rw [if_pos h38] | (rw [if_neg (by rw [h38]; decide), nI_0, Int32.add_zero]))
          | (rw [if_neg h55_1, if_neg h55_2, if_neg h55_3, if_neg h55_4, if_neg h55_5, if_pos h55_6]; first | rw [if_pos h115] | rw [if_neg (by rw [h115]; decide)])
          | rw [if_neg h55_1, if_neg h55_2, if_neg h55_3, if_neg h55_4, if_neg h55_5, if_neg h55_6]
      · rfl
    refine r_tabCase hX dX6_moves_55 4 ⟨by decide, by decide, by decide, rfl, (by decide : (55 : Int) + 51 = (106 : Nat))⟩ (fun h55_4 => ?_) (fun h55_4 => ?_)
    ·
      refine r_iload4 hX dX6_moves_106 (q := 108) rfl ?_
      refine r_iret hX hR dX6_moves_108 ?_
      -- leaf 11 at 108
      refine ⟨congrArg (fun z => some (Value.int z)) ?_, ?_⟩
      ·
        unfold movT
        rw [← hfd]
        unfold movS mvS
        first
          | rw [if_pos h55_1]
          | rw [if_neg h55_1, if_pos h55_2]
          | (rw [if_neg h55_1, if_neg h55_2, if_pos h55_3]; exact (sub86 _).symm)
          | (rw [if_neg h55_1, if_neg h55_2, if_neg h55_3, if_pos h55_4]; first | rw [if_pos h38] | (rw [if_neg (by rw [h38]; decide), nI_0, Int32.add_zero]))
          | (rw [if_neg h55_1, if_neg h55_2, if_neg h55_3, if_neg h55_4, if_pos h55_5]; first | rw [if_pos h38] | (rw [if_neg (by rw [h38]; decide), nI_0, Int32.add_zero]))
          | (rw [if_neg h55_1, if_neg h55_2, if_neg h55_3, if_neg h55_4, if_neg h55_5, if_pos h55_6]; first | rw [if_pos h115] | rw [if_neg (by rw [h115]; decide)])
          | rw [if_neg h55_1, if_neg h55_2, if_neg h55_3, if_neg h55_4, if_neg h55_5, if_neg h55_6]
      · rfl
    refine r_tabCase hX dX6_moves_55 5 ⟨by decide, by decide, by decide, rfl, (by decide : (55 : Int) + 54 = (109 : Nat))⟩ (fun h55_5 => ?_) (fun h55_5 => ?_)
    ·
      refine r_iload4 hX dX6_moves_109 (q := 111) rfl ?_
      refine r_iconst hX dX6_moves_111 (q := 112) rfl (v := nI 2) (by decide +kernel) ?_
      refine r_iadd hX dX6_moves_112 (q := 113) rfl ?_
      refine r_iret hX hR dX6_moves_113 ?_
      -- leaf 12 at 113
      refine ⟨congrArg (fun z => some (Value.int z)) ?_, ?_⟩
      ·
        unfold movT
        rw [← hfd]
        unfold movS mvS
        first
          | rw [if_pos h55_1]
          | rw [if_neg h55_1, if_pos h55_2]
          | (rw [if_neg h55_1, if_neg h55_2, if_pos h55_3]; exact (sub86 _).symm)
          | (rw [if_neg h55_1, if_neg h55_2, if_neg h55_3, if_pos h55_4]; first | rw [if_pos h38] | (rw [if_neg (by rw [h38]; decide), nI_0, Int32.add_zero]))
          | (rw [if_neg h55_1, if_neg h55_2, if_neg h55_3, if_neg h55_4, if_pos h55_5]; first | rw [if_pos h38] | (rw [if_neg (by rw [h38]; decide), nI_0, Int32.add_zero]))
          | (rw [if_neg h55_1, if_neg h55_2, if_neg h55_3, if_neg h55_4, if_neg h55_5, if_pos h55_6]; first | rw [if_pos h115] | rw [if_neg (by rw [h115]; decide)])
          | rw [if_neg h55_1, if_neg h55_2, if_neg h55_3, if_neg h55_4, if_neg h55_5, if_neg h55_6]
      · rfl
    refine r_tabCase hX dX6_moves_55 6 ⟨by decide, by decide, by decide, rfl, (by decide : (55 : Int) + 59 = (114 : Nat))⟩ (fun h55_6 => ?_) (fun h55_6 => ?_)
    ·
      refine r_iload2 hX dX6_moves_114 (q := 115) rfl ?_
      first | with_reducible refine r_ifd_eq hX dX6_moves_115 (q := 118) rfl (tgt := 123) (by decide) (fun h115 => ?_) (fun h115 => ?_) | refine r_ifb_eq hX dX6_moves_115 (q := 118) rfl (tgt := 123) (by decide) (fun h115 => ?_) (fun h115 => ?_)
      ·
        refine r_iconst hX dX6_moves_123 (q := 124) rfl (v := nI 1) (by decide +kernel) ?_
        refine r_iret hX hR dX6_moves_124 ?_
        -- leaf 13 at 124
        refine ⟨congrArg (fun z => some (Value.int z)) ?_, ?_⟩
        ·
          unfold movT
          rw [← hfd]
          unfold movS mvS
          first
            | rw [if_pos h55_1]
            | rw [if_neg h55_1, if_pos h55_2]
            | (rw [if_neg h55_1, if_neg h55_2, if_pos h55_3]; exact (sub86 _).symm)
            | (rw [if_neg h55_1, if_neg h55_2, if_neg h55_3, if_pos h55_4]; first | rw [if_pos h38] | (rw [if_neg (by rw [h38]; decide), nI_0, Int32.add_zero]))
            | (rw [if_neg h55_1, if_neg h55_2, if_neg h55_3, if_neg h55_4, if_pos h55_5]; first | rw [if_pos h38] | (rw [if_neg (by rw [h38]; decide), nI_0, Int32.add_zero]))
            | (rw [if_neg h55_1, if_neg h55_2, if_neg h55_3, if_neg h55_4, if_neg h55_5, if_pos h55_6]; first | rw [if_pos h115] | rw [if_neg (by rw [h115]; decide)])
            | rw [if_neg h55_1, if_neg h55_2, if_neg h55_3, if_neg h55_4, if_neg h55_5, if_neg h55_6]
        · rfl
      ·
        refine r_bipush hX dX6_moves_118 (q := 120) rfl (v := (-10)) (by decide +kernel) ?_
        refine r_goto hX dX6_moves_120 (tgt := 124) (by decide) ?_
        refine r_iret hX hR dX6_moves_124 ?_
        -- leaf 14 at 124
        refine ⟨congrArg (fun z => some (Value.int z)) ?_, ?_⟩
        ·
          unfold movT
          rw [← hfd]
          unfold movS mvS
          first
            | rw [if_pos h55_1]
            | rw [if_neg h55_1, if_pos h55_2]
            | (rw [if_neg h55_1, if_neg h55_2, if_pos h55_3]; exact (sub86 _).symm)
            | (rw [if_neg h55_1, if_neg h55_2, if_neg h55_3, if_pos h55_4]; first | rw [if_pos h38] | (rw [if_neg (by rw [h38]; decide), nI_0, Int32.add_zero]))
            | (rw [if_neg h55_1, if_neg h55_2, if_neg h55_3, if_neg h55_4, if_pos h55_5]; first | rw [if_pos h38] | (rw [if_neg (by rw [h38]; decide), nI_0, Int32.add_zero]))
            | (rw [if_neg h55_1, if_neg h55_2, if_neg h55_3, if_neg h55_4, if_neg h55_5, if_pos h55_6]; first | rw [if_pos h115] | rw [if_neg (by rw [h115]; decide)])
            | rw [if_neg h55_1, if_neg h55_2, if_neg h55_3, if_neg h55_4, if_neg h55_5, if_neg h55_6]
        · rfl
    refine r_tabOut hX dX6_moves_55 (by have z1 := nI_neT h55_1 (by decide); have z2 := nI_neT h55_2 (by decide); have z3 := nI_neT h55_3 (by decide); have z4 := nI_neT h55_4 (by decide); have z5 := nI_neT h55_5 (by decide); have z6 := nI_neT h55_6 (by decide); omega) (tgt := 125) (by decide) ?_
    refine r_iload3 hX dX6_moves_125 (q := 126) rfl ?_
    refine r_iret hX hR dX6_moves_126 ?_
    -- leaf 15 at 126
    refine ⟨congrArg (fun z => some (Value.int z)) ?_, ?_⟩
    ·
      unfold movT
      rw [← hfd]
      unfold movS mvS
      first
        | rw [if_pos h55_1]
        | rw [if_neg h55_1, if_pos h55_2]
        | (rw [if_neg h55_1, if_neg h55_2, if_pos h55_3]; exact (sub86 _).symm)
        | (rw [if_neg h55_1, if_neg h55_2, if_neg h55_3, if_pos h55_4]; first | rw [if_pos h38] | (rw [if_neg (by rw [h38]; decide), nI_0, Int32.add_zero]))
        | (rw [if_neg h55_1, if_neg h55_2, if_neg h55_3, if_neg h55_4, if_pos h55_5]; first | rw [if_pos h38] | (rw [if_neg (by rw [h38]; decide), nI_0, Int32.add_zero]))
        | (rw [if_neg h55_1, if_neg h55_2, if_neg h55_3, if_neg h55_4, if_neg h55_5, if_pos h55_6]; first | rw [if_pos h115] | rw [if_neg (by rw [h115]; decide)])
        | rw [if_neg h55_1, if_neg h55_2, if_neg h55_3, if_neg h55_4, if_neg h55_5, if_neg h55_6]
    · rfl
