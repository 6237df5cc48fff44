set_option maxRecDepth 100000 in
set_option maxHeartbeats 4000000 in
theorem c_X6_isLiked (l : Launch) (Γ : Gam) (G : GG) (μ : MU) (hM : MR G μ) (x : Int32) (f : Nat) (hx : x = nI f) (hf : f < 10) : Sp l yX6_isLiked cX6_isLiked 2 (some .boolean) 1 21 [.ref (gad Γ 47), .int x] Γ G (eB G (lkB μ f)) := by
  refine Sp_of (own := RX6) rfl (by decide +kernel) rfl (Nat.le_of_ble_eq_true rfl) (fun X hX hR => ?_)
  show WP X Γ 0 [some (.ref (gad Γ 47)), some (.int x)] [] G
  subst hx
  refine r_aload0 hX dX6_isLiked_0 (q := 1) rfl ?_
  refine r_iload1 hX dX6_isLiked_1 (q := 2) rfl ?_
  refine r_callV hX dX6_isLiked_2 (q := 5) rfl (c_X6_like _ Γ _ _ f rfl hf) kX6_50 mlX6_like mvX6_like rfl rfl rfl ⟨by decide, rfl⟩ ⟨by decide, by decide⟩ (Nat.le_of_ble_eq_true rfl) (keI ?_)
  rw [hM _ (by omega)]
  refine r_aload0 hX dX6_isLiked_5 (q := 6) rfl ?_
  refine r_getR hX dX6_isLiked_6 (q := 9) rfl fX6_9 rfl ⟨by decide, by decide, rfl⟩ ?_
  refine r_iconst hX dX6_isLiked_9 (q := 10) rfl (v := nI 5) (by decide +kernel) ?_
  refine r_ialdN hX dX6_isLiked_10 (q := 11) rfl rfl (by repeat' (first | assumption | with_reducible exact rfl | refine e_add ?_ ?_ | refine e_mul ?_ ?_)) (by first | assumption | omega) (by first | decide | omega) ?_
  rw [hM 5 (by decide)]
  first | refine r_icmpN_lt hX dX6_isLiked_11 (q := 14) rfl (tgt := 18) (by decide) (by first | omega | decide) (by first | omega | decide) (fun h11 => ?_) (fun h11 => ?_) | refine r_icmp_lt hX dX6_isLiked_11 (q := 14) rfl (tgt := 18) (by decide) (fun h11 => ?_) (fun h11 => ?_)
  ·
    refine r_iconst hX dX6_isLiked_18 (q := 19) rfl (v := nI 0) (by decide +kernel) ?_
    refine r_zret0 hX hR dX6_isLiked_19 ?_
    -- leaf 0 at 19
    refine ⟨congrArg (fun z => some (Value.int (bi z))) ?_, ?_⟩
    ·
      first | exact (decide_eq_false (Int32.not_le.mpr h11)).symm | exact (decide_eq_true (Int32.not_lt.mp h11)).symm
    · rfl
  ·
    refine r_iconst hX dX6_isLiked_14 (q := 15) rfl (v := nI 1) (by decide +kernel) ?_
    refine r_goto hX dX6_isLiked_15 (tgt := 19) (by decide) ?_
    refine r_zret1 hX hR dX6_isLiked_19 ?_
    -- leaf 1 at 19
    refine ⟨congrArg (fun z => some (Value.int (bi z))) ?_, ?_⟩
    ·
      first | exact (decide_eq_false (Int32.not_le.mpr h11)).symm | exact (decide_eq_true (Int32.not_lt.mp h11)).symm
    · rfl

set_option maxRecDepth 100000 in
set_option maxHeartbeats 4000000 in
theorem c_X6_food (l : Launch) (Γ : Gam) (G : GG) (μ : MU) (hM : MR G μ) (x y z : Int32) : Sp l yX6_food cX6_food 5 (some .int) 2 45 [.ref (gad Γ 47), .int x, .int y, .int z] Γ G (pI (fun v G' => MOut G μ (oFood μ x y z) v G')) := by
  refine Sp_of (own := RX6) rfl (by decide +kernel) rfl (Nat.le_of_ble_eq_true rfl) (fun X hX hR => ?_)
  show WP X Γ 0 [some (.ref (gad Γ 47)), some (.int x), some (.int y), some (.int z), none] [] G
  refine r_iload2 hX dX6_food_0 (q := 1) rfl ?_
  refine r_if_ne hX dX6_food_1 (q := 4) rfl (tgt := 16) (by decide) (fun h1 => ?_) (fun h1 => ?_)
  ·
    refine r_iload2 hX dX6_food_16 (q := 17) rfl ?_
    refine r_iconst hX dX6_food_17 (q := 18) rfl (v := nI 1) (by decide +kernel) ?_
    first | refine r_icmpN_ne hX dX6_food_18 (q := 21) rfl (tgt := 37) (by decide) (by first | omega | decide) (by first | omega | decide) (fun h18 => ?_) (fun h18 => ?_) | refine r_icmp_ne hX dX6_food_18 (q := 21) rfl (tgt := 37) (by decide) (fun h18 => ?_) (fun h18 => ?_)
    ·
      refine r_iconst hX dX6_food_37 (q := 38) rfl (v := nI 0) (by decide +kernel) ?_
      refine r_istore4 hX dX6_food_38 (q := 40) rfl rfl ?_
      refine r_iload1 hX dX6_food_40 (q := 41) rfl ?_
      refine r_callS hX dX6_food_41 (q := 44) rfl (c_X6_isFood _ Γ _ _) kX6_55 mlX6_isFood msX6_isFood rfl rfl ⟨by decide, by decide⟩ (Nat.le_of_ble_eq_true rfl) (keB ?_)
      first | with_reducible refine r_ifd_eq hX dX6_food_44 (q := 47) rfl (tgt := 68) (by decide) (fun h44 => ?_) (fun h44 => ?_) | refine r_ifb_eq hX dX6_food_44 (q := 47) rfl (tgt := 68) (by decide) (fun h44 => ?_) (fun h44 => ?_)
      ·
        refine r_aload0 hX dX6_food_68 (q := 69) rfl ?_
        refine r_ldc hX dX6_food_69 (q := 71) rfl qX6_34 ?_
        refine r_callV hX dX6_food_71 (q := 74) rfl (c_X6_finds _ Γ _ _ 0 (by decide) (by decide +kernel)) kX6_36 mlX6_finds mvX6_finds rfl rfl rfl ⟨by decide, rfl⟩ ⟨by decide, by decide⟩ (Nat.le_of_ble_eq_true rfl) (kpI (fun v71 G71 p71 => ?_))
        refine r_iret hX hR dX6_food_74 ?_
        -- leaf 0 at 74
        refine ⟨_, rfl, ?_⟩
        first
          | (refine MOut.ok (if_pos ⟨h44, ?_⟩) (hM _ (by have := ye.2; omega)) (hM.u _ _) FrM.rf.up
             first
               | exact Or.inl ⟨h1.trans nI_0.symm, h49⟩
               | exact Or.inr ⟨h18, h30⟩)
          | (refine MOut.fin (k := 0) (if_neg (fun q => ?_)) ⟨p71.1.trans (by decide +kernel), p71.2⟩ hM FrM.rf
             first
               | exact h44 q.1
               | (rcases q.2 with ⟨q2, q3⟩ | ⟨q2, q3⟩
                  · first | exact h49 q3 | exact h1 (q2.trans nI_0)
                  · first | exact h30 q3 | exact h18 q2 | exact absurd (h1.symm.trans q2) (by decide +kernel)))
      ·
        obtain ⟨xl, xe⟩ := ix_of (by decide) h44
        refine r_iload4 hX dX6_food_47 (q := 49) rfl ?_
        refine r_if_eq hX dX6_food_49 (q := 52) rfl (tgt := 68) (by decide) (fun _ => ?_) (fun h => absurd (by decide +kernel) h)
        refine r_aload0 hX dX6_food_68 (q := 69) rfl ?_
        refine r_ldc hX dX6_food_69 (q := 71) rfl qX6_34 ?_
        refine r_callV hX dX6_food_71 (q := 74) rfl (c_X6_finds _ Γ _ _ 0 (by decide) (by decide +kernel)) kX6_36 mlX6_finds mvX6_finds rfl rfl rfl ⟨by decide, rfl⟩ ⟨by decide, by decide⟩ (Nat.le_of_ble_eq_true rfl) (kpI (fun v71 G71 p71 => ?_))
        refine r_iret hX hR dX6_food_74 ?_
        -- leaf 1 at 74
        refine ⟨_, rfl, ?_⟩
        first
          | (refine MOut.ok (if_pos ⟨h44, ?_⟩) (hM _ (by have := ye.2; omega)) (hM.u _ _) FrM.rf.up
             first
               | exact Or.inl ⟨h1.trans nI_0.symm, h49⟩
               | exact Or.inr ⟨h18, h30⟩)
          | (refine MOut.fin (k := 0) (if_neg (fun q => ?_)) ⟨p71.1.trans (by decide +kernel), p71.2⟩ hM FrM.rf
             first
               | exact h44 q.1
               | (rcases q.2 with ⟨q2, q3⟩ | ⟨q2, q3⟩
                  · first | exact h49 q3 | exact h1 (q2.trans nI_0)
                  · first | exact h30 q3 | exact h18 q2 | exact absurd (h1.symm.trans q2) (by decide +kernel)))
    ·
      have ye : y = nI (cl y) ∧ cl y = 1 := by rw [h18]; decide +kernel
      refine r_iload3 hX dX6_food_21 (q := 22) rfl ?_
      refine r_i2l hX dX6_food_22 (q := 23) rfl ?_
      refine r_lconst hX dX6_food_23 (q := 24) rfl (v := (nI 0).toInt64) (by decide +kernel) ?_
      refine r_ldc2 hX dX6_food_24 (q := 27) rfl qX6_40 ?_
      refine r_callS hX dX6_food_27 (q := 30) rfl (c_X6_in _ Γ _ _ _ _) kX6_42 mlX6_in msX6_in rfl rfl ⟨by decide, by decide⟩ (Nat.le_of_ble_eq_true rfl) (keB ?_)
      first | with_reducible refine r_ifd_eq hX dX6_food_30 (q := 33) rfl (tgt := 37) (by decide) (fun h30 => ?_) (fun h30 => ?_) | refine r_ifb_eq hX dX6_food_30 (q := 33) rfl (tgt := 37) (by decide) (fun h30 => ?_) (fun h30 => ?_)
      ·
        refine r_iconst hX dX6_food_37 (q := 38) rfl (v := nI 0) (by decide +kernel) ?_
        refine r_istore4 hX dX6_food_38 (q := 40) rfl rfl ?_
        refine r_iload1 hX dX6_food_40 (q := 41) rfl ?_
        refine r_callS hX dX6_food_41 (q := 44) rfl (c_X6_isFood _ Γ _ _) kX6_55 mlX6_isFood msX6_isFood rfl rfl ⟨by decide, by decide⟩ (Nat.le_of_ble_eq_true rfl) (keB ?_)
        first | with_reducible refine r_ifd_eq hX dX6_food_44 (q := 47) rfl (tgt := 68) (by decide) (fun h44 => ?_) (fun h44 => ?_) | refine r_ifb_eq hX dX6_food_44 (q := 47) rfl (tgt := 68) (by decide) (fun h44 => ?_) (fun h44 => ?_)
        ·
          refine r_aload0 hX dX6_food_68 (q := 69) rfl ?_
          refine r_ldc hX dX6_food_69 (q := 71) rfl qX6_34 ?_
          refine r_callV hX dX6_food_71 (q := 74) rfl (c_X6_finds _ Γ _ _ 0 (by decide) (by decide +kernel)) kX6_36 mlX6_finds mvX6_finds rfl rfl rfl ⟨by decide, rfl⟩ ⟨by decide, by decide⟩ (Nat.le_of_ble_eq_true rfl) (kpI (fun v71 G71 p71 => ?_))
          refine r_iret hX hR dX6_food_74 ?_
          -- leaf 2 at 74
          refine ⟨_, rfl, ?_⟩
          first
            | (refine MOut.ok (if_pos ⟨h44, ?_⟩) (hM _ (by have := ye.2; omega)) (hM.u _ _) FrM.rf.up
               first
                 | exact Or.inl ⟨h1.trans nI_0.symm, h49⟩
                 | exact Or.inr ⟨h18, h30⟩)
            | (refine MOut.fin (k := 0) (if_neg (fun q => ?_)) ⟨p71.1.trans (by decide +kernel), p71.2⟩ hM FrM.rf
               first
                 | exact h44 q.1
                 | (rcases q.2 with ⟨q2, q3⟩ | ⟨q2, q3⟩
                    · first | exact h49 q3 | exact h1 (q2.trans nI_0)
                    · first | exact h30 q3 | exact h18 q2 | exact absurd (h1.symm.trans q2) (by decide +kernel)))
        ·
          obtain ⟨xl, xe⟩ := ix_of (by decide) h44
          refine r_iload4 hX dX6_food_47 (q := 49) rfl ?_
          refine r_if_eq hX dX6_food_49 (q := 52) rfl (tgt := 68) (by decide) (fun _ => ?_) (fun h => absurd (by decide +kernel) h)
          refine r_aload0 hX dX6_food_68 (q := 69) rfl ?_
          refine r_ldc hX dX6_food_69 (q := 71) rfl qX6_34 ?_
          refine r_callV hX dX6_food_71 (q := 74) rfl (c_X6_finds _ Γ _ _ 0 (by decide) (by decide +kernel)) kX6_36 mlX6_finds mvX6_finds rfl rfl rfl ⟨by decide, rfl⟩ ⟨by decide, by decide⟩ (Nat.le_of_ble_eq_true rfl) (kpI (fun v71 G71 p71 => ?_))
          refine r_iret hX hR dX6_food_74 ?_
          -- leaf 3 at 74
          refine ⟨_, rfl, ?_⟩
          first
            | (refine MOut.ok (if_pos ⟨h44, ?_⟩) (hM _ (by have := ye.2; omega)) (hM.u _ _) FrM.rf.up
               first
                 | exact Or.inl ⟨h1.trans nI_0.symm, h49⟩
                 | exact Or.inr ⟨h18, h30⟩)
            | (refine MOut.fin (k := 0) (if_neg (fun q => ?_)) ⟨p71.1.trans (by decide +kernel), p71.2⟩ hM FrM.rf
               first
                 | exact h44 q.1
                 | (rcases q.2 with ⟨q2, q3⟩ | ⟨q2, q3⟩
                    · first | exact h49 q3 | exact h1 (q2.trans nI_0)
                    · first | exact h30 q3 | exact h18 q2 | exact absurd (h1.symm.trans q2) (by decide +kernel)))
      ·
        refine r_iconst hX dX6_food_33 (q := 34) rfl (v := nI 1) (by decide +kernel) ?_
        refine r_goto hX dX6_food_34 (tgt := 38) (by decide) ?_
        refine r_istore4 hX dX6_food_38 (q := 40) rfl rfl ?_
        refine r_iload1 hX dX6_food_40 (q := 41) rfl ?_
        refine r_callS hX dX6_food_41 (q := 44) rfl (c_X6_isFood _ Γ _ _) kX6_55 mlX6_isFood msX6_isFood rfl rfl ⟨by decide, by decide⟩ (Nat.le_of_ble_eq_true rfl) (keB ?_)
        first | with_reducible refine r_ifd_eq hX dX6_food_44 (q := 47) rfl (tgt := 68) (by decide) (fun h44 => ?_) (fun h44 => ?_) | refine r_ifb_eq hX dX6_food_44 (q := 47) rfl (tgt := 68) (by decide) (fun h44 => ?_) (fun h44 => ?_)
        ·
          refine r_aload0 hX dX6_food_68 (q := 69) rfl ?_
          refine r_ldc hX dX6_food_69 (q := 71) rfl qX6_34 ?_
          refine r_callV hX dX6_food_71 (q := 74) rfl (c_X6_finds _ Γ _ _ 0 (by decide) (by decide +kernel)) kX6_36 mlX6_finds mvX6_finds rfl rfl rfl ⟨by decide, rfl⟩ ⟨by decide, by decide⟩ (Nat.le_of_ble_eq_true rfl) (kpI (fun v71 G71 p71 => ?_))
          refine r_iret hX hR dX6_food_74 ?_
          -- leaf 4 at 74
          refine ⟨_, rfl, ?_⟩
          first
            | (refine MOut.ok (if_pos ⟨h44, ?_⟩) (hM _ (by have := ye.2; omega)) (hM.u _ _) FrM.rf.up
               first
                 | exact Or.inl ⟨h1.trans nI_0.symm, h49⟩
                 | exact Or.inr ⟨h18, h30⟩)
            | (refine MOut.fin (k := 0) (if_neg (fun q => ?_)) ⟨p71.1.trans (by decide +kernel), p71.2⟩ hM FrM.rf
               first
                 | exact h44 q.1
                 | (rcases q.2 with ⟨q2, q3⟩ | ⟨q2, q3⟩
                    · first | exact h49 q3 | exact h1 (q2.trans nI_0)
                    · first | exact h30 q3 | exact h18 q2 | exact absurd (h1.symm.trans q2) (by decide +kernel)))
        ·
          obtain ⟨xl, xe⟩ := ix_of (by decide) h44
          refine r_iload4 hX dX6_food_47 (q := 49) rfl ?_
          refine r_if_eq hX dX6_food_49 (q := 52) rfl (tgt := 68) (by decide) (fun h => absurd h (by decide +kernel)) (fun _ => ?_)
          refine r_aload0 hX dX6_food_52 (q := 53) rfl ?_
          refine r_bipush hX dX6_food_53 (q := 55) rfl (v := nI 10) (by decide +kernel) ?_
          refine r_iconst hX dX6_food_55 (q := 56) rfl (v := nI 3) (by decide +kernel) ?_
          refine r_iload1 hX dX6_food_56 (q := 57) rfl ?_
          refine r_imul hX dX6_food_57 (q := 58) rfl ?_
          refine r_iadd hX dX6_food_58 (q := 59) rfl ?_
          refine r_iload2 hX dX6_food_59 (q := 60) rfl ?_
          refine r_iadd hX dX6_food_60 (q := 61) rfl ?_
          refine r_iload3 hX dX6_food_61 (q := 62) rfl ?_
          refine r_callV hX dX6_food_62 (q := 65) rfl (c_X6_becomes _ Γ _ (10 + 3 * cl x + cl y) (by have := ye.2; omega) _ _ (e_add (e_add rfl (e_mul rfl xe)) ye.1)) kX6_59 mlX6_becomes mvX6_becomes rfl rfl rfl ⟨by decide, rfl⟩ ⟨by decide, by decide⟩ (Nat.le_of_ble_eq_true rfl) (keI ?_)
          refine r_goto hX dX6_food_65 (tgt := 74) (by decide) ?_
          refine r_iret hX hR dX6_food_74 ?_
          -- leaf 5 at 74
          refine ⟨_, rfl, ?_⟩
          first
            | (refine MOut.ok (if_pos ⟨h44, ?_⟩) (hM _ (by have := ye.2; omega)) (hM.u _ _) FrM.rf.up
               first
                 | exact Or.inl ⟨h1.trans nI_0.symm, h49⟩
                 | exact Or.inr ⟨h18, h30⟩)
            | (refine MOut.fin (k := 0) (if_neg (fun q => ?_)) ⟨p71.1.trans (by decide +kernel), p71.2⟩ hM FrM.rf
               first
                 | exact h44 q.1
                 | (rcases q.2 with ⟨q2, q3⟩ | ⟨q2, q3⟩
                    · first | exact h49 q3 | exact h1 (q2.trans nI_0)
                    · first | exact h30 q3 | exact h18 q2 | exact absurd (h1.symm.trans q2) (by decide +kernel)))
  ·
    have ye : y = nI (cl y) ∧ cl y = 0 := by rw [h1]; decide +kernel
    refine r_iload3 hX dX6_food_4 (q := 5) rfl ?_
    refine r_i2l hX dX6_food_5 (q := 6) rfl ?_
    refine r_lconst hX dX6_food_6 (q := 7) rfl (v := (nI 0).toInt64) (by decide +kernel) ?_
    refine r_ldc2 hX dX6_food_7 (q := 10) rfl qX6_53 ?_
    refine r_callS hX dX6_food_10 (q := 13) rfl (c_X6_in _ Γ _ _ _ _) kX6_42 mlX6_in msX6_in rfl rfl ⟨by decide, by decide⟩ (Nat.le_of_ble_eq_true rfl) (keB ?_)
    refine r_goto hX dX6_food_13 (tgt := 38) (by decide) ?_
    refine r_istore4 hX dX6_food_38 (q := 40) rfl rfl ?_
    refine r_iload1 hX dX6_food_40 (q := 41) rfl ?_
    refine r_callS hX dX6_food_41 (q := 44) rfl (c_X6_isFood _ Γ _ _) kX6_55 mlX6_isFood msX6_isFood rfl rfl ⟨by decide, by decide⟩ (Nat.le_of_ble_eq_true rfl) (keB ?_)
    first | with_reducible refine r_ifd_eq hX dX6_food_44 (q := 47) rfl (tgt := 68) (by decide) (fun h44 => ?_) (fun h44 => ?_) | refine r_ifb_eq hX dX6_food_44 (q := 47) rfl (tgt := 68) (by decide) (fun h44 => ?_) (fun h44 => ?_)
    ·
      refine r_aload0 hX dX6_food_68 (q := 69) rfl ?_
      refine r_ldc hX dX6_food_69 (q := 71) rfl qX6_34 ?_
      refine r_callV hX dX6_food_71 (q := 74) rfl (c_X6_finds _ Γ _ _ 0 (by decide) (by decide +kernel)) kX6_36 mlX6_finds mvX6_finds rfl rfl rfl ⟨by decide, rfl⟩ ⟨by decide, by decide⟩ (Nat.le_of_ble_eq_true rfl) (kpI (fun v71 G71 p71 => ?_))
      refine r_iret hX hR dX6_food_74 ?_
      -- leaf 6 at 74
      refine ⟨_, rfl, ?_⟩
      first
        | (refine MOut.ok (if_pos ⟨h44, ?_⟩) (hM _ (by have := ye.2; omega)) (hM.u _ _) FrM.rf.up
           first
             | exact Or.inl ⟨h1.trans nI_0.symm, h49⟩
             | exact Or.inr ⟨h18, h30⟩)
        | (refine MOut.fin (k := 0) (if_neg (fun q => ?_)) ⟨p71.1.trans (by decide +kernel), p71.2⟩ hM FrM.rf
           first
             | exact h44 q.1
             | (rcases q.2 with ⟨q2, q3⟩ | ⟨q2, q3⟩
                · first | exact h49 q3 | exact h1 (q2.trans nI_0)
                · first | exact h30 q3 | exact h18 q2 | exact absurd (h1.symm.trans q2) (by decide +kernel)))
    ·
      obtain ⟨xl, xe⟩ := ix_of (by decide) h44
      refine r_iload4 hX dX6_food_47 (q := 49) rfl ?_
      first | with_reducible refine r_ifd_eq hX dX6_food_49 (q := 52) rfl (tgt := 68) (by decide) (fun h49 => ?_) (fun h49 => ?_) | refine r_ifb_eq hX dX6_food_49 (q := 52) rfl (tgt := 68) (by decide) (fun h49 => ?_) (fun h49 => ?_)
      ·
        refine r_aload0 hX dX6_food_68 (q := 69) rfl ?_
        refine r_ldc hX dX6_food_69 (q := 71) rfl qX6_34 ?_
        refine r_callV hX dX6_food_71 (q := 74) rfl (c_X6_finds _ Γ _ _ 0 (by decide) (by decide +kernel)) kX6_36 mlX6_finds mvX6_finds rfl rfl rfl ⟨by decide, rfl⟩ ⟨by decide, by decide⟩ (Nat.le_of_ble_eq_true rfl) (kpI (fun v71 G71 p71 => ?_))
        refine r_iret hX hR dX6_food_74 ?_
        -- leaf 7 at 74
        refine ⟨_, rfl, ?_⟩
        first
          | (refine MOut.ok (if_pos ⟨h44, ?_⟩) (hM _ (by have := ye.2; omega)) (hM.u _ _) FrM.rf.up
             first
               | exact Or.inl ⟨h1.trans nI_0.symm, h49⟩
               | exact Or.inr ⟨h18, h30⟩)
          | (refine MOut.fin (k := 0) (if_neg (fun q => ?_)) ⟨p71.1.trans (by decide +kernel), p71.2⟩ hM FrM.rf
             first
               | exact h44 q.1
               | (rcases q.2 with ⟨q2, q3⟩ | ⟨q2, q3⟩
                  · first | exact h49 q3 | exact h1 (q2.trans nI_0)
                  · first | exact h30 q3 | exact h18 q2 | exact absurd (h1.symm.trans q2) (by decide +kernel)))
      ·
        refine r_aload0 hX dX6_food_52 (q := 53) rfl ?_
        refine r_bipush hX dX6_food_53 (q := 55) rfl (v := nI 10) (by decide +kernel) ?_
        refine r_iconst hX dX6_food_55 (q := 56) rfl (v := nI 3) (by decide +kernel) ?_
        refine r_iload1 hX dX6_food_56 (q := 57) rfl ?_
        refine r_imul hX dX6_food_57 (q := 58) rfl ?_
        refine r_iadd hX dX6_food_58 (q := 59) rfl ?_
        refine r_iload2 hX dX6_food_59 (q := 60) rfl ?_
        refine r_iadd hX dX6_food_60 (q := 61) rfl ?_
        refine r_iload3 hX dX6_food_61 (q := 62) rfl ?_
        refine r_callV hX dX6_food_62 (q := 65) rfl (c_X6_becomes _ Γ _ (10 + 3 * cl x + cl y) (by have := ye.2; omega) _ _ (e_add (e_add rfl (e_mul rfl xe)) ye.1)) kX6_59 mlX6_becomes mvX6_becomes rfl rfl rfl ⟨by decide, rfl⟩ ⟨by decide, by decide⟩ (Nat.le_of_ble_eq_true rfl) (keI ?_)
        refine r_goto hX dX6_food_65 (tgt := 74) (by decide) ?_
        refine r_iret hX hR dX6_food_74 ?_
        -- leaf 8 at 74
        refine ⟨_, rfl, ?_⟩
        first
          | (refine MOut.ok (if_pos ⟨h44, ?_⟩) (hM _ (by have := ye.2; omega)) (hM.u _ _) FrM.rf.up
             first
               | exact Or.inl ⟨h1.trans nI_0.symm, h49⟩
               | exact Or.inr ⟨h18, h30⟩)
          | (refine MOut.fin (k := 0) (if_neg (fun q => ?_)) ⟨p71.1.trans (by decide +kernel), p71.2⟩ hM FrM.rf
             first
               | exact h44 q.1
               | (rcases q.2 with ⟨q2, q3⟩ | ⟨q2, q3⟩
                  · first | exact h49 q3 | exact h1 (q2.trans nI_0)
                  · first | exact h30 q3 | exact h18 q2 | exact absurd (h1.symm.trans q2) (by decide +kernel)))

set_option maxRecDepth 100000 in
set_option maxHeartbeats 4000000 in
theorem c_X6_foodOf (l : Launch) (Γ : Gam) (G : GG) (μ : MU) (hM : MR G μ) (x y : Int32) : Sp l yX6_foodOf cX6_foodOf 3 (some .int) 2 45 [.ref (gad Γ 47), .int x, .int y] Γ G (pI (fun v G' => MOut G μ (oFoodOf μ x y) v G')) := by
  refine Sp_of (own := RX6) rfl (by decide +kernel) rfl (Nat.le_of_ble_eq_true rfl) (fun X hX hR => ?_)
  show WP X Γ 0 [some (.ref (gad Γ 47)), some (.int x), some (.int y)] [] G
  refine r_iload1 hX dX6_foodOf_0 (q := 1) rfl ?_
  refine r_callS hX dX6_foodOf_1 (q := 4) rfl (c_X6_isFood _ Γ _ _) kX6_55 mlX6_isFood msX6_isFood rfl rfl ⟨by decide, by decide⟩ (Nat.le_of_ble_eq_true rfl) (keB ?_)
  first | with_reducible refine r_ifd_eq hX dX6_foodOf_4 (q := 7) rfl (tgt := 19) (by decide) (fun h4 => ?_) (fun h4 => ?_) | refine r_ifb_eq hX dX6_foodOf_4 (q := 7) rfl (tgt := 19) (by decide) (fun h4 => ?_) (fun h4 => ?_)
  ·
    refine r_aload0 hX dX6_foodOf_19 (q := 20) rfl ?_
    refine r_ldc hX dX6_foodOf_20 (q := 22) rfl qX6_34 ?_
    refine r_callV hX dX6_foodOf_22 (q := 25) rfl (c_X6_finds _ Γ _ _ 0 (by decide) (by decide +kernel)) kX6_36 mlX6_finds mvX6_finds rfl rfl rfl ⟨by decide, rfl⟩ ⟨by decide, by decide⟩ (Nat.le_of_ble_eq_true rfl) (kpI (fun v22 G22 p22 => ?_))
    refine r_iret hX hR dX6_foodOf_25 ?_
    -- leaf 0 at 25
    refine ⟨_, rfl, ?_⟩
    refine MOut.fin (k := 0) (if_neg (fun q => ?_)) ⟨p22.1.trans (by decide +kernel), p22.2⟩ hM FrM.rf
    first | exact h4 q.1 | exact h16 q.2
  ·
    obtain ⟨xl, xe⟩ := ix_of (by decide) h4
    refine r_iload2 hX dX6_foodOf_7 (q := 8) rfl ?_
    refine r_i2l hX dX6_foodOf_8 (q := 9) rfl ?_
    refine r_lconst hX dX6_foodOf_9 (q := 10) rfl (v := (nI 0).toInt64) (by decide +kernel) ?_
    refine r_ldc2 hX dX6_foodOf_10 (q := 13) rfl qX6_63 ?_
    refine r_callS hX dX6_foodOf_13 (q := 16) rfl (c_X6_in _ Γ _ _ _ _) kX6_42 mlX6_in msX6_in rfl rfl ⟨by decide, by decide⟩ (Nat.le_of_ble_eq_true rfl) (keB ?_)
    first | with_reducible refine r_ifd_ne hX dX6_foodOf_16 (q := 19) rfl (tgt := 26) (by decide) (fun h16 => ?_) (fun h16 => ?_) | refine r_ifb_ne hX dX6_foodOf_16 (q := 19) rfl (tgt := 26) (by decide) (fun h16 => ?_) (fun h16 => ?_)
    ·
      obtain ⟨yl, ye⟩ := ix_of (by decide) h16
      refine r_iload2 hX dX6_foodOf_26 (q := 27) rfl ?_
      refine r_iconst hX dX6_foodOf_27 (q := 28) rfl (v := nI 3) (by decide +kernel) ?_
      skip
      first | refine r_icmpN_ge hX dX6_foodOf_28 (q := 31) rfl (tgt := 47) (by decide) (by first | omega | decide) (by first | omega | decide) (fun h28 => ?_) (fun h28 => ?_) | refine r_icmp_ge hX dX6_foodOf_28 (q := 31) rfl (tgt := 47) (by decide) (fun h28 => ?_) (fun h28 => ?_)
      ·
        refine r_aload0 hX dX6_foodOf_47 (q := 48) rfl ?_
        refine r_iload1 hX dX6_foodOf_48 (q := 49) rfl ?_
        refine r_callV hX dX6_foodOf_49 (q := 52) rfl (c_X6_isLiked _ Γ _ μ hM _ (cl x) xe (by omega)) kX6_65 mlX6_isLiked mvX6_isLiked rfl rfl rfl ⟨by decide, rfl⟩ ⟨by decide, by decide⟩ (Nat.le_of_ble_eq_true rfl) (keB ?_)
        first | with_reducible refine r_ifd_eq hX dX6_foodOf_52 (q := 55) rfl (tgt := 59) (by decide) (fun h52 => ?_) (fun h52 => ?_) | refine r_ifb_eq hX dX6_foodOf_52 (q := 55) rfl (tgt := 59) (by decide) (fun h52 => ?_) (fun h52 => ?_)
        ·
          refine r_iconst hX dX6_foodOf_59 (q := 60) rfl (v := nI 0) (by decide +kernel) ?_
          refine r_iret hX hR dX6_foodOf_60 ?_
          -- leaf 1 at 60
          refine ⟨_, rfl, ?_⟩
          have hq : oFoodOf μ x y = if y = nI 3 then .inr (bi (lkB μ (cl x)), μ) else .inr (μ (10 + 3 * cl x + cl y), μ) := if_pos ⟨h4, h16⟩
          first
            | (refine MOut.ok (hq.trans (if_pos (Int32.le_antisymm h16.2 h28))) ?_ hM FrM.rf
               rw [h52]; rfl)
            | (refine MOut.ok (hq.trans (if_neg (fun q => h28 (by rw [q]; exact Int32.le_refl _)))) (hM _ ?_) hM FrM.rf
               omega)
            | (refine MOut.ok (hq.trans (if_neg (fun q => absurd h28 (by rw [q]; exact Int32.lt_irrefl)))) (hM _ ?_) hM FrM.rf
               omega)
        ·
          refine r_iconst hX dX6_foodOf_55 (q := 56) rfl (v := nI 1) (by decide +kernel) ?_
          refine r_goto hX dX6_foodOf_56 (tgt := 60) (by decide) ?_
          refine r_iret hX hR dX6_foodOf_60 ?_
          -- leaf 2 at 60
          refine ⟨_, rfl, ?_⟩
          have hq : oFoodOf μ x y = if y = nI 3 then .inr (bi (lkB μ (cl x)), μ) else .inr (μ (10 + 3 * cl x + cl y), μ) := if_pos ⟨h4, h16⟩
          first
            | (refine MOut.ok (hq.trans (if_pos (Int32.le_antisymm h16.2 h28))) ?_ hM FrM.rf
               rw [h52]; rfl)
            | (refine MOut.ok (hq.trans (if_neg (fun q => h28 (by rw [q]; exact Int32.le_refl _)))) (hM _ ?_) hM FrM.rf
               omega)
            | (refine MOut.ok (hq.trans (if_neg (fun q => absurd h28 (by rw [q]; exact Int32.lt_irrefl)))) (hM _ ?_) hM FrM.rf
               omega)
      ·
        refine r_aload0 hX dX6_foodOf_31 (q := 32) rfl ?_
        refine r_getR hX dX6_foodOf_32 (q := 35) rfl fX6_9 rfl ⟨by decide, by decide, rfl⟩ ?_
        refine r_bipush hX dX6_foodOf_35 (q := 37) rfl (v := nI 10) (by decide +kernel) ?_
        refine r_iconst hX dX6_foodOf_37 (q := 38) rfl (v := nI 3) (by decide +kernel) ?_
        refine r_iload1 hX dX6_foodOf_38 (q := 39) rfl ?_
        refine r_imul hX dX6_foodOf_39 (q := 40) rfl ?_
        refine r_iadd hX dX6_foodOf_40 (q := 41) rfl ?_
        refine r_iload2 hX dX6_foodOf_41 (q := 42) rfl ?_
        refine r_iadd hX dX6_foodOf_42 (q := 43) rfl ?_
        refine r_ialdN hX dX6_foodOf_43 (q := 44) rfl rfl (e_add (e_add rfl (e_mul rfl xe)) ye) (by omega) (by first | decide | omega) ?_
        refine r_goto hX dX6_foodOf_44 (tgt := 60) (by decide) ?_
        refine r_iret hX hR dX6_foodOf_60 ?_
        -- leaf 3 at 60
        refine ⟨_, rfl, ?_⟩
        have hq : oFoodOf μ x y = if y = nI 3 then .inr (bi (lkB μ (cl x)), μ) else .inr (μ (10 + 3 * cl x + cl y), μ) := if_pos ⟨h4, h16⟩
        first
          | (refine MOut.ok (hq.trans (if_pos (Int32.le_antisymm h16.2 h28))) ?_ hM FrM.rf
             rw [h52]; rfl)
          | (refine MOut.ok (hq.trans (if_neg (fun q => h28 (by rw [q]; exact Int32.le_refl _)))) (hM _ ?_) hM FrM.rf
             omega)
          | (refine MOut.ok (hq.trans (if_neg (fun q => absurd h28 (by rw [q]; exact Int32.lt_irrefl)))) (hM _ ?_) hM FrM.rf
             omega)
    ·
      refine r_aload0 hX dX6_foodOf_19 (q := 20) rfl ?_
      refine r_ldc hX dX6_foodOf_20 (q := 22) rfl qX6_34 ?_
      refine r_callV hX dX6_foodOf_22 (q := 25) rfl (c_X6_finds _ Γ _ _ 0 (by decide) (by decide +kernel)) kX6_36 mlX6_finds mvX6_finds rfl rfl rfl ⟨by decide, rfl⟩ ⟨by decide, by decide⟩ (Nat.le_of_ble_eq_true rfl) (kpI (fun v22 G22 p22 => ?_))
      refine r_iret hX hR dX6_foodOf_25 ?_
      -- leaf 4 at 25
      refine ⟨_, rfl, ?_⟩
      refine MOut.fin (k := 0) (if_neg (fun q => ?_)) ⟨p22.1.trans (by decide +kernel), p22.2⟩ hM FrM.rf
      first | exact h4 q.1 | exact h16 q.2

set_option maxRecDepth 100000 in
set_option maxHeartbeats 4000000 in
theorem c_X6_pudding (l : Launch) (Γ : Gam) (G : GG) (μ : MU) (hM : MR G μ) (x : Int32) : Sp l yX6_pudding cX6_pudding 2 (some .int) 2 45 [.ref (gad Γ 47), .int x] Γ G (pI (fun v G' => MOut G μ (oPud μ x) v G')) := by
  refine Sp_of (own := RX6) rfl (by decide +kernel) rfl (Nat.le_of_ble_eq_true rfl) (fun X hX hR => ?_)
  show WP X Γ 0 [some (.ref (gad Γ 47)), some (.int x)] [] G
  refine r_iload1 hX dX6_pudding_0 (q := 1) rfl ?_
  refine r_iconst hX dX6_pudding_1 (q := 2) rfl (v := (-1)) (by decide +kernel) ?_
  first | refine r_icmpN_eq hX dX6_pudding_2 (q := 5) rfl (tgt := 12) (by decide) (by first | omega | decide) (by first | omega | decide) (fun h2 => ?_) (fun h2 => ?_) | refine r_icmp_eq hX dX6_pudding_2 (q := 5) rfl (tgt := 12) (by decide) (fun h2 => ?_) (fun h2 => ?_)
  ·
    refine r_aload0 hX dX6_pudding_12 (q := 13) rfl ?_
    refine r_bipush hX dX6_pudding_13 (q := 15) rfl (v := nI 6) (by decide +kernel) ?_
    refine r_iload1 hX dX6_pudding_15 (q := 16) rfl ?_
    refine r_callV hX dX6_pudding_16 (q := 19) rfl (c_X6_becomes _ Γ _ 6 (by decide) _ _ rfl) kX6_59 mlX6_becomes mvX6_becomes rfl rfl rfl ⟨by decide, rfl⟩ ⟨by decide, by decide⟩ (Nat.le_of_ble_eq_true rfl) (keI ?_)
    refine r_goto hX dX6_pudding_19 (tgt := 28) (by decide) ?_
    refine r_iret hX hR dX6_pudding_28 ?_
    -- leaf 0 at 28
    refine ⟨_, rfl, ?_⟩
    first
      | exact MOut.ok (if_pos (Or.inl h2)) (hM 6 (by decide)) (hM.u _ _) FrM.rf.up
      | exact MOut.ok (if_pos (Or.inr h9)) (hM 6 (by decide)) (hM.u _ _) FrM.rf.up
      | exact MOut.fin (k := 0) (if_neg (fun q => q.elim h2 h9)) ⟨p25.1.trans (by decide +kernel), p25.2⟩ hM FrM.rf
  ·
    refine r_iload1 hX dX6_pudding_5 (q := 6) rfl ?_
    refine r_callS hX dX6_pudding_6 (q := 9) rfl (c_X6_isFood _ Γ _ _) kX6_55 mlX6_isFood msX6_isFood rfl rfl ⟨by decide, by decide⟩ (Nat.le_of_ble_eq_true rfl) (keB ?_)
    first | with_reducible refine r_ifd_eq hX dX6_pudding_9 (q := 12) rfl (tgt := 22) (by decide) (fun h9 => ?_) (fun h9 => ?_) | refine r_ifb_eq hX dX6_pudding_9 (q := 12) rfl (tgt := 22) (by decide) (fun h9 => ?_) (fun h9 => ?_)
    ·
      refine r_aload0 hX dX6_pudding_22 (q := 23) rfl ?_
      refine r_ldc hX dX6_pudding_23 (q := 25) rfl qX6_34 ?_
      refine r_callV hX dX6_pudding_25 (q := 28) rfl (c_X6_finds _ Γ _ _ 0 (by decide) (by decide +kernel)) kX6_36 mlX6_finds mvX6_finds rfl rfl rfl ⟨by decide, rfl⟩ ⟨by decide, by decide⟩ (Nat.le_of_ble_eq_true rfl) (kpI (fun v25 G25 p25 => ?_))
      refine r_iret hX hR dX6_pudding_28 ?_
      -- leaf 1 at 28
      refine ⟨_, rfl, ?_⟩
      first
        | exact MOut.ok (if_pos (Or.inl h2)) (hM 6 (by decide)) (hM.u _ _) FrM.rf.up
        | exact MOut.ok (if_pos (Or.inr h9)) (hM 6 (by decide)) (hM.u _ _) FrM.rf.up
        | exact MOut.fin (k := 0) (if_neg (fun q => q.elim h2 h9)) ⟨p25.1.trans (by decide +kernel), p25.2⟩ hM FrM.rf
    ·
      refine r_aload0 hX dX6_pudding_12 (q := 13) rfl ?_
      refine r_bipush hX dX6_pudding_13 (q := 15) rfl (v := nI 6) (by decide +kernel) ?_
      refine r_iload1 hX dX6_pudding_15 (q := 16) rfl ?_
      refine r_callV hX dX6_pudding_16 (q := 19) rfl (c_X6_becomes _ Γ _ 6 (by decide) _ _ rfl) kX6_59 mlX6_becomes mvX6_becomes rfl rfl rfl ⟨by decide, rfl⟩ ⟨by decide, by decide⟩ (Nat.le_of_ble_eq_true rfl) (keI ?_)
      refine r_goto hX dX6_pudding_19 (tgt := 28) (by decide) ?_
      refine r_iret hX hR dX6_pudding_28 ?_
      -- leaf 2 at 28
      refine ⟨_, rfl, ?_⟩
      first
        | exact MOut.ok (if_pos (Or.inl h2)) (hM 6 (by decide)) (hM.u _ _) FrM.rf.up
        | exact MOut.ok (if_pos (Or.inr h9)) (hM 6 (by decide)) (hM.u _ _) FrM.rf.up
        | exact MOut.fin (k := 0) (if_neg (fun q => q.elim h2 h9)) ⟨p25.1.trans (by decide +kernel), p25.2⟩ hM FrM.rf

set_option maxRecDepth 100000 in
set_option maxHeartbeats 4000000 in
theorem c_X6_friend (l : Launch) (Γ : Gam) (G : GG) (μ : MU) (hM : MR G μ) (x : Int32) : Sp l yX6_friend cX6_friend 2 (some .int) 1 25 [.ref (gad Γ 47), .int x] Γ G (pI (fun v G' => MOut G μ (oFri μ x) v G')) := by
  refine Sp_of (own := RX6) rfl (by decide +kernel) rfl (Nat.le_of_ble_eq_true rfl) (fun X hX hR => ?_)
  show WP X Γ 0 [some (.ref (gad Γ 47)), some (.int x)] [] G
  refine r_iload1 hX dX6_friend_0 (q := 1) rfl ?_
  refine r_i2l hX dX6_friend_1 (q := 2) rfl ?_
  refine r_lconst hX dX6_friend_2 (q := 3) rfl (v := (nI 0).toInt64) (by decide +kernel) ?_
  refine r_ldc2 hX dX6_friend_3 (q := 6) rfl qX6_74 ?_
  refine r_callS hX dX6_friend_6 (q := 9) rfl (c_X6_in _ Γ _ _ _ _) kX6_42 mlX6_in msX6_in rfl rfl ⟨by decide, by decide⟩ (Nat.le_of_ble_eq_true rfl) (keB ?_)
  first | with_reducible refine r_ifd_eq hX dX6_friend_9 (q := 12) rfl (tgt := 22) (by decide) (fun h9 => ?_) (fun h9 => ?_) | refine r_ifb_eq hX dX6_friend_9 (q := 12) rfl (tgt := 22) (by decide) (fun h9 => ?_) (fun h9 => ?_)
  ·
    refine r_aload0 hX dX6_friend_22 (q := 23) rfl ?_
    refine r_ldc hX dX6_friend_23 (q := 25) rfl qX6_34 ?_
    refine r_callV hX dX6_friend_25 (q := 28) rfl (c_X6_finds _ Γ _ _ 0 (by decide) (by decide +kernel)) kX6_36 mlX6_finds mvX6_finds rfl rfl rfl ⟨by decide, rfl⟩ ⟨by decide, by decide⟩ (Nat.le_of_ble_eq_true rfl) (kpI (fun v25 G25 p25 => ?_))
    refine r_iret hX hR dX6_friend_28 ?_
    -- leaf 0 at 28
    refine ⟨_, rfl, ?_⟩
    first
      | exact MOut.ok (if_pos h9) (hM 7 (by decide)) (hM.u _ _) FrM.rf.up
      | exact MOut.fin (k := 0) (if_neg h9) ⟨p25.1.trans (by decide +kernel), p25.2⟩ hM FrM.rf
  ·
    refine r_aload0 hX dX6_friend_12 (q := 13) rfl ?_
    refine r_bipush hX dX6_friend_13 (q := 15) rfl (v := nI 7) (by decide +kernel) ?_
    refine r_iload1 hX dX6_friend_15 (q := 16) rfl ?_
    refine r_callV hX dX6_friend_16 (q := 19) rfl (c_X6_becomes _ Γ _ 7 (by decide) _ _ rfl) kX6_59 mlX6_becomes mvX6_becomes rfl rfl rfl ⟨by decide, rfl⟩ ⟨by decide, by decide⟩ (Nat.le_of_ble_eq_true rfl) (keI ?_)
    refine r_goto hX dX6_friend_19 (tgt := 28) (by decide) ?_
    refine r_iret hX hR dX6_friend_28 ?_
    -- leaf 1 at 28
    refine ⟨_, rfl, ?_⟩
    first
      | exact MOut.ok (if_pos h9) (hM 7 (by decide)) (hM.u _ _) FrM.rf.up
      | exact MOut.fin (k := 0) (if_neg h9) ⟨p25.1.trans (by decide +kernel), p25.2⟩ hM FrM.rf

set_option maxRecDepth 100000 in
set_option maxHeartbeats 4000000 in
theorem c_X6_liked (l : Launch) (Γ : Gam) (G : GG) (μ : MU) (hM : MR G μ) : Sp l yX6_liked cX6_liked 3 (some .int) 2 42 [.ref (gad Γ 47)] Γ G (eI G (lsF μ 10)) := by
  refine Sp_of (own := RX6) rfl (by decide +kernel) rfl (Nat.le_of_ble_eq_true rfl) (fun X hX hR => ?_)
  show WP X Γ 0 [some (.ref (gad Γ 47)), none, none] [] G
  refine r_iconst hX dX6_liked_0 (q := 1) rfl (v := nI 0) (by decide +kernel) ?_
  refine r_istore1 hX dX6_liked_1 (q := 2) rfl rfl ?_
  refine r_iconst hX dX6_liked_2 (q := 3) rfl (v := nI 0) (by decide +kernel) ?_
  refine r_istore2 hX dX6_liked_3 (q := 4) rfl rfl ?_
  have L4 : ∀ (zn4 : Nat) (k : Nat) (e : Int32), zn4 = 10 - k → (k ≤ 10) → (e = lsF μ k) → WP X Γ 4 [some (.ref (gad Γ 47)), some (.int e), some (.int (nI k))] [] G := by
    intro zn4
    induction zn4 using Nat.strongRecOn with
    | _ zn4 ih4 =>
      intro k e zh4 hk he
      refine r_iload2 hX dX6_liked_4 (q := 5) rfl ?_
      refine r_bipush hX dX6_liked_5 (q := 7) rfl (v := nI 10) (by decide +kernel) ?_
      refine r_icmpN_ge hX dX6_liked_7 (q := 10) rfl (tgt := 34) (by decide) (by first | omega | decide) (by first | omega | decide) (fun h7 => ?_) (fun h7 => ?_)
      ·
        refine r_iload1 hX dX6_liked_34 (q := 35) rfl ?_
        refine r_iret hX hR dX6_liked_35 ?_
        -- leaf 0 at 35
        refine ⟨congrArg (fun z => some (Value.int z)) ?_, ?_⟩
        ·
          have : k = 10 := by omega
          rw [he, this]
        · rfl
      ·
        refine r_iload1 hX dX6_liked_10 (q := 11) rfl ?_
        refine r_aload0 hX dX6_liked_11 (q := 12) rfl ?_
        refine r_iload2 hX dX6_liked_12 (q := 13) rfl ?_
        refine r_callV hX dX6_liked_13 (q := 16) rfl (c_X6_isLiked _ Γ _ μ hM _ k rfl (by omega)) kX6_65 mlX6_isLiked mvX6_isLiked rfl rfl rfl ⟨by decide, rfl⟩ ⟨by decide, by decide⟩ (Nat.le_of_ble_eq_true rfl) (keB ?_)
        first | with_reducible refine r_ifd_eq hX dX6_liked_16 (q := 19) rfl (tgt := 25) (by decide) (fun h16 => ?_) (fun h16 => ?_) | refine r_ifb_eq hX dX6_liked_16 (q := 19) rfl (tgt := 25) (by decide) (fun h16 => ?_) (fun h16 => ?_)
        ·
          refine r_iconst hX dX6_liked_25 (q := 26) rfl (v := nI 0) (by decide +kernel) ?_
          refine r_ior hX dX6_liked_26 (q := 27) rfl ?_
          refine r_istore1 hX dX6_liked_27 (q := 28) rfl rfl ?_
          refine r_iincN2 hX dX6_liked_28 (q := 31) rfl rfl ?_
          refine r_goto hX dX6_liked_31 (tgt := 4) (by decide) ?_
          refine ih4 _ ?_ (k + 1) _ rfl ?_ ?_
          ·
            omega
          ·
            omega
          ·
            rw [he]; first | exact (if_pos h16).symm | (rw [nI_0, Int32.or_zero]; exact (if_neg (by rw [h16]; decide)).symm) | (refine Eq.trans ?_ (if_neg (by rw [h16]; decide)).symm; exact or_0 _)
        ·
          refine r_iconst hX dX6_liked_19 (q := 20) rfl (v := nI 1) (by decide +kernel) ?_
          refine r_iload2 hX dX6_liked_20 (q := 21) rfl ?_
          refine r_ishl hX dX6_liked_21 (q := 22) rfl ?_
          refine r_goto hX dX6_liked_22 (tgt := 26) (by decide) ?_
          refine r_ior hX dX6_liked_26 (q := 27) rfl ?_
          refine r_istore1 hX dX6_liked_27 (q := 28) rfl rfl ?_
          refine r_iincN2 hX dX6_liked_28 (q := 31) rfl rfl ?_
          refine r_goto hX dX6_liked_31 (tgt := 4) (by decide) ?_
          refine ih4 _ ?_ (k + 1) _ rfl ?_ ?_
          ·
            omega
          ·
            omega
          ·
            rw [he]; first | exact (if_pos h16).symm | (rw [nI_0, Int32.or_zero]; exact (if_neg (by rw [h16]; decide)).symm) | (refine Eq.trans ?_ (if_neg (by rw [h16]; decide)).symm; exact or_0 _)
  refine L4 _ 0 _ rfl ?_ ?_
  ·
    exact Nat.zero_le _
  ·
    rfl

set_option maxRecDepth 100000 in
set_option maxHeartbeats 4000000 in
theorem c_X6_manyLiked (l : Launch) (Γ : Gam) (G : GG) (μ : MU) (hM : MR G μ) : Sp l yX6_manyLiked cX6_manyLiked 3 (some .int) 2 42 [.ref (gad Γ 47)] Γ G (eI G (mnF μ 10)) := by
  refine Sp_of (own := RX6) rfl (by decide +kernel) rfl (Nat.le_of_ble_eq_true rfl) (fun X hX hR => ?_)
  show WP X Γ 0 [some (.ref (gad Γ 47)), none, none] [] G
  refine r_iconst hX dX6_manyLiked_0 (q := 1) rfl (v := nI 0) (by decide +kernel) ?_
  refine r_istore1 hX dX6_manyLiked_1 (q := 2) rfl rfl ?_
  refine r_iconst hX dX6_manyLiked_2 (q := 3) rfl (v := nI 0) (by decide +kernel) ?_
  refine r_istore2 hX dX6_manyLiked_3 (q := 4) rfl rfl ?_
  have L4 : ∀ (zn4 : Nat) (k : Nat) (e : Int32), zn4 = 10 - k → (k ≤ 10) → (e = mnF μ k) → WP X Γ 4 [some (.ref (gad Γ 47)), some (.int e), some (.int (nI k))] [] G := by
    intro zn4
    induction zn4 using Nat.strongRecOn with
    | _ zn4 ih4 =>
      intro k e zh4 hk he
      refine r_iload2 hX dX6_manyLiked_4 (q := 5) rfl ?_
      refine r_bipush hX dX6_manyLiked_5 (q := 7) rfl (v := nI 10) (by decide +kernel) ?_
      refine r_icmpN_ge hX dX6_manyLiked_7 (q := 10) rfl (tgt := 32) (by decide) (by first | omega | decide) (by first | omega | decide) (fun h7 => ?_) (fun h7 => ?_)
      ·
        refine r_iload1 hX dX6_manyLiked_32 (q := 33) rfl ?_
        refine r_iret hX hR dX6_manyLiked_33 ?_
        -- leaf 0 at 33
        refine ⟨congrArg (fun z => some (Value.int z)) ?_, ?_⟩
        ·
          have : k = 10 := by omega
          rw [he, this]
        · rfl
      ·
        refine r_iload1 hX dX6_manyLiked_10 (q := 11) rfl ?_
        refine r_aload0 hX dX6_manyLiked_11 (q := 12) rfl ?_
        refine r_iload2 hX dX6_manyLiked_12 (q := 13) rfl ?_
        refine r_callV hX dX6_manyLiked_13 (q := 16) rfl (c_X6_isLiked _ Γ _ μ hM _ k rfl (by omega)) kX6_65 mlX6_isLiked mvX6_isLiked rfl rfl rfl ⟨by decide, rfl⟩ ⟨by decide, by decide⟩ (Nat.le_of_ble_eq_true rfl) (keB ?_)
        first | with_reducible refine r_ifd_eq hX dX6_manyLiked_16 (q := 19) rfl (tgt := 23) (by decide) (fun h16 => ?_) (fun h16 => ?_) | refine r_ifb_eq hX dX6_manyLiked_16 (q := 19) rfl (tgt := 23) (by decide) (fun h16 => ?_) (fun h16 => ?_)
        ·
          refine r_iconst hX dX6_manyLiked_23 (q := 24) rfl (v := nI 0) (by decide +kernel) ?_
          refine r_iadd hX dX6_manyLiked_24 (q := 25) rfl ?_
          refine r_istore1 hX dX6_manyLiked_25 (q := 26) rfl rfl ?_
          refine r_iincN2 hX dX6_manyLiked_26 (q := 29) rfl rfl ?_
          refine r_goto hX dX6_manyLiked_29 (tgt := 4) (by decide) ?_
          refine ih4 _ ?_ (k + 1) _ rfl ?_ ?_
          ·
            omega
          ·
            omega
          ·
            rw [he]; first | exact (if_pos h16).symm | (rw [nI_0, Int32.add_zero]; exact (if_neg (by rw [h16]; decide)).symm)
        ·
          refine r_iconst hX dX6_manyLiked_19 (q := 20) rfl (v := nI 1) (by decide +kernel) ?_
          refine r_goto hX dX6_manyLiked_20 (tgt := 24) (by decide) ?_
          refine r_iadd hX dX6_manyLiked_24 (q := 25) rfl ?_
          refine r_istore1 hX dX6_manyLiked_25 (q := 26) rfl rfl ?_
          refine r_iincN2 hX dX6_manyLiked_26 (q := 29) rfl rfl ?_
          refine r_goto hX dX6_manyLiked_29 (tgt := 4) (by decide) ?_
          refine ih4 _ ?_ (k + 1) _ rfl ?_ ?_
          ·
            omega
          ·
            omega
          ·
            rw [he]; first | exact (if_pos h16).symm | (rw [nI_0, Int32.add_zero]; exact (if_neg (by rw [h16]; decide)).symm)
  refine L4 _ 0 _ rfl ?_ ?_
  ·
    exact Nat.zero_le _
  ·
    rfl
