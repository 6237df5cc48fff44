set_option maxRecDepth 100000 in
set_option maxHeartbeats 4000000 in
theorem c_X6_isPart (l : Launch) (Γ : Gam) (G : GG) (x y : Int32) : Sp l yX6_isPart cX6_isPart 2 (some .boolean) 1 25 [.int x, .int y] Γ G (eB G (decide (pLow x ≤ y ∧ y ≤ pTop x))) := by
  refine Sp_of (own := RX6) rfl (by decide +kernel) rfl (Nat.le_of_ble_eq_true rfl) (fun X hX hR => ?_)
  show WP X Γ 0 [some (.int x), some (.int y)] [] G
  refine r_iload0 hX dX6_isPart_0 (q := 1) rfl ?_
  refine r_tabCase hX dX6_isPart_1 0 ⟨by decide, by decide, by decide, rfl, (by decide : (1 : Int) + 27 = (28 : Nat))⟩ (fun h1_0 => ?_) (fun h1_0 => ?_)
  ·
    refine r_iload1 hX dX6_isPart_28 (q := 29) rfl ?_
    refine r_i2l hX dX6_isPart_29 (q := 30) rfl ?_
    refine r_lconst hX dX6_isPart_30 (q := 31) rfl (v := (nI 0).toInt64) (by decide +kernel) ?_
    refine r_ldc2 hX dX6_isPart_31 (q := 34) rfl qX6_40 ?_
    refine r_callS hX dX6_isPart_34 (q := 37) rfl (c_X6_in _ Γ _ _ _ _) kX6_42 mlX6_in msX6_in rfl rfl ⟨by decide, by decide⟩ (Nat.le_of_ble_eq_true rfl) (keB ?_)
    refine r_zret hX hR dX6_isPart_37 ?_
    -- leaf 0 at 37
    refine ⟨congrArg (fun z => some (Value.int (bi z))) ?_, ?_⟩
    ·
      rw [h1_0, (plo_e (j := 0) (by decide)).1, (plo_e (j := 0) (by decide)).2.1]; rfl
    · rfl
  refine r_tabCase hX dX6_isPart_1 1 ⟨by decide, by decide, by decide, rfl, (by decide : (1 : Int) + 37 = (38 : Nat))⟩ (fun h1_1 => ?_) (fun h1_1 => ?_)
  ·
    refine r_iload1 hX dX6_isPart_38 (q := 39) rfl ?_
    refine r_i2l hX dX6_isPart_39 (q := 40) rfl ?_
    refine r_lconst hX dX6_isPart_40 (q := 41) rfl (v := (nI 0).toInt64) (by decide +kernel) ?_
    refine r_ldc2 hX dX6_isPart_41 (q := 44) rfl qX6_53 ?_
    refine r_callS hX dX6_isPart_44 (q := 47) rfl (c_X6_in _ Γ _ _ _ _) kX6_42 mlX6_in msX6_in rfl rfl ⟨by decide, by decide⟩ (Nat.le_of_ble_eq_true rfl) (keB ?_)
    refine r_zret hX hR dX6_isPart_47 ?_
    -- leaf 1 at 47
    refine ⟨congrArg (fun z => some (Value.int (bi z))) ?_, ?_⟩
    ·
      rw [h1_1, (plo_e (j := 1) (by decide)).1, (plo_e (j := 1) (by decide)).2.1]; rfl
    · rfl
  refine r_tabCase hX dX6_isPart_1 2 ⟨by decide, by decide, by decide, rfl, (by decide : (1 : Int) + 47 = (48 : Nat))⟩ (fun h1_2 => ?_) (fun h1_2 => ?_)
  ·
    refine r_iload1 hX dX6_isPart_48 (q := 49) rfl ?_
    refine r_i2l hX dX6_isPart_49 (q := 50) rfl ?_
    refine r_lconst hX dX6_isPart_50 (q := 51) rfl (v := (nI 0).toInt64) (by decide +kernel) ?_
    refine r_ldc2 hX dX6_isPart_51 (q := 54) rfl qX6_68 ?_
    refine r_callS hX dX6_isPart_54 (q := 57) rfl (c_X6_in _ Γ _ _ _ _) kX6_42 mlX6_in msX6_in rfl rfl ⟨by decide, by decide⟩ (Nat.le_of_ble_eq_true rfl) (keB ?_)
    refine r_zret hX hR dX6_isPart_57 ?_
    -- leaf 2 at 57
    refine ⟨congrArg (fun z => some (Value.int (bi z))) ?_, ?_⟩
    ·
      rw [h1_2, (plo_e (j := 2) (by decide)).1, (plo_e (j := 2) (by decide)).2.1]; rfl
    · rfl
  refine r_tabOut hX dX6_isPart_1 (by have z0 := nI_neT h1_0 (by decide); have z1 := nI_neT h1_1 (by decide); have z2 := nI_neT h1_2 (by decide); omega) (tgt := 58) (by decide) ?_
  refine r_iload0 hX dX6_isPart_58 (q := 59) rfl ?_
  refine r_iconst hX dX6_isPart_59 (q := 60) rfl (v := nI 3) (by decide +kernel) ?_
  first | refine r_icmpN_ne hX dX6_isPart_60 (q := 63) rfl (tgt := 79) (by decide) (by first | omega | decide) (by first | omega | decide) (fun h60 => ?_) (fun h60 => ?_) | refine r_icmp_ne hX dX6_isPart_60 (q := 63) rfl (tgt := 79) (by decide) (fun h60 => ?_) (fun h60 => ?_)
  ·
    refine r_iconst hX dX6_isPart_79 (q := 80) rfl (v := nI 0) (by decide +kernel) ?_
    refine r_zret0 hX hR dX6_isPart_80 ?_
    -- leaf 3 at 80
    refine ⟨congrArg (fun z => some (Value.int (bi z))) ?_, ?_⟩
    ·
      first
        | (rw [h60, (plo_e (j := 3) (by decide)).1, (plo_e (j := 3) (by decide)).2.1]
           first | exact (decide_eq_true h72).symm | exact (decide_eq_false h72).symm)
        | (unfold pLow pTop
           rw [if_neg h60, if_neg h1_0, if_neg h1_1, if_neg h1_2, if_neg h60]
           exact (decide_eq_false (fun q => absurd (Int32.le_trans q.1 q.2) (by decide +kernel))).symm)
    · rfl
  ·
    refine r_iload1 hX dX6_isPart_63 (q := 64) rfl ?_
    refine r_i2l hX dX6_isPart_64 (q := 65) rfl ?_
    refine r_lconst hX dX6_isPart_65 (q := 66) rfl (v := (nI 1).toInt64) (by decide +kernel) ?_
    refine r_ldc2 hX dX6_isPart_66 (q := 69) rfl qX6_53 ?_
    refine r_callS hX dX6_isPart_69 (q := 72) rfl (c_X6_in _ Γ _ _ _ _) kX6_42 mlX6_in msX6_in rfl rfl ⟨by decide, by decide⟩ (Nat.le_of_ble_eq_true rfl) (keB ?_)
    first | with_reducible refine r_ifd_eq hX dX6_isPart_72 (q := 75) rfl (tgt := 79) (by decide) (fun h72 => ?_) (fun h72 => ?_) | refine r_ifb_eq hX dX6_isPart_72 (q := 75) rfl (tgt := 79) (by decide) (fun h72 => ?_) (fun h72 => ?_)
    ·
      refine r_iconst hX dX6_isPart_79 (q := 80) rfl (v := nI 0) (by decide +kernel) ?_
      refine r_zret0 hX hR dX6_isPart_80 ?_
      -- leaf 4 at 80
      refine ⟨congrArg (fun z => some (Value.int (bi z))) ?_, ?_⟩
      ·
        first
          | (rw [h60, (plo_e (j := 3) (by decide)).1, (plo_e (j := 3) (by decide)).2.1]
             first | exact (decide_eq_true h72).symm | exact (decide_eq_false h72).symm)
          | (unfold pLow pTop
             rw [if_neg h60, if_neg h1_0, if_neg h1_1, if_neg h1_2, if_neg h60]
             exact (decide_eq_false (fun q => absurd (Int32.le_trans q.1 q.2) (by decide +kernel))).symm)
      · rfl
    ·
      refine r_iconst hX dX6_isPart_75 (q := 76) rfl (v := nI 1) (by decide +kernel) ?_
      refine r_goto hX dX6_isPart_76 (tgt := 80) (by decide) ?_
      refine r_zret1 hX hR dX6_isPart_80 ?_
      -- leaf 5 at 80
      refine ⟨congrArg (fun z => some (Value.int (bi z))) ?_, ?_⟩
      ·
        first
          | (rw [h60, (plo_e (j := 3) (by decide)).1, (plo_e (j := 3) (by decide)).2.1]
             first | exact (decide_eq_true h72).symm | exact (decide_eq_false h72).symm)
          | (unfold pLow pTop
             rw [if_neg h60, if_neg h1_0, if_neg h1_1, if_neg h1_2, if_neg h60]
             exact (decide_eq_false (fun q => absurd (Int32.le_trans q.1 q.2) (by decide +kernel))).symm)
      · rfl

set_option maxRecDepth 100000 in
set_option maxHeartbeats 4000000 in
theorem c_X6_child (l : Launch) (Γ : Gam) (G : GG) (μ : MU) (hM : MR G μ) (x y : Int32) : Sp l yX6_child cX6_child 3 (some .int) 2 46 [.ref (gad Γ 47), .int x, .int y] Γ G (pI (fun v G' => MOut G μ (oChild μ x y) v G')) := by
  refine Sp_of (own := RX6) rfl (by decide +kernel) rfl (Nat.le_of_ble_eq_true rfl) (fun X hX hR => ?_)
  show WP X Γ 0 [some (.ref (gad Γ 47)), some (.int x), some (.int y)] [] G
  refine r_iload1 hX dX6_child_0 (q := 1) rfl ?_
  refine r_iload2 hX dX6_child_1 (q := 2) rfl ?_
  refine r_callS hX dX6_child_2 (q := 5) rfl (c_X6_isPart _ Γ _ _ _) kX6_70 mlX6_isPart msX6_isPart rfl rfl ⟨by decide, by decide⟩ (Nat.le_of_ble_eq_true rfl) (keB ?_)
  first | with_reducible refine r_ifd_eq hX dX6_child_5 (q := 8) rfl (tgt := 19) (by decide) (fun h5 => ?_) (fun h5 => ?_) | refine r_ifb_eq hX dX6_child_5 (q := 8) rfl (tgt := 19) (by decide) (fun h5 => ?_) (fun h5 => ?_)
  ·
    refine r_aload0 hX dX6_child_19 (q := 20) rfl ?_
    refine r_ldc hX dX6_child_20 (q := 22) rfl qX6_34 ?_
    refine r_callV hX dX6_child_22 (q := 25) rfl (c_X6_finds _ Γ _ _ 0 (by decide) (by decide +kernel)) kX6_36 mlX6_finds mvX6_finds rfl rfl rfl ⟨by decide, rfl⟩ ⟨by decide, by decide⟩ (Nat.le_of_ble_eq_true rfl) (kpI (fun v22 G22 p22 => ?_))
    refine r_iret hX hR dX6_child_25 ?_
    -- leaf 0 at 25
    refine ⟨_, rfl, ?_⟩
    first
      | (refine MOut.ok (if_pos h5) (hM _ ?_) (hM.u _ _) FrM.rf.up
         rw [ej, show cl (nI j) = j from nI_clamp (by omega)]; omega)
      | exact MOut.fin (k := 0) (if_neg h5) ⟨p22.1.trans (by decide +kernel), p22.2⟩ hM FrM.rf
  ·
    obtain ⟨j, hj, ej⟩ := part_of h5
    refine r_aload0 hX dX6_child_8 (q := 9) rfl ?_
    refine r_iconst hX dX6_child_9 (q := 10) rfl (v := nI 2) (by decide +kernel) ?_
    refine r_iload1 hX dX6_child_10 (q := 11) rfl ?_
    refine r_iadd hX dX6_child_11 (q := 12) rfl ?_
    refine r_iload2 hX dX6_child_12 (q := 13) rfl ?_
    refine r_callV hX dX6_child_13 (q := 16) rfl (c_X6_becomes _ Γ _ (2 + cl x) (by rw [ej, show cl (nI j) = j from nI_clamp (by omega)]; omega) _ _ (e_add rfl (by rw [ej, show cl (nI j) = j from nI_clamp (by omega)]))) kX6_59 mlX6_becomes mvX6_becomes rfl rfl rfl ⟨by decide, rfl⟩ ⟨by decide, by decide⟩ (Nat.le_of_ble_eq_true rfl) (keI ?_)
    refine r_goto hX dX6_child_16 (tgt := 25) (by decide) ?_
    refine r_iret hX hR dX6_child_25 ?_
    -- leaf 1 at 25
    refine ⟨_, rfl, ?_⟩
    first
      | (refine MOut.ok (if_pos h5) (hM _ ?_) (hM.u _ _) FrM.rf.up
         rw [ej, show cl (nI j) = j from nI_clamp (by omega)]; omega)
      | exact MOut.fin (k := 0) (if_neg h5) ⟨p22.1.trans (by decide +kernel), p22.2⟩ hM FrM.rf

set_option maxRecDepth 100000 in
set_option maxHeartbeats 4000000 in
theorem c_X6_next (l : Launch) (Γ : Gam) (G : GG) (μ : MU) (hM : MR G μ) : Sp l yX6_next cX6_next 3 (some .int) 2 42 [.ref (gad Γ 47)] Γ G (pI (fun v G' => MOut G μ (oNext μ) v G')) := by
  refine Sp_of (own := RX6) rfl (by decide +kernel) rfl (Nat.le_of_ble_eq_true rfl) (fun X hX hR => ?_)
  show WP X Γ 0 [some (.ref (gad Γ 47)), none, none] [] G
  refine r_iconst hX dX6_next_0 (q := 1) rfl (v := (-1)) (by decide +kernel) ?_
  refine r_istore1 hX dX6_next_1 (q := 2) rfl rfl ?_
  refine r_iconst hX dX6_next_2 (q := 3) rfl (v := nI 0) (by decide +kernel) ?_
  refine r_istore2 hX dX6_next_3 (q := 4) rfl rfl ?_
  have L4 : ∀ (zn4 : Nat) (k : Nat) (e : Int32), zn4 = 10 - k → (k ≤ 10) → (e = nxF μ k) → WP X Γ 4 [some (.ref (gad Γ 47)), some (.int e), some (.int (nI k))] [] G := by
    intro zn4
    induction zn4 using Nat.strongRecOn with
    | _ zn4 ih4 =>
      intro k e zh4 hk he
      have hnx : ¬ e < nI 0 → cl e < 10 ∧ e = nI (cl e) := by
        rw [he]
        exact fun h => nx_in k hk h
      refine r_iload2 hX dX6_next_4 (q := 5) rfl ?_
      refine r_bipush hX dX6_next_5 (q := 7) rfl (v := nI 10) (by decide +kernel) ?_
      refine r_icmpN_ge hX dX6_next_7 (q := 10) rfl (tgt := 43) (by decide) (by first | omega | decide) (by first | omega | decide) (fun h7 => ?_) (fun h7 => ?_)
      ·
        refine r_aload0 hX dX6_next_43 (q := 44) rfl ?_
        refine r_iload1 hX dX6_next_44 (q := 45) rfl ?_
        refine r_callV hX dX6_next_45 (q := 48) rfl (c_X6_orNone _ Γ _ _) kX6_76 mlX6_orNone mvX6_orNone rfl rfl rfl ⟨by decide, rfl⟩ ⟨by decide, by decide⟩ (Nat.le_of_ble_eq_true rfl) (kpI (fun v45 G45 p45 => ?_))
        refine r_iret hX hR dX6_next_48 ?_
        -- leaf 0 at 48
        refine ⟨_, rfl, ?_⟩
        have : k = 10 := by omega
        subst this
        rcases p45 with ⟨q1, q2, q3⟩ | ⟨q1, q2⟩
        · subst q3
          exact MOut.ok (w := nxF μ 10) (μ' := μ) (if_neg (fun z => absurd (by rw [nI_0] at z; rw [← he] at z; exact Int32.lt_of_lt_of_le z q1) Int32.lt_irrefl)) (q2.trans he) hM FrM.rf
        · exact MOut.fin (k := 3) (if_pos (by rw [← he, nI_0]; exact Int32.not_le.mp q1)) q2 hM FrM.rf
      ·
        refine r_aload0 hX dX6_next_10 (q := 11) rfl ?_
        refine r_iload2 hX dX6_next_11 (q := 12) rfl ?_
        refine r_callV hX dX6_next_12 (q := 15) rfl (c_X6_isLiked _ Γ _ μ hM _ k rfl (by omega)) kX6_65 mlX6_isLiked mvX6_isLiked rfl rfl rfl ⟨by decide, rfl⟩ ⟨by decide, by decide⟩ (Nat.le_of_ble_eq_true rfl) (keB ?_)
        first | with_reducible refine r_ifd_ne hX dX6_next_15 (q := 18) rfl (tgt := 37) (by decide) (fun h15 => ?_) (fun h15 => ?_) | refine r_ifb_ne hX dX6_next_15 (q := 18) rfl (tgt := 37) (by decide) (fun h15 => ?_) (fun h15 => ?_)
        ·
          refine r_iincN2 hX dX6_next_37 (q := 40) rfl rfl ?_
          refine r_goto hX dX6_next_40 (tgt := 4) (by decide) ?_
          refine ih4 _ ?_ (k + 1) _ rfl ?_ ?_
          ·
            omega
          ·
            omega
          ·
            unfold nxF
            rw [← he]
            first
              | exact (if_neg (fun z => by rw [h15] at z; exact absurd z.1 (by decide))).symm
              | exact (if_pos ⟨h15, Or.inl (by rw [nI_0]; exact h19)⟩).symm
              | exact (if_neg (fun z => z.2.elim (fun q => h19 (by rw [nI_0] at q; exact q)) (fun q => absurd (Int32.lt_of_lt_of_le q h32) Int32.lt_irrefl))).symm
              | exact (if_pos ⟨h15, Or.inr (Int32.not_le.mp h32)⟩).symm
        ·
          refine r_iload1 hX dX6_next_18 (q := 19) rfl ?_
          refine r_if_lt hX dX6_next_19 (q := 22) rfl (tgt := 35) (by decide) (fun h19 => ?_) (fun h19 => ?_)
          ·
            refine r_iload2 hX dX6_next_35 (q := 36) rfl ?_
            refine r_istore1 hX dX6_next_36 (q := 37) rfl rfl ?_
            refine r_iincN2 hX dX6_next_37 (q := 40) rfl rfl ?_
            refine r_goto hX dX6_next_40 (tgt := 4) (by decide) ?_
            refine ih4 _ ?_ (k + 1) _ rfl ?_ ?_
            ·
              omega
            ·
              omega
            ·
              unfold nxF
              rw [← he]
              first
                | exact (if_neg (fun z => by rw [h15] at z; exact absurd z.1 (by decide))).symm
                | exact (if_pos ⟨h15, Or.inl (by rw [nI_0]; exact h19)⟩).symm
                | exact (if_neg (fun z => z.2.elim (fun q => h19 (by rw [nI_0] at q; exact q)) (fun q => absurd (Int32.lt_of_lt_of_le q h32) Int32.lt_irrefl))).symm
                | exact (if_pos ⟨h15, Or.inr (Int32.not_le.mp h32)⟩).symm
          ·
            obtain ⟨he1, he2⟩ := hnx (by rw [nI_0]; exact h19)
            refine r_aload0 hX dX6_next_22 (q := 23) rfl ?_
            refine r_iload2 hX dX6_next_23 (q := 24) rfl ?_
            refine r_callV hX dX6_next_24 (q := 27) rfl (c_X6_like _ Γ _ _ k rfl (by omega)) kX6_50 mlX6_like mvX6_like rfl rfl rfl ⟨by decide, rfl⟩ ⟨by decide, by decide⟩ (Nat.le_of_ble_eq_true rfl) (keI ?_)
            rw [hM _ (by omega)]
            refine r_aload0 hX dX6_next_27 (q := 28) rfl ?_
            refine r_iload1 hX dX6_next_28 (q := 29) rfl ?_
            refine r_callV hX dX6_next_29 (q := 32) rfl (c_X6_like _ Γ _ _ (cl e) he2 he1) kX6_50 mlX6_like mvX6_like rfl rfl rfl ⟨by decide, rfl⟩ ⟨by decide, by decide⟩ (Nat.le_of_ble_eq_true rfl) (keI ?_)
            rw [hM _ (by omega)]
            first | refine r_icmpN_le hX dX6_next_32 (q := 35) rfl (tgt := 37) (by decide) (by first | omega | decide) (by first | omega | decide) (fun h32 => ?_) (fun h32 => ?_) | refine r_icmp_le hX dX6_next_32 (q := 35) rfl (tgt := 37) (by decide) (fun h32 => ?_) (fun h32 => ?_)
            ·
              refine r_iincN2 hX dX6_next_37 (q := 40) rfl rfl ?_
              refine r_goto hX dX6_next_40 (tgt := 4) (by decide) ?_
              refine ih4 _ ?_ (k + 1) _ rfl ?_ ?_
              ·
                omega
              ·
                omega
              ·
                unfold nxF
                rw [← he]
                first
                  | exact (if_neg (fun z => by rw [h15] at z; exact absurd z.1 (by decide))).symm
                  | exact (if_pos ⟨h15, Or.inl (by rw [nI_0]; exact h19)⟩).symm
                  | exact (if_neg (fun z => z.2.elim (fun q => h19 (by rw [nI_0] at q; exact q)) (fun q => absurd (Int32.lt_of_lt_of_le q h32) Int32.lt_irrefl))).symm
                  | exact (if_pos ⟨h15, Or.inr (Int32.not_le.mp h32)⟩).symm
            ·
              refine r_iload2 hX dX6_next_35 (q := 36) rfl ?_
              refine r_istore1 hX dX6_next_36 (q := 37) rfl rfl ?_
              refine r_iincN2 hX dX6_next_37 (q := 40) rfl rfl ?_
              refine r_goto hX dX6_next_40 (tgt := 4) (by decide) ?_
              refine ih4 _ ?_ (k + 1) _ rfl ?_ ?_
              ·
                omega
              ·
                omega
              ·
                unfold nxF
                rw [← he]
                first
                  | exact (if_neg (fun z => by rw [h15] at z; exact absurd z.1 (by decide))).symm
                  | exact (if_pos ⟨h15, Or.inl (by rw [nI_0]; exact h19)⟩).symm
                  | exact (if_neg (fun z => z.2.elim (fun q => h19 (by rw [nI_0] at q; exact q)) (fun q => absurd (Int32.lt_of_lt_of_le q h32) Int32.lt_irrefl))).symm
                  | exact (if_pos ⟨h15, Or.inr (Int32.not_le.mp h32)⟩).symm
  refine L4 _ 0 _ rfl ?_ ?_
  ·
    exact Nat.zero_le _
  ·
    rfl

set_option maxRecDepth 100000 in
set_option maxHeartbeats 4000000 in
theorem c_X6_comes (l : Launch) (Γ : Gam) (G : GG) (μ : MU) (hM : MR G μ) (x y z : Int32) (m : Nat) (hm : μ 8 = nI m) (hm1 : m < 10) : Sp l yX6_comes cX6_comes 5 none 0 0 [.ref (gad Γ 47), .int x, .int y, .int z] Γ G (pV (fun G' => MR G' (addM μ m x y z) ∧ FrN G G')) := by
  refine Sp_of (own := RX6) rfl (by decide +kernel) rfl (Nat.le_of_ble_eq_true rfl) (fun X hX hR => ?_)
  show WP X Γ 0 [some (.ref (gad Γ 47)), some (.int x), some (.int y), some (.int z), none] [] G
  refine r_bipush hX dX6_comes_0 (q := 2) rfl (v := nI 40) (by decide +kernel) ?_
  refine r_iconst hX dX6_comes_2 (q := 3) rfl (v := nI 3) (by decide +kernel) ?_
  refine r_aload0 hX dX6_comes_3 (q := 4) rfl ?_
  refine r_getR hX dX6_comes_4 (q := 7) rfl fX6_9 rfl ⟨by decide, by decide, rfl⟩ ?_
  refine r_bipush hX dX6_comes_7 (q := 9) rfl (v := nI 8) (by decide +kernel) ?_
  refine r_ialdN hX dX6_comes_9 (q := 10) rfl rfl (by repeat' (first | assumption | with_reducible exact rfl | refine e_add ?_ ?_ | refine e_mul ?_ ?_)) (by first | assumption | omega) (by first | decide | omega) ?_
  rw [hM 8 (by decide), hm]
  refine r_imul hX dX6_comes_10 (q := 11) rfl ?_
  refine r_iadd hX dX6_comes_11 (q := 12) rfl ?_
  refine r_istore4 hX dX6_comes_12 (q := 14) rfl rfl ?_
  refine r_aload0 hX dX6_comes_14 (q := 15) rfl ?_
  refine r_getR hX dX6_comes_15 (q := 18) rfl fX6_9 rfl ⟨by decide, by decide, rfl⟩ ?_
  refine r_iload4 hX dX6_comes_18 (q := 20) rfl ?_
  refine r_iload1 hX dX6_comes_20 (q := 21) rfl ?_
  refine r_iastN hX dX6_comes_21 (q := 22) rfl rfl (e_add rfl (e_mul rfl rfl)) (by omega) (by first | decide | omega) ?_
  refine r_aload0 hX dX6_comes_22 (q := 23) rfl ?_
  refine r_getR hX dX6_comes_23 (q := 26) rfl fX6_9 rfl ⟨by decide, by decide, rfl⟩ ?_
  refine r_iload4 hX dX6_comes_26 (q := 28) rfl ?_
  refine r_iconst hX dX6_comes_28 (q := 29) rfl (v := nI 1) (by decide +kernel) ?_
  refine r_iadd hX dX6_comes_29 (q := 30) rfl ?_
  refine r_iload2 hX dX6_comes_30 (q := 31) rfl ?_
  refine r_iastN hX dX6_comes_31 (q := 32) rfl rfl (e_add (e_add rfl (e_mul rfl rfl)) rfl) (by omega) (by first | decide | omega) ?_
  refine r_aload0 hX dX6_comes_32 (q := 33) rfl ?_
  refine r_getR hX dX6_comes_33 (q := 36) rfl fX6_9 rfl ⟨by decide, by decide, rfl⟩ ?_
  refine r_iload4 hX dX6_comes_36 (q := 38) rfl ?_
  refine r_iconst hX dX6_comes_38 (q := 39) rfl (v := nI 2) (by decide +kernel) ?_
  refine r_iadd hX dX6_comes_39 (q := 40) rfl ?_
  refine r_iload3 hX dX6_comes_40 (q := 41) rfl ?_
  refine r_iastN hX dX6_comes_41 (q := 42) rfl rfl (e_add (e_add rfl (e_mul rfl rfl)) rfl) (by omega) (by first | decide | omega) ?_
  refine r_aload0 hX dX6_comes_42 (q := 43) rfl ?_
  refine r_getR hX dX6_comes_43 (q := 46) rfl fX6_9 rfl ⟨by decide, by decide, rfl⟩ ?_
  refine r_bipush hX dX6_comes_46 (q := 48) rfl (v := nI 8) (by decide +kernel) ?_
  refine r_dup2 hX dX6_comes_48 (q := 49) rfl rfl rfl ?_
  refine r_ialdN hX dX6_comes_49 (q := 50) rfl rfl (by repeat' (first | assumption | with_reducible exact rfl | refine e_add ?_ ?_ | refine e_mul ?_ ?_)) (by first | assumption | omega) (by first | decide | omega) ?_
  refine r_iconst hX dX6_comes_50 (q := 51) rfl (v := nI 1) (by decide +kernel) ?_
  refine r_iadd hX dX6_comes_51 (q := 52) rfl ?_
  refine r_iastN hX dX6_comes_52 (q := 53) rfl rfl (by repeat' (first | assumption | with_reducible exact rfl | refine e_add ?_ ?_ | refine e_mul ?_ ?_)) (by first | assumption | omega) (by first | decide | omega) ?_
  refine r_vret hX hR dX6_comes_53 ?_
  -- leaf 0 at 53
  refine ⟨rfl, ?_⟩
  have e1 : 40 + 3 * m + 1 = 41 + 3 * m := by omega
  have e2 : 40 + 3 * m + 2 = 42 + 3 * m := by omega
  rw [e1, e2]
  refine ⟨?_, FrN.rf.up.up.up.up⟩
  have h8 : up (up (up G 48 (40 + 3 * m) x) 48 (41 + 3 * m) y) 48 (42 + 3 * m) z 48 8 = nI m := by
    rw [up_ne (by omega), up_ne (by omega), up_ne (by omega)]; exact (hM 8 (by decide)).trans hm
  rw [h8, nI_add]
  exact (((hM.u _ _).u _ _).u _ _).u _ _

set_option maxRecDepth 100000 in
set_option maxHeartbeats 4000000 in
theorem c_X6_taste (l : Launch) (Γ : Gam) (G : GG) (μ : MU) (hM : MR G μ) (b : Nat) (hV : Inv b μ) (x y z : Int32) : Sp l yX6_taste cX6_taste 4 (some .int) 2 45 [.ref (gad Γ 47), .int x, .int y, .int z] Γ G (pI (fun v G' => MOut G μ (oTaste μ x y z) v G')) := by
  refine Sp_of (own := RX6) rfl (by decide +kernel) rfl (Nat.le_of_ble_eq_true rfl) (fun X hX hR => ?_)
  show WP X Γ 0 [some (.ref (gad Γ 47)), some (.int x), some (.int y), some (.int z)] [] G
  obtain ⟨m, hm1, hm⟩ := hV.2.2.1
  refine r_iload1 hX dX6_taste_0 (q := 1) rfl ?_
  refine r_callS hX dX6_taste_1 (q := 4) rfl (c_X6_isKind _ Γ _ _) kX6_79 mlX6_isKind msX6_isKind rfl rfl ⟨by decide, by decide⟩ (Nat.le_of_ble_eq_true rfl) (keB ?_)
  first | with_reducible refine r_ifd_eq hX dX6_taste_4 (q := 7) rfl (tgt := 21) (by decide) (fun h4 => ?_) (fun h4 => ?_) | refine r_ifb_eq hX dX6_taste_4 (q := 7) rfl (tgt := 21) (by decide) (fun h4 => ?_) (fun h4 => ?_)
  ·
    refine r_aload0 hX dX6_taste_21 (q := 22) rfl ?_
    refine r_ldc hX dX6_taste_22 (q := 24) rfl qX6_34 ?_
    refine r_callV hX dX6_taste_24 (q := 27) rfl (c_X6_finds _ Γ _ _ 0 (by decide) (by decide +kernel)) kX6_36 mlX6_finds mvX6_finds rfl rfl rfl ⟨by decide, rfl⟩ ⟨by decide, by decide⟩ (Nat.le_of_ble_eq_true rfl) (kpI (fun v24 G24 p24 => ?_))
    refine r_iret hX hR dX6_taste_27 ?_
    -- leaf 0 at 27
    refine ⟨_, rfl, ?_⟩
    refine MOut.fin (k := 0) (if_neg (fun q => ?_)) ⟨p24.1.trans (by decide +kernel), p24.2⟩ hM FrM.rf
    first | exact h4 q.1 | exact h11 q.2.1 | exact h18 q.2.2
  ·
    refine r_iload2 hX dX6_taste_7 (q := 8) rfl ?_
    refine r_callS hX dX6_taste_8 (q := 11) rfl (c_X6_isFood _ Γ _ _) kX6_55 mlX6_isFood msX6_isFood rfl rfl ⟨by decide, by decide⟩ (Nat.le_of_ble_eq_true rfl) (keB ?_)
    first | with_reducible refine r_ifd_eq hX dX6_taste_11 (q := 14) rfl (tgt := 21) (by decide) (fun h11 => ?_) (fun h11 => ?_) | refine r_ifb_eq hX dX6_taste_11 (q := 14) rfl (tgt := 21) (by decide) (fun h11 => ?_) (fun h11 => ?_)
    ·
      refine r_aload0 hX dX6_taste_21 (q := 22) rfl ?_
      refine r_ldc hX dX6_taste_22 (q := 24) rfl qX6_34 ?_
      refine r_callV hX dX6_taste_24 (q := 27) rfl (c_X6_finds _ Γ _ _ 0 (by decide) (by decide +kernel)) kX6_36 mlX6_finds mvX6_finds rfl rfl rfl ⟨by decide, rfl⟩ ⟨by decide, by decide⟩ (Nat.le_of_ble_eq_true rfl) (kpI (fun v24 G24 p24 => ?_))
      refine r_iret hX hR dX6_taste_27 ?_
      -- leaf 1 at 27
      refine ⟨_, rfl, ?_⟩
      refine MOut.fin (k := 0) (if_neg (fun q => ?_)) ⟨p24.1.trans (by decide +kernel), p24.2⟩ hM FrM.rf
      first | exact h4 q.1 | exact h11 q.2.1 | exact h18 q.2.2
    ·
      refine r_iload3 hX dX6_taste_14 (q := 15) rfl ?_
      refine r_callS hX dX6_taste_15 (q := 18) rfl (c_X6_isPut _ Γ _ _) kX6_82 mlX6_isPut msX6_isPut rfl rfl ⟨by decide, by decide⟩ (Nat.le_of_ble_eq_true rfl) (keB ?_)
      first | with_reducible refine r_ifd_ne hX dX6_taste_18 (q := 21) rfl (tgt := 28) (by decide) (fun h18 => ?_) (fun h18 => ?_) | refine r_ifb_ne hX dX6_taste_18 (q := 21) rfl (tgt := 28) (by decide) (fun h18 => ?_) (fun h18 => ?_)
      ·
        refine r_aload0 hX dX6_taste_28 (q := 29) rfl ?_
        refine r_getR hX dX6_taste_29 (q := 32) rfl fX6_9 rfl ⟨by decide, by decide, rfl⟩ ?_
        refine r_bipush hX dX6_taste_32 (q := 34) rfl (v := nI 8) (by decide +kernel) ?_
        refine r_ialdN hX dX6_taste_34 (q := 35) rfl rfl (by repeat' (first | assumption | with_reducible exact rfl | refine e_add ?_ ?_ | refine e_mul ?_ ?_)) (by first | assumption | omega) (by first | decide | omega) ?_
        refine r_bipush hX dX6_taste_35 (q := 37) rfl (v := nI 10) (by decide +kernel) ?_
        rw [hM 8 (by decide), hm]
        first | refine r_icmpN_ne hX dX6_taste_37 (q := 40) rfl (tgt := 47) (by decide) (by first | omega | decide) (by first | omega | decide) (fun h37 => ?_) (fun h37 => ?_) | refine r_icmp_ne hX dX6_taste_37 (q := 40) rfl (tgt := 47) (by decide) (fun h37 => ?_) (fun h37 => ?_)
        ·
          refine r_aload0 hX dX6_taste_47 (q := 48) rfl ?_
          refine r_iload1 hX dX6_taste_48 (q := 49) rfl ?_
          refine r_iload2 hX dX6_taste_49 (q := 50) rfl ?_
          refine r_iload3 hX dX6_taste_50 (q := 51) rfl ?_
          refine r_callV hX dX6_taste_51 (q := 54) rfl (c_X6_comes _ Γ _ μ hM _ _ _ m hm (by omega)) kX6_86 mlX6_comes mvX6_comes rfl rfl rfl ⟨by decide, rfl⟩ ⟨by decide, by decide⟩ (Nat.le_of_ble_eq_true rfl) (kpV (fun G51 p51 => ?_))
          refine r_aload0 hX dX6_taste_54 (q := 55) rfl ?_
          refine r_getR hX dX6_taste_55 (q := 58) rfl fX6_9 rfl ⟨by decide, by decide, rfl⟩ ?_
          refine r_bipush hX dX6_taste_58 (q := 60) rfl (v := nI 8) (by decide +kernel) ?_
          refine r_ialdN hX dX6_taste_60 (q := 61) rfl rfl (by repeat' (first | assumption | with_reducible exact rfl | refine e_add ?_ ?_ | refine e_mul ?_ ?_)) (by first | assumption | omega) (by first | decide | omega) ?_
          refine r_iconst hX dX6_taste_61 (q := 62) rfl (v := nI 1) (by decide +kernel) ?_
          refine r_isub hX dX6_taste_62 (q := 63) rfl ?_
          refine r_iret hX hR dX6_taste_63 ?_
          -- leaf 2 at 63
          refine ⟨_, rfl, ?_⟩
          have e8 : cl (μ 8) = m := by rw [hm]; exact nI_clamp (by omega)
          refine MOut.ok (w := μ 8) (μ' := addM μ (cl (μ 8)) x y z) ((if_pos ⟨h4, h11, h18⟩).trans (if_neg ?_)) ?_ (by rw [e8]; exact p51.1) p51.2.M
          · rw [hm]; exact nI_ne (by omega) (by decide) h37
          · rw [p51.1 8 (by decide)]
            unfold addM
            rw [upd_eq, pk_sub (by omega), hm]
            rfl
        ·
          refine r_aload0 hX dX6_taste_40 (q := 41) rfl ?_
          refine r_ldc hX dX6_taste_41 (q := 43) rfl qX6_85 ?_
          refine r_callV hX dX6_taste_43 (q := 46) rfl (c_X6_finds _ Γ _ _ 1 (by decide) (by decide +kernel)) kX6_36 mlX6_finds mvX6_finds rfl rfl rfl ⟨by decide, rfl⟩ ⟨by decide, by decide⟩ (Nat.le_of_ble_eq_true rfl) (kpI (fun v43 G43 p43 => ?_))
          refine r_iret hX hR dX6_taste_46 ?_
          -- leaf 3 at 46
          refine ⟨_, rfl, ?_⟩
          refine MOut.fin (k := 1) ((if_pos ⟨h4, h11, h18⟩).trans (if_pos ?_)) ⟨p43.1.trans (by decide +kernel), p43.2⟩ hM FrM.rf
          rw [hm, h37]
      ·
        refine r_aload0 hX dX6_taste_21 (q := 22) rfl ?_
        refine r_ldc hX dX6_taste_22 (q := 24) rfl qX6_34 ?_
        refine r_callV hX dX6_taste_24 (q := 27) rfl (c_X6_finds _ Γ _ _ 0 (by decide) (by decide +kernel)) kX6_36 mlX6_finds mvX6_finds rfl rfl rfl ⟨by decide, rfl⟩ ⟨by decide, by decide⟩ (Nat.le_of_ble_eq_true rfl) (kpI (fun v24 G24 p24 => ?_))
        refine r_iret hX hR dX6_taste_27 ?_
        -- leaf 4 at 27
        refine ⟨_, rfl, ?_⟩
        refine MOut.fin (k := 0) (if_neg (fun q => ?_)) ⟨p24.1.trans (by decide +kernel), p24.2⟩ hM FrM.rf
        first | exact h4 q.1 | exact h11 q.2.1 | exact h18 q.2.2
