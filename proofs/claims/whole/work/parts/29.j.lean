set_option maxRecDepth 100000 in
set_option maxHeartbeats 4000000 in
theorem c_X5_hold (l : Launch) (Γ : Gam) (G : GG) (μ : MU) (b : Nat) (hC : CR G 0 μ) (hV : Inv b μ) (x y : Int32) : Sp l yX5_hold cX5_hold 3 (some .int) 2 44 [.ref (gad Γ 30), .int x, .int y] Γ G (pI (CO G μ (oHold μ x y))) := by
  refine Sp_of (own := RX5) rfl (by decide +kernel) rfl (Nat.le_of_ble_eq_true rfl) (fun X hX hR => ?_)
  show WP X Γ 0 [some (.ref (gad Γ 30)), some (.int x), some (.int y)] [] G
  refine r_iload1 hX dX5_hold_0 (q := 1) rfl ?_
  refine r_iconst hX dX5_hold_1 (q := 2) rfl (v := nI 0) (by decide +kernel) ?_
  refine r_bipush hX dX5_hold_2 (q := 4) rfl (v := nI 9) (by decide +kernel) ?_
  refine r_callS hX dX5_hold_4 (q := 7) rfl (c_X5_within _ Γ _ _ _ _) kX5_45 mlX5_within msX5_within rfl rfl ⟨by decide, by decide⟩ (Nat.le_of_ble_eq_true rfl) (keB ?_)
  first | with_reducible refine r_ifd_eq hX dX5_hold_7 (q := 10) rfl (tgt := 23) (by decide) (fun h7 => ?_) (fun h7 => ?_) | refine r_ifb_eq hX dX5_hold_7 (q := 10) rfl (tgt := 23) (by decide) (fun h7 => ?_) (fun h7 => ?_)
  ·
    refine r_aload0 hX dX5_hold_23 (q := 24) rfl ?_
    refine r_ldc hX dX5_hold_24 (q := 26) rfl qX5_44 ?_
    refine r_callV hX dX5_hold_26 (q := 29) rfl (c_X5_finding _ Γ _ _ 0 (by decide) (by decide +kernel)) kX5_67 mlX5_finding mvX5_finding rfl rfl rfl ⟨by decide, rfl⟩ ⟨by decide, by decide⟩ (Nat.le_of_ble_eq_true rfl) (keI ?_)
    refine r_iret hX hR dX5_hold_29 ?_
    -- leaf 0 at 29
    refine ⟨_, rfl, ?_⟩
    first
      | exact CO.fin (k := 0) (if_neg (fun q => h7 q.1)) (by decide +kernel) hC fr0
      | exact CO.fin (k := 0) (if_neg (fun q => q.2.elim h12 (fun z => by rw [h20] at z; exact absurd z (by decide)))) (by decide +kernel) hC fr0
  ·
    obtain ⟨xl, xe⟩ := ix_of (by decide) h7
    refine r_iload2 hX dX5_hold_10 (q := 11) rfl ?_
    refine r_iconst hX dX5_hold_11 (q := 12) rfl (v := (-1)) (by decide +kernel) ?_
    first | refine r_icmpN_eq hX dX5_hold_12 (q := 15) rfl (tgt := 30) (by decide) (by first | decide | omega) (by first | decide | omega) (fun h12 => ?_) (fun h12 => ?_) | refine r_icmp_eq hX dX5_hold_12 (q := 15) rfl (tgt := 30) (by decide) (fun h12 => ?_) (fun h12 => ?_)
    ·
      refine r_aload0 hX dX5_hold_30 (q := 31) rfl ?_
      refine r_getR hX dX5_hold_31 (q := 34) (c' := ch 0 0) rfl fX5_12 rfl ⟨by decide, by decide, rfl⟩ ?_
      refine r_getR hX dX5_hold_34 (q := 37) rfl fX5_244 (ch_lay (j := 0) (by first | assumption | decide) (by decide) rfl) (rC_13 (by first | assumption | decide)) ?_
      refine r_iload1 hX dX5_hold_37 (q := 38) rfl ?_
      refine r_iload2 hX dX5_hold_38 (q := 39) rfl ?_
      refine r_iastN hX dX5_hold_39 (q := 40) rfl (ch_lay (j := 9) (by first | assumption | decide) (by decide) rfl) (by repeat' (first | assumption | with_reducible exact rfl | refine e_add ?_ ?_ | refine e_mul ?_ ?_)) (by first | assumption | omega) (by first | decide | omega) ?_
      refine r_iconst hX dX5_hold_40 (q := 41) rfl (v := nI 1) (by decide +kernel) ?_
      refine r_iret hX hR dX5_hold_41 ?_
      -- leaf 1 at 41
      refine ⟨_, rfl, ?_⟩
      exact CO.ok (w := nI 1) (μ' := upd μ (70 + cl x) y) (if_pos ⟨h7, by first | exact Or.inl h12 | exact Or.inr h20⟩) rfl (hC.spo (by omega) y) (fr_C (Fr.rf.up (by decide)) fr0)
    ·
      refine r_aload0 hX dX5_hold_15 (q := 16) rfl ?_
      refine r_iload2 hX dX5_hold_16 (q := 17) rfl ?_
      refine r_callV hX dX5_hold_17 (q := 20) rfl (c_X5_isTaste _ Γ _ _ _ (by assumption) (by assumption) _) kX5_126 mlX5_isTaste mvX5_isTaste rfl rfl rfl ⟨by decide, rfl⟩ ⟨by decide, by decide⟩ (Nat.le_of_ble_eq_true rfl) (keB ?_)
      first | with_reducible refine r_ifd_ne hX dX5_hold_20 (q := 23) rfl (tgt := 30) (by decide) (fun h20 => ?_) (fun h20 => ?_) | refine r_ifb_ne hX dX5_hold_20 (q := 23) rfl (tgt := 30) (by decide) (fun h20 => ?_) (fun h20 => ?_)
      ·
        refine r_aload0 hX dX5_hold_30 (q := 31) rfl ?_
        refine r_getR hX dX5_hold_31 (q := 34) (c' := ch 0 0) rfl fX5_12 rfl ⟨by decide, by decide, rfl⟩ ?_
        refine r_getR hX dX5_hold_34 (q := 37) rfl fX5_244 (ch_lay (j := 0) (by first | assumption | decide) (by decide) rfl) (rC_13 (by first | assumption | decide)) ?_
        refine r_iload1 hX dX5_hold_37 (q := 38) rfl ?_
        refine r_iload2 hX dX5_hold_38 (q := 39) rfl ?_
        refine r_iastN hX dX5_hold_39 (q := 40) rfl (ch_lay (j := 9) (by first | assumption | decide) (by decide) rfl) (by repeat' (first | assumption | with_reducible exact rfl | refine e_add ?_ ?_ | refine e_mul ?_ ?_)) (by first | assumption | omega) (by first | decide | omega) ?_
        refine r_iconst hX dX5_hold_40 (q := 41) rfl (v := nI 1) (by decide +kernel) ?_
        refine r_iret hX hR dX5_hold_41 ?_
        -- leaf 2 at 41
        refine ⟨_, rfl, ?_⟩
        exact CO.ok (w := nI 1) (μ' := upd μ (70 + cl x) y) (if_pos ⟨h7, by first | exact Or.inl h12 | exact Or.inr h20⟩) rfl (hC.spo (by omega) y) (fr_C (Fr.rf.up (by decide)) fr0)
      ·
        refine r_aload0 hX dX5_hold_23 (q := 24) rfl ?_
        refine r_ldc hX dX5_hold_24 (q := 26) rfl qX5_44 ?_
        refine r_callV hX dX5_hold_26 (q := 29) rfl (c_X5_finding _ Γ _ _ 0 (by decide) (by decide +kernel)) kX5_67 mlX5_finding mvX5_finding rfl rfl rfl ⟨by decide, rfl⟩ ⟨by decide, by decide⟩ (Nat.le_of_ble_eq_true rfl) (keI ?_)
        refine r_iret hX hR dX5_hold_29 ?_
        -- leaf 3 at 29
        refine ⟨_, rfl, ?_⟩
        first
          | exact CO.fin (k := 0) (if_neg (fun q => h7 q.1)) (by decide +kernel) hC fr0
          | exact CO.fin (k := 0) (if_neg (fun q => q.2.elim h12 (fun z => by rw [h20] at z; exact absurd z (by decide)))) (by decide +kernel) hC fr0

set_option maxRecDepth 100000 in
set_option maxHeartbeats 4000000 in
theorem c_X5_isUnder (l : Launch) (Γ : Gam) (G : GG) (x y : Int32) : Sp l yX5_isUnder cX5_isUnder 4 (some .boolean) 2 42 [.int x, .int y] Γ G (eB G (udF 7 x y)) := by
  refine Sp_of (own := RX5) rfl (by decide +kernel) rfl (Nat.le_of_ble_eq_true rfl) (fun X hX hR => ?_)
  show WP X Γ 0 [some (.int x), some (.int y), none, none] [] G
  refine r_iload0 hX dX5_isUnder_0 (q := 1) rfl ?_
  refine r_istore2 hX dX5_isUnder_1 (q := 2) rfl rfl ?_
  refine r_iconst hX dX5_isUnder_2 (q := 3) rfl (v := nI 0) (by decide +kernel) ?_
  refine r_istore3 hX dX5_isUnder_3 (q := 4) rfl rfl ?_
  have L4 : ∀ (zn4 : Nat) (k : Nat) (e : Int32), zn4 = 7 - k → (k ≤ 7) → (udF (7 - k) e y = udF 7 x y) → WP X Γ 4 [some (.int x), some (.int y), some (.int e), some (.int (nI k))] [] G := by
    intro zn4
    induction zn4 using Nat.strongRecOn with
    | _ zn4 ih4 =>
      intro k e zh4 hk he
      refine r_iload3 hX dX5_isUnder_4 (q := 5) rfl ?_
      refine r_bipush hX dX5_isUnder_5 (q := 7) rfl (v := nI 7) (by decide +kernel) ?_
      refine r_icmpN_ge hX dX5_isUnder_7 (q := 10) rfl (tgt := 36) (by decide) (by first | decide | omega) (by first | decide | omega) (fun h7 => ?_) (fun h7 => ?_)
      ·
        refine r_iconst hX dX5_isUnder_36 (q := 37) rfl (v := nI 0) (by decide +kernel) ?_
        refine r_zret0 hX hR dX5_isUnder_37 ?_
        -- leaf 0 at 37
        refine ⟨congrArg (fun z => some (Value.int (bi z))) ?_, ?_⟩
        ·
          rw [← he]
          first
            | (have q : k = 7 := by omega
               subst q; rfl)
            | (obtain ⟨j, hj⟩ : ∃ j, 7 - k = j + 1 := ⟨7 - k - 1, by omega⟩
               rw [hj]; simp only [udF]; rw [if_neg h14])
        · rfl
      ·
        refine r_iload2 hX dX5_isUnder_10 (q := 11) rfl ?_
        refine r_callS hX dX5_isUnder_11 (q := 14) rfl (c_X5_isKind _ Γ _ _) kX5_111 mlX5_isKind msX5_isKind rfl rfl ⟨by decide, by decide⟩ (Nat.le_of_ble_eq_true rfl) (keB ?_)
        first | with_reducible refine r_ifd_eq hX dX5_isUnder_14 (q := 17) rfl (tgt := 36) (by decide) (fun h14 => ?_) (fun h14 => ?_) | refine r_ifb_eq hX dX5_isUnder_14 (q := 17) rfl (tgt := 36) (by decide) (fun h14 => ?_) (fun h14 => ?_)
        ·
          refine r_iconst hX dX5_isUnder_36 (q := 37) rfl (v := nI 0) (by decide +kernel) ?_
          refine r_zret0 hX hR dX5_isUnder_37 ?_
          -- leaf 1 at 37
          refine ⟨congrArg (fun z => some (Value.int (bi z))) ?_, ?_⟩
          ·
            rw [← he]
            first
              | (have q : k = 7 := by omega
                 subst q; rfl)
              | (obtain ⟨j, hj⟩ : ∃ j, 7 - k = j + 1 := ⟨7 - k - 1, by omega⟩
                 rw [hj]; simp only [udF]; rw [if_neg h14])
          · rfl
        ·
          obtain ⟨el, ee⟩ := ix_of (by decide) h14
          refine r_iload2 hX dX5_isUnder_17 (q := 18) rfl ?_
          refine r_iload1 hX dX5_isUnder_18 (q := 19) rfl ?_
          first | refine r_icmpN_ne hX dX5_isUnder_19 (q := 22) rfl (tgt := 24) (by decide) (by first | decide | omega) (by first | decide | omega) (fun h19 => ?_) (fun h19 => ?_) | refine r_icmp_ne hX dX5_isUnder_19 (q := 22) rfl (tgt := 24) (by decide) (fun h19 => ?_) (fun h19 => ?_)
          ·
            refine r_getsKA hX dX5_isUnder_24 (q := 27) rfl gX5_253 ?_
            refine r_iload2 hX dX5_isUnder_27 (q := 28) rfl ?_
            refine r_kald hX dX5_isUnder_28 (q := 29) rfl (by repeat' (first | assumption | with_reducible exact rfl | refine e_add ?_ ?_ | refine e_mul ?_ ?_)) (by first | assumption | omega) ?_
            refine r_istore2 hX dX5_isUnder_29 (q := 30) rfl rfl ?_
            refine r_iincN3 hX dX5_isUnder_30 (q := 33) rfl rfl ?_
            refine r_goto hX dX5_isUnder_33 (tgt := 4) (by decide) ?_
            refine ih4 _ ?_ (k + 1) _ rfl ?_ ?_
            ·
              omega
            ·
              omega
            ·
              rw [← he]
              obtain ⟨j, hj⟩ : ∃ j, 7 - k = j + 1 := ⟨7 - k - 1, by omega⟩
              rw [hj, show 7 - (k + 1) = j by omega]
              simp only [udF]
              rw [if_pos h14, if_neg h19]
          ·
            refine r_iconst hX dX5_isUnder_22 (q := 23) rfl (v := nI 1) (by decide +kernel) ?_
            refine r_zret1 hX hR dX5_isUnder_23 ?_
            -- leaf 2 at 23
            refine ⟨congrArg (fun z => some (Value.int (bi z))) ?_, ?_⟩
            ·
              rw [← he]
              obtain ⟨j, hj⟩ : ∃ j, 7 - k = j + 1 := ⟨7 - k - 1, by omega⟩
              rw [hj]
              simp only [udF]
              rw [if_pos h14, if_pos h19]
            · rfl
  refine L4 _ 0 _ rfl ?_ ?_
  ·
    exact Nat.zero_le _
  ·
    rfl

set_option maxRecDepth 100000 in
set_option maxHeartbeats 4000000 in
theorem c_X5_as (l : Launch) (Γ : Gam) (G : GG) (μ : MU) (b : Nat) (hC : CR G 0 μ) (hV : Inv b μ) (x y : Int32) : Sp l yX5_as cX5_as 4 (some .int) 3 65 [.ref (gad Γ 30), .int x, .int y] Γ G (pI (CO G μ (oAs μ x y))) := by
  refine Sp_of (own := RX5) rfl (by decide +kernel) rfl (Nat.le_of_ble_eq_true rfl) (fun X hX hR => ?_)
  show WP X Γ 0 [some (.ref (gad Γ 30)), some (.int x), some (.int y), none] [] G
  refine r_iload1 hX dX5_as_0 (q := 1) rfl ?_
  refine r_iconst hX dX5_as_1 (q := 2) rfl (v := nI 0) (by decide +kernel) ?_
  refine r_bipush hX dX5_as_2 (q := 4) rfl (v := nI 9) (by decide +kernel) ?_
  refine r_callS hX dX5_as_4 (q := 7) rfl (c_X5_within _ Γ _ _ _ _) kX5_45 mlX5_within msX5_within rfl rfl ⟨by decide, by decide⟩ (Nat.le_of_ble_eq_true rfl) (keB ?_)
  first | with_reducible refine r_ifd_eq hX dX5_as_7 (q := 10) rfl (tgt := 17) (by decide) (fun h7 => ?_) (fun h7 => ?_) | refine r_ifb_eq hX dX5_as_7 (q := 10) rfl (tgt := 17) (by decide) (fun h7 => ?_) (fun h7 => ?_)
  ·
    refine r_aload0 hX dX5_as_17 (q := 18) rfl ?_
    refine r_ldc hX dX5_as_18 (q := 20) rfl qX5_44 ?_
    refine r_callV hX dX5_as_20 (q := 23) rfl (c_X5_finding _ Γ _ _ 0 (by decide) (by decide +kernel)) kX5_67 mlX5_finding mvX5_finding rfl rfl rfl ⟨by decide, rfl⟩ ⟨by decide, by decide⟩ (Nat.le_of_ble_eq_true rfl) (keI ?_)
    refine r_iret hX hR dX5_as_23 ?_
    -- leaf 0 at 23
    refine ⟨_, rfl, ?_⟩
    first
      | exact CO.fin (k := 0) (if_neg (fun q => h7 q.1)) (by decide +kernel) hC fr0
      | exact CO.fin (k := 0) (if_neg (fun q => h14 q.2)) (by decide +kernel) hC fr0
  ·
    obtain ⟨xl, xe⟩ := ix_of (by decide) h7
    refine r_iload2 hX dX5_as_10 (q := 11) rfl ?_
    refine r_callS hX dX5_as_11 (q := 14) rfl (c_X5_isKind _ Γ _ _) kX5_111 mlX5_isKind msX5_isKind rfl rfl ⟨by decide, by decide⟩ (Nat.le_of_ble_eq_true rfl) (keB ?_)
    first | with_reducible refine r_ifd_ne hX dX5_as_14 (q := 17) rfl (tgt := 24) (by decide) (fun h14 => ?_) (fun h14 => ?_) | refine r_ifb_ne hX dX5_as_14 (q := 17) rfl (tgt := 24) (by decide) (fun h14 => ?_) (fun h14 => ?_)
    ·
      have esp := hC.2.2.2.1 _ (show cl x < 10 by omega)
      refine r_aload0 hX dX5_as_24 (q := 25) rfl ?_
      refine r_getR hX dX5_as_25 (q := 28) (c' := ch 0 0) rfl fX5_12 rfl ⟨by decide, by decide, rfl⟩ ?_
      refine r_getR hX dX5_as_28 (q := 31) rfl fX5_244 (ch_lay (j := 0) (by first | assumption | decide) (by decide) rfl) (rC_13 (by first | assumption | decide)) ?_
      refine r_iload1 hX dX5_as_31 (q := 32) rfl ?_
      refine r_ialdN hX dX5_as_32 (q := 33) rfl (ch_lay (j := 9) (by first | assumption | decide) (by decide) rfl) (by repeat' (first | assumption | with_reducible exact rfl | refine e_add ?_ ?_ | refine e_mul ?_ ?_)) (by first | assumption | omega) (by first | decide | omega) ?_
      refine r_istore3 hX dX5_as_33 (q := 34) rfl rfl ?_
      refine r_aload0 hX dX5_as_34 (q := 35) rfl ?_
      refine r_iload3 hX dX5_as_35 (q := 36) rfl ?_
      refine r_callV hX dX5_as_36 (q := 39) rfl (c_X5_isTaste _ Γ _ _ _ (by assumption) (by assumption) _) kX5_126 mlX5_isTaste mvX5_isTaste rfl rfl rfl ⟨by decide, rfl⟩ ⟨by decide, by decide⟩ (Nat.le_of_ble_eq_true rfl) (keB ?_)
      first | with_reducible refine r_ifd_ne hX dX5_as_39 (q := 42) rfl (tgt := 49) (by decide) (fun h39 => ?_) (fun h39 => ?_) | refine r_ifb_ne hX dX5_as_39 (q := 42) rfl (tgt := 49) (by decide) (fun h39 => ?_) (fun h39 => ?_)
      ·
        rw [esp] at h39
        obtain ⟨n, t, hn, ht, hs, hte⟩ := (ts_of hV).mp h39
        have hct : cl (μ (70 + cl x)) = t := by rw [hte]; exact cl_nI (by omega)
        have esp2 := esp.trans hte
        refine r_aload0 hX dX5_as_49 (q := 50) rfl ?_
        refine r_getR hX dX5_as_50 (q := 53) (c' := ch 0 0) rfl fX5_12 rfl ⟨by decide, by decide, rfl⟩ ?_
        refine r_getR hX dX5_as_53 (q := 56) rfl fX5_49 (ch_lay (j := 0) (by first | assumption | decide) (by decide) rfl) (rC_9 (by first | assumption | decide)) ?_
        refine r_getR hX dX5_as_56 (q := 59) rfl fX5_129 (ch_lay (j := 4) (by first | assumption | decide) (by decide) rfl) (rP_0 (by first | assumption | decide)) ?_
        refine r_iload3 hX dX5_as_59 (q := 60) rfl ?_
        refine r_ialdN hX dX5_as_60 (q := 61) rfl (ch_lay (j := 5) (by first | assumption | decide) (by decide) rfl) (by repeat' (first | assumption | with_reducible exact rfl | refine e_add ?_ ?_ | refine e_mul ?_ ?_)) (by first | assumption | omega) (by first | decide | omega) ?_
        refine r_iload2 hX dX5_as_61 (q := 62) rfl ?_
        have ek : G (ch 0 5) t = μ (40 + 3 * cl (μ (70 + cl x))) := by rw [hct]; exact (hC.2.2.1 t (by omega)).1
        rw [ek]
        refine r_callS hX dX5_as_62 (q := 65) rfl (c_X5_isUnder _ Γ _ _ _) kX5_248 mlX5_isUnder msX5_isUnder rfl rfl ⟨by decide, by decide⟩ (Nat.le_of_ble_eq_true rfl) (keB ?_)
        first | with_reducible refine r_ifd_eq hX dX5_as_65 (q := 68) rfl (tgt := 72) (by decide) (fun h65 => ?_) (fun h65 => ?_) | refine r_ifb_eq hX dX5_as_65 (q := 68) rfl (tgt := 72) (by decide) (fun h65 => ?_) (fun h65 => ?_)
        ·
          refine r_aload0 hX dX5_as_72 (q := 73) rfl ?_
          refine r_ldc hX dX5_as_73 (q := 75) rfl qX5_252 ?_
          refine r_callV hX dX5_as_75 (q := 78) rfl (c_X5_finding _ Γ _ _ 2 (by decide) (by decide +kernel)) kX5_67 mlX5_finding mvX5_finding rfl rfl rfl ⟨by decide, rfl⟩ ⟨by decide, by decide⟩ (Nat.le_of_ble_eq_true rfl) (keI ?_)
          refine r_iret hX hR dX5_as_78 ?_
          -- leaf 1 at 78
          refine ⟨_, rfl, ?_⟩
          first
            | exact CO.fin (k := 2) (by unfold oAs; rw [if_pos ⟨h7, h14⟩, if_pos h39]; exact if_neg (by rw [h65]; decide)) (by decide +kernel) hC fr0
            | exact CO.ok (w := μ (70 + cl x)) (μ' := μ) (by unfold oAs; rw [if_pos ⟨h7, h14⟩, if_pos h39]; exact if_pos h65) esp hC fr0
        ·
          refine r_iload3 hX dX5_as_68 (q := 69) rfl ?_
          refine r_goto hX dX5_as_69 (tgt := 78) (by decide) ?_
          refine r_iret hX hR dX5_as_78 ?_
          -- leaf 2 at 78
          refine ⟨_, rfl, ?_⟩
          first
            | exact CO.fin (k := 2) (by unfold oAs; rw [if_pos ⟨h7, h14⟩, if_pos h39]; exact if_neg (by rw [h65]; decide)) (by decide +kernel) hC fr0
            | exact CO.ok (w := μ (70 + cl x)) (μ' := μ) (by unfold oAs; rw [if_pos ⟨h7, h14⟩, if_pos h39]; exact if_pos h65) esp hC fr0
      ·
        refine r_aload0 hX dX5_as_42 (q := 43) rfl ?_
        refine r_ldc hX dX5_as_43 (q := 45) rfl qX5_247 ?_
        refine r_callV hX dX5_as_45 (q := 48) rfl (c_X5_finding _ Γ _ _ 5 (by decide) (by decide +kernel)) kX5_67 mlX5_finding mvX5_finding rfl rfl rfl ⟨by decide, rfl⟩ ⟨by decide, by decide⟩ (Nat.le_of_ble_eq_true rfl) (keI ?_)
        refine r_iret hX hR dX5_as_48 ?_
        -- leaf 3 at 48
        refine ⟨_, rfl, ?_⟩
        exact CO.fin (k := 5) (by unfold oAs; rw [if_pos ⟨h7, h14⟩]; exact if_neg (by rw [← esp, h39]; decide)) (by decide +kernel) hC fr0
    ·
      refine r_aload0 hX dX5_as_17 (q := 18) rfl ?_
      refine r_ldc hX dX5_as_18 (q := 20) rfl qX5_44 ?_
      refine r_callV hX dX5_as_20 (q := 23) rfl (c_X5_finding _ Γ _ _ 0 (by decide) (by decide +kernel)) kX5_67 mlX5_finding mvX5_finding rfl rfl rfl ⟨by decide, rfl⟩ ⟨by decide, by decide⟩ (Nat.le_of_ble_eq_true rfl) (keI ?_)
      refine r_iret hX hR dX5_as_23 ?_
      -- leaf 4 at 23
      refine ⟨_, rfl, ?_⟩
      first
        | exact CO.fin (k := 0) (if_neg (fun q => h7 q.1)) (by decide +kernel) hC fr0
        | exact CO.fin (k := 0) (if_neg (fun q => h14 q.2)) (by decide +kernel) hC fr0

set_option maxRecDepth 100000 in
set_option maxHeartbeats 4000000 in
theorem c_X5_sheet (l : Launch) (Γ : Gam) (G : GG) (B Z N : MU) (hS : SR G B Z N) (hZ : SInv Z) (x b n : Int32) : Sp l yX5_sheet cX5_sheet 4 (some .int) 2 45 [.ref (gad Γ 30), .int x, .int b, .int n] Γ G (pI (SO G (oSheet B Z N x b n))) := by
  refine Sp_of (own := RX5) rfl (by decide +kernel) rfl (Nat.le_of_ble_eq_true rfl) (fun X hX hR => ?_)
  show WP X Γ 0 [some (.ref (gad Γ 30)), some (.int x), some (.int b), some (.int n)] [] G
  have J36 : (nI 0 ≤ x ∧ x ≤ nI 3) → (b = nI 0 ∨ b = nI 8 ∨ b = nI 16 ∨ b = nI 32) → WP X Γ 36 [some (.ref (gad Γ 30)), some (.int x), some (.int b), some (.int n)] [] G := by
    intro  hs hb
    obtain ⟨xl, xe⟩ := ix_of (by decide) hs
    have x4 : cl x < 4 := by omega
    obtain ⟨s1, s2, s3⟩ := hS (cl x) (by omega)
    refine r_iload3 hX dX5_sheet_36 (q := 37) rfl ?_
    refine r_if_ge hX dX5_sheet_37 (q := 40) rfl (tgt := 48) (by decide) (fun h37 => ?_) (fun h37 => ?_)
    ·
      refine r_iload3 hX dX5_sheet_48 (q := 49) rfl ?_
      refine r_bipush hX dX5_sheet_49 (q := 51) rfl (v := nI 40) (by decide +kernel) ?_
      first | refine r_icmpN_le hX dX5_sheet_51 (q := 54) rfl (tgt := 61) (by decide) (by first | decide | omega) (by first | decide | omega) (fun h51 => ?_) (fun h51 => ?_) | refine r_icmp_le hX dX5_sheet_51 (q := 54) rfl (tgt := 61) (by decide) (fun h51 => ?_) (fun h51 => ?_)
      ·
        refine r_aload0 hX dX5_sheet_61 (q := 62) rfl ?_
        refine r_getR hX dX5_sheet_62 (q := 65) rfl fX5_35 rfl ⟨by decide, by decide, rfl⟩ ?_
        refine r_iload1 hX dX5_sheet_65 (q := 66) rfl ?_
        refine r_aald hX dX5_sheet_66 (q := 67) rfl xe (by omega) ?_
        refine r_iload2 hX dX5_sheet_67 (q := 68) rfl ?_
        refine r_iload3 hX dX5_sheet_68 (q := 69) rfl ?_
        refine r_callV hX dX5_sheet_69 (q := 72) rfl (c_X2_lay _ Γ _ (cl x) (by omega) _ _) kX5_260 mlX2_lay mvX2_lay rfl rfl (sh_lay (by first | assumption | decide)).1 ⟨by decide, rfl⟩ ⟨by decide, by decide⟩ (Nat.le_of_ble_eq_true rfl) (keV ?_)
        refine r_aload0 hX dX5_sheet_72 (q := 73) rfl ?_
        refine r_getR hX dX5_sheet_73 (q := 76) rfl fX5_35 rfl ⟨by decide, by decide, rfl⟩ ?_
        refine r_iload1 hX dX5_sheet_76 (q := 77) rfl ?_
        refine r_aald hX dX5_sheet_77 (q := 78) rfl xe (by omega) ?_
        refine r_getI hX dX5_sheet_78 (q := 81) rfl fX5_263 (sh_lay (by first | assumption | decide)).1 ⟨by decide, by decide, (sh_none_2 (by first | assumption | decide))⟩ ?_
        refine r_iret hX hR dX5_sheet_81 ?_
        -- leaf 0 at 81
        refine ⟨_, rfl, ?_⟩
        have e1 : ¬ 38 + 2 * cl x + 1 = 38 + 2 * cl x := by omega
        have ho : oSheet B Z N x b n = .inr (if b = nI 0 then nI 0 else n, upd B (cl x) b, upd Z (cl x) (if b = nI 0 then nI 0 else n), fun k => if 40 * cl x ≤ k ∧ k < 40 * cl x + 40 then nI 0 else N k) := by
          unfold oSheet
          rw [if_pos ⟨hs, hb⟩, if_neg (by rw [nI_0]; exact Int32.not_lt.mpr h37)]
          exact if_neg (Int32.not_lt.mpr h51)
        rw [ho]
        generalize (if b = nI 0 then nI 0 else n) = z
        refine ⟨?_, fun s hs2 => ?_, fun c hc => ?_⟩
        · have e2 : ¬ 38 + 2 * cl x = 38 + 2 * cl x + 1 := by omega
          simp [upc, up]
        · obtain ⟨q1, q2, q3⟩ := hS s hs2
          dsimp only
          by_cases e : s = cl x
          · rw [e]
            refine ⟨?_, ?_, fun j hj => ?_⟩
            · rw [upd_eq]; simp only [upc, show ¬ 38 + 2 * cl x = 38 + 2 * cl x + 1 by omega, if_false]; exact (up_ne (by omega)).trans up_eq
            · rw [upd_eq]; simp only [upc, show ¬ 38 + 2 * cl x = 38 + 2 * cl x + 1 by omega, if_false]; exact up_eq
            · rw [if_pos (by omega)]; simp [upc, hj]
          · rw [upd_ne e, upd_ne e]
            have a1 : ¬ 38 + 2 * s = 38 + 2 * cl x := by omega
            have a2 : ¬ 38 + 2 * s = 38 + 2 * cl x + 1 := by omega
            have a3 : ¬ 38 + 2 * s + 1 = 38 + 2 * cl x := by omega
            have a4 : ¬ 38 + 2 * s + 1 = 38 + 2 * cl x + 1 := by omega
            refine ⟨?_, ?_, fun j hj => ?_⟩
            · simp only [upc, up, a1, a2, if_false, false_and]; exact q1
            · simp only [upc, up, a1, a2, if_false, false_and]; exact q2
            · rw [if_neg (by omega)]; simp only [upc, up, a3, a4, if_false, false_and]; exact q3 j hj
        · have a1 : ¬ c = 38 + 2 * cl x := by omega
          have a2 : ¬ c = 38 + 2 * cl x + 1 := by omega
          funext k
          simp only [upc, up, a1, a2, if_false, false_and]
      ·
        refine r_aload0 hX dX5_sheet_54 (q := 55) rfl ?_
        refine r_ldc hX dX5_sheet_55 (q := 57) rfl qX5_44 ?_
        refine r_callV hX dX5_sheet_57 (q := 60) rfl (c_X5_finding _ Γ _ _ 0 (by decide) (by decide +kernel)) kX5_67 mlX5_finding mvX5_finding rfl rfl rfl ⟨by decide, rfl⟩ ⟨by decide, by decide⟩ (Nat.le_of_ble_eq_true rfl) (keI ?_)
        refine r_iret hX hR dX5_sheet_60 ?_
        -- leaf 1 at 60
        refine ⟨_, rfl, ?_⟩
        exact SO.fin (k := 0) (by unfold oSheet; rw [if_pos ⟨hs, hb⟩, if_neg (by rw [nI_0]; exact Int32.not_lt.mpr h37)]; exact if_pos (Int32.not_le.mp h51)) (by decide +kernel)
    ·
      refine r_aload0 hX dX5_sheet_40 (q := 41) rfl ?_
      refine r_ldc_w hX dX5_sheet_41 (q := 44) rfl qX5_259 ?_
      refine r_callV hX dX5_sheet_44 (q := 47) rfl (c_X5_finding _ Γ _ _ 6 (by decide) (by decide +kernel)) kX5_67 mlX5_finding mvX5_finding rfl rfl rfl ⟨by decide, rfl⟩ ⟨by decide, by decide⟩ (Nat.le_of_ble_eq_true rfl) (keI ?_)
      refine r_iret hX hR dX5_sheet_47 ?_
      -- leaf 2 at 47
      refine ⟨_, rfl, ?_⟩
      exact SO.fin (k := 6) (by unfold oSheet; rw [if_pos ⟨hs, hb⟩]; exact if_pos (by rw [nI_0]; exact Int32.not_le.mp h37)) (by decide +kernel)
  refine r_iload1 hX dX5_sheet_0 (q := 1) rfl ?_
  refine r_callS hX dX5_sheet_1 (q := 4) rfl (c_X5_isSheet _ Γ _ _) kX5_256 mlX5_isSheet msX5_isSheet rfl rfl ⟨by decide, by decide⟩ (Nat.le_of_ble_eq_true rfl) (keB ?_)
  first | with_reducible refine r_ifd_eq hX dX5_sheet_4 (q := 7) rfl (tgt := 29) (by decide) (fun h4 => ?_) (fun h4 => ?_) | refine r_ifb_eq hX dX5_sheet_4 (q := 7) rfl (tgt := 29) (by decide) (fun h4 => ?_) (fun h4 => ?_)
  ·
    refine r_aload0 hX dX5_sheet_29 (q := 30) rfl ?_
    refine r_ldc hX dX5_sheet_30 (q := 32) rfl qX5_44 ?_
    refine r_callV hX dX5_sheet_32 (q := 35) rfl (c_X5_finding _ Γ _ _ 0 (by decide) (by decide +kernel)) kX5_67 mlX5_finding mvX5_finding rfl rfl rfl ⟨by decide, rfl⟩ ⟨by decide, by decide⟩ (Nat.le_of_ble_eq_true rfl) (keI ?_)
    refine r_iret hX hR dX5_sheet_35 ?_
    -- leaf 3 at 35
    refine ⟨_, rfl, ?_⟩
    first
      | exact SO.fin (k := 0) (if_neg (fun q => h4 q.1)) (by decide +kernel)
      | exact SO.fin (k := 0) (if_neg (fun q => q.2.elim (fun z => h8 (by rw [z, nI_0])) (fun z => z.elim h14 (fun z => z.elim h20 h26)))) (by decide +kernel)
  ·
    obtain ⟨xl, xe⟩ := ix_of (by decide) h4
    have x4 : cl x < 4 := by omega
    obtain ⟨s1, s2, s3⟩ := hS (cl x) (by omega)
    refine r_iload2 hX dX5_sheet_7 (q := 8) rfl ?_
    refine r_if_eq hX dX5_sheet_8 (q := 11) rfl (tgt := 36) (by decide) (fun h8 => ?_) (fun h8 => ?_)
    ·
      refine J36  ?_ ?_
      ·
        exact h4
      ·
        first | exact Or.inl (by rw [nI_0]; exact h8) | exact Or.inr (Or.inl h14) | exact Or.inr (Or.inr (Or.inl h20)) | exact Or.inr (Or.inr (Or.inr h26))
    ·
      refine r_iload2 hX dX5_sheet_11 (q := 12) rfl ?_
      refine r_bipush hX dX5_sheet_12 (q := 14) rfl (v := nI 8) (by decide +kernel) ?_
      first | refine r_icmpN_eq hX dX5_sheet_14 (q := 17) rfl (tgt := 36) (by decide) (by first | decide | omega) (by first | decide | omega) (fun h14 => ?_) (fun h14 => ?_) | refine r_icmp_eq hX dX5_sheet_14 (q := 17) rfl (tgt := 36) (by decide) (fun h14 => ?_) (fun h14 => ?_)
      ·
        refine J36  ?_ ?_
        ·
          exact h4
        ·
          first | exact Or.inl (by rw [nI_0]; exact h8) | exact Or.inr (Or.inl h14) | exact Or.inr (Or.inr (Or.inl h20)) | exact Or.inr (Or.inr (Or.inr h26))
      ·
        refine r_iload2 hX dX5_sheet_17 (q := 18) rfl ?_
        refine r_bipush hX dX5_sheet_18 (q := 20) rfl (v := nI 16) (by decide +kernel) ?_
        first | refine r_icmpN_eq hX dX5_sheet_20 (q := 23) rfl (tgt := 36) (by decide) (by first | decide | omega) (by first | decide | omega) (fun h20 => ?_) (fun h20 => ?_) | refine r_icmp_eq hX dX5_sheet_20 (q := 23) rfl (tgt := 36) (by decide) (fun h20 => ?_) (fun h20 => ?_)
        ·
          refine J36  ?_ ?_
          ·
            exact h4
          ·
            first | exact Or.inl (by rw [nI_0]; exact h8) | exact Or.inr (Or.inl h14) | exact Or.inr (Or.inr (Or.inl h20)) | exact Or.inr (Or.inr (Or.inr h26))
        ·
          refine r_iload2 hX dX5_sheet_23 (q := 24) rfl ?_
          refine r_bipush hX dX5_sheet_24 (q := 26) rfl (v := nI 32) (by decide +kernel) ?_
          first | refine r_icmpN_eq hX dX5_sheet_26 (q := 29) rfl (tgt := 36) (by decide) (by first | decide | omega) (by first | decide | omega) (fun h26 => ?_) (fun h26 => ?_) | refine r_icmp_eq hX dX5_sheet_26 (q := 29) rfl (tgt := 36) (by decide) (fun h26 => ?_) (fun h26 => ?_)
          ·
            refine J36  ?_ ?_
            ·
              exact h4
            ·
              first | exact Or.inl (by rw [nI_0]; exact h8) | exact Or.inr (Or.inl h14) | exact Or.inr (Or.inr (Or.inl h20)) | exact Or.inr (Or.inr (Or.inr h26))
          ·
            refine r_aload0 hX dX5_sheet_29 (q := 30) rfl ?_
            refine r_ldc hX dX5_sheet_30 (q := 32) rfl qX5_44 ?_
            refine r_callV hX dX5_sheet_32 (q := 35) rfl (c_X5_finding _ Γ _ _ 0 (by decide) (by decide +kernel)) kX5_67 mlX5_finding mvX5_finding rfl rfl rfl ⟨by decide, rfl⟩ ⟨by decide, by decide⟩ (Nat.le_of_ble_eq_true rfl) (keI ?_)
            refine r_iret hX hR dX5_sheet_35 ?_
            -- leaf 4 at 35
            refine ⟨_, rfl, ?_⟩
            first
              | exact SO.fin (k := 0) (if_neg (fun q => h4 q.1)) (by decide +kernel)
              | exact SO.fin (k := 0) (if_neg (fun q => q.2.elim (fun z => h8 (by rw [z, nI_0])) (fun z => z.elim h14 (fun z => z.elim h20 h26)))) (by decide +kernel)

set_option maxRecDepth 100000 in
set_option maxHeartbeats 4000000 in
theorem c_X5_write (l : Launch) (Γ : Gam) (G : GG) (B Z N : MU) (hS : SR G B Z N) (hZ : SInv Z) (x y v : Int32) : Sp l yX5_write cX5_write 5 (some .int) 2 44 [.ref (gad Γ 30), .int x, .int y, .int v] Γ G (pI (SO G (oWrite B Z N x y v))) := by
  refine Sp_of (own := RX5) rfl (by decide +kernel) rfl (Nat.le_of_ble_eq_true rfl) (fun X hX hR => ?_)
  show WP X Γ 0 [some (.ref (gad Γ 30)), some (.int x), some (.int y), some (.int v), none] [] G
  refine r_iload1 hX dX5_write_0 (q := 1) rfl ?_
  refine r_callS hX dX5_write_1 (q := 4) rfl (c_X5_isSheet _ Γ _ _) kX5_256 mlX5_isSheet msX5_isSheet rfl rfl ⟨by decide, by decide⟩ (Nat.le_of_ble_eq_true rfl) (keB ?_)
  first | with_reducible refine r_ifd_ne hX dX5_write_4 (q := 7) rfl (tgt := 14) (by decide) (fun h4 => ?_) (fun h4 => ?_) | refine r_ifb_ne hX dX5_write_4 (q := 7) rfl (tgt := 14) (by decide) (fun h4 => ?_) (fun h4 => ?_)
  ·
    obtain ⟨xl, xe⟩ := ix_of (by decide) h4
    have x4 : cl x < 4 := by omega
    obtain ⟨s1, s2, s3⟩ := hS (cl x) (by omega)
    refine r_aload0 hX dX5_write_14 (q := 15) rfl ?_
    refine r_getR hX dX5_write_15 (q := 18) rfl fX5_35 rfl ⟨by decide, by decide, rfl⟩ ?_
    refine r_iload1 hX dX5_write_18 (q := 19) rfl ?_
    refine r_aald hX dX5_write_19 (q := 20) rfl xe (by omega) ?_
    refine r_astore4 hX dX5_write_20 (q := 22) rfl rfl ?_
    refine r_aload4 hX dX5_write_22 (q := 24) rfl ?_
    refine r_callV hX dX5_write_24 (q := 27) rfl (c_X2_isMissing _ Γ _ (cl x) (by omega)) kX5_264 mlX2_isMissing mvX2_isMissing rfl rfl (sh_lay (by first | assumption | decide)).1 ⟨by decide, rfl⟩ ⟨by decide, by decide⟩ (Nat.le_of_ble_eq_true rfl) (keB ?_)
    first | with_reducible refine r_ifd_eq hX dX5_write_27 (q := 30) rfl (tgt := 37) (by decide) (fun h27 => ?_) (fun h27 => ?_) | refine r_ifb_eq hX dX5_write_27 (q := 30) rfl (tgt := 37) (by decide) (fun h27 => ?_) (fun h27 => ?_)
    ·
      refine r_iload2 hX dX5_write_37 (q := 38) rfl ?_
      refine r_iconst hX dX5_write_38 (q := 39) rfl (v := nI 0) (by decide +kernel) ?_
      refine r_aload4 hX dX5_write_39 (q := 41) rfl ?_
      refine r_getI hX dX5_write_41 (q := 44) rfl fX5_263 (sh_lay (by first | assumption | decide)).1 ⟨by decide, by decide, (sh_none_2 (by first | assumption | decide))⟩ ?_
      refine r_iconst hX dX5_write_44 (q := 45) rfl (v := nI 1) (by decide +kernel) ?_
      refine r_isub hX dX5_write_45 (q := 46) rfl ?_
      refine r_callS hX dX5_write_46 (q := 49) rfl (c_X5_within _ Γ _ _ _ _) kX5_45 mlX5_within msX5_within rfl rfl ⟨by decide, by decide⟩ (Nat.le_of_ble_eq_true rfl) (keB ?_)
      first | with_reducible refine r_ifd_ne hX dX5_write_49 (q := 52) rfl (tgt := 59) (by decide) (fun h49 => ?_) (fun h49 => ?_) | refine r_ifb_ne hX dX5_write_49 (q := 52) rfl (tgt := 59) (by decide) (fun h49 => ?_) (fun h49 => ?_)
      ·
        obtain ⟨z, z1, z2⟩ := hZ (cl x) (by omega)
        rw [s2, z2] at h49
        obtain ⟨yl, ye⟩ := ix_pred (by omega) h49
        refine r_aload4 hX dX5_write_59 (q := 61) rfl ?_
        refine r_iload2 hX dX5_write_61 (q := 62) rfl ?_
        refine r_iload3 hX dX5_write_62 (q := 63) rfl ?_
        refine r_callV hX dX5_write_63 (q := 66) rfl (c_X2_put _ Γ _ (cl x) (by omega) _ (cl y) ye (by omega) _) kX5_267 mlX2_put mvX2_put rfl rfl (sh_lay (by first | assumption | decide)).1 ⟨by decide, rfl⟩ ⟨by decide, by decide⟩ (Nat.le_of_ble_eq_true rfl) (keV ?_)
        refine r_iconst hX dX5_write_66 (q := 67) rfl (v := nI 1) (by decide +kernel) ?_
        refine r_iret hX hR dX5_write_67 ?_
        -- leaf 0 at 67
        refine ⟨_, rfl, ?_⟩
        have ho : oWrite B Z N x y v = .inr (nI 1, B, Z, upd N (40 * cl x + cl y) (narS (B (cl x)) v)) := by
          unfold oWrite
          rw [if_pos h4, if_neg (fun q => h27 (s1.trans q))]
          exact if_pos (by rw [z2]; exact h49)
        rw [ho, s1]
        refine ⟨rfl, sh_set hS (by omega) (by omega) _, fun c hc => ?_⟩
        funext k
        exact up_ne (by omega)
      ·
        refine r_aload0 hX dX5_write_52 (q := 53) rfl ?_
        refine r_ldc hX dX5_write_53 (q := 55) rfl qX5_44 ?_
        refine r_callV hX dX5_write_55 (q := 58) rfl (c_X5_finding _ Γ _ _ 0 (by decide) (by decide +kernel)) kX5_67 mlX5_finding mvX5_finding rfl rfl rfl ⟨by decide, rfl⟩ ⟨by decide, by decide⟩ (Nat.le_of_ble_eq_true rfl) (keI ?_)
        refine r_iret hX hR dX5_write_58 ?_
        -- leaf 1 at 58
        refine ⟨_, rfl, ?_⟩
        exact SO.fin (k := 0) (by unfold oWrite; rw [if_pos h4, if_neg (fun q => h27 (s1.trans q))]; exact if_neg (by rw [← s2]; exact h49)) (by decide +kernel)
    ·
      refine r_aload0 hX dX5_write_30 (q := 31) rfl ?_
      refine r_ldc hX dX5_write_31 (q := 33) rfl qX5_247 ?_
      refine r_callV hX dX5_write_33 (q := 36) rfl (c_X5_finding _ Γ _ _ 5 (by decide) (by decide +kernel)) kX5_67 mlX5_finding mvX5_finding rfl rfl rfl ⟨by decide, rfl⟩ ⟨by decide, by decide⟩ (Nat.le_of_ble_eq_true rfl) (keI ?_)
      refine r_iret hX hR dX5_write_36 ?_
      -- leaf 2 at 36
      refine ⟨_, rfl, ?_⟩
      exact SO.fin (k := 5) (by unfold oWrite; rw [if_pos h4]; exact if_pos (s1.symm.trans h27)) (by decide +kernel)
  ·
    refine r_aload0 hX dX5_write_7 (q := 8) rfl ?_
    refine r_ldc hX dX5_write_8 (q := 10) rfl qX5_44 ?_
    refine r_callV hX dX5_write_10 (q := 13) rfl (c_X5_finding _ Γ _ _ 0 (by decide) (by decide +kernel)) kX5_67 mlX5_finding mvX5_finding rfl rfl rfl ⟨by decide, rfl⟩ ⟨by decide, by decide⟩ (Nat.le_of_ble_eq_true rfl) (keI ?_)
    refine r_iret hX hR dX5_write_13 ?_
    -- leaf 3 at 13
    refine ⟨_, rfl, ?_⟩
    exact SO.fin (k := 0) (if_neg h4) (by decide +kernel)

set_option maxRecDepth 100000 in
set_option maxHeartbeats 4000000 in
theorem c_X5_copy (l : Launch) (Γ : Gam) (G : GG) (B Z N : MU) (hS : SR G B Z N) (hZ : SInv Z) (x y z u n : Int32) : Sp l yX5_copy cX5_copy 8 (some .int) 2 44 [.ref (gad Γ 30), .int x, .int y, .int z, .int u, .int n] Γ G (pI (SO G (oCopy B Z N x y z u n))) := by
  refine Sp_of (own := RX5) rfl (by decide +kernel) rfl (Nat.le_of_ble_eq_true rfl) (fun X hX hR => ?_)
  show WP X Γ 0 [some (.ref (gad Γ 30)), some (.int x), some (.int y), some (.int z), some (.int u), some (.int n), none, none] [] G
  refine r_iload1 hX dX5_copy_0 (q := 1) rfl ?_
  refine r_callS hX dX5_copy_1 (q := 4) rfl (c_X5_isSheet _ Γ _ _) kX5_256 mlX5_isSheet msX5_isSheet rfl rfl ⟨by decide, by decide⟩ (Nat.le_of_ble_eq_true rfl) (keB ?_)
  first | with_reducible refine r_ifd_eq hX dX5_copy_4 (q := 7) rfl (tgt := 14) (by decide) (fun h4 => ?_) (fun h4 => ?_) | refine r_ifb_eq hX dX5_copy_4 (q := 7) rfl (tgt := 14) (by decide) (fun h4 => ?_) (fun h4 => ?_)
  ·
    refine r_aload0 hX dX5_copy_14 (q := 15) rfl ?_
    refine r_ldc hX dX5_copy_15 (q := 17) rfl qX5_44 ?_
    refine r_callV hX dX5_copy_17 (q := 20) rfl (c_X5_finding _ Γ _ _ 0 (by decide) (by decide +kernel)) kX5_67 mlX5_finding mvX5_finding rfl rfl rfl ⟨by decide, rfl⟩ ⟨by decide, by decide⟩ (Nat.le_of_ble_eq_true rfl) (keI ?_)
    refine r_iret hX hR dX5_copy_20 ?_
    -- leaf 0 at 20
    refine ⟨_, rfl, ?_⟩
    first
      | exact SO.fin (k := 0) (if_neg (fun q => h4 q.1)) (by decide +kernel)
      | exact SO.fin (k := 0) (if_neg (fun q => h11 q.2)) (by decide +kernel)
  ·
    obtain ⟨xl, xe⟩ := ix_of (by decide) h4
    have x4 : cl x < 4 := by omega
    obtain ⟨s1, s2, s3⟩ := hS (cl x) (by omega)
    refine r_iload3 hX dX5_copy_7 (q := 8) rfl ?_
    refine r_callS hX dX5_copy_8 (q := 11) rfl (c_X5_isSheet _ Γ _ _) kX5_256 mlX5_isSheet msX5_isSheet rfl rfl ⟨by decide, by decide⟩ (Nat.le_of_ble_eq_true rfl) (keB ?_)
    first | with_reducible refine r_ifd_ne hX dX5_copy_11 (q := 14) rfl (tgt := 21) (by decide) (fun h11 => ?_) (fun h11 => ?_) | refine r_ifb_ne hX dX5_copy_11 (q := 14) rfl (tgt := 21) (by decide) (fun h11 => ?_) (fun h11 => ?_)
    ·
      obtain ⟨zl, ze⟩ := ix_of (by decide) h11
      have z4 : cl z < 4 := by omega
      obtain ⟨t1, t2, t3⟩ := hS (cl z) (by omega)
      obtain ⟨sx, sx1, sx2⟩ := hZ (cl x) (by omega)
      obtain ⟨sz, sz1, sz2⟩ := hZ (cl z) (by omega)
      refine r_aload0 hX dX5_copy_21 (q := 22) rfl ?_
      refine r_getR hX dX5_copy_22 (q := 25) rfl fX5_35 rfl ⟨by decide, by decide, rfl⟩ ?_
      refine r_iload1 hX dX5_copy_25 (q := 26) rfl ?_
      refine r_aald hX dX5_copy_26 (q := 27) rfl xe (by omega) ?_
      refine r_astore6 hX dX5_copy_27 (q := 29) rfl rfl ?_
      refine r_aload0 hX dX5_copy_29 (q := 30) rfl ?_
      refine r_getR hX dX5_copy_30 (q := 33) rfl fX5_35 rfl ⟨by decide, by decide, rfl⟩ ?_
      refine r_iload3 hX dX5_copy_33 (q := 34) rfl ?_
      refine r_aald hX dX5_copy_34 (q := 35) rfl ze (by omega) ?_
      refine r_astore7 hX dX5_copy_35 (q := 37) rfl rfl ?_
      refine r_aload6 hX dX5_copy_37 (q := 39) rfl ?_
      refine r_callV hX dX5_copy_39 (q := 42) rfl (c_X2_isMissing _ Γ _ (cl x) x4) kX5_264 mlX2_isMissing mvX2_isMissing rfl rfl (sh_lay x4).1 ⟨by decide, rfl⟩ ⟨by decide, by decide⟩ (Nat.le_of_ble_eq_true rfl) (keB ?_)
      first | with_reducible refine r_ifd_ne hX dX5_copy_42 (q := 45) rfl (tgt := 53) (by decide) (fun h42 => ?_) (fun h42 => ?_) | refine r_ifb_ne hX dX5_copy_42 (q := 45) rfl (tgt := 53) (by decide) (fun h42 => ?_) (fun h42 => ?_)
      ·
        refine r_aload0 hX dX5_copy_53 (q := 54) rfl ?_
        refine r_ldc hX dX5_copy_54 (q := 56) rfl qX5_247 ?_
        refine r_callV hX dX5_copy_56 (q := 59) rfl (c_X5_finding _ Γ _ _ 5 (by decide) (by decide +kernel)) kX5_67 mlX5_finding mvX5_finding rfl rfl rfl ⟨by decide, rfl⟩ ⟨by decide, by decide⟩ (Nat.le_of_ble_eq_true rfl) (keI ?_)
        refine r_iret hX hR dX5_copy_59 ?_
        -- leaf 1 at 59
        refine ⟨_, rfl, ?_⟩
        first
          | exact SO.fin (k := 5) (by unfold oCopy; rw [if_pos ⟨h4, h11⟩]; exact if_pos (Or.inl (s1.symm.trans h42))) (by decide +kernel)
          | exact SO.fin (k := 5) (by unfold oCopy; rw [if_pos ⟨h4, h11⟩]; exact if_pos (Or.inr (t1.symm.trans h50))) (by decide +kernel)
      ·
        refine r_aload7 hX dX5_copy_45 (q := 47) rfl ?_
        refine r_callV hX dX5_copy_47 (q := 50) rfl (c_X2_isMissing _ Γ _ (cl z) z4) kX5_264 mlX2_isMissing mvX2_isMissing rfl rfl (sh_lay z4).1 ⟨by decide, rfl⟩ ⟨by decide, by decide⟩ (Nat.le_of_ble_eq_true rfl) (keB ?_)
        first | with_reducible refine r_ifd_eq hX dX5_copy_50 (q := 53) rfl (tgt := 60) (by decide) (fun h50 => ?_) (fun h50 => ?_) | refine r_ifb_eq hX dX5_copy_50 (q := 53) rfl (tgt := 60) (by decide) (fun h50 => ?_) (fun h50 => ?_)
        ·
          refine r_aload6 hX dX5_copy_60 (q := 62) rfl ?_
          refine r_getI hX dX5_copy_62 (q := 65) rfl fX5_270 (sh_lay x4).1 ⟨by decide, by decide, (sh_none_1 (by first | assumption | decide))⟩ ?_
          refine r_aload7 hX dX5_copy_65 (q := 67) rfl ?_
          refine r_getI hX dX5_copy_67 (q := 70) rfl fX5_270 (sh_lay z4).1 ⟨by decide, by decide, (sh_none_1 (by first | assumption | decide))⟩ ?_
          first | refine r_icmpN_eq hX dX5_copy_70 (q := 73) rfl (tgt := 80) (by decide) (by first | decide | omega) (by first | decide | omega) (fun h70 => ?_) (fun h70 => ?_) | refine r_icmp_eq hX dX5_copy_70 (q := 73) rfl (tgt := 80) (by decide) (fun h70 => ?_) (fun h70 => ?_)
          ·
            refine r_aload6 hX dX5_copy_80 (q := 82) rfl ?_
            refine r_iload2 hX dX5_copy_82 (q := 83) rfl ?_
            refine r_iload5 hX dX5_copy_83 (q := 85) rfl ?_
            refine r_callV hX dX5_copy_85 (q := 88) rfl (c_X2_has _ Γ _ (cl x) x4 _ _) kX5_273 mlX2_has mvX2_has rfl rfl (sh_lay x4).1 ⟨by decide, rfl⟩ ⟨by decide, by decide⟩ (Nat.le_of_ble_eq_true rfl) (keB ?_)
            first | with_reducible refine r_ifd_eq hX dX5_copy_88 (q := 91) rfl (tgt := 103) (by decide) (fun h88 => ?_) (fun h88 => ?_) | refine r_ifb_eq hX dX5_copy_88 (q := 91) rfl (tgt := 103) (by decide) (fun h88 => ?_) (fun h88 => ?_)
            ·
              refine r_aload0 hX dX5_copy_103 (q := 104) rfl ?_
              refine r_ldc hX dX5_copy_104 (q := 106) rfl qX5_44 ?_
              refine r_callV hX dX5_copy_106 (q := 109) rfl (c_X5_finding _ Γ _ _ 0 (by decide) (by decide +kernel)) kX5_67 mlX5_finding mvX5_finding rfl rfl rfl ⟨by decide, rfl⟩ ⟨by decide, by decide⟩ (Nat.le_of_ble_eq_true rfl) (keI ?_)
              refine r_iret hX hR dX5_copy_109 ?_
              -- leaf 2 at 109
              refine ⟨_, rfl, ?_⟩
              rw [s1, t1] at h70
              first
                | exact SO.fin (k := 0) (by unfold oCopy; rw [if_pos ⟨h4, h11⟩, if_neg (not_or.mpr ⟨fun q => h42 (s1.trans q), fun q => h50 (t1.trans q)⟩), if_neg (fun q => q h70)]; exact if_neg (fun q => h88 (by rw [s2]; exact q.1))) (by decide +kernel)
                | exact SO.fin (k := 0) (by unfold oCopy; rw [if_pos ⟨h4, h11⟩, if_neg (not_or.mpr ⟨fun q => h42 (s1.trans q), fun q => h50 (t1.trans q)⟩), if_neg (fun q => q h70)]; exact if_neg (fun q => h100 (by rw [t2]; exact q.2))) (by decide +kernel)
            ·
              refine r_aload7 hX dX5_copy_91 (q := 93) rfl ?_
              refine r_iload4 hX dX5_copy_93 (q := 95) rfl ?_
              refine r_iload5 hX dX5_copy_95 (q := 97) rfl ?_
              refine r_callV hX dX5_copy_97 (q := 100) rfl (c_X2_has _ Γ _ (cl z) z4 _ _) kX5_273 mlX2_has mvX2_has rfl rfl (sh_lay z4).1 ⟨by decide, rfl⟩ ⟨by decide, by decide⟩ (Nat.le_of_ble_eq_true rfl) (keB ?_)
              first | with_reducible refine r_ifd_ne hX dX5_copy_100 (q := 103) rfl (tgt := 110) (by decide) (fun h100 => ?_) (fun h100 => ?_) | refine r_ifb_ne hX dX5_copy_100 (q := 103) rfl (tgt := 110) (by decide) (fun h100 => ?_) (fun h100 => ?_)
              ·
                rw [s2, sx2] at h88
                rw [t2, sz2] at h100
                obtain ⟨n1, n2, y1, y2⟩ := has_of (by omega) h88
                obtain ⟨n3, n4, u1, u2⟩ := has_of (by omega) h100
                refine r_aload6 hX dX5_copy_110 (q := 112) rfl ?_
                refine r_getR hX dX5_copy_112 (q := 115) rfl fX5_276 (sh_lay x4).1 ⟨by decide, by decide, (sh_lay (by first | assumption | decide)).2.2⟩ ?_
                refine r_iload2 hX dX5_copy_115 (q := 116) rfl ?_
                refine r_aload7 hX dX5_copy_116 (q := 118) rfl ?_
                refine r_getR hX dX5_copy_118 (q := 121) rfl fX5_276 (sh_lay z4).1 ⟨by decide, by decide, (sh_lay (by first | assumption | decide)).2.2⟩ ?_
                refine r_iload4 hX dX5_copy_121 (q := 123) rfl ?_
                refine r_iload5 hX dX5_copy_123 (q := 125) rfl ?_
                refine r_copy hX dX5_copy_125 (q := 128) rfl kX5_279 msCopy (sh_lay (by first | assumption | decide)).2.1 (sh_lay (by first | assumption | decide)).2.1 (by rw [y2]; exact nI_pos (by omega)) (by rw [u2]; exact nI_pos (by omega)) (by rw [n2]; exact nI_pos (by omega)) (by show cl y + cl n ≤ 40; omega) (by show cl u + cl n ≤ 40; omega) ⟨by decide, Nat.le_of_ble_eq_true rfl⟩ ?_
                refine r_iload5 hX dX5_copy_128 (q := 130) rfl ?_
                refine r_iret hX hR dX5_copy_130 ?_
                -- leaf 3 at 130
                refine ⟨_, rfl, ?_⟩
                rw [s1, t1] at h70
                have ho : oCopy B Z N x y z u n = .inr (n, B, Z, fun k => if 40 * cl z + cl u ≤ k ∧ k < 40 * cl z + cl u + cl n then N (40 * cl x + cl y + (k - (40 * cl z + cl u))) else N k) := by
                  unfold oCopy
                  rw [if_pos ⟨h4, h11⟩, if_neg (not_or.mpr ⟨fun q => h42 (s1.trans q), fun q => h50 (t1.trans q)⟩), if_neg (fun q => q h70)]
                  exact if_pos ⟨by rw [sx2]; exact h88, by rw [sz2]; exact h100⟩
                rw [ho]
                refine ⟨rfl, fun s hs2 => ?_, fun c hc => ?_⟩
                · obtain ⟨q1, q2, q3⟩ := hS s hs2
                  have a1 : ¬ 38 + 2 * s = 38 + 2 * cl z + 1 := by omega
                  refine ⟨?_, ?_, fun j hj => ?_⟩
                  · simp only [upc, a1, if_false]; exact q1
                  · simp only [upc, a1, if_false]; exact q2
                  · dsimp only
                    by_cases e : s = cl z
                    · subst e
                      simp only [upc, if_true]
                      show va_cpy _ _ (cl y) (cl u) (cl n) j = _
                      unfold va_cpy
                      by_cases h : cl u ≤ j ∧ j < cl u + cl n
                      · rw [if_pos h, if_pos (by omega), s3 _ (by omega)]
                        congr 1
                        omega
                      · rw [if_neg h, if_neg (by omega)]
                        exact q3 j hj
                    · have a3 : ¬ 38 + 2 * s + 1 = 38 + 2 * cl z + 1 := by omega
                      simp only [upc, a3, if_false]
                      rw [if_neg (by omega)]
                      exact q3 j hj
                · have a2 : ¬ c = 38 + 2 * cl z + 1 := by omega
                  funext k
                  simp only [upc, a2, if_false]
              ·
                refine r_aload0 hX dX5_copy_103 (q := 104) rfl ?_
                refine r_ldc hX dX5_copy_104 (q := 106) rfl qX5_44 ?_
                refine r_callV hX dX5_copy_106 (q := 109) rfl (c_X5_finding _ Γ _ _ 0 (by decide) (by decide +kernel)) kX5_67 mlX5_finding mvX5_finding rfl rfl rfl ⟨by decide, rfl⟩ ⟨by decide, by decide⟩ (Nat.le_of_ble_eq_true rfl) (keI ?_)
                refine r_iret hX hR dX5_copy_109 ?_
                -- leaf 4 at 109
                refine ⟨_, rfl, ?_⟩
                rw [s1, t1] at h70
                first
                  | exact SO.fin (k := 0) (by unfold oCopy; rw [if_pos ⟨h4, h11⟩, if_neg (not_or.mpr ⟨fun q => h42 (s1.trans q), fun q => h50 (t1.trans q)⟩), if_neg (fun q => q h70)]; exact if_neg (fun q => h88 (by rw [s2]; exact q.1))) (by decide +kernel)
                  | exact SO.fin (k := 0) (by unfold oCopy; rw [if_pos ⟨h4, h11⟩, if_neg (not_or.mpr ⟨fun q => h42 (s1.trans q), fun q => h50 (t1.trans q)⟩), if_neg (fun q => q h70)]; exact if_neg (fun q => h100 (by rw [t2]; exact q.2))) (by decide +kernel)
          ·
            refine r_aload0 hX dX5_copy_73 (q := 74) rfl ?_
            refine r_ldc hX dX5_copy_74 (q := 76) rfl qX5_252 ?_
            refine r_callV hX dX5_copy_76 (q := 79) rfl (c_X5_finding _ Γ _ _ 2 (by decide) (by decide +kernel)) kX5_67 mlX5_finding mvX5_finding rfl rfl rfl ⟨by decide, rfl⟩ ⟨by decide, by decide⟩ (Nat.le_of_ble_eq_true rfl) (keI ?_)
            refine r_iret hX hR dX5_copy_79 ?_
            -- leaf 5 at 79
            refine ⟨_, rfl, ?_⟩
            rw [s1, t1] at h70
            exact SO.fin (k := 2) (by unfold oCopy; rw [if_pos ⟨h4, h11⟩, if_neg (not_or.mpr ⟨fun q => h42 (s1.trans q), fun q => h50 (t1.trans q)⟩)]; exact if_pos h70) (by decide +kernel)
        ·
          refine r_aload0 hX dX5_copy_53 (q := 54) rfl ?_
          refine r_ldc hX dX5_copy_54 (q := 56) rfl qX5_247 ?_
          refine r_callV hX dX5_copy_56 (q := 59) rfl (c_X5_finding _ Γ _ _ 5 (by decide) (by decide +kernel)) kX5_67 mlX5_finding mvX5_finding rfl rfl rfl ⟨by decide, rfl⟩ ⟨by decide, by decide⟩ (Nat.le_of_ble_eq_true rfl) (keI ?_)
          refine r_iret hX hR dX5_copy_59 ?_
          -- leaf 6 at 59
          refine ⟨_, rfl, ?_⟩
          first
            | exact SO.fin (k := 5) (by unfold oCopy; rw [if_pos ⟨h4, h11⟩]; exact if_pos (Or.inl (s1.symm.trans h42))) (by decide +kernel)
            | exact SO.fin (k := 5) (by unfold oCopy; rw [if_pos ⟨h4, h11⟩]; exact if_pos (Or.inr (t1.symm.trans h50))) (by decide +kernel)
    ·
      refine r_aload0 hX dX5_copy_14 (q := 15) rfl ?_
      refine r_ldc hX dX5_copy_15 (q := 17) rfl qX5_44 ?_
      refine r_callV hX dX5_copy_17 (q := 20) rfl (c_X5_finding _ Γ _ _ 0 (by decide) (by decide +kernel)) kX5_67 mlX5_finding mvX5_finding rfl rfl rfl ⟨by decide, rfl⟩ ⟨by decide, by decide⟩ (Nat.le_of_ble_eq_true rfl) (keI ?_)
      refine r_iret hX hR dX5_copy_20 ?_
      -- leaf 7 at 20
      refine ⟨_, rfl, ?_⟩
      first
        | exact SO.fin (k := 0) (if_neg (fun q => h4 q.1)) (by decide +kernel)
        | exact SO.fin (k := 0) (if_neg (fun q => h11 q.2)) (by decide +kernel)

set_option maxRecDepth 100000 in
set_option maxHeartbeats 4000000 in
theorem c_X5_load (l : Launch) (Γ : Gam) (G : GG) (μ : MU) (b : Nat) (hC : CR G 0 μ) (hV : Inv b μ) (B Z N : MU) (hS : SR G B Z N) (hZ : SInv Z) (x : Int32) : Sp l yX5_load cX5_load 4 (some .int) 2 44 [.ref (gad Γ 30), .int x] Γ G (pI (CO G μ (oLoad μ B Z N x))) := by
  refine Sp_of (own := RX5) rfl (by decide +kernel) rfl (Nat.le_of_ble_eq_true rfl) (fun X hX hR => ?_)
  show WP X Γ 0 [some (.ref (gad Γ 30)), some (.int x), none, none] [] G
  refine r_iload1 hX dX5_load_0 (q := 1) rfl ?_
  refine r_callS hX dX5_load_1 (q := 4) rfl (c_X5_isSheet _ Γ _ _) kX5_256 mlX5_isSheet msX5_isSheet rfl rfl ⟨by decide, by decide⟩ (Nat.le_of_ble_eq_true rfl) (keB ?_)
  first | with_reducible refine r_ifd_ne hX dX5_load_4 (q := 7) rfl (tgt := 14) (by decide) (fun h4 => ?_) (fun h4 => ?_) | refine r_ifb_ne hX dX5_load_4 (q := 7) rfl (tgt := 14) (by decide) (fun h4 => ?_) (fun h4 => ?_)
  ·
    obtain ⟨xl, xe⟩ := ix_of (by decide) h4
    have x4 : cl x < 4 := by omega
    obtain ⟨s1, s2, s3⟩ := hS (cl x) (by omega)
    obtain ⟨z, z1, z2⟩ := hZ (cl x) (by omega)
    have zc : cl (Z (cl x)) = z := by rw [z2]; exact cl_nI (by omega)
    refine r_aload0 hX dX5_load_14 (q := 15) rfl ?_
    refine r_getR hX dX5_load_15 (q := 18) rfl fX5_35 rfl ⟨by decide, by decide, rfl⟩ ?_
    refine r_iload1 hX dX5_load_18 (q := 19) rfl ?_
    refine r_aald hX dX5_load_19 (q := 20) rfl xe (by omega) ?_
    refine r_astore2 hX dX5_load_20 (q := 21) rfl rfl ?_
    refine r_aload2 hX dX5_load_21 (q := 22) rfl ?_
    refine r_callV hX dX5_load_22 (q := 25) rfl (c_X2_isMissing _ Γ _ (cl x) x4) kX5_264 mlX2_isMissing mvX2_isMissing rfl rfl (sh_lay (by first | assumption | decide)).1 ⟨by decide, rfl⟩ ⟨by decide, by decide⟩ (Nat.le_of_ble_eq_true rfl) (keB ?_)
    first | with_reducible refine r_ifd_eq hX dX5_load_25 (q := 28) rfl (tgt := 35) (by decide) (fun h25 => ?_) (fun h25 => ?_) | refine r_ifb_eq hX dX5_load_25 (q := 28) rfl (tgt := 35) (by decide) (fun h25 => ?_) (fun h25 => ?_)
    ·
      have s2z := s2.trans z2
      refine r_iconst hX dX5_load_35 (q := 36) rfl (v := nI 0) (by decide +kernel) ?_
      refine r_istore3 hX dX5_load_36 (q := 37) rfl rfl ?_
      have L37 : ∀ (zn37 : Nat) (k : Nat) (G1 : GG), zn37 = min z 10 - k → (k ≤ min z 10) → (G1 = G ∨ True) → (CR G1 0 (ldM μ N (cl x) k)) → (SR G1 B Z N) → (∀ c, 20 ≤ c → G1 c = G c) → (∀ j, j < k → ldP N (cl x) j = false) → WP X Γ 37 [some (.ref (gad Γ 30)), some (.int x), some (.ref (gad Γ (38 + 2 * cl x))), some (.int (nI k))] [] G1 := by
        intro zn37
        induction zn37 using Nat.strongRecOn with
        | _ zn37 ih37 =>
          intro k G1 zh37 hk hG hC1 hS1 hF hP
          obtain ⟨w1, w2, w3⟩ := hS1 (cl x) x4
          have s2w := w2.trans z2
          refine r_iload3 hX dX5_load_37 (q := 38) rfl ?_
          refine r_aload2 hX dX5_load_38 (q := 39) rfl ?_
          refine r_getI hX dX5_load_39 (q := 42) rfl fX5_263 (sh_lay x4).1 ⟨by decide, by decide, (sh_none_2 (by first | assumption | decide))⟩ ?_
          rw [s2w]
          first | refine r_icmpN_ge hX dX5_load_42 (q := 45) rfl (tgt := 87) (by decide) (by first | decide | omega) (by first | decide | omega) (fun h42 => ?_) (fun h42 => ?_) | refine r_icmp_ge hX dX5_load_42 (q := 45) rfl (tgt := 87) (by decide) (fun h42 => ?_) (fun h42 => ?_)
          ·
            refine r_iload3 hX dX5_load_87 (q := 88) rfl ?_
            refine r_iret hX hR dX5_load_88 ?_
            -- leaf 0 at 88
            refine ⟨_, rfl, ?_⟩
            have hkk : ldK Z N (cl x) = k := by
              unfold ldK
              rw [zc]
              first
                | (have e : k = min z 10 := by omega
                   rw [← e, fsF_none k hP]; rfl)
                | (rw [w3 k (by omega)] at h63
                   rw [fsF_some (k := k) (decide_eq_true h63) hP _ (by omega)]; rfl)
            exact CO.ok (w := nI k) (μ' := ldM μ N (cl x) k) (by unfold oLoad; rw [if_pos h4, if_neg (fun q => h25 (s1.trans q)), hkk]) rfl hC1 hF
          ·
            refine r_iload3 hX dX5_load_45 (q := 46) rfl ?_
            refine r_bipush hX dX5_load_46 (q := 48) rfl (v := nI 10) (by decide +kernel) ?_
            refine r_icmpN_ge hX dX5_load_48 (q := 51) rfl (tgt := 87) (by decide) (by first | decide | omega) (by first | decide | omega) (fun h48 => ?_) (fun h48 => ?_)
            ·
              refine r_iload3 hX dX5_load_87 (q := 88) rfl ?_
              refine r_iret hX hR dX5_load_88 ?_
              -- leaf 1 at 88
              refine ⟨_, rfl, ?_⟩
              have hkk : ldK Z N (cl x) = k := by
                unfold ldK
                rw [zc]
                first
                  | (have e : k = min z 10 := by omega
                     rw [← e, fsF_none k hP]; rfl)
                  | (rw [w3 k (by omega)] at h63
                     rw [fsF_some (k := k) (decide_eq_true h63) hP _ (by omega)]; rfl)
              exact CO.ok (w := nI k) (μ' := ldM μ N (cl x) k) (by unfold oLoad; rw [if_pos h4, if_neg (fun q => h25 (s1.trans q)), hkk]) rfl hC1 hF
            ·
              refine r_aload2 hX dX5_load_51 (q := 52) rfl ?_
              refine r_getR hX dX5_load_52 (q := 55) rfl fX5_276 (sh_lay x4).1 ⟨by decide, by decide, (sh_lay (by first | assumption | decide)).2.2⟩ ?_
              refine r_iload3 hX dX5_load_55 (q := 56) rfl ?_
              refine r_ialdN hX dX5_load_56 (q := 57) rfl (sh_lay (by first | assumption | decide)).2.1 (by repeat' (first | assumption | with_reducible exact rfl | refine e_add ?_ ?_ | refine e_mul ?_ ?_)) (by first | assumption | omega) (by first | decide | omega) ?_
              refine r_iconst hX dX5_load_57 (q := 58) rfl (v := nI 0) (by decide +kernel) ?_
              refine r_bipush hX dX5_load_58 (q := 60) rfl (v := nI 99) (by decide +kernel) ?_
              refine r_callS hX dX5_load_60 (q := 63) rfl (c_X5_within _ Γ _ _ _ _) kX5_45 mlX5_within msX5_within rfl rfl ⟨by decide, by decide⟩ (Nat.le_of_ble_eq_true rfl) (keB ?_)
              first | with_reducible refine r_ifd_eq hX dX5_load_63 (q := 66) rfl (tgt := 87) (by decide) (fun h63 => ?_) (fun h63 => ?_) | refine r_ifb_eq hX dX5_load_63 (q := 66) rfl (tgt := 87) (by decide) (fun h63 => ?_) (fun h63 => ?_)
              ·
                refine r_iload3 hX dX5_load_87 (q := 88) rfl ?_
                refine r_iret hX hR dX5_load_88 ?_
                -- leaf 2 at 88
                refine ⟨_, rfl, ?_⟩
                have hkk : ldK Z N (cl x) = k := by
                  unfold ldK
                  rw [zc]
                  first
                    | (have e : k = min z 10 := by omega
                       rw [← e, fsF_none k hP]; rfl)
                    | (rw [w3 k (by omega)] at h63
                       rw [fsF_some (k := k) (decide_eq_true h63) hP _ (by omega)]; rfl)
                exact CO.ok (w := nI k) (μ' := ldM μ N (cl x) k) (by unfold oLoad; rw [if_pos h4, if_neg (fun q => h25 (s1.trans q)), hkk]) rfl hC1 hF
              ·
                refine r_aload0 hX dX5_load_66 (q := 67) rfl ?_
                refine r_getR hX dX5_load_67 (q := 70) (c' := ch 0 0) rfl fX5_12 rfl ⟨by decide, by decide, rfl⟩ ?_
                refine r_getR hX dX5_load_70 (q := 73) rfl fX5_71 (ch_lay (j := 0) (by first | assumption | decide) (by decide) rfl) (rC_0 (by first | assumption | decide)) ?_
                refine r_iload3 hX dX5_load_73 (q := 74) rfl ?_
                refine r_aload2 hX dX5_load_74 (q := 75) rfl ?_
                refine r_getR hX dX5_load_75 (q := 78) rfl fX5_276 (sh_lay x4).1 ⟨by decide, by decide, (sh_lay (by first | assumption | decide)).2.2⟩ ?_
                refine r_iload3 hX dX5_load_78 (q := 79) rfl ?_
                refine r_ialdN hX dX5_load_79 (q := 80) rfl (sh_lay (by first | assumption | decide)).2.1 (by repeat' (first | assumption | with_reducible exact rfl | refine e_add ?_ ?_ | refine e_mul ?_ ?_)) (by first | assumption | omega) (by first | decide | omega) ?_
                refine r_iastN hX dX5_load_80 (q := 81) rfl (ch_lay (j := 1) (by first | assumption | decide) (by decide) rfl) (by repeat' (first | assumption | with_reducible exact rfl | refine e_add ?_ ?_ | refine e_mul ?_ ?_)) (by first | assumption | omega) (by first | decide | omega) ?_
                refine r_iincN3 hX dX5_load_81 (q := 84) rfl rfl ?_
                refine r_goto hX dX5_load_84 (tgt := 37) (by decide) ?_
                refine ih37 _ ?_ (k + 1) _ rfl ?_ ?_ ?_ ?_ ?_ ?_
                ·
                  omega
                ·
                  omega
                ·
                  exact Or.inr trivial
                ·
                  rw [w3 k (by omega)]
                  exact hC1.like (by omega) _
                ·
                  intro s hs2
                  obtain ⟨q1, q2, q3⟩ := hS1 s hs2
                  exact ⟨(up_ne (by simp only [ch]; omega)).trans q1, (up_ne (by simp only [ch]; omega)).trans q2, fun j hj => (up_ne (by simp only [ch]; omega)).trans (q3 j hj)⟩
                ·
                  exact fr_C (Fr.rf.up (by decide)) hF
                ·
                  intro j hj
                  by_cases e : j = k
                  · subst e
                    rw [w3 j (by omega)] at h63
                    exact decide_eq_false (fun q => q h63)
                  · exact hP j (by omega)
      refine L37 _ 0 _ rfl ?_ ?_ ?_ ?_ ?_ ?_
      ·
        exact Nat.zero_le _
      ·
        exact Or.inl rfl
      ·
        exact hC
      ·
        exact hS
      ·
        exact fr0
      ·
        exact fun j hj => absurd hj (by omega)
    ·
      refine r_aload0 hX dX5_load_28 (q := 29) rfl ?_
      refine r_ldc hX dX5_load_29 (q := 31) rfl qX5_247 ?_
      refine r_callV hX dX5_load_31 (q := 34) rfl (c_X5_finding _ Γ _ _ 5 (by decide) (by decide +kernel)) kX5_67 mlX5_finding mvX5_finding rfl rfl rfl ⟨by decide, rfl⟩ ⟨by decide, by decide⟩ (Nat.le_of_ble_eq_true rfl) (keI ?_)
      refine r_iret hX hR dX5_load_34 ?_
      -- leaf 3 at 34
      refine ⟨_, rfl, ?_⟩
      exact CO.fin (k := 5) (by unfold oLoad; rw [if_pos h4]; exact if_pos (s1.symm.trans h25)) (by decide +kernel) hC fr0
  ·
    refine r_aload0 hX dX5_load_7 (q := 8) rfl ?_
    refine r_ldc hX dX5_load_8 (q := 10) rfl qX5_44 ?_
    refine r_callV hX dX5_load_10 (q := 13) rfl (c_X5_finding _ Γ _ _ 0 (by decide) (by decide +kernel)) kX5_67 mlX5_finding mvX5_finding rfl rfl rfl ⟨by decide, rfl⟩ ⟨by decide, by decide⟩ (Nat.le_of_ble_eq_true rfl) (keI ?_)
    refine r_iret hX hR dX5_load_13 ?_
    -- leaf 4 at 13
    refine ⟨_, rfl, ?_⟩
    exact CO.fin (k := 0) (if_neg h4) (by decide +kernel) hC fr0

set_option maxRecDepth 100000 in
set_option maxHeartbeats 4000000 in
theorem c_X5_judge (l : Launch) (Γ : Gam) (G : GG) (μ : MU) (b : Nat) (hC : CR G 0 μ) (hV : Inv b μ) (hb : b ≤ 100000) (B Z N : MU) (hS : SR G B Z N) (hZ : SInv Z) (x : Int32) : Sp l yX5_judge cX5_judge 4 (some .int) 4 92 [.ref (gad Γ 30), .int x] Γ G (pI (CO G μ (oJudge μ B Z N x))) := by
  refine Sp_of (own := RX5) rfl (by decide +kernel) rfl (Nat.le_of_ble_eq_true rfl) (fun X hX hR => ?_)
  show WP X Γ 0 [some (.ref (gad Γ 30)), some (.int x), none, none] [] G
  refine r_iload1 hX dX5_judge_0 (q := 1) rfl ?_
  refine r_callS hX dX5_judge_1 (q := 4) rfl (c_X5_isSheet _ Γ _ _) kX5_256 mlX5_isSheet msX5_isSheet rfl rfl ⟨by decide, by decide⟩ (Nat.le_of_ble_eq_true rfl) (keB ?_)
  first | with_reducible refine r_ifd_ne hX dX5_judge_4 (q := 7) rfl (tgt := 14) (by decide) (fun h4 => ?_) (fun h4 => ?_) | refine r_ifb_ne hX dX5_judge_4 (q := 7) rfl (tgt := 14) (by decide) (fun h4 => ?_) (fun h4 => ?_)
  ·
    obtain ⟨xl, xe⟩ := ix_of (by decide) h4
    have x4 : cl x < 4 := by omega
    obtain ⟨s1, s2, s3⟩ := hS (cl x) (by omega)
    obtain ⟨z, z1, z2⟩ := hZ (cl x) (by omega)
    have zc : cl (Z (cl x)) = z := by rw [z2]; exact cl_nI (by omega)
    refine r_aload0 hX dX5_judge_14 (q := 15) rfl ?_
    refine r_getR hX dX5_judge_15 (q := 18) rfl fX5_35 rfl ⟨by decide, by decide, rfl⟩ ?_
    refine r_iload1 hX dX5_judge_18 (q := 19) rfl ?_
    refine r_aald hX dX5_judge_19 (q := 20) rfl xe (by omega) ?_
    refine r_astore2 hX dX5_judge_20 (q := 21) rfl rfl ?_
    refine r_aload2 hX dX5_judge_21 (q := 22) rfl ?_
    refine r_callV hX dX5_judge_22 (q := 25) rfl (c_X2_isMissing _ Γ _ (cl x) x4) kX5_264 mlX2_isMissing mvX2_isMissing rfl rfl (sh_lay (by first | assumption | decide)).1 ⟨by decide, rfl⟩ ⟨by decide, by decide⟩ (Nat.le_of_ble_eq_true rfl) (keB ?_)
    first | with_reducible refine r_ifd_eq hX dX5_judge_25 (q := 28) rfl (tgt := 35) (by decide) (fun h25 => ?_) (fun h25 => ?_) | refine r_ifb_eq hX dX5_judge_25 (q := 28) rfl (tgt := 35) (by decide) (fun h25 => ?_) (fun h25 => ?_)
    ·
      refine r_aload0 hX dX5_judge_35 (q := 36) rfl ?_
      refine r_aload2 hX dX5_judge_36 (q := 37) rfl ?_
      refine r_getI hX dX5_judge_37 (q := 40) rfl fX5_263 (sh_lay (by first | assumption | decide)).1 ⟨by decide, by decide, (sh_none_2 (by first | assumption | decide))⟩ ?_
      refine r_callV hX dX5_judge_40 (q := 43) rfl (c_X5_isPastLast _ Γ _ _ _ (by assumption) (by assumption) _) kX5_162 mlX5_isPastLast mvX5_isPastLast rfl rfl rfl ⟨by decide, rfl⟩ ⟨by decide, by decide⟩ (Nat.le_of_ble_eq_true rfl) (keB ?_)
      first | with_reducible refine r_ifd_eq hX dX5_judge_43 (q := 46) rfl (tgt := 53) (by decide) (fun h43 => ?_) (fun h43 => ?_) | refine r_ifb_eq hX dX5_judge_43 (q := 46) rfl (tgt := 53) (by decide) (fun h43 => ?_) (fun h43 => ?_)
      ·
        refine r_aload0 hX dX5_judge_53 (q := 54) rfl ?_
        refine r_getR hX dX5_judge_54 (q := 57) (c' := ch 1 0) rfl fX5_16 rfl ⟨by decide, by decide, rfl⟩ ?_
        refine r_aload0 hX dX5_judge_57 (q := 58) rfl ?_
        refine r_getR hX dX5_judge_58 (q := 61) (c' := ch 0 0) rfl fX5_12 rfl ⟨by decide, by decide, rfl⟩ ?_
        refine r_callV hX dX5_judge_61 (q := 64) rfl (c_X0_become _ Γ _ 1 0 (by decide) (by decide) (by decide) μ hC) kX5_202 mlX0_become mvX0_become rfl rfl (ch_lay (j := 0) (by first | assumption | decide) (by decide) rfl) ⟨by decide, rfl⟩ ⟨by decide, by decide⟩ (Nat.le_of_ble_eq_true rfl) (kpV (fun G61 p61 => ?_))
        refine r_iconst hX dX5_judge_64 (q := 65) rfl (v := nI 0) (by decide +kernel) ?_
        refine r_istore3 hX dX5_judge_65 (q := 66) rfl rfl ?_
        have L66 : ∀ (zn66 : Nat) (k : Nat) (G1 : GG), zn66 = z - k → (k ≤ z) → (CR G1 1 (goF μ k).2) → (CR G1 0 μ) → (∀ c, 20 ≤ c → G1 c = G c) → (∀ j, j < k → jgP μ N (cl x) j = false) → WP X Γ 66 [some (.ref (gad Γ 30)), some (.int x), some (.ref (gad Γ (38 + 2 * cl x))), some (.int (nI k))] [] G1 := by
          intro zn66
          induction zn66 using Nat.strongRecOn with
          | _ zn66 ih66 =>
            intro k G1 zh66 hk hC1 hC0 hF hP
            have s2w : G1 (38 + 2 * cl x) 2 = nI z := by rw [hF _ (by omega)]; exact s2.trans z2
            refine r_iload3 hX dX5_judge_66 (q := 67) rfl ?_
            refine r_aload2 hX dX5_judge_67 (q := 68) rfl ?_
            refine r_getI hX dX5_judge_68 (q := 71) rfl fX5_263 (sh_lay x4).1 ⟨by decide, by decide, (sh_none_2 (by first | assumption | decide))⟩ ?_
            rw [s2w]
            first | refine r_icmpN_ge hX dX5_judge_71 (q := 74) rfl (tgt := 100) (by decide) (by first | decide | omega) (by first | decide | omega) (fun h71 => ?_) (fun h71 => ?_) | refine r_icmp_ge hX dX5_judge_71 (q := 74) rfl (tgt := 100) (by decide) (fun h71 => ?_) (fun h71 => ?_)
            ·
              refine r_iconst hX dX5_judge_100 (q := 101) rfl (v := nI 0) (by decide +kernel) ?_
              refine r_iret hX hR dX5_judge_101 ?_
              -- leaf 0 at 101
              refine ⟨_, rfl, ?_⟩
              rw [s2] at h43
              have e : k = z := by omega
              subst e
              exact CO.ok (w := nI 0) (μ' := μ) (by unfold oJudge; rw [if_pos h4, if_neg (fun q => h25 (s1.trans q)), if_neg h43, zc, fsF_none k hP]) rfl hC0 hF
            ·
              refine r_aload0 hX dX5_judge_74 (q := 75) rfl ?_
              refine r_getR hX dX5_judge_75 (q := 78) (c' := ch 1 0) rfl fX5_16 rfl ⟨by decide, by decide, rfl⟩ ?_
              refine r_callV hX dX5_judge_78 (q := 81) rfl (c_X0_serveMeal _ Γ _ 1 (by decide) _ (b + k) hC1 (hV.go k (by omega)) (by omega)) kX5_212 mlX0_serveMeal mvX0_serveMeal rfl rfl (ch_lay (j := 0) (by first | assumption | decide) (by decide) rfl) ⟨by decide, rfl⟩ ⟨by decide, by decide⟩ (Nat.le_of_ble_eq_true rfl) (kpI (fun v78 G78 p78 => ?_))
              refine r_aload2 hX dX5_judge_81 (q := 82) rfl ?_
              refine r_getR hX dX5_judge_82 (q := 85) rfl fX5_276 (sh_lay x4).1 ⟨by decide, by decide, (sh_lay (by first | assumption | decide)).2.2⟩ ?_
              refine r_iload3 hX dX5_judge_85 (q := 86) rfl ?_
              refine r_ialdN hX dX5_judge_86 (q := 87) rfl (sh_lay (by first | assumption | decide)).2.1 (by repeat' (first | assumption | with_reducible exact rfl | refine e_add ?_ ?_ | refine e_mul ?_ ?_)) (by first | assumption | omega) (by first | decide | omega) ?_
              have hnum : G78 (38 + 2 * cl x + 1) k = N (40 * cl x + k) := by rw [fr_T p78.2.2 hF _ (by omega)]; exact s3 k (by omega)
              first | refine r_icmpN_eq hX dX5_judge_87 (q := 90) rfl (tgt := 94) (by decide) (by first | decide | omega) (by first | decide | omega) (fun h87 => ?_) (fun h87 => ?_) | refine r_icmp_eq hX dX5_judge_87 (q := 90) rfl (tgt := 94) (by decide) (fun h87 => ?_) (fun h87 => ?_)
              ·
                refine r_iincN3 hX dX5_judge_94 (q := 97) rfl rfl ?_
                refine r_goto hX dX5_judge_97 (tgt := 66) (by decide) ?_
                refine ih66 _ ?_ (k + 1) _ rfl ?_ ?_ ?_ ?_ ?_
                ·
                  omega
                ·
                  omega
                ·
                  exact p78.2.1
                ·
                  exact cr_T hC0 p78.2.2
                ·
                  exact fr_T p78.2.2 hF
                ·
                  intro j hj
                  by_cases e : j = k
                  · subst e
                    exact decide_eq_false (fun q => q (p78.1.symm.trans (h87.trans hnum)))
                  · exact hP j (by omega)
              ·
                refine r_iconst hX dX5_judge_90 (q := 91) rfl (v := nI 1) (by decide +kernel) ?_
                refine r_iload3 hX dX5_judge_91 (q := 92) rfl ?_
                refine r_iadd hX dX5_judge_92 (q := 93) rfl ?_
                refine r_iret hX hR dX5_judge_93 ?_
                -- leaf 1 at 93
                refine ⟨_, rfl, ?_⟩
                rw [s2] at h43
                have q : jgP μ N (cl x) k = true := decide_eq_true (fun e => h87 (p78.1.trans (e.trans hnum.symm)))
                exact CO.ok (w := nI 1 + nI k) (μ' := μ) (by unfold oJudge; rw [if_pos h4, if_neg (fun q => h25 (s1.trans q)), if_neg h43, zc, fsF_some q hP z (by omega)]) rfl (cr_T hC0 p78.2.2) (fr_T p78.2.2 hF)
        refine L66 _ 0 _ rfl ?_ ?_ ?_ ?_ ?_
        ·
          exact Nat.zero_le _
        ·
          exact p61.1
        ·
          exact cr_T hC p61.2
        ·
          exact fr_T p61.2 fr0
        ·
          exact fun j hj => absurd hj (by omega)
      ·
        refine r_aload0 hX dX5_judge_46 (q := 47) rfl ?_
        refine r_ldc hX dX5_judge_47 (q := 49) rfl qX5_165 ?_
        refine r_callV hX dX5_judge_49 (q := 52) rfl (c_X5_finding _ Γ _ _ 4 (by decide) (by decide +kernel)) kX5_67 mlX5_finding mvX5_finding rfl rfl rfl ⟨by decide, rfl⟩ ⟨by decide, by decide⟩ (Nat.le_of_ble_eq_true rfl) (keI ?_)
        refine r_iret hX hR dX5_judge_52 ?_
        -- leaf 2 at 52
        refine ⟨_, rfl, ?_⟩
        exact CO.fin (k := 4) (by rw [s2] at h43; unfold oJudge; rw [if_pos h4, if_neg (fun q => h25 (s1.trans q))]; exact if_pos h43) (by decide +kernel) hC fr0
    ·
      refine r_aload0 hX dX5_judge_28 (q := 29) rfl ?_
      refine r_ldc hX dX5_judge_29 (q := 31) rfl qX5_247 ?_
      refine r_callV hX dX5_judge_31 (q := 34) rfl (c_X5_finding _ Γ _ _ 5 (by decide) (by decide +kernel)) kX5_67 mlX5_finding mvX5_finding rfl rfl rfl ⟨by decide, rfl⟩ ⟨by decide, by decide⟩ (Nat.le_of_ble_eq_true rfl) (keI ?_)
      refine r_iret hX hR dX5_judge_34 ?_
      -- leaf 3 at 34
      refine ⟨_, rfl, ?_⟩
      exact CO.fin (k := 5) (by unfold oJudge; rw [if_pos h4]; exact if_pos (s1.symm.trans h25)) (by decide +kernel) hC fr0
  ·
    refine r_aload0 hX dX5_judge_7 (q := 8) rfl ?_
    refine r_ldc hX dX5_judge_8 (q := 10) rfl qX5_44 ?_
    refine r_callV hX dX5_judge_10 (q := 13) rfl (c_X5_finding _ Γ _ _ 0 (by decide) (by decide +kernel)) kX5_67 mlX5_finding mvX5_finding rfl rfl rfl ⟨by decide, rfl⟩ ⟨by decide, by decide⟩ (Nat.le_of_ble_eq_true rfl) (keI ?_)
    refine r_iret hX hR dX5_judge_13 ?_
    -- leaf 4 at 13
    refine ⟨_, rfl, ?_⟩
    exact CO.fin (k := 0) (if_neg h4) (by decide +kernel) hC fr0
