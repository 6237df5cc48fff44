set_option maxRecDepth 100000 in
set_option maxHeartbeats 4000000 in
theorem c_X3_kindOf (l : Launch) (Γ : Gam) (G : GG) (x : Int32) : Sp l yX3_kindOf cX3_kindOf 1 (some .int) 1 22 [.int x] Γ G (eI G (nI (kb x))) := by
  refine Sp_of (own := RX3) rfl (by decide +kernel) rfl (Nat.le_of_ble_eq_true rfl) (fun X hX hR => ?_)
  show WP X Γ 0 [some (.int x)] [] G
  refine r_iload0 hX dX3_kindOf_0 (q := 1) rfl ?_
  refine r_bipush hX dX3_kindOf_1 (q := 3) rfl (v := nI 97) (by decide +kernel) ?_
  refine r_bipush hX dX3_kindOf_3 (q := 5) rfl (v := nI 122) (by decide +kernel) ?_
  refine r_callN hX dX3_kindOf_5 (q := 8) rfl (c_X5_within _ Γ _ _ _ _) kX3_49 mlX5_within msX5_within rfl rfl ⟨by decide, by decide⟩ (Nat.le_of_ble_eq_true rfl) (keB ?_)
  first | with_reducible refine r_ifd_eq hX dX3_kindOf_8 (q := 11) rfl (tgt := 13) (by decide) (fun h8 => ?_) (fun h8 => ?_) | refine r_ifb_eq hX dX3_kindOf_8 (q := 11) rfl (tgt := 13) (by decide) (fun h8 => ?_) (fun h8 => ?_)
  ·
    refine r_iload0 hX dX3_kindOf_13 (q := 14) rfl ?_
    refine r_bipush hX dX3_kindOf_14 (q := 16) rfl (v := nI 48) (by decide +kernel) ?_
    refine r_bipush hX dX3_kindOf_16 (q := 18) rfl (v := nI 57) (by decide +kernel) ?_
    refine r_callN hX dX3_kindOf_18 (q := 21) rfl (c_X5_within _ Γ _ _ _ _) kX3_49 mlX5_within msX5_within rfl rfl ⟨by decide, by decide⟩ (Nat.le_of_ble_eq_true rfl) (keB ?_)
    first | with_reducible refine r_ifd_eq hX dX3_kindOf_21 (q := 24) rfl (tgt := 26) (by decide) (fun h21 => ?_) (fun h21 => ?_) | refine r_ifb_eq hX dX3_kindOf_21 (q := 24) rfl (tgt := 26) (by decide) (fun h21 => ?_) (fun h21 => ?_)
    ·
      refine r_iload0 hX dX3_kindOf_26 (q := 27) rfl ?_
      refine r_bipush hX dX3_kindOf_27 (q := 29) rfl (v := nI 59) (by decide +kernel) ?_
      first | refine r_icmpN_ne hX dX3_kindOf_29 (q := 32) rfl (tgt := 34) (by decide) (by first | omega | decide) (by first | omega | decide) (fun h29 => ?_) (fun h29 => ?_) | refine r_icmp_ne hX dX3_kindOf_29 (q := 32) rfl (tgt := 34) (by decide) (fun h29 => ?_) (fun h29 => ?_)
      ·
        refine r_iload0 hX dX3_kindOf_34 (q := 35) rfl ?_
        refine r_bipush hX dX3_kindOf_35 (q := 37) rfl (v := nI 32) (by decide +kernel) ?_
        first | refine r_icmpN_ne hX dX3_kindOf_37 (q := 40) rfl (tgt := 44) (by decide) (by first | omega | decide) (by first | omega | decide) (fun h37 => ?_) (fun h37 => ?_) | refine r_icmp_ne hX dX3_kindOf_37 (q := 40) rfl (tgt := 44) (by decide) (fun h37 => ?_) (fun h37 => ?_)
        ·
          refine r_iconst hX dX3_kindOf_44 (q := 45) rfl (v := nI 4) (by decide +kernel) ?_
          refine r_iret hX hR dX3_kindOf_45 ?_
          -- leaf 0 at 45
          refine ⟨congrArg (fun z => some (Value.int z)) ?_, ?_⟩
          ·
            unfold kb isL isD
            rw [if_neg (fun q => h8 (of_decide_eq_true q)), if_neg (fun q => h21 (of_decide_eq_true q)), if_neg h29]
            first | rw [if_pos h37] | rw [if_neg h37]
          · rfl
        ·
          refine r_iconst hX dX3_kindOf_40 (q := 41) rfl (v := nI 0) (by decide +kernel) ?_
          refine r_goto hX dX3_kindOf_41 (tgt := 45) (by decide) ?_
          refine r_iret hX hR dX3_kindOf_45 ?_
          -- leaf 1 at 45
          refine ⟨congrArg (fun z => some (Value.int z)) ?_, ?_⟩
          ·
            unfold kb isL isD
            rw [if_neg (fun q => h8 (of_decide_eq_true q)), if_neg (fun q => h21 (of_decide_eq_true q)), if_neg h29]
            first | rw [if_pos h37] | rw [if_neg h37]
          · rfl
      ·
        refine r_iconst hX dX3_kindOf_32 (q := 33) rfl (v := nI 3) (by decide +kernel) ?_
        refine r_iret hX hR dX3_kindOf_33 ?_
        -- leaf 2 at 33
        refine ⟨congrArg (fun z => some (Value.int z)) ?_, ?_⟩
        ·
          unfold kb isL isD; rw [if_neg (fun q => h8 (of_decide_eq_true q)), if_neg (fun q => h21 (of_decide_eq_true q)), if_pos h29]
        · rfl
    ·
      refine r_iconst hX dX3_kindOf_24 (q := 25) rfl (v := nI 2) (by decide +kernel) ?_
      refine r_iret hX hR dX3_kindOf_25 ?_
      -- leaf 3 at 25
      refine ⟨congrArg (fun z => some (Value.int z)) ?_, ?_⟩
      ·
        unfold kb isL isD; rw [if_neg (fun q => h8 (of_decide_eq_true q)), if_pos (decide_eq_true h21)]
      · rfl
  ·
    refine r_iconst hX dX3_kindOf_11 (q := 12) rfl (v := nI 1) (by decide +kernel) ?_
    refine r_iret hX hR dX3_kindOf_12 ?_
    -- leaf 4 at 12
    refine ⟨congrArg (fun z => some (Value.int z)) ?_, ?_⟩
    ·
      unfold kb isL; rw [if_pos (decide_eq_true h8)]
    · rfl

set_option maxRecDepth 100000 in
set_option maxHeartbeats 4000000 in
theorem c_X3_begin (l : Launch) (Γ : Gam) (G : GG) (k s : Int32) (t : Nat) (ht : G 31 6 = nI t) (ht1 : t ≤ 120) : Sp l yX3_begin cX3_begin 3 none 0 0 [.ref (gad Γ 31), .int k, .int s] Γ G (eV (beG G t k s)) := by
  refine Sp_of (own := RX3) rfl (by decide +kernel) rfl (Nat.le_of_ble_eq_true rfl) (fun X hX hR => ?_)
  show WP X Γ 0 [some (.ref (gad Γ 31)), some (.int k), some (.int s)] [] G
  refine r_aload0 hX dX3_begin_0 (q := 1) rfl ?_
  refine r_getI hX dX3_begin_1 (q := 4) rfl fX3_31 rfl ⟨by decide, by decide, rfl⟩ ?_
  refine r_bipush hX dX3_begin_4 (q := 6) rfl (v := nI 120) (by decide +kernel) ?_
  rw [ht]
  first | refine r_icmpN_gt hX dX3_begin_6 (q := 9) rfl (tgt := 59) (by decide) (by first | omega | decide) (by first | omega | decide) (fun h6 => ?_) (fun h6 => ?_) | refine r_icmp_gt hX dX3_begin_6 (q := 9) rfl (tgt := 59) (by decide) (fun h6 => ?_) (fun h6 => ?_)
  ·
    exact absurd h6 (by omega) --end
  ·
    refine r_aload0 hX dX3_begin_9 (q := 10) rfl ?_
    refine r_getR hX dX3_begin_10 (q := 13) rfl fX3_19 rfl ⟨by decide, by decide, rfl⟩ ?_
    refine r_aload0 hX dX3_begin_13 (q := 14) rfl ?_
    refine r_getI hX dX3_begin_14 (q := 17) rfl fX3_31 rfl ⟨by decide, by decide, rfl⟩ ?_
    refine r_iload1 hX dX3_begin_17 (q := 18) rfl ?_
    refine r_iastN hX dX3_begin_18 (q := 19) rfl rfl (by repeat (first | exact ht | rw [up_ne (by omega)])) (by omega) (by first | decide | omega) ?_
    refine r_aload0 hX dX3_begin_19 (q := 20) rfl ?_
    refine r_getR hX dX3_begin_20 (q := 23) rfl fX3_22 rfl ⟨by decide, by decide, rfl⟩ ?_
    refine r_aload0 hX dX3_begin_23 (q := 24) rfl ?_
    refine r_getI hX dX3_begin_24 (q := 27) rfl fX3_31 rfl ⟨by decide, by decide, rfl⟩ ?_
    refine r_iload2 hX dX3_begin_27 (q := 28) rfl ?_
    refine r_iastN hX dX3_begin_28 (q := 29) rfl rfl (by repeat (first | exact ht | rw [up_ne (by omega)])) (by omega) (by first | decide | omega) ?_
    refine r_aload0 hX dX3_begin_29 (q := 30) rfl ?_
    refine r_getR hX dX3_begin_30 (q := 33) rfl fX3_25 rfl ⟨by decide, by decide, rfl⟩ ?_
    refine r_aload0 hX dX3_begin_33 (q := 34) rfl ?_
    refine r_getI hX dX3_begin_34 (q := 37) rfl fX3_31 rfl ⟨by decide, by decide, rfl⟩ ?_
    refine r_iconst hX dX3_begin_37 (q := 38) rfl (v := nI 0) (by decide +kernel) ?_
    refine r_iastN hX dX3_begin_38 (q := 39) rfl rfl (by repeat (first | exact ht | rw [up_ne (by omega)])) (by omega) (by first | decide | omega) ?_
    refine r_aload0 hX dX3_begin_39 (q := 40) rfl ?_
    refine r_getR hX dX3_begin_40 (q := 43) rfl fX3_28 rfl ⟨by decide, by decide, rfl⟩ ?_
    refine r_aload0 hX dX3_begin_43 (q := 44) rfl ?_
    refine r_getI hX dX3_begin_44 (q := 47) rfl fX3_31 rfl ⟨by decide, by decide, rfl⟩ ?_
    refine r_iconst hX dX3_begin_47 (q := 48) rfl (v := nI 0) (by decide +kernel) ?_
    refine r_iastN hX dX3_begin_48 (q := 49) rfl rfl (by repeat (first | exact ht | rw [up_ne (by omega)])) (by omega) (by first | decide | omega) ?_
    refine r_aload0 hX dX3_begin_49 (q := 50) rfl ?_
    refine r_dup hX dX3_begin_50 (q := 51) rfl rfl ?_
    refine r_getI hX dX3_begin_51 (q := 54) rfl fX3_31 rfl ⟨by decide, by decide, rfl⟩ ?_
    refine r_iconst hX dX3_begin_54 (q := 55) rfl (v := nI 1) (by decide +kernel) ?_
    refine r_iadd hX dX3_begin_55 (q := 56) rfl ?_
    refine r_put hX dX3_begin_56 (q := 59) rfl fX3_31 wX3_6 rfl rfl rfl ⟨by decide, by decide, rfl⟩ ?_
    refine r_vret hX hR dX3_begin_59 ?_
    -- leaf 0 at 59
    refine ⟨rfl, ?_⟩
    have e6 : up (up (up (up G 33 t k) 34 t s) 35 t (nI 0)) 36 t (nI 0) 31 6 = nI t := by
      rw [up_ne (by omega), up_ne (by omega), up_ne (by omega), up_ne (by omega)]; exact ht
    rw [e6, nI_add]
    rfl

set_option maxRecDepth 100000 in
set_option maxHeartbeats 4000000 in
theorem c_X3_lengthen (l : Launch) (Γ : Gam) (G : GG) (x : Int32) (i : Nat) (hx : x = nI i) (hi : i < 120) (t : Nat) (ht : G 31 6 = nI (t + 1)) (ht1 : t ≤ 120) : Sp l yX3_lengthen cX3_lengthen 3 none 1 21 [.ref (gad Γ 31), .int x] Γ G (eV (leG G t i)) := by
  refine Sp_of (own := RX3) rfl (by decide +kernel) rfl (Nat.le_of_ble_eq_true rfl) (fun X hX hR => ?_)
  show WP X Γ 0 [some (.ref (gad Γ 31)), some (.int x), none] [] G
  subst hx
  refine r_aload0 hX dX3_lengthen_0 (q := 1) rfl ?_
  refine r_getI hX dX3_lengthen_1 (q := 4) rfl fX3_31 rfl ⟨by decide, by decide, rfl⟩ ?_
  refine r_iconst hX dX3_lengthen_4 (q := 5) rfl (v := nI 1) (by decide +kernel) ?_
  refine r_isub hX dX3_lengthen_5 (q := 6) rfl ?_
  rw [ht, pk_sub (by omega), Nat.add_sub_cancel]
  refine r_istore2 hX dX3_lengthen_6 (q := 7) rfl rfl ?_
  refine r_iload2 hX dX3_lengthen_7 (q := 8) rfl ?_
  refine r_if_lt hX dX3_lengthen_8 (q := 11) rfl (tgt := 62) (by decide) (fun h8 => ?_) (fun h8 => ?_)
  ·
    exact absurd h8 (nI_pos (by omega)) --end
  ·
    refine r_aload0 hX dX3_lengthen_11 (q := 12) rfl ?_
    refine r_getR hX dX3_lengthen_12 (q := 15) rfl fX3_25 rfl ⟨by decide, by decide, rfl⟩ ?_
    refine r_iload2 hX dX3_lengthen_15 (q := 16) rfl ?_
    refine r_dup2 hX dX3_lengthen_16 (q := 17) rfl rfl rfl ?_
    refine r_ialdN hX dX3_lengthen_17 (q := 18) rfl rfl (by repeat' (first | assumption | with_reducible exact rfl | refine e_add ?_ ?_ | refine e_mul ?_ ?_)) (by first | assumption | omega) (by first | decide | omega) ?_
    refine r_iconst hX dX3_lengthen_18 (q := 19) rfl (v := nI 1) (by decide +kernel) ?_
    refine r_iadd hX dX3_lengthen_19 (q := 20) rfl ?_
    refine r_iastN hX dX3_lengthen_20 (q := 21) rfl rfl (by repeat' (first | assumption | with_reducible exact rfl | refine e_add ?_ ?_ | refine e_mul ?_ ?_)) (by first | assumption | omega) (by first | decide | omega) ?_
    refine r_aload0 hX dX3_lengthen_21 (q := 22) rfl ?_
    refine r_getR hX dX3_lengthen_22 (q := 25) rfl fX3_19 rfl ⟨by decide, by decide, rfl⟩ ?_
    refine r_iload2 hX dX3_lengthen_25 (q := 26) rfl ?_
    refine r_ialdN hX dX3_lengthen_26 (q := 27) rfl rfl (by repeat' (first | assumption | with_reducible exact rfl | refine e_add ?_ ?_ | refine e_mul ?_ ?_)) (by first | assumption | omega) (by first | decide | omega) ?_
    refine r_iconst hX dX3_lengthen_27 (q := 28) rfl (v := nI 2) (by decide +kernel) ?_
    first | refine r_icmpN_ne hX dX3_lengthen_28 (q := 31) rfl (tgt := 62) (by decide) (by first | omega | decide) (by first | omega | decide) (fun h28 => ?_) (fun h28 => ?_) | refine r_icmp_ne hX dX3_lengthen_28 (q := 31) rfl (tgt := 62) (by decide) (fun h28 => ?_) (fun h28 => ?_)
    ·
      refine r_vret hX hR dX3_lengthen_62 ?_
      -- leaf 0 at 62
      refine ⟨rfl, ?_⟩
      unfold leG
      rw [up_ne (show ¬ ((33 : Nat) = 35 ∧ t = t) by omega)] at h28
      first
        | rw [if_neg h28]
        | (rw [if_pos h28]; simp only [up_ne (show ¬ ((36 : Nat) = 35 ∧ t = t) by omega), up_ne (show ¬ ((32 : Nat) = 35 ∧ i = t) by omega)])
    ·
      refine r_aload0 hX dX3_lengthen_31 (q := 32) rfl ?_
      refine r_getR hX dX3_lengthen_32 (q := 35) rfl fX3_28 rfl ⟨by decide, by decide, rfl⟩ ?_
      refine r_iload2 hX dX3_lengthen_35 (q := 36) rfl ?_
      refine r_sipush hX dX3_lengthen_36 (q := 39) rfl (v := nI 10000) (by decide +kernel) ?_
      refine r_aload0 hX dX3_lengthen_39 (q := 40) rfl ?_
      refine r_getR hX dX3_lengthen_40 (q := 43) rfl fX3_28 rfl ⟨by decide, by decide, rfl⟩ ?_
      refine r_iload2 hX dX3_lengthen_43 (q := 44) rfl ?_
      refine r_ialdN hX dX3_lengthen_44 (q := 45) rfl rfl (by repeat' (first | assumption | with_reducible exact rfl | refine e_add ?_ ?_ | refine e_mul ?_ ?_)) (by first | assumption | omega) (by first | decide | omega) ?_
      refine r_bipush hX dX3_lengthen_45 (q := 47) rfl (v := nI 10) (by decide +kernel) ?_
      refine r_imul hX dX3_lengthen_47 (q := 48) rfl ?_
      refine r_aload0 hX dX3_lengthen_48 (q := 49) rfl ?_
      refine r_getR hX dX3_lengthen_49 (q := 52) rfl fX3_9 rfl ⟨by decide, by decide, rfl⟩ ?_
      refine r_iload1 hX dX3_lengthen_52 (q := 53) rfl ?_
      refine r_ialdN hX dX3_lengthen_53 (q := 54) rfl rfl (by repeat' (first | assumption | with_reducible exact rfl | refine e_add ?_ ?_ | refine e_mul ?_ ?_)) (by first | assumption | omega) (by first | decide | omega) ?_
      refine r_iadd hX dX3_lengthen_54 (q := 55) rfl ?_
      refine r_bipush hX dX3_lengthen_55 (q := 57) rfl (v := nI 48) (by decide +kernel) ?_
      refine r_isub hX dX3_lengthen_57 (q := 58) rfl ?_
      refine r_mmin hX dX3_lengthen_58 (q := 61) rfl kX3_53 msMathmin ⟨by decide, Nat.le_of_ble_eq_true rfl⟩ ?_
      refine r_iastN hX dX3_lengthen_61 (q := 62) rfl rfl (by repeat' (first | assumption | with_reducible exact rfl | refine e_add ?_ ?_ | refine e_mul ?_ ?_)) (by first | assumption | omega) (by first | decide | omega) ?_
      refine r_vret hX hR dX3_lengthen_62 ?_
      -- leaf 1 at 62
      refine ⟨rfl, ?_⟩
      unfold leG
      rw [up_ne (show ¬ ((33 : Nat) = 35 ∧ t = t) by omega)] at h28
      first
        | rw [if_neg h28]
        | (rw [if_pos h28]; simp only [up_ne (show ¬ ((36 : Nat) = 35 ∧ t = t) by omega), up_ne (show ¬ ((32 : Nat) = 35 ∧ i = t) by omega)])

set_option maxRecDepth 100000 in
set_option maxHeartbeats 4000000 in
theorem c_X3_place (l : Launch) (Γ : Gam) (G : GG) (T : MU) (n c k : Nat) (hT : TKR G T n c) (hk : k ≤ c) (hA : G 31 7 = nI k) : Sp l yX3_place cX3_place 1 (some .int) 0 0 [.ref (gad Γ 31)] Γ G (eI G (nI (frm T n (pk T n k)))) := by
  refine Sp_of (own := RX3) rfl (by decide +kernel) rfl (Nat.le_of_ble_eq_true rfl) (fun X hX hR => ?_)
  show WP X Γ 0 [some (.ref (gad Γ 31))] [] G
  refine r_aload0 hX dX3_place_0 (q := 1) rfl ?_
  refine r_getR hX dX3_place_1 (q := 4) rfl fX3_22 rfl ⟨by decide, by decide, rfl⟩ ?_
  refine r_aload0 hX dX3_place_4 (q := 5) rfl ?_
  refine r_getI hX dX3_place_5 (q := 8) rfl fX3_34 rfl ⟨by decide, by decide, rfl⟩ ?_
  refine r_ialdN hX dX3_place_8 (q := 9) rfl rfl (by first | exact hA | (rw [up_ne (by omega)]; exact hA)) (hT.k121 hk) (by first | decide | omega) ?_
  refine r_iret hX hR dX3_place_9 ?_
  -- leaf 0 at 9
  refine ⟨congrArg (fun z => some (Value.int z)) ?_, ?_⟩
  ·
    exact (hT.2.2 k hk).2.1
  · rfl

set_option maxRecDepth 100000 in
set_option maxHeartbeats 4000000 in
theorem c_X3_isAtEnd (l : Launch) (Γ : Gam) (G : GG) (T : MU) (n c k : Nat) (hT : TKR G T n c) (hk : k ≤ c) (hA : G 31 7 = nI k) : Sp l yX3_isAtEnd cX3_isAtEnd 1 (some .boolean) 0 0 [.ref (gad Γ 31)] Γ G (eB G (decide (srt T n (pk T n k) = 0))) := by
  refine Sp_of (own := RX3) rfl (by decide +kernel) rfl (Nat.le_of_ble_eq_true rfl) (fun X hX hR => ?_)
  show WP X Γ 0 [some (.ref (gad Γ 31))] [] G
  have hk5 := knd_le (T := T) (n := n) (p := pk T n k)
  refine r_aload0 hX dX3_isAtEnd_0 (q := 1) rfl ?_
  refine r_getR hX dX3_isAtEnd_1 (q := 4) rfl fX3_19 rfl ⟨by decide, by decide, rfl⟩ ?_
  refine r_aload0 hX dX3_isAtEnd_4 (q := 5) rfl ?_
  refine r_getI hX dX3_isAtEnd_5 (q := 8) rfl fX3_34 rfl ⟨by decide, by decide, rfl⟩ ?_
  refine r_ialdN hX dX3_isAtEnd_8 (q := 9) rfl rfl (by first | exact hA | (rw [up_ne (by omega)]; exact hA)) (hT.k121 hk) (by first | decide | omega) ?_
  refine r_iconst hX dX3_isAtEnd_9 (q := 10) rfl (v := nI 5) (by decide +kernel) ?_
  rw [(hT.2.2 k hk).1]
  first | refine r_icmpN_ne hX dX3_isAtEnd_10 (q := 13) rfl (tgt := 17) (by decide) (by first | omega | decide) (by first | omega | decide) (fun h10 => ?_) (fun h10 => ?_) | refine r_icmp_ne hX dX3_isAtEnd_10 (q := 13) rfl (tgt := 17) (by decide) (fun h10 => ?_) (fun h10 => ?_)
  ·
    refine r_iconst hX dX3_isAtEnd_17 (q := 18) rfl (v := nI 0) (by decide +kernel) ?_
    refine r_zret0 hX hR dX3_isAtEnd_18 ?_
    -- leaf 0 at 18
    refine ⟨congrArg (fun z => some (Value.int (bi z))) ?_, ?_⟩
    ·
      first | exact (decide_eq_true (knd_5 h10)).symm | exact (decide_eq_false (fun q => h10 (knd_5i q))).symm
    · rfl
  ·
    refine r_iconst hX dX3_isAtEnd_13 (q := 14) rfl (v := nI 1) (by decide +kernel) ?_
    refine r_goto hX dX3_isAtEnd_14 (tgt := 18) (by decide) ?_
    refine r_zret1 hX hR dX3_isAtEnd_18 ?_
    -- leaf 1 at 18
    refine ⟨congrArg (fun z => some (Value.int (bi z))) ?_, ?_⟩
    ·
      first | exact (decide_eq_true (knd_5 h10)).symm | exact (decide_eq_false (fun q => h10 (knd_5i q))).symm
    · rfl

set_option maxRecDepth 100000 in
set_option maxHeartbeats 4000000 in
theorem c_X3_isAtNumber (l : Launch) (Γ : Gam) (G : GG) (T : MU) (n c k : Nat) (hT : TKR G T n c) (hk : k ≤ c) (hA : G 31 7 = nI k) : Sp l yX3_isAtNumber cX3_isAtNumber 1 (some .boolean) 0 0 [.ref (gad Γ 31)] Γ G (eB G (decide (srt T n (pk T n k) = 2))) := by
  refine Sp_of (own := RX3) rfl (by decide +kernel) rfl (Nat.le_of_ble_eq_true rfl) (fun X hX hR => ?_)
  show WP X Γ 0 [some (.ref (gad Γ 31))] [] G
  have hk5 := knd_le (T := T) (n := n) (p := pk T n k)
  refine r_aload0 hX dX3_isAtNumber_0 (q := 1) rfl ?_
  refine r_getR hX dX3_isAtNumber_1 (q := 4) rfl fX3_19 rfl ⟨by decide, by decide, rfl⟩ ?_
  refine r_aload0 hX dX3_isAtNumber_4 (q := 5) rfl ?_
  refine r_getI hX dX3_isAtNumber_5 (q := 8) rfl fX3_34 rfl ⟨by decide, by decide, rfl⟩ ?_
  refine r_ialdN hX dX3_isAtNumber_8 (q := 9) rfl rfl (by first | exact hA | (rw [up_ne (by omega)]; exact hA)) (hT.k121 hk) (by first | decide | omega) ?_
  refine r_iconst hX dX3_isAtNumber_9 (q := 10) rfl (v := nI 2) (by decide +kernel) ?_
  rw [(hT.2.2 k hk).1]
  first | refine r_icmpN_ne hX dX3_isAtNumber_10 (q := 13) rfl (tgt := 17) (by decide) (by first | omega | decide) (by first | omega | decide) (fun h10 => ?_) (fun h10 => ?_) | refine r_icmp_ne hX dX3_isAtNumber_10 (q := 13) rfl (tgt := 17) (by decide) (fun h10 => ?_) (fun h10 => ?_)
  ·
    refine r_iconst hX dX3_isAtNumber_17 (q := 18) rfl (v := nI 0) (by decide +kernel) ?_
    refine r_zret0 hX hR dX3_isAtNumber_18 ?_
    -- leaf 0 at 18
    refine ⟨congrArg (fun z => some (Value.int (bi z))) ?_, ?_⟩
    ·
      first | exact (decide_eq_true (knd_2 h10)).symm | exact (decide_eq_false (fun q => h10 (knd_2i q))).symm
    · rfl
  ·
    refine r_iconst hX dX3_isAtNumber_13 (q := 14) rfl (v := nI 1) (by decide +kernel) ?_
    refine r_goto hX dX3_isAtNumber_14 (tgt := 18) (by decide) ?_
    refine r_zret1 hX hR dX3_isAtNumber_18 ?_
    -- leaf 1 at 18
    refine ⟨congrArg (fun z => some (Value.int (bi z))) ?_, ?_⟩
    ·
      first | exact (decide_eq_true (knd_2 h10)).symm | exact (decide_eq_false (fun q => h10 (knd_2i q))).symm
    · rfl

set_option maxRecDepth 100000 in
set_option maxHeartbeats 4000000 in
theorem c_X3_step (l : Launch) (Γ : Gam) (G : GG) (T : MU) (n c k : Nat) (hT : TKR G T n c) (hk : k ≤ c) (hA : G 31 7 = nI k) (hs : ¬ srt T n (pk T n k) = 0) : Sp l yX3_step cX3_step 1 none 0 0 [.ref (gad Γ 31)] Γ G (eV (up G 31 7 (nI (k + 1)))) := by
  refine Sp_of (own := RX3) rfl (by decide +kernel) rfl (Nat.le_of_ble_eq_true rfl) (fun X hX hR => ?_)
  show WP X Γ 0 [some (.ref (gad Γ 31))] [] G
  have hk5 := knd_le (T := T) (n := n) (p := pk T n k)
  refine r_aload0 hX dX3_step_0 (q := 1) rfl ?_
  refine r_getR hX dX3_step_1 (q := 4) rfl fX3_19 rfl ⟨by decide, by decide, rfl⟩ ?_
  refine r_aload0 hX dX3_step_4 (q := 5) rfl ?_
  refine r_getI hX dX3_step_5 (q := 8) rfl fX3_34 rfl ⟨by decide, by decide, rfl⟩ ?_
  refine r_ialdN hX dX3_step_8 (q := 9) rfl rfl (by first | exact hA | (rw [up_ne (by omega)]; exact hA)) (hT.k121 hk) (by first | decide | omega) ?_
  refine r_iconst hX dX3_step_9 (q := 10) rfl (v := nI 5) (by decide +kernel) ?_
  rw [(hT.2.2 k hk).1]
  first | refine r_icmpN_eq hX dX3_step_10 (q := 13) rfl (tgt := 23) (by decide) (by first | omega | decide) (by first | omega | decide) (fun h10 => ?_) (fun h10 => ?_) | refine r_icmp_eq hX dX3_step_10 (q := 13) rfl (tgt := 23) (by decide) (fun h10 => ?_) (fun h10 => ?_)
  ·
    exact absurd h10 (knd_n5 hs) --end
  ·
    refine r_aload0 hX dX3_step_13 (q := 14) rfl ?_
    refine r_dup hX dX3_step_14 (q := 15) rfl rfl ?_
    refine r_getI hX dX3_step_15 (q := 18) rfl fX3_34 rfl ⟨by decide, by decide, rfl⟩ ?_
    rw [hA]
    refine r_iconst hX dX3_step_18 (q := 19) rfl (v := nI 1) (by decide +kernel) ?_
    refine r_iadd hX dX3_step_19 (q := 20) rfl ?_
    refine r_put hX dX3_step_20 (q := 23) rfl fX3_34 wX3_7 rfl rfl rfl ⟨by decide, by decide, rfl⟩ ?_
    refine r_vret hX hR dX3_step_23 ?_
    -- leaf 0 at 23
    refine ⟨rfl, ?_⟩
    rw [nI_add]

set_option maxRecDepth 100000 in
set_option maxHeartbeats 4000000 in
theorem c_X3_takesSign (l : Launch) (Γ : Gam) (G : GG) (T : MU) (n c k : Nat) (hT : TKR G T n c) (hk : k ≤ c) (hA : G 31 7 = nI k) : Sp l yX3_takesSign cX3_takesSign 2 (some .boolean) 1 20 [.ref (gad Γ 31)] Γ G (pB (fun b G' => b = sgB T n (pk T n k) ∧ G' = if sgB T n (pk T n k) = true then up G 31 7 (nI (k + 1)) else G)) := by
  refine Sp_of (own := RX3) rfl (by decide +kernel) rfl (Nat.le_of_ble_eq_true rfl) (fun X hX hR => ?_)
  show WP X Γ 0 [some (.ref (gad Γ 31)), none] [] G
  have hk5 := knd_le (T := T) (n := n) (p := pk T n k)
  refine r_aload0 hX dX3_takesSign_0 (q := 1) rfl ?_
  refine r_getR hX dX3_takesSign_1 (q := 4) rfl fX3_19 rfl ⟨by decide, by decide, rfl⟩ ?_
  refine r_aload0 hX dX3_takesSign_4 (q := 5) rfl ?_
  refine r_getI hX dX3_takesSign_5 (q := 8) rfl fX3_34 rfl ⟨by decide, by decide, rfl⟩ ?_
  refine r_ialdN hX dX3_takesSign_8 (q := 9) rfl rfl (by first | exact hA | (rw [up_ne (by omega)]; exact hA)) (hT.k121 hk) (by first | decide | omega) ?_
  refine r_iconst hX dX3_takesSign_9 (q := 10) rfl (v := nI 3) (by decide +kernel) ?_
  rw [(hT.2.2 k hk).1]
  first | refine r_icmpN_ne hX dX3_takesSign_10 (q := 13) rfl (tgt := 17) (by decide) (by first | omega | decide) (by first | omega | decide) (fun h10 => ?_) (fun h10 => ?_) | refine r_icmp_ne hX dX3_takesSign_10 (q := 13) rfl (tgt := 17) (by decide) (fun h10 => ?_) (fun h10 => ?_)
  ·
    refine r_iconst hX dX3_takesSign_17 (q := 18) rfl (v := nI 0) (by decide +kernel) ?_
    refine r_istore1 hX dX3_takesSign_18 (q := 19) rfl rfl ?_
    refine r_iload1 hX dX3_takesSign_19 (q := 20) rfl ?_
    refine r_if_eq hX dX3_takesSign_20 (q := 23) rfl (tgt := 27) (by decide) (fun _ => ?_) (fun h => absurd (by decide +kernel) h)
    refine r_iload1 hX dX3_takesSign_27 (q := 28) rfl ?_
    refine r_zret0 hX hR dX3_takesSign_28 ?_
    -- leaf 0 at 28
    refine ⟨_, rfl, ?_⟩
    first
      | exact ⟨(knd_3 h10).2.symm, (if_pos (knd_3 h10).2).symm⟩
      | exact ⟨(knd_n3 h10).symm, (if_neg (by rw [knd_n3 h10]; decide)).symm⟩
  ·
    refine r_iconst hX dX3_takesSign_13 (q := 14) rfl (v := nI 1) (by decide +kernel) ?_
    refine r_goto hX dX3_takesSign_14 (tgt := 18) (by decide) ?_
    refine r_istore1 hX dX3_takesSign_18 (q := 19) rfl rfl ?_
    refine r_iload1 hX dX3_takesSign_19 (q := 20) rfl ?_
    refine r_if_eq hX dX3_takesSign_20 (q := 23) rfl (tgt := 27) (by decide) (fun h => absurd h (by decide +kernel)) (fun _ => ?_)
    refine r_aload0 hX dX3_takesSign_23 (q := 24) rfl ?_
    refine r_callV hX dX3_takesSign_24 (q := 27) rfl (c_X3_step _ Γ _ T n c k hT hk hA (knd_3 h10).1) kX3_69 mlX3_step mvX3_step rfl rfl rfl ⟨by decide, rfl⟩ ⟨by decide, by decide⟩ (Nat.le_of_ble_eq_true rfl) (keV ?_)
    refine r_iload1 hX dX3_takesSign_27 (q := 28) rfl ?_
    refine r_zret1 hX hR dX3_takesSign_28 ?_
    -- leaf 1 at 28
    refine ⟨_, rfl, ?_⟩
    first
      | exact ⟨(knd_3 h10).2.symm, (if_pos (knd_3 h10).2).symm⟩
      | exact ⟨(knd_n3 h10).symm, (if_neg (by rw [knd_n3 h10]; decide)).symm⟩

set_option maxRecDepth 100000 in
set_option maxHeartbeats 4000000 in
theorem c_X3_takenNumber (l : Launch) (Γ : Gam) (G : GG) (T : MU) (n c k : Nat) (hT : TKR G T n c) (hk : k ≤ c) (hA : G 31 7 = nI k) (x y : Int32) (lo hi : Nat) (hx : x = nI lo) (hy : y = nI hi) (hlo : lo < 2 ^ 31) (hhi : hi < 10000) : Sp l yX3_takenNumber cX3_takenNumber 4 (some .int) 1 22 [.ref (gad Γ 31), .int x, .int y] Γ G (pI (fun v G' => match numF T n (pk T n k) lo hi with | some z => v = nI z ∧ G' = up G 31 7 (nI (k + 1)) | none => v = -1 ∧ G' = G)) := by
  refine Sp_of (own := RX3) rfl (by decide +kernel) rfl (Nat.le_of_ble_eq_true rfl) (fun X hX hR => ?_)
  show WP X Γ 0 [some (.ref (gad Γ 31)), some (.int x), some (.int y), none] [] G
  subst hx
  subst hy
  have hk5 := knd_le (T := T) (n := n) (p := pk T n k)
  refine r_aload0 hX dX3_takenNumber_0 (q := 1) rfl ?_
  refine r_getR hX dX3_takenNumber_1 (q := 4) rfl fX3_19 rfl ⟨by decide, by decide, rfl⟩ ?_
  refine r_aload0 hX dX3_takenNumber_4 (q := 5) rfl ?_
  refine r_getI hX dX3_takenNumber_5 (q := 8) rfl fX3_34 rfl ⟨by decide, by decide, rfl⟩ ?_
  refine r_ialdN hX dX3_takenNumber_8 (q := 9) rfl rfl (by first | exact hA | (rw [up_ne (by omega)]; exact hA)) (hT.k121 hk) (by first | decide | omega) ?_
  refine r_iconst hX dX3_takenNumber_9 (q := 10) rfl (v := nI 2) (by decide +kernel) ?_
  rw [(hT.2.2 k hk).1]
  first | refine r_icmpN_ne hX dX3_takenNumber_10 (q := 13) rfl (tgt := 30) (by decide) (by first | omega | decide) (by first | omega | decide) (fun h10 => ?_) (fun h10 => ?_) | refine r_icmp_ne hX dX3_takenNumber_10 (q := 13) rfl (tgt := 30) (by decide) (fun h10 => ?_) (fun h10 => ?_)
  ·
    refine r_iconst hX dX3_takenNumber_30 (q := 31) rfl (v := (-1)) (by decide +kernel) ?_
    refine r_iret hX hR dX3_takenNumber_31 ?_
    -- leaf 0 at 31
    refine ⟨_, rfl, ?_⟩
    first
      | (rw [numF_n (fun q => h10 (knd_2i q))]; exact ⟨rfl, rfl⟩)
      | (rw [numF_n2 (fun q => h27 ⟨nI_le q.1 (by omega), nI_le q.2 (by have := val_le (T := T) (n := n) (p := pk T n k); omega)⟩)]; exact ⟨rfl, rfl⟩)
  ·
    refine r_aload0 hX dX3_takenNumber_13 (q := 14) rfl ?_
    refine r_getR hX dX3_takenNumber_14 (q := 17) rfl fX3_28 rfl ⟨by decide, by decide, rfl⟩ ?_
    refine r_aload0 hX dX3_takenNumber_17 (q := 18) rfl ?_
    refine r_getI hX dX3_takenNumber_18 (q := 21) rfl fX3_34 rfl ⟨by decide, by decide, rfl⟩ ?_
    refine r_ialdN hX dX3_takenNumber_21 (q := 22) rfl rfl (by first | exact hA | (rw [up_ne (by omega)]; exact hA)) (hT.k121 hk) (by first | decide | omega) ?_
    rw [(hT.2.2 k hk).2.2.2, if_pos (knd_2 h10)]
    refine r_iload1 hX dX3_takenNumber_22 (q := 23) rfl ?_
    refine r_iload2 hX dX3_takenNumber_23 (q := 24) rfl ?_
    refine r_callN hX dX3_takenNumber_24 (q := 27) rfl (c_X5_within _ Γ _ _ _ _) kX3_49 mlX5_within msX5_within rfl rfl ⟨by decide, by decide⟩ (Nat.le_of_ble_eq_true rfl) (keB ?_)
    first | with_reducible refine r_ifd_ne hX dX3_takenNumber_27 (q := 30) rfl (tgt := 32) (by decide) (fun h27 => ?_) (fun h27 => ?_) | refine r_ifb_ne hX dX3_takenNumber_27 (q := 30) rfl (tgt := 32) (by decide) (fun h27 => ?_) (fun h27 => ?_)
    ·
      refine r_aload0 hX dX3_takenNumber_32 (q := 33) rfl ?_
      refine r_getR hX dX3_takenNumber_33 (q := 36) rfl fX3_28 rfl ⟨by decide, by decide, rfl⟩ ?_
      refine r_aload0 hX dX3_takenNumber_36 (q := 37) rfl ?_
      refine r_getI hX dX3_takenNumber_37 (q := 40) rfl fX3_34 rfl ⟨by decide, by decide, rfl⟩ ?_
      refine r_ialdN hX dX3_takenNumber_40 (q := 41) rfl rfl (by first | exact hA | (rw [up_ne (by omega)]; exact hA)) (hT.k121 hk) (by first | decide | omega) ?_
      skip
      refine r_istore3 hX dX3_takenNumber_41 (q := 42) rfl rfl ?_
      refine r_aload0 hX dX3_takenNumber_42 (q := 43) rfl ?_
      refine r_callV hX dX3_takenNumber_43 (q := 46) rfl (c_X3_step _ Γ _ T n c k hT hk hA (by rw [knd_2 h10]; decide)) kX3_69 mlX3_step mvX3_step rfl rfl rfl ⟨by decide, rfl⟩ ⟨by decide, by decide⟩ (Nat.le_of_ble_eq_true rfl) (keV ?_)
      refine r_iload3 hX dX3_takenNumber_46 (q := 47) rfl ?_
      refine r_iret hX hR dX3_takenNumber_47 ?_
      -- leaf 1 at 47
      refine ⟨_, rfl, ?_⟩
      have hv := val_le (T := T) (n := n) (p := pk T n k)
      rw [numF_s (knd_2 h10) ((nI_leI hlo (by omega)).mp h27.1) ((nI_leI (by omega) (by omega)).mp h27.2)]
      exact ⟨((hT.2.2 k hk).2.2.2).trans (by rw [if_pos (knd_2 h10)]), rfl⟩
    ·
      refine r_iconst hX dX3_takenNumber_30 (q := 31) rfl (v := (-1)) (by decide +kernel) ?_
      refine r_iret hX hR dX3_takenNumber_31 ?_
      -- leaf 2 at 31
      refine ⟨_, rfl, ?_⟩
      first
        | (rw [numF_n (fun q => h10 (knd_2i q))]; exact ⟨rfl, rfl⟩)
        | (rw [numF_n2 (fun q => h27 ⟨nI_le q.1 (by omega), nI_le q.2 (by have := val_le (T := T) (n := n) (p := pk T n k); omega)⟩)]; exact ⟨rfl, rfl⟩)

set_option maxRecDepth 100000 in
set_option maxHeartbeats 4000000 in
theorem c_X3_takenNumberBehindWord (l : Launch) (Γ : Gam) (G : GG) (T : MU) (n c k : Nat) (hT : TKR G T n c) (hk : k ≤ c) (hA : G 31 7 = nI k) (hs : ¬ srt T n (pk T n k) = 0) (x y : Int32) (lo hi : Nat) (hx : x = nI lo) (hy : y = nI hi) (hlo : lo < 2 ^ 31) (hhi : hi < 10000) : Sp l yX3_takenNumberBehindWord cX3_takenNumberBehindWord 3 (some .int) 2 45 [.ref (gad Γ 31), .int x, .int y] Γ G (pI (fun v G' => match numF T n (pk T n (k + 1)) lo hi with | some z => v = nI z ∧ G' = up (up G 31 7 (nI (k + 1))) 31 7 (nI (k + 1 + 1)) | none => v = -1 ∧ G' = up G 31 7 (nI (k + 1)))) := by
  refine Sp_of (own := RX3) rfl (by decide +kernel) rfl (Nat.le_of_ble_eq_true rfl) (fun X hX hR => ?_)
  show WP X Γ 0 [some (.ref (gad Γ 31)), some (.int x), some (.int y)] [] G
  refine r_aload0 hX dX3_takenNumberBehindWord_0 (q := 1) rfl ?_
  refine r_callV hX dX3_takenNumberBehindWord_1 (q := 4) rfl (c_X3_step _ Γ _ T n c k hT hk hA hs) kX3_69 mlX3_step mvX3_step rfl rfl rfl ⟨by decide, rfl⟩ ⟨by decide, by decide⟩ (Nat.le_of_ble_eq_true rfl) (keV ?_)
  refine r_aload0 hX dX3_takenNumberBehindWord_4 (q := 5) rfl ?_
  refine r_iload1 hX dX3_takenNumberBehindWord_5 (q := 6) rfl ?_
  refine r_iload2 hX dX3_takenNumberBehindWord_6 (q := 7) rfl ?_
  refine r_callV hX dX3_takenNumberBehindWord_7 (q := 10) rfl (c_X3_takenNumber _ Γ _ T n c (k + 1) (hT.at _) (hT.lt hk hs) up_eq _ _ lo hi hx hy hlo hhi) kX3_72 mlX3_takenNumber mvX3_takenNumber rfl rfl rfl ⟨by decide, rfl⟩ ⟨by decide, by decide⟩ (Nat.le_of_ble_eq_true rfl) (kpI (fun v7 G7 p7 => ?_))
  refine r_iret hX hR dX3_takenNumberBehindWord_10 ?_
  -- leaf 0 at 10
  refine ⟨_, rfl, ?_⟩
  exact p7

set_option maxRecDepth 100000 in
set_option maxHeartbeats 4000000 in
theorem c_X3_isAtWord (l : Launch) (Γ : Gam) (G : GG) (T : MU) (n c k : Nat) (hT : TKR G T n c) (hk : k ≤ c) (hA : G 31 7 = nI k) (i : Nat) (hi : i < 17) : Sp l yX3_isAtWord cX3_isAtWord 3 (some .boolean) 4 85 [.ref (gad Γ 31), .ref (gK Γ i)] Γ G (eB G (wdB T n (pk T n k) i)) := by
  refine Sp_of (own := RX3) rfl (by decide +kernel) rfl (Nat.le_of_ble_eq_true rfl) (fun X hX hR => ?_)
  show WP X Γ 0 [some (.ref (gad Γ 31)), some (.ref (gK Γ i)), none] [] G
  have hk5 := knd_le (T := T) (n := n) (p := pk T n k)
  have h17 : ∀ i, i < 17 → slen.getD i 0 < 8 := by decide
  have hl8 := h17 i hi
  have hnb := nxt_b (T := T) (pk_b (T := T) (n := n) k)
  have hn120 := hT.1.1
  refine r_aload0 hX dX3_isAtWord_0 (q := 1) rfl ?_
  refine r_getR hX dX3_isAtWord_1 (q := 4) rfl fX3_19 rfl ⟨by decide, by decide, rfl⟩ ?_
  refine r_aload0 hX dX3_isAtWord_4 (q := 5) rfl ?_
  refine r_getI hX dX3_isAtWord_5 (q := 8) rfl fX3_34 rfl ⟨by decide, by decide, rfl⟩ ?_
  refine r_ialdN hX dX3_isAtWord_8 (q := 9) rfl rfl (by first | exact hA | (rw [up_ne (by omega)]; exact hA)) (hT.k121 hk) (by first | decide | omega) ?_
  refine r_iconst hX dX3_isAtWord_9 (q := 10) rfl (v := nI 1) (by decide +kernel) ?_
  rw [(hT.2.2 k hk).1]
  first | refine r_icmpN_ne hX dX3_isAtWord_10 (q := 13) rfl (tgt := 29) (by decide) (by first | omega | decide) (by first | omega | decide) (fun h10 => ?_) (fun h10 => ?_) | refine r_icmp_ne hX dX3_isAtWord_10 (q := 13) rfl (tgt := 29) (by decide) (fun h10 => ?_) (fun h10 => ?_)
  ·
    refine r_iconst hX dX3_isAtWord_29 (q := 30) rfl (v := nI 0) (by decide +kernel) ?_
    refine r_zret0 hX hR dX3_isAtWord_30 ?_
    -- leaf 0 at 30
    refine ⟨congrArg (fun z => some (Value.int (bi z))) ?_, ?_⟩
    ·
      first
        | exact (decide_eq_false (fun q => h10 (knd_1i q.1))).symm
        | exact (decide_eq_false (fun q => h26 q.2.1)).symm
    · rfl
  ·
    refine r_aload0 hX dX3_isAtWord_13 (q := 14) rfl ?_
    refine r_getR hX dX3_isAtWord_14 (q := 17) rfl fX3_25 rfl ⟨by decide, by decide, rfl⟩ ?_
    refine r_aload0 hX dX3_isAtWord_17 (q := 18) rfl ?_
    refine r_getI hX dX3_isAtWord_18 (q := 21) rfl fX3_34 rfl ⟨by decide, by decide, rfl⟩ ?_
    refine r_ialdN hX dX3_isAtWord_21 (q := 22) rfl rfl (by first | exact hA | (rw [up_ne (by omega)]; exact hA)) (hT.k121 hk) (by first | decide | omega) ?_
    rw [(hT.2.2 k hk).2.2.1]
    refine r_aload1 hX dX3_isAtWord_22 (q := 23) rfl ?_
    refine r_callK hX dX3_isAtWord_23 (q := 26) rfl (c_J0_length_8abf5 _ Γ _ _ (by first | assumption | decide)) kX3_59 mlJ0_length_8abf5 mvJ0_length_8abf5 rfl rfl (by first | assumption | decide) rfl ⟨by decide, by decide⟩ (Nat.le_of_ble_eq_true rfl) (keI ?_)
    first | refine r_icmpN_eq hX dX3_isAtWord_26 (q := 29) rfl (tgt := 31) (by decide) (by first | omega | decide) (by first | omega | decide) (fun h26 => ?_) (fun h26 => ?_) | refine r_icmp_eq hX dX3_isAtWord_26 (q := 29) rfl (tgt := 31) (by decide) (fun h26 => ?_) (fun h26 => ?_)
    ·
      have hls : nxt T n (pk T n k) - frm T n (pk T n k) = slen.getD i 0 := h26
      refine r_iconst hX dX3_isAtWord_31 (q := 32) rfl (v := nI 0) (by decide +kernel) ?_
      refine r_istore2 hX dX3_isAtWord_32 (q := 33) rfl rfl ?_
      have L33 : ∀ (zn33 : Nat) (j : Nat), zn33 = slen.getD i 0 - j → (j ≤ slen.getD i 0) → (∀ u, u < j → T (frm T n (pk T n k) + u) = (sbyt.getD i []).getD u 0) → WP X Γ 33 [some (.ref (gad Γ 31)), some (.ref (gK Γ i)), some (.int (nI j))] [] G := by
        intro zn33
        induction zn33 using Nat.strongRecOn with
        | _ zn33 ih33 =>
          intro j zh33 hj hM
          refine r_iload2 hX dX3_isAtWord_33 (q := 34) rfl ?_
          refine r_aload1 hX dX3_isAtWord_34 (q := 35) rfl ?_
          refine r_callK hX dX3_isAtWord_35 (q := 38) rfl (c_J0_length_8abf5 _ Γ _ _ (by first | assumption | decide)) kX3_59 mlJ0_length_8abf5 mvJ0_length_8abf5 rfl rfl (by first | assumption | decide) rfl ⟨by decide, by decide⟩ (Nat.le_of_ble_eq_true rfl) (keI ?_)
          first | refine r_icmpN_ge hX dX3_isAtWord_38 (q := 41) rfl (tgt := 73) (by decide) (by first | omega | decide) (by first | omega | decide) (fun h38 => ?_) (fun h38 => ?_) | refine r_icmp_ge hX dX3_isAtWord_38 (q := 41) rfl (tgt := 73) (by decide) (fun h38 => ?_) (fun h38 => ?_)
          ·
            refine r_iconst hX dX3_isAtWord_73 (q := 74) rfl (v := nI 1) (by decide +kernel) ?_
            refine r_zret1 hX hR dX3_isAtWord_74 ?_
            -- leaf 1 at 74
            refine ⟨congrArg (fun z => some (Value.int (bi z))) ?_, ?_⟩
            ·
              have e : j = slen.getD i 0 := by omega
              subst e
              exact (decide_eq_true ⟨knd_1 h10, h26, hM⟩).symm
            · rfl
          ·
            refine r_aload0 hX dX3_isAtWord_41 (q := 42) rfl ?_
            refine r_getR hX dX3_isAtWord_42 (q := 45) rfl fX3_9 rfl ⟨by decide, by decide, rfl⟩ ?_
            refine r_aload0 hX dX3_isAtWord_45 (q := 46) rfl ?_
            refine r_getR hX dX3_isAtWord_46 (q := 49) rfl fX3_22 rfl ⟨by decide, by decide, rfl⟩ ?_
            refine r_aload0 hX dX3_isAtWord_49 (q := 50) rfl ?_
            refine r_getI hX dX3_isAtWord_50 (q := 53) rfl fX3_34 rfl ⟨by decide, by decide, rfl⟩ ?_
            refine r_ialdN hX dX3_isAtWord_53 (q := 54) rfl rfl (by first | exact hA | (rw [up_ne (by omega)]; exact hA)) (hT.k121 hk) (by first | decide | omega) ?_
            rw [(hT.2.2 k hk).2.1]
            refine r_iload2 hX dX3_isAtWord_54 (q := 55) rfl ?_
            refine r_iadd hX dX3_isAtWord_55 (q := 56) rfl ?_
            refine r_ialdN hX dX3_isAtWord_56 (q := 57) rfl rfl (nI_add _ _) (by omega) (by first | decide | omega) ?_
            rw [hT.1.2.2 _ (show frm T n (pk T n k) + j < n by omega)]
            refine r_aload1 hX dX3_isAtWord_57 (q := 58) rfl ?_
            refine r_iload2 hX dX3_isAtWord_58 (q := 59) rfl ?_
            refine r_callK hX dX3_isAtWord_59 (q := 62) rfl (c_J0_charAt_5068e _ Γ _ i hi _ j rfl (by omega)) kX3_65 mlJ0_charAt_5068e mvJ0_charAt_5068e rfl rfl (by first | assumption | decide) rfl ⟨by decide, by decide⟩ (Nat.le_of_ble_eq_true rfl) (keI ?_)
            first | refine r_icmpN_eq hX dX3_isAtWord_62 (q := 65) rfl (tgt := 67) (by decide) (by first | omega | decide) (by first | omega | decide) (fun h62 => ?_) (fun h62 => ?_) | refine r_icmp_eq hX dX3_isAtWord_62 (q := 65) rfl (tgt := 67) (by decide) (fun h62 => ?_) (fun h62 => ?_)
            ·
              refine r_iincN2 hX dX3_isAtWord_67 (q := 70) rfl rfl ?_
              refine r_goto hX dX3_isAtWord_70 (tgt := 33) (by decide) ?_
              refine ih33 _ ?_ (j + 1) rfl ?_ ?_
              ·
                omega
              ·
                omega
              ·
                intro u hu
                by_cases e : u = j
                · subst e; exact h62
                · exact hM u (by omega)
            ·
              refine r_iconst hX dX3_isAtWord_65 (q := 66) rfl (v := nI 0) (by decide +kernel) ?_
              refine r_zret0 hX hR dX3_isAtWord_66 ?_
              -- leaf 2 at 66
              refine ⟨congrArg (fun z => some (Value.int (bi z))) ?_, ?_⟩
              ·
                exact (decide_eq_false (fun q => h62 (q.2.2 j (by omega)))).symm
              · rfl
      refine L33 _ 0 rfl ?_ ?_
      ·
        exact Nat.zero_le _
      ·
        exact fun u hu => absurd hu (by omega)
    ·
      refine r_iconst hX dX3_isAtWord_29 (q := 30) rfl (v := nI 0) (by decide +kernel) ?_
      refine r_zret0 hX hR dX3_isAtWord_30 ?_
      -- leaf 3 at 30
      refine ⟨congrArg (fun z => some (Value.int (bi z))) ?_, ?_⟩
      ·
        first
          | exact (decide_eq_false (fun q => h10 (knd_1i q.1))).symm
          | exact (decide_eq_false (fun q => h26 q.2.1)).symm
      · rfl
