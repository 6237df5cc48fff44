set_option maxRecDepth 100000 in
set_option maxHeartbeats 4000000 in
theorem c_J0_coder_7d493 (l : Launch) (Γ : Gam) (G : GG) (i : Nat) (hi : i < 17) : Sp l yJ0_coder_7d493 cJ0_coder_7d493 1 (some .byte) 0 0 [.ref (gK Γ i)] Γ G (eI G (nI 0)) := by
  refine Sp_of (own := RJ0) rfl (by decide +kernel) rfl (Nat.le_of_ble_eq_true rfl) (fun X hX hR => ?_)
  show WP X Γ 0 [some (.ref (gK Γ i))] [] G
  refine r_getsCS hX dJ0_coder_7d493_0 (q := 3) rfl gJ0_38 ?_
  refine r_if_eq hX dJ0_coder_7d493_3 (q := 6) rfl (tgt := 13) (by decide) (fun h => absurd h (by decide +kernel)) (fun _ => ?_)
  refine r_aload0 hX dJ0_coder_7d493_6 (q := 7) rfl ?_
  refine r_getSC hX dJ0_coder_7d493_7 (q := 10) rfl (by first | assumption | decide) gJ0_15 ?_
  refine r_goto hX dJ0_coder_7d493_10 (tgt := 14) (by decide) ?_
  refine r_nret hX hR (by decide +kernel) dJ0_coder_7d493_14 ?_
  -- leaf 0 at 14
  refine ⟨congrArg (fun z => some (Value.int z)) ?_, ?_⟩
  ·
    rfl
  · rfl

set_option maxRecDepth 100000 in
set_option maxHeartbeats 4000000 in
theorem c_J0_isLatin1_aae02 (l : Launch) (Γ : Gam) (G : GG) (i : Nat) (hi : i < 17) : Sp l yJ0_isLatin1_aae02 cJ0_isLatin1_aae02 1 (some .boolean) 0 0 [.ref (gK Γ i)] Γ G (eB G true) := by
  refine Sp_of (own := RJ0) rfl (by decide +kernel) rfl (Nat.le_of_ble_eq_true rfl) (fun X hX hR => ?_)
  show WP X Γ 0 [some (.ref (gK Γ i))] [] G
  refine r_getsCS hX dJ0_isLatin1_aae02_0 (q := 3) rfl gJ0_38 ?_
  refine r_if_eq hX dJ0_isLatin1_aae02_3 (q := 6) rfl (tgt := 17) (by decide) (fun h => absurd h (by decide +kernel)) (fun _ => ?_)
  refine r_aload0 hX dJ0_isLatin1_aae02_6 (q := 7) rfl ?_
  refine r_getSC hX dJ0_isLatin1_aae02_7 (q := 10) rfl (by first | assumption | decide) gJ0_15 ?_
  refine r_if_ne hX dJ0_isLatin1_aae02_10 (q := 13) rfl (tgt := 17) (by decide) (fun h => absurd h (by decide +kernel)) (fun _ => ?_)
  refine r_iconst hX dJ0_isLatin1_aae02_13 (q := 14) rfl (v := nI 1) (by decide +kernel) ?_
  refine r_goto hX dJ0_isLatin1_aae02_14 (tgt := 18) (by decide) ?_
  refine r_zret1 hX hR dJ0_isLatin1_aae02_18 ?_
  -- leaf 0 at 18
  refine ⟨congrArg (fun z => some (Value.int (bi z))) ?_, ?_⟩
  ·
    rfl
  · rfl

set_option maxRecDepth 100000 in
set_option maxHeartbeats 4000000 in
theorem c_J0_length_8abf5 (l : Launch) (Γ : Gam) (G : GG) (i : Nat) (hi : i < 17) : Sp l yJ0_length_8abf5 cJ0_length_8abf5 1 (some .int) 1 20 [.ref (gK Γ i)] Γ G (eI G (nI (slen.getD i 0))) := by
  refine Sp_of (own := RJ0) rfl (by decide +kernel) rfl (Nat.le_of_ble_eq_true rfl) (fun X hX hR => ?_)
  show WP X Γ 0 [some (.ref (gK Γ i))] [] G
  refine r_aload0 hX dJ0_length_8abf5_0 (q := 1) rfl ?_
  refine r_getSV hX dJ0_length_8abf5_1 (q := 4) rfl (by first | assumption | decide) gJ0_9 ?_
  refine r_slen hX dJ0_length_8abf5_4 (q := 5) rfl (by first | assumption | decide) ?_
  refine r_aload0 hX dJ0_length_8abf5_5 (q := 6) rfl ?_
  refine r_callK hX dJ0_length_8abf5_6 (q := 9) rfl (c_J0_coder_7d493 _ Γ _ _ (by first | assumption | decide)) kJ0_335 mlJ0_coder_7d493 mvJ0_coder_7d493 rfl rfl (by first | assumption | decide) rfl ⟨by decide, by decide⟩ (Nat.le_of_ble_eq_true rfl) (keI ?_)
  refine r_ishr hX dJ0_length_8abf5_9 (q := 10) rfl ?_
  refine r_iret hX hR dJ0_length_8abf5_10 ?_
  -- leaf 0 at 10
  refine ⟨congrArg (fun z => some (Value.int z)) ?_, ?_⟩
  ·
    have h17 : ∀ i, i < 17 → slen.getD i 0 < 2 ^ 31 := by decide
    exact sc_shr0 (h17 i hi)
  · rfl

set_option maxRecDepth 100000 in
set_option maxHeartbeats 4000000 in
theorem c_J3_checkIndex_8e157 (l : Launch) (Γ : Gam) (G : GG) (x y : Int32) (sv : Value) (hsv : sv.category = 1) (j m : Nat) (hx : x = nI j) (hy : y = nI m) (hj : j < m) (hm : m < 2 ^ 31) : Sp l yJ3_checkIndex_8e157 cJ3_checkIndex_8e157 3 (some .int) 0 0 [.int x, .int y, sv] Γ G (eI G x) := by
  refine Sp_of (own := RJ3) rfl (by decide +kernel) (by simp only [no2, List.all_cons, List.all_nil, Bool.and_true, Bool.and_eq_true, beq_iff_eq]; exact ⟨rfl, rfl, hsv⟩) (Nat.le_of_ble_eq_true rfl) (fun X hX hR => ?_)
  show WP X Γ 0 [some (.int x), some (.int y), some (sv)] [] G
  subst hx
  subst hy
  refine r_iload0 hX dJ3_checkIndex_8e157_0 (q := 1) rfl ?_
  refine r_if_lt hX dJ3_checkIndex_8e157_1 (q := 4) rfl (tgt := 9) (by decide) (fun h1 => ?_) (fun h1 => ?_)
  ·
    exact absurd h1 (nI_pos (by omega)) --end
  ·
    refine r_iload0 hX dJ3_checkIndex_8e157_4 (q := 5) rfl ?_
    refine r_iload1 hX dJ3_checkIndex_8e157_5 (q := 6) rfl ?_
    first | refine r_icmpN_lt hX dJ3_checkIndex_8e157_6 (q := 9) rfl (tgt := 16) (by decide) (by first | decide | omega) (by first | decide | omega) (fun h6 => ?_) (fun h6 => ?_) | refine r_icmp_lt hX dJ3_checkIndex_8e157_6 (q := 9) rfl (tgt := 16) (by decide) (fun h6 => ?_) (fun h6 => ?_)
    ·
      refine r_iload0 hX dJ3_checkIndex_8e157_16 (q := 17) rfl ?_
      refine r_iret hX hR dJ3_checkIndex_8e157_17 ?_
      -- leaf 0 at 17
      refine ⟨congrArg (fun z => some (Value.int z)) ?_, ?_⟩
      ·
        rfl
      · rfl
    ·
      exact absurd hj (by omega) --end

set_option maxRecDepth 100000 in
set_option maxHeartbeats 4000000 in
theorem c_J0_checkIndex_df160 (l : Launch) (Γ : Gam) (G : GG) (x y : Int32) (j m : Nat) (hx : x = nI j) (hy : y = nI m) (hj : j < m) (hm : m < 2 ^ 31) : Sp l yJ0_checkIndex_df160 cJ0_checkIndex_df160 2 none 1 22 [.int x, .int y] Γ G (eV G) := by
  refine Sp_of (own := RJ0) rfl (by decide +kernel) rfl (Nat.le_of_ble_eq_true rfl) (fun X hX hR => ?_)
  show WP X Γ 0 [some (.int x), some (.int y)] [] G
  refine r_iload0 hX dJ0_checkIndex_df160_0 (q := 1) rfl ?_
  refine r_iload1 hX dJ0_checkIndex_df160_1 (q := 2) rfl ?_
  refine r_getsSI hX dJ0_checkIndex_df160_2 (q := 5) rfl gJ0_1053 (fun sv hsv => ?_)
  refine r_callS hX dJ0_checkIndex_df160_5 (q := 8) rfl (c_J3_checkIndex_8e157 _ Γ _ _ _ _ hsv j m hx hy hj hm) kJ0_1059 mlJ3_checkIndex_8e157 msJ3_checkIndex_8e157 rfl rfl ⟨by decide, by decide⟩ (Nat.le_of_ble_eq_true rfl) (keI ?_)
  refine r_pop hX dJ0_checkIndex_df160_8 (q := 9) rfl rfl ?_
  refine r_vret hX hR dJ0_checkIndex_df160_9 ?_
  -- leaf 0 at 9
  refine ⟨rfl, ?_⟩
  rfl

set_option maxRecDepth 100000 in
set_option maxHeartbeats 4000000 in
theorem c_J1_charAt_3b067 (l : Launch) (Γ : Gam) (G : GG) (i : Nat) (hi : i < 17) (x : Int32) (j : Nat) (hx : x = nI j) (hj : j < slen.getD i 0) : Sp l yJ1_charAt_3b067 cJ1_charAt_3b067 2 (some .char) 2 43 [.ref (gV Γ i), .int x] Γ G (eI G ((sbyt.getD i []).getD j 0)) := by
  refine Sp_of (own := RJ1) rfl (by decide +kernel) rfl (Nat.le_of_ble_eq_true rfl) (fun X hX hR => ?_)
  show WP X Γ 0 [some (.ref (gV Γ i)), some (.int x)] [] G
  subst hx
  have h17 : ∀ i, i < 17 → slen.getD i 0 < 8 := by decide
  have hl := h17 i hi
  refine r_iload1 hX dJ1_charAt_3b067_0 (q := 1) rfl ?_
  refine r_aload0 hX dJ1_charAt_3b067_1 (q := 2) rfl ?_
  refine r_slen hX dJ1_charAt_3b067_2 (q := 3) rfl (by first | assumption | decide) ?_
  refine r_callS hX dJ1_charAt_3b067_3 (q := 6) rfl (c_J0_checkIndex_df160 _ Γ _ _ _ j (slen.getD i 0) rfl rfl hj (by omega)) kJ1_9 mlJ0_checkIndex_df160 msJ0_checkIndex_df160 rfl rfl ⟨by decide, by decide⟩ (Nat.le_of_ble_eq_true rfl) (keV ?_)
  refine r_aload0 hX dJ1_charAt_3b067_6 (q := 7) rfl ?_
  refine r_iload1 hX dJ1_charAt_3b067_7 (q := 8) rfl ?_
  refine r_sbald hX dJ1_charAt_3b067_8 (q := 9) rfl (by first | assumption | decide) rfl hj (by omega) ?_
  refine r_sipush hX dJ1_charAt_3b067_9 (q := 12) rfl (v := nI 255) (by decide +kernel) ?_
  refine r_iand hX dJ1_charAt_3b067_12 (q := 13) rfl ?_
  refine r_i2c hX dJ1_charAt_3b067_13 (q := 14) rfl ?_
  refine r_nret hX hR (pk_nc _) dJ1_charAt_3b067_14 ?_
  -- leaf 0 at 14
  refine ⟨congrArg (fun z => some (Value.int z)) ?_, ?_⟩
  ·
    have key : ∀ i, i < 17 → ∀ j, j < 8 → j < slen.getD i 0 → ((((sbyt.getD i []).getD j 0) &&& nI 255).toUInt32 % 65536).toInt32 = (sbyt.getD i []).getD j 0 := by decide +kernel
    exact key i hi j (by omega) hj
  · rfl

set_option maxRecDepth 100000 in
set_option maxHeartbeats 4000000 in
theorem c_J0_charAt_5068e (l : Launch) (Γ : Gam) (G : GG) (i : Nat) (hi : i < 17) (x : Int32) (j : Nat) (hx : x = nI j) (hj : j < slen.getD i 0) : Sp l yJ0_charAt_5068e cJ0_charAt_5068e 2 (some .char) 3 64 [.ref (gK Γ i), .int x] Γ G (eI G ((sbyt.getD i []).getD j 0)) := by
  refine Sp_of (own := RJ0) rfl (by decide +kernel) rfl (Nat.le_of_ble_eq_true rfl) (fun X hX hR => ?_)
  show WP X Γ 0 [some (.ref (gK Γ i)), some (.int x)] [] G
  refine r_aload0 hX dJ0_charAt_5068e_0 (q := 1) rfl ?_
  refine r_callK hX dJ0_charAt_5068e_1 (q := 4) rfl (c_J0_isLatin1_aae02 _ Γ _ _ (by first | assumption | decide)) kJ0_492 mlJ0_isLatin1_aae02 mvJ0_isLatin1_aae02 rfl rfl (by first | assumption | decide) rfl ⟨by decide, by decide⟩ (Nat.le_of_ble_eq_true rfl) (keB ?_)
  first | with_reducible refine r_ifd_eq hX dJ0_charAt_5068e_4 (q := 7) rfl (tgt := 16) (by decide) (fun h4 => ?_) (fun h4 => ?_) | refine r_ifb_eq hX dJ0_charAt_5068e_4 (q := 7) rfl (tgt := 16) (by decide) (fun h4 => ?_) (fun h4 => ?_)
  ·
    exact absurd h4 (by decide) --end
  ·
    refine r_aload0 hX dJ0_charAt_5068e_7 (q := 8) rfl ?_
    refine r_getSV hX dJ0_charAt_5068e_8 (q := 11) rfl (by first | assumption | decide) gJ0_9 ?_
    refine r_iload1 hX dJ0_charAt_5068e_11 (q := 12) rfl ?_
    refine r_callS hX dJ0_charAt_5068e_12 (q := 15) rfl (c_J1_charAt_3b067 _ Γ _ _ (by first | assumption | decide) _ _ (by repeat' (first | assumption | with_reducible exact rfl | refine e_add ?_ ?_ | refine e_mul ?_ ?_)) (by assumption)) kJ0_495 mlJ1_charAt_3b067 msJ1_charAt_3b067 rfl rfl ⟨by decide, by decide⟩ (Nat.le_of_ble_eq_true rfl) (keI ?_)
    refine r_nret hX hR (sb_char hi hj) dJ0_charAt_5068e_15 ?_
    -- leaf 0 at 15
    refine ⟨congrArg (fun z => some (Value.int z)) ?_, ?_⟩
    ·
      rfl
    · rfl

set_option maxRecDepth 100000 in
set_option maxHeartbeats 4000000 in
theorem c_J7_fill_53178 (l : Launch) (Γ : Gam) (G : GG) (c n : Nat) (hc : lay c = (7, n)) (hn : n < 2 ^ 30) (v : Int32) : Sp l yJ7_fill_53178 cJ7_fill_53178 4 none 0 0 [.ref (gad Γ c), .int v] Γ G (eV (upc G c (fun j => if j < n then v else G c j))) := by
  refine Sp_of (own := RJ7) rfl (by decide +kernel) rfl (Nat.le_of_ble_eq_true rfl) (fun X hX hR => ?_)
  show WP X Γ 0 [some (.ref (gad Γ c)), some (.int v), none, none] [] G
  refine r_iconst hX dJ7_fill_53178_0 (q := 1) rfl (v := nI 0) (by decide +kernel) ?_
  refine r_istore2 hX dJ7_fill_53178_1 (q := 2) rfl rfl ?_
  refine r_aload0 hX dJ7_fill_53178_2 (q := 3) rfl ?_
  refine r_alen hX dJ7_fill_53178_3 (q := 4) rfl hc ?_
  refine r_istore3 hX dJ7_fill_53178_4 (q := 5) rfl rfl ?_
  have L5 : ∀ (zn5 : Nat) (k : Nat) (G1 : GG), zn5 = n - k → (k ≤ n) → (G1 = upc G c (fun j => if j < k then v else G c j)) → WP X Γ 5 [some (.ref (gad Γ c)), some (.int v), some (.int (nI k)), some (.int (nI n))] [] G1 := by
    intro zn5
    induction zn5 using Nat.strongRecOn with
    | _ zn5 ih5 =>
      intro k G1 zh5 hk hG
      refine r_iload2 hX dJ7_fill_53178_5 (q := 6) rfl ?_
      refine r_iload3 hX dJ7_fill_53178_6 (q := 7) rfl ?_
      refine r_icmpN_ge hX dJ7_fill_53178_7 (q := 10) rfl (tgt := 20) (by decide) (by first | decide | omega) (by first | decide | omega) (fun h7 => ?_) (fun h7 => ?_)
      ·
        refine r_vret hX hR dJ7_fill_53178_20 ?_
        -- leaf 0 at 20
        refine ⟨rfl, ?_⟩
        have e : k = n := by omega
        subst e
        exact hG
      ·
        refine r_aload0 hX dJ7_fill_53178_10 (q := 11) rfl ?_
        refine r_iload2 hX dJ7_fill_53178_11 (q := 12) rfl ?_
        refine r_iload1 hX dJ7_fill_53178_12 (q := 13) rfl ?_
        refine r_iastN hX dJ7_fill_53178_13 (q := 14) rfl hc (by repeat' (first | assumption | with_reducible exact rfl | refine e_add ?_ ?_ | refine e_mul ?_ ?_)) (by first | assumption | omega) (by first | decide | omega) ?_
        refine r_iincN2 hX dJ7_fill_53178_14 (q := 17) rfl rfl ?_
        refine r_goto hX dJ7_fill_53178_17 (tgt := 5) (by decide) ?_
        refine ih5 _ ?_ (k + 1) _ rfl ?_ ?_
        ·
          omega
        ·
          omega
        ·
          rw [hG]
          funext c1 j
          by_cases h : c1 = c
          · subst h
            by_cases h2 : j = k
            · subst h2; simp [upc, up]
            · simp only [upc, up, h2, and_false, if_false, if_true]
              by_cases h3 : j < k
              · rw [if_pos h3, if_pos (by omega)]
              · rw [if_neg h3, if_neg (by omega)]
          · simp [upc, up, h]
  refine L5 _ 0 _ rfl ?_ ?_
  ·
    exact Nat.zero_le _
  ·
    funext c1 j; by_cases h : c1 = c <;> simp [upc, h]

set_option maxRecDepth 100000 in
set_option maxHeartbeats 4000000 in
theorem c_X2_isMissing (l : Launch) (Γ : Gam) (G : GG) (s : Nat) (hs : s < 4) : Sp l yX2_isMissing cX2_isMissing 1 (some .boolean) 0 0 [.ref (gad Γ (38 + 2 * s))] Γ G (eB G (decide (G (38 + 2 * s) 1 = nI 0))) := by
  refine Sp_of (own := RX2) rfl (by decide +kernel) rfl (Nat.le_of_ble_eq_true rfl) (fun X hX hR => ?_)
  show WP X Γ 0 [some (.ref (gad Γ (38 + 2 * s)))] [] G
  refine r_aload0 hX dX2_isMissing_0 (q := 1) rfl ?_
  refine r_getI hX dX2_isMissing_1 (q := 4) rfl fX2_15 (sh_lay hs).1 ⟨by decide, by decide, (sh_none_1 (by first | assumption | decide))⟩ ?_
  refine r_if_ne hX dX2_isMissing_4 (q := 7) rfl (tgt := 11) (by decide) (fun h4 => ?_) (fun h4 => ?_)
  ·
    refine r_iconst hX dX2_isMissing_11 (q := 12) rfl (v := nI 0) (by decide +kernel) ?_
    refine r_zret0 hX hR dX2_isMissing_12 ?_
    -- leaf 0 at 12
    refine ⟨congrArg (fun z => some (Value.int (bi z))) ?_, ?_⟩
    ·
      rw [← nI_0] at h4; first | exact (decide_eq_true h4).symm | exact (decide_eq_false h4).symm
    · rfl
  ·
    refine r_iconst hX dX2_isMissing_7 (q := 8) rfl (v := nI 1) (by decide +kernel) ?_
    refine r_goto hX dX2_isMissing_8 (tgt := 12) (by decide) ?_
    refine r_zret1 hX hR dX2_isMissing_12 ?_
    -- leaf 1 at 12
    refine ⟨congrArg (fun z => some (Value.int (bi z))) ?_, ?_⟩
    ·
      rw [← nI_0] at h4; first | exact (decide_eq_true h4).symm | exact (decide_eq_false h4).symm
    · rfl

set_option maxRecDepth 100000 in
set_option maxHeartbeats 4000000 in
theorem c_X2_has (l : Launch) (Γ : Gam) (G : GG) (s : Nat) (hs : s < 4) (x n : Int32) : Sp l yX2_has cX2_has 3 (some .boolean) 0 0 [.ref (gad Γ (38 + 2 * s)), .int x, .int n] Γ G (eB G (decide (nI 0 ≤ x ∧ nI 0 ≤ n ∧ x ≤ G (38 + 2 * s) 2 - n))) := by
  refine Sp_of (own := RX2) rfl (by decide +kernel) rfl (Nat.le_of_ble_eq_true rfl) (fun X hX hR => ?_)
  show WP X Γ 0 [some (.ref (gad Γ (38 + 2 * s))), some (.int x), some (.int n)] [] G
  refine r_iload1 hX dX2_has_0 (q := 1) rfl ?_
  refine r_if_lt hX dX2_has_1 (q := 4) rfl (tgt := 22) (by decide) (fun h1 => ?_) (fun h1 => ?_)
  ·
    refine r_iconst hX dX2_has_22 (q := 23) rfl (v := nI 0) (by decide +kernel) ?_
    refine r_zret0 hX hR dX2_has_23 ?_
    -- leaf 0 at 23
    refine ⟨congrArg (fun z => some (Value.int (bi z))) ?_, ?_⟩
    ·
      clear hX hR
      rw [← nI_0] at *
      first
        | exact (decide_eq_true ⟨Int32.not_lt.mp h1, Int32.not_lt.mp h5, Int32.not_lt.mp h15⟩).symm
        | exact (decide_eq_false (fun z => absurd h15 (Int32.not_lt.mpr z.2.2))).symm
        | exact (decide_eq_false (fun z => absurd h5 (Int32.not_lt.mpr z.2.1))).symm
        | exact (decide_eq_false (fun z => absurd h1 (Int32.not_lt.mpr z.1))).symm
    · rfl
  ·
    refine r_iload2 hX dX2_has_4 (q := 5) rfl ?_
    refine r_if_lt hX dX2_has_5 (q := 8) rfl (tgt := 22) (by decide) (fun h5 => ?_) (fun h5 => ?_)
    ·
      refine r_iconst hX dX2_has_22 (q := 23) rfl (v := nI 0) (by decide +kernel) ?_
      refine r_zret0 hX hR dX2_has_23 ?_
      -- leaf 1 at 23
      refine ⟨congrArg (fun z => some (Value.int (bi z))) ?_, ?_⟩
      ·
        clear hX hR
        rw [← nI_0] at *
        first
          | exact (decide_eq_true ⟨Int32.not_lt.mp h1, Int32.not_lt.mp h5, Int32.not_lt.mp h15⟩).symm
          | exact (decide_eq_false (fun z => absurd h15 (Int32.not_lt.mpr z.2.2))).symm
          | exact (decide_eq_false (fun z => absurd h5 (Int32.not_lt.mpr z.2.1))).symm
          | exact (decide_eq_false (fun z => absurd h1 (Int32.not_lt.mpr z.1))).symm
      · rfl
    ·
      refine r_iload1 hX dX2_has_8 (q := 9) rfl ?_
      refine r_aload0 hX dX2_has_9 (q := 10) rfl ?_
      refine r_getI hX dX2_has_10 (q := 13) rfl fX2_19 (sh_lay hs).1 ⟨by decide, by decide, (sh_none_2 (by first | assumption | decide))⟩ ?_
      refine r_iload2 hX dX2_has_13 (q := 14) rfl ?_
      refine r_isub hX dX2_has_14 (q := 15) rfl ?_
      first | refine r_icmpN_gt hX dX2_has_15 (q := 18) rfl (tgt := 22) (by decide) (by first | decide | omega) (by first | decide | omega) (fun h15 => ?_) (fun h15 => ?_) | refine r_icmp_gt hX dX2_has_15 (q := 18) rfl (tgt := 22) (by decide) (fun h15 => ?_) (fun h15 => ?_)
      ·
        refine r_iconst hX dX2_has_22 (q := 23) rfl (v := nI 0) (by decide +kernel) ?_
        refine r_zret0 hX hR dX2_has_23 ?_
        -- leaf 2 at 23
        refine ⟨congrArg (fun z => some (Value.int (bi z))) ?_, ?_⟩
        ·
          clear hX hR
          rw [← nI_0] at *
          first
            | exact (decide_eq_true ⟨Int32.not_lt.mp h1, Int32.not_lt.mp h5, Int32.not_lt.mp h15⟩).symm
            | exact (decide_eq_false (fun z => absurd h15 (Int32.not_lt.mpr z.2.2))).symm
            | exact (decide_eq_false (fun z => absurd h5 (Int32.not_lt.mpr z.2.1))).symm
            | exact (decide_eq_false (fun z => absurd h1 (Int32.not_lt.mpr z.1))).symm
        · rfl
      ·
        refine r_iconst hX dX2_has_18 (q := 19) rfl (v := nI 1) (by decide +kernel) ?_
        refine r_goto hX dX2_has_19 (tgt := 23) (by decide) ?_
        refine r_zret1 hX hR dX2_has_23 ?_
        -- leaf 3 at 23
        refine ⟨congrArg (fun z => some (Value.int (bi z))) ?_, ?_⟩
        ·
          clear hX hR
          rw [← nI_0] at *
          first
            | exact (decide_eq_true ⟨Int32.not_lt.mp h1, Int32.not_lt.mp h5, Int32.not_lt.mp h15⟩).symm
            | exact (decide_eq_false (fun z => absurd h15 (Int32.not_lt.mpr z.2.2))).symm
            | exact (decide_eq_false (fun z => absurd h5 (Int32.not_lt.mpr z.2.1))).symm
            | exact (decide_eq_false (fun z => absurd h1 (Int32.not_lt.mpr z.1))).symm
        · rfl

set_option maxRecDepth 100000 in
set_option maxHeartbeats 4000000 in
theorem c_X2_lay (l : Launch) (Γ : Gam) (G : GG) (s : Nat) (hs : s < 4) (b n : Int32) : Sp l yX2_lay cX2_lay 3 none 1 23 [.ref (gad Γ (38 + 2 * s)), .int b, .int n] Γ G (eV (upc (up (up G (38 + 2 * s) 1 b) (38 + 2 * s) 2 (if b = nI 0 then nI 0 else n)) (38 + 2 * s + 1) (fun j => if j < 40 then nI 0 else G (38 + 2 * s + 1) j))) := by
  refine Sp_of (own := RX2) rfl (by decide +kernel) rfl (Nat.le_of_ble_eq_true rfl) (fun X hX hR => ?_)
  show WP X Γ 0 [some (.ref (gad Γ (38 + 2 * s))), some (.int b), some (.int n)] [] G
  refine r_aload0 hX dX2_lay_0 (q := 1) rfl ?_
  refine r_iload1 hX dX2_lay_1 (q := 2) rfl ?_
  refine r_put hX dX2_lay_2 (q := 5) rfl fX2_15 wX2_1 rfl rfl (sh_lay hs).1 ⟨by decide, by decide, (sh_none_1 (by first | assumption | decide))⟩ ?_
  refine r_aload0 hX dX2_lay_5 (q := 6) rfl ?_
  refine r_iload1 hX dX2_lay_6 (q := 7) rfl ?_
  refine r_if_ne hX dX2_lay_7 (q := 10) rfl (tgt := 14) (by decide) (fun h7 => ?_) (fun h7 => ?_)
  ·
    refine r_iload2 hX dX2_lay_14 (q := 15) rfl ?_
    refine r_put hX dX2_lay_15 (q := 18) rfl fX2_19 wX2_2 rfl rfl (sh_lay hs).1 ⟨by decide, by decide, (sh_none_2 (by first | assumption | decide))⟩ ?_
    refine r_aload0 hX dX2_lay_18 (q := 19) rfl ?_
    refine r_getR hX dX2_lay_19 (q := 22) rfl fX2_9 (sh_lay hs).1 ⟨by decide, by decide, (sh_lay (by first | assumption | decide)).2.2⟩ ?_
    refine r_iconst hX dX2_lay_22 (q := 23) rfl (v := nI 0) (by decide +kernel) ?_
    refine r_callS hX dX2_lay_23 (q := 26) rfl (c_J7_fill_53178 _ Γ _ _ _ (by first | assumption | exact (sh_lay (by first | assumption | decide)).2.1) (by decide) _) kX2_22 mlJ7_fill_53178 msJ7_fill_53178 rfl rfl ⟨by decide, by decide⟩ (Nat.le_of_ble_eq_true rfl) (keV ?_)
    refine r_vret hX hR dX2_lay_26 ?_
    -- leaf 0 at 26
    refine ⟨rfl, ?_⟩
    rw [← nI_0] at h7
    have e1 : ¬ 38 + 2 * s + 1 = 38 + 2 * s := by omega
    first
      | (rw [if_neg h7]; funext c j; simp [upc, up, e1])
      | (rw [if_pos h7]; funext c j; simp [upc, up, e1])
  ·
    refine r_iconst hX dX2_lay_10 (q := 11) rfl (v := nI 0) (by decide +kernel) ?_
    refine r_goto hX dX2_lay_11 (tgt := 15) (by decide) ?_
    refine r_put hX dX2_lay_15 (q := 18) rfl fX2_19 wX2_2 rfl rfl (sh_lay hs).1 ⟨by decide, by decide, (sh_none_2 (by first | assumption | decide))⟩ ?_
    refine r_aload0 hX dX2_lay_18 (q := 19) rfl ?_
    refine r_getR hX dX2_lay_19 (q := 22) rfl fX2_9 (sh_lay hs).1 ⟨by decide, by decide, (sh_lay (by first | assumption | decide)).2.2⟩ ?_
    refine r_iconst hX dX2_lay_22 (q := 23) rfl (v := nI 0) (by decide +kernel) ?_
    refine r_callS hX dX2_lay_23 (q := 26) rfl (c_J7_fill_53178 _ Γ _ _ _ (by first | assumption | exact (sh_lay (by first | assumption | decide)).2.1) (by decide) _) kX2_22 mlJ7_fill_53178 msJ7_fill_53178 rfl rfl ⟨by decide, by decide⟩ (Nat.le_of_ble_eq_true rfl) (keV ?_)
    refine r_vret hX hR dX2_lay_26 ?_
    -- leaf 1 at 26
    refine ⟨rfl, ?_⟩
    rw [← nI_0] at h7
    have e1 : ¬ 38 + 2 * s + 1 = 38 + 2 * s := by omega
    first
      | (rw [if_neg h7]; funext c j; simp [upc, up, e1])
      | (rw [if_pos h7]; funext c j; simp [upc, up, e1])

set_option maxRecDepth 100000 in
set_option maxHeartbeats 4000000 in
theorem c_X2_put (l : Launch) (Γ : Gam) (G : GG) (s : Nat) (hs : s < 4) (x : Int32) (j : Nat) (hx : x = nI j) (hj : j < 40) (v : Int32) : Sp l yX2_put cX2_put 3 none 0 0 [.ref (gad Γ (38 + 2 * s)), .int x, .int v] Γ G (eV (up G (38 + 2 * s + 1) j (narS (G (38 + 2 * s) 1) v))) := by
  refine Sp_of (own := RX2) rfl (by decide +kernel) rfl (Nat.le_of_ble_eq_true rfl) (fun X hX hR => ?_)
  show WP X Γ 0 [some (.ref (gad Γ (38 + 2 * s))), some (.int x), some (.int v)] [] G
  subst hx
  refine r_aload0 hX dX2_put_0 (q := 1) rfl ?_
  refine r_getI hX dX2_put_1 (q := 4) rfl fX2_15 (sh_lay hs).1 ⟨by decide, by decide, (sh_none_1 (by first | assumption | decide))⟩ ?_
  refine r_lookCase hX dX2_put_4 8 ⟨by decide, by decide +kernel, (by decide : (4 : Int) + 28 = (32 : Nat))⟩ (fun h4_8 => ?_) (fun h4_8 => ?_)
  ·
    refine r_aload0 hX dX2_put_32 (q := 33) rfl ?_
    refine r_getR hX dX2_put_33 (q := 36) rfl fX2_9 (sh_lay hs).1 ⟨by decide, by decide, (sh_lay (by first | assumption | decide)).2.2⟩ ?_
    refine r_iload1 hX dX2_put_36 (q := 37) rfl ?_
    refine r_iload2 hX dX2_put_37 (q := 38) rfl ?_
    refine r_i2b hX dX2_put_38 (q := 39) rfl ?_
    refine r_iastN hX dX2_put_39 (q := 40) rfl (sh_lay (by first | assumption | decide)).2.1 (by repeat' (first | assumption | with_reducible exact rfl | refine e_add ?_ ?_ | refine e_mul ?_ ?_)) (by first | assumption | omega) (by first | decide | omega) ?_
    refine r_goto hX dX2_put_40 (tgt := 61) (by decide) ?_
    refine r_vret hX hR dX2_put_61 ?_
    -- leaf 0 at 61
    refine ⟨rfl, ?_⟩
    rw [narS, if_pos h4_8]
  refine r_lookCase hX dX2_put_4 16 ⟨by decide, by decide +kernel, (by decide : (4 : Int) + 39 = (43 : Nat))⟩ (fun h4_16 => ?_) (fun h4_16 => ?_)
  ·
    refine r_aload0 hX dX2_put_43 (q := 44) rfl ?_
    refine r_getR hX dX2_put_44 (q := 47) rfl fX2_9 (sh_lay hs).1 ⟨by decide, by decide, (sh_lay (by first | assumption | decide)).2.2⟩ ?_
    refine r_iload1 hX dX2_put_47 (q := 48) rfl ?_
    refine r_iload2 hX dX2_put_48 (q := 49) rfl ?_
    refine r_i2s hX dX2_put_49 (q := 50) rfl ?_
    refine r_iastN hX dX2_put_50 (q := 51) rfl (sh_lay (by first | assumption | decide)).2.1 (by repeat' (first | assumption | with_reducible exact rfl | refine e_add ?_ ?_ | refine e_mul ?_ ?_)) (by first | assumption | omega) (by first | decide | omega) ?_
    refine r_goto hX dX2_put_51 (tgt := 61) (by decide) ?_
    refine r_vret hX hR dX2_put_61 ?_
    -- leaf 1 at 61
    refine ⟨rfl, ?_⟩
    rw [narS, if_neg h4_8, if_pos h4_16]
  refine r_look hX dX2_put_4 (by decide) (off := 50) (by show Op.lookupswitch.offset [(8, 28), (16, 39)] 50 _ = 50; rw [lv_osw h4_8 (show (nI 8).toInt = (8 : Int) from nI_toInt (by decide)), lv_osw h4_16 (show (nI 16).toInt = (16 : Int) from nI_toInt (by decide))]; rfl) (tgt := 54) (by decide) ?_
  refine r_aload0 hX dX2_put_54 (q := 55) rfl ?_
  refine r_getR hX dX2_put_55 (q := 58) rfl fX2_9 (sh_lay hs).1 ⟨by decide, by decide, (sh_lay (by first | assumption | decide)).2.2⟩ ?_
  refine r_iload1 hX dX2_put_58 (q := 59) rfl ?_
  refine r_iload2 hX dX2_put_59 (q := 60) rfl ?_
  refine r_iastN hX dX2_put_60 (q := 61) rfl (sh_lay (by first | assumption | decide)).2.1 (by repeat' (first | assumption | with_reducible exact rfl | refine e_add ?_ ?_ | refine e_mul ?_ ?_)) (by first | assumption | omega) (by first | decide | omega) ?_
  refine r_vret hX hR dX2_put_61 ?_
  -- leaf 2 at 61
  refine ⟨rfl, ?_⟩
  rw [narS, if_neg h4_8, if_neg h4_16]
