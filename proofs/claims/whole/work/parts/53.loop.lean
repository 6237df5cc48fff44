set_option maxRecDepth 100000 in
set_option maxHeartbeats 4000000 in
theorem law_loop {X : XT} {Γ : Gam} (hX : OKX X Γ cL_law RL 12 438) (b M : Nat) (xs : Nat → Int32) (hB : SB X b M xs) (hM : M ≤ 3072) (hE : ∀ G, LR G → WP X Γ 1385 [some (.ref b), some (.ref (gad Γ 30)), some (.ref (gad Γ 47)), none] [] G) (G : GG) (hG0 : LR G) : WP X Γ 18 [some (.ref b), some (.ref (gad Γ 30)), some (.ref (gad Γ 47)), some (.int (nI 0))] [] G := by
  have L18 : ∀ (zn18 : Nat) (i : Nat) (G1 : GG), zn18 = M - i → (i ≤ M + 6) → (LR G1) → WP X Γ 18 [some (.ref b), some (.ref (gad Γ 30)), some (.ref (gad Γ 47)), some (.int (nI i))] [] G1 := by
    intro zn18
    induction zn18 using Nat.strongRecOn with
    | _ zn18 ih18 =>
      intro i G1 zh18 hib hG
      refine r_iload3 hX dL_law_18 (q := 19) rfl ?_
      refine r_aload0 hX dL_law_19 (q := 20) rfl ?_
      refine r_blen hX hB dL_law_20 (q := 21) rfl ?_
      refine r_bipush hX dL_law_21 (q := 23) rfl (v := nI 6) (by decide +kernel) ?_
      refine r_isub hX dL_law_23 (q := 24) rfl ?_
      first | refine r_icmpN_gt hX dL_law_24 (q := 27) rfl (tgt := 1385) (by decide) (by first | decide | omega) (by first | decide | omega) (fun h24 => ?_) (fun h24 => ?_) | refine r_icmp_gt hX dL_law_24 (q := 27) rfl (tgt := 1385) (by decide) (fun h24 => ?_) (fun h24 => ?_)
      ·
        refine r_drop3 ?_
        exact hE _ hG
      ·
        have hi : i + 6 ≤ M := by
          rcases sub_cases (a := M) (b := 6) (by omega) (by decide) with ⟨q1, q2⟩ | ⟨q1, q2⟩
          · rw [q2] at h24
            rcases Nat.lt_or_ge (M - 6) i with z | z
            · exact absurd (nI_lt z (by omega)) h24
            · omega
          · exact absurd (Int32.lt_of_lt_of_le q2 (nI_le (Nat.zero_le i) (by omega))) h24
        have K : ∀ G2, LR G2 → WP X Γ 1379 [some (.ref b), some (.ref (gad Γ 30)), some (.ref (gad Γ 47)), some (.int (nI i))] [] G2 := fun G2 h2 => r_iinc3 hX dL_law_1379 (q := 1382) rfl rfl (v := nI (i + 6)) (by rw [← nI_add]; rfl) (r_goto hX dL_law_1382 (tgt := 18) (by decide) (ih18 _ (by omega) (i + 6) G2 rfl (by omega) h2))
        refine r_aload0 hX dL_law_27 (q := 28) rfl ?_
        refine r_iload3 hX dL_law_28 (q := 29) rfl ?_
        refine r_bld hX hB dL_law_29 (q := 30) rfl rfl (by omega) (by omega) ?_
        refine r_bipush hX dL_law_30 (q := 32) rfl (v := nI 63) (by decide +kernel) ?_
        refine r_iand hX dL_law_32 (q := 33) rfl ?_
        refine r_tabCase hX dL_law_33 0 ⟨by decide, by decide, by decide, rfl, (by decide : (33 : Int) + 187 = (220 : Nat))⟩ (fun h33_0 => ?_) (fun h33_0 => ?_)
        ·
          exact cs_food hX b M xs hB hM i hi G1 hG K
        refine r_tabCase hX dL_law_33 1 ⟨by decide, by decide, by decide, rfl, (by decide : (33 : Int) + 230 = (263 : Nat))⟩ (fun h33_1 => ?_) (fun h33_1 => ?_)
        ·
          exact cs_foodOf hX b M xs hB hM i hi G1 hG K
        refine r_tabCase hX dL_law_33 2 ⟨by decide, by decide, by decide, rfl, (by decide : (33 : Int) + 263 = (296 : Nat))⟩ (fun h33_2 => ?_) (fun h33_2 => ?_)
        ·
          exact cs_child hX b M xs hB hM i hi G1 hG K
        refine r_tabCase hX dL_law_33 3 ⟨by decide, by decide, by decide, rfl, (by decide : (33 : Int) + 296 = (329 : Nat))⟩ (fun h33_3 => ?_) (fun h33_3 => ?_)
        ·
          exact cs_pudding hX b M xs hB hM i hi G1 hG K
        refine r_tabCase hX dL_law_33 4 ⟨by decide, by decide, by decide, rfl, (by decide : (33 : Int) + 319 = (352 : Nat))⟩ (fun h33_4 => ?_) (fun h33_4 => ?_)
        ·
          exact cs_friend hX b M xs hB hM i hi G1 hG K
        refine r_tabCase hX dL_law_33 5 ⟨by decide, by decide, by decide, rfl, (by decide : (33 : Int) + 342 = (375 : Nat))⟩ (fun h33_5 => ?_) (fun h33_5 => ?_)
        ·
          exact cs_liked hX b M xs hB hM i hi G1 hG K
        refine r_tabCase hX dL_law_33 6 ⟨by decide, by decide, by decide, rfl, (by decide : (33 : Int) + 355 = (388 : Nat))⟩ (fun h33_6 => ?_) (fun h33_6 => ?_)
        ·
          exact cs_next hX b M xs hB hM i hi G1 hG K
        refine r_tabCase hX dL_law_33 7 ⟨by decide, by decide, by decide, rfl, (by decide : (33 : Int) + 368 = (401 : Nat))⟩ (fun h33_7 => ?_) (fun h33_7 => ?_)
        ·
          exact cs_taste hX b M xs hB hM i hi G1 hG K
        refine r_tabCase hX dL_law_33 8 ⟨by decide, by decide, by decide, rfl, (by decide : (33 : Int) + 411 = (444 : Nat))⟩ (fun h33_8 => ?_) (fun h33_8 => ?_)
        ·
          exact cs_tasteOf hX b M xs hB hM i hi G1 hG K
        refine r_tabCase hX dL_law_33 9 ⟨by decide, by decide, by decide, rfl, (by decide : (33 : Int) + 444 = (477 : Nat))⟩ (fun h33_9 => ?_) (fun h33_9 => ?_)
        ·
          exact cs_change hX b M xs hB hM i hi G1 hG K
        refine r_tabCase hX dL_law_33 10 ⟨by decide, by decide, by decide, rfl, (by decide : (33 : Int) + 487 = (520 : Nat))⟩ (fun h33_10 => ?_) (fun h33_10 => ?_)
        ·
          exact cs_swap hX b M xs hB hM i hi G1 hG K
        refine r_tabCase hX dL_law_33 11 ⟨by decide, by decide, by decide, rfl, (by decide : (33 : Int) + 520 = (553 : Nat))⟩ (fun h33_11 => ?_) (fun h33_11 => ?_)
        ·
          exact cs_drop hX b M xs hB hM i hi G1 hG K
        refine r_tabCase hX dL_law_33 12 ⟨by decide, by decide, by decide, rfl, (by decide : (33 : Int) + 533 = (566 : Nat))⟩ (fun h33_12 => ?_) (fun h33_12 => ?_)
        ·
          exact cs_meals hX b M xs hB hM i hi G1 hG K
        refine r_tabCase hX dL_law_33 13 ⟨by decide, by decide, by decide, rfl, (by decide : (33 : Int) + 556 = (589 : Nat))⟩ (fun h33_13 => ?_) (fun h33_13 => ?_)
        ·
          exact cs_now hX b M xs hB hM i hi G1 hG K
        refine r_tabCase hX dL_law_33 14 ⟨by decide, by decide, by decide, rfl, (by decide : (33 : Int) + 579 = (612 : Nat))⟩ (fun h33_14 => ?_) (fun h33_14 => ?_)
        ·
          exact cs_book hX b M xs hB hM i hi G1 hG K
        refine r_tabCase hX dL_law_33 15 ⟨by decide, by decide, by decide, rfl, (by decide : (33 : Int) + 602 = (635 : Nat))⟩ (fun h33_15 => ?_) (fun h33_15 => ?_)
        ·
          exact cs_day hX b M xs hB hM i hi G1 hG K
        refine r_tabCase hX dL_law_33 16 ⟨by decide, by decide, by decide, rfl, (by decide : (33 : Int) + 625 = (658 : Nat))⟩ (fun h33_16 => ?_) (fun h33_16 => ?_)
        ·
          exact cs_spread hX b M xs hB hM i hi G1 hG K
        refine r_tabCase hX dL_law_33 17 ⟨by decide, by decide, by decide, rfl, (by decide : (33 : Int) + 638 = (671 : Nat))⟩ (fun h33_17 => ?_) (fun h33_17 => ?_)
        ·
          exact cs_ahead hX b M xs hB hM i hi G1 hG K
        refine r_tabCase hX dL_law_33 18 ⟨by decide, by decide, by decide, rfl, (by decide : (33 : Int) + 671 = (704 : Nat))⟩ (fun h33_18 => ?_) (fun h33_18 => ?_)
        ·
          exact cs_when hX b M xs hB hM i hi G1 hG K
        refine r_tabCase hX dL_law_33 19 ⟨by decide, by decide, by decide, rfl, (by decide : (33 : Int) + 694 = (727 : Nat))⟩ (fun h33_19 => ?_) (fun h33_19 => ?_)
        ·
          exact cs_times hX b M xs hB hM i hi G1 hG K
        refine r_tabCase hX dL_law_33 20 ⟨by decide, by decide, by decide, rfl, (by decide : (33 : Int) + 717 = (750 : Nat))⟩ (fun h33_20 => ?_) (fun h33_20 => ?_)
        ·
          exact cs_kindFor hX b M xs hB hM i hi G1 hG K
        refine r_tabCase hX dL_law_33 21 ⟨by decide, by decide, by decide, rfl, (by decide : (33 : Int) + 750 = (783 : Nat))⟩ (fun h33_21 => ?_) (fun h33_21 => ?_)
        ·
          exact cs_foodFor hX b M xs hB hM i hi G1 hG K
        refine r_tabCase hX dL_law_33 22 ⟨by decide, by decide, by decide, rfl, (by decide : (33 : Int) + 783 = (816 : Nat))⟩ (fun h33_22 => ?_) (fun h33_22 => ?_)
        ·
          exact cs_putFor hX b M xs hB hM i hi G1 hG K
        refine r_tabCase hX dL_law_33 23 ⟨by decide, by decide, by decide, rfl, (by decide : (33 : Int) + 816 = (849 : Nat))⟩ (fun h33_23 => ?_) (fun h33_23 => ?_)
        ·
          exact cs_paid hX b M xs hB hM i hi G1 hG K
        refine r_tabCase hX dL_law_33 24 ⟨by decide, by decide, by decide, rfl, (by decide : (33 : Int) + 839 = (872 : Nat))⟩ (fun h33_24 => ?_) (fun h33_24 => ?_)
        ·
          exact cs_worry hX b M xs hB hM i hi G1 hG K
        refine r_tabCase hX dL_law_33 25 ⟨by decide, by decide, by decide, rfl, (by decide : (33 : Int) + 852 = (885 : Nat))⟩ (fun h33_25 => ?_) (fun h33_25 => ?_)
        ·
          exact cs_order hX b M xs hB hM i hi G1 hG K
        refine r_tabCase hX dL_law_33 26 ⟨by decide, by decide, by decide, rfl, (by decide : (33 : Int) + 875 = (908 : Nat))⟩ (fun h33_26 => ?_) (fun h33_26 => ?_)
        ·
          exact cs_chance hX b M xs hB hM i hi G1 hG K
        refine r_tabCase hX dL_law_33 27 ⟨by decide, by decide, by decide, rfl, (by decide : (33 : Int) + 918 = (951 : Nat))⟩ (fun h33_27 => ?_) (fun h33_27 => ?_)
        ·
          exact cs_seed hX b M xs hB hM i hi G1 hG K
        refine r_tabCase hX dL_law_33 28 ⟨by decide, by decide, by decide, rfl, (by decide : (33 : Int) + 941 = (974 : Nat))⟩ (fun h33_28 => ?_) (fun h33_28 => ?_)
        ·
          exact cs_feed hX b M xs hB hM i hi G1 hG K
        refine r_tabCase hX dL_law_33 29 ⟨by decide, by decide, by decide, rfl, (by decide : (33 : Int) + 974 = (1007 : Nat))⟩ (fun h33_29 => ?_) (fun h33_29 => ?_)
        ·
          exact cs_wipe hX b M xs hB hM i hi G1 hG K
        refine r_tabCase hX dL_law_33 30 ⟨by decide, by decide, by decide, rfl, (by decide : (33 : Int) + 987 = (1020 : Nat))⟩ (fun h33_30 => ?_) (fun h33_30 => ?_)
        ·
          exact cs_text hX b M xs hB hM i hi G1 hG K
        refine r_tabCase hX dL_law_33 31 ⟨by decide, by decide, by decide, rfl, (by decide : (33 : Int) + 1000 = (1033 : Nat))⟩ (fun h33_31 => ?_) (fun h33_31 => ?_)
        ·
          exact cs_hold hX b M xs hB hM i hi G1 hG K
        refine r_tabCase hX dL_law_33 32 ⟨by decide, by decide, by decide, rfl, (by decide : (33 : Int) + 1033 = (1066 : Nat))⟩ (fun h33_32 => ?_) (fun h33_32 => ?_)
        ·
          exact cs_as hX b M xs hB hM i hi G1 hG K
        refine r_tabCase hX dL_law_33 33 ⟨by decide, by decide, by decide, rfl, (by decide : (33 : Int) + 1066 = (1099 : Nat))⟩ (fun h33_33 => ?_) (fun h33_33 => ?_)
        ·
          exact cs_sheet hX b M xs hB hM i hi G1 hG K
        refine r_tabCase hX dL_law_33 34 ⟨by decide, by decide, by decide, rfl, (by decide : (33 : Int) + 1109 = (1142 : Nat))⟩ (fun h33_34 => ?_) (fun h33_34 => ?_)
        ·
          exact cs_write hX b M xs hB hM i hi G1 hG K
        refine r_tabCase hX dL_law_33 35 ⟨by decide, by decide, by decide, rfl, (by decide : (33 : Int) + 1152 = (1185 : Nat))⟩ (fun h33_35 => ?_) (fun h33_35 => ?_)
        ·
          exact cs_copy hX b M xs hB hM i hi G1 hG K
        refine r_tabCase hX dL_law_33 36 ⟨by decide, by decide, by decide, rfl, (by decide : (33 : Int) + 1215 = (1248 : Nat))⟩ (fun h33_36 => ?_) (fun h33_36 => ?_)
        ·
          exact cs_load hX b M xs hB hM i hi G1 hG K
        refine r_tabCase hX dL_law_33 37 ⟨by decide, by decide, by decide, rfl, (by decide : (33 : Int) + 1238 = (1271 : Nat))⟩ (fun h33_37 => ?_) (fun h33_37 => ?_)
        ·
          exact cs_judge hX b M xs hB hM i hi G1 hG K
        refine r_tabCase hX dL_law_33 38 ⟨by decide, by decide, by decide, rfl, (by decide : (33 : Int) + 1261 = (1294 : Nat))⟩ (fun h33_38 => ?_) (fun h33_38 => ?_)
        ·
          exact cs_image hX b M xs hB hM i hi G1 hG K
        refine r_tabCase hX dL_law_33 39 ⟨by decide, by decide, by decide, rfl, (by decide : (33 : Int) + 1274 = (1307 : Nat))⟩ (fun h33_39 => ?_) (fun h33_39 => ?_)
        ·
          exact cs_undo hX b M xs hB hM i hi G1 hG K
        refine r_tabCase hX dL_law_33 40 ⟨by decide, by decide, by decide, rfl, (by decide : (33 : Int) + 1287 = (1320 : Nat))⟩ (fun h33_40 => ?_) (fun h33_40 => ?_)
        ·
          exact cs_tear hX b M xs hB hM i hi G1 hG K
        refine r_tabCase hX dL_law_33 41 ⟨by decide, by decide, by decide, rfl, (by decide : (33 : Int) + 1300 = (1333 : Nat))⟩ (fun h33_41 => ?_) (fun h33_41 => ?_)
        ·
          exact cs_count hX b M xs hB hM i hi G1 hG K
        refine r_tabCase hX dL_law_33 42 ⟨by decide, by decide, by decide, rfl, (by decide : (33 : Int) + 1323 = (1356 : Nat))⟩ (fun h33_42 => ?_) (fun h33_42 => ?_)
        ·
          exact cs_status hX b M xs hB hM i hi G1 hG K
        refine r_tabOut hX dL_law_33 (by have z0 := nI_neT h33_0 (by decide); have z1 := nI_neT h33_1 (by decide); have z2 := nI_neT h33_2 (by decide); have z3 := nI_neT h33_3 (by decide); have z4 := nI_neT h33_4 (by decide); have z5 := nI_neT h33_5 (by decide); have z6 := nI_neT h33_6 (by decide); have z7 := nI_neT h33_7 (by decide); have z8 := nI_neT h33_8 (by decide); have z9 := nI_neT h33_9 (by decide); have z10 := nI_neT h33_10 (by decide); have z11 := nI_neT h33_11 (by decide); have z12 := nI_neT h33_12 (by decide); have z13 := nI_neT h33_13 (by decide); have z14 := nI_neT h33_14 (by decide); have z15 := nI_neT h33_15 (by decide); have z16 := nI_neT h33_16 (by decide); have z17 := nI_neT h33_17 (by decide); have z18 := nI_neT h33_18 (by decide); have z19 := nI_neT h33_19 (by decide); have z20 := nI_neT h33_20 (by decide); have z21 := nI_neT h33_21 (by decide); have z22 := nI_neT h33_22 (by decide); have z23 := nI_neT h33_23 (by decide); have z24 := nI_neT h33_24 (by decide); have z25 := nI_neT h33_25 (by decide); have z26 := nI_neT h33_26 (by decide); have z27 := nI_neT h33_27 (by decide); have z28 := nI_neT h33_28 (by decide); have z29 := nI_neT h33_29 (by decide); have z30 := nI_neT h33_30 (by decide); have z31 := nI_neT h33_31 (by decide); have z32 := nI_neT h33_32 (by decide); have z33 := nI_neT h33_33 (by decide); have z34 := nI_neT h33_34 (by decide); have z35 := nI_neT h33_35 (by decide); have z36 := nI_neT h33_36 (by decide); have z37 := nI_neT h33_37 (by decide); have z38 := nI_neT h33_38 (by decide); have z39 := nI_neT h33_39 (by decide); have z40 := nI_neT h33_40 (by decide); have z41 := nI_neT h33_41 (by decide); have z42 := nI_neT h33_42 (by decide); omega) (tgt := 1379) (by decide) ?_
        exact K _ hG
  refine L18 _ 0 _ rfl ?_ ?_
  ·
    omega
  ·
    exact hG0
