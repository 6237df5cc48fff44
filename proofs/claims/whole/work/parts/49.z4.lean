set_option maxRecDepth 100000 in
set_option maxHeartbeats 4000000 in
theorem c_X6_foodItem (l : Launch) (Γ : Gam) (G : GG) (G0 : GG) (T : MU) (n p : Nat) (μ : MU) (hQ : RS G0 G T n (nxt T n p) false μ) : Sp l yX6_foodItem cX6_foodItem 2 none 6 129 [.ref (gad Γ 47)] Γ G (pV (fun G' => RdM G0 G' T n (foodF T n p μ))) := by
  refine Sp_of (own := RX6) rfl (by decide +kernel) rfl (Nat.le_of_ble_eq_true rfl) (fun X hX hR => ?_)
  show WP X Γ 0 [some (.ref (gad Γ 47)), none] [] G
  have J34 : ∀ (x : Int32) (p3 : Nat) (b3 : Bool) (ν : MU) (G3 : GG), (RS G0 G3 T n p3 b3 ν) → (b3 = true → foodF T n p μ = .inl p3) → (b3 = false → ∃ z, z ≤ 9 ∧ x = nI z ∧ numF T n (nxt T n p) 0 9 = some z ∧ optF T n (nxt T n (nxt T n p)) μ 13 (10 + 3 * z) 99 = .inr (p3, ν)) → WP X Γ 34 [some (.ref (gad Γ 47)), some (.int x)] [] G3 := by
    intro x p3 b3 ν G3 hQ3 h3t h3f
    refine r_aload0 hX dX6_foodItem_34 (q := 35) rfl ?_
    refine r_ldcS hX dX6_foodItem_35 (q := 37) (i := 14) (tx := "bitter") rfl (by decide +kernel) ?_
    refine r_callV hX dX6_foodItem_37 (q := 40) rfl (c_X6_takes _ Γ _ G0 T n p3 b3 ν hQ3 14 (by decide)) kX6_230 mlX6_takes mvX6_takes rfl rfl rfl ⟨by decide, rfl⟩ ⟨by decide, by decide⟩ (Nat.le_of_ble_eq_true rfl) (kpB (fun v37 G37 p37 => ?_))
    first | with_reducible refine r_ifd_eq hX dX6_foodItem_40 (q := 43) rfl (tgt := 62) (by decide) (fun h40 => ?_) (fun h40 => ?_) | refine r_ifb_eq hX dX6_foodItem_40 (q := 43) rfl (tgt := 62) (by decide) (fun h40 => ?_) (fun h40 => ?_)
    ·
      refine r_vret hX hR dX6_foodItem_62 ?_
      -- leaf 0 at 62
      refine ⟨rfl, ?_⟩
      first
        | (obtain ⟨-, hw, e⟩ := p37.resolve_left (fun q => by rw [h40] at q; exact absurd q.1 (by decide))
           rw [e]
           cases b3 with
           | true => exact RdM.no hQ3 (h3t rfl)
           | false =>
             obtain ⟨z, z1, z2, z4, ho⟩ := h3f rfl
             have hw2 : wdB T n p3 14 = false := hw.resolve_left (fun w => absurd w (by decide))
             exact RdM.ok hQ3 ((food_s z4 ho).trans (opt_0 (by rw [hw2]; decide))))
        | (cases b6 with
           | true =>
             obtain ⟨e1, e2⟩ := ht6 rfl
             refine RdM.no p59 ((food_s z4 ho).trans ?_)
             rw [e1]; exact opt_n hw e2
           | false =>
             obtain ⟨u, u0, u1, u2, u3, u4⟩ := hf6 rfl
             refine RdM.ok p59 ((food_s z4 ho).trans ?_)
             rw [u2, u3]; exact opt_s hw u4)
    ·
      obtain ⟨-, hb3, hw, hQ4⟩ := p37.resolve_right (fun q => by rw [h40] at q; exact absurd q.1 (by decide))
      obtain ⟨z, z1, z2, z4, ho⟩ := h3f hb3
      refine r_aload0 hX dX6_foodItem_43 (q := 44) rfl ?_
      refine r_bipush hX dX6_foodItem_44 (q := 46) rfl (v := nI 10) (by decide +kernel) ?_
      refine r_iconst hX dX6_foodItem_46 (q := 47) rfl (v := nI 3) (by decide +kernel) ?_
      refine r_iload1 hX dX6_foodItem_47 (q := 48) rfl ?_
      refine r_imul hX dX6_foodItem_48 (q := 49) rfl ?_
      refine r_iadd hX dX6_foodItem_49 (q := 50) rfl ?_
      refine r_iconst hX dX6_foodItem_50 (q := 51) rfl (v := nI 1) (by decide +kernel) ?_
      refine r_iadd hX dX6_foodItem_51 (q := 52) rfl ?_
      refine r_aload0 hX dX6_foodItem_52 (q := 53) rfl ?_
      refine r_iconst hX dX6_foodItem_53 (q := 54) rfl (v := nI 0) (by decide +kernel) ?_
      refine r_bipush hX dX6_foodItem_54 (q := 56) rfl (v := nI 9) (by decide +kernel) ?_
      refine r_callV hX dX6_foodItem_56 (q := 59) rfl (c_X6_number _ Γ _ G0 T n (nxt T n p3) ν hQ4 0 9 _ rfl (by decide) (by decide)) kX6_227 mlX6_number mvX6_number rfl rfl rfl ⟨by decide, rfl⟩ ⟨by decide, by decide⟩ (Nat.le_of_ble_eq_true rfl) (kpI (fun v56 G56 p56 => ?_))
      obtain ⟨p6, b6, hQ6, hf6, ht6⟩ : ∃ pz bz, RS G0 G56 T n pz bz ν ∧ (bz = false → ∃ z, 0 ≤ z ∧ z ≤ 9 ∧ v56 = nI z ∧ pz = nxt T n (nxt T n p3) ∧ numF T n (nxt T n p3) 0 9 = some z) ∧ (bz = true → pz = nxt T n p3 ∧ numF T n (nxt T n p3) 0 9 = none) := by
        rcases p56 with ⟨z, e1, e2, e3⟩ | ⟨e1, e3⟩
        · exact ⟨_, _, e3, fun _ => ⟨z, (numF_some e1).2.2.1, (numF_some e1).2.2.2, e2, rfl, e1⟩, fun q => absurd q (by decide)⟩
        · exact ⟨_, _, e3, fun q => absurd q (by decide), fun _ => ⟨rfl, e1⟩⟩
      refine r_callV hX dX6_foodItem_59 (q := 62) rfl (c_X6_tells _ Γ _ G0 T n p6 b6 ν hQ6 _ (11 + 3 * z) _ (fun _ => ⟨(e_add (e_add rfl (e_mul rfl z2)) rfl).trans (congrArg nI (by omega)), by omega⟩)) kX6_233 mlX6_tells mvX6_tells rfl rfl rfl ⟨by decide, rfl⟩ ⟨by decide, by decide⟩ (Nat.le_of_ble_eq_true rfl) (kpV (fun G59 p59 => ?_))
      refine r_vret hX hR dX6_foodItem_62 ?_
      -- leaf 1 at 62
      refine ⟨rfl, ?_⟩
      first
        | (obtain ⟨-, hw, e⟩ := p37.resolve_left (fun q => by rw [h40] at q; exact absurd q.1 (by decide))
           rw [e]
           cases b3 with
           | true => exact RdM.no hQ3 (h3t rfl)
           | false =>
             obtain ⟨z, z1, z2, z4, ho⟩ := h3f rfl
             have hw2 : wdB T n p3 14 = false := hw.resolve_left (fun w => absurd w (by decide))
             exact RdM.ok hQ3 ((food_s z4 ho).trans (opt_0 (by rw [hw2]; decide))))
        | (cases b6 with
           | true =>
             obtain ⟨e1, e2⟩ := ht6 rfl
             refine RdM.no p59 ((food_s z4 ho).trans ?_)
             rw [e1]; exact opt_n hw e2
           | false =>
             obtain ⟨u, u0, u1, u2, u3, u4⟩ := hf6 rfl
             refine RdM.ok p59 ((food_s z4 ho).trans ?_)
             rw [u2, u3]; exact opt_s hw u4)
  refine r_aload0 hX dX6_foodItem_0 (q := 1) rfl ?_
  refine r_iconst hX dX6_foodItem_1 (q := 2) rfl (v := nI 0) (by decide +kernel) ?_
  refine r_bipush hX dX6_foodItem_2 (q := 4) rfl (v := nI 9) (by decide +kernel) ?_
  refine r_callV hX dX6_foodItem_4 (q := 7) rfl (c_X6_number _ Γ _ G0 T n (nxt T n p) μ hQ 0 9 _ rfl (by decide) (by decide)) kX6_227 mlX6_number mvX6_number rfl rfl rfl ⟨by decide, rfl⟩ ⟨by decide, by decide⟩ (Nat.le_of_ble_eq_true rfl) (kpI (fun v4 G4 p4 => ?_))
  obtain ⟨p2, b2, hQ2, hf2, ht2⟩ : ∃ pz bz, RS G0 G4 T n pz bz μ ∧ (bz = false → ∃ z, 0 ≤ z ∧ z ≤ 9 ∧ v4 = nI z ∧ pz = nxt T n (nxt T n p) ∧ numF T n (nxt T n p) 0 9 = some z) ∧ (bz = true → pz = nxt T n p ∧ numF T n (nxt T n p) 0 9 = none) := by
    rcases p4 with ⟨z, e1, e2, e3⟩ | ⟨e1, e3⟩
    · exact ⟨_, _, e3, fun _ => ⟨z, (numF_some e1).2.2.1, (numF_some e1).2.2.2, e2, rfl, e1⟩, fun q => absurd q (by decide)⟩
    · exact ⟨_, _, e3, fun q => absurd q (by decide), fun _ => ⟨rfl, e1⟩⟩
  refine r_istore1 hX dX6_foodItem_7 (q := 8) rfl rfl ?_
  refine r_aload0 hX dX6_foodItem_8 (q := 9) rfl ?_
  refine r_ldcS hX dX6_foodItem_9 (q := 11) (i := 13) (tx := "like") rfl (by decide +kernel) ?_
  refine r_callV hX dX6_foodItem_11 (q := 14) rfl (c_X6_takes _ Γ _ G0 T n p2 b2 μ hQ2 13 (by decide)) kX6_230 mlX6_takes mvX6_takes rfl rfl rfl ⟨by decide, rfl⟩ ⟨by decide, by decide⟩ (Nat.le_of_ble_eq_true rfl) (kpB (fun v11 G11 p11 => ?_))
  first | with_reducible refine r_ifd_eq hX dX6_foodItem_14 (q := 17) rfl (tgt := 34) (by decide) (fun h14 => ?_) (fun h14 => ?_) | refine r_ifb_eq hX dX6_foodItem_14 (q := 17) rfl (tgt := 34) (by decide) (fun h14 => ?_) (fun h14 => ?_)
  ·
    refine J34 v4 p2 b2 μ _ ?_ ?_ ?_
    ·
      obtain ⟨-, -, e⟩ := p11.resolve_left (fun q => by rw [h14] at q; exact absurd q.1 (by decide))
      rw [e]; exact hQ2
    ·
      intro q
      obtain ⟨e1, e2⟩ := ht2 q
      rw [e1]; exact food_n e2
    ·
      intro q
      obtain ⟨z, z0, z1, z2, z3, z4⟩ := hf2 q
      obtain ⟨-, hw, -⟩ := p11.resolve_left (fun q => by rw [h14] at q; exact absurd q.1 (by decide))
      have hw2 : wdB T n p2 13 = false := hw.resolve_left (fun w => by rw [q] at w; exact absurd w (by decide))
      rw [z3] at hw2 ⊢
      exact ⟨z, z1, z2, z4, opt_0 (by rw [hw2]; decide)⟩
  ·
    obtain ⟨-, hb2, hw, hQ4⟩ := p11.resolve_right (fun q => by rw [h14] at q; exact absurd q.1 (by decide))
    obtain ⟨z, z0, z1, z2, z3, z4⟩ := hf2 hb2
    refine r_aload0 hX dX6_foodItem_17 (q := 18) rfl ?_
    refine r_bipush hX dX6_foodItem_18 (q := 20) rfl (v := nI 10) (by decide +kernel) ?_
    refine r_iconst hX dX6_foodItem_20 (q := 21) rfl (v := nI 3) (by decide +kernel) ?_
    refine r_iload1 hX dX6_foodItem_21 (q := 22) rfl ?_
    refine r_imul hX dX6_foodItem_22 (q := 23) rfl ?_
    refine r_iadd hX dX6_foodItem_23 (q := 24) rfl ?_
    refine r_aload0 hX dX6_foodItem_24 (q := 25) rfl ?_
    refine r_iconst hX dX6_foodItem_25 (q := 26) rfl (v := nI 0) (by decide +kernel) ?_
    refine r_bipush hX dX6_foodItem_26 (q := 28) rfl (v := nI 99) (by decide +kernel) ?_
    refine r_callV hX dX6_foodItem_28 (q := 31) rfl (c_X6_number _ Γ _ G0 T n (nxt T n p2) μ hQ4 0 99 _ rfl (by decide) (by decide)) kX6_227 mlX6_number mvX6_number rfl rfl rfl ⟨by decide, rfl⟩ ⟨by decide, by decide⟩ (Nat.le_of_ble_eq_true rfl) (kpI (fun v28 G28 p28 => ?_))
    obtain ⟨p5, b5, hQ5, hf5, ht5⟩ : ∃ pz bz, RS G0 G28 T n pz bz μ ∧ (bz = false → ∃ z, 0 ≤ z ∧ z ≤ 99 ∧ v28 = nI z ∧ pz = nxt T n (nxt T n p2) ∧ numF T n (nxt T n p2) 0 99 = some z) ∧ (bz = true → pz = nxt T n p2 ∧ numF T n (nxt T n p2) 0 99 = none) := by
      rcases p28 with ⟨z, e1, e2, e3⟩ | ⟨e1, e3⟩
      · exact ⟨_, _, e3, fun _ => ⟨z, (numF_some e1).2.2.1, (numF_some e1).2.2.2, e2, rfl, e1⟩, fun q => absurd q (by decide)⟩
      · exact ⟨_, _, e3, fun q => absurd q (by decide), fun _ => ⟨rfl, e1⟩⟩
    refine r_callV hX dX6_foodItem_31 (q := 34) rfl (c_X6_tells _ Γ _ G0 T n p5 b5 μ hQ5 _ (10 + 3 * z) _ (fun _ => ⟨e_add rfl (e_mul rfl z2), by omega⟩)) kX6_233 mlX6_tells mvX6_tells rfl rfl rfl ⟨by decide, rfl⟩ ⟨by decide, by decide⟩ (Nat.le_of_ble_eq_true rfl) (kpV (fun G31 p31 => ?_))
    refine J34 v4 p5 b5 (if b5 = true then μ else upd μ (10 + 3 * z) v28) _ ?_ ?_ ?_
    ·
      exact p31
    ·
      intro q
      obtain ⟨e1, e2⟩ := ht5 q
      rw [e1]; exact food_o z4 (by rw [← z3]; exact opt_n hw e2)
    ·
      intro q
      obtain ⟨u, u0, u1, u2, u3, u4⟩ := hf5 q
      refine ⟨z, z1, z2, z4, ?_⟩
      rw [if_neg (by rw [q]; decide), u2, u3, ← z3]
      exact opt_s hw u4

set_option maxRecDepth 100000 in
set_option maxHeartbeats 4000000 in
theorem c_X6_friendItem (l : Launch) (Γ : Gam) (G : GG) (G0 : GG) (T : MU) (n p : Nat) (μ : MU) (hQ : RS G0 G T n (nxt T n p) false μ) : Sp l yX6_friendItem cX6_friendItem 5 none 4 91 [.ref (gad Γ 47)] Γ G (pV (fun G' => RdM G0 G' T n (friF T n p μ))) := by
  refine Sp_of (own := RX6) rfl (by decide +kernel) rfl (Nat.le_of_ble_eq_true rfl) (fun X hX hR => ?_)
  show WP X Γ 0 [some (.ref (gad Γ 47)), none, none, none, none] [] G
  refine r_iconst hX dX6_friendItem_0 (q := 1) rfl (v := nI 0) (by decide +kernel) ?_
  refine r_istore1 hX dX6_friendItem_1 (q := 2) rfl rfl ?_
  refine r_iconst hX dX6_friendItem_2 (q := 3) rfl (v := nI 0) (by decide +kernel) ?_
  refine r_istore2 hX dX6_friendItem_3 (q := 4) rfl rfl ?_
  refine r_iconst hX dX6_friendItem_4 (q := 5) rfl (v := nI 1) (by decide +kernel) ?_
  refine r_istore3 hX dX6_friendItem_5 (q := 6) rfl rfl ?_
  have L6 : ∀ (zn6 : Nat) (u : Nat) (s x mo : Int32) (G1 : GG), zn6 = 11 - u → ((mo = nI 1 ∧ ∃ k lo, lo ≤ 10 ∧ x = nI lo ∧ u ≤ lo ∧ RS G0 G1 T n k false μ ∧ frF T n 11 (nxt T n p) 0 (nI 0) = frF T n (11 - u) k lo s) ∨ (mo = nI 0 ∧ ∃ q b, RS G0 G1 T n q b μ ∧ (b = true → frF T n 11 (nxt T n p) 0 (nI 0) = .inl q) ∧ (b = false → frF T n 11 (nxt T n p) 0 (nI 0) = .inr (q, s)))) → WP X Γ 6 [some (.ref (gad Γ 47)), some (.int s), some (.int x), some (.int mo), none] [] G1 := by
    intro zn6
    induction zn6 using Nat.strongRecOn with
    | _ zn6 ih6 =>
      intro u s x mo G1 zh6 hI
      refine r_iload3 hX dX6_friendItem_6 (q := 7) rfl ?_
      refine r_if_eq hX dX6_friendItem_7 (q := 10) rfl (tgt := 66) (by decide) (fun h7 => ?_) (fun h7 => ?_)
      ·
        obtain ⟨-, q, bq, hQ9, hbt, hbf⟩ := hI.resolve_left (fun z => by rw [z.1] at h7; exact absurd h7 (by decide +kernel))
        refine r_aload0 hX dX6_friendItem_66 (q := 67) rfl ?_
        refine r_bipush hX dX6_friendItem_67 (q := 69) rfl (v := nI 7) (by decide +kernel) ?_
        refine r_iload1 hX dX6_friendItem_69 (q := 70) rfl ?_
        refine r_callV hX dX6_friendItem_70 (q := 73) rfl (c_X6_tells _ Γ _ G0 T n q bq μ hQ9 _ 7 _ (fun _ => ⟨rfl, by decide⟩)) kX6_233 mlX6_tells mvX6_tells rfl rfl rfl ⟨by decide, rfl⟩ ⟨by decide, by decide⟩ (Nat.le_of_ble_eq_true rfl) (kpV (fun G70 p70 => ?_))
        refine r_vret hX hR dX6_friendItem_73 ?_
        -- leaf 0 at 73
        refine ⟨rfl, ?_⟩
        cases bq with
        | true => exact RdM.no p70 (fri_n (hbt rfl))
        | false => exact RdM.ok p70 (fri_s (hbf rfl))
      ·
        obtain ⟨hmo, k, lo, hlo, hxl, hul, hQ1, hE⟩ := hI.resolve_right (fun q => h7 (q.1.trans nI_0))
        clear hI
        refine r_aload0 hX dX6_friendItem_10 (q := 11) rfl ?_
        refine r_iload2 hX dX6_friendItem_11 (q := 12) rfl ?_
        refine r_bipush hX dX6_friendItem_12 (q := 14) rfl (v := nI 9) (by decide +kernel) ?_
        refine r_callV hX dX6_friendItem_14 (q := 17) rfl (c_X6_number _ Γ _ G0 T n k μ hQ1 lo 9 _ hxl hlo (by decide)) kX6_227 mlX6_number mvX6_number rfl rfl rfl ⟨by decide, rfl⟩ ⟨by decide, by decide⟩ (Nat.le_of_ble_eq_true rfl) (kpI (fun v14 G14 p14 => ?_))
        obtain ⟨p2, b2, hQ2, hf2, ht2⟩ : ∃ pz bz, RS G0 G14 T n pz bz μ ∧ (bz = false → ∃ z, lo ≤ z ∧ z ≤ 9 ∧ v14 = nI z ∧ pz = nxt T n (k) ∧ numF T n (k) lo 9 = some z) ∧ (bz = true → pz = k ∧ numF T n (k) lo 9 = none) := by
          rcases p14 with ⟨z, e1, e2, e3⟩ | ⟨e1, e3⟩
          · exact ⟨_, _, e3, fun _ => ⟨z, (numF_some e1).2.2.1, (numF_some e1).2.2.2, e2, rfl, e1⟩, fun q => absurd q (by decide)⟩
          · exact ⟨_, _, e3, fun q => absurd q (by decide), fun _ => ⟨rfl, e1⟩⟩
        have hs3 := srt_le (T := T) (n := n) (p := p2)
        refine r_istore4 hX dX6_friendItem_17 (q := 19) rfl rfl ?_
        refine r_iload1 hX dX6_friendItem_19 (q := 20) rfl ?_
        refine r_aload0 hX dX6_friendItem_20 (q := 21) rfl ?_
        refine r_getI hX dX6_friendItem_21 (q := 24) rfl fX6_193 rfl ⟨by decide, by decide, rfl⟩ ?_
        rw [hQ2.2.2.1]
        refine r_if_eq hX dX6_friendItem_24 (q := 27) rfl (tgt := 31) (by decide) (fun h24 => ?_) (fun h24 => ?_)
        ·
          refine r_iconst hX dX6_friendItem_31 (q := 32) rfl (v := nI 1) (by decide +kernel) ?_
          refine r_iload4 hX dX6_friendItem_32 (q := 34) rfl ?_
          refine r_ishl hX dX6_friendItem_34 (q := 35) rfl ?_
          refine r_ior hX dX6_friendItem_35 (q := 36) rfl ?_
          refine r_istore1 hX dX6_friendItem_36 (q := 37) rfl rfl ?_
          refine r_iload4 hX dX6_friendItem_37 (q := 39) rfl ?_
          refine r_iconst hX dX6_friendItem_39 (q := 40) rfl (v := nI 1) (by decide +kernel) ?_
          refine r_iadd hX dX6_friendItem_40 (q := 41) rfl ?_
          refine r_istore2 hX dX6_friendItem_41 (q := 42) rfl rfl ?_
          refine r_aload0 hX dX6_friendItem_42 (q := 43) rfl ?_
          refine r_getI hX dX6_friendItem_43 (q := 46) rfl fX6_193 rfl ⟨by decide, by decide, rfl⟩ ?_
          rw [hQ2.2.2.1]
          refine r_if_ne hX dX6_friendItem_46 (q := 49) rfl (tgt := 61) (by decide) (fun h46 => ?_) (fun h46 => ?_)
          ·
            refine r_iconst hX dX6_friendItem_61 (q := 62) rfl (v := nI 0) (by decide +kernel) ?_
            refine r_istore3 hX dX6_friendItem_62 (q := 63) rfl rfl ?_
            refine r_goto hX dX6_friendItem_63 (tgt := 6) (by decide) ?_
            refine r_drop4 ?_
            refine ih6 _ ?_ (u + 1) _ _ _ _ rfl ?_
            ·
              omega
            ·
              obtain ⟨w, g1, g2⟩ : ∃ w, 11 - u = w + 1 ∧ 11 - (u + 1) = w := ⟨10 - u, by omega, by omega⟩
              rw [g1] at hE
              first
                | exact absurd h24 h46
                | exact absurd h46 h24
                | (obtain ⟨a1, a2⟩ := ht2 (bi_n h24)
                   exact Or.inr ⟨rfl, p2, b2, hQ2, fun _ => by rw [a1]; exact hE.trans (fr_n a2), fun q => absurd ((bi_n h24).symm.trans q) (by decide)⟩)
                | (obtain ⟨f, f0, f1, f2, f3, f4⟩ := hf2 (bi_0 h24)
                   have hb2 := bi_0 h24
                   subst hb2
                   first
                     | exact Or.inr ⟨rfl, p2, false, hQ2, fun q => absurd q (by decide), fun _ => by rw [f2, f3]; exact hE.trans (fr_s f4 (by rw [← f3]; exact h54))⟩
                     | exact Or.inl ⟨rfl, p2, f + 1, by omega, by rw [f2, nI_add], by omega, hQ2, by rw [g2, f2, f3]; exact hE.trans (fr_m f4 (by rw [← f3]; exact h54))⟩)
          ·
            refine r_aload0 hX dX6_friendItem_49 (q := 50) rfl ?_
            refine r_getI hX dX6_friendItem_50 (q := 53) rfl fX6_190 rfl ⟨by decide, by decide, rfl⟩ ?_
            rw [hQ2.2.1.2.1]
            refine r_iconst hX dX6_friendItem_53 (q := 54) rfl (v := nI 2) (by decide +kernel) ?_
            first | refine r_icmpN_ne hX dX6_friendItem_54 (q := 57) rfl (tgt := 61) (by decide) (by first | omega | decide) (by first | omega | decide) (fun h54 => ?_) (fun h54 => ?_) | refine r_icmp_ne hX dX6_friendItem_54 (q := 57) rfl (tgt := 61) (by decide) (fun h54 => ?_) (fun h54 => ?_)
            ·
              refine r_iconst hX dX6_friendItem_61 (q := 62) rfl (v := nI 0) (by decide +kernel) ?_
              refine r_istore3 hX dX6_friendItem_62 (q := 63) rfl rfl ?_
              refine r_goto hX dX6_friendItem_63 (tgt := 6) (by decide) ?_
              refine r_drop4 ?_
              refine ih6 _ ?_ (u + 1) _ _ _ _ rfl ?_
              ·
                omega
              ·
                obtain ⟨w, g1, g2⟩ : ∃ w, 11 - u = w + 1 ∧ 11 - (u + 1) = w := ⟨10 - u, by omega, by omega⟩
                rw [g1] at hE
                first
                  | exact absurd h24 h46
                  | exact absurd h46 h24
                  | (obtain ⟨a1, a2⟩ := ht2 (bi_n h24)
                     exact Or.inr ⟨rfl, p2, b2, hQ2, fun _ => by rw [a1]; exact hE.trans (fr_n a2), fun q => absurd ((bi_n h24).symm.trans q) (by decide)⟩)
                  | (obtain ⟨f, f0, f1, f2, f3, f4⟩ := hf2 (bi_0 h24)
                     have hb2 := bi_0 h24
                     subst hb2
                     first
                       | exact Or.inr ⟨rfl, p2, false, hQ2, fun q => absurd q (by decide), fun _ => by rw [f2, f3]; exact hE.trans (fr_s f4 (by rw [← f3]; exact h54))⟩
                       | exact Or.inl ⟨rfl, p2, f + 1, by omega, by rw [f2, nI_add], by omega, hQ2, by rw [g2, f2, f3]; exact hE.trans (fr_m f4 (by rw [← f3]; exact h54))⟩)
            ·
              refine r_iconst hX dX6_friendItem_57 (q := 58) rfl (v := nI 1) (by decide +kernel) ?_
              refine r_goto hX dX6_friendItem_58 (tgt := 62) (by decide) ?_
              refine r_istore3 hX dX6_friendItem_62 (q := 63) rfl rfl ?_
              refine r_goto hX dX6_friendItem_63 (tgt := 6) (by decide) ?_
              refine r_drop4 ?_
              refine ih6 _ ?_ (u + 1) _ _ _ _ rfl ?_
              ·
                omega
              ·
                obtain ⟨w, g1, g2⟩ : ∃ w, 11 - u = w + 1 ∧ 11 - (u + 1) = w := ⟨10 - u, by omega, by omega⟩
                rw [g1] at hE
                first
                  | exact absurd h24 h46
                  | exact absurd h46 h24
                  | (obtain ⟨a1, a2⟩ := ht2 (bi_n h24)
                     exact Or.inr ⟨rfl, p2, b2, hQ2, fun _ => by rw [a1]; exact hE.trans (fr_n a2), fun q => absurd ((bi_n h24).symm.trans q) (by decide)⟩)
                  | (obtain ⟨f, f0, f1, f2, f3, f4⟩ := hf2 (bi_0 h24)
                     have hb2 := bi_0 h24
                     subst hb2
                     first
                       | exact Or.inr ⟨rfl, p2, false, hQ2, fun q => absurd q (by decide), fun _ => by rw [f2, f3]; exact hE.trans (fr_s f4 (by rw [← f3]; exact h54))⟩
                       | exact Or.inl ⟨rfl, p2, f + 1, by omega, by rw [f2, nI_add], by omega, hQ2, by rw [g2, f2, f3]; exact hE.trans (fr_m f4 (by rw [← f3]; exact h54))⟩)
        ·
          refine r_iconst hX dX6_friendItem_27 (q := 28) rfl (v := nI 0) (by decide +kernel) ?_
          refine r_goto hX dX6_friendItem_28 (tgt := 35) (by decide) ?_
          refine r_ior hX dX6_friendItem_35 (q := 36) rfl ?_
          refine r_istore1 hX dX6_friendItem_36 (q := 37) rfl rfl ?_
          refine r_iload4 hX dX6_friendItem_37 (q := 39) rfl ?_
          refine r_iconst hX dX6_friendItem_39 (q := 40) rfl (v := nI 1) (by decide +kernel) ?_
          refine r_iadd hX dX6_friendItem_40 (q := 41) rfl ?_
          refine r_istore2 hX dX6_friendItem_41 (q := 42) rfl rfl ?_
          refine r_aload0 hX dX6_friendItem_42 (q := 43) rfl ?_
          refine r_getI hX dX6_friendItem_43 (q := 46) rfl fX6_193 rfl ⟨by decide, by decide, rfl⟩ ?_
          rw [hQ2.2.2.1]
          refine r_if_ne hX dX6_friendItem_46 (q := 49) rfl (tgt := 61) (by decide) (fun h46 => ?_) (fun h46 => ?_)
          ·
            refine r_iconst hX dX6_friendItem_61 (q := 62) rfl (v := nI 0) (by decide +kernel) ?_
            refine r_istore3 hX dX6_friendItem_62 (q := 63) rfl rfl ?_
            refine r_goto hX dX6_friendItem_63 (tgt := 6) (by decide) ?_
            refine r_drop4 ?_
            refine ih6 _ ?_ (u + 1) _ _ _ _ rfl ?_
            ·
              omega
            ·
              obtain ⟨w, g1, g2⟩ : ∃ w, 11 - u = w + 1 ∧ 11 - (u + 1) = w := ⟨10 - u, by omega, by omega⟩
              rw [g1] at hE
              first
                | exact absurd h24 h46
                | exact absurd h46 h24
                | (obtain ⟨a1, a2⟩ := ht2 (bi_n h24)
                   exact Or.inr ⟨rfl, p2, b2, hQ2, fun _ => by rw [a1]; exact hE.trans (fr_n a2), fun q => absurd ((bi_n h24).symm.trans q) (by decide)⟩)
                | (obtain ⟨f, f0, f1, f2, f3, f4⟩ := hf2 (bi_0 h24)
                   have hb2 := bi_0 h24
                   subst hb2
                   first
                     | exact Or.inr ⟨rfl, p2, false, hQ2, fun q => absurd q (by decide), fun _ => by rw [f2, f3]; exact hE.trans (fr_s f4 (by rw [← f3]; exact h54))⟩
                     | exact Or.inl ⟨rfl, p2, f + 1, by omega, by rw [f2, nI_add], by omega, hQ2, by rw [g2, f2, f3]; exact hE.trans (fr_m f4 (by rw [← f3]; exact h54))⟩)
          ·
            refine r_aload0 hX dX6_friendItem_49 (q := 50) rfl ?_
            refine r_getI hX dX6_friendItem_50 (q := 53) rfl fX6_190 rfl ⟨by decide, by decide, rfl⟩ ?_
            rw [hQ2.2.1.2.1]
            refine r_iconst hX dX6_friendItem_53 (q := 54) rfl (v := nI 2) (by decide +kernel) ?_
            first | refine r_icmpN_ne hX dX6_friendItem_54 (q := 57) rfl (tgt := 61) (by decide) (by first | omega | decide) (by first | omega | decide) (fun h54 => ?_) (fun h54 => ?_) | refine r_icmp_ne hX dX6_friendItem_54 (q := 57) rfl (tgt := 61) (by decide) (fun h54 => ?_) (fun h54 => ?_)
            ·
              refine r_iconst hX dX6_friendItem_61 (q := 62) rfl (v := nI 0) (by decide +kernel) ?_
              refine r_istore3 hX dX6_friendItem_62 (q := 63) rfl rfl ?_
              refine r_goto hX dX6_friendItem_63 (tgt := 6) (by decide) ?_
              refine r_drop4 ?_
              refine ih6 _ ?_ (u + 1) _ _ _ _ rfl ?_
              ·
                omega
              ·
                obtain ⟨w, g1, g2⟩ : ∃ w, 11 - u = w + 1 ∧ 11 - (u + 1) = w := ⟨10 - u, by omega, by omega⟩
                rw [g1] at hE
                first
                  | exact absurd h24 h46
                  | exact absurd h46 h24
                  | (obtain ⟨a1, a2⟩ := ht2 (bi_n h24)
                     exact Or.inr ⟨rfl, p2, b2, hQ2, fun _ => by rw [a1]; exact hE.trans (fr_n a2), fun q => absurd ((bi_n h24).symm.trans q) (by decide)⟩)
                  | (obtain ⟨f, f0, f1, f2, f3, f4⟩ := hf2 (bi_0 h24)
                     have hb2 := bi_0 h24
                     subst hb2
                     first
                       | exact Or.inr ⟨rfl, p2, false, hQ2, fun q => absurd q (by decide), fun _ => by rw [f2, f3]; exact hE.trans (fr_s f4 (by rw [← f3]; exact h54))⟩
                       | exact Or.inl ⟨rfl, p2, f + 1, by omega, by rw [f2, nI_add], by omega, hQ2, by rw [g2, f2, f3]; exact hE.trans (fr_m f4 (by rw [← f3]; exact h54))⟩)
            ·
              refine r_iconst hX dX6_friendItem_57 (q := 58) rfl (v := nI 1) (by decide +kernel) ?_
              refine r_goto hX dX6_friendItem_58 (tgt := 62) (by decide) ?_
              refine r_istore3 hX dX6_friendItem_62 (q := 63) rfl rfl ?_
              refine r_goto hX dX6_friendItem_63 (tgt := 6) (by decide) ?_
              refine r_drop4 ?_
              refine ih6 _ ?_ (u + 1) _ _ _ _ rfl ?_
              ·
                omega
              ·
                obtain ⟨w, g1, g2⟩ : ∃ w, 11 - u = w + 1 ∧ 11 - (u + 1) = w := ⟨10 - u, by omega, by omega⟩
                rw [g1] at hE
                first
                  | exact absurd h24 h46
                  | exact absurd h46 h24
                  | (obtain ⟨a1, a2⟩ := ht2 (bi_n h24)
                     exact Or.inr ⟨rfl, p2, b2, hQ2, fun _ => by rw [a1]; exact hE.trans (fr_n a2), fun q => absurd ((bi_n h24).symm.trans q) (by decide)⟩)
                  | (obtain ⟨f, f0, f1, f2, f3, f4⟩ := hf2 (bi_0 h24)
                     have hb2 := bi_0 h24
                     subst hb2
                     first
                       | exact Or.inr ⟨rfl, p2, false, hQ2, fun q => absurd q (by decide), fun _ => by rw [f2, f3]; exact hE.trans (fr_s f4 (by rw [← f3]; exact h54))⟩
                       | exact Or.inl ⟨rfl, p2, f + 1, by omega, by rw [f2, nI_add], by omega, hQ2, by rw [g2, f2, f3]; exact hE.trans (fr_m f4 (by rw [← f3]; exact h54))⟩)
  refine L6 _ 0 _ _ _ _ rfl ?_
  ·
    exact Or.inl ⟨rfl, nxt T n p, 0, by omega, rfl, Nat.zero_le _, hQ, rfl⟩

set_option maxRecDepth 100000 in
set_option maxHeartbeats 4000000 in
theorem c_X6_tasteItem (l : Launch) (Γ : Gam) (G : GG) (G0 : GG) (T : MU) (n p : Nat) (μ : MU) (hQ : RS G0 G T n p false μ) (b : Nat) (hV : Inv b μ) (x : Int32) (o : Rd) (hx : (x < 0 ∧ o = .inl p) ∨ (∃ kd, kd < 7 ∧ x = nI kd ∧ ¬ srt T n p = 0 ∧ o = tasteF T n p μ kd)) : Sp l yX6_tasteItem cX6_tasteItem 4 none 6 129 [.ref (gad Γ 47), .int x] Γ G (pV (fun G' => RdM G0 G' T n o)) := by
  refine Sp_of (own := RX6) rfl (by decide +kernel) rfl (Nat.le_of_ble_eq_true rfl) (fun X hX hR => ?_)
  show WP X Γ 0 [some (.ref (gad Γ 47)), some (.int x), none, none] [] G
  obtain ⟨m, hm, em⟩ := hV.2.2.1
  have J72 : ∀ (x2 y : Int32) (p3 : Nat) (b3 : Bool) (G3 : GG), (RS G0 G3 T n p3 b3 μ) → (b3 = true → o = .inl p3) → (b3 = false → m < 10 ∧ ∃ kd z u, x = nI kd ∧ x2 = nI z ∧ y = nI u ∧ o = .inr (p3, addM μ m (nI kd) (nI z) (nI u))) → WP X Γ 72 [some (.ref (gad Γ 47)), some (.int x), some (.int x2), none] [.int y] G3 := by
    intro x2 y p3 b3 G3 hQ3 h3t h3f
    refine r_istore3 hX dX6_tasteItem_72 (q := 73) rfl rfl ?_
    refine r_aload0 hX dX6_tasteItem_73 (q := 74) rfl ?_
    refine r_getI hX dX6_tasteItem_74 (q := 77) rfl fX6_193 rfl ⟨by decide, by decide, rfl⟩ ?_
    rw [hQ3.2.2.1]
    refine r_if_ne hX dX6_tasteItem_77 (q := 80) rfl (tgt := 87) (by decide) (fun h77 => ?_) (fun h77 => ?_)
    ·
      refine r_vret hX hR dX6_tasteItem_87 ?_
      -- leaf 0 at 87
      refine ⟨rfl, ?_⟩
      first
        | (have hbt := bi_n h77
           subst hbt
           exact RdM.no hQ3 (h3t rfl))
        | (have hbt := bi_0 h77
           subst hbt
           rw [k2, z2, u2] at p84
           exact RdM.ok (hQ3.cm p84.1 p84.2) ko)
    ·
      obtain ⟨hm1, kd, z, u, k2, z2, u2, ko⟩ := h3f (bi_0 h77)
      refine r_aload0 hX dX6_tasteItem_80 (q := 81) rfl ?_
      refine r_iload1 hX dX6_tasteItem_81 (q := 82) rfl ?_
      refine r_iload2 hX dX6_tasteItem_82 (q := 83) rfl ?_
      refine r_iload3 hX dX6_tasteItem_83 (q := 84) rfl ?_
      refine r_callV hX dX6_tasteItem_84 (q := 87) rfl (c_X6_comes _ Γ _ μ hQ3.2.2.2.1 _ _ _ m em (by omega)) kX6_86 mlX6_comes mvX6_comes rfl rfl rfl ⟨by decide, rfl⟩ ⟨by decide, by decide⟩ (Nat.le_of_ble_eq_true rfl) (kpV (fun G84 p84 => ?_))
      refine r_vret hX hR dX6_tasteItem_87 ?_
      -- leaf 1 at 87
      refine ⟨rfl, ?_⟩
      first
        | (have hbt := bi_n h77
           subst hbt
           exact RdM.no hQ3 (h3t rfl))
        | (have hbt := bi_0 h77
           subst hbt
           rw [k2, z2, u2] at p84
           exact RdM.ok (hQ3.cm p84.1 p84.2) ko)
  have J29 : ∀ (bb : Bool), ((bb = true ∧ o = .inl p) ∨ (bb = false ∧ m < 10 ∧ ∃ kd, kd < 7 ∧ x = nI kd ∧ ¬ srt T n p = 0 ∧ o = tasteF T n p μ kd)) → WP X Γ 29 [some (.ref (gad Γ 47)), some (.int x), none, none] [.int (bi bb), .ref (gad Γ 47)] G := by
    intro bb hbb
    refine r_put hX dX6_tasteItem_29 (q := 32) rfl fX6_193 wX6_11 (bi_nar _) (bi_fit _) rfl ⟨by decide, by decide, rfl⟩ ?_
    have hQ2 := hQ.bd bb
    generalize up G 47 11 (bi bb) = G2 at hQ2 ⊢
    refine r_aload0 hX dX6_tasteItem_32 (q := 33) rfl ?_
    refine r_getI hX dX6_tasteItem_33 (q := 36) rfl fX6_193 rfl ⟨by decide, by decide, rfl⟩ ?_
    rw [hQ2.2.2.1]
    refine r_if_eq hX dX6_tasteItem_36 (q := 39) rfl (tgt := 40) (by decide) (fun h36 => ?_) (fun h36 => ?_)
    ·
      have hbf := bi_0 h36
      subst hbf
      obtain ⟨hm1, kd, k1, k2, k3, k4⟩ := (hbb.resolve_left (fun q => absurd q.1 (by decide))).2
      have k5 : ¬ μ 8 = nI 10 := by rw [em]; exact nI_ne (by omega) (by omega) (by omega)
      refine r_aload0 hX dX6_tasteItem_40 (q := 41) rfl ?_
      refine r_callV hX dX6_tasteItem_41 (q := 44) rfl (c_X6_token _ Γ _ T n hQ2.1 (nxt T n p) hQ2.2.1.2.2.2.1 (nxt_b hQ2.2.1.1).2) kX6_210 mlX6_token mvX6_token rfl rfl rfl ⟨by decide, rfl⟩ ⟨by decide, by decide⟩ (Nat.le_of_ble_eq_true rfl) (kpV (fun G41 p41 => ?_))
      have hQt := hQ2.tok p41
      refine r_aload0 hX dX6_tasteItem_44 (q := 45) rfl ?_
      refine r_iconst hX dX6_tasteItem_45 (q := 46) rfl (v := nI 0) (by decide +kernel) ?_
      refine r_bipush hX dX6_tasteItem_46 (q := 48) rfl (v := nI 9) (by decide +kernel) ?_
      refine r_callV hX dX6_tasteItem_48 (q := 51) rfl (c_X6_number _ Γ _ G0 T n (nxt T n p) μ hQt 0 9 _ rfl (by decide) (by decide)) kX6_227 mlX6_number mvX6_number rfl rfl rfl ⟨by decide, rfl⟩ ⟨by decide, by decide⟩ (Nat.le_of_ble_eq_true rfl) (kpI (fun v48 G48 p48 => ?_))
      obtain ⟨p4, b4, hQ4, hf4, ht4⟩ : ∃ pz bz, RS G0 G48 T n pz bz μ ∧ (bz = false → ∃ z, 0 ≤ z ∧ z ≤ 9 ∧ v48 = nI z ∧ pz = nxt T n (nxt T n p) ∧ numF T n (nxt T n p) 0 9 = some z) ∧ (bz = true → pz = nxt T n p ∧ numF T n (nxt T n p) 0 9 = none) := by
        rcases p48 with ⟨z, e1, e2, e3⟩ | ⟨e1, e3⟩
        · exact ⟨_, _, e3, fun _ => ⟨z, (numF_some e1).2.2.1, (numF_some e1).2.2.2, e2, rfl, e1⟩, fun q => absurd q (by decide)⟩
        · exact ⟨_, _, e3, fun q => absurd q (by decide), fun _ => ⟨rfl, e1⟩⟩
      refine r_istore2 hX dX6_tasteItem_51 (q := 52) rfl rfl ?_
      refine r_aload0 hX dX6_tasteItem_52 (q := 53) rfl ?_
      refine r_ldcS hX dX6_tasteItem_53 (q := 55) (i := 12) (tx := "put") rfl (by decide +kernel) ?_
      refine r_callV hX dX6_tasteItem_55 (q := 58) rfl (c_X6_takes _ Γ _ G0 T n p4 b4 μ hQ4 12 (by decide)) kX6_230 mlX6_takes mvX6_takes rfl rfl rfl ⟨by decide, rfl⟩ ⟨by decide, by decide⟩ (Nat.le_of_ble_eq_true rfl) (kpB (fun v55 G55 p55 => ?_))
      first | with_reducible refine r_ifd_eq hX dX6_tasteItem_58 (q := 61) rfl (tgt := 71) (by decide) (fun h58 => ?_) (fun h58 => ?_) | refine r_ifb_eq hX dX6_tasteItem_58 (q := 61) rfl (tgt := 71) (by decide) (fun h58 => ?_) (fun h58 => ?_)
      ·
        refine r_iconst hX dX6_tasteItem_71 (q := 72) rfl (v := nI 5) (by decide +kernel) ?_
        refine J72 v48 _ p4 b4 _ ?_ ?_ ?_
        ·
          obtain ⟨-, -, e⟩ := p55.resolve_left (fun q => by rw [h58] at q; exact absurd q.1 (by decide))
          rw [e]; exact hQ4
        ·
          intro q
          obtain ⟨e1, e2⟩ := ht4 q
          rw [e1, k4]; exact taste_n k5 e2
        ·
          intro q
          obtain ⟨z, z0, z1, z2, z3, z4⟩ := hf4 q
          obtain ⟨-, hw, -⟩ := p55.resolve_left (fun q => by rw [h58] at q; exact absurd q.1 (by decide))
          have hw2 : wdB T n p4 12 = false := hw.resolve_left (fun w => by rw [q] at w; exact absurd w (by decide))
          refine ⟨hm1, kd, z, 5, k2, z2, rfl, ?_⟩
          rw [k4, z3] at *
          exact taste_s k5 em hm1 z4 (put_0 (by rw [hw2]; decide))
      ·
        obtain ⟨-, hb4, hw, hQ5⟩ := p55.resolve_right (fun q => by rw [h58] at q; exact absurd q.1 (by decide))
        obtain ⟨z, z0, z1, z2, z3, z4⟩ := hf4 hb4
        refine r_aload0 hX dX6_tasteItem_61 (q := 62) rfl ?_
        refine r_iconst hX dX6_tasteItem_62 (q := 63) rfl (v := nI 1) (by decide +kernel) ?_
        refine r_bipush hX dX6_tasteItem_63 (q := 65) rfl (v := nI 20) (by decide +kernel) ?_
        refine r_callV hX dX6_tasteItem_65 (q := 68) rfl (c_X6_number _ Γ _ G0 T n (nxt T n p4) μ hQ5 1 20 _ rfl (by decide) (by decide)) kX6_227 mlX6_number mvX6_number rfl rfl rfl ⟨by decide, rfl⟩ ⟨by decide, by decide⟩ (Nat.le_of_ble_eq_true rfl) (kpI (fun v65 G65 p65 => ?_))
        obtain ⟨p6, b6, hQ6, hf6, ht6⟩ : ∃ pz bz, RS G0 G65 T n pz bz μ ∧ (bz = false → ∃ z, 1 ≤ z ∧ z ≤ 20 ∧ v65 = nI z ∧ pz = nxt T n (nxt T n p4) ∧ numF T n (nxt T n p4) 1 20 = some z) ∧ (bz = true → pz = nxt T n p4 ∧ numF T n (nxt T n p4) 1 20 = none) := by
          rcases p65 with ⟨z, e1, e2, e3⟩ | ⟨e1, e3⟩
          · exact ⟨_, _, e3, fun _ => ⟨z, (numF_some e1).2.2.1, (numF_some e1).2.2.2, e2, rfl, e1⟩, fun q => absurd q (by decide)⟩
          · exact ⟨_, _, e3, fun q => absurd q (by decide), fun _ => ⟨rfl, e1⟩⟩
        refine r_goto hX dX6_tasteItem_68 (tgt := 72) (by decide) ?_
        refine J72 v48 _ p6 b6 _ ?_ ?_ ?_
        ·
          exact hQ6
        ·
          intro q
          obtain ⟨e1, e2⟩ := ht6 q
          rw [e1, k4]; exact taste_p k5 z4 (by rw [← z3]; exact put_n hw e2)
        ·
          intro q
          obtain ⟨u, u0, u1, u2, u3, u4⟩ := hf6 q
          refine ⟨hm1, kd, z, u, k2, z2, u2, ?_⟩
          rw [k4, u3]
          exact taste_s k5 em hm1 z4 (by rw [← z3]; exact put_s hw u4)
    ·
      refine r_vret hX hR dX6_tasteItem_39 ?_
      -- leaf 2 at 39
      refine ⟨rfl, ?_⟩
      have hbt := bi_n h36
      subst hbt
      exact RdM.no hQ2 (hbb.resolve_right (fun q => absurd q.1 (by decide))).2
  refine r_aload0 hX dX6_tasteItem_0 (q := 1) rfl ?_
  refine r_aload0 hX dX6_tasteItem_1 (q := 2) rfl ?_
  refine r_getI hX dX6_tasteItem_2 (q := 5) rfl fX6_193 rfl ⟨by decide, by decide, rfl⟩ ?_
  rw [hQ.2.2.1]
  refine r_if_ne hX dX6_tasteItem_5 (q := 8) rfl (tgt := 24) (by decide) (fun h5 => ?_) (fun h5 => ?_)
  ·
    exact absurd bi_f h5 --end
  ·
    refine r_iload1 hX dX6_tasteItem_8 (q := 9) rfl ?_
    refine r_if_lt hX dX6_tasteItem_9 (q := 12) rfl (tgt := 24) (by decide) (fun h9 => ?_) (fun h9 => ?_)
    ·
      refine r_iconst hX dX6_tasteItem_24 (q := 25) rfl (v := nI 1) (by decide +kernel) ?_
      refine r_goto hX dX6_tasteItem_25 (tgt := 29) (by decide) ?_
      refine J29 true ?_
      ·
        exact Or.inl ⟨rfl, (hx.resolve_right (fun ⟨kd, k1, k2, _⟩ => absurd h9 (by rw [k2]; exact Int32.not_lt.mpr (nn_ge (by omega))))).2⟩
    ·
      refine r_aload0 hX dX6_tasteItem_12 (q := 13) rfl ?_
      refine r_getR hX dX6_tasteItem_13 (q := 16) rfl fX6_9 rfl ⟨by decide, by decide, rfl⟩ ?_
      refine r_bipush hX dX6_tasteItem_16 (q := 18) rfl (v := nI 8) (by decide +kernel) ?_
      refine r_ialdN hX dX6_tasteItem_18 (q := 19) rfl rfl (by repeat' (first | assumption | with_reducible exact rfl | refine e_add ?_ ?_ | refine e_mul ?_ ?_)) (by first | assumption | omega) (by first | decide | omega) ?_
      rw [hQ.2.2.2.1 8 (by decide), em]
      refine r_bipush hX dX6_tasteItem_19 (q := 21) rfl (v := nI 10) (by decide +kernel) ?_
      first | refine r_icmpN_ne hX dX6_tasteItem_21 (q := 24) rfl (tgt := 28) (by decide) (by first | omega | decide) (by first | omega | decide) (fun h21 => ?_) (fun h21 => ?_) | refine r_icmp_ne hX dX6_tasteItem_21 (q := 24) rfl (tgt := 28) (by decide) (fun h21 => ?_) (fun h21 => ?_)
      ·
        refine r_iconst hX dX6_tasteItem_28 (q := 29) rfl (v := nI 0) (by decide +kernel) ?_
        refine J29 false ?_
        ·
          exact Or.inr ⟨rfl, by omega, hx.resolve_left (fun q => h9 q.1)⟩
      ·
        refine r_iconst hX dX6_tasteItem_24 (q := 25) rfl (v := nI 1) (by decide +kernel) ?_
        refine r_goto hX dX6_tasteItem_25 (tgt := 29) (by decide) ?_
        refine J29 true ?_
        ·
          obtain ⟨kd, k1, k2, k3, k4⟩ := hx.resolve_left (fun q => h9 q.1)
          exact Or.inl ⟨rfl, k4.trans (taste_10 (by rw [em, h21]))⟩
