set_option maxRecDepth 100000 in
set_option maxHeartbeats 4000000 in
theorem c_X4_readItem (l : Launch) (Γ : Gam) (G : GG) (T : MU) (n c k : Nat) (μ : MU) (b : Nat) (hS : TxS G G T n c k μ) (hV : Inv b μ) : Sp l yX4_readItem cX4_readItem 4 (some .boolean) 6 131 [.ref (gad Γ 31), .ref (gad Γ (ch 1 0))] Γ G (pB (fun b' G' => RdO G G' T n c b' (itemF T n (pk T n k) μ))) := by
  refine Sp_of (own := RX4) rfl (by decide +kernel) rfl (Nat.le_of_ble_eq_true rfl) (fun X hX hR => ?_)
  show WP X Γ 0 [some (.ref (gad Γ 31)), some (.ref (gad Γ (ch 1 0))), none, none] [] G
  refine r_aload0 hX dX4_readItem_0 (q := 1) rfl ?_
  refine r_callS hX dX4_readItem_1 (q := 4) rfl (c_X4_partTold _ Γ _ T n c k μ b hS hV) kX4_27 mlX4_partTold msX4_partTold rfl rfl ⟨by decide, by decide⟩ (Nat.le_of_ble_eq_true rfl) (keI ?_)
  refine r_istore2 hX dX4_readItem_4 (q := 5) rfl rfl ?_
  refine r_iload2 hX dX4_readItem_5 (q := 6) rfl ?_
  refine r_if_lt hX dX4_readItem_6 (q := 9) rfl (tgt := 16) (by decide) (fun h6 => ?_) (fun h6 => ?_)
  ·
    have hp4 := (pt_c T n (pk T n k)).1 h6
    refine r_aload0 hX dX4_readItem_16 (q := 17) rfl ?_
    refine r_callS hX dX4_readItem_17 (q := 20) rfl (c_X4_kindTold _ Γ _ T n c k μ b hS hV) kX4_35 mlX4_kindTold msX4_kindTold rfl rfl ⟨by decide, by decide⟩ (Nat.le_of_ble_eq_true rfl) (keI ?_)
    refine r_istore3 hX dX4_readItem_20 (q := 21) rfl rfl ?_
    refine r_iload3 hX dX4_readItem_21 (q := 22) rfl ?_
    refine r_if_lt hX dX4_readItem_22 (q := 25) rfl (tgt := 32) (by decide) (fun h22 => ?_) (fun h22 => ?_)
    ·
      have hk7 := (kd_c T n (pk T n k) 7 (by decide)).1 h22
      refine r_aload0 hX dX4_readItem_32 (q := 33) rfl ?_
      refine r_ldcS hX dX4_readItem_33 (q := 35) (i := 11) (tx := "food") rfl (by decide +kernel) ?_
      refine r_callV hX dX4_readItem_35 (q := 38) rfl (c_X3_isAtWord _ Γ _ T n c k hS.1.1 hS.1.2.1 hS.1.2.2 11 (by omega)) kX4_43 mlX3_isAtWord mvX3_isAtWord rfl rfl rfl ⟨by decide, rfl⟩ ⟨by decide, by decide⟩ (Nat.le_of_ble_eq_true rfl) (keB ?_)
      first | with_reducible refine r_ifd_eq hX dX4_readItem_38 (q := 41) rfl (tgt := 47) (by decide) (fun h38 => ?_) (fun h38 => ?_) | refine r_ifb_eq hX dX4_readItem_38 (q := 41) rfl (tgt := 47) (by decide) (fun h38 => ?_) (fun h38 => ?_)
      ·
        refine r_aload0 hX dX4_readItem_47 (q := 48) rfl ?_
        refine r_ldcS hX dX4_readItem_48 (q := 50) (i := 15) (tx := "pudding") rfl (by decide +kernel) ?_
        refine r_callV hX dX4_readItem_50 (q := 53) rfl (c_X3_isAtWord _ Γ _ T n c k hS.1.1 hS.1.2.1 hS.1.2.2 15 (by omega)) kX4_43 mlX3_isAtWord mvX3_isAtWord rfl rfl rfl ⟨by decide, rfl⟩ ⟨by decide, by decide⟩ (Nat.le_of_ble_eq_true rfl) (keB ?_)
        first | with_reducible refine r_ifd_eq hX dX4_readItem_53 (q := 56) rfl (tgt := 62) (by decide) (fun h53 => ?_) (fun h53 => ?_) | refine r_ifb_eq hX dX4_readItem_53 (q := 56) rfl (tgt := 62) (by decide) (fun h53 => ?_) (fun h53 => ?_)
        ·
          refine r_aload0 hX dX4_readItem_62 (q := 63) rfl ?_
          refine r_ldcS hX dX4_readItem_63 (q := 65) (i := 16) (tx := "friend") rfl (by decide +kernel) ?_
          refine r_callV hX dX4_readItem_65 (q := 68) rfl (c_X3_isAtWord _ Γ _ T n c k hS.1.1 hS.1.2.1 hS.1.2.2 16 (by omega)) kX4_43 mlX3_isAtWord mvX3_isAtWord rfl rfl rfl ⟨by decide, rfl⟩ ⟨by decide, by decide⟩ (Nat.le_of_ble_eq_true rfl) (keB ?_)
          first | with_reducible refine r_ifd_eq hX dX4_readItem_68 (q := 71) rfl (tgt := 83) (by decide) (fun h68 => ?_) (fun h68 => ?_) | refine r_ifb_eq hX dX4_readItem_68 (q := 71) rfl (tgt := 83) (by decide) (fun h68 => ?_) (fun h68 => ?_)
          ·
            refine r_iconst hX dX4_readItem_83 (q := 84) rfl (v := nI 0) (by decide +kernel) ?_
            refine r_zret0 hX hR dX4_readItem_84 ?_
            -- leaf 0 at 84
            refine ⟨_, rfl, ?_⟩
            first
              | (rw [item_at (by omega) h68]; rw [h76] at p73; exact p73)
              | (refine RdO.no hS (item_no (fun i hi hn => ?_))
                 by_cases a : i < 4
                 · exact hp4 i a
                 · by_cases a2 : i < 11
                   · have := hk7 (i - 4) (by omega) (by omega)
                     rw [show 4 + (i - 4) = i by omega] at this
                     exact this
                   · by_cases a3 : i = 11
                     · rw [a3]; exact h38
                     · by_cases a4 : i = 15
                       · rw [a4]; exact h53
                       · rw [show i = 16 by omega]; exact h68)
          ·
            refine r_aload0 hX dX4_readItem_71 (q := 72) rfl ?_
            refine r_aload1 hX dX4_readItem_72 (q := 73) rfl ?_
            refine r_callS hX dX4_readItem_73 (q := 76) rfl (c_X4_readFriend _ Γ _ T n c k μ b hS hV (by rw [wd_srt h68]; decide)) kX4_57 mlX4_readFriend msX4_readFriend rfl rfl ⟨by decide, by decide⟩ (Nat.le_of_ble_eq_true rfl) (kpB (fun v73 G73 p73 => ?_))
            first | with_reducible refine r_ifd_eq hX dX4_readItem_76 (q := 79) rfl (tgt := 83) (by decide) (fun h76 => ?_) (fun h76 => ?_) | refine r_ifb_eq hX dX4_readItem_76 (q := 79) rfl (tgt := 83) (by decide) (fun h76 => ?_) (fun h76 => ?_)
            ·
              refine r_iconst hX dX4_readItem_83 (q := 84) rfl (v := nI 0) (by decide +kernel) ?_
              refine r_zret0 hX hR dX4_readItem_84 ?_
              -- leaf 1 at 84
              refine ⟨_, rfl, ?_⟩
              first
                | (rw [item_at (by omega) h68]; rw [h76] at p73; exact p73)
                | (refine RdO.no hS (item_no (fun i hi hn => ?_))
                   by_cases a : i < 4
                   · exact hp4 i a
                   · by_cases a2 : i < 11
                     · have := hk7 (i - 4) (by omega) (by omega)
                       rw [show 4 + (i - 4) = i by omega] at this
                       exact this
                     · by_cases a3 : i = 11
                       · rw [a3]; exact h38
                       · by_cases a4 : i = 15
                         · rw [a4]; exact h53
                         · rw [show i = 16 by omega]; exact h68)
            ·
              refine r_iconst hX dX4_readItem_79 (q := 80) rfl (v := nI 1) (by decide +kernel) ?_
              refine r_goto hX dX4_readItem_80 (tgt := 84) (by decide) ?_
              refine r_zret1 hX hR dX4_readItem_84 ?_
              -- leaf 2 at 84
              refine ⟨_, rfl, ?_⟩
              first
                | (rw [item_at (by omega) h68]; rw [h76] at p73; exact p73)
                | (refine RdO.no hS (item_no (fun i hi hn => ?_))
                   by_cases a : i < 4
                   · exact hp4 i a
                   · by_cases a2 : i < 11
                     · have := hk7 (i - 4) (by omega) (by omega)
                       rw [show 4 + (i - 4) = i by omega] at this
                       exact this
                     · by_cases a3 : i = 11
                       · rw [a3]; exact h38
                       · by_cases a4 : i = 15
                         · rw [a4]; exact h53
                         · rw [show i = 16 by omega]; exact h68)
        ·
          refine r_aload0 hX dX4_readItem_56 (q := 57) rfl ?_
          refine r_aload1 hX dX4_readItem_57 (q := 58) rfl ?_
          refine r_callS hX dX4_readItem_58 (q := 61) rfl (c_X4_readPudding _ Γ _ T n c k μ b hS hV (by rw [wd_srt h53]; decide)) kX4_52 mlX4_readPudding msX4_readPudding rfl rfl ⟨by decide, by decide⟩ (Nat.le_of_ble_eq_true rfl) (kpB (fun v58 G58 p58 => ?_))
          refine r_zret hX hR dX4_readItem_61 ?_
          -- leaf 3 at 61
          refine ⟨_, rfl, ?_⟩
          rw [item_at (by omega) h53]; exact p58
      ·
        refine r_aload0 hX dX4_readItem_41 (q := 42) rfl ?_
        refine r_aload1 hX dX4_readItem_42 (q := 43) rfl ?_
        refine r_callS hX dX4_readItem_43 (q := 46) rfl (c_X4_readFood _ Γ _ T n c k μ b hS hV (by rw [wd_srt h38]; decide)) kX4_47 mlX4_readFood msX4_readFood rfl rfl ⟨by decide, by decide⟩ (Nat.le_of_ble_eq_true rfl) (kpB (fun v43 G43 p43 => ?_))
        refine r_zret hX hR dX4_readItem_46 ?_
        -- leaf 4 at 46
        refine ⟨_, rfl, ?_⟩
        rw [item_at (by omega) h38]; exact p43
    ·
      obtain ⟨j, hj, ej, hw⟩ := (kd_c T n (pk T n k) 7 (by decide)).2 h22
      refine r_aload0 hX dX4_readItem_25 (q := 26) rfl ?_
      refine r_aload1 hX dX4_readItem_26 (q := 27) rfl ?_
      refine r_iload3 hX dX4_readItem_27 (q := 28) rfl ?_
      refine r_callS hX dX4_readItem_28 (q := 31) rfl (c_X4_readTaste _ Γ _ T n c k μ b hS hV _ j ej hj (by rw [wd_srt hw]; decide)) kX4_38 mlX4_readTaste msX4_readTaste rfl rfl ⟨by decide, by decide⟩ (Nat.le_of_ble_eq_true rfl) (kpB (fun v28 G28 p28 => ?_))
      refine r_zret hX hR dX4_readItem_31 ?_
      -- leaf 5 at 31
      refine ⟨_, rfl, ?_⟩
      rw [item_at (by omega) hw, itemW, if_neg (by omega), if_pos (by omega), show 4 + j - 4 = j by omega]; exact p28
  ·
    obtain ⟨j, hj, ej, hw⟩ := (pt_c T n (pk T n k)).2 h6
    refine r_aload0 hX dX4_readItem_9 (q := 10) rfl ?_
    refine r_aload1 hX dX4_readItem_10 (q := 11) rfl ?_
    refine r_iload2 hX dX4_readItem_11 (q := 12) rfl ?_
    refine r_callS hX dX4_readItem_12 (q := 15) rfl (c_X4_readPart _ Γ _ T n c k μ b hS hV _ j ej hj (by rw [wd_srt hw]; decide)) kX4_31 mlX4_readPart msX4_readPart rfl rfl ⟨by decide, by decide⟩ (Nat.le_of_ble_eq_true rfl) (kpB (fun v12 G12 p12 => ?_))
    refine r_zret hX hR dX4_readItem_15 ?_
    -- leaf 6 at 15
    refine ⟨_, rfl, ?_⟩
    rw [item_at (by omega) hw, itemW, if_pos hj]; exact p12

set_option maxRecDepth 100000 in
set_option maxHeartbeats 4000000 in
theorem c_X4_read (l : Launch) (Γ : Gam) (G : GG) (T : MU) (n : Nat) (h1 : G 31 1 = nI n) (hn : n ≤ 120) (hT : ∀ j, j < n → G 32 j = T j) (μ : MU) (b : Nat) (hC : CR G 1 μ) (hV : Inv b μ) : Sp l yX4_read cX4_read 3 (some .int) 7 154 [.ref (gad Γ 31), .ref (gad Γ (ch 1 0))] Γ G (pI (fun v G' => ∃ G1 c, (TKR G1 T n c ∧ G1 31 1 = nI n ∧ ∀ c, (c < 31 ∨ c = 32 ∨ 37 ≤ c) → G1 c = G c) ∧ ((∃ q k ν, txF T n 121 0 μ 1 = .inl q ∧ v = -1 ∧ pk T n k = q ∧ TxS G1 G' T n c k ν) ∨ (∃ it k ν, txF T n 121 0 μ 1 = .inr (it, ν) ∧ v = nI it ∧ it ≤ 120 ∧ TxS G1 G' T n c k ν)))) := by
  refine Sp_of (own := RX4) rfl (by decide +kernel) rfl (Nat.le_of_ble_eq_true rfl) (fun X hX hR => ?_)
  show WP X Γ 0 [some (.ref (gad Γ 31)), some (.ref (gad Γ (ch 1 0))), none] [] G
  refine r_aload0 hX dX4_read_0 (q := 1) rfl ?_
  refine r_callV hX dX4_read_1 (q := 4) rfl (c_X3_cut _ Γ _ T n h1 hn hT) kX4_9 mlX3_cut mvX3_cut rfl rfl rfl ⟨by decide, rfl⟩ ⟨by decide, by decide⟩ (Nat.le_of_ble_eq_true rfl) (kpV (fun G1 p1 => ?_))
  obtain ⟨c, hTK, h7, hz1, hF⟩ := p1
  have hS0 : TxS G1 G1 T n c 0 μ := ⟨⟨hTK, Nat.zero_le _, h7⟩, hC.fr (j := 3) (fun x hx => hF x (by omega)) (by decide), FT1.rf⟩
  have hn0 := hn
  refine r_iconst hX dX4_read_4 (q := 5) rfl (v := nI 1) (by decide +kernel) ?_
  refine r_istore2 hX dX4_read_5 (q := 6) rfl rfl ?_
  have L6 : ∀ (zn6 : Nat) (it k : Nat) (G2 : GG) (κ : MU), zn6 = 121 - it → (1 ≤ it) → (2 * (it - 1) ≤ pk T n k) → (TxS G1 G2 T n c k κ) → (Inv b κ) → (txF T n 121 0 μ 1 = txF T n (122 - it) (pk T n k) κ it) → WP X Γ 6 [some (.ref (gad Γ 31)), some (.ref (gad Γ (ch 1 0))), some (.int (nI it))] [] G2 := by
    intro zn6
    induction zn6 using Nat.strongRecOn with
    | _ zn6 ih6 =>
      intro it k G2 κ zh6 hi hp hS hK he
      have hb := pk_b (T := T) (n := n) k
      obtain ⟨w, g1, g2⟩ : ∃ w, 122 - it = w + 1 ∧ 122 - (it + 1) = w := ⟨121 - it, by omega, by omega⟩
      refine r_iload2 hX dX4_read_6 (q := 7) rfl ?_
      refine r_bipush hX dX4_read_7 (q := 9) rfl (v := nI 120) (by decide +kernel) ?_
      refine r_icmpN_gt hX dX4_read_9 (q := 12) rfl (tgt := 48) (by decide) (by first | omega | decide) (by first | omega | decide) (fun h9 => ?_) (fun h9 => ?_)
      ·
        exact absurd h9 (by omega) --end
      ·
        refine r_aload0 hX dX4_read_12 (q := 13) rfl ?_
        refine r_aload1 hX dX4_read_13 (q := 14) rfl ?_
        refine r_callS hX dX4_read_14 (q := 17) rfl (c_X4_readItem _ Γ _ T n c k κ b hS.self hK) kX4_14 mlX4_readItem msX4_readItem rfl rfl ⟨by decide, by decide⟩ (Nat.le_of_ble_eq_true rfl) (kpB (fun v14 G14 p14 => ?_))
        first | with_reducible refine r_ifd_ne hX dX4_read_17 (q := 20) rfl (tgt := 22) (by decide) (fun h17 => ?_) (fun h17 => ?_) | refine r_ifb_ne hX dX4_read_17 (q := 20) rfl (tgt := 22) (by decide) (fun h17 => ?_) (fun h17 => ?_)
        ·
          rw [h17] at p14
          obtain ⟨k3, κ3, e3, hS3'⟩ := p14.t
          have hS3 := hS3'.base hS.2.2
          have g := item_it hb hK e3
          refine r_aload0 hX dX4_read_22 (q := 23) rfl ?_
          refine r_callV hX dX4_read_23 (q := 26) rfl (c_X3_takesSign _ Γ _ T n c k3 hS3.1.1 hS3.1.2.1 hS3.1.2.2) kX4_20 mlX3_takesSign mvX3_takesSign rfl rfl rfl ⟨by decide, rfl⟩ ⟨by decide, by decide⟩ (Nat.le_of_ble_eq_true rfl) (kpB (fun v23 G23 p23 => ?_))
          have hsg := p23.1
          first | with_reducible refine r_ifd_ne hX dX4_read_26 (q := 29) rfl (tgt := 42) (by decide) (fun h26 => ?_) (fun h26 => ?_) | refine r_ifb_ne hX dX4_read_26 (q := 29) rfl (tgt := 42) (by decide) (fun h26 => ?_) (fun h26 => ?_)
          ·
            refine r_iincN2 hX dX4_read_42 (q := 45) rfl rfl ?_
            refine r_goto hX dX4_read_45 (tgt := 6) (by decide) ?_
            refine ih6 _ ?_ (it + 1) (k3 + 1) _ κ3 rfl ?_ ?_ ?_ ?_ ?_
            ·
              omega
            ·
              omega
            ·
              have := nx_lt (T := T) g.1.2 (show ¬ srt T n (pk T n k3) = 0 by rw [(of_decide_eq_true (hsg.symm.trans h26)).1]; decide)
              have := g.1.1
              show _ ≤ nxt T n (pk T n k3)
              omega
            ·
              rw [p23.2, if_pos (p23.1.symm.trans h26)]
              exact hS3.mv (hS3.k1 (by rw [(of_decide_eq_true (hsg.symm.trans h26)).1]; decide))
            ·
              exact g.2.1
            ·
              rw [he, g1, g2]
              exact tx_m e3 (hsg.symm.trans h26)
          ·
            have hsn : ¬ sgB T n (pk T n k3) = true := fun q => absurd (h26.symm.trans (p23.1.trans q)) (by decide)
            have eG : G23 = G14 := p23.2.trans (if_neg hsn)
            subst eG
            refine r_aload0 hX dX4_read_29 (q := 30) rfl ?_
            refine r_callV hX dX4_read_30 (q := 33) rfl (c_X3_isAtEnd _ Γ _ T n c k3 hS3.1.1 hS3.1.2.1 hS3.1.2.2) kX4_24 mlX3_isAtEnd mvX3_isAtEnd rfl rfl rfl ⟨by decide, rfl⟩ ⟨by decide, by decide⟩ (Nat.le_of_ble_eq_true rfl) (keB ?_)
            first | with_reducible refine r_ifd_eq hX dX4_read_33 (q := 36) rfl (tgt := 40) (by decide) (fun h33 => ?_) (fun h33 => ?_) | refine r_ifb_eq hX dX4_read_33 (q := 36) rfl (tgt := 40) (by decide) (fun h33 => ?_) (fun h33 => ?_)
            ·
              refine r_iconst hX dX4_read_40 (q := 41) rfl (v := (-1)) (by decide +kernel) ?_
              refine r_iret hX hR dX4_read_41 ?_
              -- leaf 0 at 41
              refine ⟨_, rfl, ?_⟩
              first
                | exact ⟨G1, c, ⟨hTK, hz1, hF⟩, Or.inr ⟨it, k3, κ3, by rw [he, g1]; exact tx_e e3 hsn h33, rfl, by omega, hS3⟩⟩
                | exact ⟨G1, c, ⟨hTK, hz1, hF⟩, Or.inl ⟨_, k3, κ3, by rw [he, g1]; exact tx_x e3 hsn h33, by decide +kernel, rfl, hS3⟩⟩
            ·
              refine r_iload2 hX dX4_read_36 (q := 37) rfl ?_
              refine r_goto hX dX4_read_37 (tgt := 41) (by decide) ?_
              refine r_iret hX hR dX4_read_41 ?_
              -- leaf 1 at 41
              refine ⟨_, rfl, ?_⟩
              first
                | exact ⟨G1, c, ⟨hTK, hz1, hF⟩, Or.inr ⟨it, k3, κ3, by rw [he, g1]; exact tx_e e3 hsn h33, rfl, by omega, hS3⟩⟩
                | exact ⟨G1, c, ⟨hTK, hz1, hF⟩, Or.inl ⟨_, k3, κ3, by rw [he, g1]; exact tx_x e3 hsn h33, by decide +kernel, rfl, hS3⟩⟩
        ·
          rw [h17] at p14
          obtain ⟨k3, κ3, e3, hS3'⟩ := p14.f
          have hS3 := hS3'.base hS.2.2
          refine r_iconst hX dX4_read_20 (q := 21) rfl (v := (-1)) (by decide +kernel) ?_
          refine r_iret hX hR dX4_read_21 ?_
          -- leaf 2 at 21
          refine ⟨_, rfl, ?_⟩
          exact ⟨G1, c, ⟨hTK, hz1, hF⟩, Or.inl ⟨_, k3, κ3, by rw [he, g1]; exact tx_n e3, by decide +kernel, rfl, hS3⟩⟩
  refine L6 _ 1 0 _ μ rfl ?_ ?_ ?_ ?_ ?_
  ·
    exact Nat.le_refl _
  ·
    exact Nat.zero_le _
  ·
    exact hS0
  ·
    exact hV
  ·
    rfl

set_option maxRecDepth 100000 in
set_option maxHeartbeats 4000000 in
theorem c_X5_text (l : Launch) (Γ : Gam) (G : GG) (μ : MU) (b : Nat) (hC : CR G 0 μ) (hV : Inv b μ) (T : MU) (n : Nat) (h1 : G 31 1 = nI n) (hn : n ≤ 120) (hT : ∀ j, j < n → G 32 j = T j) : Sp l yX5_text cX5_text 2 (some .int) 8 176 [.ref (gad Γ 30)] Γ G (pI (fun v G' => G' 31 1 = nI 0 ∧ (∀ c, (20 ≤ c ∧ c ≤ 30) ∨ c = 32 ∨ 37 ≤ c → G' c = G c) ∧ ((∃ q, txF T n 121 0 μ 1 = .inl q ∧ v = -1 - nI (frm T n q) ∧ CR G' 0 μ) ∨ (∃ it ν, txF T n 121 0 μ 1 = .inr (it, ν) ∧ it ≤ 120 ∧ v = nI it ∧ CR G' 0 ν)))) := by
  refine Sp_of (own := RX5) rfl (by decide +kernel) rfl (Nat.le_of_ble_eq_true rfl) (fun X hX hR => ?_)
  show WP X Γ 0 [some (.ref (gad Γ 30)), none] [] G
  refine r_aload0 hX dX5_text_0 (q := 1) rfl ?_
  refine r_getR hX dX5_text_1 (q := 4) (c' := ch 1 0) rfl fX5_16 rfl ⟨by decide, by decide, rfl⟩ ?_
  refine r_aload0 hX dX5_text_4 (q := 5) rfl ?_
  refine r_getR hX dX5_text_5 (q := 8) (c' := ch 0 0) rfl fX5_12 rfl ⟨by decide, by decide, rfl⟩ ?_
  refine r_callV hX dX5_text_8 (q := 11) rfl (c_X0_become _ Γ _ 1 0 (by decide) (by decide) (by decide) μ hC) kX5_202 mlX0_become mvX0_become rfl rfl (ch_lay (j := 0) (by first | assumption | decide) (by decide) rfl) ⟨by decide, rfl⟩ ⟨by decide, by decide⟩ (Nat.le_of_ble_eq_true rfl) (kpV (fun G8 p8 => ?_))
  refine r_aload0 hX dX5_text_11 (q := 12) rfl ?_
  refine r_getR hX dX5_text_12 (q := 15) rfl fX5_29 rfl ⟨by decide, by decide, rfl⟩ ?_
  refine r_aload0 hX dX5_text_15 (q := 16) rfl ?_
  refine r_getR hX dX5_text_16 (q := 19) (c' := ch 1 0) rfl fX5_16 rfl ⟨by decide, by decide, rfl⟩ ?_
  refine r_callS hX dX5_text_19 (q := 22) rfl (c_X4_read _ Γ _ T n (by rw [p8.2 31 (by omega)]; exact h1) hn (fun j hj => by rw [p8.2 32 (by omega)]; exact hT j hj) μ b p8.1 hV) kX5_235 mlX4_read msX4_read rfl rfl ⟨by decide, by decide⟩ (Nat.le_of_ble_eq_true rfl) (kpI (fun v19 G19 p19 => ?_))
  obtain ⟨G1, c, hF1, hO⟩ := p19
  refine r_istore1 hX dX5_text_22 (q := 23) rfl rfl ?_
  refine r_aload0 hX dX5_text_23 (q := 24) rfl ?_
  refine r_getR hX dX5_text_24 (q := 27) rfl fX5_29 rfl ⟨by decide, by decide, rfl⟩ ?_
  refine r_iconst hX dX5_text_27 (q := 28) rfl (v := nI 0) (by decide +kernel) ?_
  refine r_put hX dX5_text_28 (q := 31) rfl fX5_232 wX3_1 rfl rfl rfl ⟨by decide, by decide, rfl⟩ ?_
  refine r_iload1 hX dX5_text_31 (q := 32) rfl ?_
  refine r_if_ge hX dX5_text_32 (q := 35) rfl (tgt := 45) (by decide) (fun h32 => ?_) (fun h32 => ?_)
  ·
    obtain ⟨it, k, ν, e1, e2, e3, hQ⟩ := hO.resolve_left (fun ⟨q, k, ν, e1, e2, _⟩ => absurd h32 (by rw [e2]; decide +kernel))
    refine r_aload0 hX dX5_text_45 (q := 46) rfl ?_
    refine r_getR hX dX5_text_46 (q := 49) (c' := ch 0 0) rfl fX5_12 rfl ⟨by decide, by decide, rfl⟩ ?_
    refine r_aload0 hX dX5_text_49 (q := 50) rfl ?_
    refine r_getR hX dX5_text_50 (q := 53) (c' := ch 1 0) rfl fX5_16 rfl ⟨by decide, by decide, rfl⟩ ?_
    refine r_callV hX dX5_text_53 (q := 56) rfl (c_X0_become _ Γ _ 0 1 (by decide) (by decide) (by decide) ν (hQ.2.1.fr ((Fr.rf (i := 3)).up (j := 1) (by decide)) (by decide))) kX5_202 mlX0_become mvX0_become rfl rfl (ch_lay (j := 0) (by first | assumption | decide) (by decide) rfl) ⟨by decide, rfl⟩ ⟨by decide, by decide⟩ (Nat.le_of_ble_eq_true rfl) (kpV (fun G53 p53 => ?_))
    skip
    refine r_iload1 hX dX5_text_56 (q := 57) rfl ?_
    refine r_iret hX hR dX5_text_57 ?_
    -- leaf 0 at 57
    refine ⟨_, rfl, ?_⟩
    refine ⟨?_, fun x hx => ?_, Or.inr ⟨it, ν, e1, e3, e2, p53.1⟩⟩
    · rw [p53.2 31 (by omega)]; exact up_eq
    · rw [p53.2 x (by omega)]
      refine (funext (fun j => up_ne (by omega))).trans ?_
      rw [hQ.2.2.1 x (by omega) (by omega), hF1.2.2 x (by omega), p8.2 x (by omega)]
  ·
    obtain ⟨q, k, ν, e1, e2, e3, hQ⟩ := hO.resolve_right (fun ⟨it, k, ν, e1, e2, e3, _⟩ => h32 (by rw [e2]; exact nn_ge (by omega)))
    subst e3
    refine r_iconst hX dX5_text_35 (q := 36) rfl (v := (-1)) (by decide +kernel) ?_
    refine r_aload0 hX dX5_text_36 (q := 37) rfl ?_
    refine r_getR hX dX5_text_37 (q := 40) rfl fX5_29 rfl ⟨by decide, by decide, rfl⟩ ?_
    refine r_callV hX dX5_text_40 (q := 43) rfl (c_X3_place _ Γ _ T n c k (hQ.1.1.fr (fun x a b => funext (fun j => up_ne (by omega)))) hQ.1.2.1 ((up_ne (by omega)).trans hQ.1.2.2)) kX5_241 mlX3_place mvX3_place rfl rfl rfl ⟨by decide, rfl⟩ ⟨by decide, by decide⟩ (Nat.le_of_ble_eq_true rfl) (keI ?_)
    refine r_isub hX dX5_text_43 (q := 44) rfl ?_
    refine r_iret hX hR dX5_text_44 ?_
    -- leaf 1 at 44
    refine ⟨_, rfl, ?_⟩
    refine ⟨up_eq, fun x hx => ?_, Or.inl ⟨_, e1, rfl, ?_⟩⟩
    · refine (funext (fun j => up_ne (by omega))).trans ?_
      rw [hQ.2.2.1 x (by omega) (by omega), hF1.2.2 x (by omega), p8.2 x (by omega)]
    · have c1 : CR G8 0 μ := hC.fr p8.2 (by decide)
      have c2 : CR G1 0 μ := c1.fr (j := 3) (fun x hx => hF1.2.2 x (by omega)) (by decide)
      have c3 : CR G19 0 μ := c2.bl (fun x hx => hQ.2.2.1 x (by omega) (by omega))
      exact c3.fr ((Fr.rf (i := 3)).up (j := 1) (by decide)) (by decide)
