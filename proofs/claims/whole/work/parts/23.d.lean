set_option maxRecDepth 100000 in
set_option maxHeartbeats 4000000 in
theorem c_X1_row (l : Launch) (Γ : Gam) (G : GG) (i : Nat) (hi : i < 3) (x : Int32) (w : Nat) (hx : x = nI w) (hw : w < 3) : Sp l yX1_row cX1_row 2 (some (.array .int)) 0 0 [.ref (gad Γ (ch i 4)), .int x] Γ G (eR G (gad Γ (ch i (5 + w)))) := by
  refine Sp_of (own := RX1) rfl (by decide +kernel) rfl (Nat.le_of_ble_eq_true rfl) (fun X hX hR => ?_)
  show WP X Γ 0 [some (.ref (gad Γ (ch i 4))), some (.int x)] [] G
  subst hx
  refine r_iload1 hX dX1_row_0 (q := 1) rfl ?_
  refine r_lookCase hX dX1_row_1 0 ⟨by decide, by decide +kernel, (by decide : (1 : Int) + 27 = (28 : Nat))⟩ (fun h1_0 => ?_) (fun h1_0 => ?_)
  ·
    refine r_aload0 hX dX1_row_28 (q := 29) rfl ?_
    refine r_getR hX dX1_row_29 (q := 32) rfl fX1_9 (ch_lay (j := 4) (by first | assumption | decide) (by decide) rfl) (rP_0 (by first | assumption | decide)) ?_
    refine r_aret hX hR (Or.inr ⟨_, rfl⟩) dX1_row_32 ?_
    -- leaf 0 at 32
    refine ⟨?_, ?_⟩
    ·
      have : w = 0 := (nI_eq (by omega) (by decide)).mp h1_0
      subst this
      rfl
    · rfl
  refine r_lookCase hX dX1_row_1 1 ⟨by decide, by decide +kernel, (by decide : (1 : Int) + 32 = (33 : Nat))⟩ (fun h1_1 => ?_) (fun h1_1 => ?_)
  ·
    refine r_aload0 hX dX1_row_33 (q := 34) rfl ?_
    refine r_getR hX dX1_row_34 (q := 37) rfl fX1_15 (ch_lay (j := 4) (by first | assumption | decide) (by decide) rfl) (rP_1 (by first | assumption | decide)) ?_
    refine r_aret hX hR (Or.inr ⟨_, rfl⟩) dX1_row_37 ?_
    -- leaf 1 at 37
    refine ⟨?_, ?_⟩
    ·
      have : w = 1 := (nI_eq (by omega) (by decide)).mp h1_1
      subst this
      rfl
    · rfl
  refine r_look hX dX1_row_1 (by decide) (off := 37) (by show Op.lookupswitch.offset [(0, 27), (1, 32)] 37 _ = 37; rw [lv_osw h1_0 (show (nI 0).toInt = (0 : Int) from nI_toInt (by decide)), lv_osw h1_1 (show (nI 1).toInt = (1 : Int) from nI_toInt (by decide))]; rfl) (tgt := 38) (by decide) ?_
  refine r_aload0 hX dX1_row_38 (q := 39) rfl ?_
  refine r_getR hX dX1_row_39 (q := 42) rfl fX1_18 (ch_lay (j := 4) (by first | assumption | decide) (by decide) rfl) (rP_2 (by first | assumption | decide)) ?_
  refine r_aret hX hR (Or.inr ⟨_, rfl⟩) dX1_row_42 ?_
  -- leaf 2 at 42
  refine ⟨?_, ?_⟩
  ·
    have : w = 2 := by
      have a0 : ¬ w = 0 := fun z => h1_0 (by rw [z])
      have a1 : ¬ w = 1 := fun z => h1_1 (by rw [z])
      omega
    subst this
    rfl
  · rfl

set_option maxRecDepth 100000 in
set_option maxHeartbeats 4000000 in
theorem c_X1_exchangeIn (l : Launch) (Γ : Gam) (G : GG) (c : Nat) (hc : lay c = (7, 10)) (x y : Int32) (a b : Nat) (hx : x = nI a) (hy : y = nI b) (ha : a < 10) (hb : b < 10) : Sp l yX1_exchangeIn cX1_exchangeIn 4 none 0 0 [.ref (gad Γ c), .int x, .int y] Γ G (eV (exG G c a b)) := by
  refine Sp_of (own := RX1) rfl (by decide +kernel) rfl (Nat.le_of_ble_eq_true rfl) (fun X hX hR => ?_)
  show WP X Γ 0 [some (.ref (gad Γ c)), some (.int x), some (.int y), none] [] G
  subst hx
  subst hy
  refine r_aload0 hX dX1_exchangeIn_0 (q := 1) rfl ?_
  refine r_iload1 hX dX1_exchangeIn_1 (q := 2) rfl ?_
  refine r_ialdN hX dX1_exchangeIn_2 (q := 3) rfl hc (by repeat' (first | assumption | with_reducible exact rfl | refine e_add ?_ ?_ | refine e_mul ?_ ?_)) (by first | assumption | omega) (by first | decide | omega) ?_
  refine r_istore3 hX dX1_exchangeIn_3 (q := 4) rfl rfl ?_
  refine r_aload0 hX dX1_exchangeIn_4 (q := 5) rfl ?_
  refine r_iload1 hX dX1_exchangeIn_5 (q := 6) rfl ?_
  refine r_aload0 hX dX1_exchangeIn_6 (q := 7) rfl ?_
  refine r_iload2 hX dX1_exchangeIn_7 (q := 8) rfl ?_
  refine r_ialdN hX dX1_exchangeIn_8 (q := 9) rfl hc (by repeat' (first | assumption | with_reducible exact rfl | refine e_add ?_ ?_ | refine e_mul ?_ ?_)) (by first | assumption | omega) (by first | decide | omega) ?_
  refine r_iastN hX dX1_exchangeIn_9 (q := 10) rfl hc (by repeat' (first | assumption | with_reducible exact rfl | refine e_add ?_ ?_ | refine e_mul ?_ ?_)) (by first | assumption | omega) (by first | decide | omega) ?_
  refine r_aload0 hX dX1_exchangeIn_10 (q := 11) rfl ?_
  refine r_iload2 hX dX1_exchangeIn_11 (q := 12) rfl ?_
  refine r_iload3 hX dX1_exchangeIn_12 (q := 13) rfl ?_
  refine r_iastN hX dX1_exchangeIn_13 (q := 14) rfl hc (by repeat' (first | assumption | with_reducible exact rfl | refine e_add ?_ ?_ | refine e_mul ?_ ?_)) (by first | assumption | omega) (by first | decide | omega) ?_
  refine r_vret hX hR dX1_exchangeIn_14 ?_
  -- leaf 0 at 14
  refine ⟨rfl, ?_⟩
  show up (up G c a (G c b)) c b (G c a) = exG G c a b
  rfl

set_option maxRecDepth 100000 in
set_option maxHeartbeats 4000000 in
theorem c_X1_exchange (l : Launch) (Γ : Gam) (G : GG) (i : Nat) (hi : i < 3) (x y : Int32) (a b : Nat) (hx : x = nI a) (hy : y = nI b) (ha : a < 10) (hb : b < 10) : Sp l yX1_exchange cX1_exchange 3 none 1 23 [.ref (gad Γ (ch i 4)), .int x, .int y] Γ G (eV (exG (exG (exG G (ch i 5) a b) (ch i 6) a b) (ch i 7) a b)) := by
  refine Sp_of (own := RX1) rfl (by decide +kernel) rfl (Nat.le_of_ble_eq_true rfl) (fun X hX hR => ?_)
  show WP X Γ 0 [some (.ref (gad Γ (ch i 4))), some (.int x), some (.int y)] [] G
  subst hx
  subst hy
  refine r_aload0 hX dX1_exchange_0 (q := 1) rfl ?_
  refine r_getR hX dX1_exchange_1 (q := 4) rfl fX1_9 (ch_lay (j := 4) (by first | assumption | decide) (by decide) rfl) (rP_0 (by first | assumption | decide)) ?_
  refine r_iload1 hX dX1_exchange_4 (q := 5) rfl ?_
  refine r_iload2 hX dX1_exchange_5 (q := 6) rfl ?_
  refine r_callS hX dX1_exchange_6 (q := 9) rfl (c_X1_exchangeIn _ Γ _ _ (by first | assumption | exact ch_lay (by first | assumption | decide) (by decide) rfl) _ _ _ _ (by repeat' (first | assumption | with_reducible exact rfl | refine e_add ?_ ?_ | refine e_mul ?_ ?_)) (by repeat' (first | assumption | with_reducible exact rfl | refine e_add ?_ ?_ | refine e_mul ?_ ?_)) (by first | assumption | omega) (by first | assumption | omega)) kX1_31 mlX1_exchangeIn msX1_exchangeIn rfl rfl ⟨by decide, by decide⟩ (Nat.le_of_ble_eq_true rfl) (keV ?_)
  refine r_aload0 hX dX1_exchange_9 (q := 10) rfl ?_
  refine r_getR hX dX1_exchange_10 (q := 13) rfl fX1_15 (ch_lay (j := 4) (by first | assumption | decide) (by decide) rfl) (rP_1 (by first | assumption | decide)) ?_
  refine r_iload1 hX dX1_exchange_13 (q := 14) rfl ?_
  refine r_iload2 hX dX1_exchange_14 (q := 15) rfl ?_
  refine r_callS hX dX1_exchange_15 (q := 18) rfl (c_X1_exchangeIn _ Γ _ _ (by first | assumption | exact ch_lay (by first | assumption | decide) (by decide) rfl) _ _ _ _ (by repeat' (first | assumption | with_reducible exact rfl | refine e_add ?_ ?_ | refine e_mul ?_ ?_)) (by repeat' (first | assumption | with_reducible exact rfl | refine e_add ?_ ?_ | refine e_mul ?_ ?_)) (by first | assumption | omega) (by first | assumption | omega)) kX1_31 mlX1_exchangeIn msX1_exchangeIn rfl rfl ⟨by decide, by decide⟩ (Nat.le_of_ble_eq_true rfl) (keV ?_)
  refine r_aload0 hX dX1_exchange_18 (q := 19) rfl ?_
  refine r_getR hX dX1_exchange_19 (q := 22) rfl fX1_18 (ch_lay (j := 4) (by first | assumption | decide) (by decide) rfl) (rP_2 (by first | assumption | decide)) ?_
  refine r_iload1 hX dX1_exchange_22 (q := 23) rfl ?_
  refine r_iload2 hX dX1_exchange_23 (q := 24) rfl ?_
  refine r_callS hX dX1_exchange_24 (q := 27) rfl (c_X1_exchangeIn _ Γ _ _ (by first | assumption | exact ch_lay (by first | assumption | decide) (by decide) rfl) _ _ _ _ (by repeat' (first | assumption | with_reducible exact rfl | refine e_add ?_ ?_ | refine e_mul ?_ ?_)) (by repeat' (first | assumption | with_reducible exact rfl | refine e_add ?_ ?_ | refine e_mul ?_ ?_)) (by first | assumption | omega) (by first | assumption | omega)) kX1_31 mlX1_exchangeIn msX1_exchangeIn rfl rfl ⟨by decide, by decide⟩ (Nat.le_of_ble_eq_true rfl) (keV ?_)
  refine r_vret hX hR dX1_exchange_27 ?_
  -- leaf 0 at 27
  refine ⟨rfl, ?_⟩
  rfl

set_option maxRecDepth 100000 in
set_option maxHeartbeats 4000000 in
theorem c_X1_keepOnly (l : Launch) (Γ : Gam) (G : GG) (i : Nat) (hi : i < 3) (x : Int32) (t : Nat) (hx : x = nI t) (ht : t < 10) : Sp l yX1_keepOnly cX1_keepOnly 2 none 2 45 [.ref (gad Γ (ch i 4)), .int x] Γ G (eV (up (exG (exG (exG G (ch i 5) 0 t) (ch i 6) 0 t) (ch i 7) 0 t) (ch i 4) 3 (nI 1))) := by
  refine Sp_of (own := RX1) rfl (by decide +kernel) rfl (Nat.le_of_ble_eq_true rfl) (fun X hX hR => ?_)
  show WP X Γ 0 [some (.ref (gad Γ (ch i 4))), some (.int x)] [] G
  subst hx
  refine r_aload0 hX dX1_keepOnly_0 (q := 1) rfl ?_
  refine r_iconst hX dX1_keepOnly_1 (q := 2) rfl (v := nI 0) (by decide +kernel) ?_
  refine r_iload1 hX dX1_keepOnly_2 (q := 3) rfl ?_
  refine r_callV hX dX1_keepOnly_3 (q := 6) rfl (c_X1_exchange _ Γ _ _ (by first | assumption | decide) _ _ _ _ (by repeat' (first | assumption | with_reducible exact rfl | refine e_add ?_ ?_ | refine e_mul ?_ ?_)) (by repeat' (first | assumption | with_reducible exact rfl | refine e_add ?_ ?_ | refine e_mul ?_ ?_)) (by first | assumption | omega) (by first | assumption | omega)) kX1_35 mlX1_exchange mvX1_exchange rfl rfl (ch_lay (j := 4) (by first | assumption | decide) (by decide) rfl) ⟨by decide, rfl⟩ ⟨by decide, by decide⟩ (Nat.le_of_ble_eq_true rfl) (keV ?_)
  refine r_aload0 hX dX1_keepOnly_6 (q := 7) rfl ?_
  refine r_iconst hX dX1_keepOnly_7 (q := 8) rfl (v := nI 1) (by decide +kernel) ?_
  refine r_put hX dX1_keepOnly_8 (q := 11) rfl fX1_21 wX1_3 rfl rfl (ch_lay (j := 4) (by first | assumption | decide) (by decide) rfl) (rP_3 (by first | assumption | decide)) ?_
  refine r_vret hX hR dX1_keepOnly_11 ?_
  -- leaf 0 at 11
  refine ⟨rfl, ?_⟩
  rfl

set_option maxRecDepth 100000 in
set_option maxHeartbeats 4000000 in
theorem c_X1_add (l : Launch) (Γ : Gam) (G : GG) (i : Nat) (hi : i < 3) (μ : MU) (b : Nat) (hC : CR G i μ) (hV : Inv b μ) (k f p : Int32) (n : Nat) (hn : μ 8 = nI n) (hn1 : n < 10) : Sp l yX1_add cX1_add 5 (some .int) 0 0 [.ref (gad Γ (ch i 4)), .int k, .int f, .int p] Γ G (pI (fun v G' => v = nI n ∧ CR G' i (addM μ n k f p) ∧ Fr i G G')) := by
  refine Sp_of (own := RX1) rfl (by decide +kernel) rfl (Nat.le_of_ble_eq_true rfl) (fun X hX hR => ?_)
  show WP X Γ 0 [some (.ref (gad Γ (ch i 4))), some (.int k), some (.int f), some (.int p), none] [] G
  have es : G (ch i 4) 3 = nI n := hC.1.2.2.2.2.2.2.2.2.trans hn
  refine r_aload0 hX dX1_add_0 (q := 1) rfl ?_
  refine r_getI hX dX1_add_1 (q := 4) rfl fX1_21 (ch_lay (j := 4) (by first | assumption | decide) (by decide) rfl) (rP_3 (by first | assumption | decide)) ?_
  rw [es]
  refine r_istore4 hX dX1_add_4 (q := 6) rfl rfl ?_
  refine r_aload0 hX dX1_add_6 (q := 7) rfl ?_
  refine r_getR hX dX1_add_7 (q := 10) rfl fX1_9 (ch_lay (j := 4) (by first | assumption | decide) (by decide) rfl) (rP_0 (by first | assumption | decide)) ?_
  refine r_iload4 hX dX1_add_10 (q := 12) rfl ?_
  refine r_iload1 hX dX1_add_12 (q := 13) rfl ?_
  refine r_iastN hX dX1_add_13 (q := 14) rfl (ch_lay (j := 5) (by first | assumption | decide) (by decide) rfl) (by repeat' (first | assumption | with_reducible exact rfl | refine e_add ?_ ?_ | refine e_mul ?_ ?_)) (by first | assumption | omega) (by first | decide | omega) ?_
  refine r_aload0 hX dX1_add_14 (q := 15) rfl ?_
  refine r_getR hX dX1_add_15 (q := 18) rfl fX1_15 (ch_lay (j := 4) (by first | assumption | decide) (by decide) rfl) (rP_1 (by first | assumption | decide)) ?_
  refine r_iload4 hX dX1_add_18 (q := 20) rfl ?_
  refine r_iload2 hX dX1_add_20 (q := 21) rfl ?_
  refine r_iastN hX dX1_add_21 (q := 22) rfl (ch_lay (j := 6) (by first | assumption | decide) (by decide) rfl) (by repeat' (first | assumption | with_reducible exact rfl | refine e_add ?_ ?_ | refine e_mul ?_ ?_)) (by first | assumption | omega) (by first | decide | omega) ?_
  refine r_aload0 hX dX1_add_22 (q := 23) rfl ?_
  refine r_getR hX dX1_add_23 (q := 26) rfl fX1_18 (ch_lay (j := 4) (by first | assumption | decide) (by decide) rfl) (rP_2 (by first | assumption | decide)) ?_
  refine r_iload4 hX dX1_add_26 (q := 28) rfl ?_
  refine r_iload3 hX dX1_add_28 (q := 29) rfl ?_
  refine r_iastN hX dX1_add_29 (q := 30) rfl (ch_lay (j := 7) (by first | assumption | decide) (by decide) rfl) (by repeat' (first | assumption | with_reducible exact rfl | refine e_add ?_ ?_ | refine e_mul ?_ ?_)) (by first | assumption | omega) (by first | decide | omega) ?_
  refine r_aload0 hX dX1_add_30 (q := 31) rfl ?_
  refine r_dup hX dX1_add_31 (q := 32) rfl rfl ?_
  refine r_getI hX dX1_add_32 (q := 35) rfl fX1_21 (ch_lay (j := 4) (by first | assumption | decide) (by decide) rfl) (rP_3 (by first | assumption | decide)) ?_
  have e9 : up (up (up G (ch i 5) n k) (ch i 6) n f) (ch i 7) n p (ch i 4) 3 = nI n := by
    rw [up_ne (by simp only [ch]; omega), up_ne (by simp only [ch]; omega), up_ne (by simp only [ch]; omega)]; exact es
  rw [e9]
  refine r_iconst hX dX1_add_35 (q := 36) rfl (v := nI 1) (by decide +kernel) ?_
  refine r_iadd hX dX1_add_36 (q := 37) rfl ?_
  refine r_put hX dX1_add_37 (q := 40) rfl fX1_21 wX1_3 rfl rfl (ch_lay (j := 4) (by first | assumption | decide) (by decide) rfl) (rP_3 (by first | assumption | decide)) ?_
  refine r_iload4 hX dX1_add_40 (q := 42) rfl ?_
  refine r_iret hX hR dX1_add_42 ?_
  -- leaf 0 at 42
  refine ⟨_, rfl, ?_⟩
  rw [nI_add]
  exact ⟨rfl, (((hC.kin hn1 k).foo hn1 f).put hn1 p).size (nI (n + 1)), (((Fr.rf.up (by decide)).up (by decide)).up (by decide)).up (by decide)⟩

set_option maxRecDepth 100000 in
set_option maxHeartbeats 4000000 in
theorem c_X1_pressThePaid (l : Launch) (Γ : Gam) (G : GG) (i : Nat) (hi : i < 3) (μ : MU) (b : Nat) (hC : CR G i μ) (hV : Inv b μ) : Sp l yX1_pressThePaid cX1_pressThePaid 2 none 0 0 [.ref (gad Γ (ch i 4))] Γ G (pV (fun G' => CR G' i (prM μ (cl (μ 8))) ∧ Fr i G G')) := by
  obtain ⟨n, hn1, hn2⟩ := hV.2.2.1
  have hcl : cl (μ 8) = n := by rw [hn2]; exact nI_clamp (by omega)
  rw [hcl]
  refine Sp_of (own := RX1) rfl (by decide +kernel) rfl (Nat.le_of_ble_eq_true rfl) (fun X hX hR => ?_)
  show WP X Γ 0 [some (.ref (gad Γ (ch i 4))), none] [] G
  refine r_iconst hX dX1_pressThePaid_0 (q := 1) rfl (v := nI 0) (by decide +kernel) ?_
  refine r_istore1 hX dX1_pressThePaid_1 (q := 2) rfl rfl ?_
  have L2 : ∀ (zn2 : Nat) (k : Nat) (G1 : GG), zn2 = n - k → (k ≤ n) → (CR G1 i (prM μ k)) → (Fr i G G1) → WP X Γ 2 [some (.ref (gad Γ (ch i 4))), some (.int (nI k))] [] G1 := by
    intro zn2
    induction zn2 using Nat.strongRecOn with
    | _ zn2 ih2 =>
      intro k G1 zh2 hk hC1 hF1
      have es : G1 (ch i 4) 3 = nI n := hC1.1.2.2.2.2.2.2.2.2.trans ((prM_ne k 8 (by omega)).trans hn2)
      refine r_iload1 hX dX1_pressThePaid_2 (q := 3) rfl ?_
      refine r_aload0 hX dX1_pressThePaid_3 (q := 4) rfl ?_
      refine r_getI hX dX1_pressThePaid_4 (q := 7) rfl fX1_21 (ch_lay (j := 4) (by first | assumption | decide) (by decide) rfl) (rP_3 (by first | assumption | decide)) ?_
      rw [es]
      first | refine r_icmpN_ge hX dX1_pressThePaid_7 (q := 10) rfl (tgt := 33) (by decide) (by first | decide | omega) (by first | decide | omega) (fun h7 => ?_) (fun h7 => ?_) | refine r_icmp_ge hX dX1_pressThePaid_7 (q := 10) rfl (tgt := 33) (by decide) (fun h7 => ?_) (fun h7 => ?_)
      ·
        refine r_vret hX hR dX1_pressThePaid_33 ?_
        -- leaf 0 at 33
        refine ⟨rfl, ?_⟩
        have : k = n := by omega
        subst this
        exact ⟨hC1, hF1⟩
      ·
        refine r_aload0 hX dX1_pressThePaid_10 (q := 11) rfl ?_
        refine r_getR hX dX1_pressThePaid_11 (q := 14) rfl fX1_9 (ch_lay (j := 4) (by first | assumption | decide) (by decide) rfl) (rP_0 (by first | assumption | decide)) ?_
        refine r_iload1 hX dX1_pressThePaid_14 (q := 15) rfl ?_
        refine r_ialdN hX dX1_pressThePaid_15 (q := 16) rfl (ch_lay (j := 5) (by first | assumption | decide) (by decide) rfl) (by repeat' (first | assumption | with_reducible exact rfl | refine e_add ?_ ?_ | refine e_mul ?_ ?_)) (by first | assumption | omega) (by first | decide | omega) ?_
        refine r_iconst hX dX1_pressThePaid_16 (q := 17) rfl (v := nI 3) (by decide +kernel) ?_
        first | refine r_icmpN_ne hX dX1_pressThePaid_17 (q := 20) rfl (tgt := 27) (by decide) (by first | decide | omega) (by first | decide | omega) (fun h17 => ?_) (fun h17 => ?_) | refine r_icmp_ne hX dX1_pressThePaid_17 (q := 20) rfl (tgt := 27) (by decide) (fun h17 => ?_) (fun h17 => ?_)
        ·
          refine r_iincN1 hX dX1_pressThePaid_27 (q := 30) rfl rfl ?_
          refine r_goto hX dX1_pressThePaid_30 (tgt := 2) (by decide) ?_
          refine ih2 _ ?_ (k + 1) _ rfl ?_ ?_ ?_
          ·
            omega
          ·
            omega
          ·
            have ek := ((hC1.2.2.1 k (by omega)).1).trans (prM_ne k (40 + 3 * k) (by omega))
            first
              | (have q := hC1.kin (x := k) (by omega) (nI 2); unfold prM; rw [if_pos (ek.symm.trans h17)]; exact q)
              | (unfold prM; rw [if_neg (fun z => h17 (ek.trans z))]; exact hC1)
          ·
            first | exact hF1.up (by decide) | exact hF1
        ·
          refine r_aload0 hX dX1_pressThePaid_20 (q := 21) rfl ?_
          refine r_getR hX dX1_pressThePaid_21 (q := 24) rfl fX1_9 (ch_lay (j := 4) (by first | assumption | decide) (by decide) rfl) (rP_0 (by first | assumption | decide)) ?_
          refine r_iload1 hX dX1_pressThePaid_24 (q := 25) rfl ?_
          refine r_iconst hX dX1_pressThePaid_25 (q := 26) rfl (v := nI 2) (by decide +kernel) ?_
          refine r_iastN hX dX1_pressThePaid_26 (q := 27) rfl (ch_lay (j := 5) (by first | assumption | decide) (by decide) rfl) (by repeat' (first | assumption | with_reducible exact rfl | refine e_add ?_ ?_ | refine e_mul ?_ ?_)) (by first | assumption | omega) (by first | decide | omega) ?_
          refine r_iincN1 hX dX1_pressThePaid_27 (q := 30) rfl rfl ?_
          refine r_goto hX dX1_pressThePaid_30 (tgt := 2) (by decide) ?_
          refine ih2 _ ?_ (k + 1) _ rfl ?_ ?_ ?_
          ·
            omega
          ·
            omega
          ·
            have ek := ((hC1.2.2.1 k (by omega)).1).trans (prM_ne k (40 + 3 * k) (by omega))
            first
              | (have q := hC1.kin (x := k) (by omega) (nI 2); unfold prM; rw [if_pos (ek.symm.trans h17)]; exact q)
              | (unfold prM; rw [if_neg (fun z => h17 (ek.trans z))]; exact hC1)
          ·
            first | exact hF1.up (by decide) | exact hF1
  refine L2 _ 0 _ rfl ?_ ?_ ?_
  ·
    exact Nat.zero_le _
  ·
    exact hC
  ·
    exact Fr.rf

set_option maxRecDepth 100000 in
set_option maxHeartbeats 4000000 in
theorem c_X1_becomePlan (l : Launch) (Γ : Gam) (G : GG) (i j : Nat) (hi : i < 3) (hj : j < 3) (hij : ¬ i = j) : Sp l yX1_becomePlan cX1_becomePlan 2 none 1 26 [.ref (gad Γ (ch i 4)), .ref (gad Γ (ch j 4))] Γ G (eV (bpG G i j)) := by
  refine Sp_of (own := RX1) rfl (by decide +kernel) rfl (Nat.le_of_ble_eq_true rfl) (fun X hX hR => ?_)
  show WP X Γ 0 [some (.ref (gad Γ (ch i 4))), some (.ref (gad Γ (ch j 4)))] [] G
  refine r_aload1 hX dX1_becomePlan_0 (q := 1) rfl ?_
  refine r_getR hX dX1_becomePlan_1 (q := 4) rfl fX1_9 (ch_lay (j := 4) hj (by decide) rfl) (rP_0 (by first | assumption | decide)) ?_
  refine r_iconst hX dX1_becomePlan_4 (q := 5) rfl (v := nI 0) (by decide +kernel) ?_
  refine r_aload0 hX dX1_becomePlan_5 (q := 6) rfl ?_
  refine r_getR hX dX1_becomePlan_6 (q := 9) rfl fX1_9 (ch_lay (j := 4) hi (by decide) rfl) (rP_0 (by first | assumption | decide)) ?_
  refine r_iconst hX dX1_becomePlan_9 (q := 10) rfl (v := nI 0) (by decide +kernel) ?_
  refine r_bipush hX dX1_becomePlan_10 (q := 12) rfl (v := nI 10) (by decide +kernel) ?_
  refine r_copy hX dX1_becomePlan_12 (q := 15) rfl kX1_25 msCopy (ch_lay (j := 5) (by first | assumption | decide) (by decide) rfl) (ch_lay (j := 5) (by first | assumption | decide) (by decide) rfl) (by decide +kernel) (by decide +kernel) (by decide +kernel) (by decide +kernel) (by decide +kernel) ⟨by decide, Nat.le_of_ble_eq_true rfl⟩ ?_
  refine r_aload1 hX dX1_becomePlan_15 (q := 16) rfl ?_
  refine r_getR hX dX1_becomePlan_16 (q := 19) rfl fX1_15 (ch_lay (j := 4) hj (by decide) rfl) (rP_1 (by first | assumption | decide)) ?_
  refine r_iconst hX dX1_becomePlan_19 (q := 20) rfl (v := nI 0) (by decide +kernel) ?_
  refine r_aload0 hX dX1_becomePlan_20 (q := 21) rfl ?_
  refine r_getR hX dX1_becomePlan_21 (q := 24) rfl fX1_15 (ch_lay (j := 4) hi (by decide) rfl) (rP_1 (by first | assumption | decide)) ?_
  refine r_iconst hX dX1_becomePlan_24 (q := 25) rfl (v := nI 0) (by decide +kernel) ?_
  refine r_bipush hX dX1_becomePlan_25 (q := 27) rfl (v := nI 10) (by decide +kernel) ?_
  refine r_copy hX dX1_becomePlan_27 (q := 30) rfl kX1_25 msCopy (ch_lay (j := 6) (by first | assumption | decide) (by decide) rfl) (ch_lay (j := 6) (by first | assumption | decide) (by decide) rfl) (by decide +kernel) (by decide +kernel) (by decide +kernel) (by decide +kernel) (by decide +kernel) ⟨by decide, Nat.le_of_ble_eq_true rfl⟩ ?_
  refine r_aload1 hX dX1_becomePlan_30 (q := 31) rfl ?_
  refine r_getR hX dX1_becomePlan_31 (q := 34) rfl fX1_18 (ch_lay (j := 4) hj (by decide) rfl) (rP_2 (by first | assumption | decide)) ?_
  refine r_iconst hX dX1_becomePlan_34 (q := 35) rfl (v := nI 0) (by decide +kernel) ?_
  refine r_aload0 hX dX1_becomePlan_35 (q := 36) rfl ?_
  refine r_getR hX dX1_becomePlan_36 (q := 39) rfl fX1_18 (ch_lay (j := 4) hi (by decide) rfl) (rP_2 (by first | assumption | decide)) ?_
  refine r_iconst hX dX1_becomePlan_39 (q := 40) rfl (v := nI 0) (by decide +kernel) ?_
  refine r_bipush hX dX1_becomePlan_40 (q := 42) rfl (v := nI 10) (by decide +kernel) ?_
  refine r_copy hX dX1_becomePlan_42 (q := 45) rfl kX1_25 msCopy (ch_lay (j := 7) (by first | assumption | decide) (by decide) rfl) (ch_lay (j := 7) (by first | assumption | decide) (by decide) rfl) (by decide +kernel) (by decide +kernel) (by decide +kernel) (by decide +kernel) (by decide +kernel) ⟨by decide, Nat.le_of_ble_eq_true rfl⟩ ?_
  refine r_aload0 hX dX1_becomePlan_45 (q := 46) rfl ?_
  refine r_aload1 hX dX1_becomePlan_46 (q := 47) rfl ?_
  refine r_getI hX dX1_becomePlan_47 (q := 50) rfl fX1_21 (ch_lay (j := 4) hj (by decide) rfl) (rP_3 (by first | assumption | decide)) ?_
  refine r_put hX dX1_becomePlan_50 (q := 53) rfl fX1_21 wX1_3 rfl rfl (ch_lay (j := 4) hi (by decide) rfl) (rP_3 (by first | assumption | decide)) ?_
  refine r_vret hX hR dX1_becomePlan_53 ?_
  -- leaf 0 at 53
  refine ⟨rfl, ?_⟩
  have a1 : ∀ x y, x < 10 → y < 10 → ¬ ch j x = ch i y := by intro x y h1 h2; simp only [ch]; omega
  have a2 : ¬ ch i 6 = ch i 5 := by simp only [ch]; omega
  have a3 : ¬ ch i 7 = ch i 5 := by simp only [ch]; omega
  have a4 : ¬ ch i 7 = ch i 6 := by simp only [ch]; omega
  unfold bpG
  simp only [upc, a1 6 5 (by decide) (by decide), a1 7 5 (by decide) (by decide), a1 7 6 (by decide) (by decide), a1 4 5 (by decide) (by decide), a1 4 6 (by decide) (by decide), a1 4 7 (by decide) (by decide), a2, a3, a4, if_false]
  rfl

set_option maxRecDepth 100000 in
set_option maxHeartbeats 4000000 in
theorem c_X0_become (l : Launch) (Γ : Gam) (G : GG) (i j : Nat) (hi : i < 3) (hj : j < 3) (hij : (i = 1 ∧ j = 0) ∨ (i = 2 ∧ j = 0) ∨ (i = 0 ∧ j = 2) ∨ (i = 0 ∧ j = 1)) (μ : MU) (hC : CR G j μ) : Sp l yX0_become cX0_become 2 none 2 47 [.ref (gad Γ (ch i 0)), .ref (gad Γ (ch j 0))] Γ G (pV (fun G' => CR G' i μ ∧ Fr i G G')) := by
  refine Sp_of (own := RX0) rfl (by decide +kernel) rfl (Nat.le_of_ble_eq_true rfl) (fun X hX hR => ?_)
  show WP X Γ 0 [some (.ref (gad Γ (ch i 0))), some (.ref (gad Γ (ch j 0)))] [] G
  have hne : ¬ i = j := by omega
  refine r_aload1 hX dX0_become_0 (q := 1) rfl ?_
  refine r_getR hX dX0_become_1 (q := 4) rfl fX0_9 (ch_lay (j := 0) hj (by decide) rfl) (rC_0 (by first | assumption | decide)) ?_
  refine r_iconst hX dX0_become_4 (q := 5) rfl (v := nI 0) (by decide +kernel) ?_
  refine r_aload0 hX dX0_become_5 (q := 6) rfl ?_
  refine r_getR hX dX0_become_6 (q := 9) rfl fX0_9 (ch_lay (j := 0) hi (by decide) rfl) (rC_0 (by first | assumption | decide)) ?_
  refine r_iconst hX dX0_become_9 (q := 10) rfl (v := nI 0) (by decide +kernel) ?_
  refine r_bipush hX dX0_become_10 (q := 12) rfl (v := nI 10) (by decide +kernel) ?_
  refine r_copy hX dX0_become_12 (q := 15) rfl kX0_65 msCopy (ch_lay (j := 1) (by first | assumption | decide) (by decide) rfl) (ch_lay (j := 1) (by first | assumption | decide) (by decide) rfl) (by decide +kernel) (by decide +kernel) (by decide +kernel) (by decide +kernel) (by decide +kernel) ⟨by decide, Nat.le_of_ble_eq_true rfl⟩ ?_
  refine r_aload1 hX dX0_become_15 (q := 16) rfl ?_
  refine r_getR hX dX0_become_16 (q := 19) rfl fX0_15 (ch_lay (j := 0) hj (by decide) rfl) (rC_1 (by first | assumption | decide)) ?_
  refine r_iconst hX dX0_become_19 (q := 20) rfl (v := nI 0) (by decide +kernel) ?_
  refine r_aload0 hX dX0_become_20 (q := 21) rfl ?_
  refine r_getR hX dX0_become_21 (q := 24) rfl fX0_15 (ch_lay (j := 0) hi (by decide) rfl) (rC_1 (by first | assumption | decide)) ?_
  refine r_iconst hX dX0_become_24 (q := 25) rfl (v := nI 0) (by decide +kernel) ?_
  refine r_bipush hX dX0_become_25 (q := 27) rfl (v := nI 10) (by decide +kernel) ?_
  refine r_copy hX dX0_become_27 (q := 30) rfl kX0_65 msCopy (ch_lay (j := 2) (by first | assumption | decide) (by decide) rfl) (ch_lay (j := 2) (by first | assumption | decide) (by decide) rfl) (by decide +kernel) (by decide +kernel) (by decide +kernel) (by decide +kernel) (by decide +kernel) ⟨by decide, Nat.le_of_ble_eq_true rfl⟩ ?_
  refine r_aload1 hX dX0_become_30 (q := 31) rfl ?_
  refine r_getR hX dX0_become_31 (q := 34) rfl fX0_18 (ch_lay (j := 0) hj (by decide) rfl) (rC_2 (by first | assumption | decide)) ?_
  refine r_iconst hX dX0_become_34 (q := 35) rfl (v := nI 0) (by decide +kernel) ?_
  refine r_aload0 hX dX0_become_35 (q := 36) rfl ?_
  refine r_getR hX dX0_become_36 (q := 39) rfl fX0_18 (ch_lay (j := 0) hi (by decide) rfl) (rC_2 (by first | assumption | decide)) ?_
  refine r_iconst hX dX0_become_39 (q := 40) rfl (v := nI 0) (by decide +kernel) ?_
  refine r_bipush hX dX0_become_40 (q := 42) rfl (v := nI 10) (by decide +kernel) ?_
  refine r_copy hX dX0_become_42 (q := 45) rfl kX0_65 msCopy (ch_lay (j := 3) (by first | assumption | decide) (by decide) rfl) (ch_lay (j := 3) (by first | assumption | decide) (by decide) rfl) (by decide +kernel) (by decide +kernel) (by decide +kernel) (by decide +kernel) (by decide +kernel) ⟨by decide, Nat.le_of_ble_eq_true rfl⟩ ?_
  refine r_aload0 hX dX0_become_45 (q := 46) rfl ?_
  refine r_aload1 hX dX0_become_46 (q := 47) rfl ?_
  refine r_getI hX dX0_become_47 (q := 50) rfl fX0_27 (ch_lay (j := 0) hj (by decide) rfl) (rC_3 (by first | assumption | decide)) ?_
  refine r_put hX dX0_become_50 (q := 53) rfl fX0_27 wX0_3 rfl rfl (ch_lay (j := 0) hi (by decide) rfl) (rC_3 (by first | assumption | decide)) ?_
  refine r_aload0 hX dX0_become_53 (q := 54) rfl ?_
  refine r_aload1 hX dX0_become_54 (q := 55) rfl ?_
  refine r_getI hX dX0_become_55 (q := 58) rfl fX0_31 (ch_lay (j := 0) hj (by decide) rfl) (rC_4 (by first | assumption | decide)) ?_
  refine r_put hX dX0_become_58 (q := 61) rfl fX0_31 wX0_4 rfl rfl (ch_lay (j := 0) hi (by decide) rfl) (rC_4 (by first | assumption | decide)) ?_
  refine r_aload0 hX dX0_become_61 (q := 62) rfl ?_
  refine r_aload1 hX dX0_become_62 (q := 63) rfl ?_
  refine r_getI hX dX0_become_63 (q := 66) rfl fX0_34 (ch_lay (j := 0) hj (by decide) rfl) (rC_5 (by first | assumption | decide)) ?_
  refine r_put hX dX0_become_66 (q := 69) rfl fX0_34 wX0_5 rfl rfl (ch_lay (j := 0) hi (by decide) rfl) (rC_5 (by first | assumption | decide)) ?_
  refine r_aload0 hX dX0_become_69 (q := 70) rfl ?_
  refine r_aload1 hX dX0_become_70 (q := 71) rfl ?_
  refine r_getI hX dX0_become_71 (q := 74) rfl fX0_37 (ch_lay (j := 0) hj (by decide) rfl) (rC_6 (by first | assumption | decide)) ?_
  refine r_put hX dX0_become_74 (q := 77) rfl fX0_37 wX0_6 rfl rfl (ch_lay (j := 0) hi (by decide) rfl) (rC_6 (by first | assumption | decide)) ?_
  refine r_aload0 hX dX0_become_77 (q := 78) rfl ?_
  refine r_aload1 hX dX0_become_78 (q := 79) rfl ?_
  refine r_getI hX dX0_become_79 (q := 82) rfl fX0_40 (ch_lay (j := 0) hj (by decide) rfl) (rC_7 (by first | assumption | decide)) ?_
  refine r_put hX dX0_become_82 (q := 85) rfl fX0_40 wX0_7 rfl rfl (ch_lay (j := 0) hi (by decide) rfl) (rC_7 (by first | assumption | decide)) ?_
  refine r_aload0 hX dX0_become_85 (q := 86) rfl ?_
  refine r_aload1 hX dX0_become_86 (q := 87) rfl ?_
  refine r_getI hX dX0_become_87 (q := 90) rfl fX0_43 (ch_lay (j := 0) hj (by decide) rfl) (rC_8 (by first | assumption | decide)) ?_
  refine r_put hX dX0_become_90 (q := 93) rfl fX0_43 wX0_8 rfl rfl (ch_lay (j := 0) hi (by decide) rfl) (rC_8 (by first | assumption | decide)) ?_
  refine r_aload0 hX dX0_become_93 (q := 94) rfl ?_
  refine r_getR hX dX0_become_94 (q := 97) rfl fX0_49 (ch_lay (j := 0) hi (by decide) rfl) (rC_9 (by first | assumption | decide)) ?_
  refine r_aload1 hX dX0_become_97 (q := 98) rfl ?_
  refine r_getR hX dX0_become_98 (q := 101) rfl fX0_49 (ch_lay (j := 0) hj (by decide) rfl) (rC_9 (by first | assumption | decide)) ?_
  refine r_callV hX dX0_become_101 (q := 104) rfl (c_X1_becomePlan _ Γ _ _ _ (by first | assumption | decide) (by first | assumption | decide) (by first | assumption | decide)) kX0_71 mlX1_becomePlan mvX1_becomePlan rfl rfl (ch_lay (j := 4) (by first | assumption | decide) (by decide) rfl) ⟨by decide, rfl⟩ ⟨by decide, by decide⟩ (Nat.le_of_ble_eq_true rfl) (keV ?_)
  refine r_aload0 hX dX0_become_104 (q := 105) rfl ?_
  refine r_aload1 hX dX0_become_105 (q := 106) rfl ?_
  refine r_getI hX dX0_become_106 (q := 109) rfl fX0_53 (ch_lay (j := 0) hj (by decide) rfl) (rC_10 (by first | assumption | decide)) ?_
  refine r_put hX dX0_become_109 (q := 112) rfl fX0_53 wX0_10 rfl rfl (ch_lay (j := 0) hi (by decide) rfl) (rC_10 (by first | assumption | decide)) ?_
  refine r_aload1 hX dX0_become_112 (q := 113) rfl ?_
  refine r_getR hX dX0_become_113 (q := 116) rfl fX0_56 (ch_lay (j := 0) hj (by decide) rfl) (rC_11 (by first | assumption | decide)) ?_
  refine r_iconst hX dX0_become_116 (q := 117) rfl (v := nI 0) (by decide +kernel) ?_
  refine r_aload0 hX dX0_become_117 (q := 118) rfl ?_
  refine r_getR hX dX0_become_118 (q := 121) rfl fX0_56 (ch_lay (j := 0) hi (by decide) rfl) (rC_11 (by first | assumption | decide)) ?_
  refine r_iconst hX dX0_become_121 (q := 122) rfl (v := nI 0) (by decide +kernel) ?_
  refine r_bipush hX dX0_become_122 (q := 124) rfl (v := nI 35) (by decide +kernel) ?_
  refine r_copy hX dX0_become_124 (q := 127) rfl kX0_65 msCopy (ch_lay (j := 8) (by first | assumption | decide) (by decide) rfl) (ch_lay (j := 8) (by first | assumption | decide) (by decide) rfl) (by decide +kernel) (by decide +kernel) (by decide +kernel) (by decide +kernel) (by decide +kernel) ⟨by decide, Nat.le_of_ble_eq_true rfl⟩ ?_
  refine r_aload0 hX dX0_become_127 (q := 128) rfl ?_
  refine r_aload1 hX dX0_become_128 (q := 129) rfl ?_
  refine r_getI hX dX0_become_129 (q := 132) rfl fX0_59 (ch_lay (j := 0) hj (by decide) rfl) (rC_12 (by first | assumption | decide)) ?_
  refine r_put hX dX0_become_132 (q := 135) rfl fX0_59 wX0_12 rfl rfl (ch_lay (j := 0) hi (by decide) rfl) (rC_12 (by first | assumption | decide)) ?_
  refine r_aload1 hX dX0_become_135 (q := 136) rfl ?_
  refine r_getR hX dX0_become_136 (q := 139) rfl fX0_62 (ch_lay (j := 0) hj (by decide) rfl) (rC_13 (by first | assumption | decide)) ?_
  refine r_iconst hX dX0_become_139 (q := 140) rfl (v := nI 0) (by decide +kernel) ?_
  refine r_aload0 hX dX0_become_140 (q := 141) rfl ?_
  refine r_getR hX dX0_become_141 (q := 144) rfl fX0_62 (ch_lay (j := 0) hi (by decide) rfl) (rC_13 (by first | assumption | decide)) ?_
  refine r_iconst hX dX0_become_144 (q := 145) rfl (v := nI 0) (by decide +kernel) ?_
  refine r_bipush hX dX0_become_145 (q := 147) rfl (v := nI 10) (by decide +kernel) ?_
  refine r_copy hX dX0_become_147 (q := 150) rfl kX0_65 msCopy (ch_lay (j := 9) (by first | assumption | decide) (by decide) rfl) (ch_lay (j := 9) (by first | assumption | decide) (by decide) rfl) (by decide +kernel) (by decide +kernel) (by decide +kernel) (by decide +kernel) (by decide +kernel) ⟨by decide, Nat.le_of_ble_eq_true rfl⟩ ?_
  refine r_vret hX hR dX0_become_150 ?_
  -- leaf 0 at 150
  refine ⟨rfl, ?_⟩
  refine ⟨?_, ?_⟩
  · have hr : ∀ k, rix (cl (μ 0)) k < 35 := fun k => Nat.mod_lt _ (by decide)
    have z0 : (nI 0).toNatClampNeg = 0 := nI_clamp (by decide)
    have z10 : (nI 10).toNatClampNeg = 10 := nI_clamp (by decide)
    have z35 : (nI 35).toNatClampNeg = 35 := nI_clamp (by decide)
    rw [z0, z10, z35]
    clear hX hR
    obtain ⟨⟨a0, a1, a2, a3, a4, a5, a6, a7, a8⟩, hf, ht, hs, hb⟩ := hC
    rcases hij with ⟨rfl, rfl⟩ | ⟨rfl, rfl⟩ | ⟨rfl, rfl⟩ | ⟨rfl, rfl⟩ <;>
    · simp only [CR, bpG, ch] at *
      refine ⟨⟨?_, ?_, ?_, ?_, ?_, ?_, ?_, ?_, ?_⟩, fun f q => ⟨?_, ?_, ?_⟩, fun t q => ⟨?_, ?_, ?_⟩, fun k q => ?_, fun k q => ?_⟩ <;> simp [up, upc, va_cpy, *]
  · have q : ∀ {G1 : GG} {f : Nat → Int32} {x : Nat}, x < 10 → Fr i G G1 → Fr i G (upc G1 (ch i x) f) := fun hx h => h.upc hx
    have q2 : ∀ {G1 : GG} {v : Int32} {k x : Nat}, x < 10 → Fr i G G1 → Fr i G (up G1 (ch i x) k v) := fun hx h => h.up hx
    unfold bpG
    repeat' (first | exact Fr.rf | refine q (by decide) ?_ | refine q2 (by decide) ?_)

set_option maxRecDepth 100000 in
set_option maxHeartbeats 4000000 in
theorem c_X0_freeSpotsOf (l : Launch) (Γ : Gam) (G : GG) (i : Nat) (hi : i < 3) (μ : MU) (hC : CR G i μ) (x : Int32) (n : Nat) (hx : x = nI n) : Sp l yX0_freeSpotsOf cX0_freeSpotsOf 3 none 0 0 [.ref (gad Γ (ch i 0)), .int x] Γ G (pV (fun G' => CR G' i (fsM μ n 10) ∧ Fr i G G')) := by
  refine Sp_of (own := RX0) rfl (by decide +kernel) rfl (Nat.le_of_ble_eq_true rfl) (fun X hX hR => ?_)
  show WP X Γ 0 [some (.ref (gad Γ (ch i 0))), some (.int x), none] [] G
  subst hx
  refine r_iconst hX dX0_freeSpotsOf_0 (q := 1) rfl (v := nI 0) (by decide +kernel) ?_
  refine r_istore2 hX dX0_freeSpotsOf_1 (q := 2) rfl rfl ?_
  have L2 : ∀ (zn2 : Nat) (k : Nat) (G1 : GG), zn2 = 10 - k → (k ≤ 10) → (CR G1 i (fsM μ n k)) → (Fr i G G1) → WP X Γ 2 [some (.ref (gad Γ (ch i 0))), some (.int (nI n)), some (.int (nI k))] [] G1 := by
    intro zn2
    induction zn2 using Nat.strongRecOn with
    | _ zn2 ih2 =>
      intro k G1 zh2 hk hC1 hF1
      refine r_iload2 hX dX0_freeSpotsOf_2 (q := 3) rfl ?_
      refine r_bipush hX dX0_freeSpotsOf_3 (q := 5) rfl (v := nI 10) (by decide +kernel) ?_
      refine r_icmpN_ge hX dX0_freeSpotsOf_5 (q := 8) rfl (tgt := 31) (by decide) (by first | decide | omega) (by first | decide | omega) (fun h5 => ?_) (fun h5 => ?_)
      ·
        refine r_vret hX hR dX0_freeSpotsOf_31 ?_
        -- leaf 0 at 31
        refine ⟨rfl, ?_⟩
        have : k = 10 := by omega
        subst this
        exact ⟨hC1, hF1⟩
      ·
        refine r_aload0 hX dX0_freeSpotsOf_8 (q := 9) rfl ?_
        refine r_getR hX dX0_freeSpotsOf_9 (q := 12) rfl fX0_62 (ch_lay (j := 0) (by first | assumption | decide) (by decide) rfl) (rC_13 (by first | assumption | decide)) ?_
        refine r_iload2 hX dX0_freeSpotsOf_12 (q := 13) rfl ?_
        refine r_ialdN hX dX0_freeSpotsOf_13 (q := 14) rfl (ch_lay (j := 9) (by first | assumption | decide) (by decide) rfl) (by repeat' (first | assumption | with_reducible exact rfl | refine e_add ?_ ?_ | refine e_mul ?_ ?_)) (by first | assumption | omega) (by first | decide | omega) ?_
        refine r_iload1 hX dX0_freeSpotsOf_14 (q := 15) rfl ?_
        first | refine r_icmpN_ne hX dX0_freeSpotsOf_15 (q := 18) rfl (tgt := 25) (by decide) (by first | decide | omega) (by first | decide | omega) (fun h15 => ?_) (fun h15 => ?_) | refine r_icmp_ne hX dX0_freeSpotsOf_15 (q := 18) rfl (tgt := 25) (by decide) (fun h15 => ?_) (fun h15 => ?_)
        ·
          refine r_iincN2 hX dX0_freeSpotsOf_25 (q := 28) rfl rfl ?_
          refine r_goto hX dX0_freeSpotsOf_28 (tgt := 2) (by decide) ?_
          refine ih2 _ ?_ (k + 1) _ rfl ?_ ?_ ?_
          ·
            omega
          ·
            omega
          ·
            have ek := (hC1.2.2.2.1 k (by omega)).trans (fsM_ne k (70 + k) (by omega))
            first
              | (have q := hC1.spo (x := k) (by omega) (-1); unfold fsM; rw [if_pos (ek.symm.trans h15)]; exact q)
              | (unfold fsM; rw [if_neg (fun z => h15 (ek.trans z))]; exact hC1)
          ·
            first | exact hF1.up (by decide) | exact hF1
        ·
          refine r_aload0 hX dX0_freeSpotsOf_18 (q := 19) rfl ?_
          refine r_getR hX dX0_freeSpotsOf_19 (q := 22) rfl fX0_62 (ch_lay (j := 0) (by first | assumption | decide) (by decide) rfl) (rC_13 (by first | assumption | decide)) ?_
          refine r_iload2 hX dX0_freeSpotsOf_22 (q := 23) rfl ?_
          refine r_iconst hX dX0_freeSpotsOf_23 (q := 24) rfl (v := (-1)) (by decide +kernel) ?_
          refine r_iastN hX dX0_freeSpotsOf_24 (q := 25) rfl (ch_lay (j := 9) (by first | assumption | decide) (by decide) rfl) (by repeat' (first | assumption | with_reducible exact rfl | refine e_add ?_ ?_ | refine e_mul ?_ ?_)) (by first | assumption | omega) (by first | decide | omega) ?_
          refine r_iincN2 hX dX0_freeSpotsOf_25 (q := 28) rfl rfl ?_
          refine r_goto hX dX0_freeSpotsOf_28 (tgt := 2) (by decide) ?_
          refine ih2 _ ?_ (k + 1) _ rfl ?_ ?_ ?_
          ·
            omega
          ·
            omega
          ·
            have ek := (hC1.2.2.2.1 k (by omega)).trans (fsM_ne k (70 + k) (by omega))
            first
              | (have q := hC1.spo (x := k) (by omega) (-1); unfold fsM; rw [if_pos (ek.symm.trans h15)]; exact q)
              | (unfold fsM; rw [if_neg (fun z => h15 (ek.trans z))]; exact hC1)
          ·
            first | exact hF1.up (by decide) | exact hF1
  refine L2 _ 0 _ rfl ?_ ?_ ?_
  ·
    exact Nat.zero_le _
  ·
    exact hC
  ·
    exact Fr.rf

set_option maxRecDepth 100000 in
set_option maxHeartbeats 4000000 in
theorem c_X5_replaced (l : Launch) (Γ : Gam) (G : GG) (c : Nat) (hc : lay c = (7, 10)) (x : Int32) (j : Nat) (hx : x = nI j) (hj : j < 10) (v : Int32) : Sp l yX5_replaced cX5_replaced 4 (some .int) 0 0 [.ref (gad Γ c), .int x, .int v] Γ G (eI (up G c j v) (G c j)) := by
  refine Sp_of (own := RX5) rfl (by decide +kernel) rfl (Nat.le_of_ble_eq_true rfl) (fun X hX hR => ?_)
  show WP X Γ 0 [some (.ref (gad Γ c)), some (.int x), some (.int v), none] [] G
  subst hx
  refine r_aload0 hX dX5_replaced_0 (q := 1) rfl ?_
  refine r_iload1 hX dX5_replaced_1 (q := 2) rfl ?_
  refine r_ialdN hX dX5_replaced_2 (q := 3) rfl hc (by repeat' (first | assumption | with_reducible exact rfl | refine e_add ?_ ?_ | refine e_mul ?_ ?_)) (by first | assumption | omega) (by first | decide | omega) ?_
  refine r_istore3 hX dX5_replaced_3 (q := 4) rfl rfl ?_
  refine r_aload0 hX dX5_replaced_4 (q := 5) rfl ?_
  refine r_iload1 hX dX5_replaced_5 (q := 6) rfl ?_
  refine r_iload2 hX dX5_replaced_6 (q := 7) rfl ?_
  refine r_iastN hX dX5_replaced_7 (q := 8) rfl hc (by repeat' (first | assumption | with_reducible exact rfl | refine e_add ?_ ?_ | refine e_mul ?_ ?_)) (by first | assumption | omega) (by first | decide | omega) ?_
  refine r_iload3 hX dX5_replaced_8 (q := 9) rfl ?_
  refine r_iret hX hR dX5_replaced_9 ?_
  -- leaf 0 at 9
  refine ⟨congrArg (fun z => some (Value.int z)) ?_, ?_⟩
  ·
    rfl
  · rfl

set_option maxRecDepth 100000 in
set_option maxHeartbeats 4000000 in
theorem c_X5_isTaste (l : Launch) (Γ : Gam) (G : GG) (μ : MU) (b : Nat) (hC : CR G 0 μ) (hV : Inv b μ) (v : Int32) : Sp l yX5_isTaste cX5_isTaste 2 (some .boolean) 1 22 [.ref (gad Γ 30), .int v] Γ G (eB G (tsB μ v)) := by
  refine Sp_of (own := RX5) rfl (by decide +kernel) rfl (Nat.le_of_ble_eq_true rfl) (fun X hX hR => ?_)
  show WP X Γ 0 [some (.ref (gad Γ 30)), some (.int v)] [] G
  refine r_iload1 hX dX5_isTaste_0 (q := 1) rfl ?_
  refine r_iconst hX dX5_isTaste_1 (q := 2) rfl (v := nI 0) (by decide +kernel) ?_
  refine r_aload0 hX dX5_isTaste_2 (q := 3) rfl ?_
  refine r_getR hX dX5_isTaste_3 (q := 6) (c' := ch 0 0) rfl fX5_12 rfl ⟨by decide, by decide, rfl⟩ ?_
  refine r_getR hX dX5_isTaste_6 (q := 9) rfl fX5_49 (ch_lay (j := 0) (by first | assumption | decide) (by decide) rfl) (rC_9 (by first | assumption | decide)) ?_
  refine r_getI hX dX5_isTaste_9 (q := 12) rfl fX5_53 (ch_lay (j := 4) (by first | assumption | decide) (by decide) rfl) (rP_3 (by first | assumption | decide)) ?_
  refine r_iconst hX dX5_isTaste_12 (q := 13) rfl (v := nI 1) (by decide +kernel) ?_
  refine r_isub hX dX5_isTaste_13 (q := 14) rfl ?_
  refine r_callS hX dX5_isTaste_14 (q := 17) rfl (c_X5_within _ Γ _ _ _ _) kX5_45 mlX5_within msX5_within rfl rfl ⟨by decide, by decide⟩ (Nat.le_of_ble_eq_true rfl) (keB ?_)
  refine r_zret hX hR dX5_isTaste_17 ?_
  -- leaf 0 at 17
  refine ⟨congrArg (fun z => some (Value.int (bi z))) ?_, ?_⟩
  ·
    have es : G (ch 0 4) 3 = μ 8 := hC.1.2.2.2.2.2.2.2.2
    rw [es]; rfl
  · rfl

set_option maxRecDepth 100000 in
set_option maxHeartbeats 4000000 in
theorem c_X5_isPastLast (l : Launch) (Γ : Gam) (G : GG) (μ : MU) (b : Nat) (hC : CR G 0 μ) (hV : Inv b μ) (n : Int32) : Sp l yX5_isPastLast cX5_isPastLast 2 (some .boolean) 0 0 [.ref (gad Γ 30), .int n] Γ G (eB G (decide (nI 99999 - n < μ 0))) := by
  refine Sp_of (own := RX5) rfl (by decide +kernel) rfl (Nat.le_of_ble_eq_true rfl) (fun X hX hR => ?_)
  show WP X Γ 0 [some (.ref (gad Γ 30)), some (.int n)] [] G
  refine r_aload0 hX dX5_isPastLast_0 (q := 1) rfl ?_
  refine r_getR hX dX5_isPastLast_1 (q := 4) (c' := ch 0 0) rfl fX5_12 rfl ⟨by decide, by decide, rfl⟩ ?_
  refine r_getI hX dX5_isPastLast_4 (q := 7) rfl fX5_59 (ch_lay (j := 0) (by first | assumption | decide) (by decide) rfl) (rC_10 (by first | assumption | decide)) ?_
  refine r_ldc hX dX5_isPastLast_7 (q := 9) rfl qX5_62 ?_
  refine r_iload1 hX dX5_isPastLast_9 (q := 10) rfl ?_
  refine r_isub hX dX5_isPastLast_10 (q := 11) rfl ?_
  first | refine r_icmpN_le hX dX5_isPastLast_11 (q := 14) rfl (tgt := 18) (by decide) (by first | decide | omega) (by first | decide | omega) (fun h11 => ?_) (fun h11 => ?_) | refine r_icmp_le hX dX5_isPastLast_11 (q := 14) rfl (tgt := 18) (by decide) (fun h11 => ?_) (fun h11 => ?_)
  ·
    refine r_iconst hX dX5_isPastLast_18 (q := 19) rfl (v := nI 0) (by decide +kernel) ?_
    refine r_zret0 hX hR dX5_isPastLast_19 ?_
    -- leaf 0 at 19
    refine ⟨congrArg (fun z => some (Value.int (bi z))) ?_, ?_⟩
    ·
      have es : G (ch 0 0) 10 = μ 0 := hC.1.1
      rw [es] at h11
      first | exact (decide_eq_true (Int32.not_le.mp h11)).symm | exact (decide_eq_false (Int32.not_lt.mpr h11)).symm
    · rfl
  ·
    refine r_iconst hX dX5_isPastLast_14 (q := 15) rfl (v := nI 1) (by decide +kernel) ?_
    refine r_goto hX dX5_isPastLast_15 (tgt := 19) (by decide) ?_
    refine r_zret1 hX hR dX5_isPastLast_19 ?_
    -- leaf 1 at 19
    refine ⟨congrArg (fun z => some (Value.int (bi z))) ?_, ?_⟩
    ·
      have es : G (ch 0 0) 10 = μ 0 := hC.1.1
      rw [es] at h11
      first | exact (decide_eq_true (Int32.not_le.mp h11)).symm | exact (decide_eq_false (Int32.not_lt.mpr h11)).symm
    · rfl
