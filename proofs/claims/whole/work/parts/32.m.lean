set_option maxRecDepth 100000 in
set_option maxHeartbeats 4000000 in
theorem c_X3_cut (l : Launch) (Γ : Gam) (G : GG) (T : MU) (n : Nat) (h1 : G 31 1 = nI n) (hn : n ≤ 120) (hT : ∀ j, j < n → G 32 j = T j) : Sp l yX3_cut cX3_cut 5 none 2 43 [.ref (gad Γ 31)] Γ G (pV (fun G' => ∃ c, TKR G' T n c ∧ G' 31 7 = nI 0 ∧ G' 31 1 = nI n ∧ ∀ c, (c < 31 ∨ c = 32 ∨ 37 ≤ c) → G' c = G c)) := by
  refine Sp_of (own := RX3) rfl (by decide +kernel) rfl (Nat.le_of_ble_eq_true rfl) (fun X hX hR => ?_)
  show WP X Γ 0 [some (.ref (gad Γ 31)), none, none, none, none] [] G
  refine r_aload0 hX dX3_cut_0 (q := 1) rfl ?_
  refine r_iconst hX dX3_cut_1 (q := 2) rfl (v := nI 0) (by decide +kernel) ?_
  refine r_put hX dX3_cut_2 (q := 5) rfl fX3_31 wX3_6 rfl rfl rfl ⟨by decide, by decide, rfl⟩ ?_
  refine r_aload0 hX dX3_cut_5 (q := 6) rfl ?_
  refine r_iconst hX dX3_cut_6 (q := 7) rfl (v := nI 0) (by decide +kernel) ?_
  refine r_put hX dX3_cut_7 (q := 10) rfl fX3_34 wX3_7 rfl rfl rfl ⟨by decide, by decide, rfl⟩ ?_
  refine r_iconst hX dX3_cut_10 (q := 11) rfl (v := nI 0) (by decide +kernel) ?_
  refine r_istore1 hX dX3_cut_11 (q := 12) rfl rfl ?_
  refine r_iconst hX dX3_cut_12 (q := 13) rfl (v := nI 0) (by decide +kernel) ?_
  refine r_istore2 hX dX3_cut_13 (q := 14) rfl rfl ?_
  have L14 : ∀ (zn14 : Nat) (i la : Nat) (G1 : GG), zn14 = n - i → (∃ t, CI G1 T n i t la) → (i ≤ n) → (la ≤ 4) → (G1 31 7 = nI 0) → (∀ c, (c < 31 ∨ c = 32 ∨ 37 ≤ c) → G1 c = G c) → WP X Γ 14 [some (.ref (gad Γ 31)), some (.int (nI la)), some (.int (nI i)), none, none] [] G1 := by
    intro zn14
    induction zn14 using Nat.strongRecOn with
    | _ zn14 ih14 =>
      intro i la G1 zh14 hC hi hla h7 hF
      obtain ⟨t, hC⟩ := hC
      have hti := hC.1.2.1
      refine r_iload2 hX dX3_cut_14 (q := 15) rfl ?_
      refine r_aload0 hX dX3_cut_15 (q := 16) rfl ?_
      refine r_getI hX dX3_cut_16 (q := 19) rfl fX3_15 rfl ⟨by decide, by decide, rfl⟩ ?_
      rw [hC.1.2.2.1]
      first | refine r_icmpN_ge hX dX3_cut_19 (q := 22) rfl (tgt := 86) (by decide) (by first | omega | decide) (by first | omega | decide) (fun h19 => ?_) (fun h19 => ?_) | refine r_icmp_ge hX dX3_cut_19 (q := 22) rfl (tgt := 86) (by decide) (fun h19 => ?_) (fun h19 => ?_)
      ·
        refine r_aload0 hX dX3_cut_86 (q := 87) rfl ?_
        refine r_iconst hX dX3_cut_87 (q := 88) rfl (v := nI 5) (by decide +kernel) ?_
        refine r_aload0 hX dX3_cut_88 (q := 89) rfl ?_
        refine r_getI hX dX3_cut_89 (q := 92) rfl fX3_15 rfl ⟨by decide, by decide, rfl⟩ ?_
        rw [hC.1.2.2.1]
        refine r_callV hX dX3_cut_92 (q := 95) rfl (c_X3_begin _ Γ _ _ _ t hC.1.1 (by omega)) kX3_41 mlX3_begin mvX3_begin rfl rfl rfl ⟨by decide, rfl⟩ ⟨by decide, by decide⟩ (Nat.le_of_ble_eq_true rfl) (keV ?_)
        refine r_vret hX hR dX3_cut_95 ?_
        -- leaf 0 at 95
        refine ⟨rfl, ?_⟩
        have e : i = n := by omega
        subst e
        exact ⟨t, hC.fin, (be_7 (by decide)).trans h7, (be_7 (by decide)).trans hC.1.2.2.1, fun c hc => (be_F hc).trans (hF c hc)⟩
      ·
        refine r_aload0 hX dX3_cut_22 (q := 23) rfl ?_
        refine r_getR hX dX3_cut_23 (q := 26) rfl fX3_9 rfl ⟨by decide, by decide, rfl⟩ ?_
        refine r_iload2 hX dX3_cut_26 (q := 27) rfl ?_
        refine r_ialdN hX dX3_cut_27 (q := 28) rfl rfl (by repeat' (first | assumption | with_reducible exact rfl | refine e_add ?_ ?_ | refine e_mul ?_ ?_)) (by first | assumption | omega) (by first | decide | omega) ?_
        refine r_callS hX dX3_cut_28 (q := 31) rfl (c_X3_kindOf _ Γ _ _) kX3_37 mlX3_kindOf msX3_kindOf rfl rfl ⟨by decide, by decide⟩ (Nat.le_of_ble_eq_true rfl) (keI ?_)
        rw [hC.1.2.2.2.2 i h19]
        have hk4 := kb_le (T i)
        refine r_istore3 hX dX3_cut_31 (q := 32) rfl rfl ?_
        refine r_iload3 hX dX3_cut_32 (q := 33) rfl ?_
        refine r_iload1 hX dX3_cut_33 (q := 34) rfl ?_
        first | refine r_icmpN_ne hX dX3_cut_34 (q := 37) rfl (tgt := 51) (by decide) (by first | omega | decide) (by first | omega | decide) (fun h34 => ?_) (fun h34 => ?_) | refine r_icmp_ne hX dX3_cut_34 (q := 37) rfl (tgt := 51) (by decide) (fun h34 => ?_) (fun h34 => ?_)
        ·
          refine r_iconst hX dX3_cut_51 (q := 52) rfl (v := nI 0) (by decide +kernel) ?_
          refine r_istore4 hX dX3_cut_52 (q := 54) rfl rfl ?_
          refine r_iload4 hX dX3_cut_54 (q := 56) rfl ?_
          refine r_if_ne hX dX3_cut_56 (q := 59) rfl (tgt := 69) (by decide) (fun h => absurd h (by decide +kernel)) (fun _ => ?_)
          refine r_iload3 hX dX3_cut_59 (q := 60) rfl ?_
          refine r_if_eq hX dX3_cut_60 (q := 63) rfl (tgt := 69) (by decide) (fun h60 => ?_) (fun h60 => ?_)
          ·
            have hk0 := (nI_0k hk4).mp h60
            obtain ⟨tt, rfl⟩ : ∃ tt, tt = t := ⟨t, rfl⟩
            refine r_iload3 hX dX3_cut_69 (q := 70) rfl ?_
            refine r_if_eq hX dX3_cut_70 (q := 73) rfl (tgt := 78) (by decide) (fun h70 => ?_) (fun h70 => ?_)
            ·
              have hk0 := (nI_0k hk4).mp h70
              refine r_iload3 hX dX3_cut_78 (q := 79) rfl ?_
              refine r_istore1 hX dX3_cut_79 (q := 80) rfl rfl ?_
              refine r_iincN2 hX dX3_cut_80 (q := 83) rfl rfl ?_
              refine r_goto hX dX3_cut_83 (tgt := 14) (by decide) ?_
              refine r_drop3 ?_
              refine r_drop4 ?_
              refine ih14 _ ?_ (i + 1) (kb (T i)) _ rfl ?_ ?_ ?_ ?_ ?_
              ·
                omega
              ·
                first
                  | exact absurd hk0 (by first | assumption | omega)
                  | (rw [hk0]; exact ⟨_, hC.bl h19 hk0⟩)
                  | (subst hq; exact ⟨_, hC.on h19 rfl (by omega)⟩)
                  | exact ⟨_, hC.nw h19 hk1 (by omega)⟩
              ·
                omega
              ·
                exact hk4
              ·
                first
                  | exact absurd hk0 (by assumption)
                  | exact h7
                  | exact (congrFun (le_F (by decide) (by decide)) 7).trans h7
                  | exact (congrFun (le_F (by decide) (by decide)) 7).trans ((be_7 (by decide)).trans h7)
              ·
                first
                  | exact absurd hk0 (by assumption)
                  | exact hF
                  | exact fun c hc => (le_F (by omega) (by omega)).trans (hF c hc)
                  | exact fun c hc => (le_F (by omega) (by omega)).trans ((be_F hc).trans (hF c hc))
            ·
              have hk1 : ¬ kb (T i) = 0 := fun q => h70 ((nI_0k hk4).mpr q)
              refine r_aload0 hX dX3_cut_73 (q := 74) rfl ?_
              refine r_iload2 hX dX3_cut_74 (q := 75) rfl ?_
              refine r_callV hX dX3_cut_75 (q := 78) rfl (c_X3_lengthen _ Γ _ _ i rfl (by omega) tt (by first | exact (be_at _ _ _ _).2.2.2.2.1 | exact hC.1.1 | exact absurd hk0 hk1) (by omega)) kX3_45 mlX3_lengthen mvX3_lengthen rfl rfl rfl ⟨by decide, rfl⟩ ⟨by decide, by decide⟩ (Nat.le_of_ble_eq_true rfl) (keV ?_)
              refine r_iload3 hX dX3_cut_78 (q := 79) rfl ?_
              refine r_istore1 hX dX3_cut_79 (q := 80) rfl rfl ?_
              refine r_iincN2 hX dX3_cut_80 (q := 83) rfl rfl ?_
              refine r_goto hX dX3_cut_83 (tgt := 14) (by decide) ?_
              refine r_drop3 ?_
              refine r_drop4 ?_
              refine ih14 _ ?_ (i + 1) (kb (T i)) _ rfl ?_ ?_ ?_ ?_ ?_
              ·
                omega
              ·
                first
                  | exact absurd hk0 (by first | assumption | omega)
                  | (rw [hk0]; exact ⟨_, hC.bl h19 hk0⟩)
                  | (subst hq; exact ⟨_, hC.on h19 rfl (by omega)⟩)
                  | exact ⟨_, hC.nw h19 hk1 (by omega)⟩
              ·
                omega
              ·
                exact hk4
              ·
                first
                  | exact absurd hk0 (by assumption)
                  | exact h7
                  | exact (congrFun (le_F (by decide) (by decide)) 7).trans h7
                  | exact (congrFun (le_F (by decide) (by decide)) 7).trans ((be_7 (by decide)).trans h7)
              ·
                first
                  | exact absurd hk0 (by assumption)
                  | exact hF
                  | exact fun c hc => (le_F (by omega) (by omega)).trans (hF c hc)
                  | exact fun c hc => (le_F (by omega) (by omega)).trans ((be_F hc).trans (hF c hc))
          ·
            have hk1 : ¬ kb (T i) = 0 := fun q => h60 ((nI_0k hk4).mpr q)
            obtain ⟨tt, rfl⟩ : ∃ tt, tt = t := ⟨t, rfl⟩
            refine r_aload0 hX dX3_cut_63 (q := 64) rfl ?_
            refine r_iload3 hX dX3_cut_64 (q := 65) rfl ?_
            refine r_iload2 hX dX3_cut_65 (q := 66) rfl ?_
            refine r_callV hX dX3_cut_66 (q := 69) rfl (c_X3_begin _ Γ _ _ _ tt hC.1.1 (by omega)) kX3_41 mlX3_begin mvX3_begin rfl rfl rfl ⟨by decide, rfl⟩ ⟨by decide, by decide⟩ (Nat.le_of_ble_eq_true rfl) (keV ?_)
            refine r_iload3 hX dX3_cut_69 (q := 70) rfl ?_
            refine r_if_eq hX dX3_cut_70 (q := 73) rfl (tgt := 78) (by decide) (fun h70 => ?_) (fun h70 => ?_)
            ·
              have hk0 := (nI_0k hk4).mp h70
              refine r_iload3 hX dX3_cut_78 (q := 79) rfl ?_
              refine r_istore1 hX dX3_cut_79 (q := 80) rfl rfl ?_
              refine r_iincN2 hX dX3_cut_80 (q := 83) rfl rfl ?_
              refine r_goto hX dX3_cut_83 (tgt := 14) (by decide) ?_
              refine r_drop3 ?_
              refine r_drop4 ?_
              refine ih14 _ ?_ (i + 1) (kb (T i)) _ rfl ?_ ?_ ?_ ?_ ?_
              ·
                omega
              ·
                first
                  | exact absurd hk0 (by first | assumption | omega)
                  | (rw [hk0]; exact ⟨_, hC.bl h19 hk0⟩)
                  | (subst hq; exact ⟨_, hC.on h19 rfl (by omega)⟩)
                  | exact ⟨_, hC.nw h19 hk1 (by omega)⟩
              ·
                omega
              ·
                exact hk4
              ·
                first
                  | exact absurd hk0 (by assumption)
                  | exact h7
                  | exact (congrFun (le_F (by decide) (by decide)) 7).trans h7
                  | exact (congrFun (le_F (by decide) (by decide)) 7).trans ((be_7 (by decide)).trans h7)
              ·
                first
                  | exact absurd hk0 (by assumption)
                  | exact hF
                  | exact fun c hc => (le_F (by omega) (by omega)).trans (hF c hc)
                  | exact fun c hc => (le_F (by omega) (by omega)).trans ((be_F hc).trans (hF c hc))
            ·
              have hk1 : ¬ kb (T i) = 0 := fun q => h70 ((nI_0k hk4).mpr q)
              refine r_aload0 hX dX3_cut_73 (q := 74) rfl ?_
              refine r_iload2 hX dX3_cut_74 (q := 75) rfl ?_
              refine r_callV hX dX3_cut_75 (q := 78) rfl (c_X3_lengthen _ Γ _ _ i rfl (by omega) tt (by first | exact (be_at _ _ _ _).2.2.2.2.1 | exact hC.1.1 | exact absurd hk0 hk1) (by omega)) kX3_45 mlX3_lengthen mvX3_lengthen rfl rfl rfl ⟨by decide, rfl⟩ ⟨by decide, by decide⟩ (Nat.le_of_ble_eq_true rfl) (keV ?_)
              refine r_iload3 hX dX3_cut_78 (q := 79) rfl ?_
              refine r_istore1 hX dX3_cut_79 (q := 80) rfl rfl ?_
              refine r_iincN2 hX dX3_cut_80 (q := 83) rfl rfl ?_
              refine r_goto hX dX3_cut_83 (tgt := 14) (by decide) ?_
              refine r_drop3 ?_
              refine r_drop4 ?_
              refine ih14 _ ?_ (i + 1) (kb (T i)) _ rfl ?_ ?_ ?_ ?_ ?_
              ·
                omega
              ·
                first
                  | exact absurd hk0 (by first | assumption | omega)
                  | (rw [hk0]; exact ⟨_, hC.bl h19 hk0⟩)
                  | (subst hq; exact ⟨_, hC.on h19 rfl (by omega)⟩)
                  | exact ⟨_, hC.nw h19 hk1 (by omega)⟩
              ·
                omega
              ·
                exact hk4
              ·
                first
                  | exact absurd hk0 (by assumption)
                  | exact h7
                  | exact (congrFun (le_F (by decide) (by decide)) 7).trans h7
                  | exact (congrFun (le_F (by decide) (by decide)) 7).trans ((be_7 (by decide)).trans h7)
              ·
                first
                  | exact absurd hk0 (by assumption)
                  | exact hF
                  | exact fun c hc => (le_F (by omega) (by omega)).trans (hF c hc)
                  | exact fun c hc => (le_F (by omega) (by omega)).trans ((be_F hc).trans (hF c hc))
        ·
          refine r_iload3 hX dX3_cut_37 (q := 38) rfl ?_
          refine r_iconst hX dX3_cut_38 (q := 39) rfl (v := nI 1) (by decide +kernel) ?_
          first | refine r_icmpN_eq hX dX3_cut_39 (q := 42) rfl (tgt := 47) (by decide) (by first | omega | decide) (by first | omega | decide) (fun h39 => ?_) (fun h39 => ?_) | refine r_icmp_eq hX dX3_cut_39 (q := 42) rfl (tgt := 47) (by decide) (fun h39 => ?_) (fun h39 => ?_)
          ·
            have hq : kb (T i) = la := by omega
            obtain ⟨tt, rfl, -⟩ := hC.2.2.1 (Or.inl (by omega))
            refine r_iconst hX dX3_cut_47 (q := 48) rfl (v := nI 1) (by decide +kernel) ?_
            refine r_goto hX dX3_cut_48 (tgt := 52) (by decide) ?_
            refine r_istore4 hX dX3_cut_52 (q := 54) rfl rfl ?_
            refine r_iload4 hX dX3_cut_54 (q := 56) rfl ?_
            refine r_if_ne hX dX3_cut_56 (q := 59) rfl (tgt := 69) (by decide) (fun _ => ?_) (fun h => absurd h (by decide +kernel))
            refine r_iload3 hX dX3_cut_69 (q := 70) rfl ?_
            refine r_if_eq hX dX3_cut_70 (q := 73) rfl (tgt := 78) (by decide) (fun h70 => ?_) (fun h70 => ?_)
            ·
              have hk0 := (nI_0k hk4).mp h70
              refine r_iload3 hX dX3_cut_78 (q := 79) rfl ?_
              refine r_istore1 hX dX3_cut_79 (q := 80) rfl rfl ?_
              refine r_iincN2 hX dX3_cut_80 (q := 83) rfl rfl ?_
              refine r_goto hX dX3_cut_83 (tgt := 14) (by decide) ?_
              refine r_drop3 ?_
              refine r_drop4 ?_
              refine ih14 _ ?_ (i + 1) (kb (T i)) _ rfl ?_ ?_ ?_ ?_ ?_
              ·
                omega
              ·
                first
                  | exact absurd hk0 (by first | assumption | omega)
                  | (rw [hk0]; exact ⟨_, hC.bl h19 hk0⟩)
                  | (subst hq; exact ⟨_, hC.on h19 rfl (by omega)⟩)
                  | exact ⟨_, hC.nw h19 hk1 (by omega)⟩
              ·
                omega
              ·
                exact hk4
              ·
                first
                  | exact absurd hk0 (by assumption)
                  | exact h7
                  | exact (congrFun (le_F (by decide) (by decide)) 7).trans h7
                  | exact (congrFun (le_F (by decide) (by decide)) 7).trans ((be_7 (by decide)).trans h7)
              ·
                first
                  | exact absurd hk0 (by assumption)
                  | exact hF
                  | exact fun c hc => (le_F (by omega) (by omega)).trans (hF c hc)
                  | exact fun c hc => (le_F (by omega) (by omega)).trans ((be_F hc).trans (hF c hc))
            ·
              have hk1 : ¬ kb (T i) = 0 := fun q => h70 ((nI_0k hk4).mpr q)
              refine r_aload0 hX dX3_cut_73 (q := 74) rfl ?_
              refine r_iload2 hX dX3_cut_74 (q := 75) rfl ?_
              refine r_callV hX dX3_cut_75 (q := 78) rfl (c_X3_lengthen _ Γ _ _ i rfl (by omega) tt (by first | exact (be_at _ _ _ _).2.2.2.2.1 | exact hC.1.1 | exact absurd hk0 hk1) (by omega)) kX3_45 mlX3_lengthen mvX3_lengthen rfl rfl rfl ⟨by decide, rfl⟩ ⟨by decide, by decide⟩ (Nat.le_of_ble_eq_true rfl) (keV ?_)
              refine r_iload3 hX dX3_cut_78 (q := 79) rfl ?_
              refine r_istore1 hX dX3_cut_79 (q := 80) rfl rfl ?_
              refine r_iincN2 hX dX3_cut_80 (q := 83) rfl rfl ?_
              refine r_goto hX dX3_cut_83 (tgt := 14) (by decide) ?_
              refine r_drop3 ?_
              refine r_drop4 ?_
              refine ih14 _ ?_ (i + 1) (kb (T i)) _ rfl ?_ ?_ ?_ ?_ ?_
              ·
                omega
              ·
                first
                  | exact absurd hk0 (by first | assumption | omega)
                  | (rw [hk0]; exact ⟨_, hC.bl h19 hk0⟩)
                  | (subst hq; exact ⟨_, hC.on h19 rfl (by omega)⟩)
                  | exact ⟨_, hC.nw h19 hk1 (by omega)⟩
              ·
                omega
              ·
                exact hk4
              ·
                first
                  | exact absurd hk0 (by assumption)
                  | exact h7
                  | exact (congrFun (le_F (by decide) (by decide)) 7).trans h7
                  | exact (congrFun (le_F (by decide) (by decide)) 7).trans ((be_7 (by decide)).trans h7)
              ·
                first
                  | exact absurd hk0 (by assumption)
                  | exact hF
                  | exact fun c hc => (le_F (by omega) (by omega)).trans (hF c hc)
                  | exact fun c hc => (le_F (by omega) (by omega)).trans ((be_F hc).trans (hF c hc))
          ·
            refine r_iload3 hX dX3_cut_42 (q := 43) rfl ?_
            refine r_iconst hX dX3_cut_43 (q := 44) rfl (v := nI 2) (by decide +kernel) ?_
            first | refine r_icmpN_ne hX dX3_cut_44 (q := 47) rfl (tgt := 51) (by decide) (by first | omega | decide) (by first | omega | decide) (fun h44 => ?_) (fun h44 => ?_) | refine r_icmp_ne hX dX3_cut_44 (q := 47) rfl (tgt := 51) (by decide) (fun h44 => ?_) (fun h44 => ?_)
            ·
              refine r_iconst hX dX3_cut_51 (q := 52) rfl (v := nI 0) (by decide +kernel) ?_
              refine r_istore4 hX dX3_cut_52 (q := 54) rfl rfl ?_
              refine r_iload4 hX dX3_cut_54 (q := 56) rfl ?_
              refine r_if_ne hX dX3_cut_56 (q := 59) rfl (tgt := 69) (by decide) (fun h => absurd h (by decide +kernel)) (fun _ => ?_)
              refine r_iload3 hX dX3_cut_59 (q := 60) rfl ?_
              refine r_if_eq hX dX3_cut_60 (q := 63) rfl (tgt := 69) (by decide) (fun h60 => ?_) (fun h60 => ?_)
              ·
                have hk0 := (nI_0k hk4).mp h60
                obtain ⟨tt, rfl⟩ : ∃ tt, tt = t := ⟨t, rfl⟩
                refine r_iload3 hX dX3_cut_69 (q := 70) rfl ?_
                refine r_if_eq hX dX3_cut_70 (q := 73) rfl (tgt := 78) (by decide) (fun h70 => ?_) (fun h70 => ?_)
                ·
                  have hk0 := (nI_0k hk4).mp h70
                  refine r_iload3 hX dX3_cut_78 (q := 79) rfl ?_
                  refine r_istore1 hX dX3_cut_79 (q := 80) rfl rfl ?_
                  refine r_iincN2 hX dX3_cut_80 (q := 83) rfl rfl ?_
                  refine r_goto hX dX3_cut_83 (tgt := 14) (by decide) ?_
                  refine r_drop3 ?_
                  refine r_drop4 ?_
                  refine ih14 _ ?_ (i + 1) (kb (T i)) _ rfl ?_ ?_ ?_ ?_ ?_
                  ·
                    omega
                  ·
                    first
                      | exact absurd hk0 (by first | assumption | omega)
                      | (rw [hk0]; exact ⟨_, hC.bl h19 hk0⟩)
                      | (subst hq; exact ⟨_, hC.on h19 rfl (by omega)⟩)
                      | exact ⟨_, hC.nw h19 hk1 (by omega)⟩
                  ·
                    omega
                  ·
                    exact hk4
                  ·
                    first
                      | exact absurd hk0 (by assumption)
                      | exact h7
                      | exact (congrFun (le_F (by decide) (by decide)) 7).trans h7
                      | exact (congrFun (le_F (by decide) (by decide)) 7).trans ((be_7 (by decide)).trans h7)
                  ·
                    first
                      | exact absurd hk0 (by assumption)
                      | exact hF
                      | exact fun c hc => (le_F (by omega) (by omega)).trans (hF c hc)
                      | exact fun c hc => (le_F (by omega) (by omega)).trans ((be_F hc).trans (hF c hc))
                ·
                  have hk1 : ¬ kb (T i) = 0 := fun q => h70 ((nI_0k hk4).mpr q)
                  refine r_aload0 hX dX3_cut_73 (q := 74) rfl ?_
                  refine r_iload2 hX dX3_cut_74 (q := 75) rfl ?_
                  refine r_callV hX dX3_cut_75 (q := 78) rfl (c_X3_lengthen _ Γ _ _ i rfl (by omega) tt (by first | exact (be_at _ _ _ _).2.2.2.2.1 | exact hC.1.1 | exact absurd hk0 hk1) (by omega)) kX3_45 mlX3_lengthen mvX3_lengthen rfl rfl rfl ⟨by decide, rfl⟩ ⟨by decide, by decide⟩ (Nat.le_of_ble_eq_true rfl) (keV ?_)
                  refine r_iload3 hX dX3_cut_78 (q := 79) rfl ?_
                  refine r_istore1 hX dX3_cut_79 (q := 80) rfl rfl ?_
                  refine r_iincN2 hX dX3_cut_80 (q := 83) rfl rfl ?_
                  refine r_goto hX dX3_cut_83 (tgt := 14) (by decide) ?_
                  refine r_drop3 ?_
                  refine r_drop4 ?_
                  refine ih14 _ ?_ (i + 1) (kb (T i)) _ rfl ?_ ?_ ?_ ?_ ?_
                  ·
                    omega
                  ·
                    first
                      | exact absurd hk0 (by first | assumption | omega)
                      | (rw [hk0]; exact ⟨_, hC.bl h19 hk0⟩)
                      | (subst hq; exact ⟨_, hC.on h19 rfl (by omega)⟩)
                      | exact ⟨_, hC.nw h19 hk1 (by omega)⟩
                  ·
                    omega
                  ·
                    exact hk4
                  ·
                    first
                      | exact absurd hk0 (by assumption)
                      | exact h7
                      | exact (congrFun (le_F (by decide) (by decide)) 7).trans h7
                      | exact (congrFun (le_F (by decide) (by decide)) 7).trans ((be_7 (by decide)).trans h7)
                  ·
                    first
                      | exact absurd hk0 (by assumption)
                      | exact hF
                      | exact fun c hc => (le_F (by omega) (by omega)).trans (hF c hc)
                      | exact fun c hc => (le_F (by omega) (by omega)).trans ((be_F hc).trans (hF c hc))
              ·
                have hk1 : ¬ kb (T i) = 0 := fun q => h60 ((nI_0k hk4).mpr q)
                obtain ⟨tt, rfl⟩ : ∃ tt, tt = t := ⟨t, rfl⟩
                refine r_aload0 hX dX3_cut_63 (q := 64) rfl ?_
                refine r_iload3 hX dX3_cut_64 (q := 65) rfl ?_
                refine r_iload2 hX dX3_cut_65 (q := 66) rfl ?_
                refine r_callV hX dX3_cut_66 (q := 69) rfl (c_X3_begin _ Γ _ _ _ tt hC.1.1 (by omega)) kX3_41 mlX3_begin mvX3_begin rfl rfl rfl ⟨by decide, rfl⟩ ⟨by decide, by decide⟩ (Nat.le_of_ble_eq_true rfl) (keV ?_)
                refine r_iload3 hX dX3_cut_69 (q := 70) rfl ?_
                refine r_if_eq hX dX3_cut_70 (q := 73) rfl (tgt := 78) (by decide) (fun h70 => ?_) (fun h70 => ?_)
                ·
                  have hk0 := (nI_0k hk4).mp h70
                  refine r_iload3 hX dX3_cut_78 (q := 79) rfl ?_
                  refine r_istore1 hX dX3_cut_79 (q := 80) rfl rfl ?_
                  refine r_iincN2 hX dX3_cut_80 (q := 83) rfl rfl ?_
                  refine r_goto hX dX3_cut_83 (tgt := 14) (by decide) ?_
                  refine r_drop3 ?_
                  refine r_drop4 ?_
                  refine ih14 _ ?_ (i + 1) (kb (T i)) _ rfl ?_ ?_ ?_ ?_ ?_
                  ·
                    omega
                  ·
                    first
                      | exact absurd hk0 (by first | assumption | omega)
                      | (rw [hk0]; exact ⟨_, hC.bl h19 hk0⟩)
                      | (subst hq; exact ⟨_, hC.on h19 rfl (by omega)⟩)
                      | exact ⟨_, hC.nw h19 hk1 (by omega)⟩
                  ·
                    omega
                  ·
                    exact hk4
                  ·
                    first
                      | exact absurd hk0 (by assumption)
                      | exact h7
                      | exact (congrFun (le_F (by decide) (by decide)) 7).trans h7
                      | exact (congrFun (le_F (by decide) (by decide)) 7).trans ((be_7 (by decide)).trans h7)
                  ·
                    first
                      | exact absurd hk0 (by assumption)
                      | exact hF
                      | exact fun c hc => (le_F (by omega) (by omega)).trans (hF c hc)
                      | exact fun c hc => (le_F (by omega) (by omega)).trans ((be_F hc).trans (hF c hc))
                ·
                  have hk1 : ¬ kb (T i) = 0 := fun q => h70 ((nI_0k hk4).mpr q)
                  refine r_aload0 hX dX3_cut_73 (q := 74) rfl ?_
                  refine r_iload2 hX dX3_cut_74 (q := 75) rfl ?_
                  refine r_callV hX dX3_cut_75 (q := 78) rfl (c_X3_lengthen _ Γ _ _ i rfl (by omega) tt (by first | exact (be_at _ _ _ _).2.2.2.2.1 | exact hC.1.1 | exact absurd hk0 hk1) (by omega)) kX3_45 mlX3_lengthen mvX3_lengthen rfl rfl rfl ⟨by decide, rfl⟩ ⟨by decide, by decide⟩ (Nat.le_of_ble_eq_true rfl) (keV ?_)
                  refine r_iload3 hX dX3_cut_78 (q := 79) rfl ?_
                  refine r_istore1 hX dX3_cut_79 (q := 80) rfl rfl ?_
                  refine r_iincN2 hX dX3_cut_80 (q := 83) rfl rfl ?_
                  refine r_goto hX dX3_cut_83 (tgt := 14) (by decide) ?_
                  refine r_drop3 ?_
                  refine r_drop4 ?_
                  refine ih14 _ ?_ (i + 1) (kb (T i)) _ rfl ?_ ?_ ?_ ?_ ?_
                  ·
                    omega
                  ·
                    first
                      | exact absurd hk0 (by first | assumption | omega)
                      | (rw [hk0]; exact ⟨_, hC.bl h19 hk0⟩)
                      | (subst hq; exact ⟨_, hC.on h19 rfl (by omega)⟩)
                      | exact ⟨_, hC.nw h19 hk1 (by omega)⟩
                  ·
                    omega
                  ·
                    exact hk4
                  ·
                    first
                      | exact absurd hk0 (by assumption)
                      | exact h7
                      | exact (congrFun (le_F (by decide) (by decide)) 7).trans h7
                      | exact (congrFun (le_F (by decide) (by decide)) 7).trans ((be_7 (by decide)).trans h7)
                  ·
                    first
                      | exact absurd hk0 (by assumption)
                      | exact hF
                      | exact fun c hc => (le_F (by omega) (by omega)).trans (hF c hc)
                      | exact fun c hc => (le_F (by omega) (by omega)).trans ((be_F hc).trans (hF c hc))
            ·
              have hq : kb (T i) = la := by omega
              obtain ⟨tt, rfl, -⟩ := hC.2.2.1 (Or.inr (by omega))
              refine r_iconst hX dX3_cut_47 (q := 48) rfl (v := nI 1) (by decide +kernel) ?_
              refine r_goto hX dX3_cut_48 (tgt := 52) (by decide) ?_
              refine r_istore4 hX dX3_cut_52 (q := 54) rfl rfl ?_
              refine r_iload4 hX dX3_cut_54 (q := 56) rfl ?_
              refine r_if_ne hX dX3_cut_56 (q := 59) rfl (tgt := 69) (by decide) (fun _ => ?_) (fun h => absurd h (by decide +kernel))
              refine r_iload3 hX dX3_cut_69 (q := 70) rfl ?_
              refine r_if_eq hX dX3_cut_70 (q := 73) rfl (tgt := 78) (by decide) (fun h70 => ?_) (fun h70 => ?_)
              ·
                have hk0 := (nI_0k hk4).mp h70
                refine r_iload3 hX dX3_cut_78 (q := 79) rfl ?_
                refine r_istore1 hX dX3_cut_79 (q := 80) rfl rfl ?_
                refine r_iincN2 hX dX3_cut_80 (q := 83) rfl rfl ?_
                refine r_goto hX dX3_cut_83 (tgt := 14) (by decide) ?_
                refine r_drop3 ?_
                refine r_drop4 ?_
                refine ih14 _ ?_ (i + 1) (kb (T i)) _ rfl ?_ ?_ ?_ ?_ ?_
                ·
                  omega
                ·
                  first
                    | exact absurd hk0 (by first | assumption | omega)
                    | (rw [hk0]; exact ⟨_, hC.bl h19 hk0⟩)
                    | (subst hq; exact ⟨_, hC.on h19 rfl (by omega)⟩)
                    | exact ⟨_, hC.nw h19 hk1 (by omega)⟩
                ·
                  omega
                ·
                  exact hk4
                ·
                  first
                    | exact absurd hk0 (by assumption)
                    | exact h7
                    | exact (congrFun (le_F (by decide) (by decide)) 7).trans h7
                    | exact (congrFun (le_F (by decide) (by decide)) 7).trans ((be_7 (by decide)).trans h7)
                ·
                  first
                    | exact absurd hk0 (by assumption)
                    | exact hF
                    | exact fun c hc => (le_F (by omega) (by omega)).trans (hF c hc)
                    | exact fun c hc => (le_F (by omega) (by omega)).trans ((be_F hc).trans (hF c hc))
              ·
                have hk1 : ¬ kb (T i) = 0 := fun q => h70 ((nI_0k hk4).mpr q)
                refine r_aload0 hX dX3_cut_73 (q := 74) rfl ?_
                refine r_iload2 hX dX3_cut_74 (q := 75) rfl ?_
                refine r_callV hX dX3_cut_75 (q := 78) rfl (c_X3_lengthen _ Γ _ _ i rfl (by omega) tt (by first | exact (be_at _ _ _ _).2.2.2.2.1 | exact hC.1.1 | exact absurd hk0 hk1) (by omega)) kX3_45 mlX3_lengthen mvX3_lengthen rfl rfl rfl ⟨by decide, rfl⟩ ⟨by decide, by decide⟩ (Nat.le_of_ble_eq_true rfl) (keV ?_)
                refine r_iload3 hX dX3_cut_78 (q := 79) rfl ?_
                refine r_istore1 hX dX3_cut_79 (q := 80) rfl rfl ?_
                refine r_iincN2 hX dX3_cut_80 (q := 83) rfl rfl ?_
                refine r_goto hX dX3_cut_83 (tgt := 14) (by decide) ?_
                refine r_drop3 ?_
                refine r_drop4 ?_
                refine ih14 _ ?_ (i + 1) (kb (T i)) _ rfl ?_ ?_ ?_ ?_ ?_
                ·
                  omega
                ·
                  first
                    | exact absurd hk0 (by first | assumption | omega)
                    | (rw [hk0]; exact ⟨_, hC.bl h19 hk0⟩)
                    | (subst hq; exact ⟨_, hC.on h19 rfl (by omega)⟩)
                    | exact ⟨_, hC.nw h19 hk1 (by omega)⟩
                ·
                  omega
                ·
                  exact hk4
                ·
                  first
                    | exact absurd hk0 (by assumption)
                    | exact h7
                    | exact (congrFun (le_F (by decide) (by decide)) 7).trans h7
                    | exact (congrFun (le_F (by decide) (by decide)) 7).trans ((be_7 (by decide)).trans h7)
                ·
                  first
                    | exact absurd hk0 (by assumption)
                    | exact hF
                    | exact fun c hc => (le_F (by omega) (by omega)).trans (hF c hc)
                    | exact fun c hc => (le_F (by omega) (by omega)).trans ((be_F hc).trans (hF c hc))
  refine L14 _ 0 0 _ rfl ?_ ?_ ?_ ?_ ?_
  ·
    exact ⟨0, ⟨(up_ne (by omega)).trans up_eq, Nat.le_refl _, (up_ne (by omega)).trans ((up_ne (by omega)).trans h1), hn, fun j hj => (up_ne (by omega)).trans ((up_ne (by omega)).trans (hT j hj))⟩, fun k hk => absurd hk (by omega), fun z => by omega, fun _ => ⟨fun k hk => absurd hk (by omega), rfl⟩⟩
  ·
    exact Nat.zero_le _
  ·
    exact Nat.zero_le _
  ·
    exact up_eq
  ·
    intro c hc
    funext j
    rw [up_ne (by omega), up_ne (by omega)]
