set_option maxRecDepth 100000 in
set_option maxHeartbeats 4000000 in
theorem c_X6_item (l : Launch) (Γ : Gam) (G : GG) (G0 : GG) (T : MU) (n p : Nat) (μ : MU) (hQ : RS G0 G T n p false μ) (b : Nat) (hV : Inv b μ) : Sp l yX6_item cX6_item 1 none 7 152 [.ref (gad Γ 47)] Γ G (pV (fun G' => RdM G0 G' T n (itemF T n p μ))) := by
  refine Sp_of (own := RX6) rfl (by decide +kernel) rfl (Nat.le_of_ble_eq_true rfl) (fun X hX hR => ?_)
  show WP X Γ 0 [some (.ref (gad Γ 47))] [] G
  refine r_aload0 hX dX6_item_0 (q := 1) rfl ?_
  refine r_ldcS hX dX6_item_1 (q := 3) (i := 11) (tx := "food") rfl (by decide +kernel) ?_
  refine r_callV hX dX6_item_3 (q := 6) rfl (c_X6_takes _ Γ _ G0 T n p false μ hQ 11 (by decide)) kX6_230 mlX6_takes mvX6_takes rfl rfl rfl ⟨by decide, rfl⟩ ⟨by decide, by decide⟩ (Nat.le_of_ble_eq_true rfl) (kpB (fun v3 G3 p3 => ?_))
  first | with_reducible refine r_ifd_eq hX dX6_item_6 (q := 9) rfl (tgt := 16) (by decide) (fun h6 => ?_) (fun h6 => ?_) | refine r_ifb_eq hX dX6_item_6 (q := 9) rfl (tgt := 16) (by decide) (fun h6 => ?_) (fun h6 => ?_)
  ·
    obtain ⟨-, hw0, e3⟩ := p3.resolve_left (fun q => by rw [h6] at q; exact absurd q.1 (by decide))
    have w11 : wdB T n p 11 = false := hw0.resolve_left (by decide)
    have hQa3 : RS G0 G3 T n p false μ := by rw [e3]; exact hQ
    refine r_aload0 hX dX6_item_16 (q := 17) rfl ?_
    refine r_ldcS hX dX6_item_17 (q := 19) (i := 0) (tx := "bent") rfl (by decide +kernel) ?_
    refine r_callV hX dX6_item_19 (q := 22) rfl (c_X6_takes _ Γ _ G0 T n p false μ hQa3 0 (by decide)) kX6_230 mlX6_takes mvX6_takes rfl rfl rfl ⟨by decide, rfl⟩ ⟨by decide, by decide⟩ (Nat.le_of_ble_eq_true rfl) (kpB (fun v19 G19 p19 => ?_))
    first | with_reducible refine r_ifd_eq hX dX6_item_22 (q := 25) rfl (tgt := 40) (by decide) (fun h22 => ?_) (fun h22 => ?_) | refine r_ifb_eq hX dX6_item_22 (q := 25) rfl (tgt := 40) (by decide) (fun h22 => ?_) (fun h22 => ?_)
    ·
      obtain ⟨-, hw0, e19⟩ := p19.resolve_left (fun q => by rw [h22] at q; exact absurd q.1 (by decide))
      have w0 : wdB T n p 0 = false := hw0.resolve_left (by decide)
      have hQa19 : RS G0 G19 T n p false μ := by rw [e19]; exact hQa3
      refine r_aload0 hX dX6_item_40 (q := 41) rfl ?_
      refine r_ldcS hX dX6_item_41 (q := 43) (i := 1) (tx := "hunger") rfl (by decide +kernel) ?_
      refine r_callV hX dX6_item_43 (q := 46) rfl (c_X6_takes _ Γ _ G0 T n p false μ hQa19 1 (by decide)) kX6_230 mlX6_takes mvX6_takes rfl rfl rfl ⟨by decide, rfl⟩ ⟨by decide, by decide⟩ (Nat.le_of_ble_eq_true rfl) (kpB (fun v43 G43 p43 => ?_))
      first | with_reducible refine r_ifd_eq hX dX6_item_46 (q := 49) rfl (tgt := 64) (by decide) (fun h46 => ?_) (fun h46 => ?_) | refine r_ifb_eq hX dX6_item_46 (q := 49) rfl (tgt := 64) (by decide) (fun h46 => ?_) (fun h46 => ?_)
      ·
        obtain ⟨-, hw0, e43⟩ := p43.resolve_left (fun q => by rw [h46] at q; exact absurd q.1 (by decide))
        have w1 : wdB T n p 1 = false := hw0.resolve_left (by decide)
        have hQa43 : RS G0 G43 T n p false μ := by rw [e43]; exact hQa19
        refine r_aload0 hX dX6_item_64 (q := 65) rfl ?_
        refine r_ldcS hX dX6_item_65 (q := 67) (i := 2) (tx := "weight") rfl (by decide +kernel) ?_
        refine r_callV hX dX6_item_67 (q := 70) rfl (c_X6_takes _ Γ _ G0 T n p false μ hQa43 2 (by decide)) kX6_230 mlX6_takes mvX6_takes rfl rfl rfl ⟨by decide, rfl⟩ ⟨by decide, by decide⟩ (Nat.le_of_ble_eq_true rfl) (kpB (fun v67 G67 p67 => ?_))
        first | with_reducible refine r_ifd_eq hX dX6_item_70 (q := 73) rfl (tgt := 89) (by decide) (fun h70 => ?_) (fun h70 => ?_) | refine r_ifb_eq hX dX6_item_70 (q := 73) rfl (tgt := 89) (by decide) (fun h70 => ?_) (fun h70 => ?_)
        ·
          obtain ⟨-, hw0, e67⟩ := p67.resolve_left (fun q => by rw [h70] at q; exact absurd q.1 (by decide))
          have w2 : wdB T n p 2 = false := hw0.resolve_left (by decide)
          have hQa67 : RS G0 G67 T n p false μ := by rw [e67]; exact hQa43
          refine r_aload0 hX dX6_item_89 (q := 90) rfl ?_
          refine r_ldcS hX dX6_item_90 (q := 92) (i := 3) (tx := "line") rfl (by decide +kernel) ?_
          refine r_callV hX dX6_item_92 (q := 95) rfl (c_X6_takes _ Γ _ G0 T n p false μ hQa67 3 (by decide)) kX6_230 mlX6_takes mvX6_takes rfl rfl rfl ⟨by decide, rfl⟩ ⟨by decide, by decide⟩ (Nat.le_of_ble_eq_true rfl) (kpB (fun v92 G92 p92 => ?_))
          first | with_reducible refine r_ifd_eq hX dX6_item_95 (q := 98) rfl (tgt := 113) (by decide) (fun h95 => ?_) (fun h95 => ?_) | refine r_ifb_eq hX dX6_item_95 (q := 98) rfl (tgt := 113) (by decide) (fun h95 => ?_) (fun h95 => ?_)
          ·
            obtain ⟨-, hw0, e92⟩ := p92.resolve_left (fun q => by rw [h95] at q; exact absurd q.1 (by decide))
            have w3 : wdB T n p 3 = false := hw0.resolve_left (by decide)
            have hQa92 : RS G0 G92 T n p false μ := by rw [e92]; exact hQa67
            refine r_aload0 hX dX6_item_113 (q := 114) rfl ?_
            refine r_ldcS hX dX6_item_114 (q := 116) (i := 15) (tx := "pudding") rfl (by decide +kernel) ?_
            refine r_callV hX dX6_item_116 (q := 119) rfl (c_X6_takes _ Γ _ G0 T n p false μ hQa92 15 (by decide)) kX6_230 mlX6_takes mvX6_takes rfl rfl rfl ⟨by decide, rfl⟩ ⟨by decide, by decide⟩ (Nat.le_of_ble_eq_true rfl) (kpB (fun v116 G116 p116 => ?_))
            first | with_reducible refine r_ifd_eq hX dX6_item_119 (q := 122) rfl (tgt := 138) (by decide) (fun h119 => ?_) (fun h119 => ?_) | refine r_ifb_eq hX dX6_item_119 (q := 122) rfl (tgt := 138) (by decide) (fun h119 => ?_) (fun h119 => ?_)
            ·
              obtain ⟨-, hw0, e116⟩ := p116.resolve_left (fun q => by rw [h119] at q; exact absurd q.1 (by decide))
              have w15 : wdB T n p 15 = false := hw0.resolve_left (by decide)
              have hQa116 : RS G0 G116 T n p false μ := by rw [e116]; exact hQa92
              refine r_aload0 hX dX6_item_138 (q := 139) rfl ?_
              refine r_ldcS hX dX6_item_139 (q := 141) (i := 16) (tx := "friend") rfl (by decide +kernel) ?_
              refine r_callV hX dX6_item_141 (q := 144) rfl (c_X6_takes _ Γ _ G0 T n p false μ hQa116 16 (by decide)) kX6_230 mlX6_takes mvX6_takes rfl rfl rfl ⟨by decide, rfl⟩ ⟨by decide, by decide⟩ (Nat.le_of_ble_eq_true rfl) (kpB (fun v141 G141 p141 => ?_))
              first | with_reducible refine r_ifd_eq hX dX6_item_144 (q := 147) rfl (tgt := 154) (by decide) (fun h144 => ?_) (fun h144 => ?_) | refine r_ifb_eq hX dX6_item_144 (q := 147) rfl (tgt := 154) (by decide) (fun h144 => ?_) (fun h144 => ?_)
              ·
                obtain ⟨-, hw0, e141⟩ := p141.resolve_left (fun q => by rw [h144] at q; exact absurd q.1 (by decide))
                have w16 : wdB T n p 16 = false := hw0.resolve_left (by decide)
                have hQa141 : RS G0 G141 T n p false μ := by rw [e141]; exact hQa116
                refine r_aload0 hX dX6_item_154 (q := 155) rfl ?_
                refine r_aload0 hX dX6_item_155 (q := 156) rfl ?_
                refine r_callV hX dX6_item_156 (q := 159) rfl (c_X6_kindHere _ Γ _ T n p hQa141.1 hQa141.2.1 hQa141.2.2.1) kX6_260 mlX6_kindHere mvX6_kindHere rfl rfl rfl ⟨by decide, rfl⟩ ⟨by decide, by decide⟩ (Nat.le_of_ble_eq_true rfl) (keI ?_)
                refine r_callV hX dX6_item_159 (q := 162) rfl (c_X6_tasteItem _ Γ _ G0 T n p μ hQa141 b hV _ (itemF T n p μ) (kd_item w0 w1 w2 w3 w11 w15 w16)) kX6_263 mlX6_tasteItem mvX6_tasteItem rfl rfl rfl ⟨by decide, rfl⟩ ⟨by decide, by decide⟩ (Nat.le_of_ble_eq_true rfl) (kpV (fun G159 p159 => ?_))
                refine r_vret hX hR dX6_item_162 ?_
                -- leaf 0 at 162
                refine ⟨rfl, ?_⟩
                first
                  | exact p159
                  | (rw [show itemF T n p μ = foodF T n p μ from item_at (by decide) hw]; exact p10)
                  | (rw [show itemF T n p μ = friF T n p μ from item_at (by decide) hw]; exact p148)
                  | (have hit : itemF T n p μ = partF T n p μ 0 := item_at (by decide) hw
                     have hp7 := p34
                     cases b7 with
                     | true =>
                       obtain ⟨e1, e2⟩ := ht7 rfl
                       exact RdM.no hp7 (hit.trans (by rw [e1]; exact part_n (j := 0) e2))
                     | false =>
                       obtain ⟨z, z0, z1, z2, z3, z4⟩ := hf7 rfl
                       exact RdM.ok hp7 (hit.trans (by rw [z2, z3]; exact part_s (j := 0) z4)))
                  | (have hit : itemF T n p μ = partF T n p μ 1 := item_at (by decide) hw
                     have hp7 := p58
                     cases b7 with
                     | true =>
                       obtain ⟨e1, e2⟩ := ht7 rfl
                       exact RdM.no hp7 (hit.trans (by rw [e1]; exact part_n (j := 1) e2))
                     | false =>
                       obtain ⟨z, z0, z1, z2, z3, z4⟩ := hf7 rfl
                       exact RdM.ok hp7 (hit.trans (by rw [z2, z3]; exact part_s (j := 1) z4)))
                  | (have hit : itemF T n p μ = partF T n p μ 2 := item_at (by decide) hw
                     have hp7 := p83
                     cases b7 with
                     | true =>
                       obtain ⟨e1, e2⟩ := ht7 rfl
                       exact RdM.no hp7 (hit.trans (by rw [e1]; exact part_n (j := 2) e2))
                     | false =>
                       obtain ⟨z, z0, z1, z2, z3, z4⟩ := hf7 rfl
                       exact RdM.ok hp7 (hit.trans (by rw [z2, z3]; exact part_s (j := 2) z4)))
                  | (have hit : itemF T n p μ = partF T n p μ 3 := item_at (by decide) hw
                     have hp7 := p107
                     cases b7 with
                     | true =>
                       obtain ⟨e1, e2⟩ := ht7 rfl
                       exact RdM.no hp7 (hit.trans (by rw [e1]; exact part_n (j := 3) e2))
                     | false =>
                       obtain ⟨z, z0, z1, z2, z3, z4⟩ := hf7 rfl
                       exact RdM.ok hp7 (hit.trans (by rw [z2, z3]; exact part_s (j := 3) z4)))
                  | (have hit : itemF T n p μ = pudF T n p μ := item_at (by decide) hw
                     have hp7 := p132
                     cases b7 with
                     | true =>
                       obtain ⟨e1, e2⟩ := ht7 rfl
                       exact RdM.no hp7 (hit.trans (by rw [e1]; exact pud_n e2))
                     | false =>
                       obtain ⟨z, z0, z1, z2, z3, z4⟩ := hf7 rfl
                       exact RdM.ok hp7 (hit.trans (by rw [z2, z3]; exact pud_s z4)))
              ·
                obtain ⟨-, -, hw, hQ6⟩ := p141.resolve_right (fun q => by rw [h144] at q; exact absurd q.1 (by decide))
                refine r_aload0 hX dX6_item_147 (q := 148) rfl ?_
                refine r_callV hX dX6_item_148 (q := 151) rfl (c_X6_friendItem _ Γ _ G0 T n p μ hQ6) kX6_257 mlX6_friendItem mvX6_friendItem rfl rfl rfl ⟨by decide, rfl⟩ ⟨by decide, by decide⟩ (Nat.le_of_ble_eq_true rfl) (kpV (fun G148 p148 => ?_))
                refine r_goto hX dX6_item_151 (tgt := 162) (by decide) ?_
                refine r_vret hX hR dX6_item_162 ?_
                -- leaf 1 at 162
                refine ⟨rfl, ?_⟩
                first
                  | exact p159
                  | (rw [show itemF T n p μ = foodF T n p μ from item_at (by decide) hw]; exact p10)
                  | (rw [show itemF T n p μ = friF T n p μ from item_at (by decide) hw]; exact p148)
                  | (have hit : itemF T n p μ = partF T n p μ 0 := item_at (by decide) hw
                     have hp7 := p34
                     cases b7 with
                     | true =>
                       obtain ⟨e1, e2⟩ := ht7 rfl
                       exact RdM.no hp7 (hit.trans (by rw [e1]; exact part_n (j := 0) e2))
                     | false =>
                       obtain ⟨z, z0, z1, z2, z3, z4⟩ := hf7 rfl
                       exact RdM.ok hp7 (hit.trans (by rw [z2, z3]; exact part_s (j := 0) z4)))
                  | (have hit : itemF T n p μ = partF T n p μ 1 := item_at (by decide) hw
                     have hp7 := p58
                     cases b7 with
                     | true =>
                       obtain ⟨e1, e2⟩ := ht7 rfl
                       exact RdM.no hp7 (hit.trans (by rw [e1]; exact part_n (j := 1) e2))
                     | false =>
                       obtain ⟨z, z0, z1, z2, z3, z4⟩ := hf7 rfl
                       exact RdM.ok hp7 (hit.trans (by rw [z2, z3]; exact part_s (j := 1) z4)))
                  | (have hit : itemF T n p μ = partF T n p μ 2 := item_at (by decide) hw
                     have hp7 := p83
                     cases b7 with
                     | true =>
                       obtain ⟨e1, e2⟩ := ht7 rfl
                       exact RdM.no hp7 (hit.trans (by rw [e1]; exact part_n (j := 2) e2))
                     | false =>
                       obtain ⟨z, z0, z1, z2, z3, z4⟩ := hf7 rfl
                       exact RdM.ok hp7 (hit.trans (by rw [z2, z3]; exact part_s (j := 2) z4)))
                  | (have hit : itemF T n p μ = partF T n p μ 3 := item_at (by decide) hw
                     have hp7 := p107
                     cases b7 with
                     | true =>
                       obtain ⟨e1, e2⟩ := ht7 rfl
                       exact RdM.no hp7 (hit.trans (by rw [e1]; exact part_n (j := 3) e2))
                     | false =>
                       obtain ⟨z, z0, z1, z2, z3, z4⟩ := hf7 rfl
                       exact RdM.ok hp7 (hit.trans (by rw [z2, z3]; exact part_s (j := 3) z4)))
                  | (have hit : itemF T n p μ = pudF T n p μ := item_at (by decide) hw
                     have hp7 := p132
                     cases b7 with
                     | true =>
                       obtain ⟨e1, e2⟩ := ht7 rfl
                       exact RdM.no hp7 (hit.trans (by rw [e1]; exact pud_n e2))
                     | false =>
                       obtain ⟨z, z0, z1, z2, z3, z4⟩ := hf7 rfl
                       exact RdM.ok hp7 (hit.trans (by rw [z2, z3]; exact pud_s z4)))
            ·
              obtain ⟨-, -, hw, hQ6⟩ := p116.resolve_right (fun q => by rw [h119] at q; exact absurd q.1 (by decide))
              refine r_aload0 hX dX6_item_122 (q := 123) rfl ?_
              refine r_bipush hX dX6_item_123 (q := 125) rfl (v := nI 6) (by decide +kernel) ?_
              refine r_aload0 hX dX6_item_125 (q := 126) rfl ?_
              refine r_iconst hX dX6_item_126 (q := 127) rfl (v := nI 0) (by decide +kernel) ?_
              refine r_bipush hX dX6_item_127 (q := 129) rfl (v := nI 9) (by decide +kernel) ?_
              refine r_callV hX dX6_item_129 (q := 132) rfl (c_X6_number _ Γ _ G0 T n (nxt T n p) μ hQ6 0 9 _ rfl (by decide) (by decide)) kX6_227 mlX6_number mvX6_number rfl rfl rfl ⟨by decide, rfl⟩ ⟨by decide, by decide⟩ (Nat.le_of_ble_eq_true rfl) (kpI (fun v129 G129 p129 => ?_))
              obtain ⟨p7, b7, hQ7, hf7, ht7⟩ : ∃ pz bz, RS G0 G129 T n pz bz μ ∧ (bz = false → ∃ z, 0 ≤ z ∧ z ≤ 9 ∧ v129 = nI z ∧ pz = nxt T n (nxt T n p) ∧ numF T n (nxt T n p) 0 9 = some z) ∧ (bz = true → pz = nxt T n p ∧ numF T n (nxt T n p) 0 9 = none) := by
                rcases p129 with ⟨z, e1, e2, e3⟩ | ⟨e1, e3⟩
                · exact ⟨_, _, e3, fun _ => ⟨z, (numF_some e1).2.2.1, (numF_some e1).2.2.2, e2, rfl, e1⟩, fun q => absurd q (by decide)⟩
                · exact ⟨_, _, e3, fun q => absurd q (by decide), fun _ => ⟨rfl, e1⟩⟩
              refine r_callV hX dX6_item_132 (q := 135) rfl (c_X6_tells _ Γ _ G0 T n p7 b7 μ hQ7 _ 6 _ (fun _ => ⟨rfl, by decide⟩)) kX6_233 mlX6_tells mvX6_tells rfl rfl rfl ⟨by decide, rfl⟩ ⟨by decide, by decide⟩ (Nat.le_of_ble_eq_true rfl) (kpV (fun G132 p132 => ?_))
              refine r_goto hX dX6_item_135 (tgt := 162) (by decide) ?_
              refine r_vret hX hR dX6_item_162 ?_
              -- leaf 2 at 162
              refine ⟨rfl, ?_⟩
              first
                | exact p159
                | (rw [show itemF T n p μ = foodF T n p μ from item_at (by decide) hw]; exact p10)
                | (rw [show itemF T n p μ = friF T n p μ from item_at (by decide) hw]; exact p148)
                | (have hit : itemF T n p μ = partF T n p μ 0 := item_at (by decide) hw
                   have hp7 := p34
                   cases b7 with
                   | true =>
                     obtain ⟨e1, e2⟩ := ht7 rfl
                     exact RdM.no hp7 (hit.trans (by rw [e1]; exact part_n (j := 0) e2))
                   | false =>
                     obtain ⟨z, z0, z1, z2, z3, z4⟩ := hf7 rfl
                     exact RdM.ok hp7 (hit.trans (by rw [z2, z3]; exact part_s (j := 0) z4)))
                | (have hit : itemF T n p μ = partF T n p μ 1 := item_at (by decide) hw
                   have hp7 := p58
                   cases b7 with
                   | true =>
                     obtain ⟨e1, e2⟩ := ht7 rfl
                     exact RdM.no hp7 (hit.trans (by rw [e1]; exact part_n (j := 1) e2))
                   | false =>
                     obtain ⟨z, z0, z1, z2, z3, z4⟩ := hf7 rfl
                     exact RdM.ok hp7 (hit.trans (by rw [z2, z3]; exact part_s (j := 1) z4)))
                | (have hit : itemF T n p μ = partF T n p μ 2 := item_at (by decide) hw
                   have hp7 := p83
                   cases b7 with
                   | true =>
                     obtain ⟨e1, e2⟩ := ht7 rfl
                     exact RdM.no hp7 (hit.trans (by rw [e1]; exact part_n (j := 2) e2))
                   | false =>
                     obtain ⟨z, z0, z1, z2, z3, z4⟩ := hf7 rfl
                     exact RdM.ok hp7 (hit.trans (by rw [z2, z3]; exact part_s (j := 2) z4)))
                | (have hit : itemF T n p μ = partF T n p μ 3 := item_at (by decide) hw
                   have hp7 := p107
                   cases b7 with
                   | true =>
                     obtain ⟨e1, e2⟩ := ht7 rfl
                     exact RdM.no hp7 (hit.trans (by rw [e1]; exact part_n (j := 3) e2))
                   | false =>
                     obtain ⟨z, z0, z1, z2, z3, z4⟩ := hf7 rfl
                     exact RdM.ok hp7 (hit.trans (by rw [z2, z3]; exact part_s (j := 3) z4)))
                | (have hit : itemF T n p μ = pudF T n p μ := item_at (by decide) hw
                   have hp7 := p132
                   cases b7 with
                   | true =>
                     obtain ⟨e1, e2⟩ := ht7 rfl
                     exact RdM.no hp7 (hit.trans (by rw [e1]; exact pud_n e2))
                   | false =>
                     obtain ⟨z, z0, z1, z2, z3, z4⟩ := hf7 rfl
                     exact RdM.ok hp7 (hit.trans (by rw [z2, z3]; exact pud_s z4)))
          ·
            obtain ⟨-, -, hw, hQ6⟩ := p92.resolve_right (fun q => by rw [h95] at q; exact absurd q.1 (by decide))
            refine r_aload0 hX dX6_item_98 (q := 99) rfl ?_
            refine r_iconst hX dX6_item_99 (q := 100) rfl (v := nI 5) (by decide +kernel) ?_
            refine r_aload0 hX dX6_item_100 (q := 101) rfl ?_
            refine r_iconst hX dX6_item_101 (q := 102) rfl (v := nI 1) (by decide +kernel) ?_
            refine r_bipush hX dX6_item_102 (q := 104) rfl (v := nI 99) (by decide +kernel) ?_
            refine r_callV hX dX6_item_104 (q := 107) rfl (c_X6_number _ Γ _ G0 T n (nxt T n p) μ hQ6 1 99 _ rfl (by decide) (by decide)) kX6_227 mlX6_number mvX6_number rfl rfl rfl ⟨by decide, rfl⟩ ⟨by decide, by decide⟩ (Nat.le_of_ble_eq_true rfl) (kpI (fun v104 G104 p104 => ?_))
            obtain ⟨p7, b7, hQ7, hf7, ht7⟩ : ∃ pz bz, RS G0 G104 T n pz bz μ ∧ (bz = false → ∃ z, 1 ≤ z ∧ z ≤ 99 ∧ v104 = nI z ∧ pz = nxt T n (nxt T n p) ∧ numF T n (nxt T n p) 1 99 = some z) ∧ (bz = true → pz = nxt T n p ∧ numF T n (nxt T n p) 1 99 = none) := by
              rcases p104 with ⟨z, e1, e2, e3⟩ | ⟨e1, e3⟩
              · exact ⟨_, _, e3, fun _ => ⟨z, (numF_some e1).2.2.1, (numF_some e1).2.2.2, e2, rfl, e1⟩, fun q => absurd q (by decide)⟩
              · exact ⟨_, _, e3, fun q => absurd q (by decide), fun _ => ⟨rfl, e1⟩⟩
            refine r_callV hX dX6_item_107 (q := 110) rfl (c_X6_tells _ Γ _ G0 T n p7 b7 μ hQ7 _ 5 _ (fun _ => ⟨rfl, by decide⟩)) kX6_233 mlX6_tells mvX6_tells rfl rfl rfl ⟨by decide, rfl⟩ ⟨by decide, by decide⟩ (Nat.le_of_ble_eq_true rfl) (kpV (fun G107 p107 => ?_))
            refine r_goto hX dX6_item_110 (tgt := 162) (by decide) ?_
            refine r_vret hX hR dX6_item_162 ?_
            -- leaf 3 at 162
            refine ⟨rfl, ?_⟩
            first
              | exact p159
              | (rw [show itemF T n p μ = foodF T n p μ from item_at (by decide) hw]; exact p10)
              | (rw [show itemF T n p μ = friF T n p μ from item_at (by decide) hw]; exact p148)
              | (have hit : itemF T n p μ = partF T n p μ 0 := item_at (by decide) hw
                 have hp7 := p34
                 cases b7 with
                 | true =>
                   obtain ⟨e1, e2⟩ := ht7 rfl
                   exact RdM.no hp7 (hit.trans (by rw [e1]; exact part_n (j := 0) e2))
                 | false =>
                   obtain ⟨z, z0, z1, z2, z3, z4⟩ := hf7 rfl
                   exact RdM.ok hp7 (hit.trans (by rw [z2, z3]; exact part_s (j := 0) z4)))
              | (have hit : itemF T n p μ = partF T n p μ 1 := item_at (by decide) hw
                 have hp7 := p58
                 cases b7 with
                 | true =>
                   obtain ⟨e1, e2⟩ := ht7 rfl
                   exact RdM.no hp7 (hit.trans (by rw [e1]; exact part_n (j := 1) e2))
                 | false =>
                   obtain ⟨z, z0, z1, z2, z3, z4⟩ := hf7 rfl
                   exact RdM.ok hp7 (hit.trans (by rw [z2, z3]; exact part_s (j := 1) z4)))
              | (have hit : itemF T n p μ = partF T n p μ 2 := item_at (by decide) hw
                 have hp7 := p83
                 cases b7 with
                 | true =>
                   obtain ⟨e1, e2⟩ := ht7 rfl
                   exact RdM.no hp7 (hit.trans (by rw [e1]; exact part_n (j := 2) e2))
                 | false =>
                   obtain ⟨z, z0, z1, z2, z3, z4⟩ := hf7 rfl
                   exact RdM.ok hp7 (hit.trans (by rw [z2, z3]; exact part_s (j := 2) z4)))
              | (have hit : itemF T n p μ = partF T n p μ 3 := item_at (by decide) hw
                 have hp7 := p107
                 cases b7 with
                 | true =>
                   obtain ⟨e1, e2⟩ := ht7 rfl
                   exact RdM.no hp7 (hit.trans (by rw [e1]; exact part_n (j := 3) e2))
                 | false =>
                   obtain ⟨z, z0, z1, z2, z3, z4⟩ := hf7 rfl
                   exact RdM.ok hp7 (hit.trans (by rw [z2, z3]; exact part_s (j := 3) z4)))
              | (have hit : itemF T n p μ = pudF T n p μ := item_at (by decide) hw
                 have hp7 := p132
                 cases b7 with
                 | true =>
                   obtain ⟨e1, e2⟩ := ht7 rfl
                   exact RdM.no hp7 (hit.trans (by rw [e1]; exact pud_n e2))
                 | false =>
                   obtain ⟨z, z0, z1, z2, z3, z4⟩ := hf7 rfl
                   exact RdM.ok hp7 (hit.trans (by rw [z2, z3]; exact pud_s z4)))
        ·
          obtain ⟨-, -, hw, hQ6⟩ := p67.resolve_right (fun q => by rw [h70] at q; exact absurd q.1 (by decide))
          refine r_aload0 hX dX6_item_73 (q := 74) rfl ?_
          refine r_iconst hX dX6_item_74 (q := 75) rfl (v := nI 4) (by decide +kernel) ?_
          refine r_aload0 hX dX6_item_75 (q := 76) rfl ?_
          refine r_iconst hX dX6_item_76 (q := 77) rfl (v := nI 0) (by decide +kernel) ?_
          refine r_sipush hX dX6_item_77 (q := 80) rfl (v := nI 9999) (by decide +kernel) ?_
          refine r_callV hX dX6_item_80 (q := 83) rfl (c_X6_number _ Γ _ G0 T n (nxt T n p) μ hQ6 0 9999 _ rfl (by decide) (by decide)) kX6_227 mlX6_number mvX6_number rfl rfl rfl ⟨by decide, rfl⟩ ⟨by decide, by decide⟩ (Nat.le_of_ble_eq_true rfl) (kpI (fun v80 G80 p80 => ?_))
          obtain ⟨p7, b7, hQ7, hf7, ht7⟩ : ∃ pz bz, RS G0 G80 T n pz bz μ ∧ (bz = false → ∃ z, 0 ≤ z ∧ z ≤ 9999 ∧ v80 = nI z ∧ pz = nxt T n (nxt T n p) ∧ numF T n (nxt T n p) 0 9999 = some z) ∧ (bz = true → pz = nxt T n p ∧ numF T n (nxt T n p) 0 9999 = none) := by
            rcases p80 with ⟨z, e1, e2, e3⟩ | ⟨e1, e3⟩
            · exact ⟨_, _, e3, fun _ => ⟨z, (numF_some e1).2.2.1, (numF_some e1).2.2.2, e2, rfl, e1⟩, fun q => absurd q (by decide)⟩
            · exact ⟨_, _, e3, fun q => absurd q (by decide), fun _ => ⟨rfl, e1⟩⟩
          refine r_callV hX dX6_item_83 (q := 86) rfl (c_X6_tells _ Γ _ G0 T n p7 b7 μ hQ7 _ 4 _ (fun _ => ⟨rfl, by decide⟩)) kX6_233 mlX6_tells mvX6_tells rfl rfl rfl ⟨by decide, rfl⟩ ⟨by decide, by decide⟩ (Nat.le_of_ble_eq_true rfl) (kpV (fun G83 p83 => ?_))
          refine r_goto hX dX6_item_86 (tgt := 162) (by decide) ?_
          refine r_vret hX hR dX6_item_162 ?_
          -- leaf 4 at 162
          refine ⟨rfl, ?_⟩
          first
            | exact p159
            | (rw [show itemF T n p μ = foodF T n p μ from item_at (by decide) hw]; exact p10)
            | (rw [show itemF T n p μ = friF T n p μ from item_at (by decide) hw]; exact p148)
            | (have hit : itemF T n p μ = partF T n p μ 0 := item_at (by decide) hw
               have hp7 := p34
               cases b7 with
               | true =>
                 obtain ⟨e1, e2⟩ := ht7 rfl
                 exact RdM.no hp7 (hit.trans (by rw [e1]; exact part_n (j := 0) e2))
               | false =>
                 obtain ⟨z, z0, z1, z2, z3, z4⟩ := hf7 rfl
                 exact RdM.ok hp7 (hit.trans (by rw [z2, z3]; exact part_s (j := 0) z4)))
            | (have hit : itemF T n p μ = partF T n p μ 1 := item_at (by decide) hw
               have hp7 := p58
               cases b7 with
               | true =>
                 obtain ⟨e1, e2⟩ := ht7 rfl
                 exact RdM.no hp7 (hit.trans (by rw [e1]; exact part_n (j := 1) e2))
               | false =>
                 obtain ⟨z, z0, z1, z2, z3, z4⟩ := hf7 rfl
                 exact RdM.ok hp7 (hit.trans (by rw [z2, z3]; exact part_s (j := 1) z4)))
            | (have hit : itemF T n p μ = partF T n p μ 2 := item_at (by decide) hw
               have hp7 := p83
               cases b7 with
               | true =>
                 obtain ⟨e1, e2⟩ := ht7 rfl
                 exact RdM.no hp7 (hit.trans (by rw [e1]; exact part_n (j := 2) e2))
               | false =>
                 obtain ⟨z, z0, z1, z2, z3, z4⟩ := hf7 rfl
                 exact RdM.ok hp7 (hit.trans (by rw [z2, z3]; exact part_s (j := 2) z4)))
            | (have hit : itemF T n p μ = partF T n p μ 3 := item_at (by decide) hw
               have hp7 := p107
               cases b7 with
               | true =>
                 obtain ⟨e1, e2⟩ := ht7 rfl
                 exact RdM.no hp7 (hit.trans (by rw [e1]; exact part_n (j := 3) e2))
               | false =>
                 obtain ⟨z, z0, z1, z2, z3, z4⟩ := hf7 rfl
                 exact RdM.ok hp7 (hit.trans (by rw [z2, z3]; exact part_s (j := 3) z4)))
            | (have hit : itemF T n p μ = pudF T n p μ := item_at (by decide) hw
               have hp7 := p132
               cases b7 with
               | true =>
                 obtain ⟨e1, e2⟩ := ht7 rfl
                 exact RdM.no hp7 (hit.trans (by rw [e1]; exact pud_n e2))
               | false =>
                 obtain ⟨z, z0, z1, z2, z3, z4⟩ := hf7 rfl
                 exact RdM.ok hp7 (hit.trans (by rw [z2, z3]; exact pud_s z4)))
      ·
        obtain ⟨-, -, hw, hQ6⟩ := p43.resolve_right (fun q => by rw [h46] at q; exact absurd q.1 (by decide))
        refine r_aload0 hX dX6_item_49 (q := 50) rfl ?_
        refine r_iconst hX dX6_item_50 (q := 51) rfl (v := nI 3) (by decide +kernel) ?_
        refine r_aload0 hX dX6_item_51 (q := 52) rfl ?_
        refine r_iconst hX dX6_item_52 (q := 53) rfl (v := nI 0) (by decide +kernel) ?_
        refine r_bipush hX dX6_item_53 (q := 55) rfl (v := nI 99) (by decide +kernel) ?_
        refine r_callV hX dX6_item_55 (q := 58) rfl (c_X6_number _ Γ _ G0 T n (nxt T n p) μ hQ6 0 99 _ rfl (by decide) (by decide)) kX6_227 mlX6_number mvX6_number rfl rfl rfl ⟨by decide, rfl⟩ ⟨by decide, by decide⟩ (Nat.le_of_ble_eq_true rfl) (kpI (fun v55 G55 p55 => ?_))
        obtain ⟨p7, b7, hQ7, hf7, ht7⟩ : ∃ pz bz, RS G0 G55 T n pz bz μ ∧ (bz = false → ∃ z, 0 ≤ z ∧ z ≤ 99 ∧ v55 = nI z ∧ pz = nxt T n (nxt T n p) ∧ numF T n (nxt T n p) 0 99 = some z) ∧ (bz = true → pz = nxt T n p ∧ numF T n (nxt T n p) 0 99 = none) := by
          rcases p55 with ⟨z, e1, e2, e3⟩ | ⟨e1, e3⟩
          · exact ⟨_, _, e3, fun _ => ⟨z, (numF_some e1).2.2.1, (numF_some e1).2.2.2, e2, rfl, e1⟩, fun q => absurd q (by decide)⟩
          · exact ⟨_, _, e3, fun q => absurd q (by decide), fun _ => ⟨rfl, e1⟩⟩
        refine r_callV hX dX6_item_58 (q := 61) rfl (c_X6_tells _ Γ _ G0 T n p7 b7 μ hQ7 _ 3 _ (fun _ => ⟨rfl, by decide⟩)) kX6_233 mlX6_tells mvX6_tells rfl rfl rfl ⟨by decide, rfl⟩ ⟨by decide, by decide⟩ (Nat.le_of_ble_eq_true rfl) (kpV (fun G58 p58 => ?_))
        refine r_goto hX dX6_item_61 (tgt := 162) (by decide) ?_
        refine r_vret hX hR dX6_item_162 ?_
        -- leaf 5 at 162
        refine ⟨rfl, ?_⟩
        first
          | exact p159
          | (rw [show itemF T n p μ = foodF T n p μ from item_at (by decide) hw]; exact p10)
          | (rw [show itemF T n p μ = friF T n p μ from item_at (by decide) hw]; exact p148)
          | (have hit : itemF T n p μ = partF T n p μ 0 := item_at (by decide) hw
             have hp7 := p34
             cases b7 with
             | true =>
               obtain ⟨e1, e2⟩ := ht7 rfl
               exact RdM.no hp7 (hit.trans (by rw [e1]; exact part_n (j := 0) e2))
             | false =>
               obtain ⟨z, z0, z1, z2, z3, z4⟩ := hf7 rfl
               exact RdM.ok hp7 (hit.trans (by rw [z2, z3]; exact part_s (j := 0) z4)))
          | (have hit : itemF T n p μ = partF T n p μ 1 := item_at (by decide) hw
             have hp7 := p58
             cases b7 with
             | true =>
               obtain ⟨e1, e2⟩ := ht7 rfl
               exact RdM.no hp7 (hit.trans (by rw [e1]; exact part_n (j := 1) e2))
             | false =>
               obtain ⟨z, z0, z1, z2, z3, z4⟩ := hf7 rfl
               exact RdM.ok hp7 (hit.trans (by rw [z2, z3]; exact part_s (j := 1) z4)))
          | (have hit : itemF T n p μ = partF T n p μ 2 := item_at (by decide) hw
             have hp7 := p83
             cases b7 with
             | true =>
               obtain ⟨e1, e2⟩ := ht7 rfl
               exact RdM.no hp7 (hit.trans (by rw [e1]; exact part_n (j := 2) e2))
             | false =>
               obtain ⟨z, z0, z1, z2, z3, z4⟩ := hf7 rfl
               exact RdM.ok hp7 (hit.trans (by rw [z2, z3]; exact part_s (j := 2) z4)))
          | (have hit : itemF T n p μ = partF T n p μ 3 := item_at (by decide) hw
             have hp7 := p107
             cases b7 with
             | true =>
               obtain ⟨e1, e2⟩ := ht7 rfl
               exact RdM.no hp7 (hit.trans (by rw [e1]; exact part_n (j := 3) e2))
             | false =>
               obtain ⟨z, z0, z1, z2, z3, z4⟩ := hf7 rfl
               exact RdM.ok hp7 (hit.trans (by rw [z2, z3]; exact part_s (j := 3) z4)))
          | (have hit : itemF T n p μ = pudF T n p μ := item_at (by decide) hw
             have hp7 := p132
             cases b7 with
             | true =>
               obtain ⟨e1, e2⟩ := ht7 rfl
               exact RdM.no hp7 (hit.trans (by rw [e1]; exact pud_n e2))
             | false =>
               obtain ⟨z, z0, z1, z2, z3, z4⟩ := hf7 rfl
               exact RdM.ok hp7 (hit.trans (by rw [z2, z3]; exact pud_s z4)))
    ·
      obtain ⟨-, -, hw, hQ6⟩ := p19.resolve_right (fun q => by rw [h22] at q; exact absurd q.1 (by decide))
      refine r_aload0 hX dX6_item_25 (q := 26) rfl ?_
      refine r_iconst hX dX6_item_26 (q := 27) rfl (v := nI 2) (by decide +kernel) ?_
      refine r_aload0 hX dX6_item_27 (q := 28) rfl ?_
      refine r_iconst hX dX6_item_28 (q := 29) rfl (v := nI 0) (by decide +kernel) ?_
      refine r_bipush hX dX6_item_29 (q := 31) rfl (v := nI 9) (by decide +kernel) ?_
      refine r_callV hX dX6_item_31 (q := 34) rfl (c_X6_number _ Γ _ G0 T n (nxt T n p) μ hQ6 0 9 _ rfl (by decide) (by decide)) kX6_227 mlX6_number mvX6_number rfl rfl rfl ⟨by decide, rfl⟩ ⟨by decide, by decide⟩ (Nat.le_of_ble_eq_true rfl) (kpI (fun v31 G31 p31 => ?_))
      obtain ⟨p7, b7, hQ7, hf7, ht7⟩ : ∃ pz bz, RS G0 G31 T n pz bz μ ∧ (bz = false → ∃ z, 0 ≤ z ∧ z ≤ 9 ∧ v31 = nI z ∧ pz = nxt T n (nxt T n p) ∧ numF T n (nxt T n p) 0 9 = some z) ∧ (bz = true → pz = nxt T n p ∧ numF T n (nxt T n p) 0 9 = none) := by
        rcases p31 with ⟨z, e1, e2, e3⟩ | ⟨e1, e3⟩
        · exact ⟨_, _, e3, fun _ => ⟨z, (numF_some e1).2.2.1, (numF_some e1).2.2.2, e2, rfl, e1⟩, fun q => absurd q (by decide)⟩
        · exact ⟨_, _, e3, fun q => absurd q (by decide), fun _ => ⟨rfl, e1⟩⟩
      refine r_callV hX dX6_item_34 (q := 37) rfl (c_X6_tells _ Γ _ G0 T n p7 b7 μ hQ7 _ 2 _ (fun _ => ⟨rfl, by decide⟩)) kX6_233 mlX6_tells mvX6_tells rfl rfl rfl ⟨by decide, rfl⟩ ⟨by decide, by decide⟩ (Nat.le_of_ble_eq_true rfl) (kpV (fun G34 p34 => ?_))
      refine r_goto hX dX6_item_37 (tgt := 162) (by decide) ?_
      refine r_vret hX hR dX6_item_162 ?_
      -- leaf 6 at 162
      refine ⟨rfl, ?_⟩
      first
        | exact p159
        | (rw [show itemF T n p μ = foodF T n p μ from item_at (by decide) hw]; exact p10)
        | (rw [show itemF T n p μ = friF T n p μ from item_at (by decide) hw]; exact p148)
        | (have hit : itemF T n p μ = partF T n p μ 0 := item_at (by decide) hw
           have hp7 := p34
           cases b7 with
           | true =>
             obtain ⟨e1, e2⟩ := ht7 rfl
             exact RdM.no hp7 (hit.trans (by rw [e1]; exact part_n (j := 0) e2))
           | false =>
             obtain ⟨z, z0, z1, z2, z3, z4⟩ := hf7 rfl
             exact RdM.ok hp7 (hit.trans (by rw [z2, z3]; exact part_s (j := 0) z4)))
        | (have hit : itemF T n p μ = partF T n p μ 1 := item_at (by decide) hw
           have hp7 := p58
           cases b7 with
           | true =>
             obtain ⟨e1, e2⟩ := ht7 rfl
             exact RdM.no hp7 (hit.trans (by rw [e1]; exact part_n (j := 1) e2))
           | false =>
             obtain ⟨z, z0, z1, z2, z3, z4⟩ := hf7 rfl
             exact RdM.ok hp7 (hit.trans (by rw [z2, z3]; exact part_s (j := 1) z4)))
        | (have hit : itemF T n p μ = partF T n p μ 2 := item_at (by decide) hw
           have hp7 := p83
           cases b7 with
           | true =>
             obtain ⟨e1, e2⟩ := ht7 rfl
             exact RdM.no hp7 (hit.trans (by rw [e1]; exact part_n (j := 2) e2))
           | false =>
             obtain ⟨z, z0, z1, z2, z3, z4⟩ := hf7 rfl
             exact RdM.ok hp7 (hit.trans (by rw [z2, z3]; exact part_s (j := 2) z4)))
        | (have hit : itemF T n p μ = partF T n p μ 3 := item_at (by decide) hw
           have hp7 := p107
           cases b7 with
           | true =>
             obtain ⟨e1, e2⟩ := ht7 rfl
             exact RdM.no hp7 (hit.trans (by rw [e1]; exact part_n (j := 3) e2))
           | false =>
             obtain ⟨z, z0, z1, z2, z3, z4⟩ := hf7 rfl
             exact RdM.ok hp7 (hit.trans (by rw [z2, z3]; exact part_s (j := 3) z4)))
        | (have hit : itemF T n p μ = pudF T n p μ := item_at (by decide) hw
           have hp7 := p132
           cases b7 with
           | true =>
             obtain ⟨e1, e2⟩ := ht7 rfl
             exact RdM.no hp7 (hit.trans (by rw [e1]; exact pud_n e2))
           | false =>
             obtain ⟨z, z0, z1, z2, z3, z4⟩ := hf7 rfl
             exact RdM.ok hp7 (hit.trans (by rw [z2, z3]; exact pud_s z4)))
  ·
    obtain ⟨-, -, hw, hQ6⟩ := p3.resolve_right (fun q => by rw [h6] at q; exact absurd q.1 (by decide))
    refine r_aload0 hX dX6_item_9 (q := 10) rfl ?_
    refine r_callV hX dX6_item_10 (q := 13) rfl (c_X6_foodItem _ Γ _ G0 T n p μ hQ6) kX6_242 mlX6_foodItem mvX6_foodItem rfl rfl rfl ⟨by decide, rfl⟩ ⟨by decide, by decide⟩ (Nat.le_of_ble_eq_true rfl) (kpV (fun G10 p10 => ?_))
    refine r_goto hX dX6_item_13 (tgt := 162) (by decide) ?_
    refine r_vret hX hR dX6_item_162 ?_
    -- leaf 7 at 162
    refine ⟨rfl, ?_⟩
    first
      | exact p159
      | (rw [show itemF T n p μ = foodF T n p μ from item_at (by decide) hw]; exact p10)
      | (rw [show itemF T n p μ = friF T n p μ from item_at (by decide) hw]; exact p148)
      | (have hit : itemF T n p μ = partF T n p μ 0 := item_at (by decide) hw
         have hp7 := p34
         cases b7 with
         | true =>
           obtain ⟨e1, e2⟩ := ht7 rfl
           exact RdM.no hp7 (hit.trans (by rw [e1]; exact part_n (j := 0) e2))
         | false =>
           obtain ⟨z, z0, z1, z2, z3, z4⟩ := hf7 rfl
           exact RdM.ok hp7 (hit.trans (by rw [z2, z3]; exact part_s (j := 0) z4)))
      | (have hit : itemF T n p μ = partF T n p μ 1 := item_at (by decide) hw
         have hp7 := p58
         cases b7 with
         | true =>
           obtain ⟨e1, e2⟩ := ht7 rfl
           exact RdM.no hp7 (hit.trans (by rw [e1]; exact part_n (j := 1) e2))
         | false =>
           obtain ⟨z, z0, z1, z2, z3, z4⟩ := hf7 rfl
           exact RdM.ok hp7 (hit.trans (by rw [z2, z3]; exact part_s (j := 1) z4)))
      | (have hit : itemF T n p μ = partF T n p μ 2 := item_at (by decide) hw
         have hp7 := p83
         cases b7 with
         | true =>
           obtain ⟨e1, e2⟩ := ht7 rfl
           exact RdM.no hp7 (hit.trans (by rw [e1]; exact part_n (j := 2) e2))
         | false =>
           obtain ⟨z, z0, z1, z2, z3, z4⟩ := hf7 rfl
           exact RdM.ok hp7 (hit.trans (by rw [z2, z3]; exact part_s (j := 2) z4)))
      | (have hit : itemF T n p μ = partF T n p μ 3 := item_at (by decide) hw
         have hp7 := p107
         cases b7 with
         | true =>
           obtain ⟨e1, e2⟩ := ht7 rfl
           exact RdM.no hp7 (hit.trans (by rw [e1]; exact part_n (j := 3) e2))
         | false =>
           obtain ⟨z, z0, z1, z2, z3, z4⟩ := hf7 rfl
           exact RdM.ok hp7 (hit.trans (by rw [z2, z3]; exact part_s (j := 3) z4)))
      | (have hit : itemF T n p μ = pudF T n p μ := item_at (by decide) hw
         have hp7 := p132
         cases b7 with
         | true =>
           obtain ⟨e1, e2⟩ := ht7 rfl
           exact RdM.no hp7 (hit.trans (by rw [e1]; exact pud_n e2))
         | false =>
           obtain ⟨z, z0, z1, z2, z3, z4⟩ := hf7 rfl
           exact RdM.ok hp7 (hit.trans (by rw [z2, z3]; exact pud_s z4)))

set_option maxRecDepth 100000 in
set_option maxHeartbeats 4000000 in
theorem c_X6_text (l : Launch) (Γ : Gam) (G : GG) (μ : MU) (hM : MR G μ) (b : Nat) (hV : Inv b μ) (T : MU) (n : Nat) (hT : TpR G T n) : Sp l yX6_text cX6_text 4 (some .int) 8 172 [.ref (gad Γ 47)] Γ G (pI (fun v G' => G' 47 6 = nI 0 ∧ (∀ c, ¬ c = 47 → ¬ c = 48 → ¬ c = 50 → G' c = G c) ∧ (∀ k, (k < 6 ∨ 11 < k) → G' 47 k = G 47 k) ∧ ((∃ q, txF T n 121 0 μ 1 = .inl q ∧ v = -1 - nI (frm T n q) ∧ MR G' μ) ∨ (∃ it ν, txF T n 121 0 μ 1 = .inr (it, ν) ∧ it ≤ 120 ∧ v = nI it ∧ MR G' ν)))) := by
  refine Sp_of (own := RX6) rfl (by decide +kernel) rfl (Nat.le_of_ble_eq_true rfl) (fun X hX hR => ?_)
  show WP X Γ 0 [some (.ref (gad Γ 47)), none, none, none] [] G
  have J78 : ∀ (it : Nat) (bb bd : Bool) (q : Nat) (κ : MU) (G1 G3 : GG), (RS G1 G3 T n q bd κ) → ((bb = true ∧ txF T n 121 0 μ 1 = .inl q) ∨ (bb = false ∧ it ≤ 120 ∧ txF T n 121 0 μ 1 = .inr (it, κ))) → (WS G1 μ) → (FrM G G1) → WP X Γ 78 [some (.ref (gad Γ 47)), some (.int (nI it)), none, none] [.int (bi bb), .ref (gad Γ 47)] G3 := by
    intro it bb bd q κ G1 G3 hQ9 hO hW1 hF1
    refine r_put hX dX6_text_78 (q := 81) rfl fX6_193 wX6_11 (bi_nar _) (bi_fit _) rfl ⟨by decide, by decide, rfl⟩ ?_
    have hQb := hQ9.bd bb
    generalize up G3 47 11 (bi bb) = G4 at hQb ⊢
    refine r_aload0 hX dX6_text_81 (q := 82) rfl ?_
    refine r_getI hX dX6_text_82 (q := 85) rfl fX6_180 rfl ⟨by decide, by decide, rfl⟩ ?_
    rw [hQb.2.1.2.2.1]
    refine r_istore3 hX dX6_text_85 (q := 86) rfl rfl ?_
    refine r_aload0 hX dX6_text_86 (q := 87) rfl ?_
    refine r_iconst hX dX6_text_87 (q := 88) rfl (v := nI 0) (by decide +kernel) ?_
    refine r_put hX dX6_text_88 (q := 91) rfl fX6_173 wX6_6 rfl rfl rfl ⟨by decide, by decide, rfl⟩ ?_
    have e6 : up G4 47 6 (nI 0) 47 6 = nI 0 := up_eq
    have e11 : up G4 47 6 (nI 0) 47 11 = bi bb := (up_ne (by omega)).trans hQb.2.2.1
    have hM5 : MR (up G4 47 6 (nI 0)) κ := hQb.2.2.2.1.fr (funext (fun j => up_ne (by omega)))
    have hc5 : ∀ c, ¬ c = 47 → ¬ c = 48 → up G4 47 6 (nI 0) c = G1 c := fun c a1 a2 => (funext (fun j => up_ne (by omega))).trans (hQb.2.2.2.2.1 c a1 a2)
    have hk5 : ∀ k, (k < 6 ∨ 11 < k) → up G4 47 6 (nI 0) 47 k = G1 47 k := fun k a => (up_ne (by omega)).trans (hQb.2.2.2.2.2 k (by omega))
    generalize up G4 47 6 (nI 0) = G5 at e6 e11 hM5 hc5 hk5 ⊢
    refine r_aload0 hX dX6_text_91 (q := 92) rfl ?_
    refine r_getI hX dX6_text_92 (q := 95) rfl fX6_193 rfl ⟨by decide, by decide, rfl⟩ ?_
    rw [e11]
    refine r_if_ne hX dX6_text_95 (q := 98) rfl (tgt := 100) (by decide) (fun h95 => ?_) (fun h95 => ?_)
    ·
      have hW5 : WS G5 μ := fun k hk => by rw [hc5 50 (by decide) (by decide)]; exact hW1 k hk
      refine r_aload0 hX dX6_text_100 (q := 101) rfl ?_
      refine r_getR hX dX6_text_101 (q := 104) rfl fX6_16 rfl ⟨by decide, by decide, rfl⟩ ?_
      refine r_aload0 hX dX6_text_104 (q := 105) rfl ?_
      refine r_getR hX dX6_text_105 (q := 108) rfl fX6_9 rfl ⟨by decide, by decide, rfl⟩ ?_
      refine r_callS hX dX6_text_108 (q := 111) rfl (c_X6_row _ Γ _ 50 48 rfl rfl (by decide)) kX6_156 mlX6_row msX6_row rfl rfl ⟨by decide, by decide⟩ (Nat.le_of_ble_eq_true rfl) (keV ?_)
      obtain ⟨hM6, hW6, hF6⟩ := ld_ok hW5
      generalize upc G5 48 (rwK (G5 50) (G5 48) 115) = G6 at hM6 hW6 hF6 ⊢
      refine r_iconst hX dX6_text_111 (q := 112) rfl (v := (-1)) (by decide +kernel) ?_
      refine r_iload3 hX dX6_text_112 (q := 113) rfl ?_
      refine r_isub hX dX6_text_113 (q := 114) rfl ?_
      refine r_iret hX hR dX6_text_114 ?_
      -- leaf 0 at 114
      refine ⟨_, rfl, ?_⟩
      have hbt := bi_n h95
      obtain ⟨o1, o2⟩ := hO.resolve_right (fun z => by rw [hbt] at z; exact absurd z.1 (by decide))
      exact ⟨by rw [hF6 47 (by decide)]; exact e6, fun c a1 a2 a3 => ((hF6 c a2).trans (hc5 c a1 a2)).trans (hF1 c a2 a3), fun k a => (by rw [hF6 47 (by decide)]; exact (hk5 k a).trans (by rw [hF1 47 (by decide) (by decide)])), Or.inl ⟨q, o2, rfl, hM6⟩⟩
    ·
      refine r_iload1 hX dX6_text_98 (q := 99) rfl ?_
      refine r_iret hX hR dX6_text_99 ?_
      -- leaf 1 at 99
      refine ⟨_, rfl, ?_⟩
      have hbf := bi_0 h95
      obtain ⟨o1, o2, o3⟩ := hO.resolve_left (fun z => by rw [hbf] at z; exact absurd z.1 (by decide))
      exact ⟨e6, fun c a1 a2 a3 => (hc5 c a1 a2).trans (hF1 c a2 a3), fun k a => (hk5 k a).trans (by rw [hF1 47 (by decide) (by decide)]), Or.inr ⟨it, κ, o3, o2, rfl, hM5⟩⟩
  refine r_aload0 hX dX6_text_0 (q := 1) rfl ?_
  refine r_getR hX dX6_text_1 (q := 4) rfl fX6_9 rfl ⟨by decide, by decide, rfl⟩ ?_
  refine r_aload0 hX dX6_text_4 (q := 5) rfl ?_
  refine r_getR hX dX6_text_5 (q := 8) rfl fX6_16 rfl ⟨by decide, by decide, rfl⟩ ?_
  refine r_callS hX dX6_text_8 (q := 11) rfl (c_X6_row _ Γ _ 48 50 rfl rfl (by decide)) kX6_156 mlX6_row msX6_row rfl rfl ⟨by decide, by decide⟩ (Nat.le_of_ble_eq_true rfl) (keV ?_)
  obtain ⟨hM1, hW1, hF1⟩ := sv_ok hM
  generalize upc G 50 (rwK (G 48) (G 50) 115) = G1 at hM1 hW1 hF1 ⊢
  refine r_aload0 hX dX6_text_11 (q := 12) rfl ?_
  refine r_iconst hX dX6_text_12 (q := 13) rfl (v := nI 0) (by decide +kernel) ?_
  refine r_put hX dX6_text_13 (q := 16) rfl fX6_177 wX6_9 rfl rfl rfl ⟨by decide, by decide, rfl⟩ ?_
  refine r_aload0 hX dX6_text_16 (q := 17) rfl ?_
  refine r_iconst hX dX6_text_17 (q := 18) rfl (v := nI 0) (by decide +kernel) ?_
  refine r_put hX dX6_text_18 (q := 21) rfl fX6_193 wX6_11 (by decide +kernel) (by decide +kernel) rfl ⟨by decide, by decide, rfl⟩ ?_
  have hT1 : TpR G1 T n := ⟨by rw [hF1 47 (by decide) (by decide)]; exact hT.1, hT.2.1, fun j hj => by rw [hF1 52 (by decide) (by decide)]; exact hT.2.2 j hj⟩
  have qT : FrT G1 (up (up G1 47 9 (nI 0)) 47 11 (nI 0)) := (FrT.rf.u (by decide)).u (by decide)
  have q9 : (up (up G1 47 9 (nI 0)) 47 11 (nI 0)) 47 9 = nI 0 := (up_ne (by omega)).trans up_eq
  have q11 : (up (up G1 47 9 (nI 0)) 47 11 (nI 0)) 47 11 = nI 0 := up_eq
  have hT2 := hT1.t qT
  generalize up (up G1 47 9 (nI 0)) 47 11 (nI 0) = G2 at qT q9 q11 hT2 ⊢
  refine r_aload0 hX dX6_text_21 (q := 22) rfl ?_
  refine r_callV hX dX6_text_22 (q := 25) rfl (c_X6_token _ Γ _ T n hT2 0 q9 (Nat.zero_le _)) kX6_210 mlX6_token mvX6_token rfl rfl rfl ⟨by decide, rfl⟩ ⟨by decide, by decide⟩ (Nat.le_of_ble_eq_true rfl) (kpV (fun G22 p22 => ?_))
  have hQ0 : RS G1 G22 T n 0 false μ := ⟨hT2.t p22.2.2, p22.1, p22.2.1.trans (q11.trans nI_0), hM1.fr ((p22.2.2.1 48 (by decide)).trans (qT.1 48 (by decide))), qT.x.tr p22.2.2.x⟩
  refine r_iconst hX dX6_text_25 (q := 26) rfl (v := nI 0) (by decide +kernel) ?_
  refine r_istore1 hX dX6_text_26 (q := 27) rfl rfl ?_
  refine r_iconst hX dX6_text_27 (q := 28) rfl (v := nI 1) (by decide +kernel) ?_
  refine r_istore2 hX dX6_text_28 (q := 29) rfl rfl ?_
  have L29 : ∀ (zn29 : Nat) (it : Nat) (mo : Int32) (G3 : GG), zn29 = 121 - it → ((mo = nI 1 ∧ ∃ p κ, 2 * it ≤ p ∧ RS G1 G3 T n p false κ ∧ Inv b κ ∧ txF T n 121 0 μ 1 = txF T n (121 - it) p κ (it + 1)) ∨ (mo = nI 0 ∧ it ≤ 120 ∧ ∃ q bd κ, RS G1 G3 T n q bd κ ∧ (bd = true → txF T n 121 0 μ 1 = .inl q) ∧ (bd = false → (srt T n q = 0 → txF T n 121 0 μ 1 = .inr (it, κ)) ∧ (¬ srt T n q = 0 → txF T n 121 0 μ 1 = .inl q)))) → WP X Γ 29 [some (.ref (gad Γ 47)), some (.int (nI it)), some (.int mo), none] [] G3 := by
    intro zn29
    induction zn29 using Nat.strongRecOn with
    | _ zn29 ih29 =>
      intro it mo G3 zh29 hI
      refine r_iload2 hX dX6_text_29 (q := 30) rfl ?_
      refine r_if_eq hX dX6_text_30 (q := 33) rfl (tgt := 58) (by decide) (fun h30 => ?_) (fun h30 => ?_)
      ·
        obtain ⟨-, hit, q, bd, κ, hQ9, hbt, hbf⟩ := hI.resolve_left (fun z => by rw [z.1] at h30; exact absurd h30 (by decide +kernel))
        clear hI
        have hs3 := srt_le (T := T) (n := n) (p := q)
        refine r_aload0 hX dX6_text_58 (q := 59) rfl ?_
        refine r_aload0 hX dX6_text_59 (q := 60) rfl ?_
        refine r_getI hX dX6_text_60 (q := 63) rfl fX6_193 rfl ⟨by decide, by decide, rfl⟩ ?_
        rw [hQ9.2.2.1]
        refine r_if_ne hX dX6_text_63 (q := 66) rfl (tgt := 73) (by decide) (fun h63 => ?_) (fun h63 => ?_)
        ·
          refine r_iconst hX dX6_text_73 (q := 74) rfl (v := nI 1) (by decide +kernel) ?_
          refine r_goto hX dX6_text_74 (tgt := 78) (by decide) ?_
          refine r_drop2 ?_
          refine J78 it true bd q κ G1 _ ?_ ?_ ?_ ?_
          ·
            exact hQ9
          ·
            exact Or.inl ⟨rfl, hbt (bi_n h63)⟩
          ·
            exact hW1
          ·
            exact hF1
        ·
          refine r_aload0 hX dX6_text_66 (q := 67) rfl ?_
          refine r_getI hX dX6_text_67 (q := 70) rfl fX6_190 rfl ⟨by decide, by decide, rfl⟩ ?_
          rw [hQ9.2.1.2.1]
          refine r_if_eq hX dX6_text_70 (q := 73) rfl (tgt := 77) (by decide) (fun h70 => ?_) (fun h70 => ?_)
          ·
            refine r_iconst hX dX6_text_77 (q := 78) rfl (v := nI 0) (by decide +kernel) ?_
            refine r_drop2 ?_
            refine J78 it false bd q κ G1 _ ?_ ?_ ?_ ?_
            ·
              exact hQ9
            ·
              exact Or.inr ⟨rfl, hit, (hbf (bi_0 h63)).1 (nz_of (by omega) h70)⟩
            ·
              exact hW1
            ·
              exact hF1
          ·
            refine r_iconst hX dX6_text_73 (q := 74) rfl (v := nI 1) (by decide +kernel) ?_
            refine r_goto hX dX6_text_74 (tgt := 78) (by decide) ?_
            refine r_drop2 ?_
            refine J78 it true bd q κ G1 _ ?_ ?_ ?_ ?_
            ·
              exact hQ9
            ·
              exact Or.inl ⟨rfl, (hbf (bi_0 h63)).2 (fun z => h70 (by rw [z, nI_0]))⟩
            ·
              exact hW1
            ·
              exact hF1
      ·
        obtain ⟨hmo, p, κ, hip, hQ1, hK, hE⟩ := hI.resolve_right (fun q => h30 (q.1.trans nI_0))
        clear hI
        have hpn := hQ1.2.1.1
        have hn120 := hT.2.1
        refine r_aload0 hX dX6_text_33 (q := 34) rfl ?_
        refine r_callV hX dX6_text_34 (q := 37) rfl (c_X6_item _ Γ _ G1 T n p κ hQ1 b hK) kX6_267 mlX6_item mvX6_item rfl rfl rfl ⟨by decide, rfl⟩ ⟨by decide, by decide⟩ (Nat.le_of_ble_eq_true rfl) (kpV (fun G34 p34 => ?_))
        obtain ⟨q, bd, ν, hQ2, ht, hf⟩ := p34.cs
        refine r_iincN1 hX dX6_text_37 (q := 40) rfl rfl ?_
        refine r_aload0 hX dX6_text_40 (q := 41) rfl ?_
        refine r_bipush hX dX6_text_41 (q := 43) rfl (v := nI 59) (by decide +kernel) ?_
        refine r_callV hX dX6_text_43 (q := 46) rfl (c_X6_isSign _ Γ _ G1 T n q bd ν hQ2 _ rfl) kX6_270 mlX6_isSign mvX6_isSign rfl rfl rfl ⟨by decide, rfl⟩ ⟨by decide, by decide⟩ (Nat.le_of_ble_eq_true rfl) (keB ?_)
        refine r_istore2 hX dX6_text_46 (q := 47) rfl rfl ?_
        refine r_iload2 hX dX6_text_47 (q := 48) rfl ?_
        first | with_reducible refine r_ifd_eq hX dX6_text_48 (q := 51) rfl (tgt := 29) (by decide) (fun h48 => ?_) (fun h48 => ?_) | refine r_ifb_eq hX dX6_text_48 (q := 51) rfl (tgt := 29) (by decide) (fun h48 => ?_) (fun h48 => ?_)
        ·
          refine ih29 _ ?_ (it + 1) _ _ rfl ?_
          ·
            omega
          ·
            obtain ⟨u, g1, g2⟩ : ∃ u, 121 - it = u + 1 ∧ 121 - (it + 1) = u := ⟨120 - it, by omega, by omega⟩
            rw [g1] at hE
            cases bd with
            | true =>
              first
                | exact absurd (show false = true from h48) (by decide)
                | exact Or.inr ⟨show bi false = nI 0 from by decide +kernel, by omega, q, true, ν, hQ2, fun _ => hE.trans (tx_n (ht rfl)), fun z => absurd z (by decide)⟩
            | false =>
              first
                | (have hs : sgB T n q = false := h48
                   exact Or.inr ⟨by rw [hs]; decide +kernel, by omega, q, false, ν, hQ2, fun z => absurd z (by decide), fun _ => ⟨fun w => hE.trans (tx_e (hf rfl) (by rw [hs]; decide) w), fun w => hE.trans (tx_x (hf rfl) (by rw [hs]; decide) w)⟩⟩)
                | (have hs : sgB T n q = true := h48
                   have g := item_it hpn hK (hf rfl)
                   have g3 := nx_lt (T := T) g.1.2 (show ¬ srt T n q = 0 by rw [(of_decide_eq_true hs).1]; decide)
                   have g4 := g.1.1
                   exact Or.inl ⟨by rw [hs]; decide +kernel, nxt T n q, ν, by omega, hQ2.tok p52, g.2.1, by rw [g2]; exact hE.trans (tx_m (hf rfl) hs)⟩)
        ·
          refine r_aload0 hX dX6_text_51 (q := 52) rfl ?_
          refine r_callV hX dX6_text_52 (q := 55) rfl (c_X6_token _ Γ _ T n hQ2.1 (nxt T n q) hQ2.2.1.2.2.2.1 (nxt_b hQ2.2.1.1).2) kX6_210 mlX6_token mvX6_token rfl rfl rfl ⟨by decide, rfl⟩ ⟨by decide, by decide⟩ (Nat.le_of_ble_eq_true rfl) (kpV (fun G52 p52 => ?_))
          refine r_goto hX dX6_text_55 (tgt := 29) (by decide) ?_
          refine ih29 _ ?_ (it + 1) _ _ rfl ?_
          ·
            omega
          ·
            obtain ⟨u, g1, g2⟩ : ∃ u, 121 - it = u + 1 ∧ 121 - (it + 1) = u := ⟨120 - it, by omega, by omega⟩
            rw [g1] at hE
            cases bd with
            | true =>
              first
                | exact absurd (show false = true from h48) (by decide)
                | exact Or.inr ⟨show bi false = nI 0 from by decide +kernel, by omega, q, true, ν, hQ2, fun _ => hE.trans (tx_n (ht rfl)), fun z => absurd z (by decide)⟩
            | false =>
              first
                | (have hs : sgB T n q = false := h48
                   exact Or.inr ⟨by rw [hs]; decide +kernel, by omega, q, false, ν, hQ2, fun z => absurd z (by decide), fun _ => ⟨fun w => hE.trans (tx_e (hf rfl) (by rw [hs]; decide) w), fun w => hE.trans (tx_x (hf rfl) (by rw [hs]; decide) w)⟩⟩)
                | (have hs : sgB T n q = true := h48
                   have g := item_it hpn hK (hf rfl)
                   have g3 := nx_lt (T := T) g.1.2 (show ¬ srt T n q = 0 by rw [(of_decide_eq_true hs).1]; decide)
                   have g4 := g.1.1
                   exact Or.inl ⟨by rw [hs]; decide +kernel, nxt T n q, ν, by omega, hQ2.tok p52, g.2.1, by rw [g2]; exact hE.trans (tx_m (hf rfl) hs)⟩)
  refine L29 _ 0 _ _ rfl ?_
  ·
    exact Or.inl ⟨rfl, 0, μ, by omega, hQ0, hV, rfl⟩
