set_option maxRecDepth 100000 in
set_option maxHeartbeats 4000000 in
theorem c_X6_isByte (l : Launch) (Γ : Gam) (G : GG) (T : MU) (n : Nat) (hT : TpR G T n) (x : Int32) (k : Nat) (hx : x = nI k) (hk : k < 2 ^ 30) (lo hi : Nat) : Sp l yX6_isByte cX6_isByte 4 (some .boolean) 1 25 [.ref (gad Γ 47), .int x, .int (nI lo), .int (nI hi)] Γ G (eB G (decide (k < n ∧ nI lo ≤ T k ∧ T k ≤ nI hi))) := by
  refine Sp_of (own := RX6) rfl (by decide +kernel) rfl (Nat.le_of_ble_eq_true rfl) (fun X hX hR => ?_)
  show WP X Γ 0 [some (.ref (gad Γ 47)), some (.int x), some (.int (nI lo)), some (.int (nI hi))] [] G
  subst hx
  have hn120 := hT.2.1
  refine r_iload1 hX dX6_isByte_0 (q := 1) rfl ?_
  refine r_aload0 hX dX6_isByte_1 (q := 2) rfl ?_
  refine r_getI hX dX6_isByte_2 (q := 5) rfl fX6_173 rfl ⟨by decide, by decide, rfl⟩ ?_
  rw [hT.1]
  first | refine r_icmpN_ge hX dX6_isByte_5 (q := 8) rfl (tgt := 29) (by decide) (by first | omega | decide) (by first | omega | decide) (fun h5 => ?_) (fun h5 => ?_) | refine r_icmp_ge hX dX6_isByte_5 (q := 8) rfl (tgt := 29) (by decide) (fun h5 => ?_) (fun h5 => ?_)
  ·
    refine r_iconst hX dX6_isByte_29 (q := 30) rfl (v := nI 0) (by decide +kernel) ?_
    refine r_zret0 hX hR dX6_isByte_30 ?_
    -- leaf 0 at 30
    refine ⟨congrArg (fun z => some (Value.int (bi z))) ?_, ?_⟩
    ·
      first
        | exact (decide_eq_false (fun q => absurd q.1 (by omega))).symm
        | exact (decide_eq_false (fun q => h22 q.2)).symm
        | exact (decide_eq_true ⟨by omega, h22⟩).symm
    · rfl
  ·
    refine r_aload0 hX dX6_isByte_8 (q := 9) rfl ?_
    refine r_getR hX dX6_isByte_9 (q := 12) rfl fX6_22 rfl ⟨by decide, by decide, rfl⟩ ?_
    refine r_iload1 hX dX6_isByte_12 (q := 13) rfl ?_
    refine r_ialdN hX dX6_isByte_13 (q := 14) rfl rfl rfl (by omega) (by first | decide | omega) ?_
    rw [hT.2.2 k (by omega)]
    refine r_i2l hX dX6_isByte_14 (q := 15) rfl ?_
    refine r_iload2 hX dX6_isByte_15 (q := 16) rfl ?_
    refine r_i2l hX dX6_isByte_16 (q := 17) rfl ?_
    refine r_iload3 hX dX6_isByte_17 (q := 18) rfl ?_
    refine r_i2l hX dX6_isByte_18 (q := 19) rfl ?_
    refine r_callS hX dX6_isByte_19 (q := 22) rfl (c_X6_in _ Γ _ _ _ _) kX6_42 mlX6_in msX6_in rfl rfl ⟨by decide, by decide⟩ (Nat.le_of_ble_eq_true rfl) (keB ?_)
    first | with_reducible refine r_ifd_eq hX dX6_isByte_22 (q := 25) rfl (tgt := 29) (by decide) (fun h22 => ?_) (fun h22 => ?_) | refine r_ifb_eq hX dX6_isByte_22 (q := 25) rfl (tgt := 29) (by decide) (fun h22 => ?_) (fun h22 => ?_)
    ·
      refine r_iconst hX dX6_isByte_29 (q := 30) rfl (v := nI 0) (by decide +kernel) ?_
      refine r_zret0 hX hR dX6_isByte_30 ?_
      -- leaf 1 at 30
      refine ⟨congrArg (fun z => some (Value.int (bi z))) ?_, ?_⟩
      ·
        first
          | exact (decide_eq_false (fun q => absurd q.1 (by omega))).symm
          | exact (decide_eq_false (fun q => h22 q.2)).symm
          | exact (decide_eq_true ⟨by omega, h22⟩).symm
      · rfl
    ·
      refine r_iconst hX dX6_isByte_25 (q := 26) rfl (v := nI 1) (by decide +kernel) ?_
      refine r_goto hX dX6_isByte_26 (tgt := 30) (by decide) ?_
      refine r_zret1 hX hR dX6_isByte_30 ?_
      -- leaf 2 at 30
      refine ⟨congrArg (fun z => some (Value.int (bi z))) ?_, ?_⟩
      ·
        first
          | exact (decide_eq_false (fun q => absurd q.1 (by omega))).symm
          | exact (decide_eq_false (fun q => h22 q.2)).symm
          | exact (decide_eq_true ⟨by omega, h22⟩).symm
      · rfl

set_option maxRecDepth 100000 in
set_option maxHeartbeats 4000000 in
theorem c_X6_token (l : Launch) (Γ : Gam) (G : GG) (T : MU) (n : Nat) (hT : TpR G T n) (q : Nat) (hq : G 47 9 = nI q) (hqn : q ≤ n) : Sp l yX6_token cX6_token 1 none 2 48 [.ref (gad Γ 47)] Γ G (pV (fun G' => RT G' T n q ∧ G' 47 11 = G 47 11 ∧ FrT G G')) := by
  refine Sp_of (own := RX6) rfl (by decide +kernel) rfl (Nat.le_of_ble_eq_true rfl) (fun X hX hR => ?_)
  show WP X Γ 0 [some (.ref (gad Γ 47))] [] G
  have J104 : ∀ (s : Nat) (G2 : GG), (srt T n q = s) → (G2 47 8 = nI (frm T n q)) → (G2 47 9 = nI (frm T n q)) → (G2 47 10 = nI 0) → (G2 47 11 = G 47 11) → (FrT G G2) → WP X Γ 104 [some (.ref (gad Γ 47))] [.int (nI s), .ref (gad Γ 47)] G2 := by
    intro s G2 hs a8 a9 a10 a11 aF
    have hfb := frm_b (T := T) hqn
    have hn120 := hT.2.1
    have hs3 : s ≤ 3 := hs ▸ srt_le
    obtain ⟨f, hf⟩ : ∃ f, f = frm T n q := ⟨_, rfl⟩
    rw [← hf] at a8 a9 hfb
    refine r_put hX dX6_token_104 (q := 107) rfl fX6_190 wX6_7 rfl rfl rfl ⟨by decide, by decide, rfl⟩ ?_
    have b7 : up G2 47 7 (nI s) 47 7 = nI s := up_eq
    have b8 : up G2 47 7 (nI s) 47 8 = nI f := (up_ne (by omega)).trans a8
    have b9 : up G2 47 7 (nI s) 47 9 = nI f := (up_ne (by omega)).trans a9
    have b10 : up G2 47 7 (nI s) 47 10 = nI 0 := (up_ne (by omega)).trans a10
    have b11 : up G2 47 7 (nI s) 47 11 = G 47 11 := (up_ne (by omega)).trans a11
    have bF : FrT G (up G2 47 7 (nI s)) := aF.u (by decide)
    generalize up G2 47 7 (nI s) = G3 at b7 b8 b9 b10 b11 bF ⊢
    refine r_aload0 hX dX6_token_107 (q := 108) rfl ?_
    refine r_getI hX dX6_token_108 (q := 111) rfl fX6_190 rfl ⟨by decide, by decide, rfl⟩ ?_
    rw [b7]
    refine r_iconst hX dX6_token_111 (q := 112) rfl (v := nI 3) (by decide +kernel) ?_
    first | refine r_icmpN_ne hX dX6_token_112 (q := 115) rfl (tgt := 125) (by decide) (by first | omega | decide) (by first | omega | decide) (fun h112 => ?_) (fun h112 => ?_) | refine r_icmp_ne hX dX6_token_112 (q := 115) rfl (tgt := 125) (by decide) (fun h112 => ?_) (fun h112 => ?_)
    ·
      have L125 : ∀ (zn125 : Nat) (t : Nat) (G4 : GG), zn125 = n - t → (t ≤ n) → (G4 47 7 = nI s) → (G4 47 8 = nI f) → (G4 47 9 = nI t) → (G4 47 10 = nI 0) → (G4 47 11 = G 47 11) → (FrT G G4) → ((s = 1 ∧ run isL T n f = run isL T n t) ∨ (¬ s = 1 ∧ t = if s = 3 then f + 1 else f)) → WP X Γ 125 [some (.ref (gad Γ 47))] [] G4 := by
        intro zn125
        induction zn125 using Nat.strongRecOn with
        | _ zn125 ih125 =>
          intro t G4 zh125 ht c7 c8 c9 c10 c11 cF hr
          have cT := hT.t cF
          refine r_aload0 hX dX6_token_125 (q := 126) rfl ?_
          refine r_getI hX dX6_token_126 (q := 129) rfl fX6_190 rfl ⟨by decide, by decide, rfl⟩ ?_
          rw [c7]
          refine r_iconst hX dX6_token_129 (q := 130) rfl (v := nI 1) (by decide +kernel) ?_
          first | refine r_icmpN_ne hX dX6_token_130 (q := 133) rfl (tgt := 161) (by decide) (by first | omega | decide) (by first | omega | decide) (fun h130 => ?_) (fun h130 => ?_) | refine r_icmp_ne hX dX6_token_130 (q := 133) rfl (tgt := 161) (by decide) (fun h130 => ?_) (fun h130 => ?_)
          ·
            have ht2 : (¬ s = 2 → t = nxt T n q) ∧ (s = 2 → t = f) := by
              rw [nxt_of hs hf]
              rcases hr with ⟨z, e⟩ | ⟨z, e⟩
              · refine ⟨fun _ => ?_, fun w => by omega⟩
                rw [if_neg (by omega), if_pos z, e]
                first | exact absurd z h130 | exact (run_fixL h145).symm
              · refine ⟨fun w => ?_, fun w => by rw [e, if_neg (by omega)]⟩
                rw [e]
                by_cases z0 : s = 0
                · rw [if_pos z0, if_neg (by omega)]
                · rw [if_neg z0, if_neg z, if_neg w, if_pos (by omega)]
            have L161 : ∀ (zn161 : Nat) (t2 : Nat) (G5 : GG), zn161 = n - t2 → (t2 ≤ n) → (G5 47 7 = nI s) → (G5 47 8 = nI f) → (G5 47 9 = nI t2) → (G5 47 11 = G 47 11) → (FrT G G5) → (∃ w, w ≤ 99999 ∧ G5 47 10 = nI w ∧ ((s = 2 ∧ f ≤ t2 ∧ run isD T n f = run isD T n t2 ∧ min 10000 w = vlF T f (t2 - f)) ∨ (¬ s = 2 ∧ t2 = nxt T n q ∧ w = 0))) → WP X Γ 161 [some (.ref (gad Γ 47))] [] G5 := by
              intro zn161
              induction zn161 using Nat.strongRecOn with
              | _ zn161 ih161 =>
                intro t2 G5 zh161 hu d7 d8 d9 d11 dF hw0
                obtain ⟨w, hw9, d10, hw⟩ := hw0
                have dT := hT.t dF
                refine r_aload0 hX dX6_token_161 (q := 162) rfl ?_
                refine r_getI hX dX6_token_162 (q := 165) rfl fX6_190 rfl ⟨by decide, by decide, rfl⟩ ?_
                rw [d7]
                refine r_iconst hX dX6_token_165 (q := 166) rfl (v := nI 2) (by decide +kernel) ?_
                first | refine r_icmpN_ne hX dX6_token_166 (q := 169) rfl (tgt := 238) (by decide) (by first | omega | decide) (by first | omega | decide) (fun h166 => ?_) (fun h166 => ?_) | refine r_icmp_ne hX dX6_token_166 (q := 169) rfl (tgt := 238) (by decide) (fun h166 => ?_) (fun h166 => ?_)
                ·
                  refine r_vret hX hR dX6_token_238 ?_
                  -- leaf 0 at 238
                  refine ⟨rfl, ?_⟩
                  have hx : t2 = nxt T n q := by
                    rcases hw with ⟨z, z1, z2, z3⟩ | ⟨z, z1, z2⟩
                    · rw [nxt_of hs hf, if_neg (by omega), if_neg (by omega), if_pos z, z2]
                      first | exact absurd z h166 | exact (run_fixD h181).symm
                    · exact z1
                  refine ⟨⟨hqn, by rw [d7, hs], by rw [d8, hf], by rw [d9, hx], w, hw9, d10, fun z => ?_⟩, d11, dF⟩
                  rcases hw with ⟨z0, z1, z2, z3⟩ | ⟨z0, z1, z2⟩
                  · unfold val
                    rw [← hf, ← hx]
                    exact z3
                  · exact absurd (hs.symm.trans z) z0
                ·
                  refine r_aload0 hX dX6_token_169 (q := 170) rfl ?_
                  refine r_aload0 hX dX6_token_170 (q := 171) rfl ?_
                  refine r_getI hX dX6_token_171 (q := 174) rfl fX6_177 rfl ⟨by decide, by decide, rfl⟩ ?_
                  refine r_bipush hX dX6_token_174 (q := 176) rfl (v := nI 48) (by decide +kernel) ?_
                  refine r_bipush hX dX6_token_176 (q := 178) rfl (v := nI 57) (by decide +kernel) ?_
                  refine r_callV hX dX6_token_178 (q := 181) rfl (c_X6_isByte _ Γ _ T n dT _ t2 d9 (by omega) 48 57) kX6_183 mlX6_isByte mvX6_isByte rfl rfl rfl ⟨by decide, rfl⟩ ⟨by decide, by decide⟩ (Nat.le_of_ble_eq_true rfl) (keB ?_)
                  first | with_reducible refine r_ifd_eq hX dX6_token_181 (q := 184) rfl (tgt := 238) (by decide) (fun h181 => ?_) (fun h181 => ?_) | refine r_ifb_eq hX dX6_token_181 (q := 184) rfl (tgt := 238) (by decide) (fun h181 => ?_) (fun h181 => ?_)
                  ·
                    refine r_vret hX hR dX6_token_238 ?_
                    -- leaf 1 at 238
                    refine ⟨rfl, ?_⟩
                    have hx : t2 = nxt T n q := by
                      rcases hw with ⟨z, z1, z2, z3⟩ | ⟨z, z1, z2⟩
                      · rw [nxt_of hs hf, if_neg (by omega), if_neg (by omega), if_pos z, z2]
                        first | exact absurd z h166 | exact (run_fixD h181).symm
                      · exact z1
                    refine ⟨⟨hqn, by rw [d7, hs], by rw [d8, hf], by rw [d9, hx], w, hw9, d10, fun z => ?_⟩, d11, dF⟩
                    rcases hw with ⟨z0, z1, z2, z3⟩ | ⟨z0, z1, z2⟩
                    · unfold val
                      rw [← hf, ← hx]
                      exact z3
                    · exact absurd (hs.symm.trans z) z0
                  ·
                    obtain ⟨hlt, hb1, hb2⟩ := h181
                    obtain ⟨c0a, c0b, c0⟩ := ix1_of (by decide) (by decide) ⟨hb1, hb2⟩
                    obtain ⟨z2, w1, w2, w3⟩ := hw.resolve_right (fun q => q.1 h166)
                    refine r_aload0 hX dX6_token_184 (q := 185) rfl ?_
                    refine r_aload0 hX dX6_token_185 (q := 186) rfl ?_
                    refine r_getI hX dX6_token_186 (q := 189) rfl fX6_187 rfl ⟨by decide, by decide, rfl⟩ ?_
                    rw [d10]
                    refine r_sipush hX dX6_token_189 (q := 192) rfl (v := nI 9999) (by decide +kernel) ?_
                    first | refine r_icmpN_le hX dX6_token_192 (q := 195) rfl (tgt := 202) (by decide) (by first | omega | decide) (by first | omega | decide) (fun h192 => ?_) (fun h192 => ?_) | refine r_icmp_le hX dX6_token_192 (q := 195) rfl (tgt := 202) (by decide) (fun h192 => ?_) (fun h192 => ?_)
                    ·
                      refine r_bipush hX dX6_token_202 (q := 204) rfl (v := nI 10) (by decide +kernel) ?_
                      refine r_aload0 hX dX6_token_204 (q := 205) rfl ?_
                      refine r_getI hX dX6_token_205 (q := 208) rfl fX6_187 rfl ⟨by decide, by decide, rfl⟩ ?_
                      rw [d10]
                      refine r_imul hX dX6_token_208 (q := 209) rfl ?_
                      refine r_aload0 hX dX6_token_209 (q := 210) rfl ?_
                      refine r_getR hX dX6_token_210 (q := 213) rfl fX6_22 rfl ⟨by decide, by decide, rfl⟩ ?_
                      refine r_aload0 hX dX6_token_213 (q := 214) rfl ?_
                      refine r_getI hX dX6_token_214 (q := 217) rfl fX6_177 rfl ⟨by decide, by decide, rfl⟩ ?_
                      refine r_ialdN hX dX6_token_217 (q := 218) rfl rfl d9 (by omega) (by first | decide | omega) ?_
                      rw [dT.2.2 t2 hlt]
                      refine r_iadd hX dX6_token_218 (q := 219) rfl ?_
                      refine r_bipush hX dX6_token_219 (q := 221) rfl (v := nI 48) (by decide +kernel) ?_
                      refine r_isub hX dX6_token_221 (q := 222) rfl ?_
                      try rw [vl_add c0 c0a]
                      refine r_put hX dX6_token_222 (q := 225) rfl fX6_187 wX6_10 rfl rfl rfl ⟨by decide, by decide, rfl⟩ ?_
                      refine r_aload0 hX dX6_token_225 (q := 226) rfl ?_
                      refine r_dup hX dX6_token_226 (q := 227) rfl rfl ?_
                      refine r_getI hX dX6_token_227 (q := 230) rfl fX6_177 rfl ⟨by decide, by decide, rfl⟩ ?_
                      refine r_iconst hX dX6_token_230 (q := 231) rfl (v := nI 1) (by decide +kernel) ?_
                      refine r_iadd hX dX6_token_231 (q := 232) rfl ?_
                      refine r_put hX dX6_token_232 (q := 235) rfl fX6_177 wX6_9 rfl rfl rfl ⟨by decide, by decide, rfl⟩ ?_
                      refine r_goto hX dX6_token_235 (tgt := 161) (by decide) ?_
                      refine ih161 _ ?_ (t2 + 1) _ rfl ?_ ?_ ?_ ?_ ?_ ?_ ?_
                      ·
                        omega
                      ·
                        omega
                      ·
                        exact (up_ne (by omega)).trans ((up_ne (by omega)).trans d7)
                      ·
                        exact (up_ne (by omega)).trans ((up_ne (by omega)).trans d8)
                      ·
                        rw [up_eq, up_ne (by omega), d9, nI_add]
                      ·
                        exact (up_ne (by omega)).trans ((up_ne (by omega)).trans d11)
                      ·
                        exact (dF.u (by decide)).u (by decide)
                      ·
                        have hv := vl_s (T := T) (q := f) (k := t2 - f)
                        rw [show f + (t2 - f) = t2 by omega] at hv
                        have hdg : dg (T t2) ≤ 9 := by unfold dg; omega
                        have hrun := w2.trans (run_step hlt (decide_eq_true ⟨hb1, hb2⟩))
                        first
                          | exact ⟨10 * w + dg (T t2), by omega, (up_ne (by omega)).trans up_eq, Or.inl ⟨z2, by omega, hrun, by rw [show t2 + 1 - f = t2 - f + 1 by omega, hv, ← w3]; omega⟩⟩
                          | exact ⟨w, by omega, (up_ne (by omega)).trans up_eq, Or.inl ⟨z2, by omega, hrun, by rw [show t2 + 1 - f = t2 - f + 1 by omega, hv, ← w3]; omega⟩⟩
                    ·
                      refine r_aload0 hX dX6_token_195 (q := 196) rfl ?_
                      refine r_getI hX dX6_token_196 (q := 199) rfl fX6_187 rfl ⟨by decide, by decide, rfl⟩ ?_
                      rw [d10]
                      refine r_goto hX dX6_token_199 (tgt := 222) (by decide) ?_
                      try rw [vl_add c0 c0a]
                      refine r_put hX dX6_token_222 (q := 225) rfl fX6_187 wX6_10 rfl rfl rfl ⟨by decide, by decide, rfl⟩ ?_
                      refine r_aload0 hX dX6_token_225 (q := 226) rfl ?_
                      refine r_dup hX dX6_token_226 (q := 227) rfl rfl ?_
                      refine r_getI hX dX6_token_227 (q := 230) rfl fX6_177 rfl ⟨by decide, by decide, rfl⟩ ?_
                      refine r_iconst hX dX6_token_230 (q := 231) rfl (v := nI 1) (by decide +kernel) ?_
                      refine r_iadd hX dX6_token_231 (q := 232) rfl ?_
                      refine r_put hX dX6_token_232 (q := 235) rfl fX6_177 wX6_9 rfl rfl rfl ⟨by decide, by decide, rfl⟩ ?_
                      refine r_goto hX dX6_token_235 (tgt := 161) (by decide) ?_
                      refine ih161 _ ?_ (t2 + 1) _ rfl ?_ ?_ ?_ ?_ ?_ ?_ ?_
                      ·
                        omega
                      ·
                        omega
                      ·
                        exact (up_ne (by omega)).trans ((up_ne (by omega)).trans d7)
                      ·
                        exact (up_ne (by omega)).trans ((up_ne (by omega)).trans d8)
                      ·
                        rw [up_eq, up_ne (by omega), d9, nI_add]
                      ·
                        exact (up_ne (by omega)).trans ((up_ne (by omega)).trans d11)
                      ·
                        exact (dF.u (by decide)).u (by decide)
                      ·
                        have hv := vl_s (T := T) (q := f) (k := t2 - f)
                        rw [show f + (t2 - f) = t2 by omega] at hv
                        have hdg : dg (T t2) ≤ 9 := by unfold dg; omega
                        have hrun := w2.trans (run_step hlt (decide_eq_true ⟨hb1, hb2⟩))
                        first
                          | exact ⟨10 * w + dg (T t2), by omega, (up_ne (by omega)).trans up_eq, Or.inl ⟨z2, by omega, hrun, by rw [show t2 + 1 - f = t2 - f + 1 by omega, hv, ← w3]; omega⟩⟩
                          | exact ⟨w, by omega, (up_ne (by omega)).trans up_eq, Or.inl ⟨z2, by omega, hrun, by rw [show t2 + 1 - f = t2 - f + 1 by omega, hv, ← w3]; omega⟩⟩
            refine L161 _ t _ rfl ?_ ?_ ?_ ?_ ?_ ?_ ?_
            ·
              exact ht
            ·
              exact c7
            ·
              exact c8
            ·
              exact c9
            ·
              exact c11
            ·
              exact cF
            ·
              refine ⟨0, by omega, c10, ?_⟩
              by_cases z : s = 2
              · refine Or.inl ⟨z, by have := ht2.2 z; omega, by rw [ht2.2 z], ?_⟩
                rw [ht2.2 z, Nat.sub_self]
                rfl
              · exact Or.inr ⟨z, ht2.1 z, rfl⟩
          ·
            refine r_aload0 hX dX6_token_133 (q := 134) rfl ?_
            refine r_aload0 hX dX6_token_134 (q := 135) rfl ?_
            refine r_getI hX dX6_token_135 (q := 138) rfl fX6_177 rfl ⟨by decide, by decide, rfl⟩ ?_
            refine r_bipush hX dX6_token_138 (q := 140) rfl (v := nI 97) (by decide +kernel) ?_
            refine r_bipush hX dX6_token_140 (q := 142) rfl (v := nI 122) (by decide +kernel) ?_
            refine r_callV hX dX6_token_142 (q := 145) rfl (c_X6_isByte _ Γ _ T n cT _ t c9 (by omega) 97 122) kX6_183 mlX6_isByte mvX6_isByte rfl rfl rfl ⟨by decide, rfl⟩ ⟨by decide, by decide⟩ (Nat.le_of_ble_eq_true rfl) (keB ?_)
            first | with_reducible refine r_ifd_eq hX dX6_token_145 (q := 148) rfl (tgt := 161) (by decide) (fun h145 => ?_) (fun h145 => ?_) | refine r_ifb_eq hX dX6_token_145 (q := 148) rfl (tgt := 161) (by decide) (fun h145 => ?_) (fun h145 => ?_)
            ·
              have ht2 : (¬ s = 2 → t = nxt T n q) ∧ (s = 2 → t = f) := by
                rw [nxt_of hs hf]
                rcases hr with ⟨z, e⟩ | ⟨z, e⟩
                · refine ⟨fun _ => ?_, fun w => by omega⟩
                  rw [if_neg (by omega), if_pos z, e]
                  first | exact absurd z h130 | exact (run_fixL h145).symm
                · refine ⟨fun w => ?_, fun w => by rw [e, if_neg (by omega)]⟩
                  rw [e]
                  by_cases z0 : s = 0
                  · rw [if_pos z0, if_neg (by omega)]
                  · rw [if_neg z0, if_neg z, if_neg w, if_pos (by omega)]
              have L161 : ∀ (zn161 : Nat) (t2 : Nat) (G5 : GG), zn161 = n - t2 → (t2 ≤ n) → (G5 47 7 = nI s) → (G5 47 8 = nI f) → (G5 47 9 = nI t2) → (G5 47 11 = G 47 11) → (FrT G G5) → (∃ w, w ≤ 99999 ∧ G5 47 10 = nI w ∧ ((s = 2 ∧ f ≤ t2 ∧ run isD T n f = run isD T n t2 ∧ min 10000 w = vlF T f (t2 - f)) ∨ (¬ s = 2 ∧ t2 = nxt T n q ∧ w = 0))) → WP X Γ 161 [some (.ref (gad Γ 47))] [] G5 := by
                intro zn161
                induction zn161 using Nat.strongRecOn with
                | _ zn161 ih161 =>
                  intro t2 G5 zh161 hu d7 d8 d9 d11 dF hw0
                  obtain ⟨w, hw9, d10, hw⟩ := hw0
                  have dT := hT.t dF
                  refine r_aload0 hX dX6_token_161 (q := 162) rfl ?_
                  refine r_getI hX dX6_token_162 (q := 165) rfl fX6_190 rfl ⟨by decide, by decide, rfl⟩ ?_
                  rw [d7]
                  refine r_iconst hX dX6_token_165 (q := 166) rfl (v := nI 2) (by decide +kernel) ?_
                  first | refine r_icmpN_ne hX dX6_token_166 (q := 169) rfl (tgt := 238) (by decide) (by first | omega | decide) (by first | omega | decide) (fun h166 => ?_) (fun h166 => ?_) | refine r_icmp_ne hX dX6_token_166 (q := 169) rfl (tgt := 238) (by decide) (fun h166 => ?_) (fun h166 => ?_)
                  ·
                    refine r_vret hX hR dX6_token_238 ?_
                    -- leaf 2 at 238
                    refine ⟨rfl, ?_⟩
                    have hx : t2 = nxt T n q := by
                      rcases hw with ⟨z, z1, z2, z3⟩ | ⟨z, z1, z2⟩
                      · rw [nxt_of hs hf, if_neg (by omega), if_neg (by omega), if_pos z, z2]
                        first | exact absurd z h166 | exact (run_fixD h181).symm
                      · exact z1
                    refine ⟨⟨hqn, by rw [d7, hs], by rw [d8, hf], by rw [d9, hx], w, hw9, d10, fun z => ?_⟩, d11, dF⟩
                    rcases hw with ⟨z0, z1, z2, z3⟩ | ⟨z0, z1, z2⟩
                    · unfold val
                      rw [← hf, ← hx]
                      exact z3
                    · exact absurd (hs.symm.trans z) z0
                  ·
                    refine r_aload0 hX dX6_token_169 (q := 170) rfl ?_
                    refine r_aload0 hX dX6_token_170 (q := 171) rfl ?_
                    refine r_getI hX dX6_token_171 (q := 174) rfl fX6_177 rfl ⟨by decide, by decide, rfl⟩ ?_
                    refine r_bipush hX dX6_token_174 (q := 176) rfl (v := nI 48) (by decide +kernel) ?_
                    refine r_bipush hX dX6_token_176 (q := 178) rfl (v := nI 57) (by decide +kernel) ?_
                    refine r_callV hX dX6_token_178 (q := 181) rfl (c_X6_isByte _ Γ _ T n dT _ t2 d9 (by omega) 48 57) kX6_183 mlX6_isByte mvX6_isByte rfl rfl rfl ⟨by decide, rfl⟩ ⟨by decide, by decide⟩ (Nat.le_of_ble_eq_true rfl) (keB ?_)
                    first | with_reducible refine r_ifd_eq hX dX6_token_181 (q := 184) rfl (tgt := 238) (by decide) (fun h181 => ?_) (fun h181 => ?_) | refine r_ifb_eq hX dX6_token_181 (q := 184) rfl (tgt := 238) (by decide) (fun h181 => ?_) (fun h181 => ?_)
                    ·
                      refine r_vret hX hR dX6_token_238 ?_
                      -- leaf 3 at 238
                      refine ⟨rfl, ?_⟩
                      have hx : t2 = nxt T n q := by
                        rcases hw with ⟨z, z1, z2, z3⟩ | ⟨z, z1, z2⟩
                        · rw [nxt_of hs hf, if_neg (by omega), if_neg (by omega), if_pos z, z2]
                          first | exact absurd z h166 | exact (run_fixD h181).symm
                        · exact z1
                      refine ⟨⟨hqn, by rw [d7, hs], by rw [d8, hf], by rw [d9, hx], w, hw9, d10, fun z => ?_⟩, d11, dF⟩
                      rcases hw with ⟨z0, z1, z2, z3⟩ | ⟨z0, z1, z2⟩
                      · unfold val
                        rw [← hf, ← hx]
                        exact z3
                      · exact absurd (hs.symm.trans z) z0
                    ·
                      obtain ⟨hlt, hb1, hb2⟩ := h181
                      obtain ⟨c0a, c0b, c0⟩ := ix1_of (by decide) (by decide) ⟨hb1, hb2⟩
                      obtain ⟨z2, w1, w2, w3⟩ := hw.resolve_right (fun q => q.1 h166)
                      refine r_aload0 hX dX6_token_184 (q := 185) rfl ?_
                      refine r_aload0 hX dX6_token_185 (q := 186) rfl ?_
                      refine r_getI hX dX6_token_186 (q := 189) rfl fX6_187 rfl ⟨by decide, by decide, rfl⟩ ?_
                      rw [d10]
                      refine r_sipush hX dX6_token_189 (q := 192) rfl (v := nI 9999) (by decide +kernel) ?_
                      first | refine r_icmpN_le hX dX6_token_192 (q := 195) rfl (tgt := 202) (by decide) (by first | omega | decide) (by first | omega | decide) (fun h192 => ?_) (fun h192 => ?_) | refine r_icmp_le hX dX6_token_192 (q := 195) rfl (tgt := 202) (by decide) (fun h192 => ?_) (fun h192 => ?_)
                      ·
                        refine r_bipush hX dX6_token_202 (q := 204) rfl (v := nI 10) (by decide +kernel) ?_
                        refine r_aload0 hX dX6_token_204 (q := 205) rfl ?_
                        refine r_getI hX dX6_token_205 (q := 208) rfl fX6_187 rfl ⟨by decide, by decide, rfl⟩ ?_
                        rw [d10]
                        refine r_imul hX dX6_token_208 (q := 209) rfl ?_
                        refine r_aload0 hX dX6_token_209 (q := 210) rfl ?_
                        refine r_getR hX dX6_token_210 (q := 213) rfl fX6_22 rfl ⟨by decide, by decide, rfl⟩ ?_
                        refine r_aload0 hX dX6_token_213 (q := 214) rfl ?_
                        refine r_getI hX dX6_token_214 (q := 217) rfl fX6_177 rfl ⟨by decide, by decide, rfl⟩ ?_
                        refine r_ialdN hX dX6_token_217 (q := 218) rfl rfl d9 (by omega) (by first | decide | omega) ?_
                        rw [dT.2.2 t2 hlt]
                        refine r_iadd hX dX6_token_218 (q := 219) rfl ?_
                        refine r_bipush hX dX6_token_219 (q := 221) rfl (v := nI 48) (by decide +kernel) ?_
                        refine r_isub hX dX6_token_221 (q := 222) rfl ?_
                        try rw [vl_add c0 c0a]
                        refine r_put hX dX6_token_222 (q := 225) rfl fX6_187 wX6_10 rfl rfl rfl ⟨by decide, by decide, rfl⟩ ?_
                        refine r_aload0 hX dX6_token_225 (q := 226) rfl ?_
                        refine r_dup hX dX6_token_226 (q := 227) rfl rfl ?_
                        refine r_getI hX dX6_token_227 (q := 230) rfl fX6_177 rfl ⟨by decide, by decide, rfl⟩ ?_
                        refine r_iconst hX dX6_token_230 (q := 231) rfl (v := nI 1) (by decide +kernel) ?_
                        refine r_iadd hX dX6_token_231 (q := 232) rfl ?_
                        refine r_put hX dX6_token_232 (q := 235) rfl fX6_177 wX6_9 rfl rfl rfl ⟨by decide, by decide, rfl⟩ ?_
                        refine r_goto hX dX6_token_235 (tgt := 161) (by decide) ?_
                        refine ih161 _ ?_ (t2 + 1) _ rfl ?_ ?_ ?_ ?_ ?_ ?_ ?_
                        ·
                          omega
                        ·
                          omega
                        ·
                          exact (up_ne (by omega)).trans ((up_ne (by omega)).trans d7)
                        ·
                          exact (up_ne (by omega)).trans ((up_ne (by omega)).trans d8)
                        ·
                          rw [up_eq, up_ne (by omega), d9, nI_add]
                        ·
                          exact (up_ne (by omega)).trans ((up_ne (by omega)).trans d11)
                        ·
                          exact (dF.u (by decide)).u (by decide)
                        ·
                          have hv := vl_s (T := T) (q := f) (k := t2 - f)
                          rw [show f + (t2 - f) = t2 by omega] at hv
                          have hdg : dg (T t2) ≤ 9 := by unfold dg; omega
                          have hrun := w2.trans (run_step hlt (decide_eq_true ⟨hb1, hb2⟩))
                          first
                            | exact ⟨10 * w + dg (T t2), by omega, (up_ne (by omega)).trans up_eq, Or.inl ⟨z2, by omega, hrun, by rw [show t2 + 1 - f = t2 - f + 1 by omega, hv, ← w3]; omega⟩⟩
                            | exact ⟨w, by omega, (up_ne (by omega)).trans up_eq, Or.inl ⟨z2, by omega, hrun, by rw [show t2 + 1 - f = t2 - f + 1 by omega, hv, ← w3]; omega⟩⟩
                      ·
                        refine r_aload0 hX dX6_token_195 (q := 196) rfl ?_
                        refine r_getI hX dX6_token_196 (q := 199) rfl fX6_187 rfl ⟨by decide, by decide, rfl⟩ ?_
                        rw [d10]
                        refine r_goto hX dX6_token_199 (tgt := 222) (by decide) ?_
                        try rw [vl_add c0 c0a]
                        refine r_put hX dX6_token_222 (q := 225) rfl fX6_187 wX6_10 rfl rfl rfl ⟨by decide, by decide, rfl⟩ ?_
                        refine r_aload0 hX dX6_token_225 (q := 226) rfl ?_
                        refine r_dup hX dX6_token_226 (q := 227) rfl rfl ?_
                        refine r_getI hX dX6_token_227 (q := 230) rfl fX6_177 rfl ⟨by decide, by decide, rfl⟩ ?_
                        refine r_iconst hX dX6_token_230 (q := 231) rfl (v := nI 1) (by decide +kernel) ?_
                        refine r_iadd hX dX6_token_231 (q := 232) rfl ?_
                        refine r_put hX dX6_token_232 (q := 235) rfl fX6_177 wX6_9 rfl rfl rfl ⟨by decide, by decide, rfl⟩ ?_
                        refine r_goto hX dX6_token_235 (tgt := 161) (by decide) ?_
                        refine ih161 _ ?_ (t2 + 1) _ rfl ?_ ?_ ?_ ?_ ?_ ?_ ?_
                        ·
                          omega
                        ·
                          omega
                        ·
                          exact (up_ne (by omega)).trans ((up_ne (by omega)).trans d7)
                        ·
                          exact (up_ne (by omega)).trans ((up_ne (by omega)).trans d8)
                        ·
                          rw [up_eq, up_ne (by omega), d9, nI_add]
                        ·
                          exact (up_ne (by omega)).trans ((up_ne (by omega)).trans d11)
                        ·
                          exact (dF.u (by decide)).u (by decide)
                        ·
                          have hv := vl_s (T := T) (q := f) (k := t2 - f)
                          rw [show f + (t2 - f) = t2 by omega] at hv
                          have hdg : dg (T t2) ≤ 9 := by unfold dg; omega
                          have hrun := w2.trans (run_step hlt (decide_eq_true ⟨hb1, hb2⟩))
                          first
                            | exact ⟨10 * w + dg (T t2), by omega, (up_ne (by omega)).trans up_eq, Or.inl ⟨z2, by omega, hrun, by rw [show t2 + 1 - f = t2 - f + 1 by omega, hv, ← w3]; omega⟩⟩
                            | exact ⟨w, by omega, (up_ne (by omega)).trans up_eq, Or.inl ⟨z2, by omega, hrun, by rw [show t2 + 1 - f = t2 - f + 1 by omega, hv, ← w3]; omega⟩⟩
              refine L161 _ t _ rfl ?_ ?_ ?_ ?_ ?_ ?_ ?_
              ·
                exact ht
              ·
                exact c7
              ·
                exact c8
              ·
                exact c9
              ·
                exact c11
              ·
                exact cF
              ·
                refine ⟨0, by omega, c10, ?_⟩
                by_cases z : s = 2
                · refine Or.inl ⟨z, by have := ht2.2 z; omega, by rw [ht2.2 z], ?_⟩
                  rw [ht2.2 z, Nat.sub_self]
                  rfl
                · exact Or.inr ⟨z, ht2.1 z, rfl⟩
            ·
              obtain ⟨hlt, hb1, hb2⟩ := h145
              refine r_aload0 hX dX6_token_148 (q := 149) rfl ?_
              refine r_dup hX dX6_token_149 (q := 150) rfl rfl ?_
              refine r_getI hX dX6_token_150 (q := 153) rfl fX6_177 rfl ⟨by decide, by decide, rfl⟩ ?_
              refine r_iconst hX dX6_token_153 (q := 154) rfl (v := nI 1) (by decide +kernel) ?_
              refine r_iadd hX dX6_token_154 (q := 155) rfl ?_
              refine r_put hX dX6_token_155 (q := 158) rfl fX6_177 wX6_9 rfl rfl rfl ⟨by decide, by decide, rfl⟩ ?_
              refine r_goto hX dX6_token_158 (tgt := 125) (by decide) ?_
              refine ih125 _ ?_ (t + 1) _ rfl ?_ ?_ ?_ ?_ ?_ ?_ ?_ ?_
              ·
                omega
              ·
                omega
              ·
                exact (up_ne (by omega)).trans c7
              ·
                exact (up_ne (by omega)).trans c8
              ·
                rw [up_eq, c9, nI_add]
              ·
                exact (up_ne (by omega)).trans c10
              ·
                exact (up_ne (by omega)).trans c11
              ·
                exact cF.u (by decide)
              ·
                rcases hr with ⟨z, e⟩ | ⟨z, e⟩
                · exact Or.inl ⟨z, e.trans (run_step hlt (decide_eq_true ⟨hb1, hb2⟩))⟩
                · exact absurd h130 z
      refine L125 _ (if s = 3 then f + 1 else f) _ rfl ?_ ?_ ?_ ?_ ?_ ?_ ?_ ?_
      ·
        split
        · have := srt_lt (T := T) (n := n) (p := q) (by omega)
          omega
        · omega
      ·
        first | exact b7 | exact (up_ne (by omega)).trans b7
      ·
        first | exact b8 | exact (up_ne (by omega)).trans b8
      ·
        first | (rw [if_neg h112]; exact b9) | (rw [if_pos h112, up_eq, b9, nI_add])
      ·
        first | exact b10 | exact (up_ne (by omega)).trans b10
      ·
        first | exact b11 | exact (up_ne (by omega)).trans b11
      ·
        first | exact bF | exact bF.u (by decide)
      ·
        by_cases z : s = 1
        · refine Or.inl ⟨z, ?_⟩
          rw [if_neg (by omega)]
        · exact Or.inr ⟨z, rfl⟩
    ·
      refine r_aload0 hX dX6_token_115 (q := 116) rfl ?_
      refine r_dup hX dX6_token_116 (q := 117) rfl rfl ?_
      refine r_getI hX dX6_token_117 (q := 120) rfl fX6_177 rfl ⟨by decide, by decide, rfl⟩ ?_
      refine r_iconst hX dX6_token_120 (q := 121) rfl (v := nI 1) (by decide +kernel) ?_
      refine r_iadd hX dX6_token_121 (q := 122) rfl ?_
      refine r_put hX dX6_token_122 (q := 125) rfl fX6_177 wX6_9 rfl rfl rfl ⟨by decide, by decide, rfl⟩ ?_
      have L125 : ∀ (zn125 : Nat) (t : Nat) (G4 : GG), zn125 = n - t → (t ≤ n) → (G4 47 7 = nI s) → (G4 47 8 = nI f) → (G4 47 9 = nI t) → (G4 47 10 = nI 0) → (G4 47 11 = G 47 11) → (FrT G G4) → ((s = 1 ∧ run isL T n f = run isL T n t) ∨ (¬ s = 1 ∧ t = if s = 3 then f + 1 else f)) → WP X Γ 125 [some (.ref (gad Γ 47))] [] G4 := by
        intro zn125
        induction zn125 using Nat.strongRecOn with
        | _ zn125 ih125 =>
          intro t G4 zh125 ht c7 c8 c9 c10 c11 cF hr
          have cT := hT.t cF
          refine r_aload0 hX dX6_token_125 (q := 126) rfl ?_
          refine r_getI hX dX6_token_126 (q := 129) rfl fX6_190 rfl ⟨by decide, by decide, rfl⟩ ?_
          rw [c7]
          refine r_iconst hX dX6_token_129 (q := 130) rfl (v := nI 1) (by decide +kernel) ?_
          first | refine r_icmpN_ne hX dX6_token_130 (q := 133) rfl (tgt := 161) (by decide) (by first | omega | decide) (by first | omega | decide) (fun h130 => ?_) (fun h130 => ?_) | refine r_icmp_ne hX dX6_token_130 (q := 133) rfl (tgt := 161) (by decide) (fun h130 => ?_) (fun h130 => ?_)
          ·
            have ht2 : (¬ s = 2 → t = nxt T n q) ∧ (s = 2 → t = f) := by
              rw [nxt_of hs hf]
              rcases hr with ⟨z, e⟩ | ⟨z, e⟩
              · refine ⟨fun _ => ?_, fun w => by omega⟩
                rw [if_neg (by omega), if_pos z, e]
                first | exact absurd z h130 | exact (run_fixL h145).symm
              · refine ⟨fun w => ?_, fun w => by rw [e, if_neg (by omega)]⟩
                rw [e]
                by_cases z0 : s = 0
                · rw [if_pos z0, if_neg (by omega)]
                · rw [if_neg z0, if_neg z, if_neg w, if_pos (by omega)]
            have L161 : ∀ (zn161 : Nat) (t2 : Nat) (G5 : GG), zn161 = n - t2 → (t2 ≤ n) → (G5 47 7 = nI s) → (G5 47 8 = nI f) → (G5 47 9 = nI t2) → (G5 47 11 = G 47 11) → (FrT G G5) → (∃ w, w ≤ 99999 ∧ G5 47 10 = nI w ∧ ((s = 2 ∧ f ≤ t2 ∧ run isD T n f = run isD T n t2 ∧ min 10000 w = vlF T f (t2 - f)) ∨ (¬ s = 2 ∧ t2 = nxt T n q ∧ w = 0))) → WP X Γ 161 [some (.ref (gad Γ 47))] [] G5 := by
              intro zn161
              induction zn161 using Nat.strongRecOn with
              | _ zn161 ih161 =>
                intro t2 G5 zh161 hu d7 d8 d9 d11 dF hw0
                obtain ⟨w, hw9, d10, hw⟩ := hw0
                have dT := hT.t dF
                refine r_aload0 hX dX6_token_161 (q := 162) rfl ?_
                refine r_getI hX dX6_token_162 (q := 165) rfl fX6_190 rfl ⟨by decide, by decide, rfl⟩ ?_
                rw [d7]
                refine r_iconst hX dX6_token_165 (q := 166) rfl (v := nI 2) (by decide +kernel) ?_
                first | refine r_icmpN_ne hX dX6_token_166 (q := 169) rfl (tgt := 238) (by decide) (by first | omega | decide) (by first | omega | decide) (fun h166 => ?_) (fun h166 => ?_) | refine r_icmp_ne hX dX6_token_166 (q := 169) rfl (tgt := 238) (by decide) (fun h166 => ?_) (fun h166 => ?_)
                ·
                  refine r_vret hX hR dX6_token_238 ?_
                  -- leaf 4 at 238
                  refine ⟨rfl, ?_⟩
                  have hx : t2 = nxt T n q := by
                    rcases hw with ⟨z, z1, z2, z3⟩ | ⟨z, z1, z2⟩
                    · rw [nxt_of hs hf, if_neg (by omega), if_neg (by omega), if_pos z, z2]
                      first | exact absurd z h166 | exact (run_fixD h181).symm
                    · exact z1
                  refine ⟨⟨hqn, by rw [d7, hs], by rw [d8, hf], by rw [d9, hx], w, hw9, d10, fun z => ?_⟩, d11, dF⟩
                  rcases hw with ⟨z0, z1, z2, z3⟩ | ⟨z0, z1, z2⟩
                  · unfold val
                    rw [← hf, ← hx]
                    exact z3
                  · exact absurd (hs.symm.trans z) z0
                ·
                  refine r_aload0 hX dX6_token_169 (q := 170) rfl ?_
                  refine r_aload0 hX dX6_token_170 (q := 171) rfl ?_
                  refine r_getI hX dX6_token_171 (q := 174) rfl fX6_177 rfl ⟨by decide, by decide, rfl⟩ ?_
                  refine r_bipush hX dX6_token_174 (q := 176) rfl (v := nI 48) (by decide +kernel) ?_
                  refine r_bipush hX dX6_token_176 (q := 178) rfl (v := nI 57) (by decide +kernel) ?_
                  refine r_callV hX dX6_token_178 (q := 181) rfl (c_X6_isByte _ Γ _ T n dT _ t2 d9 (by omega) 48 57) kX6_183 mlX6_isByte mvX6_isByte rfl rfl rfl ⟨by decide, rfl⟩ ⟨by decide, by decide⟩ (Nat.le_of_ble_eq_true rfl) (keB ?_)
                  first | with_reducible refine r_ifd_eq hX dX6_token_181 (q := 184) rfl (tgt := 238) (by decide) (fun h181 => ?_) (fun h181 => ?_) | refine r_ifb_eq hX dX6_token_181 (q := 184) rfl (tgt := 238) (by decide) (fun h181 => ?_) (fun h181 => ?_)
                  ·
                    refine r_vret hX hR dX6_token_238 ?_
                    -- leaf 5 at 238
                    refine ⟨rfl, ?_⟩
                    have hx : t2 = nxt T n q := by
                      rcases hw with ⟨z, z1, z2, z3⟩ | ⟨z, z1, z2⟩
                      · rw [nxt_of hs hf, if_neg (by omega), if_neg (by omega), if_pos z, z2]
                        first | exact absurd z h166 | exact (run_fixD h181).symm
                      · exact z1
                    refine ⟨⟨hqn, by rw [d7, hs], by rw [d8, hf], by rw [d9, hx], w, hw9, d10, fun z => ?_⟩, d11, dF⟩
                    rcases hw with ⟨z0, z1, z2, z3⟩ | ⟨z0, z1, z2⟩
                    · unfold val
                      rw [← hf, ← hx]
                      exact z3
                    · exact absurd (hs.symm.trans z) z0
                  ·
                    obtain ⟨hlt, hb1, hb2⟩ := h181
                    obtain ⟨c0a, c0b, c0⟩ := ix1_of (by decide) (by decide) ⟨hb1, hb2⟩
                    obtain ⟨z2, w1, w2, w3⟩ := hw.resolve_right (fun q => q.1 h166)
                    refine r_aload0 hX dX6_token_184 (q := 185) rfl ?_
                    refine r_aload0 hX dX6_token_185 (q := 186) rfl ?_
                    refine r_getI hX dX6_token_186 (q := 189) rfl fX6_187 rfl ⟨by decide, by decide, rfl⟩ ?_
                    rw [d10]
                    refine r_sipush hX dX6_token_189 (q := 192) rfl (v := nI 9999) (by decide +kernel) ?_
                    first | refine r_icmpN_le hX dX6_token_192 (q := 195) rfl (tgt := 202) (by decide) (by first | omega | decide) (by first | omega | decide) (fun h192 => ?_) (fun h192 => ?_) | refine r_icmp_le hX dX6_token_192 (q := 195) rfl (tgt := 202) (by decide) (fun h192 => ?_) (fun h192 => ?_)
                    ·
                      refine r_bipush hX dX6_token_202 (q := 204) rfl (v := nI 10) (by decide +kernel) ?_
                      refine r_aload0 hX dX6_token_204 (q := 205) rfl ?_
                      refine r_getI hX dX6_token_205 (q := 208) rfl fX6_187 rfl ⟨by decide, by decide, rfl⟩ ?_
                      rw [d10]
                      refine r_imul hX dX6_token_208 (q := 209) rfl ?_
                      refine r_aload0 hX dX6_token_209 (q := 210) rfl ?_
                      refine r_getR hX dX6_token_210 (q := 213) rfl fX6_22 rfl ⟨by decide, by decide, rfl⟩ ?_
                      refine r_aload0 hX dX6_token_213 (q := 214) rfl ?_
                      refine r_getI hX dX6_token_214 (q := 217) rfl fX6_177 rfl ⟨by decide, by decide, rfl⟩ ?_
                      refine r_ialdN hX dX6_token_217 (q := 218) rfl rfl d9 (by omega) (by first | decide | omega) ?_
                      rw [dT.2.2 t2 hlt]
                      refine r_iadd hX dX6_token_218 (q := 219) rfl ?_
                      refine r_bipush hX dX6_token_219 (q := 221) rfl (v := nI 48) (by decide +kernel) ?_
                      refine r_isub hX dX6_token_221 (q := 222) rfl ?_
                      try rw [vl_add c0 c0a]
                      refine r_put hX dX6_token_222 (q := 225) rfl fX6_187 wX6_10 rfl rfl rfl ⟨by decide, by decide, rfl⟩ ?_
                      refine r_aload0 hX dX6_token_225 (q := 226) rfl ?_
                      refine r_dup hX dX6_token_226 (q := 227) rfl rfl ?_
                      refine r_getI hX dX6_token_227 (q := 230) rfl fX6_177 rfl ⟨by decide, by decide, rfl⟩ ?_
                      refine r_iconst hX dX6_token_230 (q := 231) rfl (v := nI 1) (by decide +kernel) ?_
                      refine r_iadd hX dX6_token_231 (q := 232) rfl ?_
                      refine r_put hX dX6_token_232 (q := 235) rfl fX6_177 wX6_9 rfl rfl rfl ⟨by decide, by decide, rfl⟩ ?_
                      refine r_goto hX dX6_token_235 (tgt := 161) (by decide) ?_
                      refine ih161 _ ?_ (t2 + 1) _ rfl ?_ ?_ ?_ ?_ ?_ ?_ ?_
                      ·
                        omega
                      ·
                        omega
                      ·
                        exact (up_ne (by omega)).trans ((up_ne (by omega)).trans d7)
                      ·
                        exact (up_ne (by omega)).trans ((up_ne (by omega)).trans d8)
                      ·
                        rw [up_eq, up_ne (by omega), d9, nI_add]
                      ·
                        exact (up_ne (by omega)).trans ((up_ne (by omega)).trans d11)
                      ·
                        exact (dF.u (by decide)).u (by decide)
                      ·
                        have hv := vl_s (T := T) (q := f) (k := t2 - f)
                        rw [show f + (t2 - f) = t2 by omega] at hv
                        have hdg : dg (T t2) ≤ 9 := by unfold dg; omega
                        have hrun := w2.trans (run_step hlt (decide_eq_true ⟨hb1, hb2⟩))
                        first
                          | exact ⟨10 * w + dg (T t2), by omega, (up_ne (by omega)).trans up_eq, Or.inl ⟨z2, by omega, hrun, by rw [show t2 + 1 - f = t2 - f + 1 by omega, hv, ← w3]; omega⟩⟩
                          | exact ⟨w, by omega, (up_ne (by omega)).trans up_eq, Or.inl ⟨z2, by omega, hrun, by rw [show t2 + 1 - f = t2 - f + 1 by omega, hv, ← w3]; omega⟩⟩
                    ·
                      refine r_aload0 hX dX6_token_195 (q := 196) rfl ?_
                      refine r_getI hX dX6_token_196 (q := 199) rfl fX6_187 rfl ⟨by decide, by decide, rfl⟩ ?_
                      rw [d10]
                      refine r_goto hX dX6_token_199 (tgt := 222) (by decide) ?_
                      try rw [vl_add c0 c0a]
                      refine r_put hX dX6_token_222 (q := 225) rfl fX6_187 wX6_10 rfl rfl rfl ⟨by decide, by decide, rfl⟩ ?_
                      refine r_aload0 hX dX6_token_225 (q := 226) rfl ?_
                      refine r_dup hX dX6_token_226 (q := 227) rfl rfl ?_
                      refine r_getI hX dX6_token_227 (q := 230) rfl fX6_177 rfl ⟨by decide, by decide, rfl⟩ ?_
                      refine r_iconst hX dX6_token_230 (q := 231) rfl (v := nI 1) (by decide +kernel) ?_
                      refine r_iadd hX dX6_token_231 (q := 232) rfl ?_
                      refine r_put hX dX6_token_232 (q := 235) rfl fX6_177 wX6_9 rfl rfl rfl ⟨by decide, by decide, rfl⟩ ?_
                      refine r_goto hX dX6_token_235 (tgt := 161) (by decide) ?_
                      refine ih161 _ ?_ (t2 + 1) _ rfl ?_ ?_ ?_ ?_ ?_ ?_ ?_
                      ·
                        omega
                      ·
                        omega
                      ·
                        exact (up_ne (by omega)).trans ((up_ne (by omega)).trans d7)
                      ·
                        exact (up_ne (by omega)).trans ((up_ne (by omega)).trans d8)
                      ·
                        rw [up_eq, up_ne (by omega), d9, nI_add]
                      ·
                        exact (up_ne (by omega)).trans ((up_ne (by omega)).trans d11)
                      ·
                        exact (dF.u (by decide)).u (by decide)
                      ·
                        have hv := vl_s (T := T) (q := f) (k := t2 - f)
                        rw [show f + (t2 - f) = t2 by omega] at hv
                        have hdg : dg (T t2) ≤ 9 := by unfold dg; omega
                        have hrun := w2.trans (run_step hlt (decide_eq_true ⟨hb1, hb2⟩))
                        first
                          | exact ⟨10 * w + dg (T t2), by omega, (up_ne (by omega)).trans up_eq, Or.inl ⟨z2, by omega, hrun, by rw [show t2 + 1 - f = t2 - f + 1 by omega, hv, ← w3]; omega⟩⟩
                          | exact ⟨w, by omega, (up_ne (by omega)).trans up_eq, Or.inl ⟨z2, by omega, hrun, by rw [show t2 + 1 - f = t2 - f + 1 by omega, hv, ← w3]; omega⟩⟩
            refine L161 _ t _ rfl ?_ ?_ ?_ ?_ ?_ ?_ ?_
            ·
              exact ht
            ·
              exact c7
            ·
              exact c8
            ·
              exact c9
            ·
              exact c11
            ·
              exact cF
            ·
              refine ⟨0, by omega, c10, ?_⟩
              by_cases z : s = 2
              · refine Or.inl ⟨z, by have := ht2.2 z; omega, by rw [ht2.2 z], ?_⟩
                rw [ht2.2 z, Nat.sub_self]
                rfl
              · exact Or.inr ⟨z, ht2.1 z, rfl⟩
          ·
            refine r_aload0 hX dX6_token_133 (q := 134) rfl ?_
            refine r_aload0 hX dX6_token_134 (q := 135) rfl ?_
            refine r_getI hX dX6_token_135 (q := 138) rfl fX6_177 rfl ⟨by decide, by decide, rfl⟩ ?_
            refine r_bipush hX dX6_token_138 (q := 140) rfl (v := nI 97) (by decide +kernel) ?_
            refine r_bipush hX dX6_token_140 (q := 142) rfl (v := nI 122) (by decide +kernel) ?_
            refine r_callV hX dX6_token_142 (q := 145) rfl (c_X6_isByte _ Γ _ T n cT _ t c9 (by omega) 97 122) kX6_183 mlX6_isByte mvX6_isByte rfl rfl rfl ⟨by decide, rfl⟩ ⟨by decide, by decide⟩ (Nat.le_of_ble_eq_true rfl) (keB ?_)
            first | with_reducible refine r_ifd_eq hX dX6_token_145 (q := 148) rfl (tgt := 161) (by decide) (fun h145 => ?_) (fun h145 => ?_) | refine r_ifb_eq hX dX6_token_145 (q := 148) rfl (tgt := 161) (by decide) (fun h145 => ?_) (fun h145 => ?_)
            ·
              have ht2 : (¬ s = 2 → t = nxt T n q) ∧ (s = 2 → t = f) := by
                rw [nxt_of hs hf]
                rcases hr with ⟨z, e⟩ | ⟨z, e⟩
                · refine ⟨fun _ => ?_, fun w => by omega⟩
                  rw [if_neg (by omega), if_pos z, e]
                  first | exact absurd z h130 | exact (run_fixL h145).symm
                · refine ⟨fun w => ?_, fun w => by rw [e, if_neg (by omega)]⟩
                  rw [e]
                  by_cases z0 : s = 0
                  · rw [if_pos z0, if_neg (by omega)]
                  · rw [if_neg z0, if_neg z, if_neg w, if_pos (by omega)]
              have L161 : ∀ (zn161 : Nat) (t2 : Nat) (G5 : GG), zn161 = n - t2 → (t2 ≤ n) → (G5 47 7 = nI s) → (G5 47 8 = nI f) → (G5 47 9 = nI t2) → (G5 47 11 = G 47 11) → (FrT G G5) → (∃ w, w ≤ 99999 ∧ G5 47 10 = nI w ∧ ((s = 2 ∧ f ≤ t2 ∧ run isD T n f = run isD T n t2 ∧ min 10000 w = vlF T f (t2 - f)) ∨ (¬ s = 2 ∧ t2 = nxt T n q ∧ w = 0))) → WP X Γ 161 [some (.ref (gad Γ 47))] [] G5 := by
                intro zn161
                induction zn161 using Nat.strongRecOn with
                | _ zn161 ih161 =>
                  intro t2 G5 zh161 hu d7 d8 d9 d11 dF hw0
                  obtain ⟨w, hw9, d10, hw⟩ := hw0
                  have dT := hT.t dF
                  refine r_aload0 hX dX6_token_161 (q := 162) rfl ?_
                  refine r_getI hX dX6_token_162 (q := 165) rfl fX6_190 rfl ⟨by decide, by decide, rfl⟩ ?_
                  rw [d7]
                  refine r_iconst hX dX6_token_165 (q := 166) rfl (v := nI 2) (by decide +kernel) ?_
                  first | refine r_icmpN_ne hX dX6_token_166 (q := 169) rfl (tgt := 238) (by decide) (by first | omega | decide) (by first | omega | decide) (fun h166 => ?_) (fun h166 => ?_) | refine r_icmp_ne hX dX6_token_166 (q := 169) rfl (tgt := 238) (by decide) (fun h166 => ?_) (fun h166 => ?_)
                  ·
                    refine r_vret hX hR dX6_token_238 ?_
                    -- leaf 6 at 238
                    refine ⟨rfl, ?_⟩
                    have hx : t2 = nxt T n q := by
                      rcases hw with ⟨z, z1, z2, z3⟩ | ⟨z, z1, z2⟩
                      · rw [nxt_of hs hf, if_neg (by omega), if_neg (by omega), if_pos z, z2]
                        first | exact absurd z h166 | exact (run_fixD h181).symm
                      · exact z1
                    refine ⟨⟨hqn, by rw [d7, hs], by rw [d8, hf], by rw [d9, hx], w, hw9, d10, fun z => ?_⟩, d11, dF⟩
                    rcases hw with ⟨z0, z1, z2, z3⟩ | ⟨z0, z1, z2⟩
                    · unfold val
                      rw [← hf, ← hx]
                      exact z3
                    · exact absurd (hs.symm.trans z) z0
                  ·
                    refine r_aload0 hX dX6_token_169 (q := 170) rfl ?_
                    refine r_aload0 hX dX6_token_170 (q := 171) rfl ?_
                    refine r_getI hX dX6_token_171 (q := 174) rfl fX6_177 rfl ⟨by decide, by decide, rfl⟩ ?_
                    refine r_bipush hX dX6_token_174 (q := 176) rfl (v := nI 48) (by decide +kernel) ?_
                    refine r_bipush hX dX6_token_176 (q := 178) rfl (v := nI 57) (by decide +kernel) ?_
                    refine r_callV hX dX6_token_178 (q := 181) rfl (c_X6_isByte _ Γ _ T n dT _ t2 d9 (by omega) 48 57) kX6_183 mlX6_isByte mvX6_isByte rfl rfl rfl ⟨by decide, rfl⟩ ⟨by decide, by decide⟩ (Nat.le_of_ble_eq_true rfl) (keB ?_)
                    first | with_reducible refine r_ifd_eq hX dX6_token_181 (q := 184) rfl (tgt := 238) (by decide) (fun h181 => ?_) (fun h181 => ?_) | refine r_ifb_eq hX dX6_token_181 (q := 184) rfl (tgt := 238) (by decide) (fun h181 => ?_) (fun h181 => ?_)
                    ·
                      refine r_vret hX hR dX6_token_238 ?_
                      -- leaf 7 at 238
                      refine ⟨rfl, ?_⟩
                      have hx : t2 = nxt T n q := by
                        rcases hw with ⟨z, z1, z2, z3⟩ | ⟨z, z1, z2⟩
                        · rw [nxt_of hs hf, if_neg (by omega), if_neg (by omega), if_pos z, z2]
                          first | exact absurd z h166 | exact (run_fixD h181).symm
                        · exact z1
                      refine ⟨⟨hqn, by rw [d7, hs], by rw [d8, hf], by rw [d9, hx], w, hw9, d10, fun z => ?_⟩, d11, dF⟩
                      rcases hw with ⟨z0, z1, z2, z3⟩ | ⟨z0, z1, z2⟩
                      · unfold val
                        rw [← hf, ← hx]
                        exact z3
                      · exact absurd (hs.symm.trans z) z0
                    ·
                      obtain ⟨hlt, hb1, hb2⟩ := h181
                      obtain ⟨c0a, c0b, c0⟩ := ix1_of (by decide) (by decide) ⟨hb1, hb2⟩
                      obtain ⟨z2, w1, w2, w3⟩ := hw.resolve_right (fun q => q.1 h166)
                      refine r_aload0 hX dX6_token_184 (q := 185) rfl ?_
                      refine r_aload0 hX dX6_token_185 (q := 186) rfl ?_
                      refine r_getI hX dX6_token_186 (q := 189) rfl fX6_187 rfl ⟨by decide, by decide, rfl⟩ ?_
                      rw [d10]
                      refine r_sipush hX dX6_token_189 (q := 192) rfl (v := nI 9999) (by decide +kernel) ?_
                      first | refine r_icmpN_le hX dX6_token_192 (q := 195) rfl (tgt := 202) (by decide) (by first | omega | decide) (by first | omega | decide) (fun h192 => ?_) (fun h192 => ?_) | refine r_icmp_le hX dX6_token_192 (q := 195) rfl (tgt := 202) (by decide) (fun h192 => ?_) (fun h192 => ?_)
                      ·
                        refine r_bipush hX dX6_token_202 (q := 204) rfl (v := nI 10) (by decide +kernel) ?_
                        refine r_aload0 hX dX6_token_204 (q := 205) rfl ?_
                        refine r_getI hX dX6_token_205 (q := 208) rfl fX6_187 rfl ⟨by decide, by decide, rfl⟩ ?_
                        rw [d10]
                        refine r_imul hX dX6_token_208 (q := 209) rfl ?_
                        refine r_aload0 hX dX6_token_209 (q := 210) rfl ?_
                        refine r_getR hX dX6_token_210 (q := 213) rfl fX6_22 rfl ⟨by decide, by decide, rfl⟩ ?_
                        refine r_aload0 hX dX6_token_213 (q := 214) rfl ?_
                        refine r_getI hX dX6_token_214 (q := 217) rfl fX6_177 rfl ⟨by decide, by decide, rfl⟩ ?_
                        refine r_ialdN hX dX6_token_217 (q := 218) rfl rfl d9 (by omega) (by first | decide | omega) ?_
                        rw [dT.2.2 t2 hlt]
                        refine r_iadd hX dX6_token_218 (q := 219) rfl ?_
                        refine r_bipush hX dX6_token_219 (q := 221) rfl (v := nI 48) (by decide +kernel) ?_
                        refine r_isub hX dX6_token_221 (q := 222) rfl ?_
                        try rw [vl_add c0 c0a]
                        refine r_put hX dX6_token_222 (q := 225) rfl fX6_187 wX6_10 rfl rfl rfl ⟨by decide, by decide, rfl⟩ ?_
                        refine r_aload0 hX dX6_token_225 (q := 226) rfl ?_
                        refine r_dup hX dX6_token_226 (q := 227) rfl rfl ?_
                        refine r_getI hX dX6_token_227 (q := 230) rfl fX6_177 rfl ⟨by decide, by decide, rfl⟩ ?_
                        refine r_iconst hX dX6_token_230 (q := 231) rfl (v := nI 1) (by decide +kernel) ?_
                        refine r_iadd hX dX6_token_231 (q := 232) rfl ?_
                        refine r_put hX dX6_token_232 (q := 235) rfl fX6_177 wX6_9 rfl rfl rfl ⟨by decide, by decide, rfl⟩ ?_
                        refine r_goto hX dX6_token_235 (tgt := 161) (by decide) ?_
                        refine ih161 _ ?_ (t2 + 1) _ rfl ?_ ?_ ?_ ?_ ?_ ?_ ?_
                        ·
                          omega
                        ·
                          omega
                        ·
                          exact (up_ne (by omega)).trans ((up_ne (by omega)).trans d7)
                        ·
                          exact (up_ne (by omega)).trans ((up_ne (by omega)).trans d8)
                        ·
                          rw [up_eq, up_ne (by omega), d9, nI_add]
                        ·
                          exact (up_ne (by omega)).trans ((up_ne (by omega)).trans d11)
                        ·
                          exact (dF.u (by decide)).u (by decide)
                        ·
                          have hv := vl_s (T := T) (q := f) (k := t2 - f)
                          rw [show f + (t2 - f) = t2 by omega] at hv
                          have hdg : dg (T t2) ≤ 9 := by unfold dg; omega
                          have hrun := w2.trans (run_step hlt (decide_eq_true ⟨hb1, hb2⟩))
                          first
                            | exact ⟨10 * w + dg (T t2), by omega, (up_ne (by omega)).trans up_eq, Or.inl ⟨z2, by omega, hrun, by rw [show t2 + 1 - f = t2 - f + 1 by omega, hv, ← w3]; omega⟩⟩
                            | exact ⟨w, by omega, (up_ne (by omega)).trans up_eq, Or.inl ⟨z2, by omega, hrun, by rw [show t2 + 1 - f = t2 - f + 1 by omega, hv, ← w3]; omega⟩⟩
                      ·
                        refine r_aload0 hX dX6_token_195 (q := 196) rfl ?_
                        refine r_getI hX dX6_token_196 (q := 199) rfl fX6_187 rfl ⟨by decide, by decide, rfl⟩ ?_
                        rw [d10]
                        refine r_goto hX dX6_token_199 (tgt := 222) (by decide) ?_
                        try rw [vl_add c0 c0a]
                        refine r_put hX dX6_token_222 (q := 225) rfl fX6_187 wX6_10 rfl rfl rfl ⟨by decide, by decide, rfl⟩ ?_
                        refine r_aload0 hX dX6_token_225 (q := 226) rfl ?_
                        refine r_dup hX dX6_token_226 (q := 227) rfl rfl ?_
                        refine r_getI hX dX6_token_227 (q := 230) rfl fX6_177 rfl ⟨by decide, by decide, rfl⟩ ?_
                        refine r_iconst hX dX6_token_230 (q := 231) rfl (v := nI 1) (by decide +kernel) ?_
                        refine r_iadd hX dX6_token_231 (q := 232) rfl ?_
                        refine r_put hX dX6_token_232 (q := 235) rfl fX6_177 wX6_9 rfl rfl rfl ⟨by decide, by decide, rfl⟩ ?_
                        refine r_goto hX dX6_token_235 (tgt := 161) (by decide) ?_
                        refine ih161 _ ?_ (t2 + 1) _ rfl ?_ ?_ ?_ ?_ ?_ ?_ ?_
                        ·
                          omega
                        ·
                          omega
                        ·
                          exact (up_ne (by omega)).trans ((up_ne (by omega)).trans d7)
                        ·
                          exact (up_ne (by omega)).trans ((up_ne (by omega)).trans d8)
                        ·
                          rw [up_eq, up_ne (by omega), d9, nI_add]
                        ·
                          exact (up_ne (by omega)).trans ((up_ne (by omega)).trans d11)
                        ·
                          exact (dF.u (by decide)).u (by decide)
                        ·
                          have hv := vl_s (T := T) (q := f) (k := t2 - f)
                          rw [show f + (t2 - f) = t2 by omega] at hv
                          have hdg : dg (T t2) ≤ 9 := by unfold dg; omega
                          have hrun := w2.trans (run_step hlt (decide_eq_true ⟨hb1, hb2⟩))
                          first
                            | exact ⟨10 * w + dg (T t2), by omega, (up_ne (by omega)).trans up_eq, Or.inl ⟨z2, by omega, hrun, by rw [show t2 + 1 - f = t2 - f + 1 by omega, hv, ← w3]; omega⟩⟩
                            | exact ⟨w, by omega, (up_ne (by omega)).trans up_eq, Or.inl ⟨z2, by omega, hrun, by rw [show t2 + 1 - f = t2 - f + 1 by omega, hv, ← w3]; omega⟩⟩
              refine L161 _ t _ rfl ?_ ?_ ?_ ?_ ?_ ?_ ?_
              ·
                exact ht
              ·
                exact c7
              ·
                exact c8
              ·
                exact c9
              ·
                exact c11
              ·
                exact cF
              ·
                refine ⟨0, by omega, c10, ?_⟩
                by_cases z : s = 2
                · refine Or.inl ⟨z, by have := ht2.2 z; omega, by rw [ht2.2 z], ?_⟩
                  rw [ht2.2 z, Nat.sub_self]
                  rfl
                · exact Or.inr ⟨z, ht2.1 z, rfl⟩
            ·
              obtain ⟨hlt, hb1, hb2⟩ := h145
              refine r_aload0 hX dX6_token_148 (q := 149) rfl ?_
              refine r_dup hX dX6_token_149 (q := 150) rfl rfl ?_
              refine r_getI hX dX6_token_150 (q := 153) rfl fX6_177 rfl ⟨by decide, by decide, rfl⟩ ?_
              refine r_iconst hX dX6_token_153 (q := 154) rfl (v := nI 1) (by decide +kernel) ?_
              refine r_iadd hX dX6_token_154 (q := 155) rfl ?_
              refine r_put hX dX6_token_155 (q := 158) rfl fX6_177 wX6_9 rfl rfl rfl ⟨by decide, by decide, rfl⟩ ?_
              refine r_goto hX dX6_token_158 (tgt := 125) (by decide) ?_
              refine ih125 _ ?_ (t + 1) _ rfl ?_ ?_ ?_ ?_ ?_ ?_ ?_ ?_
              ·
                omega
              ·
                omega
              ·
                exact (up_ne (by omega)).trans c7
              ·
                exact (up_ne (by omega)).trans c8
              ·
                rw [up_eq, c9, nI_add]
              ·
                exact (up_ne (by omega)).trans c10
              ·
                exact (up_ne (by omega)).trans c11
              ·
                exact cF.u (by decide)
              ·
                rcases hr with ⟨z, e⟩ | ⟨z, e⟩
                · exact Or.inl ⟨z, e.trans (run_step hlt (decide_eq_true ⟨hb1, hb2⟩))⟩
                · exact absurd h130 z
      refine L125 _ (if s = 3 then f + 1 else f) _ rfl ?_ ?_ ?_ ?_ ?_ ?_ ?_ ?_
      ·
        split
        · have := srt_lt (T := T) (n := n) (p := q) (by omega)
          omega
        · omega
      ·
        first | exact b7 | exact (up_ne (by omega)).trans b7
      ·
        first | exact b8 | exact (up_ne (by omega)).trans b8
      ·
        first | (rw [if_neg h112]; exact b9) | (rw [if_pos h112, up_eq, b9, nI_add])
      ·
        first | exact b10 | exact (up_ne (by omega)).trans b10
      ·
        first | exact b11 | exact (up_ne (by omega)).trans b11
      ·
        first | exact bF | exact bF.u (by decide)
      ·
        by_cases z : s = 1
        · refine Or.inl ⟨z, ?_⟩
          rw [if_neg (by omega)]
        · exact Or.inr ⟨z, rfl⟩
  refine r_aload0 hX dX6_token_0 (q := 1) rfl ?_
  refine r_aload0 hX dX6_token_1 (q := 2) rfl ?_
  refine r_getI hX dX6_token_2 (q := 5) rfl fX6_177 rfl ⟨by decide, by decide, rfl⟩ ?_
  refine r_put hX dX6_token_5 (q := 8) rfl fX6_180 wX6_8 rfl rfl rfl ⟨by decide, by decide, rfl⟩ ?_
  have L8 : ∀ (zn8 : Nat) (p : Nat) (G1 : GG), zn8 = n - p → (p ≤ n) → (G1 47 8 = nI p) → (frm T n p = frm T n q) → (G1 47 11 = G 47 11) → (FrT G G1) → WP X Γ 8 [some (.ref (gad Γ 47))] [] G1 := by
    intro zn8
    induction zn8 using Nat.strongRecOn with
    | _ zn8 ih8 =>
      intro p G1 zh8 hp h8 hf h11 hF
      have hT1 := hT.t hF
      have hn120 := hT.2.1
      refine r_aload0 hX dX6_token_8 (q := 9) rfl ?_
      refine r_aload0 hX dX6_token_9 (q := 10) rfl ?_
      refine r_getI hX dX6_token_10 (q := 13) rfl fX6_180 rfl ⟨by decide, by decide, rfl⟩ ?_
      refine r_bipush hX dX6_token_13 (q := 15) rfl (v := nI 32) (by decide +kernel) ?_
      refine r_bipush hX dX6_token_15 (q := 17) rfl (v := nI 32) (by decide +kernel) ?_
      refine r_callV hX dX6_token_17 (q := 20) rfl (c_X6_isByte _ Γ _ T n hT1 _ p h8 (by omega) 32 32) kX6_183 mlX6_isByte mvX6_isByte rfl rfl rfl ⟨by decide, rfl⟩ ⟨by decide, by decide⟩ (Nat.le_of_ble_eq_true rfl) (keB ?_)
      first | with_reducible refine r_ifd_eq hX dX6_token_20 (q := 23) rfl (tgt := 36) (by decide) (fun h20 => ?_) (fun h20 => ?_) | refine r_ifb_eq hX dX6_token_20 (q := 23) rfl (tgt := 36) (by decide) (fun h20 => ?_) (fun h20 => ?_)
      ·
        have hp2 : frm T n q = p := hf.symm.trans (frm_stop hp h20)
        refine r_aload0 hX dX6_token_36 (q := 37) rfl ?_
        refine r_aload0 hX dX6_token_37 (q := 38) rfl ?_
        refine r_getI hX dX6_token_38 (q := 41) rfl fX6_180 rfl ⟨by decide, by decide, rfl⟩ ?_
        refine r_put hX dX6_token_41 (q := 44) rfl fX6_177 wX6_9 rfl rfl rfl ⟨by decide, by decide, rfl⟩ ?_
        refine r_aload0 hX dX6_token_44 (q := 45) rfl ?_
        refine r_iconst hX dX6_token_45 (q := 46) rfl (v := nI 0) (by decide +kernel) ?_
        refine r_put hX dX6_token_46 (q := 49) rfl fX6_187 wX6_10 rfl rfl rfl ⟨by decide, by decide, rfl⟩ ?_
        have a8 : (up (up G1 47 9 (G1 47 8)) 47 10 (nI 0)) 47 8 = nI p := (up_ne (by omega)).trans ((up_ne (by omega)).trans h8)
        have a9 : (up (up G1 47 9 (G1 47 8)) 47 10 (nI 0)) 47 9 = nI p := (up_ne (by omega)).trans (up_eq.trans h8)
        have a10 : (up (up G1 47 9 (G1 47 8)) 47 10 (nI 0)) 47 10 = nI 0 := up_eq
        have a11 : (up (up G1 47 9 (G1 47 8)) 47 10 (nI 0)) 47 11 = G 47 11 := (up_ne (by omega)).trans ((up_ne (by omega)).trans h11)
        have aF : FrT G (up (up G1 47 9 (G1 47 8)) 47 10 (nI 0)) := (hF.u (by decide)).u (by decide)
        generalize up (up G1 47 9 (G1 47 8)) 47 10 (nI 0) = G2 at a8 a9 a10 a11 aF ⊢
        have aT := hT.t aF
        refine r_aload0 hX dX6_token_49 (q := 50) rfl ?_
        refine r_aload0 hX dX6_token_50 (q := 51) rfl ?_
        refine r_getI hX dX6_token_51 (q := 54) rfl fX6_180 rfl ⟨by decide, by decide, rfl⟩ ?_
        rw [a8]
        refine r_aload0 hX dX6_token_54 (q := 55) rfl ?_
        refine r_getI hX dX6_token_55 (q := 58) rfl fX6_173 rfl ⟨by decide, by decide, rfl⟩ ?_
        rw [aT.1]
        first | refine r_icmpN_ne hX dX6_token_58 (q := 61) rfl (tgt := 65) (by decide) (by first | omega | decide) (by first | omega | decide) (fun h58 => ?_) (fun h58 => ?_) | refine r_icmp_ne hX dX6_token_58 (q := 61) rfl (tgt := 65) (by decide) (fun h58 => ?_) (fun h58 => ?_)
        ·
          refine r_aload0 hX dX6_token_65 (q := 66) rfl ?_
          refine r_aload0 hX dX6_token_66 (q := 67) rfl ?_
          refine r_getI hX dX6_token_67 (q := 70) rfl fX6_180 rfl ⟨by decide, by decide, rfl⟩ ?_
          refine r_bipush hX dX6_token_70 (q := 72) rfl (v := nI 97) (by decide +kernel) ?_
          refine r_bipush hX dX6_token_72 (q := 74) rfl (v := nI 122) (by decide +kernel) ?_
          refine r_callV hX dX6_token_74 (q := 77) rfl (c_X6_isByte _ Γ _ T n aT _ p a8 (by omega) 97 122) kX6_183 mlX6_isByte mvX6_isByte rfl rfl rfl ⟨by decide, rfl⟩ ⟨by decide, by decide⟩ (Nat.le_of_ble_eq_true rfl) (keB ?_)
          first | with_reducible refine r_ifd_eq hX dX6_token_77 (q := 80) rfl (tgt := 84) (by decide) (fun h77 => ?_) (fun h77 => ?_) | refine r_ifb_eq hX dX6_token_77 (q := 80) rfl (tgt := 84) (by decide) (fun h77 => ?_) (fun h77 => ?_)
          ·
            refine r_aload0 hX dX6_token_84 (q := 85) rfl ?_
            refine r_aload0 hX dX6_token_85 (q := 86) rfl ?_
            refine r_getI hX dX6_token_86 (q := 89) rfl fX6_180 rfl ⟨by decide, by decide, rfl⟩ ?_
            refine r_bipush hX dX6_token_89 (q := 91) rfl (v := nI 48) (by decide +kernel) ?_
            refine r_bipush hX dX6_token_91 (q := 93) rfl (v := nI 57) (by decide +kernel) ?_
            refine r_callV hX dX6_token_93 (q := 96) rfl (c_X6_isByte _ Γ _ T n aT _ p a8 (by omega) 48 57) kX6_183 mlX6_isByte mvX6_isByte rfl rfl rfl ⟨by decide, rfl⟩ ⟨by decide, by decide⟩ (Nat.le_of_ble_eq_true rfl) (keB ?_)
            first | with_reducible refine r_ifd_eq hX dX6_token_96 (q := 99) rfl (tgt := 103) (by decide) (fun h96 => ?_) (fun h96 => ?_) | refine r_ifb_eq hX dX6_token_96 (q := 99) rfl (tgt := 103) (by decide) (fun h96 => ?_) (fun h96 => ?_)
            ·
              refine r_iconst hX dX6_token_103 (q := 104) rfl (v := nI 3) (by decide +kernel) ?_
              refine J104 3 _ ?_ ?_ ?_ ?_ ?_ ?_
              ·
                unfold srt; rw [hp2, if_neg (by omega), if_neg (show ¬ isL (T p) = true from fun z => h77 ⟨by omega, of_decide_eq_true z⟩), if_neg (show ¬ isD (T p) = true from fun z => h96 ⟨by omega, of_decide_eq_true z⟩)]
              ·
                rw [hp2]; exact a8
              ·
                rw [hp2]; exact a9
              ·
                exact a10
              ·
                exact a11
              ·
                exact aF
            ·
              refine r_iconst hX dX6_token_99 (q := 100) rfl (v := nI 2) (by decide +kernel) ?_
              refine r_goto hX dX6_token_100 (tgt := 104) (by decide) ?_
              refine J104 2 _ ?_ ?_ ?_ ?_ ?_ ?_
              ·
                unfold srt; rw [hp2, if_neg (by omega), if_neg (show ¬ isL (T p) = true from fun z => h77 ⟨by omega, of_decide_eq_true z⟩), if_pos (show isD (T p) = true from decide_eq_true h96.2)]
              ·
                rw [hp2]; exact a8
              ·
                rw [hp2]; exact a9
              ·
                exact a10
              ·
                exact a11
              ·
                exact aF
          ·
            refine r_iconst hX dX6_token_80 (q := 81) rfl (v := nI 1) (by decide +kernel) ?_
            refine r_goto hX dX6_token_81 (tgt := 104) (by decide) ?_
            refine J104 1 _ ?_ ?_ ?_ ?_ ?_ ?_
            ·
              unfold srt; rw [hp2, if_neg (by omega), if_pos (show isL (T p) = true from decide_eq_true h77.2)]
            ·
              rw [hp2]; exact a8
            ·
              rw [hp2]; exact a9
            ·
              exact a10
            ·
              exact a11
            ·
              exact aF
        ·
          refine r_iconst hX dX6_token_61 (q := 62) rfl (v := nI 0) (by decide +kernel) ?_
          refine r_goto hX dX6_token_62 (tgt := 104) (by decide) ?_
          refine J104 0 _ ?_ ?_ ?_ ?_ ?_ ?_
          ·
            unfold srt; rw [hp2, if_pos (by omega)]
          ·
            rw [hp2]; exact a8
          ·
            rw [hp2]; exact a9
          ·
            exact a10
          ·
            exact a11
          ·
            exact aF
      ·
        obtain ⟨hlt, hb1, hb2⟩ := h20
        refine r_aload0 hX dX6_token_23 (q := 24) rfl ?_
        refine r_dup hX dX6_token_24 (q := 25) rfl rfl ?_
        refine r_getI hX dX6_token_25 (q := 28) rfl fX6_180 rfl ⟨by decide, by decide, rfl⟩ ?_
        refine r_iconst hX dX6_token_28 (q := 29) rfl (v := nI 1) (by decide +kernel) ?_
        refine r_iadd hX dX6_token_29 (q := 30) rfl ?_
        refine r_put hX dX6_token_30 (q := 33) rfl fX6_180 wX6_8 rfl rfl rfl ⟨by decide, by decide, rfl⟩ ?_
        refine r_goto hX dX6_token_33 (tgt := 8) (by decide) ?_
        refine ih8 _ ?_ (p + 1) _ rfl ?_ ?_ ?_ ?_ ?_
        ·
          omega
        ·
          omega
        ·
          rw [up_eq, h8, nI_add]
        ·
          exact (frm_step hlt (decide_eq_true (Int32.le_antisymm hb2 hb1))).symm.trans hf
        ·
          exact (up_ne (by omega)).trans h11
        ·
          exact hF.u (by decide)
  refine L8 _ q _ rfl ?_ ?_ ?_ ?_ ?_
  ·
    exact hqn
  ·
    rw [up_eq]; exact hq
  ·
    rfl
  ·
    exact up_ne (by omega)
  ·
    exact FrT.rf.u (by decide)

set_option maxRecDepth 100000 in
set_option maxHeartbeats 4000000 in
theorem c_X6_isWord (l : Launch) (Γ : Gam) (G : GG) (T : MU) (n p : Nat) (bad : Bool) (hT : TpR G T n) (hRt : RT G T n p) (hb : G 47 11 = bi bad) (i : Nat) (hi : i < 17) : Sp l yX6_isWord cX6_isWord 4 (some .boolean) 4 85 [.ref (gad Γ 47), .ref (gK Γ i)] Γ G (eB G (!bad && wdB T n p i)) := by
  refine Sp_of (own := RX6) rfl (by decide +kernel) rfl (Nat.le_of_ble_eq_true rfl) (fun X hX hR => ?_)
  show WP X Γ 0 [some (.ref (gad Γ 47)), some (.ref (gK Γ i)), none, none] [] G
  have h17 : ∀ i, i < 17 → slen.getD i 0 < 8 := by decide
  have hl8 := h17 i hi
  have hnb := nxt_b (T := T) hRt.1
  have hn120 := hT.2.1
  have hs3 := srt_le (T := T) (n := n) (p := p)
  refine r_aload0 hX dX6_isWord_0 (q := 1) rfl ?_
  refine r_getI hX dX6_isWord_1 (q := 4) rfl fX6_193 rfl ⟨by decide, by decide, rfl⟩ ?_
  rw [hb]
  refine r_if_ne hX dX6_isWord_4 (q := 7) rfl (tgt := 35) (by decide) (fun h4 => ?_) (fun h4 => ?_)
  ·
    refine r_iconst hX dX6_isWord_35 (q := 36) rfl (v := nI 0) (by decide +kernel) ?_
    refine r_istore2 hX dX6_isWord_36 (q := 37) rfl rfl ?_
    refine r_iconst hX dX6_isWord_37 (q := 38) rfl (v := nI 0) (by decide +kernel) ?_
    refine r_istore3 hX dX6_isWord_38 (q := 39) rfl rfl ?_
    have L39 : ∀ (zn39 : Nat) (k : Nat) (bx : Int32), zn39 = slen.getD i 0 - k → (k ≤ slen.getD i 0) → ((bx = nI 1 ∧ bad = false ∧ srt T n p = 1 ∧ nxt T n p - frm T n p = slen.getD i 0 ∧ ∀ u, u < k → T (frm T n p + u) = (sbyt.getD i []).getD u 0) ∨ (bx = nI 0 ∧ (!bad && wdB T n p i) = false)) → WP X Γ 39 [some (.ref (gad Γ 47)), some (.ref (gK Γ i)), some (.int bx), some (.int (nI k))] [] G := by
      intro zn39
      induction zn39 using Nat.strongRecOn with
      | _ zn39 ih39 =>
        intro k bx zh39 hk hI
        refine r_iload2 hX dX6_isWord_39 (q := 40) rfl ?_
        refine r_if_eq hX dX6_isWord_40 (q := 43) rfl (tgt := 82) (by decide) (fun h40 => ?_) (fun h40 => ?_)
        ·
          refine r_iload2 hX dX6_isWord_82 (q := 83) rfl ?_
          have hbx : bx = bi (!bad && wdB T n p i) := by
            rcases hI with ⟨q1, q2, q3, q4, q5⟩ | ⟨q1, q2⟩
            · first
                | exact absurd h40 (by rw [q1]; decide +kernel)
                | (have e0 : k = slen.getD i 0 := by omega
                   subst e0
                   have hw : wdB T n p i = true := decide_eq_true ⟨q3, q4, q5⟩
                   rw [q1, q2, hw]; rfl)
            · rw [q1, q2]; rfl
          rw [hbx]
          refine r_zret hX hR dX6_isWord_83 ?_
          -- leaf 0 at 83
          refine ⟨congrArg (fun z => some (Value.int (bi z))) ?_, ?_⟩
          ·
            rfl
          · rfl
        ·
          refine r_iload3 hX dX6_isWord_43 (q := 44) rfl ?_
          refine r_aload1 hX dX6_isWord_44 (q := 45) rfl ?_
          refine r_callK hX dX6_isWord_45 (q := 48) rfl (c_J0_length_8abf5 _ Γ _ _ (by first | assumption | decide)) kX6_197 mlJ0_length_8abf5 mvJ0_length_8abf5 rfl rfl (by first | assumption | decide) rfl ⟨by decide, by decide⟩ (Nat.le_of_ble_eq_true rfl) (keI ?_)
          first | refine r_icmpN_ge hX dX6_isWord_48 (q := 51) rfl (tgt := 82) (by decide) (by first | omega | decide) (by first | omega | decide) (fun h48 => ?_) (fun h48 => ?_) | refine r_icmp_ge hX dX6_isWord_48 (q := 51) rfl (tgt := 82) (by decide) (fun h48 => ?_) (fun h48 => ?_)
          ·
            refine r_iload2 hX dX6_isWord_82 (q := 83) rfl ?_
            have hbx : bx = bi (!bad && wdB T n p i) := by
              rcases hI with ⟨q1, q2, q3, q4, q5⟩ | ⟨q1, q2⟩
              · first
                  | exact absurd h40 (by rw [q1]; decide +kernel)
                  | (have e0 : k = slen.getD i 0 := by omega
                     subst e0
                     have hw : wdB T n p i = true := decide_eq_true ⟨q3, q4, q5⟩
                     rw [q1, q2, hw]; rfl)
              · rw [q1, q2]; rfl
            rw [hbx]
            refine r_zret hX hR dX6_isWord_83 ?_
            -- leaf 1 at 83
            refine ⟨congrArg (fun z => some (Value.int (bi z))) ?_, ?_⟩
            ·
              rfl
            · rfl
          ·
            have hq4 : nxt T n p - frm T n p = slen.getD i 0 := (hI.resolve_right (fun q => h40 (q.1.trans nI_0))).2.2.2.1
            refine r_aload0 hX dX6_isWord_51 (q := 52) rfl ?_
            refine r_getR hX dX6_isWord_52 (q := 55) rfl fX6_22 rfl ⟨by decide, by decide, rfl⟩ ?_
            refine r_aload0 hX dX6_isWord_55 (q := 56) rfl ?_
            refine r_getI hX dX6_isWord_56 (q := 59) rfl fX6_180 rfl ⟨by decide, by decide, rfl⟩ ?_
            refine r_iload3 hX dX6_isWord_59 (q := 60) rfl ?_
            refine r_iadd hX dX6_isWord_60 (q := 61) rfl ?_
            refine r_ialdN hX dX6_isWord_61 (q := 62) rfl rfl (e_add hRt.2.2.1 rfl) (by omega) (by first | decide | omega) ?_
            rw [hT.2.2 _ (show frm T n p + k < n by omega)]
            refine r_aload1 hX dX6_isWord_62 (q := 63) rfl ?_
            refine r_iload3 hX dX6_isWord_63 (q := 64) rfl ?_
            refine r_callK hX dX6_isWord_64 (q := 67) rfl (c_J0_charAt_5068e _ Γ _ i hi _ k rfl (by omega)) kX6_202 mlJ0_charAt_5068e mvJ0_charAt_5068e rfl rfl (by first | assumption | decide) rfl ⟨by decide, by decide⟩ (Nat.le_of_ble_eq_true rfl) (keI ?_)
            first | refine r_icmpN_ne hX dX6_isWord_67 (q := 70) rfl (tgt := 74) (by decide) (by first | omega | decide) (by first | omega | decide) (fun h67 => ?_) (fun h67 => ?_) | refine r_icmp_ne hX dX6_isWord_67 (q := 70) rfl (tgt := 74) (by decide) (fun h67 => ?_) (fun h67 => ?_)
            ·
              refine r_iconst hX dX6_isWord_74 (q := 75) rfl (v := nI 0) (by decide +kernel) ?_
              refine r_istore2 hX dX6_isWord_75 (q := 76) rfl rfl ?_
              refine r_iincN3 hX dX6_isWord_76 (q := 79) rfl rfl ?_
              refine r_goto hX dX6_isWord_79 (tgt := 39) (by decide) ?_
              refine ih39 _ ?_ (k + 1) _ rfl ?_ ?_
              ·
                omega
              ·
                omega
              ·
                obtain ⟨q1, q2, q3, q4, q5⟩ := hI.resolve_right (fun q => h40 (q.1.trans nI_0))
                first
                  | exact Or.inr ⟨rfl, by rw [show wdB T n p i = false from decide_eq_false (fun q => h67 (q.2.2 k (by omega))), Bool.and_false]⟩
                  | (refine Or.inl ⟨rfl, q2, q3, q4, fun u hu => ?_⟩
                     by_cases e : u = k
                     · subst e; exact h67
                     · exact q5 u (by omega))
            ·
              refine r_iconst hX dX6_isWord_70 (q := 71) rfl (v := nI 1) (by decide +kernel) ?_
              refine r_goto hX dX6_isWord_71 (tgt := 75) (by decide) ?_
              refine r_istore2 hX dX6_isWord_75 (q := 76) rfl rfl ?_
              refine r_iincN3 hX dX6_isWord_76 (q := 79) rfl rfl ?_
              refine r_goto hX dX6_isWord_79 (tgt := 39) (by decide) ?_
              refine ih39 _ ?_ (k + 1) _ rfl ?_ ?_
              ·
                omega
              ·
                omega
              ·
                obtain ⟨q1, q2, q3, q4, q5⟩ := hI.resolve_right (fun q => h40 (q.1.trans nI_0))
                first
                  | exact Or.inr ⟨rfl, by rw [show wdB T n p i = false from decide_eq_false (fun q => h67 (q.2.2 k (by omega))), Bool.and_false]⟩
                  | (refine Or.inl ⟨rfl, q2, q3, q4, fun u hu => ?_⟩
                     by_cases e : u = k
                     · subst e; exact h67
                     · exact q5 u (by omega))
    refine L39 _ 0 _ rfl ?_ ?_
    ·
      exact Nat.zero_le _
    ·
      first
        | exact Or.inl ⟨rfl, bi_0 h4, h12, h28, fun u hu => absurd hu (by omega)⟩
        | exact Or.inr ⟨rfl, by rw [bi_n h4]; rfl⟩
        | exact Or.inr ⟨rfl, by rw [show wdB T n p i = false from decide_eq_false (fun q => h12 q.1), Bool.and_false]⟩
        | exact Or.inr ⟨rfl, by rw [show wdB T n p i = false from decide_eq_false (fun q => h28 q.2.1), Bool.and_false]⟩
  ·
    refine r_aload0 hX dX6_isWord_7 (q := 8) rfl ?_
    refine r_getI hX dX6_isWord_8 (q := 11) rfl fX6_190 rfl ⟨by decide, by decide, rfl⟩ ?_
    rw [hRt.2.1]
    refine r_iconst hX dX6_isWord_11 (q := 12) rfl (v := nI 1) (by decide +kernel) ?_
    first | refine r_icmpN_ne hX dX6_isWord_12 (q := 15) rfl (tgt := 35) (by decide) (by first | omega | decide) (by first | omega | decide) (fun h12 => ?_) (fun h12 => ?_) | refine r_icmp_ne hX dX6_isWord_12 (q := 15) rfl (tgt := 35) (by decide) (fun h12 => ?_) (fun h12 => ?_)
    ·
      refine r_iconst hX dX6_isWord_35 (q := 36) rfl (v := nI 0) (by decide +kernel) ?_
      refine r_istore2 hX dX6_isWord_36 (q := 37) rfl rfl ?_
      refine r_iconst hX dX6_isWord_37 (q := 38) rfl (v := nI 0) (by decide +kernel) ?_
      refine r_istore3 hX dX6_isWord_38 (q := 39) rfl rfl ?_
      have L39 : ∀ (zn39 : Nat) (k : Nat) (bx : Int32), zn39 = slen.getD i 0 - k → (k ≤ slen.getD i 0) → ((bx = nI 1 ∧ bad = false ∧ srt T n p = 1 ∧ nxt T n p - frm T n p = slen.getD i 0 ∧ ∀ u, u < k → T (frm T n p + u) = (sbyt.getD i []).getD u 0) ∨ (bx = nI 0 ∧ (!bad && wdB T n p i) = false)) → WP X Γ 39 [some (.ref (gad Γ 47)), some (.ref (gK Γ i)), some (.int bx), some (.int (nI k))] [] G := by
        intro zn39
        induction zn39 using Nat.strongRecOn with
        | _ zn39 ih39 =>
          intro k bx zh39 hk hI
          refine r_iload2 hX dX6_isWord_39 (q := 40) rfl ?_
          refine r_if_eq hX dX6_isWord_40 (q := 43) rfl (tgt := 82) (by decide) (fun h40 => ?_) (fun h40 => ?_)
          ·
            refine r_iload2 hX dX6_isWord_82 (q := 83) rfl ?_
            have hbx : bx = bi (!bad && wdB T n p i) := by
              rcases hI with ⟨q1, q2, q3, q4, q5⟩ | ⟨q1, q2⟩
              · first
                  | exact absurd h40 (by rw [q1]; decide +kernel)
                  | (have e0 : k = slen.getD i 0 := by omega
                     subst e0
                     have hw : wdB T n p i = true := decide_eq_true ⟨q3, q4, q5⟩
                     rw [q1, q2, hw]; rfl)
              · rw [q1, q2]; rfl
            rw [hbx]
            refine r_zret hX hR dX6_isWord_83 ?_
            -- leaf 2 at 83
            refine ⟨congrArg (fun z => some (Value.int (bi z))) ?_, ?_⟩
            ·
              rfl
            · rfl
          ·
            refine r_iload3 hX dX6_isWord_43 (q := 44) rfl ?_
            refine r_aload1 hX dX6_isWord_44 (q := 45) rfl ?_
            refine r_callK hX dX6_isWord_45 (q := 48) rfl (c_J0_length_8abf5 _ Γ _ _ (by first | assumption | decide)) kX6_197 mlJ0_length_8abf5 mvJ0_length_8abf5 rfl rfl (by first | assumption | decide) rfl ⟨by decide, by decide⟩ (Nat.le_of_ble_eq_true rfl) (keI ?_)
            first | refine r_icmpN_ge hX dX6_isWord_48 (q := 51) rfl (tgt := 82) (by decide) (by first | omega | decide) (by first | omega | decide) (fun h48 => ?_) (fun h48 => ?_) | refine r_icmp_ge hX dX6_isWord_48 (q := 51) rfl (tgt := 82) (by decide) (fun h48 => ?_) (fun h48 => ?_)
            ·
              refine r_iload2 hX dX6_isWord_82 (q := 83) rfl ?_
              have hbx : bx = bi (!bad && wdB T n p i) := by
                rcases hI with ⟨q1, q2, q3, q4, q5⟩ | ⟨q1, q2⟩
                · first
                    | exact absurd h40 (by rw [q1]; decide +kernel)
                    | (have e0 : k = slen.getD i 0 := by omega
                       subst e0
                       have hw : wdB T n p i = true := decide_eq_true ⟨q3, q4, q5⟩
                       rw [q1, q2, hw]; rfl)
                · rw [q1, q2]; rfl
              rw [hbx]
              refine r_zret hX hR dX6_isWord_83 ?_
              -- leaf 3 at 83
              refine ⟨congrArg (fun z => some (Value.int (bi z))) ?_, ?_⟩
              ·
                rfl
              · rfl
            ·
              have hq4 : nxt T n p - frm T n p = slen.getD i 0 := (hI.resolve_right (fun q => h40 (q.1.trans nI_0))).2.2.2.1
              refine r_aload0 hX dX6_isWord_51 (q := 52) rfl ?_
              refine r_getR hX dX6_isWord_52 (q := 55) rfl fX6_22 rfl ⟨by decide, by decide, rfl⟩ ?_
              refine r_aload0 hX dX6_isWord_55 (q := 56) rfl ?_
              refine r_getI hX dX6_isWord_56 (q := 59) rfl fX6_180 rfl ⟨by decide, by decide, rfl⟩ ?_
              refine r_iload3 hX dX6_isWord_59 (q := 60) rfl ?_
              refine r_iadd hX dX6_isWord_60 (q := 61) rfl ?_
              refine r_ialdN hX dX6_isWord_61 (q := 62) rfl rfl (e_add hRt.2.2.1 rfl) (by omega) (by first | decide | omega) ?_
              rw [hT.2.2 _ (show frm T n p + k < n by omega)]
              refine r_aload1 hX dX6_isWord_62 (q := 63) rfl ?_
              refine r_iload3 hX dX6_isWord_63 (q := 64) rfl ?_
              refine r_callK hX dX6_isWord_64 (q := 67) rfl (c_J0_charAt_5068e _ Γ _ i hi _ k rfl (by omega)) kX6_202 mlJ0_charAt_5068e mvJ0_charAt_5068e rfl rfl (by first | assumption | decide) rfl ⟨by decide, by decide⟩ (Nat.le_of_ble_eq_true rfl) (keI ?_)
              first | refine r_icmpN_ne hX dX6_isWord_67 (q := 70) rfl (tgt := 74) (by decide) (by first | omega | decide) (by first | omega | decide) (fun h67 => ?_) (fun h67 => ?_) | refine r_icmp_ne hX dX6_isWord_67 (q := 70) rfl (tgt := 74) (by decide) (fun h67 => ?_) (fun h67 => ?_)
              ·
                refine r_iconst hX dX6_isWord_74 (q := 75) rfl (v := nI 0) (by decide +kernel) ?_
                refine r_istore2 hX dX6_isWord_75 (q := 76) rfl rfl ?_
                refine r_iincN3 hX dX6_isWord_76 (q := 79) rfl rfl ?_
                refine r_goto hX dX6_isWord_79 (tgt := 39) (by decide) ?_
                refine ih39 _ ?_ (k + 1) _ rfl ?_ ?_
                ·
                  omega
                ·
                  omega
                ·
                  obtain ⟨q1, q2, q3, q4, q5⟩ := hI.resolve_right (fun q => h40 (q.1.trans nI_0))
                  first
                    | exact Or.inr ⟨rfl, by rw [show wdB T n p i = false from decide_eq_false (fun q => h67 (q.2.2 k (by omega))), Bool.and_false]⟩
                    | (refine Or.inl ⟨rfl, q2, q3, q4, fun u hu => ?_⟩
                       by_cases e : u = k
                       · subst e; exact h67
                       · exact q5 u (by omega))
              ·
                refine r_iconst hX dX6_isWord_70 (q := 71) rfl (v := nI 1) (by decide +kernel) ?_
                refine r_goto hX dX6_isWord_71 (tgt := 75) (by decide) ?_
                refine r_istore2 hX dX6_isWord_75 (q := 76) rfl rfl ?_
                refine r_iincN3 hX dX6_isWord_76 (q := 79) rfl rfl ?_
                refine r_goto hX dX6_isWord_79 (tgt := 39) (by decide) ?_
                refine ih39 _ ?_ (k + 1) _ rfl ?_ ?_
                ·
                  omega
                ·
                  omega
                ·
                  obtain ⟨q1, q2, q3, q4, q5⟩ := hI.resolve_right (fun q => h40 (q.1.trans nI_0))
                  first
                    | exact Or.inr ⟨rfl, by rw [show wdB T n p i = false from decide_eq_false (fun q => h67 (q.2.2 k (by omega))), Bool.and_false]⟩
                    | (refine Or.inl ⟨rfl, q2, q3, q4, fun u hu => ?_⟩
                       by_cases e : u = k
                       · subst e; exact h67
                       · exact q5 u (by omega))
      refine L39 _ 0 _ rfl ?_ ?_
      ·
        exact Nat.zero_le _
      ·
        first
          | exact Or.inl ⟨rfl, bi_0 h4, h12, h28, fun u hu => absurd hu (by omega)⟩
          | exact Or.inr ⟨rfl, by rw [bi_n h4]; rfl⟩
          | exact Or.inr ⟨rfl, by rw [show wdB T n p i = false from decide_eq_false (fun q => h12 q.1), Bool.and_false]⟩
          | exact Or.inr ⟨rfl, by rw [show wdB T n p i = false from decide_eq_false (fun q => h28 q.2.1), Bool.and_false]⟩
    ·
      refine r_aload0 hX dX6_isWord_15 (q := 16) rfl ?_
      refine r_getI hX dX6_isWord_16 (q := 19) rfl fX6_177 rfl ⟨by decide, by decide, rfl⟩ ?_
      refine r_aload0 hX dX6_isWord_19 (q := 20) rfl ?_
      refine r_getI hX dX6_isWord_20 (q := 23) rfl fX6_180 rfl ⟨by decide, by decide, rfl⟩ ?_
      rw [hRt.2.2.2.1, hRt.2.2.1]
      refine r_isub hX dX6_isWord_23 (q := 24) rfl ?_
      rw [pk_sub hnb.1]
      refine r_aload1 hX dX6_isWord_24 (q := 25) rfl ?_
      refine r_callK hX dX6_isWord_25 (q := 28) rfl (c_J0_length_8abf5 _ Γ _ _ (by first | assumption | decide)) kX6_197 mlJ0_length_8abf5 mvJ0_length_8abf5 rfl rfl (by first | assumption | decide) rfl ⟨by decide, by decide⟩ (Nat.le_of_ble_eq_true rfl) (keI ?_)
      first | refine r_icmpN_ne hX dX6_isWord_28 (q := 31) rfl (tgt := 35) (by decide) (by first | omega | decide) (by first | omega | decide) (fun h28 => ?_) (fun h28 => ?_) | refine r_icmp_ne hX dX6_isWord_28 (q := 31) rfl (tgt := 35) (by decide) (fun h28 => ?_) (fun h28 => ?_)
      ·
        refine r_iconst hX dX6_isWord_35 (q := 36) rfl (v := nI 0) (by decide +kernel) ?_
        refine r_istore2 hX dX6_isWord_36 (q := 37) rfl rfl ?_
        refine r_iconst hX dX6_isWord_37 (q := 38) rfl (v := nI 0) (by decide +kernel) ?_
        refine r_istore3 hX dX6_isWord_38 (q := 39) rfl rfl ?_
        have L39 : ∀ (zn39 : Nat) (k : Nat) (bx : Int32), zn39 = slen.getD i 0 - k → (k ≤ slen.getD i 0) → ((bx = nI 1 ∧ bad = false ∧ srt T n p = 1 ∧ nxt T n p - frm T n p = slen.getD i 0 ∧ ∀ u, u < k → T (frm T n p + u) = (sbyt.getD i []).getD u 0) ∨ (bx = nI 0 ∧ (!bad && wdB T n p i) = false)) → WP X Γ 39 [some (.ref (gad Γ 47)), some (.ref (gK Γ i)), some (.int bx), some (.int (nI k))] [] G := by
          intro zn39
          induction zn39 using Nat.strongRecOn with
          | _ zn39 ih39 =>
            intro k bx zh39 hk hI
            refine r_iload2 hX dX6_isWord_39 (q := 40) rfl ?_
            refine r_if_eq hX dX6_isWord_40 (q := 43) rfl (tgt := 82) (by decide) (fun h40 => ?_) (fun h40 => ?_)
            ·
              refine r_iload2 hX dX6_isWord_82 (q := 83) rfl ?_
              have hbx : bx = bi (!bad && wdB T n p i) := by
                rcases hI with ⟨q1, q2, q3, q4, q5⟩ | ⟨q1, q2⟩
                · first
                    | exact absurd h40 (by rw [q1]; decide +kernel)
                    | (have e0 : k = slen.getD i 0 := by omega
                       subst e0
                       have hw : wdB T n p i = true := decide_eq_true ⟨q3, q4, q5⟩
                       rw [q1, q2, hw]; rfl)
                · rw [q1, q2]; rfl
              rw [hbx]
              refine r_zret hX hR dX6_isWord_83 ?_
              -- leaf 4 at 83
              refine ⟨congrArg (fun z => some (Value.int (bi z))) ?_, ?_⟩
              ·
                rfl
              · rfl
            ·
              refine r_iload3 hX dX6_isWord_43 (q := 44) rfl ?_
              refine r_aload1 hX dX6_isWord_44 (q := 45) rfl ?_
              refine r_callK hX dX6_isWord_45 (q := 48) rfl (c_J0_length_8abf5 _ Γ _ _ (by first | assumption | decide)) kX6_197 mlJ0_length_8abf5 mvJ0_length_8abf5 rfl rfl (by first | assumption | decide) rfl ⟨by decide, by decide⟩ (Nat.le_of_ble_eq_true rfl) (keI ?_)
              first | refine r_icmpN_ge hX dX6_isWord_48 (q := 51) rfl (tgt := 82) (by decide) (by first | omega | decide) (by first | omega | decide) (fun h48 => ?_) (fun h48 => ?_) | refine r_icmp_ge hX dX6_isWord_48 (q := 51) rfl (tgt := 82) (by decide) (fun h48 => ?_) (fun h48 => ?_)
              ·
                refine r_iload2 hX dX6_isWord_82 (q := 83) rfl ?_
                have hbx : bx = bi (!bad && wdB T n p i) := by
                  rcases hI with ⟨q1, q2, q3, q4, q5⟩ | ⟨q1, q2⟩
                  · first
                      | exact absurd h40 (by rw [q1]; decide +kernel)
                      | (have e0 : k = slen.getD i 0 := by omega
                         subst e0
                         have hw : wdB T n p i = true := decide_eq_true ⟨q3, q4, q5⟩
                         rw [q1, q2, hw]; rfl)
                  · rw [q1, q2]; rfl
                rw [hbx]
                refine r_zret hX hR dX6_isWord_83 ?_
                -- leaf 5 at 83
                refine ⟨congrArg (fun z => some (Value.int (bi z))) ?_, ?_⟩
                ·
                  rfl
                · rfl
              ·
                have hq4 : nxt T n p - frm T n p = slen.getD i 0 := (hI.resolve_right (fun q => h40 (q.1.trans nI_0))).2.2.2.1
                refine r_aload0 hX dX6_isWord_51 (q := 52) rfl ?_
                refine r_getR hX dX6_isWord_52 (q := 55) rfl fX6_22 rfl ⟨by decide, by decide, rfl⟩ ?_
                refine r_aload0 hX dX6_isWord_55 (q := 56) rfl ?_
                refine r_getI hX dX6_isWord_56 (q := 59) rfl fX6_180 rfl ⟨by decide, by decide, rfl⟩ ?_
                refine r_iload3 hX dX6_isWord_59 (q := 60) rfl ?_
                refine r_iadd hX dX6_isWord_60 (q := 61) rfl ?_
                refine r_ialdN hX dX6_isWord_61 (q := 62) rfl rfl (e_add hRt.2.2.1 rfl) (by omega) (by first | decide | omega) ?_
                rw [hT.2.2 _ (show frm T n p + k < n by omega)]
                refine r_aload1 hX dX6_isWord_62 (q := 63) rfl ?_
                refine r_iload3 hX dX6_isWord_63 (q := 64) rfl ?_
                refine r_callK hX dX6_isWord_64 (q := 67) rfl (c_J0_charAt_5068e _ Γ _ i hi _ k rfl (by omega)) kX6_202 mlJ0_charAt_5068e mvJ0_charAt_5068e rfl rfl (by first | assumption | decide) rfl ⟨by decide, by decide⟩ (Nat.le_of_ble_eq_true rfl) (keI ?_)
                first | refine r_icmpN_ne hX dX6_isWord_67 (q := 70) rfl (tgt := 74) (by decide) (by first | omega | decide) (by first | omega | decide) (fun h67 => ?_) (fun h67 => ?_) | refine r_icmp_ne hX dX6_isWord_67 (q := 70) rfl (tgt := 74) (by decide) (fun h67 => ?_) (fun h67 => ?_)
                ·
                  refine r_iconst hX dX6_isWord_74 (q := 75) rfl (v := nI 0) (by decide +kernel) ?_
                  refine r_istore2 hX dX6_isWord_75 (q := 76) rfl rfl ?_
                  refine r_iincN3 hX dX6_isWord_76 (q := 79) rfl rfl ?_
                  refine r_goto hX dX6_isWord_79 (tgt := 39) (by decide) ?_
                  refine ih39 _ ?_ (k + 1) _ rfl ?_ ?_
                  ·
                    omega
                  ·
                    omega
                  ·
                    obtain ⟨q1, q2, q3, q4, q5⟩ := hI.resolve_right (fun q => h40 (q.1.trans nI_0))
                    first
                      | exact Or.inr ⟨rfl, by rw [show wdB T n p i = false from decide_eq_false (fun q => h67 (q.2.2 k (by omega))), Bool.and_false]⟩
                      | (refine Or.inl ⟨rfl, q2, q3, q4, fun u hu => ?_⟩
                         by_cases e : u = k
                         · subst e; exact h67
                         · exact q5 u (by omega))
                ·
                  refine r_iconst hX dX6_isWord_70 (q := 71) rfl (v := nI 1) (by decide +kernel) ?_
                  refine r_goto hX dX6_isWord_71 (tgt := 75) (by decide) ?_
                  refine r_istore2 hX dX6_isWord_75 (q := 76) rfl rfl ?_
                  refine r_iincN3 hX dX6_isWord_76 (q := 79) rfl rfl ?_
                  refine r_goto hX dX6_isWord_79 (tgt := 39) (by decide) ?_
                  refine ih39 _ ?_ (k + 1) _ rfl ?_ ?_
                  ·
                    omega
                  ·
                    omega
                  ·
                    obtain ⟨q1, q2, q3, q4, q5⟩ := hI.resolve_right (fun q => h40 (q.1.trans nI_0))
                    first
                      | exact Or.inr ⟨rfl, by rw [show wdB T n p i = false from decide_eq_false (fun q => h67 (q.2.2 k (by omega))), Bool.and_false]⟩
                      | (refine Or.inl ⟨rfl, q2, q3, q4, fun u hu => ?_⟩
                         by_cases e : u = k
                         · subst e; exact h67
                         · exact q5 u (by omega))
        refine L39 _ 0 _ rfl ?_ ?_
        ·
          exact Nat.zero_le _
        ·
          first
            | exact Or.inl ⟨rfl, bi_0 h4, h12, h28, fun u hu => absurd hu (by omega)⟩
            | exact Or.inr ⟨rfl, by rw [bi_n h4]; rfl⟩
            | exact Or.inr ⟨rfl, by rw [show wdB T n p i = false from decide_eq_false (fun q => h12 q.1), Bool.and_false]⟩
            | exact Or.inr ⟨rfl, by rw [show wdB T n p i = false from decide_eq_false (fun q => h28 q.2.1), Bool.and_false]⟩
      ·
        refine r_iconst hX dX6_isWord_31 (q := 32) rfl (v := nI 1) (by decide +kernel) ?_
        refine r_goto hX dX6_isWord_32 (tgt := 36) (by decide) ?_
        refine r_istore2 hX dX6_isWord_36 (q := 37) rfl rfl ?_
        refine r_iconst hX dX6_isWord_37 (q := 38) rfl (v := nI 0) (by decide +kernel) ?_
        refine r_istore3 hX dX6_isWord_38 (q := 39) rfl rfl ?_
        have L39 : ∀ (zn39 : Nat) (k : Nat) (bx : Int32), zn39 = slen.getD i 0 - k → (k ≤ slen.getD i 0) → ((bx = nI 1 ∧ bad = false ∧ srt T n p = 1 ∧ nxt T n p - frm T n p = slen.getD i 0 ∧ ∀ u, u < k → T (frm T n p + u) = (sbyt.getD i []).getD u 0) ∨ (bx = nI 0 ∧ (!bad && wdB T n p i) = false)) → WP X Γ 39 [some (.ref (gad Γ 47)), some (.ref (gK Γ i)), some (.int bx), some (.int (nI k))] [] G := by
          intro zn39
          induction zn39 using Nat.strongRecOn with
          | _ zn39 ih39 =>
            intro k bx zh39 hk hI
            refine r_iload2 hX dX6_isWord_39 (q := 40) rfl ?_
            refine r_if_eq hX dX6_isWord_40 (q := 43) rfl (tgt := 82) (by decide) (fun h40 => ?_) (fun h40 => ?_)
            ·
              refine r_iload2 hX dX6_isWord_82 (q := 83) rfl ?_
              have hbx : bx = bi (!bad && wdB T n p i) := by
                rcases hI with ⟨q1, q2, q3, q4, q5⟩ | ⟨q1, q2⟩
                · first
                    | exact absurd h40 (by rw [q1]; decide +kernel)
                    | (have e0 : k = slen.getD i 0 := by omega
                       subst e0
                       have hw : wdB T n p i = true := decide_eq_true ⟨q3, q4, q5⟩
                       rw [q1, q2, hw]; rfl)
                · rw [q1, q2]; rfl
              rw [hbx]
              refine r_zret hX hR dX6_isWord_83 ?_
              -- leaf 6 at 83
              refine ⟨congrArg (fun z => some (Value.int (bi z))) ?_, ?_⟩
              ·
                rfl
              · rfl
            ·
              refine r_iload3 hX dX6_isWord_43 (q := 44) rfl ?_
              refine r_aload1 hX dX6_isWord_44 (q := 45) rfl ?_
              refine r_callK hX dX6_isWord_45 (q := 48) rfl (c_J0_length_8abf5 _ Γ _ _ (by first | assumption | decide)) kX6_197 mlJ0_length_8abf5 mvJ0_length_8abf5 rfl rfl (by first | assumption | decide) rfl ⟨by decide, by decide⟩ (Nat.le_of_ble_eq_true rfl) (keI ?_)
              first | refine r_icmpN_ge hX dX6_isWord_48 (q := 51) rfl (tgt := 82) (by decide) (by first | omega | decide) (by first | omega | decide) (fun h48 => ?_) (fun h48 => ?_) | refine r_icmp_ge hX dX6_isWord_48 (q := 51) rfl (tgt := 82) (by decide) (fun h48 => ?_) (fun h48 => ?_)
              ·
                refine r_iload2 hX dX6_isWord_82 (q := 83) rfl ?_
                have hbx : bx = bi (!bad && wdB T n p i) := by
                  rcases hI with ⟨q1, q2, q3, q4, q5⟩ | ⟨q1, q2⟩
                  · first
                      | exact absurd h40 (by rw [q1]; decide +kernel)
                      | (have e0 : k = slen.getD i 0 := by omega
                         subst e0
                         have hw : wdB T n p i = true := decide_eq_true ⟨q3, q4, q5⟩
                         rw [q1, q2, hw]; rfl)
                  · rw [q1, q2]; rfl
                rw [hbx]
                refine r_zret hX hR dX6_isWord_83 ?_
                -- leaf 7 at 83
                refine ⟨congrArg (fun z => some (Value.int (bi z))) ?_, ?_⟩
                ·
                  rfl
                · rfl
              ·
                have hq4 : nxt T n p - frm T n p = slen.getD i 0 := (hI.resolve_right (fun q => h40 (q.1.trans nI_0))).2.2.2.1
                refine r_aload0 hX dX6_isWord_51 (q := 52) rfl ?_
                refine r_getR hX dX6_isWord_52 (q := 55) rfl fX6_22 rfl ⟨by decide, by decide, rfl⟩ ?_
                refine r_aload0 hX dX6_isWord_55 (q := 56) rfl ?_
                refine r_getI hX dX6_isWord_56 (q := 59) rfl fX6_180 rfl ⟨by decide, by decide, rfl⟩ ?_
                refine r_iload3 hX dX6_isWord_59 (q := 60) rfl ?_
                refine r_iadd hX dX6_isWord_60 (q := 61) rfl ?_
                refine r_ialdN hX dX6_isWord_61 (q := 62) rfl rfl (e_add hRt.2.2.1 rfl) (by omega) (by first | decide | omega) ?_
                rw [hT.2.2 _ (show frm T n p + k < n by omega)]
                refine r_aload1 hX dX6_isWord_62 (q := 63) rfl ?_
                refine r_iload3 hX dX6_isWord_63 (q := 64) rfl ?_
                refine r_callK hX dX6_isWord_64 (q := 67) rfl (c_J0_charAt_5068e _ Γ _ i hi _ k rfl (by omega)) kX6_202 mlJ0_charAt_5068e mvJ0_charAt_5068e rfl rfl (by first | assumption | decide) rfl ⟨by decide, by decide⟩ (Nat.le_of_ble_eq_true rfl) (keI ?_)
                first | refine r_icmpN_ne hX dX6_isWord_67 (q := 70) rfl (tgt := 74) (by decide) (by first | omega | decide) (by first | omega | decide) (fun h67 => ?_) (fun h67 => ?_) | refine r_icmp_ne hX dX6_isWord_67 (q := 70) rfl (tgt := 74) (by decide) (fun h67 => ?_) (fun h67 => ?_)
                ·
                  refine r_iconst hX dX6_isWord_74 (q := 75) rfl (v := nI 0) (by decide +kernel) ?_
                  refine r_istore2 hX dX6_isWord_75 (q := 76) rfl rfl ?_
                  refine r_iincN3 hX dX6_isWord_76 (q := 79) rfl rfl ?_
                  refine r_goto hX dX6_isWord_79 (tgt := 39) (by decide) ?_
                  refine ih39 _ ?_ (k + 1) _ rfl ?_ ?_
                  ·
                    omega
                  ·
                    omega
                  ·
                    obtain ⟨q1, q2, q3, q4, q5⟩ := hI.resolve_right (fun q => h40 (q.1.trans nI_0))
                    first
                      | exact Or.inr ⟨rfl, by rw [show wdB T n p i = false from decide_eq_false (fun q => h67 (q.2.2 k (by omega))), Bool.and_false]⟩
                      | (refine Or.inl ⟨rfl, q2, q3, q4, fun u hu => ?_⟩
                         by_cases e : u = k
                         · subst e; exact h67
                         · exact q5 u (by omega))
                ·
                  refine r_iconst hX dX6_isWord_70 (q := 71) rfl (v := nI 1) (by decide +kernel) ?_
                  refine r_goto hX dX6_isWord_71 (tgt := 75) (by decide) ?_
                  refine r_istore2 hX dX6_isWord_75 (q := 76) rfl rfl ?_
                  refine r_iincN3 hX dX6_isWord_76 (q := 79) rfl rfl ?_
                  refine r_goto hX dX6_isWord_79 (tgt := 39) (by decide) ?_
                  refine ih39 _ ?_ (k + 1) _ rfl ?_ ?_
                  ·
                    omega
                  ·
                    omega
                  ·
                    obtain ⟨q1, q2, q3, q4, q5⟩ := hI.resolve_right (fun q => h40 (q.1.trans nI_0))
                    first
                      | exact Or.inr ⟨rfl, by rw [show wdB T n p i = false from decide_eq_false (fun q => h67 (q.2.2 k (by omega))), Bool.and_false]⟩
                      | (refine Or.inl ⟨rfl, q2, q3, q4, fun u hu => ?_⟩
                         by_cases e : u = k
                         · subst e; exact h67
                         · exact q5 u (by omega))
        refine L39 _ 0 _ rfl ?_ ?_
        ·
          exact Nat.zero_le _
        ·
          first
            | exact Or.inl ⟨rfl, bi_0 h4, h12, h28, fun u hu => absurd hu (by omega)⟩
            | exact Or.inr ⟨rfl, by rw [bi_n h4]; rfl⟩
            | exact Or.inr ⟨rfl, by rw [show wdB T n p i = false from decide_eq_false (fun q => h12 q.1), Bool.and_false]⟩
            | exact Or.inr ⟨rfl, by rw [show wdB T n p i = false from decide_eq_false (fun q => h28 q.2.1), Bool.and_false]⟩

set_option maxRecDepth 100000 in
set_option maxHeartbeats 4000000 in
theorem c_X6_takes (l : Launch) (Γ : Gam) (G : GG) (G0 : GG) (T : MU) (n p : Nat) (bad : Bool) (μ : MU) (hQ : RS G0 G T n p bad μ) (i : Nat) (hi : i < 17) : Sp l yX6_takes cX6_takes 2 (some .boolean) 5 108 [.ref (gad Γ 47), .ref (gK Γ i)] Γ G (pB (fun b' G' => (b' = true ∧ bad = false ∧ wdB T n p i = true ∧ RS G0 G' T n (nxt T n p) false μ) ∨ (b' = false ∧ (bad = true ∨ wdB T n p i = false) ∧ G' = G))) := by
  refine Sp_of (own := RX6) rfl (by decide +kernel) rfl (Nat.le_of_ble_eq_true rfl) (fun X hX hR => ?_)
  show WP X Γ 0 [some (.ref (gad Γ 47)), some (.ref (gK Γ i))] [] G
  refine r_aload0 hX dX6_takes_0 (q := 1) rfl ?_
  refine r_aload1 hX dX6_takes_1 (q := 2) rfl ?_
  refine r_callV hX dX6_takes_2 (q := 5) rfl (c_X6_isWord _ Γ _ T n p bad hQ.1 hQ.2.1 hQ.2.2.1 i hi) kX6_206 mlX6_isWord mvX6_isWord rfl rfl rfl ⟨by decide, rfl⟩ ⟨by decide, by decide⟩ (Nat.le_of_ble_eq_true rfl) (keB ?_)
  first | with_reducible refine r_ifd_ne hX dX6_takes_5 (q := 8) rfl (tgt := 10) (by decide) (fun h5 => ?_) (fun h5 => ?_) | refine r_ifb_ne hX dX6_takes_5 (q := 8) rfl (tgt := 10) (by decide) (fun h5 => ?_) (fun h5 => ?_)
  ·
    refine r_aload0 hX dX6_takes_10 (q := 11) rfl ?_
    refine r_callV hX dX6_takes_11 (q := 14) rfl (c_X6_token _ Γ _ T n hQ.1 (nxt T n p) hQ.2.1.2.2.2.1 (nxt_b hQ.2.1.1).2) kX6_210 mlX6_token mvX6_token rfl rfl rfl ⟨by decide, rfl⟩ ⟨by decide, by decide⟩ (Nat.le_of_ble_eq_true rfl) (kpV (fun G11 p11 => ?_))
    refine r_iconst hX dX6_takes_14 (q := 15) rfl (v := nI 1) (by decide +kernel) ?_
    refine r_zret1 hX hR dX6_takes_15 ?_
    -- leaf 0 at 15
    refine ⟨_, rfl, ?_⟩
    refine Or.inl ⟨rfl, ?_⟩
    cases bad with
    | true => exact absurd (show false = true from h5) (by decide)
    | false => exact ⟨rfl, h5, hQ.tok p11⟩
  ·
    refine r_iconst hX dX6_takes_8 (q := 9) rfl (v := nI 0) (by decide +kernel) ?_
    refine r_zret0 hX hR dX6_takes_9 ?_
    -- leaf 1 at 9
    refine ⟨_, rfl, ?_⟩
    refine Or.inr ⟨rfl, ?_, rfl⟩
    cases bad with
    | true => exact Or.inl rfl
    | false => exact Or.inr h5

set_option maxRecDepth 100000 in
set_option maxHeartbeats 4000000 in
theorem c_X6_isSign (l : Launch) (Γ : Gam) (G : GG) (G0 : GG) (T : MU) (n p : Nat) (bad : Bool) (μ : MU) (hQ : RS G0 G T n p bad μ) (x : Int32) (hx : x = nI 59) : Sp l yX6_isSign cX6_isSign 2 (some .boolean) 0 0 [.ref (gad Γ 47), .int x] Γ G (eB G (!bad && sgB T n p)) := by
  refine Sp_of (own := RX6) rfl (by decide +kernel) rfl (Nat.le_of_ble_eq_true rfl) (fun X hX hR => ?_)
  show WP X Γ 0 [some (.ref (gad Γ 47)), some (.int x)] [] G
  subst hx
  have hs3 := srt_le (T := T) (n := n) (p := p)
  have hn120 := hQ.1.2.1
  refine r_aload0 hX dX6_isSign_0 (q := 1) rfl ?_
  refine r_getI hX dX6_isSign_1 (q := 4) rfl fX6_193 rfl ⟨by decide, by decide, rfl⟩ ?_
  rw [hQ.2.2.1]
  refine r_if_ne hX dX6_isSign_4 (q := 7) rfl (tgt := 32) (by decide) (fun h4 => ?_) (fun h4 => ?_)
  ·
    refine r_iconst hX dX6_isSign_32 (q := 33) rfl (v := nI 0) (by decide +kernel) ?_
    refine r_zret0 hX hR dX6_isSign_33 ?_
    -- leaf 0 at 33
    refine ⟨congrArg (fun z => some (Value.int (bi z))) ?_, ?_⟩
    ·
      first
        | (rw [bi_n h4]; rfl)
        | (rw [bi_0 h4]; exact (decide_eq_false (fun q => h12 q.1)).symm)
        | (rw [bi_0 h4]; exact (decide_eq_false (fun q => h25 q.2)).symm)
        | (rw [bi_0 h4]; exact (decide_eq_true ⟨h12, h25⟩).symm)
    · rfl
  ·
    refine r_aload0 hX dX6_isSign_7 (q := 8) rfl ?_
    refine r_getI hX dX6_isSign_8 (q := 11) rfl fX6_190 rfl ⟨by decide, by decide, rfl⟩ ?_
    rw [hQ.2.1.2.1]
    refine r_iconst hX dX6_isSign_11 (q := 12) rfl (v := nI 3) (by decide +kernel) ?_
    first | refine r_icmpN_ne hX dX6_isSign_12 (q := 15) rfl (tgt := 32) (by decide) (by first | omega | decide) (by first | omega | decide) (fun h12 => ?_) (fun h12 => ?_) | refine r_icmp_ne hX dX6_isSign_12 (q := 15) rfl (tgt := 32) (by decide) (fun h12 => ?_) (fun h12 => ?_)
    ·
      refine r_iconst hX dX6_isSign_32 (q := 33) rfl (v := nI 0) (by decide +kernel) ?_
      refine r_zret0 hX hR dX6_isSign_33 ?_
      -- leaf 1 at 33
      refine ⟨congrArg (fun z => some (Value.int (bi z))) ?_, ?_⟩
      ·
        first
          | (rw [bi_n h4]; rfl)
          | (rw [bi_0 h4]; exact (decide_eq_false (fun q => h12 q.1)).symm)
          | (rw [bi_0 h4]; exact (decide_eq_false (fun q => h25 q.2)).symm)
          | (rw [bi_0 h4]; exact (decide_eq_true ⟨h12, h25⟩).symm)
      · rfl
    ·
      refine r_aload0 hX dX6_isSign_15 (q := 16) rfl ?_
      refine r_getR hX dX6_isSign_16 (q := 19) rfl fX6_22 rfl ⟨by decide, by decide, rfl⟩ ?_
      refine r_aload0 hX dX6_isSign_19 (q := 20) rfl ?_
      refine r_getI hX dX6_isSign_20 (q := 23) rfl fX6_180 rfl ⟨by decide, by decide, rfl⟩ ?_
      refine r_ialdN hX dX6_isSign_23 (q := 24) rfl rfl hQ.2.1.2.2.1 (by have := srt_lt (T := T) (n := n) (p := p) (by omega); omega) (by first | decide | omega) ?_
      rw [hQ.1.2.2 _ (srt_lt (by omega))]
      refine r_iload1 hX dX6_isSign_24 (q := 25) rfl ?_
      first | refine r_icmpN_ne hX dX6_isSign_25 (q := 28) rfl (tgt := 32) (by decide) (by first | omega | decide) (by first | omega | decide) (fun h25 => ?_) (fun h25 => ?_) | refine r_icmp_ne hX dX6_isSign_25 (q := 28) rfl (tgt := 32) (by decide) (fun h25 => ?_) (fun h25 => ?_)
      ·
        refine r_iconst hX dX6_isSign_32 (q := 33) rfl (v := nI 0) (by decide +kernel) ?_
        refine r_zret0 hX hR dX6_isSign_33 ?_
        -- leaf 2 at 33
        refine ⟨congrArg (fun z => some (Value.int (bi z))) ?_, ?_⟩
        ·
          first
            | (rw [bi_n h4]; rfl)
            | (rw [bi_0 h4]; exact (decide_eq_false (fun q => h12 q.1)).symm)
            | (rw [bi_0 h4]; exact (decide_eq_false (fun q => h25 q.2)).symm)
            | (rw [bi_0 h4]; exact (decide_eq_true ⟨h12, h25⟩).symm)
        · rfl
      ·
        refine r_iconst hX dX6_isSign_28 (q := 29) rfl (v := nI 1) (by decide +kernel) ?_
        refine r_goto hX dX6_isSign_29 (tgt := 33) (by decide) ?_
        refine r_zret1 hX hR dX6_isSign_33 ?_
        -- leaf 3 at 33
        refine ⟨congrArg (fun z => some (Value.int (bi z))) ?_, ?_⟩
        ·
          first
            | (rw [bi_n h4]; rfl)
            | (rw [bi_0 h4]; exact (decide_eq_false (fun q => h12 q.1)).symm)
            | (rw [bi_0 h4]; exact (decide_eq_false (fun q => h25 q.2)).symm)
            | (rw [bi_0 h4]; exact (decide_eq_true ⟨h12, h25⟩).symm)
        · rfl

set_option maxRecDepth 100000 in
set_option maxHeartbeats 4000000 in
theorem c_X6_number (l : Launch) (Γ : Gam) (G : GG) (G0 : GG) (T : MU) (n p : Nat) (μ : MU) (hQ : RS G0 G T n p false μ) (lo hi : Nat) (x : Int32) (hx : x = nI lo) (hlo : lo ≤ 10) (hhi : hi ≤ 9999) : Sp l yX6_number cX6_number 4 (some .int) 3 68 [.ref (gad Γ 47), .int x, .int (nI hi)] Γ G (pI (fun v G' => (∃ z, numF T n p lo hi = some z ∧ v = nI z ∧ RS G0 G' T n (nxt T n p) false μ) ∨ (numF T n p lo hi = none ∧ RS G0 G' T n p true μ))) := by
  refine Sp_of (own := RX6) rfl (by decide +kernel) rfl (Nat.le_of_ble_eq_true rfl) (fun X hX hR => ?_)
  show WP X Γ 0 [some (.ref (gad Γ 47)), some (.int x), some (.int (nI hi)), none] [] G
  subst hx
  have hs3 := srt_le (T := T) (n := n) (p := p)
  obtain ⟨w, hw0, hw1, hw2⟩ := hQ.2.1.2.2.2.2
  have J36 : ∀ (bb : Bool), ((bb = true ∧ numF T n p lo hi = none) ∨ (bb = false ∧ numF T n p lo hi = some w)) → WP X Γ 36 [some (.ref (gad Γ 47)), some (.int (nI lo)), some (.int (nI hi)), none] [.int (bi bb), .ref (gad Γ 47)] G := by
    intro bb hbb
    refine r_put hX dX6_number_36 (q := 39) rfl fX6_193 wX6_11 (bi_nar _) (bi_fit _) rfl ⟨by decide, by decide, rfl⟩ ?_
    have hQ2 := hQ.bd bb
    have h10 : up G 47 11 (bi bb) 47 10 = nI w := (up_ne (by omega)).trans hw1
    generalize up G 47 11 (bi bb) = G2 at hQ2 h10 ⊢
    refine r_aload0 hX dX6_number_39 (q := 40) rfl ?_
    refine r_getI hX dX6_number_40 (q := 43) rfl fX6_187 rfl ⟨by decide, by decide, rfl⟩ ?_
    rw [h10]
    refine r_istore3 hX dX6_number_43 (q := 44) rfl rfl ?_
    refine r_aload0 hX dX6_number_44 (q := 45) rfl ?_
    refine r_getI hX dX6_number_45 (q := 48) rfl fX6_193 rfl ⟨by decide, by decide, rfl⟩ ?_
    rw [hQ2.2.2.1]
    refine r_if_ne hX dX6_number_48 (q := 51) rfl (tgt := 55) (by decide) (fun h48 => ?_) (fun h48 => ?_)
    ·
      refine r_iload3 hX dX6_number_55 (q := 56) rfl ?_
      refine r_iret hX hR dX6_number_56 ?_
      -- leaf 0 at 56
      refine ⟨_, rfl, ?_⟩
      rcases hbb with ⟨q1, q2⟩ | ⟨q1, q2⟩
      · subst q1
        first
          | exact absurd h48 (by decide +kernel)
          | exact Or.inr ⟨q2, hQ2⟩
      · subst q1
        first
          | exact absurd bi_f h48
          | exact Or.inl ⟨w, q2, rfl, hQ2.tok p52⟩
    ·
      refine r_aload0 hX dX6_number_51 (q := 52) rfl ?_
      refine r_callV hX dX6_number_52 (q := 55) rfl (c_X6_token _ Γ _ T n hQ2.1 (nxt T n p) hQ2.2.1.2.2.2.1 (nxt_b hQ2.2.1.1).2) kX6_210 mlX6_token mvX6_token rfl rfl rfl ⟨by decide, rfl⟩ ⟨by decide, by decide⟩ (Nat.le_of_ble_eq_true rfl) (kpV (fun G52 p52 => ?_))
      refine r_iload3 hX dX6_number_55 (q := 56) rfl ?_
      refine r_iret hX hR dX6_number_56 ?_
      -- leaf 1 at 56
      refine ⟨_, rfl, ?_⟩
      rcases hbb with ⟨q1, q2⟩ | ⟨q1, q2⟩
      · subst q1
        first
          | exact absurd h48 (by decide +kernel)
          | exact Or.inr ⟨q2, hQ2⟩
      · subst q1
        first
          | exact absurd bi_f h48
          | exact Or.inl ⟨w, q2, rfl, hQ2.tok p52⟩
  refine r_aload0 hX dX6_number_0 (q := 1) rfl ?_
  refine r_aload0 hX dX6_number_1 (q := 2) rfl ?_
  refine r_getI hX dX6_number_2 (q := 5) rfl fX6_193 rfl ⟨by decide, by decide, rfl⟩ ?_
  rw [hQ.2.2.1]
  refine r_if_ne hX dX6_number_5 (q := 8) rfl (tgt := 31) (by decide) (fun h5 => ?_) (fun h5 => ?_)
  ·
    exact absurd bi_f h5 --end
  ·
    refine r_aload0 hX dX6_number_8 (q := 9) rfl ?_
    refine r_getI hX dX6_number_9 (q := 12) rfl fX6_190 rfl ⟨by decide, by decide, rfl⟩ ?_
    rw [hQ.2.1.2.1]
    refine r_iconst hX dX6_number_12 (q := 13) rfl (v := nI 2) (by decide +kernel) ?_
    first | refine r_icmpN_ne hX dX6_number_13 (q := 16) rfl (tgt := 31) (by decide) (by first | omega | decide) (by first | omega | decide) (fun h13 => ?_) (fun h13 => ?_) | refine r_icmp_ne hX dX6_number_13 (q := 16) rfl (tgt := 31) (by decide) (fun h13 => ?_) (fun h13 => ?_)
    ·
      refine r_iconst hX dX6_number_31 (q := 32) rfl (v := nI 1) (by decide +kernel) ?_
      refine r_goto hX dX6_number_32 (tgt := 36) (by decide) ?_
      refine J36 true ?_
      ·
        exact Or.inl ⟨rfl, numF_n h13⟩
    ·
      refine r_aload0 hX dX6_number_16 (q := 17) rfl ?_
      refine r_getI hX dX6_number_17 (q := 20) rfl fX6_187 rfl ⟨by decide, by decide, rfl⟩ ?_
      rw [hw1]
      refine r_i2l hX dX6_number_20 (q := 21) rfl ?_
      refine r_iload1 hX dX6_number_21 (q := 22) rfl ?_
      refine r_i2l hX dX6_number_22 (q := 23) rfl ?_
      refine r_iload2 hX dX6_number_23 (q := 24) rfl ?_
      refine r_i2l hX dX6_number_24 (q := 25) rfl ?_
      refine r_callS hX dX6_number_25 (q := 28) rfl (c_X6_in _ Γ _ _ _ _) kX6_42 mlX6_in msX6_in rfl rfl ⟨by decide, by decide⟩ (Nat.le_of_ble_eq_true rfl) (keB ?_)
      first | with_reducible refine r_ifd_ne hX dX6_number_28 (q := 31) rfl (tgt := 35) (by decide) (fun h28 => ?_) (fun h28 => ?_) | refine r_ifb_ne hX dX6_number_28 (q := 31) rfl (tgt := 35) (by decide) (fun h28 => ?_) (fun h28 => ?_)
      ·
        refine r_iconst hX dX6_number_35 (q := 36) rfl (v := nI 0) (by decide +kernel) ?_
        refine J36 false ?_
        ·
          exact Or.inr ⟨rfl, num_s h13 (hw2 h13) hw0 hhi h28 hlo⟩
      ·
        refine r_iconst hX dX6_number_31 (q := 32) rfl (v := nI 1) (by decide +kernel) ?_
        refine r_goto hX dX6_number_32 (tgt := 36) (by decide) ?_
        refine J36 true ?_
        ·
          exact Or.inl ⟨rfl, num_n (hw2 h13) hw0 hhi h28 hlo⟩

set_option maxRecDepth 100000 in
set_option maxHeartbeats 4000000 in
theorem c_X6_tells (l : Launch) (Γ : Gam) (G : GG) (G0 : GG) (T : MU) (n p : Nat) (bad : Bool) (μ : MU) (hQ : RS G0 G T n p bad μ) (x : Int32) (a : Nat) (u : Int32) (hx : bad = false → x = nI a ∧ a < 115) : Sp l yX6_tells cX6_tells 3 none 0 0 [.ref (gad Γ 47), .int x, .int u] Γ G (pV (fun G' => RS G0 G' T n p bad (if bad = true then μ else upd μ a u))) := by
  refine Sp_of (own := RX6) rfl (by decide +kernel) rfl (Nat.le_of_ble_eq_true rfl) (fun X hX hR => ?_)
  show WP X Γ 0 [some (.ref (gad Γ 47)), some (.int x), some (.int u)] [] G
  refine r_aload0 hX dX6_tells_0 (q := 1) rfl ?_
  refine r_getI hX dX6_tells_1 (q := 4) rfl fX6_193 rfl ⟨by decide, by decide, rfl⟩ ?_
  rw [hQ.2.2.1]
  refine r_if_ne hX dX6_tells_4 (q := 7) rfl (tgt := 14) (by decide) (fun h4 => ?_) (fun h4 => ?_)
  ·
    refine r_vret hX hR dX6_tells_14 ?_
    -- leaf 0 at 14
    refine ⟨rfl, ?_⟩
    first
      | (rw [if_pos (bi_n h4)]; exact hQ)
      | (rw [if_neg (by rw [hbf]; decide)]; exact hQ.cm (hQ.2.2.2.1.u a u) FrN.rf.up)
  ·
    have hbf := bi_0 h4
    obtain ⟨hx1, hx2⟩ := hx hbf
    refine r_aload0 hX dX6_tells_7 (q := 8) rfl ?_
    refine r_getR hX dX6_tells_8 (q := 11) rfl fX6_9 rfl ⟨by decide, by decide, rfl⟩ ?_
    refine r_iload1 hX dX6_tells_11 (q := 12) rfl ?_
    refine r_iload2 hX dX6_tells_12 (q := 13) rfl ?_
    refine r_iastN hX dX6_tells_13 (q := 14) rfl rfl hx1 hx2 (by first | decide | omega) ?_
    refine r_vret hX hR dX6_tells_14 ?_
    -- leaf 1 at 14
    refine ⟨rfl, ?_⟩
    first
      | (rw [if_pos (bi_n h4)]; exact hQ)
      | (rw [if_neg (by rw [hbf]; decide)]; exact hQ.cm (hQ.2.2.2.1.u a u) FrN.rf.up)

set_option maxRecDepth 100000 in
set_option maxHeartbeats 4000000 in
theorem c_X6_kindHere (l : Launch) (Γ : Gam) (G : GG) (T : MU) (n p : Nat) (hT : TpR G T n) (hRt : RT G T n p) (hb : G 47 11 = bi false) : Sp l yX6_kindHere cX6_kindHere 1 (some .int) 5 108 [.ref (gad Γ 47)] Γ G (eI G (kdF T n p 7)) := by
  refine Sp_of (own := RX6) rfl (by decide +kernel) rfl (Nat.le_of_ble_eq_true rfl) (fun X hX hR => ?_)
  show WP X Γ 0 [some (.ref (gad Γ 47))] [] G
  refine r_aload0 hX dX6_kindHere_0 (q := 1) rfl ?_
  refine r_ldcS hX dX6_kindHere_1 (q := 3) (i := 4) (tx := "taste") rfl (by decide +kernel) ?_
  refine r_callV hX dX6_kindHere_3 (q := 6) rfl (c_X6_isWord _ Γ _ T n p false hT hRt hb 4 (by decide)) kX6_206 mlX6_isWord mvX6_isWord rfl rfl rfl ⟨by decide, rfl⟩ ⟨by decide, by decide⟩ (Nat.le_of_ble_eq_true rfl) (keB ?_)
  first | with_reducible refine r_ifd_eq hX dX6_kindHere_6 (q := 9) rfl (tgt := 11) (by decide) (fun h6 => ?_) (fun h6 => ?_) | refine r_ifb_eq hX dX6_kindHere_6 (q := 9) rfl (tgt := 11) (by decide) (fun h6 => ?_) (fun h6 => ?_)
  ·
    refine r_aload0 hX dX6_kindHere_11 (q := 12) rfl ?_
    refine r_ldcS hX dX6_kindHere_12 (q := 14) (i := 5) (tx := "licked") rfl (by decide +kernel) ?_
    refine r_callV hX dX6_kindHere_14 (q := 17) rfl (c_X6_isWord _ Γ _ T n p false hT hRt hb 5 (by decide)) kX6_206 mlX6_isWord mvX6_isWord rfl rfl rfl ⟨by decide, rfl⟩ ⟨by decide, by decide⟩ (Nat.le_of_ble_eq_true rfl) (keB ?_)
    first | with_reducible refine r_ifd_eq hX dX6_kindHere_17 (q := 20) rfl (tgt := 22) (by decide) (fun h17 => ?_) (fun h17 => ?_) | refine r_ifb_eq hX dX6_kindHere_17 (q := 20) rfl (tgt := 22) (by decide) (fun h17 => ?_) (fun h17 => ?_)
    ·
      refine r_aload0 hX dX6_kindHere_22 (q := 23) rfl ?_
      refine r_ldcS hX dX6_kindHere_23 (q := 25) (i := 6) (tx := "pressed") rfl (by decide +kernel) ?_
      refine r_callV hX dX6_kindHere_25 (q := 28) rfl (c_X6_isWord _ Γ _ T n p false hT hRt hb 6 (by decide)) kX6_206 mlX6_isWord mvX6_isWord rfl rfl rfl ⟨by decide, rfl⟩ ⟨by decide, by decide⟩ (Nat.le_of_ble_eq_true rfl) (keB ?_)
      first | with_reducible refine r_ifd_eq hX dX6_kindHere_28 (q := 31) rfl (tgt := 33) (by decide) (fun h28 => ?_) (fun h28 => ?_) | refine r_ifb_eq hX dX6_kindHere_28 (q := 31) rfl (tgt := 33) (by decide) (fun h28 => ?_) (fun h28 => ?_)
      ·
        refine r_aload0 hX dX6_kindHere_33 (q := 34) rfl ?_
        refine r_ldcS hX dX6_kindHere_34 (q := 36) (i := 7) (tx := "paid") rfl (by decide +kernel) ?_
        refine r_callV hX dX6_kindHere_36 (q := 39) rfl (c_X6_isWord _ Γ _ T n p false hT hRt hb 7 (by decide)) kX6_206 mlX6_isWord mvX6_isWord rfl rfl rfl ⟨by decide, rfl⟩ ⟨by decide, by decide⟩ (Nat.le_of_ble_eq_true rfl) (keB ?_)
        first | with_reducible refine r_ifd_eq hX dX6_kindHere_39 (q := 42) rfl (tgt := 44) (by decide) (fun h39 => ?_) (fun h39 => ?_) | refine r_ifb_eq hX dX6_kindHere_39 (q := 42) rfl (tgt := 44) (by decide) (fun h39 => ?_) (fun h39 => ?_)
        ·
          refine r_aload0 hX dX6_kindHere_44 (q := 45) rfl ?_
          refine r_ldcS hX dX6_kindHere_45 (q := 47) (i := 8) (tx := "copied") rfl (by decide +kernel) ?_
          refine r_callV hX dX6_kindHere_47 (q := 50) rfl (c_X6_isWord _ Γ _ T n p false hT hRt hb 8 (by decide)) kX6_206 mlX6_isWord mvX6_isWord rfl rfl rfl ⟨by decide, rfl⟩ ⟨by decide, by decide⟩ (Nat.le_of_ble_eq_true rfl) (keB ?_)
          first | with_reducible refine r_ifd_eq hX dX6_kindHere_50 (q := 53) rfl (tgt := 55) (by decide) (fun h50 => ?_) (fun h50 => ?_) | refine r_ifb_eq hX dX6_kindHere_50 (q := 53) rfl (tgt := 55) (by decide) (fun h50 => ?_) (fun h50 => ?_)
          ·
            refine r_aload0 hX dX6_kindHere_55 (q := 56) rfl ?_
            refine r_ldcS hX dX6_kindHere_56 (q := 58) (i := 9) (tx := "grown") rfl (by decide +kernel) ?_
            refine r_callV hX dX6_kindHere_58 (q := 61) rfl (c_X6_isWord _ Γ _ T n p false hT hRt hb 9 (by decide)) kX6_206 mlX6_isWord mvX6_isWord rfl rfl rfl ⟨by decide, rfl⟩ ⟨by decide, by decide⟩ (Nat.le_of_ble_eq_true rfl) (keB ?_)
            first | with_reducible refine r_ifd_eq hX dX6_kindHere_61 (q := 64) rfl (tgt := 68) (by decide) (fun h61 => ?_) (fun h61 => ?_) | refine r_ifb_eq hX dX6_kindHere_61 (q := 64) rfl (tgt := 68) (by decide) (fun h61 => ?_) (fun h61 => ?_)
            ·
              refine r_aload0 hX dX6_kindHere_68 (q := 69) rfl ?_
              refine r_ldcS hX dX6_kindHere_69 (q := 71) (i := 10) (tx := "hidden") rfl (by decide +kernel) ?_
              refine r_callV hX dX6_kindHere_71 (q := 74) rfl (c_X6_isWord _ Γ _ T n p false hT hRt hb 10 (by decide)) kX6_206 mlX6_isWord mvX6_isWord rfl rfl rfl ⟨by decide, rfl⟩ ⟨by decide, by decide⟩ (Nat.le_of_ble_eq_true rfl) (keB ?_)
              first | with_reducible refine r_ifd_eq hX dX6_kindHere_74 (q := 77) rfl (tgt := 82) (by decide) (fun h74 => ?_) (fun h74 => ?_) | refine r_ifb_eq hX dX6_kindHere_74 (q := 77) rfl (tgt := 82) (by decide) (fun h74 => ?_) (fun h74 => ?_)
              ·
                refine r_iconst hX dX6_kindHere_82 (q := 83) rfl (v := (-1)) (by decide +kernel) ?_
                refine r_iret hX hR dX6_kindHere_83 ?_
                -- leaf 0 at 83
                refine ⟨congrArg (fun z => some (Value.int z)) ?_, ?_⟩
                ·
                  rw [kd7]
                  first
                    | rw [if_pos (show wdB T n p 4 = true from h6)]
                    | rw [if_neg (by rw [show wdB T n p 4 = false from h6]; decide), if_pos (show wdB T n p 5 = true from h17)]
                    | rw [if_neg (by rw [show wdB T n p 4 = false from h6]; decide), if_neg (by rw [show wdB T n p 5 = false from h17]; decide), if_pos (show wdB T n p 6 = true from h28)]
                    | rw [if_neg (by rw [show wdB T n p 4 = false from h6]; decide), if_neg (by rw [show wdB T n p 5 = false from h17]; decide), if_neg (by rw [show wdB T n p 6 = false from h28]; decide), if_pos (show wdB T n p 7 = true from h39)]
                    | rw [if_neg (by rw [show wdB T n p 4 = false from h6]; decide), if_neg (by rw [show wdB T n p 5 = false from h17]; decide), if_neg (by rw [show wdB T n p 6 = false from h28]; decide), if_neg (by rw [show wdB T n p 7 = false from h39]; decide), if_pos (show wdB T n p 8 = true from h50)]
                    | rw [if_neg (by rw [show wdB T n p 4 = false from h6]; decide), if_neg (by rw [show wdB T n p 5 = false from h17]; decide), if_neg (by rw [show wdB T n p 6 = false from h28]; decide), if_neg (by rw [show wdB T n p 7 = false from h39]; decide), if_neg (by rw [show wdB T n p 8 = false from h50]; decide), if_pos (show wdB T n p 9 = true from h61)]
                    | rw [if_neg (by rw [show wdB T n p 4 = false from h6]; decide), if_neg (by rw [show wdB T n p 5 = false from h17]; decide), if_neg (by rw [show wdB T n p 6 = false from h28]; decide), if_neg (by rw [show wdB T n p 7 = false from h39]; decide), if_neg (by rw [show wdB T n p 8 = false from h50]; decide), if_neg (by rw [show wdB T n p 9 = false from h61]; decide), if_pos (show wdB T n p 10 = true from h74)]
                    | rw [if_neg (by rw [show wdB T n p 4 = false from h6]; decide), if_neg (by rw [show wdB T n p 5 = false from h17]; decide), if_neg (by rw [show wdB T n p 6 = false from h28]; decide), if_neg (by rw [show wdB T n p 7 = false from h39]; decide), if_neg (by rw [show wdB T n p 8 = false from h50]; decide), if_neg (by rw [show wdB T n p 9 = false from h61]; decide), if_neg (by rw [show wdB T n p 10 = false from h74]; decide)]
                · rfl
              ·
                refine r_bipush hX dX6_kindHere_77 (q := 79) rfl (v := nI 6) (by decide +kernel) ?_
                refine r_goto hX dX6_kindHere_79 (tgt := 83) (by decide) ?_
                refine r_iret hX hR dX6_kindHere_83 ?_
                -- leaf 1 at 83
                refine ⟨congrArg (fun z => some (Value.int z)) ?_, ?_⟩
                ·
                  rw [kd7]
                  first
                    | rw [if_pos (show wdB T n p 4 = true from h6)]
                    | rw [if_neg (by rw [show wdB T n p 4 = false from h6]; decide), if_pos (show wdB T n p 5 = true from h17)]
                    | rw [if_neg (by rw [show wdB T n p 4 = false from h6]; decide), if_neg (by rw [show wdB T n p 5 = false from h17]; decide), if_pos (show wdB T n p 6 = true from h28)]
                    | rw [if_neg (by rw [show wdB T n p 4 = false from h6]; decide), if_neg (by rw [show wdB T n p 5 = false from h17]; decide), if_neg (by rw [show wdB T n p 6 = false from h28]; decide), if_pos (show wdB T n p 7 = true from h39)]
                    | rw [if_neg (by rw [show wdB T n p 4 = false from h6]; decide), if_neg (by rw [show wdB T n p 5 = false from h17]; decide), if_neg (by rw [show wdB T n p 6 = false from h28]; decide), if_neg (by rw [show wdB T n p 7 = false from h39]; decide), if_pos (show wdB T n p 8 = true from h50)]
                    | rw [if_neg (by rw [show wdB T n p 4 = false from h6]; decide), if_neg (by rw [show wdB T n p 5 = false from h17]; decide), if_neg (by rw [show wdB T n p 6 = false from h28]; decide), if_neg (by rw [show wdB T n p 7 = false from h39]; decide), if_neg (by rw [show wdB T n p 8 = false from h50]; decide), if_pos (show wdB T n p 9 = true from h61)]
                    | rw [if_neg (by rw [show wdB T n p 4 = false from h6]; decide), if_neg (by rw [show wdB T n p 5 = false from h17]; decide), if_neg (by rw [show wdB T n p 6 = false from h28]; decide), if_neg (by rw [show wdB T n p 7 = false from h39]; decide), if_neg (by rw [show wdB T n p 8 = false from h50]; decide), if_neg (by rw [show wdB T n p 9 = false from h61]; decide), if_pos (show wdB T n p 10 = true from h74)]
                    | rw [if_neg (by rw [show wdB T n p 4 = false from h6]; decide), if_neg (by rw [show wdB T n p 5 = false from h17]; decide), if_neg (by rw [show wdB T n p 6 = false from h28]; decide), if_neg (by rw [show wdB T n p 7 = false from h39]; decide), if_neg (by rw [show wdB T n p 8 = false from h50]; decide), if_neg (by rw [show wdB T n p 9 = false from h61]; decide), if_neg (by rw [show wdB T n p 10 = false from h74]; decide)]
                · rfl
            ·
              refine r_iconst hX dX6_kindHere_64 (q := 65) rfl (v := nI 5) (by decide +kernel) ?_
              refine r_goto hX dX6_kindHere_65 (tgt := 83) (by decide) ?_
              refine r_iret hX hR dX6_kindHere_83 ?_
              -- leaf 2 at 83
              refine ⟨congrArg (fun z => some (Value.int z)) ?_, ?_⟩
              ·
                rw [kd7]
                first
                  | rw [if_pos (show wdB T n p 4 = true from h6)]
                  | rw [if_neg (by rw [show wdB T n p 4 = false from h6]; decide), if_pos (show wdB T n p 5 = true from h17)]
                  | rw [if_neg (by rw [show wdB T n p 4 = false from h6]; decide), if_neg (by rw [show wdB T n p 5 = false from h17]; decide), if_pos (show wdB T n p 6 = true from h28)]
                  | rw [if_neg (by rw [show wdB T n p 4 = false from h6]; decide), if_neg (by rw [show wdB T n p 5 = false from h17]; decide), if_neg (by rw [show wdB T n p 6 = false from h28]; decide), if_pos (show wdB T n p 7 = true from h39)]
                  | rw [if_neg (by rw [show wdB T n p 4 = false from h6]; decide), if_neg (by rw [show wdB T n p 5 = false from h17]; decide), if_neg (by rw [show wdB T n p 6 = false from h28]; decide), if_neg (by rw [show wdB T n p 7 = false from h39]; decide), if_pos (show wdB T n p 8 = true from h50)]
                  | rw [if_neg (by rw [show wdB T n p 4 = false from h6]; decide), if_neg (by rw [show wdB T n p 5 = false from h17]; decide), if_neg (by rw [show wdB T n p 6 = false from h28]; decide), if_neg (by rw [show wdB T n p 7 = false from h39]; decide), if_neg (by rw [show wdB T n p 8 = false from h50]; decide), if_pos (show wdB T n p 9 = true from h61)]
                  | rw [if_neg (by rw [show wdB T n p 4 = false from h6]; decide), if_neg (by rw [show wdB T n p 5 = false from h17]; decide), if_neg (by rw [show wdB T n p 6 = false from h28]; decide), if_neg (by rw [show wdB T n p 7 = false from h39]; decide), if_neg (by rw [show wdB T n p 8 = false from h50]; decide), if_neg (by rw [show wdB T n p 9 = false from h61]; decide), if_pos (show wdB T n p 10 = true from h74)]
                  | rw [if_neg (by rw [show wdB T n p 4 = false from h6]; decide), if_neg (by rw [show wdB T n p 5 = false from h17]; decide), if_neg (by rw [show wdB T n p 6 = false from h28]; decide), if_neg (by rw [show wdB T n p 7 = false from h39]; decide), if_neg (by rw [show wdB T n p 8 = false from h50]; decide), if_neg (by rw [show wdB T n p 9 = false from h61]; decide), if_neg (by rw [show wdB T n p 10 = false from h74]; decide)]
              · rfl
          ·
            refine r_iconst hX dX6_kindHere_53 (q := 54) rfl (v := nI 4) (by decide +kernel) ?_
            refine r_iret hX hR dX6_kindHere_54 ?_
            -- leaf 3 at 54
            refine ⟨congrArg (fun z => some (Value.int z)) ?_, ?_⟩
            ·
              rw [kd7]
              first
                | rw [if_pos (show wdB T n p 4 = true from h6)]
                | rw [if_neg (by rw [show wdB T n p 4 = false from h6]; decide), if_pos (show wdB T n p 5 = true from h17)]
                | rw [if_neg (by rw [show wdB T n p 4 = false from h6]; decide), if_neg (by rw [show wdB T n p 5 = false from h17]; decide), if_pos (show wdB T n p 6 = true from h28)]
                | rw [if_neg (by rw [show wdB T n p 4 = false from h6]; decide), if_neg (by rw [show wdB T n p 5 = false from h17]; decide), if_neg (by rw [show wdB T n p 6 = false from h28]; decide), if_pos (show wdB T n p 7 = true from h39)]
                | rw [if_neg (by rw [show wdB T n p 4 = false from h6]; decide), if_neg (by rw [show wdB T n p 5 = false from h17]; decide), if_neg (by rw [show wdB T n p 6 = false from h28]; decide), if_neg (by rw [show wdB T n p 7 = false from h39]; decide), if_pos (show wdB T n p 8 = true from h50)]
                | rw [if_neg (by rw [show wdB T n p 4 = false from h6]; decide), if_neg (by rw [show wdB T n p 5 = false from h17]; decide), if_neg (by rw [show wdB T n p 6 = false from h28]; decide), if_neg (by rw [show wdB T n p 7 = false from h39]; decide), if_neg (by rw [show wdB T n p 8 = false from h50]; decide), if_pos (show wdB T n p 9 = true from h61)]
                | rw [if_neg (by rw [show wdB T n p 4 = false from h6]; decide), if_neg (by rw [show wdB T n p 5 = false from h17]; decide), if_neg (by rw [show wdB T n p 6 = false from h28]; decide), if_neg (by rw [show wdB T n p 7 = false from h39]; decide), if_neg (by rw [show wdB T n p 8 = false from h50]; decide), if_neg (by rw [show wdB T n p 9 = false from h61]; decide), if_pos (show wdB T n p 10 = true from h74)]
                | rw [if_neg (by rw [show wdB T n p 4 = false from h6]; decide), if_neg (by rw [show wdB T n p 5 = false from h17]; decide), if_neg (by rw [show wdB T n p 6 = false from h28]; decide), if_neg (by rw [show wdB T n p 7 = false from h39]; decide), if_neg (by rw [show wdB T n p 8 = false from h50]; decide), if_neg (by rw [show wdB T n p 9 = false from h61]; decide), if_neg (by rw [show wdB T n p 10 = false from h74]; decide)]
            · rfl
        ·
          refine r_iconst hX dX6_kindHere_42 (q := 43) rfl (v := nI 3) (by decide +kernel) ?_
          refine r_iret hX hR dX6_kindHere_43 ?_
          -- leaf 4 at 43
          refine ⟨congrArg (fun z => some (Value.int z)) ?_, ?_⟩
          ·
            rw [kd7]
            first
              | rw [if_pos (show wdB T n p 4 = true from h6)]
              | rw [if_neg (by rw [show wdB T n p 4 = false from h6]; decide), if_pos (show wdB T n p 5 = true from h17)]
              | rw [if_neg (by rw [show wdB T n p 4 = false from h6]; decide), if_neg (by rw [show wdB T n p 5 = false from h17]; decide), if_pos (show wdB T n p 6 = true from h28)]
              | rw [if_neg (by rw [show wdB T n p 4 = false from h6]; decide), if_neg (by rw [show wdB T n p 5 = false from h17]; decide), if_neg (by rw [show wdB T n p 6 = false from h28]; decide), if_pos (show wdB T n p 7 = true from h39)]
              | rw [if_neg (by rw [show wdB T n p 4 = false from h6]; decide), if_neg (by rw [show wdB T n p 5 = false from h17]; decide), if_neg (by rw [show wdB T n p 6 = false from h28]; decide), if_neg (by rw [show wdB T n p 7 = false from h39]; decide), if_pos (show wdB T n p 8 = true from h50)]
              | rw [if_neg (by rw [show wdB T n p 4 = false from h6]; decide), if_neg (by rw [show wdB T n p 5 = false from h17]; decide), if_neg (by rw [show wdB T n p 6 = false from h28]; decide), if_neg (by rw [show wdB T n p 7 = false from h39]; decide), if_neg (by rw [show wdB T n p 8 = false from h50]; decide), if_pos (show wdB T n p 9 = true from h61)]
              | rw [if_neg (by rw [show wdB T n p 4 = false from h6]; decide), if_neg (by rw [show wdB T n p 5 = false from h17]; decide), if_neg (by rw [show wdB T n p 6 = false from h28]; decide), if_neg (by rw [show wdB T n p 7 = false from h39]; decide), if_neg (by rw [show wdB T n p 8 = false from h50]; decide), if_neg (by rw [show wdB T n p 9 = false from h61]; decide), if_pos (show wdB T n p 10 = true from h74)]
              | rw [if_neg (by rw [show wdB T n p 4 = false from h6]; decide), if_neg (by rw [show wdB T n p 5 = false from h17]; decide), if_neg (by rw [show wdB T n p 6 = false from h28]; decide), if_neg (by rw [show wdB T n p 7 = false from h39]; decide), if_neg (by rw [show wdB T n p 8 = false from h50]; decide), if_neg (by rw [show wdB T n p 9 = false from h61]; decide), if_neg (by rw [show wdB T n p 10 = false from h74]; decide)]
          · rfl
      ·
        refine r_iconst hX dX6_kindHere_31 (q := 32) rfl (v := nI 2) (by decide +kernel) ?_
        refine r_iret hX hR dX6_kindHere_32 ?_
        -- leaf 5 at 32
        refine ⟨congrArg (fun z => some (Value.int z)) ?_, ?_⟩
        ·
          rw [kd7]
          first
            | rw [if_pos (show wdB T n p 4 = true from h6)]
            | rw [if_neg (by rw [show wdB T n p 4 = false from h6]; decide), if_pos (show wdB T n p 5 = true from h17)]
            | rw [if_neg (by rw [show wdB T n p 4 = false from h6]; decide), if_neg (by rw [show wdB T n p 5 = false from h17]; decide), if_pos (show wdB T n p 6 = true from h28)]
            | rw [if_neg (by rw [show wdB T n p 4 = false from h6]; decide), if_neg (by rw [show wdB T n p 5 = false from h17]; decide), if_neg (by rw [show wdB T n p 6 = false from h28]; decide), if_pos (show wdB T n p 7 = true from h39)]
            | rw [if_neg (by rw [show wdB T n p 4 = false from h6]; decide), if_neg (by rw [show wdB T n p 5 = false from h17]; decide), if_neg (by rw [show wdB T n p 6 = false from h28]; decide), if_neg (by rw [show wdB T n p 7 = false from h39]; decide), if_pos (show wdB T n p 8 = true from h50)]
            | rw [if_neg (by rw [show wdB T n p 4 = false from h6]; decide), if_neg (by rw [show wdB T n p 5 = false from h17]; decide), if_neg (by rw [show wdB T n p 6 = false from h28]; decide), if_neg (by rw [show wdB T n p 7 = false from h39]; decide), if_neg (by rw [show wdB T n p 8 = false from h50]; decide), if_pos (show wdB T n p 9 = true from h61)]
            | rw [if_neg (by rw [show wdB T n p 4 = false from h6]; decide), if_neg (by rw [show wdB T n p 5 = false from h17]; decide), if_neg (by rw [show wdB T n p 6 = false from h28]; decide), if_neg (by rw [show wdB T n p 7 = false from h39]; decide), if_neg (by rw [show wdB T n p 8 = false from h50]; decide), if_neg (by rw [show wdB T n p 9 = false from h61]; decide), if_pos (show wdB T n p 10 = true from h74)]
            | rw [if_neg (by rw [show wdB T n p 4 = false from h6]; decide), if_neg (by rw [show wdB T n p 5 = false from h17]; decide), if_neg (by rw [show wdB T n p 6 = false from h28]; decide), if_neg (by rw [show wdB T n p 7 = false from h39]; decide), if_neg (by rw [show wdB T n p 8 = false from h50]; decide), if_neg (by rw [show wdB T n p 9 = false from h61]; decide), if_neg (by rw [show wdB T n p 10 = false from h74]; decide)]
        · rfl
    ·
      refine r_iconst hX dX6_kindHere_20 (q := 21) rfl (v := nI 1) (by decide +kernel) ?_
      refine r_iret hX hR dX6_kindHere_21 ?_
      -- leaf 6 at 21
      refine ⟨congrArg (fun z => some (Value.int z)) ?_, ?_⟩
      ·
        rw [kd7]
        first
          | rw [if_pos (show wdB T n p 4 = true from h6)]
          | rw [if_neg (by rw [show wdB T n p 4 = false from h6]; decide), if_pos (show wdB T n p 5 = true from h17)]
          | rw [if_neg (by rw [show wdB T n p 4 = false from h6]; decide), if_neg (by rw [show wdB T n p 5 = false from h17]; decide), if_pos (show wdB T n p 6 = true from h28)]
          | rw [if_neg (by rw [show wdB T n p 4 = false from h6]; decide), if_neg (by rw [show wdB T n p 5 = false from h17]; decide), if_neg (by rw [show wdB T n p 6 = false from h28]; decide), if_pos (show wdB T n p 7 = true from h39)]
          | rw [if_neg (by rw [show wdB T n p 4 = false from h6]; decide), if_neg (by rw [show wdB T n p 5 = false from h17]; decide), if_neg (by rw [show wdB T n p 6 = false from h28]; decide), if_neg (by rw [show wdB T n p 7 = false from h39]; decide), if_pos (show wdB T n p 8 = true from h50)]
          | rw [if_neg (by rw [show wdB T n p 4 = false from h6]; decide), if_neg (by rw [show wdB T n p 5 = false from h17]; decide), if_neg (by rw [show wdB T n p 6 = false from h28]; decide), if_neg (by rw [show wdB T n p 7 = false from h39]; decide), if_neg (by rw [show wdB T n p 8 = false from h50]; decide), if_pos (show wdB T n p 9 = true from h61)]
          | rw [if_neg (by rw [show wdB T n p 4 = false from h6]; decide), if_neg (by rw [show wdB T n p 5 = false from h17]; decide), if_neg (by rw [show wdB T n p 6 = false from h28]; decide), if_neg (by rw [show wdB T n p 7 = false from h39]; decide), if_neg (by rw [show wdB T n p 8 = false from h50]; decide), if_neg (by rw [show wdB T n p 9 = false from h61]; decide), if_pos (show wdB T n p 10 = true from h74)]
          | rw [if_neg (by rw [show wdB T n p 4 = false from h6]; decide), if_neg (by rw [show wdB T n p 5 = false from h17]; decide), if_neg (by rw [show wdB T n p 6 = false from h28]; decide), if_neg (by rw [show wdB T n p 7 = false from h39]; decide), if_neg (by rw [show wdB T n p 8 = false from h50]; decide), if_neg (by rw [show wdB T n p 9 = false from h61]; decide), if_neg (by rw [show wdB T n p 10 = false from h74]; decide)]
      · rfl
  ·
    refine r_iconst hX dX6_kindHere_9 (q := 10) rfl (v := nI 0) (by decide +kernel) ?_
    refine r_iret hX hR dX6_kindHere_10 ?_
    -- leaf 7 at 10
    refine ⟨congrArg (fun z => some (Value.int z)) ?_, ?_⟩
    ·
      rw [kd7]
      first
        | rw [if_pos (show wdB T n p 4 = true from h6)]
        | rw [if_neg (by rw [show wdB T n p 4 = false from h6]; decide), if_pos (show wdB T n p 5 = true from h17)]
        | rw [if_neg (by rw [show wdB T n p 4 = false from h6]; decide), if_neg (by rw [show wdB T n p 5 = false from h17]; decide), if_pos (show wdB T n p 6 = true from h28)]
        | rw [if_neg (by rw [show wdB T n p 4 = false from h6]; decide), if_neg (by rw [show wdB T n p 5 = false from h17]; decide), if_neg (by rw [show wdB T n p 6 = false from h28]; decide), if_pos (show wdB T n p 7 = true from h39)]
        | rw [if_neg (by rw [show wdB T n p 4 = false from h6]; decide), if_neg (by rw [show wdB T n p 5 = false from h17]; decide), if_neg (by rw [show wdB T n p 6 = false from h28]; decide), if_neg (by rw [show wdB T n p 7 = false from h39]; decide), if_pos (show wdB T n p 8 = true from h50)]
        | rw [if_neg (by rw [show wdB T n p 4 = false from h6]; decide), if_neg (by rw [show wdB T n p 5 = false from h17]; decide), if_neg (by rw [show wdB T n p 6 = false from h28]; decide), if_neg (by rw [show wdB T n p 7 = false from h39]; decide), if_neg (by rw [show wdB T n p 8 = false from h50]; decide), if_pos (show wdB T n p 9 = true from h61)]
        | rw [if_neg (by rw [show wdB T n p 4 = false from h6]; decide), if_neg (by rw [show wdB T n p 5 = false from h17]; decide), if_neg (by rw [show wdB T n p 6 = false from h28]; decide), if_neg (by rw [show wdB T n p 7 = false from h39]; decide), if_neg (by rw [show wdB T n p 8 = false from h50]; decide), if_neg (by rw [show wdB T n p 9 = false from h61]; decide), if_pos (show wdB T n p 10 = true from h74)]
        | rw [if_neg (by rw [show wdB T n p 4 = false from h6]; decide), if_neg (by rw [show wdB T n p 5 = false from h17]; decide), if_neg (by rw [show wdB T n p 6 = false from h28]; decide), if_neg (by rw [show wdB T n p 7 = false from h39]; decide), if_neg (by rw [show wdB T n p 8 = false from h50]; decide), if_neg (by rw [show wdB T n p 9 = false from h61]; decide), if_neg (by rw [show wdB T n p 10 = false from h74]; decide)]
    · rfl
