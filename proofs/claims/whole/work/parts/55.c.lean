set_option maxRecDepth 100000 in
set_option maxHeartbeats 4000000 in
theorem c_X6_init (l : Launch) (D : va_G) (cI cS : ClassId) : MN l yX6_init cX6_init 2 1 20 8 640 D cI cS (fun h => [.ref h]) (.inr (5, [.null, .null, .null, .int 0, .null, .null, .int 0, .int 0, .int 0, .int 0, .int 0, .int 0, .null, .null, .null])) (refW cI) := by
  refine MN_of (own := RX6) rfl (by decide +kernel) (fun h => ⟨rfl, Nat.le_of_ble_eq_true rfl⟩) (fun X h hX hRn hin0 hlX => ?_)
  have hin := hin0 rfl
  subst hlX
  show WN X D 0 [some (.ref h), none] [] [(h, .inr (5, [.null, .null, .null, .int 0, .null, .null, .int 0, .int 0, .int 0, .int 0, .int 0, .int 0, .null, .null, .null]))] 0 0
  refine n_aload0 hX dX6_init_0 (q := 1) rfl ?_
  refine n_obj hX dX6_init_1 (q := 4) rfl kX6_3 msObj (Nat.le_of_ble_eq_true rfl) ⟨by decide, by decide⟩ ?_
  refine n_aload0 hX dX6_init_4 (q := 5) rfl ?_
  refine n_bipush hX dX6_init_5 (q := 7) rfl (v := nI 115) (by decide +kernel) ?_
  refine n_newa (n := 115) hX dX6_init_7 (q := 9) rfl mArr rfl (by decide) (Nat.le_of_ble_eq_true rfl) (Nat.le_of_ble_eq_true rfl) (fun a7 => ?_)
  refine n_cg (ws' := [(h, .inr (5, [.null, .null, .null, .int 0, .null, .null, .int 0, .int 0, .int 0, .int 0, .int 0, .int 0, .null, .null, .null])), (a7, .inl (cI, 115, .inl zf))]) rfl ?_
  refine n_putF (q0 := 0) (ws' := [(h, .inr (5, [.ref a7, .null, .null, .int 0, .null, .null, .int 0, .int 0, .int 0, .int 0, .int 0, .int 0, .null, .null, .null])), (a7, .inl (cI, 115, .inl zf))]) hX hin dX6_init_9 (q := 12) rfl fX6_9 eX6_0 rfl rfl rfl (Nat.le_of_ble_eq_true rfl) rfl ?_
  refine n_aload0 hX dX6_init_12 (q := 13) rfl ?_
  refine n_bipush hX dX6_init_13 (q := 15) rfl (v := nI 115) (by decide +kernel) ?_
  refine n_newa (n := 115) hX dX6_init_15 (q := 17) rfl mArr rfl (by decide) (Nat.le_of_ble_eq_true rfl) (Nat.le_of_ble_eq_true rfl) (fun a15 => ?_)
  refine n_cg (ws' := [(h, .inr (5, [.ref a7, .null, .null, .int 0, .null, .null, .int 0, .int 0, .int 0, .int 0, .int 0, .int 0, .null, .null, .null])), (a7, .inl (cI, 115, .inl zf)), (a15, .inl (cI, 115, .inl zf))]) rfl ?_
  refine n_putF (q0 := 0) (ws' := [(h, .inr (5, [.ref a7, .ref a15, .null, .int 0, .null, .null, .int 0, .int 0, .int 0, .int 0, .int 0, .int 0, .null, .null, .null])), (a7, .inl (cI, 115, .inl zf)), (a15, .inl (cI, 115, .inl zf))]) hX hin dX6_init_17 (q := 20) rfl fX6_13 eX6_1 rfl rfl rfl (Nat.le_of_ble_eq_true rfl) rfl ?_
  refine n_aload0 hX dX6_init_20 (q := 21) rfl ?_
  refine n_bipush hX dX6_init_21 (q := 23) rfl (v := nI 115) (by decide +kernel) ?_
  refine n_newa (n := 115) hX dX6_init_23 (q := 25) rfl mArr rfl (by decide) (Nat.le_of_ble_eq_true rfl) (Nat.le_of_ble_eq_true rfl) (fun a23 => ?_)
  refine n_cg (ws' := [(h, .inr (5, [.ref a7, .ref a15, .null, .int 0, .null, .null, .int 0, .int 0, .int 0, .int 0, .int 0, .int 0, .null, .null, .null])), (a7, .inl (cI, 115, .inl zf)), (a15, .inl (cI, 115, .inl zf)), (a23, .inl (cI, 115, .inl zf))]) rfl ?_
  refine n_putF (q0 := 0) (ws' := [(h, .inr (5, [.ref a7, .ref a15, .ref a23, .int 0, .null, .null, .int 0, .int 0, .int 0, .int 0, .int 0, .int 0, .null, .null, .null])), (a7, .inl (cI, 115, .inl zf)), (a15, .inl (cI, 115, .inl zf)), (a23, .inl (cI, 115, .inl zf))]) hX hin dX6_init_25 (q := 28) rfl fX6_16 eX6_2 rfl rfl rfl (Nat.le_of_ble_eq_true rfl) rfl ?_
  refine n_aload0 hX dX6_init_28 (q := 29) rfl ?_
  refine n_bipush hX dX6_init_29 (q := 31) rfl (v := nI 7) (by decide +kernel) ?_
  refine n_newa (n := 7) hX dX6_init_31 (q := 33) rfl mArr rfl (by decide) (Nat.le_of_ble_eq_true rfl) (Nat.le_of_ble_eq_true rfl) (fun a31 => ?_)
  refine n_cg (ws' := [(h, .inr (5, [.ref a7, .ref a15, .ref a23, .int 0, .null, .null, .int 0, .int 0, .int 0, .int 0, .int 0, .int 0, .null, .null, .null])), (a7, .inl (cI, 115, .inl zf)), (a15, .inl (cI, 115, .inl zf)), (a23, .inl (cI, 115, .inl zf)), (a31, .inl (cI, 7, .inl zf))]) rfl ?_
  refine n_putF (q0 := 0) (ws' := [(h, .inr (5, [.ref a7, .ref a15, .ref a23, .int 0, .ref a31, .null, .int 0, .int 0, .int 0, .int 0, .int 0, .int 0, .null, .null, .null])), (a7, .inl (cI, 115, .inl zf)), (a15, .inl (cI, 115, .inl zf)), (a23, .inl (cI, 115, .inl zf)), (a31, .inl (cI, 7, .inl zf))]) hX hin dX6_init_33 (q := 36) rfl fX6_19 eX6_4 rfl rfl rfl (Nat.le_of_ble_eq_true rfl) rfl ?_
  refine n_aload0 hX dX6_init_36 (q := 37) rfl ?_
  refine n_bipush hX dX6_init_37 (q := 39) rfl (v := nI 120) (by decide +kernel) ?_
  refine n_newa (n := 120) hX dX6_init_39 (q := 41) rfl mArr rfl (by decide) (Nat.le_of_ble_eq_true rfl) (Nat.le_of_ble_eq_true rfl) (fun a39 => ?_)
  refine n_cg (ws' := [(h, .inr (5, [.ref a7, .ref a15, .ref a23, .int 0, .ref a31, .null, .int 0, .int 0, .int 0, .int 0, .int 0, .int 0, .null, .null, .null])), (a7, .inl (cI, 115, .inl zf)), (a15, .inl (cI, 115, .inl zf)), (a23, .inl (cI, 115, .inl zf)), (a31, .inl (cI, 7, .inl zf)), (a39, .inl (cI, 120, .inl zf))]) rfl ?_
  refine n_putF (q0 := 0) (ws' := [(h, .inr (5, [.ref a7, .ref a15, .ref a23, .int 0, .ref a31, .ref a39, .int 0, .int 0, .int 0, .int 0, .int 0, .int 0, .null, .null, .null])), (a7, .inl (cI, 115, .inl zf)), (a15, .inl (cI, 115, .inl zf)), (a23, .inl (cI, 115, .inl zf)), (a31, .inl (cI, 7, .inl zf)), (a39, .inl (cI, 120, .inl zf))]) hX hin dX6_init_41 (q := 44) rfl fX6_22 eX6_5 rfl rfl rfl (Nat.le_of_ble_eq_true rfl) rfl ?_
  refine n_aload0 hX dX6_init_44 (q := 45) rfl ?_
  refine n_iconst hX dX6_init_45 (q := 46) rfl (v := nI 4) (by decide +kernel) ?_
  refine n_newa (n := 4) hX dX6_init_46 (q := 48) rfl mArr rfl (by decide) (Nat.le_of_ble_eq_true rfl) (Nat.le_of_ble_eq_true rfl) (fun a46 => ?_)
  refine n_cg (ws' := [(h, .inr (5, [.ref a7, .ref a15, .ref a23, .int 0, .ref a31, .ref a39, .int 0, .int 0, .int 0, .int 0, .int 0, .int 0, .null, .null, .null])), (a7, .inl (cI, 115, .inl zf)), (a15, .inl (cI, 115, .inl zf)), (a23, .inl (cI, 115, .inl zf)), (a31, .inl (cI, 7, .inl zf)), (a39, .inl (cI, 120, .inl zf)), (a46, .inl (cI, 4, .inl zf))]) rfl ?_
  refine n_putF (q0 := 0) (ws' := [(h, .inr (5, [.ref a7, .ref a15, .ref a23, .int 0, .ref a31, .ref a39, .int 0, .int 0, .int 0, .int 0, .int 0, .int 0, .ref a46, .null, .null])), (a7, .inl (cI, 115, .inl zf)), (a15, .inl (cI, 115, .inl zf)), (a23, .inl (cI, 115, .inl zf)), (a31, .inl (cI, 7, .inl zf)), (a39, .inl (cI, 120, .inl zf)), (a46, .inl (cI, 4, .inl zf))]) hX hin dX6_init_48 (q := 51) rfl fX6_25 eX6_12 rfl rfl rfl (Nat.le_of_ble_eq_true rfl) rfl ?_
  refine n_aload0 hX dX6_init_51 (q := 52) rfl ?_
  refine n_iconst hX dX6_init_52 (q := 53) rfl (v := nI 4) (by decide +kernel) ?_
  refine n_newa (n := 4) hX dX6_init_53 (q := 55) rfl mArr rfl (by decide) (Nat.le_of_ble_eq_true rfl) (Nat.le_of_ble_eq_true rfl) (fun a53 => ?_)
  refine n_cg (ws' := [(h, .inr (5, [.ref a7, .ref a15, .ref a23, .int 0, .ref a31, .ref a39, .int 0, .int 0, .int 0, .int 0, .int 0, .int 0, .ref a46, .null, .null])), (a7, .inl (cI, 115, .inl zf)), (a15, .inl (cI, 115, .inl zf)), (a23, .inl (cI, 115, .inl zf)), (a31, .inl (cI, 7, .inl zf)), (a39, .inl (cI, 120, .inl zf)), (a46, .inl (cI, 4, .inl zf)), (a53, .inl (cI, 4, .inl zf))]) rfl ?_
  refine n_putF (q0 := 0) (ws' := [(h, .inr (5, [.ref a7, .ref a15, .ref a23, .int 0, .ref a31, .ref a39, .int 0, .int 0, .int 0, .int 0, .int 0, .int 0, .ref a46, .ref a53, .null])), (a7, .inl (cI, 115, .inl zf)), (a15, .inl (cI, 115, .inl zf)), (a23, .inl (cI, 115, .inl zf)), (a31, .inl (cI, 7, .inl zf)), (a39, .inl (cI, 120, .inl zf)), (a46, .inl (cI, 4, .inl zf)), (a53, .inl (cI, 4, .inl zf))]) hX hin dX6_init_55 (q := 58) rfl fX6_28 eX6_13 rfl rfl rfl (Nat.le_of_ble_eq_true rfl) rfl ?_
  refine n_aload0 hX dX6_init_58 (q := 59) rfl ?_
  refine n_sipush hX dX6_init_59 (q := 62) rfl (v := nI 160) (by decide +kernel) ?_
  refine n_newa (n := 160) hX dX6_init_62 (q := 64) rfl mArr rfl (by decide) (Nat.le_of_ble_eq_true rfl) (Nat.le_of_ble_eq_true rfl) (fun a62 => ?_)
  refine n_cg (ws' := [(h, .inr (5, [.ref a7, .ref a15, .ref a23, .int 0, .ref a31, .ref a39, .int 0, .int 0, .int 0, .int 0, .int 0, .int 0, .ref a46, .ref a53, .null])), (a7, .inl (cI, 115, .inl zf)), (a15, .inl (cI, 115, .inl zf)), (a23, .inl (cI, 115, .inl zf)), (a31, .inl (cI, 7, .inl zf)), (a39, .inl (cI, 120, .inl zf)), (a46, .inl (cI, 4, .inl zf)), (a53, .inl (cI, 4, .inl zf)), (a62, .inl (cI, 160, .inl zf))]) rfl ?_
  refine n_putF (q0 := 0) (ws' := [(h, .inr (5, [.ref a7, .ref a15, .ref a23, .int 0, .ref a31, .ref a39, .int 0, .int 0, .int 0, .int 0, .int 0, .int 0, .ref a46, .ref a53, .ref a62])), (a7, .inl (cI, 115, .inl zf)), (a15, .inl (cI, 115, .inl zf)), (a23, .inl (cI, 115, .inl zf)), (a31, .inl (cI, 7, .inl zf)), (a39, .inl (cI, 120, .inl zf)), (a46, .inl (cI, 4, .inl zf)), (a53, .inl (cI, 4, .inl zf)), (a62, .inl (cI, 160, .inl zf))]) hX hin dX6_init_64 (q := 67) rfl fX6_31 eX6_14 rfl rfl rfl (Nat.le_of_ble_eq_true rfl) rfl ?_
  refine n_aload0 hX dX6_init_67 (q := 68) rfl ?_
  refine n_get (q0 := 0) hX dX6_init_68 (q := 71) rfl fX6_9 rfl rfl ?_
  refine n_iconst hX dX6_init_71 (q := 72) rfl (v := nI 1) (by decide +kernel) ?_
  refine n_iconst hX dX6_init_72 (q := 73) rfl (v := nI 1) (by decide +kernel) ?_
  refine n_iast (q0 := 1) (j := 1) (ws' := [(h, .inr (5, [.ref a7, .ref a15, .ref a23, .int 0, .ref a31, .ref a39, .int 0, .int 0, .int 0, .int 0, .int 0, .int 0, .ref a46, .ref a53, .ref a62])), (a7, .inl (cI, 115, .inl (upd zf 1 (nI 1)))), (a15, .inl (cI, 115, .inl zf)), (a23, .inl (cI, 115, .inl zf)), (a31, .inl (cI, 7, .inl zf)), (a39, .inl (cI, 120, .inl zf)), (a46, .inl (cI, 4, .inl zf)), (a53, .inl (cI, 4, .inl zf)), (a62, .inl (cI, 160, .inl zf))]) hX dX6_init_73 (q := 74) rfl rfl (by decide +kernel) (by decide) (by decide) rfl ?_
  refine n_aload0 hX dX6_init_74 (q := 75) rfl ?_
  refine n_get (q0 := 0) hX dX6_init_75 (q := 78) rfl fX6_9 rfl rfl ?_
  refine n_iconst hX dX6_init_78 (q := 79) rfl (v := nI 2) (by decide +kernel) ?_
  refine n_iconst hX dX6_init_79 (q := 80) rfl (v := nI 3) (by decide +kernel) ?_
  refine n_iast (q0 := 1) (j := 2) (ws' := [(h, .inr (5, [.ref a7, .ref a15, .ref a23, .int 0, .ref a31, .ref a39, .int 0, .int 0, .int 0, .int 0, .int 0, .int 0, .ref a46, .ref a53, .ref a62])), (a7, .inl (cI, 115, .inl (upd (upd zf 1 (nI 1)) 2 (nI 3)))), (a15, .inl (cI, 115, .inl zf)), (a23, .inl (cI, 115, .inl zf)), (a31, .inl (cI, 7, .inl zf)), (a39, .inl (cI, 120, .inl zf)), (a46, .inl (cI, 4, .inl zf)), (a53, .inl (cI, 4, .inl zf)), (a62, .inl (cI, 160, .inl zf))]) hX dX6_init_80 (q := 81) rfl rfl (by decide +kernel) (by decide) (by decide) rfl ?_
  refine n_aload0 hX dX6_init_81 (q := 82) rfl ?_
  refine n_get (q0 := 0) hX dX6_init_82 (q := 85) rfl fX6_9 rfl rfl ?_
  refine n_iconst hX dX6_init_85 (q := 86) rfl (v := nI 3) (by decide +kernel) ?_
  refine n_bipush hX dX6_init_86 (q := 88) rfl (v := nI 40) (by decide +kernel) ?_
  refine n_iast (q0 := 1) (j := 3) (ws' := [(h, .inr (5, [.ref a7, .ref a15, .ref a23, .int 0, .ref a31, .ref a39, .int 0, .int 0, .int 0, .int 0, .int 0, .int 0, .ref a46, .ref a53, .ref a62])), (a7, .inl (cI, 115, .inl (upd (upd (upd zf 1 (nI 1)) 2 (nI 3)) 3 (nI 40)))), (a15, .inl (cI, 115, .inl zf)), (a23, .inl (cI, 115, .inl zf)), (a31, .inl (cI, 7, .inl zf)), (a39, .inl (cI, 120, .inl zf)), (a46, .inl (cI, 4, .inl zf)), (a53, .inl (cI, 4, .inl zf)), (a62, .inl (cI, 160, .inl zf))]) hX dX6_init_88 (q := 89) rfl rfl (by decide +kernel) (by decide) (by decide) rfl ?_
  refine n_aload0 hX dX6_init_89 (q := 90) rfl ?_
  refine n_get (q0 := 0) hX dX6_init_90 (q := 93) rfl fX6_9 rfl rfl ?_
  refine n_iconst hX dX6_init_93 (q := 94) rfl (v := nI 4) (by decide +kernel) ?_
  refine n_sipush hX dX6_init_94 (q := 97) rfl (v := nI 1500) (by decide +kernel) ?_
  refine n_iast (q0 := 1) (j := 4) (ws' := [(h, .inr (5, [.ref a7, .ref a15, .ref a23, .int 0, .ref a31, .ref a39, .int 0, .int 0, .int 0, .int 0, .int 0, .int 0, .ref a46, .ref a53, .ref a62])), (a7, .inl (cI, 115, .inl (upd (upd (upd (upd zf 1 (nI 1)) 2 (nI 3)) 3 (nI 40)) 4 (nI 1500)))), (a15, .inl (cI, 115, .inl zf)), (a23, .inl (cI, 115, .inl zf)), (a31, .inl (cI, 7, .inl zf)), (a39, .inl (cI, 120, .inl zf)), (a46, .inl (cI, 4, .inl zf)), (a53, .inl (cI, 4, .inl zf)), (a62, .inl (cI, 160, .inl zf))]) hX dX6_init_97 (q := 98) rfl rfl (by decide +kernel) (by decide) (by decide) rfl ?_
  refine n_aload0 hX dX6_init_98 (q := 99) rfl ?_
  refine n_get (q0 := 0) hX dX6_init_99 (q := 102) rfl fX6_9 rfl rfl ?_
  refine n_iconst hX dX6_init_102 (q := 103) rfl (v := nI 5) (by decide +kernel) ?_
  refine n_bipush hX dX6_init_103 (q := 105) rfl (v := nI 50) (by decide +kernel) ?_
  refine n_iast (q0 := 1) (j := 5) (ws' := [(h, .inr (5, [.ref a7, .ref a15, .ref a23, .int 0, .ref a31, .ref a39, .int 0, .int 0, .int 0, .int 0, .int 0, .int 0, .ref a46, .ref a53, .ref a62])), (a7, .inl (cI, 115, .inl (upd (upd (upd (upd (upd zf 1 (nI 1)) 2 (nI 3)) 3 (nI 40)) 4 (nI 1500)) 5 (nI 50)))), (a15, .inl (cI, 115, .inl zf)), (a23, .inl (cI, 115, .inl zf)), (a31, .inl (cI, 7, .inl zf)), (a39, .inl (cI, 120, .inl zf)), (a46, .inl (cI, 4, .inl zf)), (a53, .inl (cI, 4, .inl zf)), (a62, .inl (cI, 160, .inl zf))]) hX dX6_init_105 (q := 106) rfl rfl (by decide +kernel) (by decide) (by decide) rfl ?_
  refine n_aload0 hX dX6_init_106 (q := 107) rfl ?_
  refine n_get (q0 := 0) hX dX6_init_107 (q := 110) rfl fX6_9 rfl rfl ?_
  refine n_bipush hX dX6_init_110 (q := 112) rfl (v := nI 6) (by decide +kernel) ?_
  refine n_iconst hX dX6_init_112 (q := 113) rfl (v := (-1)) (by decide +kernel) ?_
  refine n_iast (q0 := 1) (j := 6) (ws' := [(h, .inr (5, [.ref a7, .ref a15, .ref a23, .int 0, .ref a31, .ref a39, .int 0, .int 0, .int 0, .int 0, .int 0, .int 0, .ref a46, .ref a53, .ref a62])), (a7, .inl (cI, 115, .inl (upd (upd (upd (upd (upd (upd zf 1 (nI 1)) 2 (nI 3)) 3 (nI 40)) 4 (nI 1500)) 5 (nI 50)) 6 (-1)))), (a15, .inl (cI, 115, .inl zf)), (a23, .inl (cI, 115, .inl zf)), (a31, .inl (cI, 7, .inl zf)), (a39, .inl (cI, 120, .inl zf)), (a46, .inl (cI, 4, .inl zf)), (a53, .inl (cI, 4, .inl zf)), (a62, .inl (cI, 160, .inl zf))]) hX dX6_init_113 (q := 114) rfl rfl (by decide +kernel) (by decide) (by decide) rfl ?_
  refine n_iconst hX dX6_init_114 (q := 115) rfl (v := nI 0) (by decide +kernel) ?_
  refine n_istore1 hX dX6_init_115 (q := 116) rfl rfl ?_
  refine n_iload1 hX dX6_init_116 (q := 117) rfl ?_
  refine n_bipush hX dX6_init_117 (q := 119) rfl (v := nI 10) (by decide +kernel) ?_
  refine n_icmp_ge hX dX6_init_119 (q := 122) rfl (tgt := 141) (by decide) (fun h => absurd h (by decide +kernel)) (fun _ => ?_)
  refine n_aload0 hX dX6_init_122 (q := 123) rfl ?_
  refine n_get (q0 := 0) hX dX6_init_123 (q := 126) rfl fX6_9 rfl rfl ?_
  refine n_bipush hX dX6_init_126 (q := 128) rfl (v := nI 10) (by decide +kernel) ?_
  refine n_iconst hX dX6_init_128 (q := 129) rfl (v := nI 3) (by decide +kernel) ?_
  refine n_iload1 hX dX6_init_129 (q := 130) rfl ?_
  refine n_imul hX dX6_init_130 (q := 131) rfl ?_
  refine n_iadd hX dX6_init_131 (q := 132) rfl ?_
  refine n_bipush hX dX6_init_132 (q := 134) rfl (v := nI 20) (by decide +kernel) ?_
  refine n_iast (q0 := 1) (j := 10) (ws' := [(h, .inr (5, [.ref a7, .ref a15, .ref a23, .int 0, .ref a31, .ref a39, .int 0, .int 0, .int 0, .int 0, .int 0, .int 0, .ref a46, .ref a53, .ref a62])), (a7, .inl (cI, 115, .inl (upd (upd (upd (upd (upd (upd (upd zf 1 (nI 1)) 2 (nI 3)) 3 (nI 40)) 4 (nI 1500)) 5 (nI 50)) 6 (-1)) 10 (nI 20)))), (a15, .inl (cI, 115, .inl zf)), (a23, .inl (cI, 115, .inl zf)), (a31, .inl (cI, 7, .inl zf)), (a39, .inl (cI, 120, .inl zf)), (a46, .inl (cI, 4, .inl zf)), (a53, .inl (cI, 4, .inl zf)), (a62, .inl (cI, 160, .inl zf))]) hX dX6_init_134 (q := 135) rfl rfl (by decide +kernel) (by decide) (by decide) rfl ?_
  refine n_iinc1 hX dX6_init_135 (q := 138) rfl rfl (v := nI 1) (by decide +kernel) ?_
  refine n_goto hX dX6_init_138 (tgt := 116) (by decide) ?_
  refine n_iload1 hX dX6_init_116 (q := 117) rfl ?_
  refine n_bipush hX dX6_init_117 (q := 119) rfl (v := nI 10) (by decide +kernel) ?_
  refine n_icmp_ge hX dX6_init_119 (q := 122) rfl (tgt := 141) (by decide) (fun h => absurd h (by decide +kernel)) (fun _ => ?_)
  refine n_aload0 hX dX6_init_122 (q := 123) rfl ?_
  refine n_get (q0 := 0) hX dX6_init_123 (q := 126) rfl fX6_9 rfl rfl ?_
  refine n_bipush hX dX6_init_126 (q := 128) rfl (v := nI 10) (by decide +kernel) ?_
  refine n_iconst hX dX6_init_128 (q := 129) rfl (v := nI 3) (by decide +kernel) ?_
  refine n_iload1 hX dX6_init_129 (q := 130) rfl ?_
  refine n_imul hX dX6_init_130 (q := 131) rfl ?_
  refine n_iadd hX dX6_init_131 (q := 132) rfl ?_
  refine n_bipush hX dX6_init_132 (q := 134) rfl (v := nI 20) (by decide +kernel) ?_
  refine n_iast (q0 := 1) (j := 13) (ws' := [(h, .inr (5, [.ref a7, .ref a15, .ref a23, .int 0, .ref a31, .ref a39, .int 0, .int 0, .int 0, .int 0, .int 0, .int 0, .ref a46, .ref a53, .ref a62])), (a7, .inl (cI, 115, .inl (upd (upd (upd (upd (upd (upd (upd (upd zf 1 (nI 1)) 2 (nI 3)) 3 (nI 40)) 4 (nI 1500)) 5 (nI 50)) 6 (-1)) 10 (nI 20)) 13 (nI 20)))), (a15, .inl (cI, 115, .inl zf)), (a23, .inl (cI, 115, .inl zf)), (a31, .inl (cI, 7, .inl zf)), (a39, .inl (cI, 120, .inl zf)), (a46, .inl (cI, 4, .inl zf)), (a53, .inl (cI, 4, .inl zf)), (a62, .inl (cI, 160, .inl zf))]) hX dX6_init_134 (q := 135) rfl rfl (by decide +kernel) (by decide) (by decide) rfl ?_
  refine n_iinc1 hX dX6_init_135 (q := 138) rfl rfl (v := nI 2) (by decide +kernel) ?_
  refine n_goto hX dX6_init_138 (tgt := 116) (by decide) ?_
  refine n_iload1 hX dX6_init_116 (q := 117) rfl ?_
  refine n_bipush hX dX6_init_117 (q := 119) rfl (v := nI 10) (by decide +kernel) ?_
  refine n_icmp_ge hX dX6_init_119 (q := 122) rfl (tgt := 141) (by decide) (fun h => absurd h (by decide +kernel)) (fun _ => ?_)
  refine n_aload0 hX dX6_init_122 (q := 123) rfl ?_
  refine n_get (q0 := 0) hX dX6_init_123 (q := 126) rfl fX6_9 rfl rfl ?_
  refine n_bipush hX dX6_init_126 (q := 128) rfl (v := nI 10) (by decide +kernel) ?_
  refine n_iconst hX dX6_init_128 (q := 129) rfl (v := nI 3) (by decide +kernel) ?_
  refine n_iload1 hX dX6_init_129 (q := 130) rfl ?_
  refine n_imul hX dX6_init_130 (q := 131) rfl ?_
  refine n_iadd hX dX6_init_131 (q := 132) rfl ?_
  refine n_bipush hX dX6_init_132 (q := 134) rfl (v := nI 20) (by decide +kernel) ?_
  refine n_iast (q0 := 1) (j := 16) (ws' := [(h, .inr (5, [.ref a7, .ref a15, .ref a23, .int 0, .ref a31, .ref a39, .int 0, .int 0, .int 0, .int 0, .int 0, .int 0, .ref a46, .ref a53, .ref a62])), (a7, .inl (cI, 115, .inl (upd (upd (upd (upd (upd (upd (upd (upd (upd zf 1 (nI 1)) 2 (nI 3)) 3 (nI 40)) 4 (nI 1500)) 5 (nI 50)) 6 (-1)) 10 (nI 20)) 13 (nI 20)) 16 (nI 20)))), (a15, .inl (cI, 115, .inl zf)), (a23, .inl (cI, 115, .inl zf)), (a31, .inl (cI, 7, .inl zf)), (a39, .inl (cI, 120, .inl zf)), (a46, .inl (cI, 4, .inl zf)), (a53, .inl (cI, 4, .inl zf)), (a62, .inl (cI, 160, .inl zf))]) hX dX6_init_134 (q := 135) rfl rfl (by decide +kernel) (by decide) (by decide) rfl ?_
  refine n_iinc1 hX dX6_init_135 (q := 138) rfl rfl (v := nI 3) (by decide +kernel) ?_
  refine n_goto hX dX6_init_138 (tgt := 116) (by decide) ?_
  refine n_iload1 hX dX6_init_116 (q := 117) rfl ?_
  refine n_bipush hX dX6_init_117 (q := 119) rfl (v := nI 10) (by decide +kernel) ?_
  refine n_icmp_ge hX dX6_init_119 (q := 122) rfl (tgt := 141) (by decide) (fun h => absurd h (by decide +kernel)) (fun _ => ?_)
  refine n_aload0 hX dX6_init_122 (q := 123) rfl ?_
  refine n_get (q0 := 0) hX dX6_init_123 (q := 126) rfl fX6_9 rfl rfl ?_
  refine n_bipush hX dX6_init_126 (q := 128) rfl (v := nI 10) (by decide +kernel) ?_
  refine n_iconst hX dX6_init_128 (q := 129) rfl (v := nI 3) (by decide +kernel) ?_
  refine n_iload1 hX dX6_init_129 (q := 130) rfl ?_
  refine n_imul hX dX6_init_130 (q := 131) rfl ?_
  refine n_iadd hX dX6_init_131 (q := 132) rfl ?_
  refine n_bipush hX dX6_init_132 (q := 134) rfl (v := nI 20) (by decide +kernel) ?_
  refine n_iast (q0 := 1) (j := 19) (ws' := [(h, .inr (5, [.ref a7, .ref a15, .ref a23, .int 0, .ref a31, .ref a39, .int 0, .int 0, .int 0, .int 0, .int 0, .int 0, .ref a46, .ref a53, .ref a62])), (a7, .inl (cI, 115, .inl (upd (upd (upd (upd (upd (upd (upd (upd (upd (upd zf 1 (nI 1)) 2 (nI 3)) 3 (nI 40)) 4 (nI 1500)) 5 (nI 50)) 6 (-1)) 10 (nI 20)) 13 (nI 20)) 16 (nI 20)) 19 (nI 20)))), (a15, .inl (cI, 115, .inl zf)), (a23, .inl (cI, 115, .inl zf)), (a31, .inl (cI, 7, .inl zf)), (a39, .inl (cI, 120, .inl zf)), (a46, .inl (cI, 4, .inl zf)), (a53, .inl (cI, 4, .inl zf)), (a62, .inl (cI, 160, .inl zf))]) hX dX6_init_134 (q := 135) rfl rfl (by decide +kernel) (by decide) (by decide) rfl ?_
  refine n_iinc1 hX dX6_init_135 (q := 138) rfl rfl (v := nI 4) (by decide +kernel) ?_
  refine n_goto hX dX6_init_138 (tgt := 116) (by decide) ?_
  refine n_iload1 hX dX6_init_116 (q := 117) rfl ?_
  refine n_bipush hX dX6_init_117 (q := 119) rfl (v := nI 10) (by decide +kernel) ?_
  refine n_icmp_ge hX dX6_init_119 (q := 122) rfl (tgt := 141) (by decide) (fun h => absurd h (by decide +kernel)) (fun _ => ?_)
  refine n_aload0 hX dX6_init_122 (q := 123) rfl ?_
  refine n_get (q0 := 0) hX dX6_init_123 (q := 126) rfl fX6_9 rfl rfl ?_
  refine n_bipush hX dX6_init_126 (q := 128) rfl (v := nI 10) (by decide +kernel) ?_
  refine n_iconst hX dX6_init_128 (q := 129) rfl (v := nI 3) (by decide +kernel) ?_
  refine n_iload1 hX dX6_init_129 (q := 130) rfl ?_
  refine n_imul hX dX6_init_130 (q := 131) rfl ?_
  refine n_iadd hX dX6_init_131 (q := 132) rfl ?_
  refine n_bipush hX dX6_init_132 (q := 134) rfl (v := nI 20) (by decide +kernel) ?_
  refine n_iast (q0 := 1) (j := 22) (ws' := [(h, .inr (5, [.ref a7, .ref a15, .ref a23, .int 0, .ref a31, .ref a39, .int 0, .int 0, .int 0, .int 0, .int 0, .int 0, .ref a46, .ref a53, .ref a62])), (a7, .inl (cI, 115, .inl (upd (upd (upd (upd (upd (upd (upd (upd (upd (upd (upd zf 1 (nI 1)) 2 (nI 3)) 3 (nI 40)) 4 (nI 1500)) 5 (nI 50)) 6 (-1)) 10 (nI 20)) 13 (nI 20)) 16 (nI 20)) 19 (nI 20)) 22 (nI 20)))), (a15, .inl (cI, 115, .inl zf)), (a23, .inl (cI, 115, .inl zf)), (a31, .inl (cI, 7, .inl zf)), (a39, .inl (cI, 120, .inl zf)), (a46, .inl (cI, 4, .inl zf)), (a53, .inl (cI, 4, .inl zf)), (a62, .inl (cI, 160, .inl zf))]) hX dX6_init_134 (q := 135) rfl rfl (by decide +kernel) (by decide) (by decide) rfl ?_
  refine n_iinc1 hX dX6_init_135 (q := 138) rfl rfl (v := nI 5) (by decide +kernel) ?_
  refine n_goto hX dX6_init_138 (tgt := 116) (by decide) ?_
  refine n_iload1 hX dX6_init_116 (q := 117) rfl ?_
  refine n_bipush hX dX6_init_117 (q := 119) rfl (v := nI 10) (by decide +kernel) ?_
  refine n_icmp_ge hX dX6_init_119 (q := 122) rfl (tgt := 141) (by decide) (fun h => absurd h (by decide +kernel)) (fun _ => ?_)
  refine n_aload0 hX dX6_init_122 (q := 123) rfl ?_
  refine n_get (q0 := 0) hX dX6_init_123 (q := 126) rfl fX6_9 rfl rfl ?_
  refine n_bipush hX dX6_init_126 (q := 128) rfl (v := nI 10) (by decide +kernel) ?_
  refine n_iconst hX dX6_init_128 (q := 129) rfl (v := nI 3) (by decide +kernel) ?_
  refine n_iload1 hX dX6_init_129 (q := 130) rfl ?_
  refine n_imul hX dX6_init_130 (q := 131) rfl ?_
  refine n_iadd hX dX6_init_131 (q := 132) rfl ?_
  refine n_bipush hX dX6_init_132 (q := 134) rfl (v := nI 20) (by decide +kernel) ?_
  refine n_iast (q0 := 1) (j := 25) (ws' := [(h, .inr (5, [.ref a7, .ref a15, .ref a23, .int 0, .ref a31, .ref a39, .int 0, .int 0, .int 0, .int 0, .int 0, .int 0, .ref a46, .ref a53, .ref a62])), (a7, .inl (cI, 115, .inl (upd (upd (upd (upd (upd (upd (upd (upd (upd (upd (upd (upd zf 1 (nI 1)) 2 (nI 3)) 3 (nI 40)) 4 (nI 1500)) 5 (nI 50)) 6 (-1)) 10 (nI 20)) 13 (nI 20)) 16 (nI 20)) 19 (nI 20)) 22 (nI 20)) 25 (nI 20)))), (a15, .inl (cI, 115, .inl zf)), (a23, .inl (cI, 115, .inl zf)), (a31, .inl (cI, 7, .inl zf)), (a39, .inl (cI, 120, .inl zf)), (a46, .inl (cI, 4, .inl zf)), (a53, .inl (cI, 4, .inl zf)), (a62, .inl (cI, 160, .inl zf))]) hX dX6_init_134 (q := 135) rfl rfl (by decide +kernel) (by decide) (by decide) rfl ?_
  refine n_iinc1 hX dX6_init_135 (q := 138) rfl rfl (v := nI 6) (by decide +kernel) ?_
  refine n_goto hX dX6_init_138 (tgt := 116) (by decide) ?_
  refine n_iload1 hX dX6_init_116 (q := 117) rfl ?_
  refine n_bipush hX dX6_init_117 (q := 119) rfl (v := nI 10) (by decide +kernel) ?_
  refine n_icmp_ge hX dX6_init_119 (q := 122) rfl (tgt := 141) (by decide) (fun h => absurd h (by decide +kernel)) (fun _ => ?_)
  refine n_aload0 hX dX6_init_122 (q := 123) rfl ?_
  refine n_get (q0 := 0) hX dX6_init_123 (q := 126) rfl fX6_9 rfl rfl ?_
  refine n_bipush hX dX6_init_126 (q := 128) rfl (v := nI 10) (by decide +kernel) ?_
  refine n_iconst hX dX6_init_128 (q := 129) rfl (v := nI 3) (by decide +kernel) ?_
  refine n_iload1 hX dX6_init_129 (q := 130) rfl ?_
  refine n_imul hX dX6_init_130 (q := 131) rfl ?_
  refine n_iadd hX dX6_init_131 (q := 132) rfl ?_
  refine n_bipush hX dX6_init_132 (q := 134) rfl (v := nI 20) (by decide +kernel) ?_
  refine n_iast (q0 := 1) (j := 28) (ws' := [(h, .inr (5, [.ref a7, .ref a15, .ref a23, .int 0, .ref a31, .ref a39, .int 0, .int 0, .int 0, .int 0, .int 0, .int 0, .ref a46, .ref a53, .ref a62])), (a7, .inl (cI, 115, .inl (upd (upd (upd (upd (upd (upd (upd (upd (upd (upd (upd (upd (upd zf 1 (nI 1)) 2 (nI 3)) 3 (nI 40)) 4 (nI 1500)) 5 (nI 50)) 6 (-1)) 10 (nI 20)) 13 (nI 20)) 16 (nI 20)) 19 (nI 20)) 22 (nI 20)) 25 (nI 20)) 28 (nI 20)))), (a15, .inl (cI, 115, .inl zf)), (a23, .inl (cI, 115, .inl zf)), (a31, .inl (cI, 7, .inl zf)), (a39, .inl (cI, 120, .inl zf)), (a46, .inl (cI, 4, .inl zf)), (a53, .inl (cI, 4, .inl zf)), (a62, .inl (cI, 160, .inl zf))]) hX dX6_init_134 (q := 135) rfl rfl (by decide +kernel) (by decide) (by decide) rfl ?_
  refine n_iinc1 hX dX6_init_135 (q := 138) rfl rfl (v := nI 7) (by decide +kernel) ?_
  refine n_goto hX dX6_init_138 (tgt := 116) (by decide) ?_
  refine n_iload1 hX dX6_init_116 (q := 117) rfl ?_
  refine n_bipush hX dX6_init_117 (q := 119) rfl (v := nI 10) (by decide +kernel) ?_
  refine n_icmp_ge hX dX6_init_119 (q := 122) rfl (tgt := 141) (by decide) (fun h => absurd h (by decide +kernel)) (fun _ => ?_)
  refine n_aload0 hX dX6_init_122 (q := 123) rfl ?_
  refine n_get (q0 := 0) hX dX6_init_123 (q := 126) rfl fX6_9 rfl rfl ?_
  refine n_bipush hX dX6_init_126 (q := 128) rfl (v := nI 10) (by decide +kernel) ?_
  refine n_iconst hX dX6_init_128 (q := 129) rfl (v := nI 3) (by decide +kernel) ?_
  refine n_iload1 hX dX6_init_129 (q := 130) rfl ?_
  refine n_imul hX dX6_init_130 (q := 131) rfl ?_
  refine n_iadd hX dX6_init_131 (q := 132) rfl ?_
  refine n_bipush hX dX6_init_132 (q := 134) rfl (v := nI 20) (by decide +kernel) ?_
  refine n_iast (q0 := 1) (j := 31) (ws' := [(h, .inr (5, [.ref a7, .ref a15, .ref a23, .int 0, .ref a31, .ref a39, .int 0, .int 0, .int 0, .int 0, .int 0, .int 0, .ref a46, .ref a53, .ref a62])), (a7, .inl (cI, 115, .inl (upd (upd (upd (upd (upd (upd (upd (upd (upd (upd (upd (upd (upd (upd zf 1 (nI 1)) 2 (nI 3)) 3 (nI 40)) 4 (nI 1500)) 5 (nI 50)) 6 (-1)) 10 (nI 20)) 13 (nI 20)) 16 (nI 20)) 19 (nI 20)) 22 (nI 20)) 25 (nI 20)) 28 (nI 20)) 31 (nI 20)))), (a15, .inl (cI, 115, .inl zf)), (a23, .inl (cI, 115, .inl zf)), (a31, .inl (cI, 7, .inl zf)), (a39, .inl (cI, 120, .inl zf)), (a46, .inl (cI, 4, .inl zf)), (a53, .inl (cI, 4, .inl zf)), (a62, .inl (cI, 160, .inl zf))]) hX dX6_init_134 (q := 135) rfl rfl (by decide +kernel) (by decide) (by decide) rfl ?_
  refine n_iinc1 hX dX6_init_135 (q := 138) rfl rfl (v := nI 8) (by decide +kernel) ?_
  refine n_goto hX dX6_init_138 (tgt := 116) (by decide) ?_
  refine n_iload1 hX dX6_init_116 (q := 117) rfl ?_
  refine n_bipush hX dX6_init_117 (q := 119) rfl (v := nI 10) (by decide +kernel) ?_
  refine n_icmp_ge hX dX6_init_119 (q := 122) rfl (tgt := 141) (by decide) (fun h => absurd h (by decide +kernel)) (fun _ => ?_)
  refine n_aload0 hX dX6_init_122 (q := 123) rfl ?_
  refine n_get (q0 := 0) hX dX6_init_123 (q := 126) rfl fX6_9 rfl rfl ?_
  refine n_bipush hX dX6_init_126 (q := 128) rfl (v := nI 10) (by decide +kernel) ?_
  refine n_iconst hX dX6_init_128 (q := 129) rfl (v := nI 3) (by decide +kernel) ?_
  refine n_iload1 hX dX6_init_129 (q := 130) rfl ?_
  refine n_imul hX dX6_init_130 (q := 131) rfl ?_
  refine n_iadd hX dX6_init_131 (q := 132) rfl ?_
  refine n_bipush hX dX6_init_132 (q := 134) rfl (v := nI 20) (by decide +kernel) ?_
  refine n_iast (q0 := 1) (j := 34) (ws' := [(h, .inr (5, [.ref a7, .ref a15, .ref a23, .int 0, .ref a31, .ref a39, .int 0, .int 0, .int 0, .int 0, .int 0, .int 0, .ref a46, .ref a53, .ref a62])), (a7, .inl (cI, 115, .inl (upd (upd (upd (upd (upd (upd (upd (upd (upd (upd (upd (upd (upd (upd (upd zf 1 (nI 1)) 2 (nI 3)) 3 (nI 40)) 4 (nI 1500)) 5 (nI 50)) 6 (-1)) 10 (nI 20)) 13 (nI 20)) 16 (nI 20)) 19 (nI 20)) 22 (nI 20)) 25 (nI 20)) 28 (nI 20)) 31 (nI 20)) 34 (nI 20)))), (a15, .inl (cI, 115, .inl zf)), (a23, .inl (cI, 115, .inl zf)), (a31, .inl (cI, 7, .inl zf)), (a39, .inl (cI, 120, .inl zf)), (a46, .inl (cI, 4, .inl zf)), (a53, .inl (cI, 4, .inl zf)), (a62, .inl (cI, 160, .inl zf))]) hX dX6_init_134 (q := 135) rfl rfl (by decide +kernel) (by decide) (by decide) rfl ?_
  refine n_iinc1 hX dX6_init_135 (q := 138) rfl rfl (v := nI 9) (by decide +kernel) ?_
  refine n_goto hX dX6_init_138 (tgt := 116) (by decide) ?_
  refine n_iload1 hX dX6_init_116 (q := 117) rfl ?_
  refine n_bipush hX dX6_init_117 (q := 119) rfl (v := nI 10) (by decide +kernel) ?_
  refine n_icmp_ge hX dX6_init_119 (q := 122) rfl (tgt := 141) (by decide) (fun h => absurd h (by decide +kernel)) (fun _ => ?_)
  refine n_aload0 hX dX6_init_122 (q := 123) rfl ?_
  refine n_get (q0 := 0) hX dX6_init_123 (q := 126) rfl fX6_9 rfl rfl ?_
  refine n_bipush hX dX6_init_126 (q := 128) rfl (v := nI 10) (by decide +kernel) ?_
  refine n_iconst hX dX6_init_128 (q := 129) rfl (v := nI 3) (by decide +kernel) ?_
  refine n_iload1 hX dX6_init_129 (q := 130) rfl ?_
  refine n_imul hX dX6_init_130 (q := 131) rfl ?_
  refine n_iadd hX dX6_init_131 (q := 132) rfl ?_
  refine n_bipush hX dX6_init_132 (q := 134) rfl (v := nI 20) (by decide +kernel) ?_
  refine n_iast (q0 := 1) (j := 37) (ws' := [(h, .inr (5, [.ref a7, .ref a15, .ref a23, .int 0, .ref a31, .ref a39, .int 0, .int 0, .int 0, .int 0, .int 0, .int 0, .ref a46, .ref a53, .ref a62])), (a7, .inl (cI, 115, .inl (upd (upd (upd (upd (upd (upd (upd (upd (upd (upd (upd (upd (upd (upd (upd (upd zf 1 (nI 1)) 2 (nI 3)) 3 (nI 40)) 4 (nI 1500)) 5 (nI 50)) 6 (-1)) 10 (nI 20)) 13 (nI 20)) 16 (nI 20)) 19 (nI 20)) 22 (nI 20)) 25 (nI 20)) 28 (nI 20)) 31 (nI 20)) 34 (nI 20)) 37 (nI 20)))), (a15, .inl (cI, 115, .inl zf)), (a23, .inl (cI, 115, .inl zf)), (a31, .inl (cI, 7, .inl zf)), (a39, .inl (cI, 120, .inl zf)), (a46, .inl (cI, 4, .inl zf)), (a53, .inl (cI, 4, .inl zf)), (a62, .inl (cI, 160, .inl zf))]) hX dX6_init_134 (q := 135) rfl rfl (by decide +kernel) (by decide) (by decide) rfl ?_
  refine n_iinc1 hX dX6_init_135 (q := 138) rfl rfl (v := nI 10) (by decide +kernel) ?_
  refine n_goto hX dX6_init_138 (tgt := 116) (by decide) ?_
  refine n_iload1 hX dX6_init_116 (q := 117) rfl ?_
  refine n_bipush hX dX6_init_117 (q := 119) rfl (v := nI 10) (by decide +kernel) ?_
  refine n_icmp_ge hX dX6_init_119 (q := 122) rfl (tgt := 141) (by decide) (fun _ => ?_) (fun h => absurd (by decide +kernel) h)
  refine n_iconst hX dX6_init_141 (q := 142) rfl (v := nI 0) (by decide +kernel) ?_
  refine n_istore1 hX dX6_init_142 (q := 143) rfl rfl ?_
  refine n_iload1 hX dX6_init_143 (q := 144) rfl ?_
  refine n_bipush hX dX6_init_144 (q := 146) rfl (v := nI 10) (by decide +kernel) ?_
  refine n_icmp_ge hX dX6_init_146 (q := 149) rfl (tgt := 165) (by decide) (fun h => absurd h (by decide +kernel)) (fun _ => ?_)
  refine n_aload0 hX dX6_init_149 (q := 150) rfl ?_
  refine n_get (q0 := 0) hX dX6_init_150 (q := 153) rfl fX6_9 rfl rfl ?_
  refine n_bipush hX dX6_init_153 (q := 155) rfl (v := nI 70) (by decide +kernel) ?_
  refine n_iload1 hX dX6_init_155 (q := 156) rfl ?_
  refine n_iadd hX dX6_init_156 (q := 157) rfl ?_
  refine n_iconst hX dX6_init_157 (q := 158) rfl (v := (-1)) (by decide +kernel) ?_
  refine n_iast (q0 := 1) (j := 70) (ws' := [(h, .inr (5, [.ref a7, .ref a15, .ref a23, .int 0, .ref a31, .ref a39, .int 0, .int 0, .int 0, .int 0, .int 0, .int 0, .ref a46, .ref a53, .ref a62])), (a7, .inl (cI, 115, .inl (upd (upd (upd (upd (upd (upd (upd (upd (upd (upd (upd (upd (upd (upd (upd (upd (upd zf 1 (nI 1)) 2 (nI 3)) 3 (nI 40)) 4 (nI 1500)) 5 (nI 50)) 6 (-1)) 10 (nI 20)) 13 (nI 20)) 16 (nI 20)) 19 (nI 20)) 22 (nI 20)) 25 (nI 20)) 28 (nI 20)) 31 (nI 20)) 34 (nI 20)) 37 (nI 20)) 70 (-1)))), (a15, .inl (cI, 115, .inl zf)), (a23, .inl (cI, 115, .inl zf)), (a31, .inl (cI, 7, .inl zf)), (a39, .inl (cI, 120, .inl zf)), (a46, .inl (cI, 4, .inl zf)), (a53, .inl (cI, 4, .inl zf)), (a62, .inl (cI, 160, .inl zf))]) hX dX6_init_158 (q := 159) rfl rfl (by decide +kernel) (by decide) (by decide) rfl ?_
  refine n_iinc1 hX dX6_init_159 (q := 162) rfl rfl (v := nI 1) (by decide +kernel) ?_
  refine n_goto hX dX6_init_162 (tgt := 143) (by decide) ?_
  refine n_iload1 hX dX6_init_143 (q := 144) rfl ?_
  refine n_bipush hX dX6_init_144 (q := 146) rfl (v := nI 10) (by decide +kernel) ?_
  refine n_icmp_ge hX dX6_init_146 (q := 149) rfl (tgt := 165) (by decide) (fun h => absurd h (by decide +kernel)) (fun _ => ?_)
  refine n_aload0 hX dX6_init_149 (q := 150) rfl ?_
  refine n_get (q0 := 0) hX dX6_init_150 (q := 153) rfl fX6_9 rfl rfl ?_
  refine n_bipush hX dX6_init_153 (q := 155) rfl (v := nI 70) (by decide +kernel) ?_
  refine n_iload1 hX dX6_init_155 (q := 156) rfl ?_
  refine n_iadd hX dX6_init_156 (q := 157) rfl ?_
  refine n_iconst hX dX6_init_157 (q := 158) rfl (v := (-1)) (by decide +kernel) ?_
  refine n_iast (q0 := 1) (j := 71) (ws' := [(h, .inr (5, [.ref a7, .ref a15, .ref a23, .int 0, .ref a31, .ref a39, .int 0, .int 0, .int 0, .int 0, .int 0, .int 0, .ref a46, .ref a53, .ref a62])), (a7, .inl (cI, 115, .inl (upd (upd (upd (upd (upd (upd (upd (upd (upd (upd (upd (upd (upd (upd (upd (upd (upd (upd zf 1 (nI 1)) 2 (nI 3)) 3 (nI 40)) 4 (nI 1500)) 5 (nI 50)) 6 (-1)) 10 (nI 20)) 13 (nI 20)) 16 (nI 20)) 19 (nI 20)) 22 (nI 20)) 25 (nI 20)) 28 (nI 20)) 31 (nI 20)) 34 (nI 20)) 37 (nI 20)) 70 (-1)) 71 (-1)))), (a15, .inl (cI, 115, .inl zf)), (a23, .inl (cI, 115, .inl zf)), (a31, .inl (cI, 7, .inl zf)), (a39, .inl (cI, 120, .inl zf)), (a46, .inl (cI, 4, .inl zf)), (a53, .inl (cI, 4, .inl zf)), (a62, .inl (cI, 160, .inl zf))]) hX dX6_init_158 (q := 159) rfl rfl (by decide +kernel) (by decide) (by decide) rfl ?_
  refine n_iinc1 hX dX6_init_159 (q := 162) rfl rfl (v := nI 2) (by decide +kernel) ?_
  refine n_goto hX dX6_init_162 (tgt := 143) (by decide) ?_
  refine n_iload1 hX dX6_init_143 (q := 144) rfl ?_
  refine n_bipush hX dX6_init_144 (q := 146) rfl (v := nI 10) (by decide +kernel) ?_
  refine n_icmp_ge hX dX6_init_146 (q := 149) rfl (tgt := 165) (by decide) (fun h => absurd h (by decide +kernel)) (fun _ => ?_)
  refine n_aload0 hX dX6_init_149 (q := 150) rfl ?_
  refine n_get (q0 := 0) hX dX6_init_150 (q := 153) rfl fX6_9 rfl rfl ?_
  refine n_bipush hX dX6_init_153 (q := 155) rfl (v := nI 70) (by decide +kernel) ?_
  refine n_iload1 hX dX6_init_155 (q := 156) rfl ?_
  refine n_iadd hX dX6_init_156 (q := 157) rfl ?_
  refine n_iconst hX dX6_init_157 (q := 158) rfl (v := (-1)) (by decide +kernel) ?_
  refine n_iast (q0 := 1) (j := 72) (ws' := [(h, .inr (5, [.ref a7, .ref a15, .ref a23, .int 0, .ref a31, .ref a39, .int 0, .int 0, .int 0, .int 0, .int 0, .int 0, .ref a46, .ref a53, .ref a62])), (a7, .inl (cI, 115, .inl (upd (upd (upd (upd (upd (upd (upd (upd (upd (upd (upd (upd (upd (upd (upd (upd (upd (upd (upd zf 1 (nI 1)) 2 (nI 3)) 3 (nI 40)) 4 (nI 1500)) 5 (nI 50)) 6 (-1)) 10 (nI 20)) 13 (nI 20)) 16 (nI 20)) 19 (nI 20)) 22 (nI 20)) 25 (nI 20)) 28 (nI 20)) 31 (nI 20)) 34 (nI 20)) 37 (nI 20)) 70 (-1)) 71 (-1)) 72 (-1)))), (a15, .inl (cI, 115, .inl zf)), (a23, .inl (cI, 115, .inl zf)), (a31, .inl (cI, 7, .inl zf)), (a39, .inl (cI, 120, .inl zf)), (a46, .inl (cI, 4, .inl zf)), (a53, .inl (cI, 4, .inl zf)), (a62, .inl (cI, 160, .inl zf))]) hX dX6_init_158 (q := 159) rfl rfl (by decide +kernel) (by decide) (by decide) rfl ?_
  refine n_iinc1 hX dX6_init_159 (q := 162) rfl rfl (v := nI 3) (by decide +kernel) ?_
  refine n_goto hX dX6_init_162 (tgt := 143) (by decide) ?_
  refine n_iload1 hX dX6_init_143 (q := 144) rfl ?_
  refine n_bipush hX dX6_init_144 (q := 146) rfl (v := nI 10) (by decide +kernel) ?_
  refine n_icmp_ge hX dX6_init_146 (q := 149) rfl (tgt := 165) (by decide) (fun h => absurd h (by decide +kernel)) (fun _ => ?_)
  refine n_aload0 hX dX6_init_149 (q := 150) rfl ?_
  refine n_get (q0 := 0) hX dX6_init_150 (q := 153) rfl fX6_9 rfl rfl ?_
  refine n_bipush hX dX6_init_153 (q := 155) rfl (v := nI 70) (by decide +kernel) ?_
  refine n_iload1 hX dX6_init_155 (q := 156) rfl ?_
  refine n_iadd hX dX6_init_156 (q := 157) rfl ?_
  refine n_iconst hX dX6_init_157 (q := 158) rfl (v := (-1)) (by decide +kernel) ?_
  refine n_iast (q0 := 1) (j := 73) (ws' := [(h, .inr (5, [.ref a7, .ref a15, .ref a23, .int 0, .ref a31, .ref a39, .int 0, .int 0, .int 0, .int 0, .int 0, .int 0, .ref a46, .ref a53, .ref a62])), (a7, .inl (cI, 115, .inl (upd (upd (upd (upd (upd (upd (upd (upd (upd (upd (upd (upd (upd (upd (upd (upd (upd (upd (upd (upd zf 1 (nI 1)) 2 (nI 3)) 3 (nI 40)) 4 (nI 1500)) 5 (nI 50)) 6 (-1)) 10 (nI 20)) 13 (nI 20)) 16 (nI 20)) 19 (nI 20)) 22 (nI 20)) 25 (nI 20)) 28 (nI 20)) 31 (nI 20)) 34 (nI 20)) 37 (nI 20)) 70 (-1)) 71 (-1)) 72 (-1)) 73 (-1)))), (a15, .inl (cI, 115, .inl zf)), (a23, .inl (cI, 115, .inl zf)), (a31, .inl (cI, 7, .inl zf)), (a39, .inl (cI, 120, .inl zf)), (a46, .inl (cI, 4, .inl zf)), (a53, .inl (cI, 4, .inl zf)), (a62, .inl (cI, 160, .inl zf))]) hX dX6_init_158 (q := 159) rfl rfl (by decide +kernel) (by decide) (by decide) rfl ?_
  refine n_iinc1 hX dX6_init_159 (q := 162) rfl rfl (v := nI 4) (by decide +kernel) ?_
  refine n_goto hX dX6_init_162 (tgt := 143) (by decide) ?_
  refine n_iload1 hX dX6_init_143 (q := 144) rfl ?_
  refine n_bipush hX dX6_init_144 (q := 146) rfl (v := nI 10) (by decide +kernel) ?_
  refine n_icmp_ge hX dX6_init_146 (q := 149) rfl (tgt := 165) (by decide) (fun h => absurd h (by decide +kernel)) (fun _ => ?_)
  refine n_aload0 hX dX6_init_149 (q := 150) rfl ?_
  refine n_get (q0 := 0) hX dX6_init_150 (q := 153) rfl fX6_9 rfl rfl ?_
  refine n_bipush hX dX6_init_153 (q := 155) rfl (v := nI 70) (by decide +kernel) ?_
  refine n_iload1 hX dX6_init_155 (q := 156) rfl ?_
  refine n_iadd hX dX6_init_156 (q := 157) rfl ?_
  refine n_iconst hX dX6_init_157 (q := 158) rfl (v := (-1)) (by decide +kernel) ?_
  refine n_iast (q0 := 1) (j := 74) (ws' := [(h, .inr (5, [.ref a7, .ref a15, .ref a23, .int 0, .ref a31, .ref a39, .int 0, .int 0, .int 0, .int 0, .int 0, .int 0, .ref a46, .ref a53, .ref a62])), (a7, .inl (cI, 115, .inl (upd (upd (upd (upd (upd (upd (upd (upd (upd (upd (upd (upd (upd (upd (upd (upd (upd (upd (upd (upd (upd zf 1 (nI 1)) 2 (nI 3)) 3 (nI 40)) 4 (nI 1500)) 5 (nI 50)) 6 (-1)) 10 (nI 20)) 13 (nI 20)) 16 (nI 20)) 19 (nI 20)) 22 (nI 20)) 25 (nI 20)) 28 (nI 20)) 31 (nI 20)) 34 (nI 20)) 37 (nI 20)) 70 (-1)) 71 (-1)) 72 (-1)) 73 (-1)) 74 (-1)))), (a15, .inl (cI, 115, .inl zf)), (a23, .inl (cI, 115, .inl zf)), (a31, .inl (cI, 7, .inl zf)), (a39, .inl (cI, 120, .inl zf)), (a46, .inl (cI, 4, .inl zf)), (a53, .inl (cI, 4, .inl zf)), (a62, .inl (cI, 160, .inl zf))]) hX dX6_init_158 (q := 159) rfl rfl (by decide +kernel) (by decide) (by decide) rfl ?_
  refine n_iinc1 hX dX6_init_159 (q := 162) rfl rfl (v := nI 5) (by decide +kernel) ?_
  refine n_goto hX dX6_init_162 (tgt := 143) (by decide) ?_
  refine n_iload1 hX dX6_init_143 (q := 144) rfl ?_
  refine n_bipush hX dX6_init_144 (q := 146) rfl (v := nI 10) (by decide +kernel) ?_
  refine n_icmp_ge hX dX6_init_146 (q := 149) rfl (tgt := 165) (by decide) (fun h => absurd h (by decide +kernel)) (fun _ => ?_)
  refine n_aload0 hX dX6_init_149 (q := 150) rfl ?_
  refine n_get (q0 := 0) hX dX6_init_150 (q := 153) rfl fX6_9 rfl rfl ?_
  refine n_bipush hX dX6_init_153 (q := 155) rfl (v := nI 70) (by decide +kernel) ?_
  refine n_iload1 hX dX6_init_155 (q := 156) rfl ?_
  refine n_iadd hX dX6_init_156 (q := 157) rfl ?_
  refine n_iconst hX dX6_init_157 (q := 158) rfl (v := (-1)) (by decide +kernel) ?_
  refine n_iast (q0 := 1) (j := 75) (ws' := [(h, .inr (5, [.ref a7, .ref a15, .ref a23, .int 0, .ref a31, .ref a39, .int 0, .int 0, .int 0, .int 0, .int 0, .int 0, .ref a46, .ref a53, .ref a62])), (a7, .inl (cI, 115, .inl (upd (upd (upd (upd (upd (upd (upd (upd (upd (upd (upd (upd (upd (upd (upd (upd (upd (upd (upd (upd (upd (upd zf 1 (nI 1)) 2 (nI 3)) 3 (nI 40)) 4 (nI 1500)) 5 (nI 50)) 6 (-1)) 10 (nI 20)) 13 (nI 20)) 16 (nI 20)) 19 (nI 20)) 22 (nI 20)) 25 (nI 20)) 28 (nI 20)) 31 (nI 20)) 34 (nI 20)) 37 (nI 20)) 70 (-1)) 71 (-1)) 72 (-1)) 73 (-1)) 74 (-1)) 75 (-1)))), (a15, .inl (cI, 115, .inl zf)), (a23, .inl (cI, 115, .inl zf)), (a31, .inl (cI, 7, .inl zf)), (a39, .inl (cI, 120, .inl zf)), (a46, .inl (cI, 4, .inl zf)), (a53, .inl (cI, 4, .inl zf)), (a62, .inl (cI, 160, .inl zf))]) hX dX6_init_158 (q := 159) rfl rfl (by decide +kernel) (by decide) (by decide) rfl ?_
  refine n_iinc1 hX dX6_init_159 (q := 162) rfl rfl (v := nI 6) (by decide +kernel) ?_
  refine n_goto hX dX6_init_162 (tgt := 143) (by decide) ?_
  refine n_iload1 hX dX6_init_143 (q := 144) rfl ?_
  refine n_bipush hX dX6_init_144 (q := 146) rfl (v := nI 10) (by decide +kernel) ?_
  refine n_icmp_ge hX dX6_init_146 (q := 149) rfl (tgt := 165) (by decide) (fun h => absurd h (by decide +kernel)) (fun _ => ?_)
  refine n_aload0 hX dX6_init_149 (q := 150) rfl ?_
  refine n_get (q0 := 0) hX dX6_init_150 (q := 153) rfl fX6_9 rfl rfl ?_
  refine n_bipush hX dX6_init_153 (q := 155) rfl (v := nI 70) (by decide +kernel) ?_
  refine n_iload1 hX dX6_init_155 (q := 156) rfl ?_
  refine n_iadd hX dX6_init_156 (q := 157) rfl ?_
  refine n_iconst hX dX6_init_157 (q := 158) rfl (v := (-1)) (by decide +kernel) ?_
  refine n_iast (q0 := 1) (j := 76) (ws' := [(h, .inr (5, [.ref a7, .ref a15, .ref a23, .int 0, .ref a31, .ref a39, .int 0, .int 0, .int 0, .int 0, .int 0, .int 0, .ref a46, .ref a53, .ref a62])), (a7, .inl (cI, 115, .inl (upd (upd (upd (upd (upd (upd (upd (upd (upd (upd (upd (upd (upd (upd (upd (upd (upd (upd (upd (upd (upd (upd (upd zf 1 (nI 1)) 2 (nI 3)) 3 (nI 40)) 4 (nI 1500)) 5 (nI 50)) 6 (-1)) 10 (nI 20)) 13 (nI 20)) 16 (nI 20)) 19 (nI 20)) 22 (nI 20)) 25 (nI 20)) 28 (nI 20)) 31 (nI 20)) 34 (nI 20)) 37 (nI 20)) 70 (-1)) 71 (-1)) 72 (-1)) 73 (-1)) 74 (-1)) 75 (-1)) 76 (-1)))), (a15, .inl (cI, 115, .inl zf)), (a23, .inl (cI, 115, .inl zf)), (a31, .inl (cI, 7, .inl zf)), (a39, .inl (cI, 120, .inl zf)), (a46, .inl (cI, 4, .inl zf)), (a53, .inl (cI, 4, .inl zf)), (a62, .inl (cI, 160, .inl zf))]) hX dX6_init_158 (q := 159) rfl rfl (by decide +kernel) (by decide) (by decide) rfl ?_
  refine n_iinc1 hX dX6_init_159 (q := 162) rfl rfl (v := nI 7) (by decide +kernel) ?_
  refine n_goto hX dX6_init_162 (tgt := 143) (by decide) ?_
  refine n_iload1 hX dX6_init_143 (q := 144) rfl ?_
  refine n_bipush hX dX6_init_144 (q := 146) rfl (v := nI 10) (by decide +kernel) ?_
  refine n_icmp_ge hX dX6_init_146 (q := 149) rfl (tgt := 165) (by decide) (fun h => absurd h (by decide +kernel)) (fun _ => ?_)
  refine n_aload0 hX dX6_init_149 (q := 150) rfl ?_
  refine n_get (q0 := 0) hX dX6_init_150 (q := 153) rfl fX6_9 rfl rfl ?_
  refine n_bipush hX dX6_init_153 (q := 155) rfl (v := nI 70) (by decide +kernel) ?_
  refine n_iload1 hX dX6_init_155 (q := 156) rfl ?_
  refine n_iadd hX dX6_init_156 (q := 157) rfl ?_
  refine n_iconst hX dX6_init_157 (q := 158) rfl (v := (-1)) (by decide +kernel) ?_
  refine n_iast (q0 := 1) (j := 77) (ws' := [(h, .inr (5, [.ref a7, .ref a15, .ref a23, .int 0, .ref a31, .ref a39, .int 0, .int 0, .int 0, .int 0, .int 0, .int 0, .ref a46, .ref a53, .ref a62])), (a7, .inl (cI, 115, .inl (upd (upd (upd (upd (upd (upd (upd (upd (upd (upd (upd (upd (upd (upd (upd (upd (upd (upd (upd (upd (upd (upd (upd (upd zf 1 (nI 1)) 2 (nI 3)) 3 (nI 40)) 4 (nI 1500)) 5 (nI 50)) 6 (-1)) 10 (nI 20)) 13 (nI 20)) 16 (nI 20)) 19 (nI 20)) 22 (nI 20)) 25 (nI 20)) 28 (nI 20)) 31 (nI 20)) 34 (nI 20)) 37 (nI 20)) 70 (-1)) 71 (-1)) 72 (-1)) 73 (-1)) 74 (-1)) 75 (-1)) 76 (-1)) 77 (-1)))), (a15, .inl (cI, 115, .inl zf)), (a23, .inl (cI, 115, .inl zf)), (a31, .inl (cI, 7, .inl zf)), (a39, .inl (cI, 120, .inl zf)), (a46, .inl (cI, 4, .inl zf)), (a53, .inl (cI, 4, .inl zf)), (a62, .inl (cI, 160, .inl zf))]) hX dX6_init_158 (q := 159) rfl rfl (by decide +kernel) (by decide) (by decide) rfl ?_
  refine n_iinc1 hX dX6_init_159 (q := 162) rfl rfl (v := nI 8) (by decide +kernel) ?_
  refine n_goto hX dX6_init_162 (tgt := 143) (by decide) ?_
  refine n_iload1 hX dX6_init_143 (q := 144) rfl ?_
  refine n_bipush hX dX6_init_144 (q := 146) rfl (v := nI 10) (by decide +kernel) ?_
  refine n_icmp_ge hX dX6_init_146 (q := 149) rfl (tgt := 165) (by decide) (fun h => absurd h (by decide +kernel)) (fun _ => ?_)
  refine n_aload0 hX dX6_init_149 (q := 150) rfl ?_
  refine n_get (q0 := 0) hX dX6_init_150 (q := 153) rfl fX6_9 rfl rfl ?_
  refine n_bipush hX dX6_init_153 (q := 155) rfl (v := nI 70) (by decide +kernel) ?_
  refine n_iload1 hX dX6_init_155 (q := 156) rfl ?_
  refine n_iadd hX dX6_init_156 (q := 157) rfl ?_
  refine n_iconst hX dX6_init_157 (q := 158) rfl (v := (-1)) (by decide +kernel) ?_
  refine n_iast (q0 := 1) (j := 78) (ws' := [(h, .inr (5, [.ref a7, .ref a15, .ref a23, .int 0, .ref a31, .ref a39, .int 0, .int 0, .int 0, .int 0, .int 0, .int 0, .ref a46, .ref a53, .ref a62])), (a7, .inl (cI, 115, .inl (upd (upd (upd (upd (upd (upd (upd (upd (upd (upd (upd (upd (upd (upd (upd (upd (upd (upd (upd (upd (upd (upd (upd (upd (upd zf 1 (nI 1)) 2 (nI 3)) 3 (nI 40)) 4 (nI 1500)) 5 (nI 50)) 6 (-1)) 10 (nI 20)) 13 (nI 20)) 16 (nI 20)) 19 (nI 20)) 22 (nI 20)) 25 (nI 20)) 28 (nI 20)) 31 (nI 20)) 34 (nI 20)) 37 (nI 20)) 70 (-1)) 71 (-1)) 72 (-1)) 73 (-1)) 74 (-1)) 75 (-1)) 76 (-1)) 77 (-1)) 78 (-1)))), (a15, .inl (cI, 115, .inl zf)), (a23, .inl (cI, 115, .inl zf)), (a31, .inl (cI, 7, .inl zf)), (a39, .inl (cI, 120, .inl zf)), (a46, .inl (cI, 4, .inl zf)), (a53, .inl (cI, 4, .inl zf)), (a62, .inl (cI, 160, .inl zf))]) hX dX6_init_158 (q := 159) rfl rfl (by decide +kernel) (by decide) (by decide) rfl ?_
  refine n_iinc1 hX dX6_init_159 (q := 162) rfl rfl (v := nI 9) (by decide +kernel) ?_
  refine n_goto hX dX6_init_162 (tgt := 143) (by decide) ?_
  refine n_iload1 hX dX6_init_143 (q := 144) rfl ?_
  refine n_bipush hX dX6_init_144 (q := 146) rfl (v := nI 10) (by decide +kernel) ?_
  refine n_icmp_ge hX dX6_init_146 (q := 149) rfl (tgt := 165) (by decide) (fun h => absurd h (by decide +kernel)) (fun _ => ?_)
  refine n_aload0 hX dX6_init_149 (q := 150) rfl ?_
  refine n_get (q0 := 0) hX dX6_init_150 (q := 153) rfl fX6_9 rfl rfl ?_
  refine n_bipush hX dX6_init_153 (q := 155) rfl (v := nI 70) (by decide +kernel) ?_
  refine n_iload1 hX dX6_init_155 (q := 156) rfl ?_
  refine n_iadd hX dX6_init_156 (q := 157) rfl ?_
  refine n_iconst hX dX6_init_157 (q := 158) rfl (v := (-1)) (by decide +kernel) ?_
  refine n_iast (q0 := 1) (j := 79) (ws' := [(h, .inr (5, [.ref a7, .ref a15, .ref a23, .int 0, .ref a31, .ref a39, .int 0, .int 0, .int 0, .int 0, .int 0, .int 0, .ref a46, .ref a53, .ref a62])), (a7, .inl (cI, 115, .inl (upd (upd (upd (upd (upd (upd (upd (upd (upd (upd (upd (upd (upd (upd (upd (upd (upd (upd (upd (upd (upd (upd (upd (upd (upd (upd zf 1 (nI 1)) 2 (nI 3)) 3 (nI 40)) 4 (nI 1500)) 5 (nI 50)) 6 (-1)) 10 (nI 20)) 13 (nI 20)) 16 (nI 20)) 19 (nI 20)) 22 (nI 20)) 25 (nI 20)) 28 (nI 20)) 31 (nI 20)) 34 (nI 20)) 37 (nI 20)) 70 (-1)) 71 (-1)) 72 (-1)) 73 (-1)) 74 (-1)) 75 (-1)) 76 (-1)) 77 (-1)) 78 (-1)) 79 (-1)))), (a15, .inl (cI, 115, .inl zf)), (a23, .inl (cI, 115, .inl zf)), (a31, .inl (cI, 7, .inl zf)), (a39, .inl (cI, 120, .inl zf)), (a46, .inl (cI, 4, .inl zf)), (a53, .inl (cI, 4, .inl zf)), (a62, .inl (cI, 160, .inl zf))]) hX dX6_init_158 (q := 159) rfl rfl (by decide +kernel) (by decide) (by decide) rfl ?_
  refine n_iinc1 hX dX6_init_159 (q := 162) rfl rfl (v := nI 10) (by decide +kernel) ?_
  refine n_goto hX dX6_init_162 (tgt := 143) (by decide) ?_
  refine n_iload1 hX dX6_init_143 (q := 144) rfl ?_
  refine n_bipush hX dX6_init_144 (q := 146) rfl (v := nI 10) (by decide +kernel) ?_
  refine n_icmp_ge hX dX6_init_146 (q := 149) rfl (tgt := 165) (by decide) (fun _ => ?_) (fun h => absurd (by decide +kernel) h)
  exact n_vret hX hRn dX6_init_165 (fun k => [h, a7, a15, a23, a31, a39, a46, a53, a62].getD k 0) rfl rfl (Nat.le_of_ble_eq_true rfl) (Nat.le_of_ble_eq_true rfl)
