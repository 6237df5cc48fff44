/-! what the constructors make -/
def zf : Nat → Int32 := fun _ => 0
def flF (n : Nat) (v : Int32) (f : Nat → Int32) : Nat → Int32 := fun j => if j < n then v else f j
theorem flF_0 {v : Int32} {f : Nat → Int32} : flF 0 v f = f := by
  funext j
  unfold flF
  rw [if_neg (Nat.not_lt_zero _)]
theorem flF_s {k : Nat} {v : Int32} {f : Nat → Int32} : upd (flF k v f) k v = flF (k + 1) v f := by
  funext j
  by_cases e : j = k
  · subst e
    rw [upd_eq]
    unfold flF
    rw [if_pos (by omega)]
  · rw [upd_ne e]
    unfold flF
    by_cases h : j < k
    · rw [if_pos h, if_pos (by omega)]
    · rw [if_neg h, if_neg (by omega)]
def planW (cI : ClassId) (u : Nat → Nat) : va_W := [((u 0), .inr (1, [.ref (u 1), .ref (u 2), .ref (u 3), .int (nI 0)])), ((u 1), .inl (cI, 10, .inl zf)), ((u 2), .inl (cI, 10, .inl zf)), ((u 3), .inl (cI, 10, .inl zf))]
def shtW (cI : ClassId) (u : Nat → Nat) : va_W := [((u 0), .inr (2, [.ref (u 1), .int (nI 0), .int (nI 0)])), ((u 1), .inl (cI, 40, .inl zf))]
def tapW (cI : ClassId) (u : Nat → Nat) : va_W := [((u 0), .inr (3, [.ref (u 1), .int (nI 0), .ref (u 2), .ref (u 3), .ref (u 4), .ref (u 5), .int (nI 0), .int (nI 0)])), ((u 1), .inl (cI, 120, .inl zf)), ((u 2), .inl (cI, 121, .inl zf)), ((u 3), .inl (cI, 121, .inl zf)), ((u 4), .inl (cI, 121, .inl zf)), ((u 5), .inl (cI, 121, .inl zf))]
def chdW (cI : ClassId) (u : Nat → Nat) : va_W := [((u 0), .inr (0, [.ref (u 1), .ref (u 2), .ref (u 3), .int (nI 3), .int (nI 40), .int (nI 1500), .int (nI 50), .int (-1), .int (nI 0), .ref (u 4), .int (nI 0), .ref (u 8), .int (nI 1), .ref (u 9)])), ((u 1), .inl (cI, 10, .inl (flF 10 (nI 20) zf))), ((u 2), .inl (cI, 10, .inl zf)), ((u 3), .inl (cI, 10, .inl zf)), ((u 4), .inr (1, [.ref (u 5), .ref (u 6), .ref (u 7), .int (nI 0)])), ((u 5), .inl (cI, 10, .inl zf)), ((u 6), .inl (cI, 10, .inl zf)), ((u 7), .inl (cI, 10, .inl zf)), ((u 8), .inl (cI, 35, .inl zf)), ((u 9), .inl (cI, 10, .inl (flF 10 (-1) zf)))]
def appW (cI cS : ClassId) (u : Nat → Nat) : va_W := [((u 0), .inr (4, [.ref (u 1), .ref (u 11), .ref (u 21), .int (nI 0), .ref (u 31), .ref (u 37), .ref (u 46)])), ((u 1), .inr (0, [.ref (u 2), .ref (u 3), .ref (u 4), .int (nI 3), .int (nI 40), .int (nI 1500), .int (nI 50), .int (-1), .int (nI 0), .ref (u 5), .int (nI 0), .ref (u 9), .int (nI 1), .ref (u 10)])), ((u 2), .inl (cI, 10, .inl (flF 10 (nI 20) zf))), ((u 3), .inl (cI, 10, .inl zf)), ((u 4), .inl (cI, 10, .inl zf)), ((u 5), .inr (1, [.ref (u 6), .ref (u 7), .ref (u 8), .int (nI 0)])), ((u 6), .inl (cI, 10, .inl zf)), ((u 7), .inl (cI, 10, .inl zf)), ((u 8), .inl (cI, 10, .inl zf)), ((u 9), .inl (cI, 35, .inl zf)), ((u 10), .inl (cI, 10, .inl (flF 10 (-1) zf))), ((u 11), .inr (0, [.ref (u 12), .ref (u 13), .ref (u 14), .int (nI 3), .int (nI 40), .int (nI 1500), .int (nI 50), .int (-1), .int (nI 0), .ref (u 15), .int (nI 0), .ref (u 19), .int (nI 1), .ref (u 20)])), ((u 12), .inl (cI, 10, .inl (flF 10 (nI 20) zf))), ((u 13), .inl (cI, 10, .inl zf)), ((u 14), .inl (cI, 10, .inl zf)), ((u 15), .inr (1, [.ref (u 16), .ref (u 17), .ref (u 18), .int (nI 0)])), ((u 16), .inl (cI, 10, .inl zf)), ((u 17), .inl (cI, 10, .inl zf)), ((u 18), .inl (cI, 10, .inl zf)), ((u 19), .inl (cI, 35, .inl zf)), ((u 20), .inl (cI, 10, .inl (flF 10 (-1) zf))), ((u 21), .inr (0, [.ref (u 22), .ref (u 23), .ref (u 24), .int (nI 3), .int (nI 40), .int (nI 1500), .int (nI 50), .int (-1), .int (nI 0), .ref (u 25), .int (nI 0), .ref (u 29), .int (nI 1), .ref (u 30)])), ((u 22), .inl (cI, 10, .inl (flF 10 (nI 20) zf))), ((u 23), .inl (cI, 10, .inl zf)), ((u 24), .inl (cI, 10, .inl zf)), ((u 25), .inr (1, [.ref (u 26), .ref (u 27), .ref (u 28), .int (nI 0)])), ((u 26), .inl (cI, 10, .inl zf)), ((u 27), .inl (cI, 10, .inl zf)), ((u 28), .inl (cI, 10, .inl zf)), ((u 29), .inl (cI, 35, .inl zf)), ((u 30), .inl (cI, 10, .inl (flF 10 (-1) zf))), ((u 31), .inr (3, [.ref (u 32), .int (nI 0), .ref (u 33), .ref (u 34), .ref (u 35), .ref (u 36), .int (nI 0), .int (nI 0)])), ((u 32), .inl (cI, 120, .inl zf)), ((u 33), .inl (cI, 121, .inl zf)), ((u 34), .inl (cI, 121, .inl zf)), ((u 35), .inl (cI, 121, .inl zf)), ((u 36), .inl (cI, 121, .inl zf)), ((u 37), .inl (cS, 4, .inr (.inr (.inr (.inr (va_up (va_up (va_up (va_up (fun _ => none) 0 (some (u 38))) 1 (some (u 40))) 2 (some (u 42))) 3 (some (u 44)))))))), ((u 38), .inr (2, [.ref (u 39), .int (nI 0), .int (nI 0)])), ((u 39), .inl (cI, 40, .inl zf)), ((u 40), .inr (2, [.ref (u 41), .int (nI 0), .int (nI 0)])), ((u 41), .inl (cI, 40, .inl zf)), ((u 42), .inr (2, [.ref (u 43), .int (nI 0), .int (nI 0)])), ((u 43), .inl (cI, 40, .inl zf)), ((u 44), .inr (2, [.ref (u 45), .int (nI 0), .int (nI 0)])), ((u 45), .inl (cI, 40, .inl zf)), ((u 46), .inl (cI, 7, .inl zf))]
def refW (cI : ClassId) (u : Nat → Nat) : va_W := [((u 0), .inr (5, [.ref (u 1), .ref (u 2), .ref (u 3), .int 0, .ref (u 4), .ref (u 5), .int 0, .int 0, .int 0, .int 0, .int 0, .int 0, .ref (u 6), .ref (u 7), .ref (u 8)])), ((u 1), .inl (cI, 115, .inl (upd (upd (upd (upd (upd (upd (upd (upd (upd (upd (upd (upd (upd (upd (upd (upd (upd (upd (upd (upd (upd (upd (upd (upd (upd (upd zf 1 (nI 1)) 2 (nI 3)) 3 (nI 40)) 4 (nI 1500)) 5 (nI 50)) 6 (-1)) 10 (nI 20)) 13 (nI 20)) 16 (nI 20)) 19 (nI 20)) 22 (nI 20)) 25 (nI 20)) 28 (nI 20)) 31 (nI 20)) 34 (nI 20)) 37 (nI 20)) 70 (-1)) 71 (-1)) 72 (-1)) 73 (-1)) 74 (-1)) 75 (-1)) 76 (-1)) 77 (-1)) 78 (-1)) 79 (-1)))), ((u 2), .inl (cI, 115, .inl zf)), ((u 3), .inl (cI, 115, .inl zf)), ((u 4), .inl (cI, 7, .inl zf)), ((u 5), .inl (cI, 120, .inl zf)), ((u 6), .inl (cI, 4, .inl zf)), ((u 7), .inl (cI, 4, .inl zf)), ((u 8), .inl (cI, 160, .inl zf))]
set_option maxRecDepth 100000 in
set_option maxHeartbeats 4000000 in
theorem c_fillN (l : Launch) (D : va_G) (cI cS : ClassId) (n : Nat) (f : Nat → Int32) (v : Int32) (hn : n ≤ 1000) : MN l yJ7_fill_53178 cJ7_fill_53178 4 0 0 0 0 D cI cS (fun h => [.ref h, .int v]) (.inl (cI, n, .inl f)) (fun u => [(u 0, .inl (cI, n, .inl (flF n v f)))]) := by
  refine MN_of (own := RJ7) rfl (by decide +kernel) (fun h => ⟨rfl, Nat.le_of_ble_eq_true rfl⟩) (fun X h hX hRn hin0 hlX => ?_)
  show WN X D 0 [some (.ref h), some (.int v), none, none] [] [(h, .inl (cI, n, .inl f))] 0 0
  refine n_iconst hX dJ7_fill_53178_0 (q := 1) rfl (v := nI 0) (by decide +kernel) ?_
  refine n_istore2 hX dJ7_fill_53178_1 (q := 2) rfl rfl ?_
  refine n_aload0 hX dJ7_fill_53178_2 (q := 3) rfl ?_
  refine n_alen (q0 := 0) hX dJ7_fill_53178_3 (q := 4) rfl rfl ?_
  refine n_istore3 hX dJ7_fill_53178_4 (q := 5) rfl rfl ?_
  have L5 : ∀ (z k : Nat), z = n - k → k ≤ n → WN X D 5 [some (.ref h), some (.int v), some (.int (nI k)), some (.int (nI n))] [] [(h, .inl (cI, n, .inl (flF k v f)))] 0 0 := by
    intro z
    induction z using Nat.strongRecOn with
    | _ z ih =>
      intro k hz hk
      refine n_iload2 hX dJ7_fill_53178_5 (q := 6) rfl ?_
      refine n_iload3 hX dJ7_fill_53178_6 (q := 7) rfl ?_
      refine n_icmp_ge hX dJ7_fill_53178_7 (q := 10) rfl (tgt := 20) (by decide) (fun h7 => ?_) (fun h7 => ?_)
      · have e0 : k = n := by
          have := (nI_leI (by omega) (by omega)).mp h7
          omega
        subst e0
        exact n_vret hX hRn dJ7_fill_53178_20 (fun _ => h) rfl rfl (Nat.le_refl _) (Nat.le_refl _)
      · have hkn : k < n := by
          rcases Nat.lt_or_ge k n with q | q
          · exact q
          · exact absurd (nI_le q (by omega)) h7
        refine n_aload0 hX dJ7_fill_53178_10 (q := 11) rfl ?_
        refine n_iload2 hX dJ7_fill_53178_11 (q := 12) rfl ?_
        refine n_iload1 hX dJ7_fill_53178_12 (q := 13) rfl ?_
        refine n_iast (q0 := 0) (j := k) (ws' := [(h, .inl (cI, n, .inl (flF (k + 1) v f)))]) hX dJ7_fill_53178_13 (q := 14) rfl rfl rfl hkn (by omega) (by rw [flF_s]; rfl) ?_
        refine n_iinc2 hX dJ7_fill_53178_14 (q := 17) rfl rfl (v := nI (k + 1)) (nI_1 k) ?_
        refine n_goto hX dJ7_fill_53178_17 (tgt := 5) (by decide) ?_
        exact ih _ (by omega) (k + 1) rfl hkn
  exact n_cg (ws' := [(h, .inl (cI, n, .inl (flF 0 v f)))]) (by rw [flF_0]) (L5 _ 0 rfl (Nat.zero_le _))
set_option maxRecDepth 100000 in
set_option maxHeartbeats 4000000 in
theorem c_X1_init (l : Launch) (D : va_G) (cI cS : ClassId) : MN l yX1_init cX1_init 1 1 20 3 30 D cI cS (fun h => [.ref h]) (.inr (1, [.null, .null, .null, .int 0])) (planW cI) := by
  refine MN_of (own := RX1) rfl (by decide +kernel) (fun h => ⟨rfl, Nat.le_of_ble_eq_true rfl⟩) (fun X h hX hRn hin0 hlX => ?_)
  have hin := hin0 rfl
  subst hlX
  show WN X D 0 [some (.ref h)] [] [(h, .inr (1, [.null, .null, .null, .int 0]))] 0 0
  refine n_aload0 hX dX1_init_0 (q := 1) rfl ?_
  refine n_obj hX dX1_init_1 (q := 4) rfl kX1_3 msObj (Nat.le_of_ble_eq_true rfl) ⟨by decide, by decide⟩ ?_
  refine n_aload0 hX dX1_init_4 (q := 5) rfl ?_
  refine n_bipush hX dX1_init_5 (q := 7) rfl (v := nI 10) (by decide +kernel) ?_
  refine n_newa (n := 10) hX dX1_init_7 (q := 9) rfl mArr rfl (by decide) (Nat.le_of_ble_eq_true rfl) (Nat.le_of_ble_eq_true rfl) (fun a7 => ?_)
  refine n_cg (ws' := [(h, .inr (1, [.null, .null, .null, .int 0])), (a7, .inl (cI, 10, .inl zf))]) rfl ?_
  refine n_putF (q0 := 0) (ws' := [(h, .inr (1, [.ref a7, .null, .null, .int 0])), (a7, .inl (cI, 10, .inl zf))]) hX hin dX1_init_9 (q := 12) rfl fX1_9 eX1_0 rfl rfl rfl (Nat.le_of_ble_eq_true rfl) rfl ?_
  refine n_aload0 hX dX1_init_12 (q := 13) rfl ?_
  refine n_bipush hX dX1_init_13 (q := 15) rfl (v := nI 10) (by decide +kernel) ?_
  refine n_newa (n := 10) hX dX1_init_15 (q := 17) rfl mArr rfl (by decide) (Nat.le_of_ble_eq_true rfl) (Nat.le_of_ble_eq_true rfl) (fun a15 => ?_)
  refine n_cg (ws' := [(h, .inr (1, [.ref a7, .null, .null, .int 0])), (a7, .inl (cI, 10, .inl zf)), (a15, .inl (cI, 10, .inl zf))]) rfl ?_
  refine n_putF (q0 := 0) (ws' := [(h, .inr (1, [.ref a7, .ref a15, .null, .int 0])), (a7, .inl (cI, 10, .inl zf)), (a15, .inl (cI, 10, .inl zf))]) hX hin dX1_init_17 (q := 20) rfl fX1_15 eX1_1 rfl rfl rfl (Nat.le_of_ble_eq_true rfl) rfl ?_
  refine n_aload0 hX dX1_init_20 (q := 21) rfl ?_
  refine n_bipush hX dX1_init_21 (q := 23) rfl (v := nI 10) (by decide +kernel) ?_
  refine n_newa (n := 10) hX dX1_init_23 (q := 25) rfl mArr rfl (by decide) (Nat.le_of_ble_eq_true rfl) (Nat.le_of_ble_eq_true rfl) (fun a23 => ?_)
  refine n_cg (ws' := [(h, .inr (1, [.ref a7, .ref a15, .null, .int 0])), (a7, .inl (cI, 10, .inl zf)), (a15, .inl (cI, 10, .inl zf)), (a23, .inl (cI, 10, .inl zf))]) rfl ?_
  refine n_putF (q0 := 0) (ws' := [(h, .inr (1, [.ref a7, .ref a15, .ref a23, .int 0])), (a7, .inl (cI, 10, .inl zf)), (a15, .inl (cI, 10, .inl zf)), (a23, .inl (cI, 10, .inl zf))]) hX hin dX1_init_25 (q := 28) rfl fX1_18 eX1_2 rfl rfl rfl (Nat.le_of_ble_eq_true rfl) rfl ?_
  refine n_aload0 hX dX1_init_28 (q := 29) rfl ?_
  refine n_iconst hX dX1_init_29 (q := 30) rfl (v := nI 0) (by decide +kernel) ?_
  refine n_put (q0 := 0) (ws' := [(h, .inr (1, [.ref a7, .ref a15, .ref a23, .int (nI 0)])), (a7, .inl (cI, 10, .inl zf)), (a15, .inl (cI, 10, .inl zf)), (a23, .inl (cI, 10, .inl zf))]) hX dX1_init_30 (q := 33) rfl fX1_21 wX1_3 rfl rfl rfl (Nat.le_of_ble_eq_true rfl) rfl ?_
  exact n_vret hX hRn dX1_init_33 (fun k => [h, a7, a15, a23].getD k 0) rfl rfl (Nat.le_of_ble_eq_true rfl) (Nat.le_of_ble_eq_true rfl)

set_option maxRecDepth 100000 in
set_option maxHeartbeats 4000000 in
theorem c_X2_init (l : Launch) (D : va_G) (cI cS : ClassId) : MN l yX2_init cX2_init 1 1 20 1 40 D cI cS (fun h => [.ref h]) (.inr (2, [.null, .int 0, .int 0])) (shtW cI) := by
  refine MN_of (own := RX2) rfl (by decide +kernel) (fun h => ⟨rfl, Nat.le_of_ble_eq_true rfl⟩) (fun X h hX hRn hin0 hlX => ?_)
  have hin := hin0 rfl
  subst hlX
  show WN X D 0 [some (.ref h)] [] [(h, .inr (2, [.null, .int 0, .int 0]))] 0 0
  refine n_aload0 hX dX2_init_0 (q := 1) rfl ?_
  refine n_obj hX dX2_init_1 (q := 4) rfl kX2_3 msObj (Nat.le_of_ble_eq_true rfl) ⟨by decide, by decide⟩ ?_
  refine n_aload0 hX dX2_init_4 (q := 5) rfl ?_
  refine n_bipush hX dX2_init_5 (q := 7) rfl (v := nI 40) (by decide +kernel) ?_
  refine n_newa (n := 40) hX dX2_init_7 (q := 9) rfl mArr rfl (by decide) (Nat.le_of_ble_eq_true rfl) (Nat.le_of_ble_eq_true rfl) (fun a7 => ?_)
  refine n_cg (ws' := [(h, .inr (2, [.null, .int 0, .int 0])), (a7, .inl (cI, 40, .inl zf))]) rfl ?_
  refine n_putF (q0 := 0) (ws' := [(h, .inr (2, [.ref a7, .int 0, .int 0])), (a7, .inl (cI, 40, .inl zf))]) hX hin dX2_init_9 (q := 12) rfl fX2_9 eX2_0 rfl rfl rfl (Nat.le_of_ble_eq_true rfl) rfl ?_
  refine n_aload0 hX dX2_init_12 (q := 13) rfl ?_
  refine n_iconst hX dX2_init_13 (q := 14) rfl (v := nI 0) (by decide +kernel) ?_
  refine n_put (q0 := 0) (ws' := [(h, .inr (2, [.ref a7, .int (nI 0), .int 0])), (a7, .inl (cI, 40, .inl zf))]) hX dX2_init_14 (q := 17) rfl fX2_15 wX2_1 rfl rfl rfl (Nat.le_of_ble_eq_true rfl) rfl ?_
  refine n_aload0 hX dX2_init_17 (q := 18) rfl ?_
  refine n_iconst hX dX2_init_18 (q := 19) rfl (v := nI 0) (by decide +kernel) ?_
  refine n_put (q0 := 0) (ws' := [(h, .inr (2, [.ref a7, .int (nI 0), .int (nI 0)])), (a7, .inl (cI, 40, .inl zf))]) hX dX2_init_19 (q := 22) rfl fX2_19 wX2_2 rfl rfl rfl (Nat.le_of_ble_eq_true rfl) rfl ?_
  exact n_vret hX hRn dX2_init_22 (fun k => [h, a7].getD k 0) rfl rfl (Nat.le_of_ble_eq_true rfl) (Nat.le_of_ble_eq_true rfl)

set_option maxRecDepth 100000 in
set_option maxHeartbeats 4000000 in
theorem c_X3_init (l : Launch) (D : va_G) (cI cS : ClassId) : MN l yX3_init cX3_init 1 1 20 5 604 D cI cS (fun h => [.ref h]) (.inr (3, [.null, .int 0, .null, .null, .null, .null, .int 0, .int 0])) (tapW cI) := by
  refine MN_of (own := RX3) rfl (by decide +kernel) (fun h => ⟨rfl, Nat.le_of_ble_eq_true rfl⟩) (fun X h hX hRn hin0 hlX => ?_)
  have hin := hin0 rfl
  subst hlX
  show WN X D 0 [some (.ref h)] [] [(h, .inr (3, [.null, .int 0, .null, .null, .null, .null, .int 0, .int 0]))] 0 0
  refine n_aload0 hX dX3_init_0 (q := 1) rfl ?_
  refine n_obj hX dX3_init_1 (q := 4) rfl kX3_3 msObj (Nat.le_of_ble_eq_true rfl) ⟨by decide, by decide⟩ ?_
  refine n_aload0 hX dX3_init_4 (q := 5) rfl ?_
  refine n_bipush hX dX3_init_5 (q := 7) rfl (v := nI 120) (by decide +kernel) ?_
  refine n_newa (n := 120) hX dX3_init_7 (q := 9) rfl mArr rfl (by decide) (Nat.le_of_ble_eq_true rfl) (Nat.le_of_ble_eq_true rfl) (fun a7 => ?_)
  refine n_cg (ws' := [(h, .inr (3, [.null, .int 0, .null, .null, .null, .null, .int 0, .int 0])), (a7, .inl (cI, 120, .inl zf))]) rfl ?_
  refine n_putF (q0 := 0) (ws' := [(h, .inr (3, [.ref a7, .int 0, .null, .null, .null, .null, .int 0, .int 0])), (a7, .inl (cI, 120, .inl zf))]) hX hin dX3_init_9 (q := 12) rfl fX3_9 eX3_0 rfl rfl rfl (Nat.le_of_ble_eq_true rfl) rfl ?_
  refine n_aload0 hX dX3_init_12 (q := 13) rfl ?_
  refine n_iconst hX dX3_init_13 (q := 14) rfl (v := nI 0) (by decide +kernel) ?_
  refine n_put (q0 := 0) (ws' := [(h, .inr (3, [.ref a7, .int (nI 0), .null, .null, .null, .null, .int 0, .int 0])), (a7, .inl (cI, 120, .inl zf))]) hX dX3_init_14 (q := 17) rfl fX3_15 wX3_1 rfl rfl rfl (Nat.le_of_ble_eq_true rfl) rfl ?_
  refine n_aload0 hX dX3_init_17 (q := 18) rfl ?_
  refine n_bipush hX dX3_init_18 (q := 20) rfl (v := nI 121) (by decide +kernel) ?_
  refine n_newa (n := 121) hX dX3_init_20 (q := 22) rfl mArr rfl (by decide) (Nat.le_of_ble_eq_true rfl) (Nat.le_of_ble_eq_true rfl) (fun a20 => ?_)
  refine n_cg (ws' := [(h, .inr (3, [.ref a7, .int (nI 0), .null, .null, .null, .null, .int 0, .int 0])), (a7, .inl (cI, 120, .inl zf)), (a20, .inl (cI, 121, .inl zf))]) rfl ?_
  refine n_putF (q0 := 0) (ws' := [(h, .inr (3, [.ref a7, .int (nI 0), .ref a20, .null, .null, .null, .int 0, .int 0])), (a7, .inl (cI, 120, .inl zf)), (a20, .inl (cI, 121, .inl zf))]) hX hin dX3_init_22 (q := 25) rfl fX3_19 eX3_2 rfl rfl rfl (Nat.le_of_ble_eq_true rfl) rfl ?_
  refine n_aload0 hX dX3_init_25 (q := 26) rfl ?_
  refine n_bipush hX dX3_init_26 (q := 28) rfl (v := nI 121) (by decide +kernel) ?_
  refine n_newa (n := 121) hX dX3_init_28 (q := 30) rfl mArr rfl (by decide) (Nat.le_of_ble_eq_true rfl) (Nat.le_of_ble_eq_true rfl) (fun a28 => ?_)
  refine n_cg (ws' := [(h, .inr (3, [.ref a7, .int (nI 0), .ref a20, .null, .null, .null, .int 0, .int 0])), (a7, .inl (cI, 120, .inl zf)), (a20, .inl (cI, 121, .inl zf)), (a28, .inl (cI, 121, .inl zf))]) rfl ?_
  refine n_putF (q0 := 0) (ws' := [(h, .inr (3, [.ref a7, .int (nI 0), .ref a20, .ref a28, .null, .null, .int 0, .int 0])), (a7, .inl (cI, 120, .inl zf)), (a20, .inl (cI, 121, .inl zf)), (a28, .inl (cI, 121, .inl zf))]) hX hin dX3_init_30 (q := 33) rfl fX3_22 eX3_3 rfl rfl rfl (Nat.le_of_ble_eq_true rfl) rfl ?_
  refine n_aload0 hX dX3_init_33 (q := 34) rfl ?_
  refine n_bipush hX dX3_init_34 (q := 36) rfl (v := nI 121) (by decide +kernel) ?_
  refine n_newa (n := 121) hX dX3_init_36 (q := 38) rfl mArr rfl (by decide) (Nat.le_of_ble_eq_true rfl) (Nat.le_of_ble_eq_true rfl) (fun a36 => ?_)
  refine n_cg (ws' := [(h, .inr (3, [.ref a7, .int (nI 0), .ref a20, .ref a28, .null, .null, .int 0, .int 0])), (a7, .inl (cI, 120, .inl zf)), (a20, .inl (cI, 121, .inl zf)), (a28, .inl (cI, 121, .inl zf)), (a36, .inl (cI, 121, .inl zf))]) rfl ?_
  refine n_putF (q0 := 0) (ws' := [(h, .inr (3, [.ref a7, .int (nI 0), .ref a20, .ref a28, .ref a36, .null, .int 0, .int 0])), (a7, .inl (cI, 120, .inl zf)), (a20, .inl (cI, 121, .inl zf)), (a28, .inl (cI, 121, .inl zf)), (a36, .inl (cI, 121, .inl zf))]) hX hin dX3_init_38 (q := 41) rfl fX3_25 eX3_4 rfl rfl rfl (Nat.le_of_ble_eq_true rfl) rfl ?_
  refine n_aload0 hX dX3_init_41 (q := 42) rfl ?_
  refine n_bipush hX dX3_init_42 (q := 44) rfl (v := nI 121) (by decide +kernel) ?_
  refine n_newa (n := 121) hX dX3_init_44 (q := 46) rfl mArr rfl (by decide) (Nat.le_of_ble_eq_true rfl) (Nat.le_of_ble_eq_true rfl) (fun a44 => ?_)
  refine n_cg (ws' := [(h, .inr (3, [.ref a7, .int (nI 0), .ref a20, .ref a28, .ref a36, .null, .int 0, .int 0])), (a7, .inl (cI, 120, .inl zf)), (a20, .inl (cI, 121, .inl zf)), (a28, .inl (cI, 121, .inl zf)), (a36, .inl (cI, 121, .inl zf)), (a44, .inl (cI, 121, .inl zf))]) rfl ?_
  refine n_putF (q0 := 0) (ws' := [(h, .inr (3, [.ref a7, .int (nI 0), .ref a20, .ref a28, .ref a36, .ref a44, .int 0, .int 0])), (a7, .inl (cI, 120, .inl zf)), (a20, .inl (cI, 121, .inl zf)), (a28, .inl (cI, 121, .inl zf)), (a36, .inl (cI, 121, .inl zf)), (a44, .inl (cI, 121, .inl zf))]) hX hin dX3_init_46 (q := 49) rfl fX3_28 eX3_5 rfl rfl rfl (Nat.le_of_ble_eq_true rfl) rfl ?_
  refine n_aload0 hX dX3_init_49 (q := 50) rfl ?_
  refine n_iconst hX dX3_init_50 (q := 51) rfl (v := nI 0) (by decide +kernel) ?_
  refine n_put (q0 := 0) (ws' := [(h, .inr (3, [.ref a7, .int (nI 0), .ref a20, .ref a28, .ref a36, .ref a44, .int (nI 0), .int 0])), (a7, .inl (cI, 120, .inl zf)), (a20, .inl (cI, 121, .inl zf)), (a28, .inl (cI, 121, .inl zf)), (a36, .inl (cI, 121, .inl zf)), (a44, .inl (cI, 121, .inl zf))]) hX dX3_init_51 (q := 54) rfl fX3_31 wX3_6 rfl rfl rfl (Nat.le_of_ble_eq_true rfl) rfl ?_
  refine n_aload0 hX dX3_init_54 (q := 55) rfl ?_
  refine n_iconst hX dX3_init_55 (q := 56) rfl (v := nI 0) (by decide +kernel) ?_
  refine n_put (q0 := 0) (ws' := [(h, .inr (3, [.ref a7, .int (nI 0), .ref a20, .ref a28, .ref a36, .ref a44, .int (nI 0), .int (nI 0)])), (a7, .inl (cI, 120, .inl zf)), (a20, .inl (cI, 121, .inl zf)), (a28, .inl (cI, 121, .inl zf)), (a36, .inl (cI, 121, .inl zf)), (a44, .inl (cI, 121, .inl zf))]) hX dX3_init_56 (q := 59) rfl fX3_34 wX3_7 rfl rfl rfl (Nat.le_of_ble_eq_true rfl) rfl ?_
  exact n_vret hX hRn dX3_init_59 (fun k => [h, a7, a20, a28, a36, a44].getD k 0) rfl rfl (Nat.le_of_ble_eq_true rfl) (Nat.le_of_ble_eq_true rfl)

set_option maxRecDepth 100000 in
set_option maxHeartbeats 4000000 in
theorem c_X0_init (l : Launch) (D : va_G) (cI cS : ClassId) : MN l yX0_init cX0_init 1 2 40 9 109 D cI cS (fun h => [.ref h]) (.inr (0, [.null, .null, .null, .int 0, .int 0, .int 0, .int 0, .int 0, .int 0, .null, .int 0, .null, .int 0, .null])) (chdW cI) := by
  refine MN_of (own := RX0) rfl (by decide +kernel) (fun h => ⟨rfl, Nat.le_of_ble_eq_true rfl⟩) (fun X h hX hRn hin0 hlX => ?_)
  have hin := hin0 rfl
  subst hlX
  show WN X D 0 [some (.ref h)] [] [(h, .inr (0, [.null, .null, .null, .int 0, .int 0, .int 0, .int 0, .int 0, .int 0, .null, .int 0, .null, .int 0, .null]))] 0 0
  refine n_aload0 hX dX0_init_0 (q := 1) rfl ?_
  refine n_obj hX dX0_init_1 (q := 4) rfl kX0_3 msObj (Nat.le_of_ble_eq_true rfl) ⟨by decide, by decide⟩ ?_
  refine n_aload0 hX dX0_init_4 (q := 5) rfl ?_
  refine n_bipush hX dX0_init_5 (q := 7) rfl (v := nI 10) (by decide +kernel) ?_
  refine n_newa (n := 10) hX dX0_init_7 (q := 9) rfl mArr rfl (by decide) (Nat.le_of_ble_eq_true rfl) (Nat.le_of_ble_eq_true rfl) (fun a7 => ?_)
  refine n_cg (ws' := [(h, .inr (0, [.null, .null, .null, .int 0, .int 0, .int 0, .int 0, .int 0, .int 0, .null, .int 0, .null, .int 0, .null])), (a7, .inl (cI, 10, .inl zf))]) rfl ?_
  refine n_putF (q0 := 0) (ws' := [(h, .inr (0, [.ref a7, .null, .null, .int 0, .int 0, .int 0, .int 0, .int 0, .int 0, .null, .int 0, .null, .int 0, .null])), (a7, .inl (cI, 10, .inl zf))]) hX hin dX0_init_9 (q := 12) rfl fX0_9 eX0_0 rfl rfl rfl (Nat.le_of_ble_eq_true rfl) rfl ?_
  refine n_aload0 hX dX0_init_12 (q := 13) rfl ?_
  refine n_bipush hX dX0_init_13 (q := 15) rfl (v := nI 10) (by decide +kernel) ?_
  refine n_newa (n := 10) hX dX0_init_15 (q := 17) rfl mArr rfl (by decide) (Nat.le_of_ble_eq_true rfl) (Nat.le_of_ble_eq_true rfl) (fun a15 => ?_)
  refine n_cg (ws' := [(h, .inr (0, [.ref a7, .null, .null, .int 0, .int 0, .int 0, .int 0, .int 0, .int 0, .null, .int 0, .null, .int 0, .null])), (a7, .inl (cI, 10, .inl zf)), (a15, .inl (cI, 10, .inl zf))]) rfl ?_
  refine n_putF (q0 := 0) (ws' := [(h, .inr (0, [.ref a7, .ref a15, .null, .int 0, .int 0, .int 0, .int 0, .int 0, .int 0, .null, .int 0, .null, .int 0, .null])), (a7, .inl (cI, 10, .inl zf)), (a15, .inl (cI, 10, .inl zf))]) hX hin dX0_init_17 (q := 20) rfl fX0_15 eX0_1 rfl rfl rfl (Nat.le_of_ble_eq_true rfl) rfl ?_
  refine n_aload0 hX dX0_init_20 (q := 21) rfl ?_
  refine n_bipush hX dX0_init_21 (q := 23) rfl (v := nI 10) (by decide +kernel) ?_
  refine n_newa (n := 10) hX dX0_init_23 (q := 25) rfl mArr rfl (by decide) (Nat.le_of_ble_eq_true rfl) (Nat.le_of_ble_eq_true rfl) (fun a23 => ?_)
  refine n_cg (ws' := [(h, .inr (0, [.ref a7, .ref a15, .null, .int 0, .int 0, .int 0, .int 0, .int 0, .int 0, .null, .int 0, .null, .int 0, .null])), (a7, .inl (cI, 10, .inl zf)), (a15, .inl (cI, 10, .inl zf)), (a23, .inl (cI, 10, .inl zf))]) rfl ?_
  refine n_putF (q0 := 0) (ws' := [(h, .inr (0, [.ref a7, .ref a15, .ref a23, .int 0, .int 0, .int 0, .int 0, .int 0, .int 0, .null, .int 0, .null, .int 0, .null])), (a7, .inl (cI, 10, .inl zf)), (a15, .inl (cI, 10, .inl zf)), (a23, .inl (cI, 10, .inl zf))]) hX hin dX0_init_25 (q := 28) rfl fX0_18 eX0_2 rfl rfl rfl (Nat.le_of_ble_eq_true rfl) rfl ?_
  refine n_aload0 hX dX0_init_28 (q := 29) rfl ?_
  refine n_get (q0 := 0) hX dX0_init_29 (q := 32) rfl fX0_9 rfl rfl ?_
  refine n_bipush hX dX0_init_32 (q := 34) rfl (v := nI 20) (by decide +kernel) ?_
  refine n_fill (q0 := 1) (ws' := [(h, .inr (0, [.ref a7, .ref a15, .ref a23, .int 0, .int 0, .int 0, .int 0, .int 0, .int 0, .null, .int 0, .null, .int 0, .null])), (a7, .inl (cI, 10, .inl (flF 10 (nI 20) zf))), (a15, .inl (cI, 10, .inl zf)), (a23, .inl (cI, 10, .inl zf))]) hX dX0_init_34 (q := 37) rfl (c_fillN _ D cI cS 10 zf (nI 20) (by decide)) kX0_21 mlJ7_fill_53178 msJ7_fill_53178 rfl rfl ⟨by decide, by decide⟩ (Nat.le_of_ble_eq_true rfl) ⟨(Nat.le_of_ble_eq_true rfl), (Nat.le_of_ble_eq_true rfl)⟩ ?_
  refine n_aload0 hX dX0_init_37 (q := 38) rfl ?_
  refine n_iconst hX dX0_init_38 (q := 39) rfl (v := nI 3) (by decide +kernel) ?_
  refine n_put (q0 := 0) (ws' := [(h, .inr (0, [.ref a7, .ref a15, .ref a23, .int (nI 3), .int 0, .int 0, .int 0, .int 0, .int 0, .null, .int 0, .null, .int 0, .null])), (a7, .inl (cI, 10, .inl (flF 10 (nI 20) zf))), (a15, .inl (cI, 10, .inl zf)), (a23, .inl (cI, 10, .inl zf))]) hX dX0_init_39 (q := 42) rfl fX0_27 wX0_3 rfl rfl rfl (Nat.le_of_ble_eq_true rfl) rfl ?_
  refine n_aload0 hX dX0_init_42 (q := 43) rfl ?_
  refine n_bipush hX dX0_init_43 (q := 45) rfl (v := nI 40) (by decide +kernel) ?_
  refine n_put (q0 := 0) (ws' := [(h, .inr (0, [.ref a7, .ref a15, .ref a23, .int (nI 3), .int (nI 40), .int 0, .int 0, .int 0, .int 0, .null, .int 0, .null, .int 0, .null])), (a7, .inl (cI, 10, .inl (flF 10 (nI 20) zf))), (a15, .inl (cI, 10, .inl zf)), (a23, .inl (cI, 10, .inl zf))]) hX dX0_init_45 (q := 48) rfl fX0_31 wX0_4 rfl rfl rfl (Nat.le_of_ble_eq_true rfl) rfl ?_
  refine n_aload0 hX dX0_init_48 (q := 49) rfl ?_
  refine n_sipush hX dX0_init_49 (q := 52) rfl (v := nI 1500) (by decide +kernel) ?_
  refine n_put (q0 := 0) (ws' := [(h, .inr (0, [.ref a7, .ref a15, .ref a23, .int (nI 3), .int (nI 40), .int (nI 1500), .int 0, .int 0, .int 0, .null, .int 0, .null, .int 0, .null])), (a7, .inl (cI, 10, .inl (flF 10 (nI 20) zf))), (a15, .inl (cI, 10, .inl zf)), (a23, .inl (cI, 10, .inl zf))]) hX dX0_init_52 (q := 55) rfl fX0_34 wX0_5 rfl rfl rfl (Nat.le_of_ble_eq_true rfl) rfl ?_
  refine n_aload0 hX dX0_init_55 (q := 56) rfl ?_
  refine n_bipush hX dX0_init_56 (q := 58) rfl (v := nI 50) (by decide +kernel) ?_
  refine n_put (q0 := 0) (ws' := [(h, .inr (0, [.ref a7, .ref a15, .ref a23, .int (nI 3), .int (nI 40), .int (nI 1500), .int (nI 50), .int 0, .int 0, .null, .int 0, .null, .int 0, .null])), (a7, .inl (cI, 10, .inl (flF 10 (nI 20) zf))), (a15, .inl (cI, 10, .inl zf)), (a23, .inl (cI, 10, .inl zf))]) hX dX0_init_58 (q := 61) rfl fX0_37 wX0_6 rfl rfl rfl (Nat.le_of_ble_eq_true rfl) rfl ?_
  refine n_aload0 hX dX0_init_61 (q := 62) rfl ?_
  refine n_iconst hX dX0_init_62 (q := 63) rfl (v := (-1)) (by decide +kernel) ?_
  refine n_put (q0 := 0) (ws' := [(h, .inr (0, [.ref a7, .ref a15, .ref a23, .int (nI 3), .int (nI 40), .int (nI 1500), .int (nI 50), .int (-1), .int 0, .null, .int 0, .null, .int 0, .null])), (a7, .inl (cI, 10, .inl (flF 10 (nI 20) zf))), (a15, .inl (cI, 10, .inl zf)), (a23, .inl (cI, 10, .inl zf))]) hX dX0_init_63 (q := 66) rfl fX0_40 wX0_7 rfl rfl rfl (Nat.le_of_ble_eq_true rfl) rfl ?_
  refine n_aload0 hX dX0_init_66 (q := 67) rfl ?_
  refine n_iconst hX dX0_init_67 (q := 68) rfl (v := nI 0) (by decide +kernel) ?_
  refine n_put (q0 := 0) (ws' := [(h, .inr (0, [.ref a7, .ref a15, .ref a23, .int (nI 3), .int (nI 40), .int (nI 1500), .int (nI 50), .int (-1), .int (nI 0), .null, .int 0, .null, .int 0, .null])), (a7, .inl (cI, 10, .inl (flF 10 (nI 20) zf))), (a15, .inl (cI, 10, .inl zf)), (a23, .inl (cI, 10, .inl zf))]) hX dX0_init_68 (q := 71) rfl fX0_43 wX0_8 rfl rfl rfl (Nat.le_of_ble_eq_true rfl) rfl ?_
  refine n_aload0 hX dX0_init_71 (q := 72) rfl ?_
  refine n_new hX dX0_init_72 (q := 75) rfl nX0_46 (Nat.le_of_ble_eq_true rfl) (Nat.le_of_ble_eq_true rfl) (fun a72 => ?_)
  refine n_cg (ws' := [(h, .inr (0, [.ref a7, .ref a15, .ref a23, .int (nI 3), .int (nI 40), .int (nI 1500), .int (nI 50), .int (-1), .int (nI 0), .null, .int 0, .null, .int 0, .null])), (a7, .inl (cI, 10, .inl (flF 10 (nI 20) zf))), (a15, .inl (cI, 10, .inl zf)), (a23, .inl (cI, 10, .inl zf)), (a72, .inr (1, [.null, .null, .null, .int 0]))]) rfl ?_
  refine n_dup hX dX0_init_75 (q := 76) rfl rfl ?_
  refine n_callI (wr := [(h, .inr (0, [.ref a7, .ref a15, .ref a23, .int (nI 3), .int (nI 40), .int (nI 1500), .int (nI 50), .int (-1), .int (nI 0), .null, .int 0, .null, .int 0, .null])), (a7, .inl (cI, 10, .inl (flF 10 (nI 20) zf))), (a15, .inl (cI, 10, .inl zf)), (a23, .inl (cI, 10, .inl zf))]) hX dX0_init_76 (q := 79) rfl (c_X1_init _ D cI cS) kX0_48 mlX1_init miX1_init rfl rfl ⟨by decide, by decide⟩ (Nat.le_of_ble_eq_true rfl) (Nat.le_of_ble_eq_true rfl) (Nat.le_of_ble_eq_true rfl) (fun u76 hu76 => ?_)
  subst hu76
  refine n_cg (ws' := [(h, .inr (0, [.ref a7, .ref a15, .ref a23, .int (nI 3), .int (nI 40), .int (nI 1500), .int (nI 50), .int (-1), .int (nI 0), .null, .int 0, .null, .int 0, .null])), (a7, .inl (cI, 10, .inl (flF 10 (nI 20) zf))), (a15, .inl (cI, 10, .inl zf)), (a23, .inl (cI, 10, .inl zf)), ((u76 0), .inr (1, [.ref (u76 1), .ref (u76 2), .ref (u76 3), .int (nI 0)])), ((u76 1), .inl (cI, 10, .inl zf)), ((u76 2), .inl (cI, 10, .inl zf)), ((u76 3), .inl (cI, 10, .inl zf))]) rfl ?_
  refine n_putF (q0 := 0) (ws' := [(h, .inr (0, [.ref a7, .ref a15, .ref a23, .int (nI 3), .int (nI 40), .int (nI 1500), .int (nI 50), .int (-1), .int (nI 0), .ref (u76 0), .int 0, .null, .int 0, .null])), (a7, .inl (cI, 10, .inl (flF 10 (nI 20) zf))), (a15, .inl (cI, 10, .inl zf)), (a23, .inl (cI, 10, .inl zf)), ((u76 0), .inr (1, [.ref (u76 1), .ref (u76 2), .ref (u76 3), .int (nI 0)])), ((u76 1), .inl (cI, 10, .inl zf)), ((u76 2), .inl (cI, 10, .inl zf)), ((u76 3), .inl (cI, 10, .inl zf))]) hX hin dX0_init_79 (q := 82) rfl fX0_49 eX0_9 rfl rfl rfl (Nat.le_of_ble_eq_true rfl) rfl ?_
  refine n_aload0 hX dX0_init_82 (q := 83) rfl ?_
  refine n_iconst hX dX0_init_83 (q := 84) rfl (v := nI 0) (by decide +kernel) ?_
  refine n_put (q0 := 0) (ws' := [(h, .inr (0, [.ref a7, .ref a15, .ref a23, .int (nI 3), .int (nI 40), .int (nI 1500), .int (nI 50), .int (-1), .int (nI 0), .ref (u76 0), .int (nI 0), .null, .int 0, .null])), (a7, .inl (cI, 10, .inl (flF 10 (nI 20) zf))), (a15, .inl (cI, 10, .inl zf)), (a23, .inl (cI, 10, .inl zf)), ((u76 0), .inr (1, [.ref (u76 1), .ref (u76 2), .ref (u76 3), .int (nI 0)])), ((u76 1), .inl (cI, 10, .inl zf)), ((u76 2), .inl (cI, 10, .inl zf)), ((u76 3), .inl (cI, 10, .inl zf))]) hX dX0_init_84 (q := 87) rfl fX0_53 wX0_10 rfl rfl rfl (Nat.le_of_ble_eq_true rfl) rfl ?_
  refine n_aload0 hX dX0_init_87 (q := 88) rfl ?_
  refine n_bipush hX dX0_init_88 (q := 90) rfl (v := nI 35) (by decide +kernel) ?_
  refine n_newa (n := 35) hX dX0_init_90 (q := 92) rfl mArr rfl (by decide) (Nat.le_of_ble_eq_true rfl) (Nat.le_of_ble_eq_true rfl) (fun a90 => ?_)
  refine n_cg (ws' := [(h, .inr (0, [.ref a7, .ref a15, .ref a23, .int (nI 3), .int (nI 40), .int (nI 1500), .int (nI 50), .int (-1), .int (nI 0), .ref (u76 0), .int (nI 0), .null, .int 0, .null])), (a7, .inl (cI, 10, .inl (flF 10 (nI 20) zf))), (a15, .inl (cI, 10, .inl zf)), (a23, .inl (cI, 10, .inl zf)), ((u76 0), .inr (1, [.ref (u76 1), .ref (u76 2), .ref (u76 3), .int (nI 0)])), ((u76 1), .inl (cI, 10, .inl zf)), ((u76 2), .inl (cI, 10, .inl zf)), ((u76 3), .inl (cI, 10, .inl zf)), (a90, .inl (cI, 35, .inl zf))]) rfl ?_
  refine n_putF (q0 := 0) (ws' := [(h, .inr (0, [.ref a7, .ref a15, .ref a23, .int (nI 3), .int (nI 40), .int (nI 1500), .int (nI 50), .int (-1), .int (nI 0), .ref (u76 0), .int (nI 0), .ref a90, .int 0, .null])), (a7, .inl (cI, 10, .inl (flF 10 (nI 20) zf))), (a15, .inl (cI, 10, .inl zf)), (a23, .inl (cI, 10, .inl zf)), ((u76 0), .inr (1, [.ref (u76 1), .ref (u76 2), .ref (u76 3), .int (nI 0)])), ((u76 1), .inl (cI, 10, .inl zf)), ((u76 2), .inl (cI, 10, .inl zf)), ((u76 3), .inl (cI, 10, .inl zf)), (a90, .inl (cI, 35, .inl zf))]) hX hin dX0_init_92 (q := 95) rfl fX0_56 eX0_11 rfl rfl rfl (Nat.le_of_ble_eq_true rfl) rfl ?_
  refine n_aload0 hX dX0_init_95 (q := 96) rfl ?_
  refine n_iconst hX dX0_init_96 (q := 97) rfl (v := nI 1) (by decide +kernel) ?_
  refine n_put (q0 := 0) (ws' := [(h, .inr (0, [.ref a7, .ref a15, .ref a23, .int (nI 3), .int (nI 40), .int (nI 1500), .int (nI 50), .int (-1), .int (nI 0), .ref (u76 0), .int (nI 0), .ref a90, .int (nI 1), .null])), (a7, .inl (cI, 10, .inl (flF 10 (nI 20) zf))), (a15, .inl (cI, 10, .inl zf)), (a23, .inl (cI, 10, .inl zf)), ((u76 0), .inr (1, [.ref (u76 1), .ref (u76 2), .ref (u76 3), .int (nI 0)])), ((u76 1), .inl (cI, 10, .inl zf)), ((u76 2), .inl (cI, 10, .inl zf)), ((u76 3), .inl (cI, 10, .inl zf)), (a90, .inl (cI, 35, .inl zf))]) hX dX0_init_97 (q := 100) rfl fX0_59 wX0_12 rfl rfl rfl (Nat.le_of_ble_eq_true rfl) rfl ?_
  refine n_aload0 hX dX0_init_100 (q := 101) rfl ?_
  refine n_bipush hX dX0_init_101 (q := 103) rfl (v := nI 10) (by decide +kernel) ?_
  refine n_newa (n := 10) hX dX0_init_103 (q := 105) rfl mArr rfl (by decide) (Nat.le_of_ble_eq_true rfl) (Nat.le_of_ble_eq_true rfl) (fun a103 => ?_)
  refine n_cg (ws' := [(h, .inr (0, [.ref a7, .ref a15, .ref a23, .int (nI 3), .int (nI 40), .int (nI 1500), .int (nI 50), .int (-1), .int (nI 0), .ref (u76 0), .int (nI 0), .ref a90, .int (nI 1), .null])), (a7, .inl (cI, 10, .inl (flF 10 (nI 20) zf))), (a15, .inl (cI, 10, .inl zf)), (a23, .inl (cI, 10, .inl zf)), ((u76 0), .inr (1, [.ref (u76 1), .ref (u76 2), .ref (u76 3), .int (nI 0)])), ((u76 1), .inl (cI, 10, .inl zf)), ((u76 2), .inl (cI, 10, .inl zf)), ((u76 3), .inl (cI, 10, .inl zf)), (a90, .inl (cI, 35, .inl zf)), (a103, .inl (cI, 10, .inl zf))]) rfl ?_
  refine n_putF (q0 := 0) (ws' := [(h, .inr (0, [.ref a7, .ref a15, .ref a23, .int (nI 3), .int (nI 40), .int (nI 1500), .int (nI 50), .int (-1), .int (nI 0), .ref (u76 0), .int (nI 0), .ref a90, .int (nI 1), .ref a103])), (a7, .inl (cI, 10, .inl (flF 10 (nI 20) zf))), (a15, .inl (cI, 10, .inl zf)), (a23, .inl (cI, 10, .inl zf)), ((u76 0), .inr (1, [.ref (u76 1), .ref (u76 2), .ref (u76 3), .int (nI 0)])), ((u76 1), .inl (cI, 10, .inl zf)), ((u76 2), .inl (cI, 10, .inl zf)), ((u76 3), .inl (cI, 10, .inl zf)), (a90, .inl (cI, 35, .inl zf)), (a103, .inl (cI, 10, .inl zf))]) hX hin dX0_init_105 (q := 108) rfl fX0_62 eX0_13 rfl rfl rfl (Nat.le_of_ble_eq_true rfl) rfl ?_
  refine n_aload0 hX dX0_init_108 (q := 109) rfl ?_
  refine n_get (q0 := 0) hX dX0_init_109 (q := 112) rfl fX0_62 rfl rfl ?_
  refine n_iconst hX dX0_init_112 (q := 113) rfl (v := (-1)) (by decide +kernel) ?_
  refine n_fill (q0 := 9) (ws' := [(h, .inr (0, [.ref a7, .ref a15, .ref a23, .int (nI 3), .int (nI 40), .int (nI 1500), .int (nI 50), .int (-1), .int (nI 0), .ref (u76 0), .int (nI 0), .ref a90, .int (nI 1), .ref a103])), (a7, .inl (cI, 10, .inl (flF 10 (nI 20) zf))), (a15, .inl (cI, 10, .inl zf)), (a23, .inl (cI, 10, .inl zf)), ((u76 0), .inr (1, [.ref (u76 1), .ref (u76 2), .ref (u76 3), .int (nI 0)])), ((u76 1), .inl (cI, 10, .inl zf)), ((u76 2), .inl (cI, 10, .inl zf)), ((u76 3), .inl (cI, 10, .inl zf)), (a90, .inl (cI, 35, .inl zf)), (a103, .inl (cI, 10, .inl (flF 10 (-1) zf)))]) hX dX0_init_113 (q := 116) rfl (c_fillN _ D cI cS 10 zf (-1) (by decide)) kX0_21 mlJ7_fill_53178 msJ7_fill_53178 rfl rfl ⟨by decide, by decide⟩ (Nat.le_of_ble_eq_true rfl) ⟨(Nat.le_of_ble_eq_true rfl), (Nat.le_of_ble_eq_true rfl)⟩ ?_
  exact n_vret hX hRn dX0_init_116 (fun k => [h, a7, a15, a23, (u76 0), (u76 1), (u76 2), (u76 3), a90, a103].getD k 0) rfl rfl (Nat.le_of_ble_eq_true rfl) (Nat.le_of_ble_eq_true rfl)
