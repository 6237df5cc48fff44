theorem iv_foodOf {μ : MU} (hV : Inv 99999 μ) (hSp : SpI μ) (x y : Int32) : ∀ r ν, oFoodOf μ x y = .inr (r, ν) → Inv 99999 ν ∧ SpI ν := by
  intro r ν h
  unfold oFoodOf at h
  repeat' split at h
  all_goals (cases h)
  all_goals exact ⟨hV, hSp⟩
theorem iv_next {μ : MU} (hV : Inv 99999 μ) (hSp : SpI μ)  : ∀ r ν, oNext μ = .inr (r, ν) → Inv 99999 ν ∧ SpI ν := by
  intro r ν h
  unfold oNext at h
  repeat' split at h
  all_goals (cases h)
  all_goals exact ⟨hV, hSp⟩
theorem iv_tasteOf {μ : MU} (hV : Inv 99999 μ) (hSp : SpI μ) (x y : Int32) : ∀ r ν, oTasteOf μ x y = .inr (r, ν) → Inv 99999 ν ∧ SpI ν := by
  intro r ν h
  unfold oTasteOf at h
  repeat' split at h
  all_goals (cases h)
  all_goals exact ⟨hV, hSp⟩
theorem iv_now {μ : MU} (hV : Inv 99999 μ) (hSp : SpI μ) (x : Int32) : ∀ r ν, oNow μ x = .inr (r, ν) → Inv 99999 ν ∧ SpI ν := by
  intro r ν h
  unfold oNow at h
  repeat' split at h
  all_goals (cases h)
  all_goals exact ⟨hV, hSp⟩
theorem iv_book {μ : MU} (hV : Inv 99999 μ) (hSp : SpI μ) (x : Int32) : ∀ r ν, oBook μ x = .inr (r, ν) → Inv 99999 ν ∧ SpI ν := by
  intro r ν h
  unfold oBook at h
  repeat' split at h
  all_goals (cases h)
  all_goals exact ⟨hV, hSp⟩
theorem iv_day {μ : MU} (hV : Inv 99999 μ) (hSp : SpI μ) (x : Int32) : ∀ r ν, oDay μ x = .inr (r, ν) → Inv 99999 ν ∧ SpI ν := by
  intro r ν h
  unfold oDay at h
  repeat' split at h
  all_goals (cases h)
  all_goals exact ⟨hV, hSp⟩
theorem iv_spread {μ : MU} (hV : Inv 99999 μ) (hSp : SpI μ)  : ∀ r ν, oSpread μ = .inr (r, ν) → Inv 99999 ν ∧ SpI ν := by
  intro r ν h
  unfold oSpread at h
  repeat' split at h
  all_goals (cases h)
  all_goals exact ⟨hV, hSp⟩
theorem iv_ahead {μ : MU} (hV : Inv 99999 μ) (hSp : SpI μ) (x y : Int32) : ∀ r ν, oAhead μ x y = .inr (r, ν) → Inv 99999 ν ∧ SpI ν := by
  intro r ν h
  unfold oAhead at h
  repeat' split at h
  all_goals (cases h)
  all_goals exact ⟨hV, hSp⟩
theorem iv_when {μ : MU} (hV : Inv 99999 μ) (hSp : SpI μ) (x : Int32) : ∀ r ν, oWhen μ x = .inr (r, ν) → Inv 99999 ν ∧ SpI ν := by
  intro r ν h
  unfold oWhen tlO at h
  repeat' split at h
  all_goals (cases h)
  all_goals exact ⟨hV, hSp⟩
theorem iv_times {μ : MU} (hV : Inv 99999 μ) (hSp : SpI μ) (x : Int32) : ∀ r ν, oTimes μ x = .inr (r, ν) → Inv 99999 ν ∧ SpI ν := by
  intro r ν h
  unfold oTimes tlO at h
  repeat' split at h
  all_goals (cases h)
  all_goals exact ⟨hV, hSp⟩
theorem iv_best {μ : MU} (hV : Inv 99999 μ) (hSp : SpI μ) (x y : Int32) (w : Nat) : ∀ r ν, oBest μ x y w = .inr (r, ν) → Inv 99999 ν ∧ SpI ν := by
  intro r ν h
  unfold oBest at h
  repeat' split at h
  all_goals (cases h)
  all_goals exact ⟨hV, hSp⟩
theorem iv_paid {μ : MU} (hV : Inv 99999 μ) (hSp : SpI μ) (x : Int32) : ∀ r ν, oPaid μ x = .inr (r, ν) → Inv 99999 ν ∧ SpI ν := by
  intro r ν h
  unfold oPaid at h
  repeat' split at h
  all_goals (cases h)
  all_goals exact ⟨hV, hSp⟩
theorem iv_worry {μ : MU} (hV : Inv 99999 μ) (hSp : SpI μ)  : ∀ r ν, oWorry μ = .inr (r, ν) → Inv 99999 ν ∧ SpI ν := by
  intro r ν h
  unfold oWorry at h
  repeat' split at h
  all_goals (cases h)
  all_goals exact ⟨hV, hSp⟩
theorem iv_order {μ : MU} (hV : Inv 99999 μ) (hSp : SpI μ) (x : Int32) : ∀ r ν, oOrder μ x = .inr (r, ν) → Inv 99999 ν ∧ SpI ν := by
  intro r ν h
  unfold oOrder at h
  repeat' split at h
  all_goals (cases h)
  all_goals exact ⟨hV, hSp⟩
theorem iv_as {μ : MU} (hV : Inv 99999 μ) (hSp : SpI μ) (x y : Int32) : ∀ r ν, oAs μ x y = .inr (r, ν) → Inv 99999 ν ∧ SpI ν := by
  intro r ν h
  unfold oAs at h
  repeat' split at h
  all_goals (cases h)
  all_goals exact ⟨hV, hSp⟩
theorem iv_judge {μ : MU} (hV : Inv 99999 μ) (hSp : SpI μ) (B Z N : MU) (x : Int32) : ∀ r ν, oJudge μ B Z N x = .inr (r, ν) → Inv 99999 ν ∧ SpI ν := by
  intro r ν h
  unfold oJudge at h
  repeat' split at h
  all_goals (cases h)
  all_goals exact ⟨hV, hSp⟩
theorem iv_count {μ : MU} (hV : Inv 99999 μ) (hSp : SpI μ) (n x : Int32) : ∀ r ν, oCount μ n x = .inr (r, ν) → Inv 99999 ν ∧ SpI ν := by
  intro r ν h
  unfold oCount at h
  repeat' split at h
  all_goals (cases h)
  all_goals exact ⟨hV, hSp⟩
theorem lr_f {G G1 G2 : GG} {μ κ B Z N T : MU} {n k : Nat} {x y : Int32} (h : LRp G μ κ B Z N T n) (h1 : FO G k x G1) (h2 : FOM G1 k y G2) : x = y ∧ LR G2 := by
  have hc : CO G μ (.inl k) x G1 := h1.CO rfl h.1.1
  exact lr_o h hc (MOut.fin rfl h2 (co_mr hc h.1.2.1) FrM.rf) (fun w ν e => by cases e)
theorem so_c {G G1 : GG} {o : SOUT} {x : Int32} (h : SO G o x G1) : ∀ c, (c < 38 ∨ 46 < c) → G1 c = G c := fun c a => by
  match o, h with
  | .inl k, h => obtain ⟨-, rfl⟩ := h; exact funext (fun j => up_ne (by omega))
  | .inr q, h => exact h.2.2 c (by omega)
theorem lr_s {G G1 G2 : GG} {μ κ B Z N T : MU} {n : Nat} {o : SOUT} {x y : Int32} (h : LRp G μ κ B Z N T n) (h1 : SO G o x G1) (h2 : SOM G1 o y G2) (hI : ∀ w B' Z' N', o = .inr (w, B', Z', N') → SInv Z') : x = y ∧ LR G2 := by
  match o, h1, h2, hI with
  | .inl k, h1, h2, hI => exact lr_f h h1 h2
  | .inr (w, B', Z', N'), h1, h2, hI =>
    obtain ⟨a1, a2, a3⟩ := h1
    obtain ⟨b1, b2, b3⟩ := h2
    obtain ⟨⟨m1, m2, m3, m4⟩, hk, -, ⟨t1, t2, t3, t4⟩, hf⟩ := h
    have c : ∀ c, (c < 38 ∨ (46 ≤ c ∧ c < 53)) → G2 c = G c := fun c q => (b3 c (by omega) (by omega) (by omega)).trans (a3 c (by omega))
    refine ⟨a1.trans b1.symm, μ, κ, B', Z', N', T, n, ⟨m1.bl (fun x hx => c x (by omega)), m2.fr (c 48 (by omega)), m3, m4⟩, ?_, ⟨a2.fr (fun x q1 q2 => b3 x (by omega) (by omega) (by omega)), b2, hI _ _ _ _ rfl⟩, ⟨by rw [c 31 (by omega)]; exact t1, by rw [c 47 (by omega)]; exact t2, t3, fun j hj => by rw [c 32 (by omega), c 52 (by omega)]; exact t4 j hj⟩, fun k hk => by rw [c 46 (by omega), c 51 (by omega)]; exact hf k hk⟩
    rw [c 30 (by omega), c 47 (by omega)]
    rcases hk with hk | ⟨k1, k2, k3, k4, k5, k6⟩
    · exact Or.inl hk
    · exact Or.inr ⟨k1, k2, k3.bl (fun x hx => c x (by omega)), fun k q => by rw [c 49 (by omega)]; exact k4 k q, k5, k6⟩
theorem iv_sheet {B Z N : MU} (hZ : SInv Z) (x b n : Int32) : ∀ w B' Z' N', oSheet B Z N x b n = .inr (w, B', Z', N') → SInv Z' := by
  intro w B' Z' N' h
  unfold oSheet at h
  split at h
  · split at h
    · cases h
    · next q1 =>
      split at h
      · cases h
      · next q2 =>
        have e := (congrArg (fun q : Int32 × MU × MU × MU => q.2.2.1) (Sum.inr.inj h)).symm
        dsimp only at e
        rw [e]
        intro s hs
        by_cases z : s = cl x
        · subst z
          rw [upd_eq]
          split
          · exact nn_mk (by decide)
          · exact nn_ix (by decide) ⟨Int32.not_lt.mp q1, Int32.not_lt.mp q2⟩
        · rw [upd_ne z]; exact hZ s hs
  · cases h
theorem iv_write {B Z N : MU} (hZ : SInv Z) (x y u : Int32) : ∀ w B' Z' N', oWrite B Z N x y u = .inr (w, B', Z', N') → SInv Z' := by
  intro w B' Z' N' h
  unfold oWrite at h
  repeat' split at h
  all_goals (cases h)
  all_goals exact hZ
theorem iv_copy {B Z N : MU} (hZ : SInv Z) (x y z u n : Int32) : ∀ w B' Z' N', oCopy B Z N x y z u n = .inr (w, B', Z', N') → SInv Z' := by
  intro w B' Z' N' h
  unfold oCopy at h
  repeat' split at h
  all_goals (cases h)
  all_goals exact hZ
theorem lr_image {G G1 G2 : GG} {μ κ B Z N T : MU} {n : Nat} {x y : Int32} (h : LRp G μ κ B Z N T n)
    (h1 : x = nI 1 ∧ CR G1 0 μ ∧ CR G1 2 μ ∧ G1 30 3 = nI 1 ∧ (∀ k, ¬ k = 3 → G1 30 k = G 30 k) ∧ ∀ c, 31 ≤ c → G1 c = G c)
    (h2 : y = nI 1 ∧ KM G2 μ ∧ MR G2 μ ∧ G2 47 3 = nI 1 ∧ (∀ k, ¬ k = 3 → G2 47 k = G1 47 k) ∧ ∀ c, ¬ c = 47 → ¬ c = 49 → G2 c = G1 c) : x = y ∧ LR G2 := by
  obtain ⟨a1, a2, a3, a4, a5, a6⟩ := h1
  obtain ⟨b1, b2, b3, b4, b5, b6⟩ := h2
  obtain ⟨⟨m1, m2, m3, m4⟩, hk, ⟨s1, s2, s3⟩, ⟨t1, t2, t3, t4⟩, hf⟩ := h
  have c : ∀ c, 31 ≤ c → ¬ c = 47 → ¬ c = 49 → G2 c = G c := fun c q1 q2 q3 => (b6 c q2 q3).trans (a6 c q1)
  refine ⟨a1.trans b1.symm, μ, μ, B, Z, N, T, n, ⟨a2.bl (fun x hx => b6 x (by omega) (by omega)), b3, m3, m4⟩, Or.inr ⟨by rw [b6 30 (by decide) (by decide)]; exact a4, b4, a3.bl (fun x hx => b6 x (by omega) (by omega)), b2, m3, m4⟩, ⟨s1.fr (fun x q1 q2 => c x (by omega) (by omega) (by omega)), s2.fr (c 53 (by decide) (by decide) (by decide)) (c 54 (by decide) (by decide) (by decide)) (c 55 (by decide) (by decide) (by decide)), s3⟩, ⟨by rw [c 31 (by decide) (by decide) (by decide)]; exact t1, by rw [b5 6 (by decide), a6 47 (by decide)]; exact t2, t3, fun j hj => by rw [c 32 (by decide) (by decide) (by decide), c 52 (by decide) (by decide) (by decide)]; exact t4 j hj⟩, fun k hk => by rw [c 46 (by decide) (by decide) (by decide), c 51 (by decide) (by decide) (by decide)]; exact hf k hk⟩
theorem lr_k30 {G : GG} {μ κ B Z N T : MU} {n : Nat} (h : LRp G μ κ B Z N T n) : (G 30 3 = nI 0 ∨ (G 30 3 = nI 1 ∧ CR G 2 κ)) ∧ (G 47 3 = nI 0 ∨ (G 47 3 = nI 1 ∧ KM G κ)) := by
  rcases h.2.1 with ⟨q1, q2⟩ | ⟨q1, q2, q3, q4, q5, q6⟩
  · exact ⟨Or.inl q1, Or.inl q2⟩
  · exact ⟨Or.inr ⟨q1, q3⟩, Or.inr ⟨q2, q4⟩⟩
theorem n10 : ¬ nI 0 = nI 1 := by decide +kernel
theorem lr_undo {G G1 G2 : GG} {μ κ B Z N T : MU} {n : Nat} {x y : Int32} (h : LRp G μ κ B Z N T n)
    (h1 : (G 30 3 = nI 0 ∧ FO G 3 x G1) ∨ (G 30 3 = nI 1 ∧ x = κ 0 ∧ CR G1 0 κ ∧ Fr 0 G G1))
    (h2 : (G1 47 3 = nI 0 ∧ FOM G1 3 y G2) ∨ (G1 47 3 = nI 1 ∧ y = κ 0 ∧ MR G2 κ ∧ FrN G1 G2)) : x = y ∧ LR G2 := by
  rcases h.2.1 with ⟨q1, q2⟩ | ⟨q1, q2, q3, q4, q5, q6⟩
  · have a := h1.resolve_right (fun z => n10 (q1.symm.trans z.1))
    have e47 : G1 47 = G 47 := by rw [a.2.2]; exact funext (fun j => up_ne (by omega))
    have b := h2.resolve_right (fun z => n10 (by rw [e47, q2] at z; exact z.1))
    exact lr_f h a.2 b.2
  · obtain ⟨-, a1, a2, a3⟩ := h1.resolve_left (fun z => n10 (z.1.symm.trans q1))
    have e : ∀ c, 10 ≤ c → G1 c = G c := fun c hc => a3 c (by omega)
    obtain ⟨-, b1, b2, b3⟩ := h2.resolve_left (fun z => n10 (by rw [e 47 (by decide), q2] at z; exact z.1.symm))
    refine ⟨a1.trans b1.symm, κ, κ, B, Z, N, T, n, h.fr (fun c z1 z2 z3 z4 z5 => (b3 c z3).trans (e c (by omega))) (fun k hk => ?_) ⟨a2.bl (fun x hx => b3 x (by omega)), b2, q5, q6⟩⟩
    rw [b3 46 (by decide), b3 51 (by decide), e 46 (by decide), e 51 (by decide)]
    exact h.2.2.2.2 k hk
theorem lr_tear {G G1 G2 : GG} {μ κ B Z N T : MU} {n : Nat} {x y : Int32} (h : LRp G μ κ B Z N T n) (h1 : x = G 30 3 ∧ G1 = up G 30 3 (nI 0)) (h2 : y = G1 47 3 ∧ G2 = up G1 47 3 (nI 0)) : x = y ∧ LR G2 := by
  obtain ⟨a1, rfl⟩ := h1
  obtain ⟨b1, rfl⟩ := h2
  obtain ⟨⟨m1, m2, m3, m4⟩, hk, ⟨s1, s2, s3⟩, ⟨t1, t2, t3, t4⟩, hf⟩ := h
  have c : ∀ c, ¬ c = 30 → ¬ c = 47 → up (up G 30 3 (nI 0)) 47 3 (nI 0) c = G c := fun c q1 q2 => funext (fun j => (up_ne (by omega)).trans (up_ne (by omega)))
  refine ⟨?_, μ, κ, B, Z, N, T, n, ⟨m1.bl (fun x hx => c x (by omega) (by omega)), m2.fr (c 48 (by decide) (by decide)), m3, m4⟩, Or.inl ⟨(up_ne (by omega)).trans up_eq, up_eq⟩, ⟨s1.fr (fun x q1 q2 => c x (by omega) (by omega)), s2.fr (c 53 (by decide) (by decide)) (c 54 (by decide) (by decide)) (c 55 (by decide) (by decide)), s3⟩, ⟨by rw [c 31 (by decide) (by decide)]; exact t1, ?_, t3, fun j hj => by rw [c 32 (by decide) (by decide), c 52 (by decide) (by decide)]; exact t4 j hj⟩, fun k hk => by rw [c 46 (by decide) (by decide), c 51 (by decide) (by decide)]; exact hf k hk⟩
  · rw [a1, b1, up_ne (by omega)]
    rcases hk with ⟨q1, q2⟩ | ⟨q1, q2, -⟩
    · rw [q1, q2]
    · rw [q1, q2]
  · rw [up_ne (by omega), up_ne (by omega)]; exact t2
theorem stF_cg {f g : MU} : ∀ (k : Nat), (∀ j, j < k → f j = g j) → stF f k = stF g k
  | 0, _ => rfl
  | k + 1, h => by
    unfold stF
    rw [stF_cg k (fun j hj => h j (by omega)), h k (by omega)]
theorem lr_status {G G1 G2 : GG} {μ κ B Z N T : MU} {n : Nat} {x y w : Int32} (h : LRp G μ κ B Z N T n)
    (h1 : (¬ ((-1) ≤ w ∧ w ≤ nI 6) ∧ FO G 0 x G1) ∨ (((-1) ≤ w ∧ w ≤ nI 6) ∧ G1 = G ∧ x = if w < nI 0 then stF (G 46) 7 else G 46 (cl w)))
    (h2 : (¬ ((-1) ≤ w ∧ w ≤ nI 6) ∧ FOM G1 0 y G2) ∨ (((-1) ≤ w ∧ w ≤ nI 6) ∧ G2 = G1 ∧ y = if w < nI 0 then stF (G1 51) 7 else G1 51 (cl w))) : x = y ∧ LR G2 := by
  by_cases q : (-1) ≤ w ∧ w ≤ nI 6
  · obtain ⟨-, rfl, a⟩ := h1.resolve_left (fun z => z.1 q)
    obtain ⟨-, rfl, b⟩ := h2.resolve_left (fun z => z.1 q)
    refine ⟨?_, μ, κ, B, Z, N, T, n, h⟩
    rw [a, b]
    by_cases z : w < nI 0
    · rw [if_pos z, if_pos z]; exact stF_cg 7 (fun j hj => h.2.2.2.2 j hj)
    · rw [if_neg z, if_neg z]; exact h.2.2.2.2 _ (by have := (ix_of (by decide) ⟨Int32.not_lt.mp z, q.2⟩).1; omega)
  · exact lr_f h (h1.resolve_right (fun z => q z.1)).2 (h2.resolve_right (fun z => q z.1)).2
theorem LRp.tape {G G' : GG} {μ ν κ B Z N T T' : MU} {n n' : Nat} (h : LRp G μ κ B Z N T n) (hc : ∀ c, 20 ≤ c → ¬ (31 ≤ c ∧ c < 37) → ¬ c = 47 → ¬ c = 48 → ¬ c = 50 → ¬ c = 52 → G' c = G c) (h47 : G' 47 3 = G 47 3) (h1 : CR G' 0 ν ∧ MR G' ν ∧ Inv 99999 ν ∧ SpI ν) (ht : G' 31 1 = nI n' ∧ G' 47 6 = nI n' ∧ n' ≤ 120 ∧ ∀ j, j < n' → G' 32 j = T' j ∧ G' 52 j = T' j) : LRp G' ν κ B Z N T' n' := by
  obtain ⟨-, hk, ⟨s1, s2, s3⟩, -, hf⟩ := h
  have c : ∀ c, 20 ≤ c → ¬ (31 ≤ c ∧ c < 37) → ¬ c = 47 → ¬ c = 48 → ¬ c = 50 → ¬ c = 52 → G' c = G c := hc
  refine ⟨h1, ?_, ⟨s1.fr (fun x q1 q2 => c x (by omega) (by omega) (by omega) (by omega) (by omega) (by omega)), s2.fr (c 53 (by omega) (by omega) (by omega) (by omega) (by omega) (by omega)) (c 54 (by omega) (by omega) (by omega) (by omega) (by omega) (by omega)) (c 55 (by omega) (by omega) (by omega) (by omega) (by omega) (by omega)), s3⟩, ht, fun k hk => by rw [c 46 (by omega) (by omega) (by omega) (by omega) (by omega) (by omega), c 51 (by omega) (by omega) (by omega) (by omega) (by omega) (by omega)]; exact hf k hk⟩
  rw [c 30 (by omega) (by omega) (by omega) (by omega) (by omega) (by omega), h47]
  rcases hk with hk | ⟨k1, k2, k3, k4, k5, k6⟩
  · exact Or.inl hk
  · exact Or.inr ⟨k1, k2, k3.bl (fun x hx => c x (by omega) (by omega) (by omega) (by omega) (by omega) (by omega)), fun k q => by rw [c 49 (by omega) (by omega) (by omega) (by omega) (by omega) (by omega)]; exact k4 k q, k5, k6⟩
theorem lr_wipe {G : GG} {μ κ B Z N T : MU} {n : Nat} (h : LRp G μ κ B Z N T n) : G 31 1 = up G 31 1 (nI 0) 47 6 ∧ LR (up (up G 31 1 (nI 0)) 47 6 (nI 0)) := by
  have e : ∀ c, ¬ c = 31 → ¬ c = 47 → up (up G 31 1 (nI 0)) 47 6 (nI 0) c = G c := fun c q1 q2 => funext (fun j => (up_ne (by omega)).trans (up_ne (by omega)))
  refine ⟨by rw [up_ne (by omega), h.2.2.2.1.1, h.2.2.2.1.2.1], μ, κ, B, Z, N, T, 0, h.tape (fun c q1 q2 q3 q4 q5 q6 => e c (by omega) (by omega)) ((up_ne (by omega)).trans (up_ne (by omega))) ⟨h.1.1.bl (fun x hx => e x (by omega) (by omega)), h.1.2.1.fr (e 48 (by decide) (by decide)), h.1.2.2⟩ ⟨(up_ne (by omega)).trans up_eq, up_eq, Nat.zero_le _, fun j hj => absurd hj (by omega)⟩⟩
theorem lr_feed {G G1 G2 : GG} {μ κ B Z N T : MU} {m : Nat} {x y w u : Int32} (h : LRp G μ κ B Z N T m)
    (h1 : (¬ (nI 1 ≤ u ∧ u ≤ nI 4) ∧ FO G 0 x G1) ∨ ((nI 1 ≤ u ∧ u ≤ nI 4) ∧ 120 < m + cl u ∧ FO G 1 x G1) ∨ ((nI 1 ≤ u ∧ u ≤ nI 4) ∧ m + cl u ≤ 120 ∧ x = nI (m + cl u) ∧ G1 = up (upc G 32 (fdT (G 32) m w (cl u) (cl u))) 31 1 (nI (m + cl u))))
    (h2 : (¬ (nI 1 ≤ u ∧ u ≤ nI 4) ∧ FOM G1 0 y G2) ∨ ((nI 1 ≤ u ∧ u ≤ nI 4) ∧ 120 < m + cl u ∧ FOM G1 1 y G2) ∨ ((nI 1 ≤ u ∧ u ≤ nI 4) ∧ m + cl u ≤ 120 ∧ y = nI (m + cl u) ∧ G2 = up (upc G1 52 (fdT (G1 52) m w (cl u) (cl u))) 47 6 (nI (m + cl u)))) : x = y ∧ LR G2 := by
  rcases h1 with ⟨a1, a2⟩ | ⟨a1, a2, a3⟩ | ⟨a1, a2, a3, a4⟩
  · rcases h2 with ⟨b1, b2⟩ | ⟨b1, b2, b3⟩ | ⟨b1, b2, b3, b4⟩
    · exact lr_f h a2 b2
    · exact absurd b1 a1
    · exact absurd b1 a1
  · rcases h2 with ⟨b1, b2⟩ | ⟨b1, b2, b3⟩ | ⟨b1, b2, b3, b4⟩
    · exact absurd a1 b1
    · exact lr_f h a3 b3
    · omega
  · rcases h2 with ⟨b1, b2⟩ | ⟨b1, b2, b3⟩ | ⟨b1, b2, b3, b4⟩
    · exact absurd a1 b1
    · omega
    · refine ⟨a3.trans b3.symm, μ, κ, B, Z, N, fdT T m w (cl u) (cl u), m + cl u, ?_⟩
      have c1 : ∀ c, ¬ c = 31 → ¬ c = 32 → G1 c = G c := fun c q1 q2 => by
        rw [a4]
        exact funext (fun j => (up_ne (by omega)).trans (by simp [upc, q2]))
      have c2 : ∀ c, ¬ c = 47 → ¬ c = 52 → G2 c = G1 c := fun c q1 q2 => by
        rw [b4]
        exact funext (fun j => (up_ne (by omega)).trans (by simp [upc, q2]))
      have e : ∀ c, ¬ c = 31 → ¬ c = 32 → ¬ c = 47 → ¬ c = 52 → G2 c = G c := fun c q1 q2 q3 q4 => (c2 c q3 q4).trans (c1 c q1 q2)
      refine h.tape (fun c q1 q2 q3 q4 q5 q6 => e c (by omega) (by omega) q3 q6) ?_ ⟨h.1.1.bl (fun x hx => e x (by omega) (by omega) (by omega) (by omega)), h.1.2.1.fr (e 48 (by decide) (by decide) (by decide) (by decide)), h.1.2.2⟩ ⟨?_, ?_, a2, fun j hj => ⟨?_, ?_⟩⟩
      · rw [b4, up_ne (by omega), show upc G1 52 (fdT (G1 52) m w (cl u) (cl u)) 47 = G1 47 by simp [upc], c1 47 (by decide) (by decide)]
      · rw [c2 31 (by decide) (by decide), a4]; exact up_eq
      · rw [b4]; exact up_eq
      · rw [c2 32 (by decide) (by decide), a4, up_ne (by omega), show upc G 32 (fdT (G 32) m w (cl u) (cl u)) 32 = fdT (G 32) m w (cl u) (cl u) by simp [upc]]
        unfold fdT
        by_cases q : m ≤ j ∧ j < m + cl u
        · rw [if_pos q, if_pos q]
        · rw [if_neg q, if_neg q]; exact (h.2.2.2.1.2.2.2 j (by omega)).1
      · rw [b4, up_ne (by omega), show upc G1 52 (fdT (G1 52) m w (cl u) (cl u)) 52 = fdT (G1 52) m w (cl u) (cl u) by simp [upc], c1 52 (by decide) (by decide)]
        unfold fdT
        by_cases q : m ≤ j ∧ j < m + cl u
        · rw [if_pos q, if_pos q]
        · rw [if_neg q, if_neg q]; exact (h.2.2.2.1.2.2.2 j (by omega)).2
theorem lr_text {G G1 G2 : GG} {μ κ B Z N T : MU} {n : Nat} {x y : Int32} (h : LRp G μ κ B Z N T n)
    (h1 : G1 31 1 = nI 0 ∧ (∀ c, (20 ≤ c ∧ c ≤ 30) ∨ c = 32 ∨ 37 ≤ c → G1 c = G c) ∧ ((∃ q, txF T n 121 0 μ 1 = .inl q ∧ x = -1 - nI (frm T n q) ∧ CR G1 0 μ) ∨ (∃ it ν, txF T n 121 0 μ 1 = .inr (it, ν) ∧ it ≤ 120 ∧ x = nI it ∧ CR G1 0 ν)))
    (h2 : G2 47 6 = nI 0 ∧ (∀ c, ¬ c = 47 → ¬ c = 48 → ¬ c = 50 → G2 c = G1 c) ∧ (∀ k, (k < 6 ∨ 11 < k) → G2 47 k = G1 47 k) ∧ ((∃ q, txF T n 121 0 μ 1 = .inl q ∧ y = -1 - nI (frm T n q) ∧ MR G2 μ) ∨ (∃ it ν, txF T n 121 0 μ 1 = .inr (it, ν) ∧ it ≤ 120 ∧ y = nI it ∧ MR G2 ν))) : x = y ∧ LR G2 := by
  obtain ⟨a1, a2, a3⟩ := h1
  obtain ⟨b1, b2, b3, b4⟩ := h2
  have c : ∀ c, (20 ≤ c ∧ c ≤ 30) ∨ c = 32 ∨ 37 ≤ c → ¬ c = 47 → ¬ c = 48 → ¬ c = 50 → G2 c = G c := fun c q q1 q2 q3 => (b2 c q1 q2 q3).trans (a2 c q)
  have h31 : G2 31 1 = nI 0 := by rw [b2 31 (by decide) (by decide) (by decide)]; exact a1
  have h47 : G2 47 3 = G 47 3 := (b3 3 (by decide)).trans (by rw [a2 47 (by omega)])
  have fin : ∀ ν, CR G1 0 ν → MR G2 ν → Inv 99999 ν → SpI ν → LR G2 := fun ν p1 p2 p3 p4 => ⟨ν, κ, B, Z, N, T, 0, h.tape (fun c' q1 q2 q3 q4 q5 q6 => c c' (by omega) q3 q4 q5) h47 ⟨p1.bl (fun x hx => b2 x (by omega) (by omega) (by omega)), p2, p3, p4⟩ ⟨h31, b1, Nat.zero_le _, fun j hj => absurd hj (by omega)⟩⟩
  rcases a3 with ⟨q, a4, a5, a6⟩ | ⟨it, ν, a4, a5, a6, a7⟩
  · rcases b4 with ⟨q', b5, b6, b7⟩ | ⟨it', ν', b5, b6, b7, b8⟩
    · have e := Sum.inl.inj (a4.symm.trans b5)
      subst e
      exact ⟨a5.trans b6.symm, fin μ a6 b7 h.1.2.2.1 h.1.2.2.2⟩
    · rw [a4] at b5; cases b5
  · rcases b4 with ⟨q', b5, b6, b7⟩ | ⟨it', ν', b5, b6, b7, b8⟩
    · rw [a4] at b5; cases b5
    · have e := Sum.inr.inj (a4.symm.trans b5)
      obtain ⟨rfl, rfl⟩ := Prod.mk.inj e
      have g := tx_it (Nat.zero_le n) h.1.2.2.1 a4
      exact ⟨a6.trans b7.symm, fin ν a7 b8 g.1 (h.1.2.2.2.gr h.1.2.2.1 g.1 g.2.2 g.2.1)⟩
/-! rows over the script -/
def SB (X : XT) (b L : Nat) (xs : Nat → Int32) : Prop := match X with
  | (_, _, _, _, s, _, _, _, _, _, _, A, _, _, _) => va_X b L xs s s.heap ∧ b < s.heap.size ∧ ¬ A b
theorem r_bld {X : XT} {Γ : Gam} {cc : ByteArray} {own : String} {F L : Nat} (hX : OKX X Γ cc own F L) {b M : Nat} {xs : Nat → Int32} (hB : SB X b M xs) {pc q : Nat} {ls : List (Option Value)} {st : List Value} {G : GG} {j : Nat} {i : Int32} (d : decode cc pc = .ok (.iaload, 1)) (hq : pc + 1 = q) (hi : i = nI j) (hj : j < M) (hM : M < 2 ^ 31) (k : WP X Γ q ls (.int (xs j) :: st) G) : WP X Γ pc ls (.int i :: .ref b :: st) G := by
  obtain ⟨p, l, e, R, s, m, args, below, meth, c, Q, A, nL, cs, sl⟩ := X
  obtain ⟨hx, hb, -⟩ := hX
  subst hq
  subst hi
  intro H locs la hP hS hl
  refine va_sld hx hb hB.1 hB.2.1 hB.2.2 hS (vp_in_nI hj hM) d ?_
  rw [nI_clamp (by omega)]
  exact k H locs la hP hS hl
theorem r_blen {X : XT} {Γ : Gam} {cc : ByteArray} {own : String} {F L : Nat} (hX : OKX X Γ cc own F L) {b M : Nat} {xs : Nat → Int32} (hB : SB X b M xs) {pc q : Nat} {ls : List (Option Value)} {st : List Value} {G : GG} (d : decode cc pc = .ok (.arraylength, 1)) (hq : pc + 1 = q) (k : WP X Γ q ls (.int (nI M) :: st) G) : WP X Γ pc ls (.ref b :: st) G := by
  obtain ⟨p, l, e, R, s, m, args, below, meth, c, Q, A, nL, cs, sl⟩ := X
  obtain ⟨hx, hb, -⟩ := hX
  subst hq
  intro H locs la hP hS hl
  exact va_slen hx hb hB.1 hB.2.1 hB.2.2 hS d (k H locs la hP hS hl)
