/-! the law: class and reference side by side -/
def LRp (G : GG) (μ κ B Z N T : MU) (n : Nat) : Prop :=
  (CR G 0 μ ∧ MR G μ ∧ Inv 99999 μ ∧ SpI μ) ∧
  ((G 30 3 = nI 0 ∧ G 47 3 = nI 0) ∨ (G 30 3 = nI 1 ∧ G 47 3 = nI 1 ∧ CR G 2 κ ∧ KM G κ ∧ Inv 99999 κ ∧ SpI κ)) ∧
  (SR G B Z N ∧ SRM G B Z N ∧ SInv Z) ∧
  (G 31 1 = nI n ∧ G 47 6 = nI n ∧ n ≤ 120 ∧ ∀ j, j < n → G 32 j = T j ∧ G 52 j = T j) ∧
  ∀ k, k < 7 → G 46 k = G 51 k
def LR (G : GG) : Prop := ∃ (μ κ B Z N T : MU) (n : Nat), LRp G μ κ B Z N T n
theorem SRM.fr {G G' : GG} {B Z N : MU} (h : SRM G B Z N) (h1 : G' 53 = G 53) (h2 : G' 54 = G 54) (h3 : G' 55 = G 55) : SRM G' B Z N := ⟨fun s hs => by rw [h1, h2]; exact h.1 s hs, fun j hj => by rw [h3]; exact h.2 j hj⟩
theorem SR.fr {G G' : GG} {B Z N : MU} (h : SR G B Z N) (hc : ∀ c, 38 ≤ c → c < 46 → G' c = G c) : SR G' B Z N := fun s hs => by
  obtain ⟨h1, h2, h3⟩ := h s hs
  refine ⟨?_, ?_, fun j hj => ?_⟩
  · rw [hc _ (by omega) (by omega)]; exact h1
  · rw [hc _ (by omega) (by omega)]; exact h2
  · rw [hc _ (by omega) (by omega)]; exact h3 j hj
theorem LRp.fr {G G' : GG} {μ ν κ B Z N T : MU} {n : Nat} (h : LRp G μ κ B Z N T n) (hc : ∀ c, 20 ≤ c → ¬ c = 46 → ¬ c = 48 → ¬ c = 50 → ¬ c = 51 → G' c = G c) (hf : ∀ k, k < 7 → G' 46 k = G' 51 k) (h1 : CR G' 0 ν ∧ MR G' ν ∧ Inv 99999 ν ∧ SpI ν) : LRp G' ν κ B Z N T n := by
  obtain ⟨-, hk, ⟨s1, s2, s3⟩, ⟨t1, t2, t3, t4⟩, -⟩ := h
  have c30 := hc 30 (by decide) (by decide) (by decide) (by decide) (by decide)
  have c47 := hc 47 (by decide) (by decide) (by decide) (by decide) (by decide)
  have c31 := hc 31 (by decide) (by decide) (by decide) (by decide) (by decide)
  have c32 := hc 32 (by decide) (by decide) (by decide) (by decide) (by decide)
  have c52 := hc 52 (by decide) (by decide) (by decide) (by decide) (by decide)
  have c49 := hc 49 (by decide) (by decide) (by decide) (by decide) (by decide)
  refine ⟨h1, ?_, ⟨s1.fr (fun c a1 a2 => hc c (by omega) (by omega) (by omega) (by omega) (by omega)), s2.fr (hc 53 (by decide) (by decide) (by decide) (by decide) (by decide)) (hc 54 (by decide) (by decide) (by decide) (by decide) (by decide)) (hc 55 (by decide) (by decide) (by decide) (by decide) (by decide)), s3⟩, ⟨by rw [c31]; exact t1, by rw [c47]; exact t2, t3, fun j hj => by rw [c32, c52]; exact t4 j hj⟩, hf⟩
  rw [c30, c47]
  rcases hk with hk | ⟨k1, k2, k3, k4, k5, k6⟩
  · exact Or.inl hk
  · exact Or.inr ⟨k1, k2, k3.bl (fun x hx => hc x (by omega) (by omega) (by omega) (by omega) (by omega)), fun k q => by rw [c49]; exact k4 k q, k5, k6⟩
theorem co_c {G G1 : GG} {μ : MU} {o : OUT} {x : Int32} (h : CO G μ o x G1) : ∀ c, 20 ≤ c → ¬ c = 46 → G1 c = G c := fun c a1 a2 => by
  match o, h with
  | .inl k, h => exact h.2.2.2 c a1 a2
  | .inr q, h => exact h.2.2 c a1
theorem co_mr {G G1 : GG} {μ ν : MU} {o : OUT} {x : Int32} (h : CO G μ o x G1) (hM : MR G ν) : MR G1 ν := hM.fr (co_c h 48 (by decide) (by decide))
theorem lr_o {G G1 G2 : GG} {μ κ B Z N T : MU} {n : Nat} {o : OUT} {x y : Int32} (h : LRp G μ κ B Z N T n) (h1 : CO G μ o x G1) (h2 : MOut G1 μ o y G2) (hI : ∀ w ν, o = .inr (w, ν) → Inv 99999 ν ∧ SpI ν) : x = y ∧ LR G2 := by
  have hc1 := co_c h1
  match o, h1, h2, hI with
  | .inl k, h1, h2, hI =>
    obtain ⟨a1, a2, a3, a4⟩ := h1
    obtain ⟨b1, b2, b3, b4⟩ := h2
    refine ⟨a1.trans b1.symm, μ, κ, B, Z, N, T, n, h.fr (fun c q1 q2 q3 q4 q5 => (b4 c q3 q4 q5).trans (a4 c q1 q2)) (fun j hj => ?_) ⟨a2.bl (fun c q => b4 c (by omega) (by omega) (by omega)), b2, h.1.2.2⟩⟩
    rw [b4 46 (by decide) (by decide) (by decide), a3, b3, a4 51 (by decide) (by decide)]
    by_cases e : j = k
    · subst e; rw [upd_eq, upd_eq, h.2.2.2.2 j hj]
    · rw [upd_ne e, upd_ne e]; exact h.2.2.2.2 j hj
  | .inr (w, ν), h1, h2, hI =>
    obtain ⟨a1, a2, a4⟩ := h1
    obtain ⟨b1, b2, b4⟩ := h2
    refine ⟨a1.trans b1.symm, ν, κ, B, Z, N, T, n, h.fr (fun c q1 q2 q3 q4 q5 => (b4 c q3 q4).trans (a4 c q1)) (fun j hj => ?_) ⟨a2.bl (fun c q => b4 c (by omega) (by omega)), b2, hI w ν rfl⟩⟩
    rw [b4 46 (by decide) (by decide), b4 51 (by decide) (by decide), a4 46 (by decide), a4 51 (by decide)]
    exact h.2.2.2.2 j hj
/-! what a call leaves is a child's state again -/
theorem nn_ix {x : Int32} {n : Nat} (hn : n < 2 ^ 31) (h : nI 0 ≤ x ∧ x ≤ nI n) : nn x n := ⟨cl x, (ix_of hn h).1, (ix_of hn h).2⟩
theorem SpI.eq {μ ν : MU} (h : SpI μ) (h8 : ν 8 = μ 8) (hs : ∀ k, k < 10 → ν (70 + k) = μ (70 + k)) : SpI ν := fun k hk => by
  rw [hs k hk]
  unfold tsB
  rw [h8]
  exact h k hk
theorem SpI.lo {μ : MU} (h : SpI μ) {k : Nat} (hk : k < 70) (h8 : ¬ k = 8) {x : Int32} : SpI (upd μ k x) := h.eq (upd_ne (by omega)) (fun j _ => upd_ne (by omega))
theorem SpI.gr {b b' : Nat} {μ ν : MU} (h : SpI μ) (hV : Inv b μ) (hW : Inv b' ν) (h8 : cl (μ 8) ≤ cl (ν 8)) (hs : ∀ k, k < 10 → ν (70 + k) = μ (70 + k)) : SpI ν := fun k hk => by
  rw [hs k hk]
  rcases h k hk with q | q
  · exact Or.inl q
  · obtain ⟨n, t, hn, ht, e8, ev⟩ := (ts_of hV).mp q
    obtain ⟨n', hn', e8'⟩ := hW.2.2.1
    rw [e8, e8', cl_nI (by omega), cl_nI (by omega)] at h8
    exact Or.inr ((ts_of hW).mpr ⟨n', t, hn', by omega, e8', ev⟩)
theorem srv_k {μ : MU} {b t k : Nat} (hV : Inv b μ) (ht : t < 10) (hk : k = 8 ∨ (70 ≤ k ∧ k < 80)) : (srvF μ t).2 k = μ k := by
  have hf := (hV.fd ht).1
  unfold srvF
  show upd _ _ _ k = _
  rw [upd_ne (by omega)]
  unfold srvP
  split
  · next q =>
    have hp := (hV.pd q.2).1
    rw [upd_ne (by omega)]
    unfold srvL
    rw [upd_ne (by omega)]
    exact srv_z (by omega)
  · unfold srvL
    rw [upd_ne (by omega)]
    exact srv_z (by omega)
theorem mealE_k {μ : MU} {e : Int32} {k : Nat} (hk : k = 8 ∨ (70 ≤ k ∧ k < 80)) : mealE μ e k = μ k := by
  unfold mealE
  rw [upd_ne (by omega), upd_ne (by omega)]
  unfold shf
  rw [if_neg (by omega), if_neg (by omega), upd_ne (by omega), upd_ne (by omega)]
theorem go_k {μ : MU} {b k : Nat} (hV : Inv b μ) (hk : k = 8 ∨ (70 ≤ k ∧ k < 80)) : ∀ n, b + n < 2 ^ 29 → (goF μ n).2 k = μ k
  | 0, _ => rfl
  | n + 1, hn => by
    have ih := go_k hV hk n (by omega)
    have hVn := hV.go n (by omega)
    show (mealF (goF μ n).2 (servN (goF μ n).2)).2 k = μ k
    cases hs : servN (goF μ n).2 with
    | none => exact (mealE_k (μ := (goF μ n).2) (e := nI 0) hk).trans ih
    | some t => exact ((mealE_k (μ := (srvF (goF μ n).2 t).2) (e := (srvF (goF μ n).2 t).1) hk).trans (srv_k hVn (servN_lt hVn (by omega) t hs) hk)).trans ih
theorem ch_k {μ : MU} {f t j : Nat} (hj : ¬ j = 1) : ∀ k, (chF μ f t k).2 j = μ j
  | 0 => rfl
  | k + 1 => (upd_ne hj).trans (ch_k hj k)
theorem fs_lt {P : Nat → Bool} : ∀ (m k : Nat), gdN (fsF P m) m = k → k ≤ m ∧ ∀ j, j < k → P j = false
  | 0, k, h => by
    have : k = 0 := h.symm
    subst this
    exact ⟨Nat.le_refl _, fun j hj => absurd hj (by omega)⟩
  | m + 1, k, h => by
    simp only [fsF] at h
    cases hq : fsF P m with
    | some n =>
      rw [hq] at h
      have hn : gdN (fsF P m) m = k := by rw [hq]; exact h
      have := fs_lt m k hn
      exact ⟨by omega, this.2⟩
    | none =>
      rw [hq] at h
      have h0 := fs_lt (P := P) m m (by rw [hq]; rfl)
      by_cases hp : P m = true
      · simp only [hp, if_true] at h
        have e : m = k := h
        subst e
        exact ⟨by omega, h0.2⟩
      · simp only [hp] at h
        have e : m + 1 = k := h
        subst e
        refine ⟨Nat.le_refl _, fun j hj => ?_⟩
        by_cases e : j = m
        · subst e; simpa using hp
        · exact h0.2 j (by omega)
theorem Inv.ld {b : Nat} {μ N : MU} (h : Inv b μ) {s : Nat} : ∀ (k : Nat), k ≤ 10 → (∀ j, j < k → ldP N s j = false) → Inv b (ldM μ N s k)
  | 0, _, _ => h
  | k + 1, hk, hp => by
    unfold ldM
    refine (h.ld k (by omega) (fun j hj => hp j (by omega))).like (by omega) (nn_ix (by decide) ?_)
    have := of_decide_eq_false (hp k (by omega))
    exact Decidable.not_not.mp this
theorem iv_food {μ : MU} (hV : Inv 99999 μ) (hSp : SpI μ) (f w u : Int32) : ∀ r ν, oFood μ f w u = .inr (r, ν) → Inv 99999 ν ∧ SpI ν := by
  intro r ν h
  unfold oFood at h
  split at h
  · next q =>
    cases h
    have hf := (ix_of (by decide) q.1).1
    rcases q.2 with ⟨e, z⟩ | ⟨e, z⟩
    · rw [show cl w = 0 by rw [e]; exact cl_nI (by decide)]
      exact ⟨hV.like (by omega) (nn_ix (by decide) z), hSp.lo (by omega) (by omega)⟩
    · rw [show cl w = 1 by rw [e]; exact cl_nI (by decide), show 10 + 3 * cl f + 1 = 11 + 3 * cl f by omega]
      exact ⟨hV.bit (by omega) (nn_ix (by decide) z), hSp.lo (by omega) (by omega)⟩
  · cases h
theorem iv_child {μ : MU} (hV : Inv 99999 μ) (hSp : SpI μ) (w u : Int32) : ∀ r ν, oChild μ w u = .inr (r, ν) → Inv 99999 ν ∧ SpI ν := by
  intro r ν h
  unfold oChild at h
  split at h
  · next q =>
    cases h
    obtain ⟨j, hj, e⟩ := part_of q
    subst e
    obtain ⟨e1, e2, e3, e4⟩ := plo_e hj
    rw [e1, e2] at q
    have hu : nn u (phi j) := nn_ix (by omega) ⟨Int32.le_trans (nI_le (Nat.zero_le _) (by omega)) q.1, q.2⟩
    rw [cl_nI (by omega)]
    match j, hj, hu with
    | 0, _, hu => exact ⟨hV.bent hu, hSp.lo (by omega) (by omega)⟩
    | 1, _, hu => exact ⟨hV.hun hu, hSp.lo (by omega) (by omega)⟩
    | 2, _, hu => exact ⟨hV.wei hu, hSp.lo (by omega) (by omega)⟩
    | 3, _, hu => exact ⟨hV.line hu, hSp.lo (by omega) (by omega)⟩
  · cases h
theorem iv_pud {μ : MU} (hV : Inv 99999 μ) (hSp : SpI μ) (f : Int32) : ∀ r ν, oPud μ f = .inr (r, ν) → Inv 99999 ν ∧ SpI ν := by
  intro r ν h
  unfold oPud at h
  split at h
  · next q =>
    cases h
    exact ⟨hV.pud (q.imp id (nn_ix (by decide))), hSp.lo (by omega) (by omega)⟩
  · cases h
theorem iv_fri {μ : MU} (hV : Inv 99999 μ) (hSp : SpI μ) (f : Int32) : ∀ r ν, oFri μ f = .inr (r, ν) → Inv 99999 ν ∧ SpI ν := by
  intro r ν h
  unfold oFri at h
  split at h
  · next q =>
    cases h
    exact ⟨hV.fri (nn_ix (by decide) q), hSp.lo (by omega) (by omega)⟩
  · cases h
theorem add_sp {μ : MU} {n : Nat} {k f p : Int32} (hn : n < 10) {j : Nat} (hj : j < 10) : addM μ n k f p (70 + j) = μ (70 + j) := by
  unfold addM
  rw [upd_ne (by omega), upd_ne (by omega), upd_ne (by omega), upd_ne (by omega)]
theorem iv_taste {μ : MU} (hV : Inv 99999 μ) (hSp : SpI μ) (k f p : Int32) : ∀ r ν, oTaste μ k f p = .inr (r, ν) → Inv 99999 ν ∧ SpI ν := by
  intro r ν h
  obtain ⟨m, hm1, hm⟩ := hV.2.2.1
  unfold oTaste at h
  split at h
  · next q =>
    split at h
    · cases h
    · next q2 =>
      cases h
      have hm10 : m < 10 := by
        rcases Nat.lt_or_ge m 10 with z | z
        · exact z
        · exact absurd (by rw [hm, show m = 10 by omega]) q2
      rw [hm, cl_nI (by omega)]
      have hA := hV.add hm10 (nn_ix (by decide) q.1) (nn_ix (by decide) q.2.1) (nn_ix (by decide) (le_01 q.2.2))
      refine ⟨hA, hSp.gr hV hA ?_ (fun j hj => add_sp hm10 hj)⟩
      rw [hm, cl_nI (by omega), show addM μ m k f p 8 = nI (m + 1) from upd_eq, cl_nI (by omega)]
      omega
  · cases h
theorem iv_change {μ : MU} (hV : Inv 99999 μ) (hSp : SpI μ) (t w u : Int32) : ∀ r ν, oChange μ t w u = .inr (r, ν) → Inv 99999 ν ∧ SpI ν := by
  intro r ν h
  unfold oChange at h
  split at h
  · next q =>
    cases h
    obtain ⟨n, a, hn, ha, hs, rfl⟩ := (ts_of hV).mp q.1
    obtain ⟨j, hj, e⟩ := trait_of q.2
    subst e
    have q2 := q.2
    rw [low_eq hj, top_eq hj] at q2
    have hl := lh_le hj
    obtain ⟨u1, u2, u3⟩ := ix1_of (by omega) (by omega) q2
    rw [cl_nI (by omega), cl_nI (by omega), u3]
    exact ⟨hV.row (by omega) hj u1 u2, hSp.lo (by omega) (by omega)⟩
  · cases h
theorem iv_swap {μ : MU} (hV : Inv 99999 μ) (hSp : SpI μ) (x y : Int32) : ∀ r ν, oSwap μ x y = .inr (r, ν) → Inv 99999 ν ∧ SpI ν := by
  intro r ν h
  unfold oSwap at h
  split at h
  · next q =>
    cases h
    obtain ⟨n, a, hn, ha, hs, rfl⟩ := (ts_of hV).mp q.1
    obtain ⟨n', c, hn', hc, hs', rfl⟩ := (ts_of hV).mp q.2
    rw [cl_nI (by omega), cl_nI (by omega)]
    refine ⟨hV.sw (by omega) (by omega), hSp.eq ?_ (fun j hj => ?_)⟩
    · unfold swM
      rw [swS_ne (by omega) (by omega), swS_ne (by omega) (by omega), swS_ne (by omega) (by omega)]
    · unfold swM
      rw [swS_ne (by omega) (by omega), swS_ne (by omega) (by omega), swS_ne (by omega) (by omega)]
  · cases h
theorem iv_drop {μ : MU} (hV : Inv 99999 μ) (hSp : SpI μ) : ∀ r ν, oDrop μ = .inr (r, ν) → Inv 99999 ν ∧ SpI ν := by
  intro r ν h
  obtain ⟨s, hs, es⟩ := hV.2.2.1
  unfold oDrop at h
  split at h
  · cases h
  · next q =>
    cases h
    have h0 : 0 < s := Nat.pos_of_ne_zero (fun z => q (by rw [es, z]))
    rw [es, cl_nI (by omega)]
    have hI : Inv 99999 (fsM (upd μ 8 (nI (s - 1))) (s - 1) 10) := (hV.size (by omega)).fs 10 (by decide)
    refine ⟨hI, fun k hk => ?_⟩
    rw [fsM_in 10 (70 + k) (by omega) (by omega), upd_ne (by omega)]
    by_cases z : μ (70 + k) = nI (s - 1)
    · rw [if_pos z]; exact Or.inl rfl
    · rw [if_neg z]
      rcases hSp k hk with y | y
      · exact Or.inl y
      · obtain ⟨n, t, hn, ht, e8, ev⟩ := (ts_of hV).mp y
        have hns : n = s := (nI_eq (by omega) (by omega)).mp (e8.symm.trans es)
        refine Or.inr ((ts_of hI).mpr ⟨s - 1, t, by omega, ?_, (fsM_ne 10 8 (by omega)).trans upd_eq, ev⟩)
        have : ¬ t = s - 1 := fun w => z (by rw [ev, w])
        omega
theorem iv_meals {μ : MU} (hV : Inv 99999 μ) (hSp : SpI μ) (x : Int32) : ∀ r ν, oMeals μ x = .inr (r, ν) → Inv 99999 ν ∧ SpI ν := by
  intro r ν h
  unfold oMeals at h
  split at h
  · next q =>
    split at h
    · cases h
    · next q2 =>
      obtain ⟨m, hm1, hm2, hm3⟩ := hV.1
      obtain ⟨x0, x1, xe⟩ := ix1_of (by decide) (by decide) q
      have hmx : m + cl x ≤ 99999 := by
        rw [xe, hm2, past_iff (by omega) (by omega)] at q2
        omega
      have hVm : Inv m μ := ⟨⟨m, Nat.le_refl _, hm2, hm3⟩, hV.2⟩
      have e := Sum.inr.inj h
      have e2 : ν = (goF μ (cl x)).2 := (congrArg Prod.snd e).symm
      rw [e2]
      exact ⟨(hVm.go (cl x) (by omega)).le hmx, hSp.eq (go_k hVm (Or.inl rfl) _ (by omega)) (fun k hk => go_k hVm (by omega) _ (by omega))⟩
  · cases h
theorem iv_chance {μ : MU} (hV : Inv 99999 μ) (hSp : SpI μ) (x y z : Int32) : ∀ r ν, oChance μ x y z = .inr (r, ν) → Inv 99999 ν ∧ SpI ν := by
  intro r ν h
  unfold oChance at h
  split at h
  · split at h
    · cases h
    · have e2 : ν = (chF μ (cl x) (cl z) (cl y)).2 := (congrArg Prod.snd (Sum.inr.inj h)).symm
      rw [e2]
      exact ⟨ch_inv hV _ _ _, hSp.eq (ch_k (by decide) _) (fun k hk => ch_k (by omega) _)⟩
  · cases h
theorem iv_seed {μ : MU} (hV : Inv 99999 μ) (hSp : SpI μ) (x : Int32) : ∀ r ν, (.inr (μ 1, upd μ 1 x) : OUT) = .inr (r, ν) → Inv 99999 ν ∧ SpI ν := by
  intro r ν h
  cases h
  exact ⟨hV.z, hSp.lo (by omega) (by omega)⟩
theorem iv_liked {μ : MU} (hV : Inv 99999 μ) (hSp : SpI μ) : ∀ r ν, (.inr (lsF μ 10, μ) : OUT) = .inr (r, ν) → Inv 99999 ν ∧ SpI ν := by
  intro r ν h
  cases h
  exact ⟨hV, hSp⟩
theorem iv_hold {μ : MU} (hV : Inv 99999 μ) (hSp : SpI μ) (x y : Int32) : ∀ r ν, oHold μ x y = .inr (r, ν) → Inv 99999 ν ∧ SpI ν := by
  intro r ν h
  unfold oHold at h
  split at h
  · next q =>
    cases h
    have hx := (ix_of (by decide) q.1).1
    refine ⟨hV.spo (by omega), fun k hk => ?_⟩
    unfold tsB
    rw [show upd μ (70 + cl x) y 8 = μ 8 from upd_ne (by omega)]
    by_cases e : k = cl x
    · subst e; rw [upd_eq]; exact q.2
    · rw [upd_ne (by omega)]; exact hSp k hk
  · cases h
theorem iv_load {μ : MU} (hV : Inv 99999 μ) (hSp : SpI μ) (B Z N : MU) (x : Int32) : ∀ r ν, oLoad μ B Z N x = .inr (r, ν) → Inv 99999 ν ∧ SpI ν := by
  intro r ν h
  unfold oLoad at h
  split at h
  · split at h
    · cases h
    · cases h
      have hk := fs_lt (P := ldP N (cl x)) (min (cl (Z (cl x))) 10) (ldK Z N (cl x)) rfl
      exact ⟨hV.ld _ (by have := hk.1; omega) hk.2, hSp.eq (ld_ne _ _ (fun f _ => by omega)) (fun j hj => ld_ne _ _ (fun f hf => by have := hk.1; omega))⟩
  · cases h
