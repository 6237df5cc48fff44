/-! where the law begins: the 56 cells, the constants of the machine -/
def mG : Nat → Int32 := (upd (upd (upd (upd (upd (upd (upd (upd (upd (upd (upd (upd (upd (upd (upd (upd (upd (upd (upd (upd (upd (upd (upd (upd (upd (upd zf 1 (nI 1)) 2 (nI 3)) 3 (nI 40)) 4 (nI 1500)) 5 (nI 50)) 6 (-1)) 10 (nI 20)) 13 (nI 20)) 16 (nI 20)) 19 (nI 20)) 22 (nI 20)) 25 (nI 20)) 28 (nI 20)) 31 (nI 20)) 34 (nI 20)) 37 (nI 20)) 70 (-1)) 71 (-1)) 72 (-1)) 73 (-1)) 74 (-1)) 75 (-1)) 76 (-1)) 77 (-1)) 78 (-1)) 79 (-1))
def chG : Nat → Int32 := fun k => if k = 3 then nI 3 else if k = 4 then nI 40 else if k = 5 then nI 1500 else if k = 6 then nI 50 else if k = 7 then -1 else if k = 12 then nI 1 else nI 0
def gt0 : List (Nat → Int32) := [chG, flF 10 (nI 20) zf, zf, zf, (fun _ => nI 0), zf, zf, zf, zf, flF 10 (-1) zf, chG, flF 10 (nI 20) zf, zf, zf, (fun _ => nI 0), zf, zf, zf, zf, flF 10 (-1) zf, chG, flF 10 (nI 20) zf, zf, zf, (fun _ => nI 0), zf, zf, zf, zf, flF 10 (-1) zf, (fun _ => nI 0), (fun _ => nI 0), zf, zf, zf, zf, zf, zf, (fun _ => nI 0), zf, (fun _ => nI 0), zf, (fun _ => nI 0), zf, (fun _ => nI 0), zf, zf, zf, mG, zf, zf, zf, zf, zf, zf, zf]
def G0 : GG := fun c => gt0.getD c zf
def gadF (uA uB : Nat → Nat) : Nat → Nat := fun c => if c < 30 then uA (1 + c) else if c = 30 then uA 0 else if c < 47 then uA c else uB (c - 47)
def GamOf (D : va_G) (cI cS : ClassId) (ka : Nat) (K V : Nat → Nat) (uA uB : Nat → Nat) : Gam := (gadF uA uB, D, cI, cS, ka, K, V)
def posc (c : Nat) : Nat := if c < 30 then 1 + c else if c = 30 then 0 else c
theorem arrV_cg {cA : ClassId} {n : Nat} {f g : Nat → Value} (h : ∀ j, j < n → f j = g j) : arrV cA n f = arrV cA n g := by
  unfold arrV
  congr 1
  exact congrArg Array.ofFn (funext (fun j => h j.val j.isLt))
set_option maxRecDepth 100000 in
set_option maxHeartbeats 8000000 in
theorem ws_cw {D : va_G} {cI cS : ClassId} {ka : Nat} {K V : Nat → Nat} {uA uB : Nat → Nat} {H : Heap} (hP : va_P D vwCl (appW cI cS uA ++ refW cI uB) H) : va_P D vwCl (cw (GamOf D cI cS ka K V uA uB) G0) H := by
  intro c q hq
  have hc : c < 56 := by
    have := (List.getElem?_eq_some_iff.mp hq).1
    simpa [cw] using this
  rw [cw_at hc] at hq
  cases hq
  rcases (show c = 0 ∨ c = 1 ∨ c = 2 ∨ c = 3 ∨ c = 4 ∨ c = 5 ∨ c = 6 ∨ c = 7 ∨ c = 8 ∨ c = 9 ∨ c = 10 ∨ c = 11 ∨ c = 12 ∨ c = 13 ∨ c = 14 ∨ c = 15 ∨ c = 16 ∨ c = 17 ∨ c = 18 ∨ c = 19 ∨ c = 20 ∨ c = 21 ∨ c = 22 ∨ c = 23 ∨ c = 24 ∨ c = 25 ∨ c = 26 ∨ c = 27 ∨ c = 28 ∨ c = 29 ∨ c = 30 ∨ c = 31 ∨ c = 32 ∨ c = 33 ∨ c = 34 ∨ c = 35 ∨ c = 36 ∨ c = 37 ∨ c = 38 ∨ c = 39 ∨ c = 40 ∨ c = 41 ∨ c = 42 ∨ c = 43 ∨ c = 44 ∨ c = 45 ∨ c = 46 ∨ c = 47 ∨ c = 48 ∨ c = 49 ∨ c = 50 ∨ c = 51 ∨ c = 52 ∨ c = 53 ∨ c = 54 ∨ c = 55 by omega) with rfl | rfl | rfl | rfl | rfl | rfl | rfl | rfl | rfl | rfl | rfl | rfl | rfl | rfl | rfl | rfl | rfl | rfl | rfl | rfl | rfl | rfl | rfl | rfl | rfl | rfl | rfl | rfl | rfl | rfl | rfl | rfl | rfl | rfl | rfl | rfl | rfl | rfl | rfl | rfl | rfl | rfl | rfl | rfl | rfl | rfl | rfl | rfl | rfl | rfl | rfl | rfl | rfl | rfl | rfl | rfl
  · exact hP 1 _ rfl
  · exact hP 2 _ rfl
  · exact hP 3 _ rfl
  · exact hP 4 _ rfl
  · exact hP 5 _ rfl
  · exact hP 6 _ rfl
  · exact hP 7 _ rfl
  · exact hP 8 _ rfl
  · exact hP 9 _ rfl
  · exact hP 10 _ rfl
  · exact hP 11 _ rfl
  · exact hP 12 _ rfl
  · exact hP 13 _ rfl
  · exact hP 14 _ rfl
  · exact hP 15 _ rfl
  · exact hP 16 _ rfl
  · exact hP 17 _ rfl
  · exact hP 18 _ rfl
  · exact hP 19 _ rfl
  · exact hP 20 _ rfl
  · exact hP 21 _ rfl
  · exact hP 22 _ rfl
  · exact hP 23 _ rfl
  · exact hP 24 _ rfl
  · exact hP 25 _ rfl
  · exact hP 26 _ rfl
  · exact hP 27 _ rfl
  · exact hP 28 _ rfl
  · exact hP 29 _ rfl
  · exact hP 30 _ rfl
  · exact hP 0 _ rfl
  · exact hP 31 _ rfl
  · exact hP 32 _ rfl
  · exact hP 33 _ rfl
  · exact hP 34 _ rfl
  · exact hP 35 _ rfl
  · exact hP 36 _ rfl
  · have h : H[uA 37]? = some (arrV cS 4 (fun j => va_rf ((va_up (va_up (va_up (va_up (fun _ => none) 0 (some (uA 38))) 1 (some (uA 40))) 2 (some (uA 42))) 3 (some (uA 44))) j))) := hP 37 (uA 37, .inl (cS, 4, .inr (.inr (.inr (.inr (va_up (va_up (va_up (va_up (fun _ => none) 0 (some (uA 38))) 1 (some (uA 40))) 2 (some (uA 42))) 3 (some (uA 44)))))))) rfl
    show H[uA 37]? = some (arrV cS 4 (fun j => va_rf (some (gadF uA uB (38 + 2 * j)))))
    rw [h]
    refine congrArg some (arrV_cg (fun j hj => ?_))
    match j, hj with
    | 0, _ => rfl
    | 1, _ => rfl
    | 2, _ => rfl
    | 3, _ => rfl
  · exact hP 38 _ rfl
  · exact hP 39 _ rfl
  · exact hP 40 _ rfl
  · exact hP 41 _ rfl
  · exact hP 42 _ rfl
  · exact hP 43 _ rfl
  · exact hP 44 _ rfl
  · exact hP 45 _ rfl
  · exact hP 46 _ rfl
  · exact hP 47 _ rfl
  · exact hP 48 _ rfl
  · exact hP 49 _ rfl
  · exact hP 50 _ rfl
  · exact hP 51 _ rfl
  · exact hP 52 _ rfl
  · exact hP 53 _ rfl
  · exact hP 54 _ rfl
  · exact hP 55 _ rfl
set_option maxRecDepth 100000 in
set_option maxHeartbeats 8000000 in
theorem ws_at {cI cS : ClassId} {uA uB : Nat → Nat} {c : Nat} (hc : c < 56) : ∃ e : va_E, (appW cI cS uA ++ refW cI uB)[posc c]? = some (gadF uA uB c, e) := by
  rcases (show c = 0 ∨ c = 1 ∨ c = 2 ∨ c = 3 ∨ c = 4 ∨ c = 5 ∨ c = 6 ∨ c = 7 ∨ c = 8 ∨ c = 9 ∨ c = 10 ∨ c = 11 ∨ c = 12 ∨ c = 13 ∨ c = 14 ∨ c = 15 ∨ c = 16 ∨ c = 17 ∨ c = 18 ∨ c = 19 ∨ c = 20 ∨ c = 21 ∨ c = 22 ∨ c = 23 ∨ c = 24 ∨ c = 25 ∨ c = 26 ∨ c = 27 ∨ c = 28 ∨ c = 29 ∨ c = 30 ∨ c = 31 ∨ c = 32 ∨ c = 33 ∨ c = 34 ∨ c = 35 ∨ c = 36 ∨ c = 37 ∨ c = 38 ∨ c = 39 ∨ c = 40 ∨ c = 41 ∨ c = 42 ∨ c = 43 ∨ c = 44 ∨ c = 45 ∨ c = 46 ∨ c = 47 ∨ c = 48 ∨ c = 49 ∨ c = 50 ∨ c = 51 ∨ c = 52 ∨ c = 53 ∨ c = 54 ∨ c = 55 by omega) with rfl | rfl | rfl | rfl | rfl | rfl | rfl | rfl | rfl | rfl | rfl | rfl | rfl | rfl | rfl | rfl | rfl | rfl | rfl | rfl | rfl | rfl | rfl | rfl | rfl | rfl | rfl | rfl | rfl | rfl | rfl | rfl | rfl | rfl | rfl | rfl | rfl | rfl | rfl | rfl | rfl | rfl | rfl | rfl | rfl | rfl | rfl | rfl | rfl | rfl | rfl | rfl | rfl | rfl | rfl | rfl
  · exact ⟨_, rfl⟩
  · exact ⟨_, rfl⟩
  · exact ⟨_, rfl⟩
  · exact ⟨_, rfl⟩
  · exact ⟨_, rfl⟩
  · exact ⟨_, rfl⟩
  · exact ⟨_, rfl⟩
  · exact ⟨_, rfl⟩
  · exact ⟨_, rfl⟩
  · exact ⟨_, rfl⟩
  · exact ⟨_, rfl⟩
  · exact ⟨_, rfl⟩
  · exact ⟨_, rfl⟩
  · exact ⟨_, rfl⟩
  · exact ⟨_, rfl⟩
  · exact ⟨_, rfl⟩
  · exact ⟨_, rfl⟩
  · exact ⟨_, rfl⟩
  · exact ⟨_, rfl⟩
  · exact ⟨_, rfl⟩
  · exact ⟨_, rfl⟩
  · exact ⟨_, rfl⟩
  · exact ⟨_, rfl⟩
  · exact ⟨_, rfl⟩
  · exact ⟨_, rfl⟩
  · exact ⟨_, rfl⟩
  · exact ⟨_, rfl⟩
  · exact ⟨_, rfl⟩
  · exact ⟨_, rfl⟩
  · exact ⟨_, rfl⟩
  · exact ⟨_, rfl⟩
  · exact ⟨_, rfl⟩
  · exact ⟨_, rfl⟩
  · exact ⟨_, rfl⟩
  · exact ⟨_, rfl⟩
  · exact ⟨_, rfl⟩
  · exact ⟨_, rfl⟩
  · exact ⟨_, rfl⟩
  · exact ⟨_, rfl⟩
  · exact ⟨_, rfl⟩
  · exact ⟨_, rfl⟩
  · exact ⟨_, rfl⟩
  · exact ⟨_, rfl⟩
  · exact ⟨_, rfl⟩
  · exact ⟨_, rfl⟩
  · exact ⟨_, rfl⟩
  · exact ⟨_, rfl⟩
  · exact ⟨_, rfl⟩
  · exact ⟨_, rfl⟩
  · exact ⟨_, rfl⟩
  · exact ⟨_, rfl⟩
  · exact ⟨_, rfl⟩
  · exact ⟨_, rfl⟩
  · exact ⟨_, rfl⟩
  · exact ⟨_, rfl⟩
  · exact ⟨_, rfl⟩
theorem ws_ad {D : va_G} {cI cS : ClassId} {ka : Nat} {K V : Nat → Nat} {uA uB : Nat → Nat} {A : Nat → Prop} (hD : va_D A (appW cI cS uA ++ refW cI uB)) : gInj (GamOf D cI cS ka K V uA uB) ∧ ∀ c, c < 56 → A (gad (GamOf D cI cS ka K V uA uB) c) := by
  refine ⟨fun i j hi hj e => ?_, fun c hc => ?_⟩
  · obtain ⟨a, ha⟩ := ws_at (cI := cI) (cS := cS) (uA := uA) (uB := uB) hi
    obtain ⟨b, hb⟩ := ws_at (cI := cI) (cS := cS) (uA := uA) (uB := uB) hj
    have h := hD.1 _ _ _ _ ha hb e
    unfold posc at h
    split at h <;> split at h <;> (try split at h) <;> (try split at h) <;> omega
  · obtain ⟨a, ha⟩ := ws_at (cI := cI) (cS := cS) (uA := uA) (uB := uB) hc
    exact hD.2 _ _ ha
/-! the first state -/
set_option maxRecDepth 100000 in
set_option maxHeartbeats 8000000 in
theorem CR_0 : CR G0 0 mG := by
  refine ⟨by decide +kernel, ?_, ?_, ?_, ?_⟩
  · have key : ∀ f, f < 10 → G0 (ch 0 1) f = mG (10 + 3 * f) ∧ G0 (ch 0 2) f = mG (11 + 3 * f) ∧ G0 (ch 0 3) f = mG (12 + 3 * f) := by decide +kernel
    exact key
  · have key : ∀ t, t < 10 → G0 (ch 0 5) t = mG (40 + 3 * t) ∧ G0 (ch 0 6) t = mG (41 + 3 * t) ∧ G0 (ch 0 7) t = mG (42 + 3 * t) := by decide +kernel
    exact key
  · have key : ∀ k, k < 10 → G0 (ch 0 9) k = mG (70 + k) := by decide +kernel
    exact key
  · have key : ∀ k, k < 35 → G0 (ch 0 8) (rix (cl (mG 0)) k) = mG (80 + k) := by decide +kernel
    exact key
theorem Inv_0 : Inv 99999 mG := by
  have k1 : ∀ f, f < 10 → ((nI 0 ≤ mG (10 + 3 * f) ∧ mG (10 + 3 * f) ≤ nI 99) ∧ (nI 0 ≤ mG (11 + 3 * f) ∧ mG (11 + 3 * f) ≤ nI 9) ∧ (nI 0 ≤ mG (12 + 3 * f) ∧ mG (12 + 3 * f) ≤ nI 999)) := by decide +kernel
  have k2 : ∀ f, f < 10 → ((nI 0 ≤ mG (40 + 3 * f) ∧ mG (40 + 3 * f) ≤ nI 6) ∧ (nI 0 ≤ mG (41 + 3 * f) ∧ mG (41 + 3 * f) ≤ nI 9) ∧ (nI 0 ≤ mG (42 + 3 * f) ∧ mG (42 + 3 * f) ≤ nI 20)) := by decide +kernel
  have k3 : ∀ f, f < 35 → (nI 0 ≤ mG (80 + f) ∧ mG (80 + f) ≤ nI 20) := by decide +kernel
  exact ⟨⟨0, by omega, by decide +kernel, by decide +kernel⟩, ⟨nn_ix (by decide) (by decide +kernel), nn_ix (by decide) (by decide +kernel), nn_ix (by decide) (by decide +kernel), nn_ix (by decide) (by decide +kernel), Or.inl (by decide +kernel), nn_ix (by decide) (by decide +kernel)⟩, ⟨0, by omega, by decide +kernel⟩, fun f hf => ⟨nn_ix (by decide) (k1 f hf).1, nn_ix (by decide) (k1 f hf).2.1, nn_ix (by decide) (k1 f hf).2.2⟩, fun f hf => ⟨nn_ix (by decide) (k2 f hf).1, nn_ix (by decide) (k2 f hf).2.1, nn_ix (by decide) (k2 f hf).2.2⟩, fun f hf => nn_ix (by decide) (k3 f hf)⟩
theorem LR_0 : LR G0 := by
  have k1 : ∀ k, k < 10 → mG (70 + k) = -1 := by decide +kernel
  have k2 : ∀ s, s < 4 → (G0 (38 + 2 * s) 1 = nI 0 ∧ G0 (38 + 2 * s) 2 = nI 0 ∧ ∀ j, j < 40 → G0 (38 + 2 * s + 1) j = nI 0) := by decide +kernel
  have k3 : ∀ s, s < 4 → (G0 53 s = nI 0 ∧ G0 54 s = nI 0) := by decide +kernel
  have k4 : ∀ j, j < 160 → G0 55 j = nI 0 := by decide +kernel
  exact ⟨mG, mG, fun _ => nI 0, fun _ => nI 0, fun _ => nI 0, zf, 0, ⟨CR_0, fun k hk => rfl, Inv_0, fun k hk => Or.inl (k1 k hk)⟩, Or.inl ⟨by decide +kernel, by decide +kernel⟩, ⟨fun s hs => k2 s hs, ⟨fun s hs => k3 s hs, fun j hj => k4 j hj⟩, fun s hs => nn_mk (by decide)⟩, ⟨by decide +kernel, by decide +kernel, Nat.zero_le _, fun j hj => absurd hj (by omega)⟩, fun k hk => rfl⟩
