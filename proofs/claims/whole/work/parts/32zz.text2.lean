/-! the class reads a text onto its trial child (block 1) -/
def FT1 (G G' : GG) : Prop := (∀ c, ¬ (10 ≤ c ∧ c < 20) → ¬ c = 31 → G' c = G c) ∧ ∀ j, ¬ j = 7 → G' 31 j = G 31 j
theorem FT1.rf {G : GG} : FT1 G G := ⟨fun _ _ _ => rfl, fun _ _ => rfl⟩
theorem FT1.tr {G G1 G2 : GG} (h1 : FT1 G G1) (h2 : FT1 G1 G2) : FT1 G G2 := ⟨fun c a b => (h2.1 c a b).trans (h1.1 c a b), fun j a => (h2.2 j a).trans (h1.2 j a)⟩
def TxS (G0 G : GG) (T : MU) (n c k : Nat) (μ : MU) : Prop := (TKR G T n c ∧ k ≤ c ∧ G 31 7 = nI k) ∧ CR G 1 μ ∧ FT1 G0 G
theorem TxS.mv {G0 G : GG} {T : MU} {n c k k' : Nat} {μ : MU} (h : TxS G0 G T n c k μ) (hk : k' ≤ c) : TxS G0 (up G 31 7 (nI k')) T n c k' μ :=
  ⟨⟨h.1.1.at _, hk, up_eq⟩, h.2.1.fr ((Fr.rf (i := 3)).up (j := 1) (by decide)) (by decide),
   ⟨fun x a b => (funext (fun j => up_ne (by omega))).trans (h.2.2.1 x a b), fun j a => (up_ne (by omega)).trans (h.2.2.2 j a)⟩⟩
theorem TxS.wr {G0 G G' : GG} {T : MU} {n c k : Nat} {μ ν : MU} (h : TxS G0 G T n c k μ) (hF : Fr 1 G G') (hC : CR G' 1 ν) : TxS G0 G' T n c k ν :=
  ⟨⟨h.1.1.fr (fun x a b => hF x (by omega)), h.1.2.1, by rw [hF 31 (by omega)]; exact h.1.2.2⟩, hC,
   ⟨fun x a b => (hF x (by omega)).trans (h.2.2.1 x a b), fun j a => by rw [hF 31 (by omega)]; exact h.2.2.2 j a⟩⟩
theorem TxS.k1 {G0 G : GG} {T : MU} {n c k : Nat} {μ : MU} (h : TxS G0 G T n c k μ) (hs : ¬ srt T n (pk T n k) = 0) : k + 1 ≤ c := h.1.1.lt h.1.2.1 hs
theorem nn_ge {z : Nat} (hz : z < 2 ^ 31) : (0 : Int32) ≤ nI z := by rw [← nI_0]; exact nI_le (Nat.zero_le _) hz
theorem TxS.tn1 {G0 G G' : GG} {T : MU} {n c k lo hi : Nat} {μ : MU} {v : Int32} (h : TxS G0 G T n c k μ)
    (p : match numF T n (pk T n k) lo hi with | some z => v = nI z ∧ G' = up G 31 7 (nI (k + 1)) | none => v = -1 ∧ G' = G) :
    (0 ≤ v → ∃ z, numF T n (pk T n k) lo hi = some z ∧ v = nI z ∧ z ≤ hi ∧ TxS G0 G' T n c (k + 1) μ) ∧ (¬ 0 ≤ v → numF T n (pk T n k) lo hi = none ∧ TxS G0 G' T n c k μ) := by
  cases hz : numF T n (pk T n k) lo hi with
  | some z =>
    rw [hz] at p
    obtain ⟨a1, a2, a3, a4⟩ := numF_some hz
    have hv := val_le (T := T) (n := n) (p := pk T n k)
    refine ⟨fun _ => ⟨z, rfl, p.1, a4, ?_⟩, fun q => absurd (by rw [p.1]; exact nn_ge (by omega)) q⟩
    rw [p.2]
    exact h.mv (h.k1 (by rw [a1]; decide))
  | none =>
    rw [hz] at p
    refine ⟨fun q => absurd q (by rw [p.1]; decide +kernel), fun _ => ⟨rfl, ?_⟩⟩
    rw [p.2]
    exact h
theorem TxS.tn2 {G0 G G' : GG} {T : MU} {n c k lo hi : Nat} {μ : MU} {v : Int32} (h : TxS G0 G T n c k μ) (hs : ¬ srt T n (pk T n k) = 0)
    (p : match numF T n (pk T n (k + 1)) lo hi with | some z => v = nI z ∧ G' = up (up G 31 7 (nI (k + 1))) 31 7 (nI (k + 1 + 1)) | none => v = -1 ∧ G' = up G 31 7 (nI (k + 1))) :
    (0 ≤ v → ∃ z, numF T n (nxt T n (pk T n k)) lo hi = some z ∧ v = nI z ∧ z ≤ hi ∧ TxS G0 G' T n c (k + 1 + 1) μ) ∧ (¬ 0 ≤ v → numF T n (nxt T n (pk T n k)) lo hi = none ∧ TxS G0 G' T n c (k + 1) μ) :=
  (h.mv (h.k1 hs)).tn1 p
/-- what a reader of the text answers, and where it stands then -/
def RdO (G0 G' : GG) (T : MU) (n c : Nat) (b : Bool) (o : Rd) : Prop := match o with
  | .inl q => b = false ∧ ∃ k ν, pk T n k = q ∧ TxS G0 G' T n c k ν
  | .inr (q, ν) => b = true ∧ ∃ k, pk T n k = q ∧ TxS G0 G' T n c k ν
theorem RdO.no {G0 G' : GG} {T : MU} {n c k : Nat} {ν : MU} {o : Rd} (h : TxS G0 G' T n c k ν) (e : o = .inl (pk T n k)) : RdO G0 G' T n c false o := by
  subst e
  exact ⟨rfl, k, ν, rfl, h⟩
theorem RdO.ok {G0 G' : GG} {T : MU} {n c k : Nat} {ν : MU} {o : Rd} (h : TxS G0 G' T n c k ν) (e : o = .inr (pk T n k, ν)) : RdO G0 G' T n c true o := by
  subst e
  exact ⟨rfl, k, rfl, h⟩
def ptF (T : MU) (n p : Nat) : Int32 := if wdB T n p 0 = true then nI 0 else if wdB T n p 1 = true then nI 1 else if wdB T n p 2 = true then nI 2 else if wdB T n p 3 = true then nI 3 else -1
theorem pt_c (T : MU) (n p : Nat) : (ptF T n p < 0 → ∀ j, j < 4 → wdB T n p j = false) ∧ (¬ ptF T n p < 0 → ∃ j, j < 4 ∧ ptF T n p = nI j ∧ wdB T n p j = true) := by
  unfold ptF
  by_cases h0 : wdB T n p 0 = true
  · rw [if_pos h0]; exact ⟨fun q => absurd q (by decide +kernel), fun _ => ⟨0, by decide, rfl, h0⟩⟩
  · rw [if_neg h0]
    by_cases h1 : wdB T n p 1 = true
    · rw [if_pos h1]; exact ⟨fun q => absurd q (by decide +kernel), fun _ => ⟨1, by decide, rfl, h1⟩⟩
    · rw [if_neg h1]
      by_cases h2 : wdB T n p 2 = true
      · rw [if_pos h2]; exact ⟨fun q => absurd q (by decide +kernel), fun _ => ⟨2, by decide, rfl, h2⟩⟩
      · rw [if_neg h2]
        by_cases h3 : wdB T n p 3 = true
        · rw [if_pos h3]; exact ⟨fun q => absurd q (by decide +kernel), fun _ => ⟨3, by decide, rfl, h3⟩⟩
        · rw [if_neg h3]
          refine ⟨fun _ j hj => ?_, fun q => absurd (by decide +kernel) q⟩
          match j, hj with
          | 0, _ => simpa using h0
          | 1, _ => simpa using h1
          | 2, _ => simpa using h2
          | 3, _ => simpa using h3
theorem plo_e {j : Nat} (hj : j < 4) : pLow (nI j) = nI (plo j) ∧ pTop (nI j) = nI (phi j) ∧ plo j ≤ 1 ∧ phi j ≤ 9999 := by
  match j, hj with
  | 0, _ => decide +kernel
  | 1, _ => decide +kernel
  | 2, _ => decide +kernel
  | 3, _ => decide +kernel
/-- the kind that is told: the first of 7 whose word is there -/
def KdR (T : MU) (n p : Nat) (v : Int32) : Prop := (v < 0 ∧ ∀ j, j < 7 → wdB T n p (4 + j) = false) ∨ ∃ j, j < 7 ∧ v = nI j ∧ wdB T n p (4 + j) = true
