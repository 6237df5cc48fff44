/-! the reference: its row m (cell 48) holds the numbers μ; a call's outcome is the class's -/
def MR (G : GG) (μ : MU) : Prop := ∀ k, k < 115 → G 48 k = μ k
def FrM (G G' : GG) : Prop := ∀ c, ¬ c = 48 → ¬ c = 50 → G' c = G c
theorem FrM.rf {G : GG} : FrM G G := fun _ _ _ => rfl
theorem FrM.tr {G G1 G2 : GG} (h1 : FrM G G1) (h2 : FrM G1 G2) : FrM G G2 := fun c a b => (h2 c a b).trans (h1 c a b)
theorem FrM.up {G G1 : GG} {k : Nat} {v : Int32} (h : FrM G G1) : FrM G (up G1 48 k v) := fun c a b => (funext (fun j => up_ne (by omega))).trans (h c a b)
theorem FrM.was {G G1 : GG} {f : MU} (h : FrM G G1) : FrM G (upc G1 50 f) := fun c a b => by
  refine Eq.trans ?_ (h c a b)
  simp [upc, b]
theorem MR.u {G : GG} {μ : MU} (h : MR G μ) (i : Nat) (v : Int32) : MR (up G 48 i v) (upd μ i v) := fun k hk => by
  by_cases e : k = i
  · subst e; rw [up_eq, upd_eq]
  · rw [up_ne (by omega), upd_ne e]; exact h k hk
theorem MR.fr {G G' : GG} {μ : MU} (h : MR G μ) (e : G' 48 = G 48) : MR G' μ := fun k hk => by rw [e]; exact h k hk
def FOM (G : GG) (k : Nat) (v : Int32) (G' : GG) : Prop := v = FK k ∧ G' = up G 51 k (G 51 k + nI 1)
def MOut (G : GG) (μ : MU) (o : OUT) (v : Int32) (G' : GG) : Prop := match o with
  | .inl k => v = FK k ∧ MR G' μ ∧ G' 51 = upd (G 51) k (G 51 k + nI 1) ∧ ∀ c, ¬ c = 48 → ¬ c = 50 → ¬ c = 51 → G' c = G c
  | .inr q => v = q.1 ∧ MR G' q.2 ∧ FrM G G'
theorem MOut.fin {G G1 G' : GG} {μ : MU} {o : OUT} {v : Int32} {k : Nat} (ho : o = .inl k) (h : FOM G1 k v G') (hM : MR G1 μ) (hF : FrM G G1) : MOut G μ o v G' := by
  subst ho
  obtain ⟨h1, rfl⟩ := h
  refine ⟨h1, hM.fr (funext (fun j => up_ne (by omega))), ?_, fun c a b d => (funext (fun j => up_ne (by omega))).trans (hF c a b)⟩
  rw [← hF 51 (by decide) (by decide)]
  funext x
  by_cases e : x = k
  · subst e; rw [up_eq, upd_eq]
  · rw [up_ne (by omega), upd_ne e]
theorem MOut.ok {G G1 : GG} {μ : MU} {o : OUT} {v w : Int32} {μ' : MU} (ho : o = .inr (w, μ')) (hv : v = w) (h : MR G1 μ') (hF : FrM G G1) : MOut G μ o v G1 := by
  subst ho
  exact ⟨hv, h, hF⟩
def rwF (f g : MU) : MU := fun k => if k < 115 then f k else g k
def rwK (f g : MU) (n : Nat) : MU := fun k => if k < n then f k else g k
theorem rwK_s (f g : MU) (n : Nat) : upd (rwK f g n) n (f n) = rwK f g (n + 1) := by
  funext k
  by_cases e : k = n
  · subst e; rw [upd_eq]; unfold rwK; rw [if_pos (by omega)]
  · rw [upd_ne e]; unfold rwK
    by_cases h : k < n
    · rw [if_pos h, if_pos (by omega)]
    · rw [if_neg h, if_neg (by omega)]
theorem rwK_0 (f g : MU) : rwK f g 0 = g := by funext k; unfold rwK; rw [if_neg (by omega)]
theorem upc_u {G : GG} {c : Nat} {f : MU} {k : Nat} {v : Int32} : up (upc G c f) c k v = upc G c (upd f k v) := by
  funext x j
  by_cases e : x = c
  · subst e
    by_cases e2 : j = k
    · subst e2; simp [up, upc, upd]
    · simp [up, upc, upd, e2]
  · simp [up, upc, e]
