/-! the reference reads its tape as it goes: its token, its fault, the state that is told so far -/
def TpR (G : GG) (T : MU) (n : Nat) : Prop := G 47 6 = nI n ∧ n ≤ 120 ∧ ∀ j, j < n → G 52 j = T j
def FrT (G G' : GG) : Prop := (∀ c, ¬ c = 47 → G' c = G c) ∧ ∀ k, (k < 7 ∨ 11 < k) → G' 47 k = G 47 k
theorem FrT.rf {G : GG} : FrT G G := ⟨fun _ _ => rfl, fun _ _ => rfl⟩
theorem FrT.u {G G1 : GG} {k : Nat} {v : Int32} (h : FrT G G1) (hk : 7 ≤ k ∧ k ≤ 11) : FrT G (up G1 47 k v) := ⟨fun c a => (funext (fun j => up_ne (by omega))).trans (h.1 c a), fun j a => (up_ne (by omega)).trans (h.2 j a)⟩
theorem TpR.t {G G' : GG} {T : MU} {n : Nat} (h : TpR G T n) (hF : FrT G G') : TpR G' T n := ⟨(hF.2 6 (by decide)).trans h.1, h.2.1, fun j hj => by rw [hF.1 52 (by decide)]; exact h.2.2 j hj⟩
def RT (G : GG) (T : MU) (n p : Nat) : Prop := p ≤ n ∧ G 47 7 = nI (srt T n p) ∧ G 47 8 = nI (frm T n p) ∧ G 47 9 = nI (nxt T n p) ∧ ∃ w, w ≤ 99999 ∧ G 47 10 = nI w ∧ (srt T n p = 2 → min 10000 w = val T n p)
theorem frm_stop {T : MU} {n p : Nat} (hp : p ≤ n) (h : ¬ (p < n ∧ nI 32 ≤ T p ∧ T p ≤ nI 32)) : frm T n p = p := by
  rcases Nat.lt_or_ge p n with q | q
  · exact frm_self (decide_eq_false (fun z => h ⟨q, by rw [z]; exact Int32.le_refl _, by rw [z]; exact Int32.le_refl _⟩))
  · exact run_end q
theorem run_fixL {T : MU} {n t : Nat} (h : ¬ (t < n ∧ nI 97 ≤ T t ∧ T t ≤ nI 122)) : run isL T n t = t := by
  rcases Nat.lt_or_ge t n with q | q
  · exact run_stop (decide_eq_false (fun z => h ⟨q, z⟩))
  · exact run_end q
theorem run_fixD {T : MU} {n t : Nat} (h : ¬ (t < n ∧ nI 48 ≤ T t ∧ T t ≤ nI 57)) : run isD T n t = t := by
  rcases Nat.lt_or_ge t n with q | q
  · exact run_stop (decide_eq_false (fun z => h ⟨q, z⟩))
  · exact run_end q
theorem nxt_of {T : MU} {n q s f : Nat} (hs : srt T n q = s) (hf : f = frm T n q) : nxt T n q = if s = 0 then f else if s = 1 then run isL T n f else if s = 2 then run isD T n f else f + 1 := by
  unfold nxt
  rw [hs, ← hf]
theorem vl_add {w : Nat} {x : Int32} (hx : x = nI (cl x)) (h : 48 ≤ cl x) : nI 10 * nI w + x - nI 48 = nI (10 * w + dg x) := by
  unfold dg
  generalize cl x = c at hx h ⊢
  subst hx
  rw [pk_mul, nI_add, pk_sub (by omega), show 10 * w + c - 48 = 10 * w + (c - 48) by omega]
theorem vl_s {T : MU} {q k : Nat} : vlF T q (k + 1) = min 10000 (10 * vlF T q k + dg (T (q + k))) := rfl
theorem num_s {T : MU} {n p lo hi w : Nat} (hs : srt T n p = 2) (hw : min 10000 w = val T n p) (hw9 : w ≤ 99999) (hhi : hi ≤ 9999) (h : nI lo ≤ nI w ∧ nI w ≤ nI hi) (hlo : lo ≤ 10) : numF T n p lo hi = some w := by
  have h1 := (nI_leI (by omega) (by omega)).mp h.1
  have h2 := (nI_leI (by omega) (by omega)).mp h.2
  have e : val T n p = w := by omega
  rw [numF_s hs (by omega) (by omega), e]
theorem num_n {T : MU} {n p lo hi w : Nat} (hw : min 10000 w = val T n p) (hw9 : w ≤ 99999) (hhi : hi ≤ 9999) (h : ¬ (nI lo ≤ nI w ∧ nI w ≤ nI hi)) (hlo : lo ≤ 10) : numF T n p lo hi = none := by
  refine numF_n2 (fun q => h ⟨nI_le (by omega) (by omega), nI_le (by omega) (by omega)⟩)
def FrX (G G' : GG) : Prop := (∀ c, ¬ c = 47 → ¬ c = 48 → G' c = G c) ∧ ∀ k, (k < 7 ∨ 11 < k) → G' 47 k = G 47 k
theorem FrX.rf {G : GG} : FrX G G := ⟨fun _ _ _ => rfl, fun _ _ => rfl⟩
theorem FrX.tr {G G1 G2 : GG} (h1 : FrX G G1) (h2 : FrX G1 G2) : FrX G G2 := ⟨fun c a b => (h2.1 c a b).trans (h1.1 c a b), fun k a => (h2.2 k a).trans (h1.2 k a)⟩
theorem FrT.x {G G1 : GG} (h : FrT G G1) : FrX G G1 := ⟨fun c a _ => h.1 c a, h.2⟩
theorem FrN.x {G G1 : GG} (h : FrN G G1) : FrX G G1 := ⟨fun c _ b => h c b, fun k _ => by rw [h 47 (by decide)]⟩
def RS (G0 G : GG) (T : MU) (n p : Nat) (bad : Bool) (μ : MU) : Prop := TpR G T n ∧ RT G T n p ∧ G 47 11 = bi bad ∧ MR G μ ∧ FrX G0 G
theorem RS.tok {G0 G G' : GG} {T : MU} {n p q : Nat} {bad : Bool} {μ : MU} (h : RS G0 G T n p bad μ) (ht : RT G' T n q ∧ G' 47 11 = G 47 11 ∧ FrT G G') : RS G0 G' T n q bad μ :=
  ⟨h.1.t ht.2.2, ht.1, ht.2.1.trans h.2.2.1, h.2.2.2.1.fr (ht.2.2.1 48 (by decide)), h.2.2.2.2.tr ht.2.2.x⟩
theorem RS.bd {G0 G : GG} {T : MU} {n p : Nat} {bad : Bool} {μ : MU} (h : RS G0 G T n p bad μ) (b' : Bool) : RS G0 (up G 47 11 (bi b')) T n p b' μ := by
  obtain ⟨h1, ⟨a0, a1, a2, a3, w, a4, a5, a6⟩, h3, h4, h5⟩ := h
  have hF : FrT G (up G 47 11 (bi b')) := FrT.rf.u (by decide)
  exact ⟨h1.t hF, ⟨a0, (up_ne (by omega)).trans a1, (up_ne (by omega)).trans a2, (up_ne (by omega)).trans a3, w, a4, (up_ne (by omega)).trans a5, a6⟩, up_eq, h4.fr (hF.1 48 (by decide)), h5.tr hF.x⟩
theorem RS.cm {G0 G G' : GG} {T : MU} {n p : Nat} {bad : Bool} {μ ν : MU} (h : RS G0 G T n p bad μ) (hM : MR G' ν) (hF : FrN G G') : RS G0 G' T n p bad ν := by
  obtain ⟨h1, ⟨a0, a1, a2, a3, w, a4, a5, a6⟩, h3, h4, h5⟩ := h
  have e := hF 47 (by decide)
  refine ⟨⟨by rw [e]; exact h1.1, h1.2.1, fun j hj => by rw [hF 52 (by decide)]; exact h1.2.2 j hj⟩, ⟨a0, ?_, ?_, ?_, w, a4, ?_, a6⟩, ?_, hM, h5.tr hF.x⟩
  · rw [e]; exact a1
  · rw [e]; exact a2
  · rw [e]; exact a3
  · rw [e]; exact a5
  · rw [e]; exact h3
/-- what an item leaves -/
def RdM (G0 G' : GG) (T : MU) (n : Nat) (o : Rd) : Prop := match o with
  | .inl q => ∃ ν, RS G0 G' T n q true ν
  | .inr (q, ν) => RS G0 G' T n q false ν
theorem RdM.no {G0 G' : GG} {T : MU} {n q : Nat} {ν : MU} {o : Rd} (h : RS G0 G' T n q true ν) (e : o = .inl q) : RdM G0 G' T n o := by
  subst e
  exact ⟨ν, h⟩
theorem RdM.ok {G0 G' : GG} {T : MU} {n q : Nat} {ν : MU} {o : Rd} (h : RS G0 G' T n q false ν) (e : o = .inr (q, ν)) : RdM G0 G' T n o := by
  subst e
  exact h
theorem kd7 (T : MU) (n p : Nat) : kdF T n p 7 = if wdB T n p 4 = true then nI 0 else if wdB T n p 5 = true then nI 1 else if wdB T n p 6 = true then nI 2 else if wdB T n p 7 = true then nI 3 else if wdB T n p 8 = true then nI 4 else if wdB T n p 9 = true then nI 5 else if wdB T n p 10 = true then nI 6 else -1 := rfl
