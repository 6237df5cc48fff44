/-! what the calls answer, in numbers: a child's state is one row of 115 numbers, as the reference's -/
def pLow (v : Int32) : Int32 := if v = nI 3 then nI 1 else nI 0
def pTop (v : Int32) : Int32 := if v = nI 0 then nI 9 else if v = nI 1 then nI 99 else if v = nI 2 then nI 9999 else if v = nI 3 then nI 99 else -1
def tLow (v : Int32) : Int32 := if v = nI 2 then nI 1 else nI 0
def tTop (v : Int32) : Int32 := if v = nI 0 then nI 6 else if v = nI 1 then nI 9 else if v = nI 2 then nI 20 else -1
abbrev MU : Type := Nat → Int32
def nn (x : Int32) (b : Nat) : Prop := ∃ n, n ≤ b ∧ x = nI n
theorem nn_mk {n b : Nat} (h : n ≤ b) : nn (nI n) b := ⟨n, h, rfl⟩
theorem nn_le {x : Int32} {a b : Nat} (h : nn x a) (hb : a ≤ b) : nn x b := by
  obtain ⟨n, h1, h2⟩ := h
  exact ⟨n, Nat.le_trans h1 hb, h2⟩
theorem nn_cl {x : Int32} {b : Nat} (h : nn x b) (hb : b < 2 ^ 31) : x.toNatClampNeg ≤ b ∧ x = nI x.toNatClampNeg := by
  obtain ⟨n, h1, rfl⟩ := h
  rw [nI_clamp (by omega)]
  exact ⟨h1, rfl⟩
def frS (x : Int32) (f : Nat) : Bool := decide (((x.toUInt32 >>> ((nI f).toUInt32 &&& Int32.toUInt32 31)).toInt32 &&& nI 1) = nI 1)
def plS (put like hun : Int32) : Int32 := put * like * (hun + nI 20) / nI 10000
def eatS (k put like hun : Int32) (fr fnd : Bool) : Int32 :=
  if k = nI 1 then nI 0 else if k = nI 2 then imin put (plS put like hun + nI 2) else if k = nI 3 then imin put (plS put like hun + nI 2 + nI 3)
  else if k = nI 4 ∨ k = nI 5 then imin put (if fr = true then plS put like hun + plS put like hun / nI 2 else plS put like hun)
  else if k = nI 6 then (if fnd = true then nI 0 else put) else imin put (plS put like hun)
def mvS (bit bent : Int32) : Int32 := nI 6 - bit * bent / nI 10
def movS (k bit bent : Int32) (fr fnd : Bool) : Int32 :=
  if k = nI 1 then mvS bit bent / nI 2 else if k = nI 2 then mvS bit bent - nI 8 else if k = nI 3 then mvS bit bent - nI 8 + nI 2
  else if k = nI 4 then (if fr = true then mvS bit bent + nI 3 else mvS bit bent) else if k = nI 5 then (if fr = true then mvS bit bent + nI 3 else mvS bit bent) + nI 2
  else if k = nI 6 then (if fnd = true then -10 else nI 1) else mvS bit bent
def drS (z : Int32) : Int32 := z * nI 1103515245 + nI 12345
def shr8 (z : Int32) : Int32 := (z.toUInt32 >>> ((nI 8).toUInt32 &&& Int32.toUInt32 31)).toInt32
def fndS (k z bit : Int32) : Bool := decide (k = nI 6 ∧ irm (shr8 (drS z)) (nI 10) < bit + nI 1)
def lkS (x : Int32) : Int32 := imax (nI 0) (imin (nI 99) x)
def heS (v most : Int32) : Int32 := if v < nI 0 then nI 0 else if most < v then most else v
def hunS (h e : Int32) : Int32 := imin (nI 99) (imax (nI 0) (h - nI 3 * e) + nI 12)
def weiS (w e : Int32) : Int32 := imax (nI 0) (imin (nI 9999) (w + e - nI 4))
def cl (x : Int32) : Nat := x.toNatClampNeg
/-- a taste served: what is eaten, what the state is then -/
def srvM (μ : MU) (t f : Nat) : MU := if μ (40 + 3 * t) = nI 6 then upd μ 1 (drS (μ 1)) else μ
def srvL (μ : MU) (t f : Nat) : MU := upd (srvM μ t f) (10 + 3 * f) (lkS (μ (10 + 3 * f) + movS (μ (40 + 3 * t)) (μ (11 + 3 * f)) (μ 2) (frS (μ 7) f) (fndS (μ (40 + 3 * t)) (μ 1) (μ (11 + 3 * f)))))
def srvP (μ : MU) (t f : Nat) : MU := if μ (40 + 3 * t) = nI 3 ∧ ¬ μ 6 < nI 0 then upd (srvL μ t f) (10 + 3 * cl (μ 6)) (lkS (srvL μ t f (10 + 3 * cl (μ 6)) + nI 5)) else srvL μ t f
def srvE (μ : MU) (t f : Nat) : Int32 := eatS (μ (40 + 3 * t)) (μ (42 + 3 * t)) (μ (10 + 3 * f)) (μ 3) (frS (μ 7) f) (fndS (μ (40 + 3 * t)) (μ 1) (μ (11 + 3 * f)))
def srvF (μ : MU) (t : Nat) : Int32 × MU := (srvE μ t (cl (μ (41 + 3 * t))), upd (srvP μ t (cl (μ (41 + 3 * t)))) (12 + 3 * cl (μ (41 + 3 * t))) (imin (nI 999) (μ (12 + 3 * cl (μ (41 + 3 * t))) + nI 1)))
def shf (μ : MU) (e : Int32) : MU := fun k => if k = 80 then e else if 80 < k ∧ k < 115 then μ (k - 1) else μ k
def mealE (μ : MU) (e : Int32) : MU := upd (upd (shf (upd (upd μ 3 (hunS (μ 3) e)) 4 (weiS (μ 4) e)) e) 9 (heS (μ 9 + nI 1) (nI 35))) 0 (μ 0 + nI 1)
def mealF (μ : MU) (o : Option Nat) : Int32 × MU := match o with
  | none => (nI 0, mealE μ (nI 0))
  | some t => ((srvF μ t).1, mealE (srvF μ t).2 (srvF μ t).1)
def servN (μ : MU) : Option Nat := if μ 8 = nI 0 then none else some (cl (μ 0) % cl (μ 8))
def stepF (μ : MU) : Int32 × MU := mealF μ (servN μ)
def goF (μ : MU) : Nat → Int32 × MU
  | 0 => (nI 0, μ)
  | n + 1 => ((goF μ n).1 + (stepF (goF μ n).2).1, (stepF (goF μ n).2).2)
/-- what a child's state always is -/
def Inv (b : Nat) (μ : MU) : Prop :=
  (∃ m, m ≤ b ∧ μ 0 = nI m ∧ μ 9 = nI (if m < 35 then m else 35)) ∧ (nn (μ 2) 9 ∧ nn (μ 3) 99 ∧ nn (μ 4) 9999 ∧ nn (μ 5) 99 ∧ (μ 6 = -1 ∨ nn (μ 6) 9) ∧ nn (μ 7) 1023) ∧
  (∃ n, n ≤ 10 ∧ μ 8 = nI n) ∧
  (∀ f, f < 10 → nn (μ (10 + 3 * f)) 99 ∧ nn (μ (11 + 3 * f)) 9 ∧ nn (μ (12 + 3 * f)) 999) ∧
  (∀ t, t < 10 → nn (μ (40 + 3 * t)) 6 ∧ nn (μ (41 + 3 * t)) 9 ∧ nn (μ (42 + 3 * t)) 20) ∧ ∀ k, k < 35 → nn (μ (80 + k)) 20
/-- the child in block i of the world holds the state μ -/
def rix (m k : Nat) : Nat := (m + 34 - k) % 35
def CR (G : GG) (i : Nat) (μ : MU) : Prop :=
  (G (ch i 0) 10 = μ 0 ∧ G (ch i 0) 12 = μ 1 ∧ G (ch i 0) 3 = μ 2 ∧ G (ch i 0) 4 = μ 3 ∧ G (ch i 0) 5 = μ 4 ∧ G (ch i 0) 6 = μ 5 ∧ G (ch i 0) 7 = μ 6 ∧ G (ch i 0) 8 = μ 7 ∧ G (ch i 4) 3 = μ 8) ∧
  (∀ f, f < 10 → G (ch i 1) f = μ (10 + 3 * f) ∧ G (ch i 2) f = μ (11 + 3 * f) ∧ G (ch i 3) f = μ (12 + 3 * f)) ∧
  (∀ t, t < 10 → G (ch i 5) t = μ (40 + 3 * t) ∧ G (ch i 6) t = μ (41 + 3 * t) ∧ G (ch i 7) t = μ (42 + 3 * t)) ∧
  (∀ k, k < 10 → G (ch i 9) k = μ (70 + k)) ∧ ∀ k, k < 35 → G (ch i 8) (rix (cl (μ 0)) k) = μ (80 + k)
/-- nothing but block i has changed -/
def Fr (i : Nat) (G G' : GG) : Prop := ∀ c, (c < 10 * i ∨ 10 * i + 10 ≤ c) → G' c = G c
theorem Fr.rf {i : Nat} {G : GG} : Fr i G G := fun _ _ => rfl
theorem Fr.up {i j k : Nat} {G G' : GG} {v : Int32} (h : Fr i G G') (hj : j < 10) : Fr i G (up G' (ch i j) k v) := fun c hc => by
  rw [← h c hc]
  funext k'
  have : ¬ c = ch i j := by simp only [ch]; omega
  simp [Jvm.Pilot.CPeaSpoonsLaw_law_r1469_87ba7e.up, this]
theorem Fr.upc {i j : Nat} {G G' : GG} {f : Nat → Int32} (h : Fr i G G') (hj : j < 10) : Fr i G (upc G' (ch i j) f) := fun c hc => by
  rw [← h c hc]
  have : ¬ c = ch i j := by simp only [ch]; omega
  simp [Jvm.Pilot.CPeaSpoonsLaw_law_r1469_87ba7e.upc, this]
theorem Fr.tr {i : Nat} {G G1 G2 : GG} (h1 : Fr i G G1) (h2 : Fr i G1 G2) : Fr i G G2 := fun c hc => (h2 c hc).trans (h1 c hc)
theorem CR.fr {i j : Nat} {G G' : GG} {μ : MU} (h : CR G i μ) (hF : Fr j G G') (hij : i ≠ j) : CR G' i μ := by
  have e : ∀ x, x < 10 → G' (ch i x) = G (ch i x) := fun x hx => hF _ (by simp only [ch]; omega)
  unfold CR
  rw [e 0 (by decide), e 1 (by decide), e 2 (by decide), e 3 (by decide), e 4 (by decide), e 5 (by decide), e 6 (by decide), e 7 (by decide), e 8 (by decide), e 9 (by decide)]
  exact h
theorem cr_ne {G : GG} {μ : MU} {c f c' f' k k' : Nat} {v : Int32} (h1 : ¬ (c' = c ∧ f' = f)) (h2 : ¬ k' = k) (h : G c' f' = μ k') : up G c f v c' f' = upd μ k v k' := by
  simp [up, upd, h1, h2, h]
theorem cr_eq {G : GG} {μ : MU} {c f k : Nat} {v : Int32} : up G c f v c f = upd μ k v k := by
  simp [up, upd]
theorem up_eq {G : GG} {c f : Nat} {v : Int32} : up G c f v c f = v := by simp [up]
theorem up_ne {G : GG} {c f c' f' : Nat} {v : Int32} (h : ¬ (c' = c ∧ f' = f)) : up G c f v c' f' = G c' f' := by simp [up, h]
theorem upd_eq {μ : MU} {k : Nat} {v : Int32} : upd μ k v k = v := by simp [upd]
theorem upd_ne {μ : MU} {k k' : Nat} {v : Int32} (h : ¬ k' = k) : upd μ k v k' = μ k' := by simp [upd, h]
theorem CR.z {G : GG} {i : Nat} {μ : MU} (h : CR G i μ) (v : Int32) : CR (up G (ch i 0) 12 v) i (upd μ 1 v) := by
  obtain ⟨⟨a0, a1, a2, a3, a4, a5, a6, a7, a8⟩, hf, ht, hs, hb⟩ := h
  refine ⟨⟨cr_ne (by simp only [ch]; omega) (by omega) a0, cr_eq, cr_ne (by simp only [ch]; omega) (by omega) a2, cr_ne (by simp only [ch]; omega) (by omega) a3, cr_ne (by simp only [ch]; omega) (by omega) a4, cr_ne (by simp only [ch]; omega) (by omega) a5, cr_ne (by simp only [ch]; omega) (by omega) a6, cr_ne (by simp only [ch]; omega) (by omega) a7, cr_ne (by simp only [ch]; omega) (by omega) a8⟩, fun f q => ⟨cr_ne (by simp only [ch]; omega) (by omega) (hf f q).1, cr_ne (by simp only [ch]; omega) (by omega) (hf f q).2.1, cr_ne (by simp only [ch]; omega) (by omega) (hf f q).2.2⟩, fun t q => ⟨cr_ne (by simp only [ch]; omega) (by omega) (ht t q).1, cr_ne (by simp only [ch]; omega) (by omega) (ht t q).2.1, cr_ne (by simp only [ch]; omega) (by omega) (ht t q).2.2⟩, fun k q => cr_ne (by simp only [ch]; omega) (by omega) (hs k q), fun k q => ?_⟩
  rw [upd_ne (show ¬ (0 : Nat) = 1 by decide)]
  exact cr_ne (by simp only [ch]; omega) (by omega) (hb k q)
theorem CR.bent {G : GG} {i : Nat} {μ : MU} (h : CR G i μ) (v : Int32) : CR (up G (ch i 0) 3 v) i (upd μ 2 v) := by
  obtain ⟨⟨a0, a1, a2, a3, a4, a5, a6, a7, a8⟩, hf, ht, hs, hb⟩ := h
  refine ⟨⟨cr_ne (by simp only [ch]; omega) (by omega) a0, cr_ne (by simp only [ch]; omega) (by omega) a1, cr_eq, cr_ne (by simp only [ch]; omega) (by omega) a3, cr_ne (by simp only [ch]; omega) (by omega) a4, cr_ne (by simp only [ch]; omega) (by omega) a5, cr_ne (by simp only [ch]; omega) (by omega) a6, cr_ne (by simp only [ch]; omega) (by omega) a7, cr_ne (by simp only [ch]; omega) (by omega) a8⟩, fun f q => ⟨cr_ne (by simp only [ch]; omega) (by omega) (hf f q).1, cr_ne (by simp only [ch]; omega) (by omega) (hf f q).2.1, cr_ne (by simp only [ch]; omega) (by omega) (hf f q).2.2⟩, fun t q => ⟨cr_ne (by simp only [ch]; omega) (by omega) (ht t q).1, cr_ne (by simp only [ch]; omega) (by omega) (ht t q).2.1, cr_ne (by simp only [ch]; omega) (by omega) (ht t q).2.2⟩, fun k q => cr_ne (by simp only [ch]; omega) (by omega) (hs k q), fun k q => ?_⟩
  rw [upd_ne (show ¬ (0 : Nat) = 2 by decide)]
  exact cr_ne (by simp only [ch]; omega) (by omega) (hb k q)
theorem CR.hun {G : GG} {i : Nat} {μ : MU} (h : CR G i μ) (v : Int32) : CR (up G (ch i 0) 4 v) i (upd μ 3 v) := by
  obtain ⟨⟨a0, a1, a2, a3, a4, a5, a6, a7, a8⟩, hf, ht, hs, hb⟩ := h
  refine ⟨⟨cr_ne (by simp only [ch]; omega) (by omega) a0, cr_ne (by simp only [ch]; omega) (by omega) a1, cr_ne (by simp only [ch]; omega) (by omega) a2, cr_eq, cr_ne (by simp only [ch]; omega) (by omega) a4, cr_ne (by simp only [ch]; omega) (by omega) a5, cr_ne (by simp only [ch]; omega) (by omega) a6, cr_ne (by simp only [ch]; omega) (by omega) a7, cr_ne (by simp only [ch]; omega) (by omega) a8⟩, fun f q => ⟨cr_ne (by simp only [ch]; omega) (by omega) (hf f q).1, cr_ne (by simp only [ch]; omega) (by omega) (hf f q).2.1, cr_ne (by simp only [ch]; omega) (by omega) (hf f q).2.2⟩, fun t q => ⟨cr_ne (by simp only [ch]; omega) (by omega) (ht t q).1, cr_ne (by simp only [ch]; omega) (by omega) (ht t q).2.1, cr_ne (by simp only [ch]; omega) (by omega) (ht t q).2.2⟩, fun k q => cr_ne (by simp only [ch]; omega) (by omega) (hs k q), fun k q => ?_⟩
  rw [upd_ne (show ¬ (0 : Nat) = 3 by decide)]
  exact cr_ne (by simp only [ch]; omega) (by omega) (hb k q)
theorem CR.wei {G : GG} {i : Nat} {μ : MU} (h : CR G i μ) (v : Int32) : CR (up G (ch i 0) 5 v) i (upd μ 4 v) := by
  obtain ⟨⟨a0, a1, a2, a3, a4, a5, a6, a7, a8⟩, hf, ht, hs, hb⟩ := h
  refine ⟨⟨cr_ne (by simp only [ch]; omega) (by omega) a0, cr_ne (by simp only [ch]; omega) (by omega) a1, cr_ne (by simp only [ch]; omega) (by omega) a2, cr_ne (by simp only [ch]; omega) (by omega) a3, cr_eq, cr_ne (by simp only [ch]; omega) (by omega) a5, cr_ne (by simp only [ch]; omega) (by omega) a6, cr_ne (by simp only [ch]; omega) (by omega) a7, cr_ne (by simp only [ch]; omega) (by omega) a8⟩, fun f q => ⟨cr_ne (by simp only [ch]; omega) (by omega) (hf f q).1, cr_ne (by simp only [ch]; omega) (by omega) (hf f q).2.1, cr_ne (by simp only [ch]; omega) (by omega) (hf f q).2.2⟩, fun t q => ⟨cr_ne (by simp only [ch]; omega) (by omega) (ht t q).1, cr_ne (by simp only [ch]; omega) (by omega) (ht t q).2.1, cr_ne (by simp only [ch]; omega) (by omega) (ht t q).2.2⟩, fun k q => cr_ne (by simp only [ch]; omega) (by omega) (hs k q), fun k q => ?_⟩
  rw [upd_ne (show ¬ (0 : Nat) = 4 by decide)]
  exact cr_ne (by simp only [ch]; omega) (by omega) (hb k q)
theorem CR.line {G : GG} {i : Nat} {μ : MU} (h : CR G i μ) (v : Int32) : CR (up G (ch i 0) 6 v) i (upd μ 5 v) := by
  obtain ⟨⟨a0, a1, a2, a3, a4, a5, a6, a7, a8⟩, hf, ht, hs, hb⟩ := h
  refine ⟨⟨cr_ne (by simp only [ch]; omega) (by omega) a0, cr_ne (by simp only [ch]; omega) (by omega) a1, cr_ne (by simp only [ch]; omega) (by omega) a2, cr_ne (by simp only [ch]; omega) (by omega) a3, cr_ne (by simp only [ch]; omega) (by omega) a4, cr_eq, cr_ne (by simp only [ch]; omega) (by omega) a6, cr_ne (by simp only [ch]; omega) (by omega) a7, cr_ne (by simp only [ch]; omega) (by omega) a8⟩, fun f q => ⟨cr_ne (by simp only [ch]; omega) (by omega) (hf f q).1, cr_ne (by simp only [ch]; omega) (by omega) (hf f q).2.1, cr_ne (by simp only [ch]; omega) (by omega) (hf f q).2.2⟩, fun t q => ⟨cr_ne (by simp only [ch]; omega) (by omega) (ht t q).1, cr_ne (by simp only [ch]; omega) (by omega) (ht t q).2.1, cr_ne (by simp only [ch]; omega) (by omega) (ht t q).2.2⟩, fun k q => cr_ne (by simp only [ch]; omega) (by omega) (hs k q), fun k q => ?_⟩
  rw [upd_ne (show ¬ (0 : Nat) = 5 by decide)]
  exact cr_ne (by simp only [ch]; omega) (by omega) (hb k q)
theorem CR.pud {G : GG} {i : Nat} {μ : MU} (h : CR G i μ) (v : Int32) : CR (up G (ch i 0) 7 v) i (upd μ 6 v) := by
  obtain ⟨⟨a0, a1, a2, a3, a4, a5, a6, a7, a8⟩, hf, ht, hs, hb⟩ := h
  refine ⟨⟨cr_ne (by simp only [ch]; omega) (by omega) a0, cr_ne (by simp only [ch]; omega) (by omega) a1, cr_ne (by simp only [ch]; omega) (by omega) a2, cr_ne (by simp only [ch]; omega) (by omega) a3, cr_ne (by simp only [ch]; omega) (by omega) a4, cr_ne (by simp only [ch]; omega) (by omega) a5, cr_eq, cr_ne (by simp only [ch]; omega) (by omega) a7, cr_ne (by simp only [ch]; omega) (by omega) a8⟩, fun f q => ⟨cr_ne (by simp only [ch]; omega) (by omega) (hf f q).1, cr_ne (by simp only [ch]; omega) (by omega) (hf f q).2.1, cr_ne (by simp only [ch]; omega) (by omega) (hf f q).2.2⟩, fun t q => ⟨cr_ne (by simp only [ch]; omega) (by omega) (ht t q).1, cr_ne (by simp only [ch]; omega) (by omega) (ht t q).2.1, cr_ne (by simp only [ch]; omega) (by omega) (ht t q).2.2⟩, fun k q => cr_ne (by simp only [ch]; omega) (by omega) (hs k q), fun k q => ?_⟩
  rw [upd_ne (show ¬ (0 : Nat) = 6 by decide)]
  exact cr_ne (by simp only [ch]; omega) (by omega) (hb k q)
theorem CR.fri {G : GG} {i : Nat} {μ : MU} (h : CR G i μ) (v : Int32) : CR (up G (ch i 0) 8 v) i (upd μ 7 v) := by
  obtain ⟨⟨a0, a1, a2, a3, a4, a5, a6, a7, a8⟩, hf, ht, hs, hb⟩ := h
  refine ⟨⟨cr_ne (by simp only [ch]; omega) (by omega) a0, cr_ne (by simp only [ch]; omega) (by omega) a1, cr_ne (by simp only [ch]; omega) (by omega) a2, cr_ne (by simp only [ch]; omega) (by omega) a3, cr_ne (by simp only [ch]; omega) (by omega) a4, cr_ne (by simp only [ch]; omega) (by omega) a5, cr_ne (by simp only [ch]; omega) (by omega) a6, cr_eq, cr_ne (by simp only [ch]; omega) (by omega) a8⟩, fun f q => ⟨cr_ne (by simp only [ch]; omega) (by omega) (hf f q).1, cr_ne (by simp only [ch]; omega) (by omega) (hf f q).2.1, cr_ne (by simp only [ch]; omega) (by omega) (hf f q).2.2⟩, fun t q => ⟨cr_ne (by simp only [ch]; omega) (by omega) (ht t q).1, cr_ne (by simp only [ch]; omega) (by omega) (ht t q).2.1, cr_ne (by simp only [ch]; omega) (by omega) (ht t q).2.2⟩, fun k q => cr_ne (by simp only [ch]; omega) (by omega) (hs k q), fun k q => ?_⟩
  rw [upd_ne (show ¬ (0 : Nat) = 7 by decide)]
  exact cr_ne (by simp only [ch]; omega) (by omega) (hb k q)
theorem CR.size {G : GG} {i : Nat} {μ : MU} (h : CR G i μ) (v : Int32) : CR (up G (ch i 4) 3 v) i (upd μ 8 v) := by
  obtain ⟨⟨a0, a1, a2, a3, a4, a5, a6, a7, a8⟩, hf, ht, hs, hb⟩ := h
  refine ⟨⟨cr_ne (by simp only [ch]; omega) (by omega) a0, cr_ne (by simp only [ch]; omega) (by omega) a1, cr_ne (by simp only [ch]; omega) (by omega) a2, cr_ne (by simp only [ch]; omega) (by omega) a3, cr_ne (by simp only [ch]; omega) (by omega) a4, cr_ne (by simp only [ch]; omega) (by omega) a5, cr_ne (by simp only [ch]; omega) (by omega) a6, cr_ne (by simp only [ch]; omega) (by omega) a7, cr_eq⟩, fun f q => ⟨cr_ne (by simp only [ch]; omega) (by omega) (hf f q).1, cr_ne (by simp only [ch]; omega) (by omega) (hf f q).2.1, cr_ne (by simp only [ch]; omega) (by omega) (hf f q).2.2⟩, fun t q => ⟨cr_ne (by simp only [ch]; omega) (by omega) (ht t q).1, cr_ne (by simp only [ch]; omega) (by omega) (ht t q).2.1, cr_ne (by simp only [ch]; omega) (by omega) (ht t q).2.2⟩, fun k q => cr_ne (by simp only [ch]; omega) (by omega) (hs k q), fun k q => ?_⟩
  rw [upd_ne (show ¬ (0 : Nat) = 8 by decide)]
  exact cr_ne (by simp only [ch]; omega) (by omega) (hb k q)
theorem CR.like {G : GG} {i : Nat} {μ : MU} (h : CR G i μ) {x : Nat} (hx : x < 10) (v : Int32) : CR (up G (ch i 1) x v) i (upd μ (10 + 3 * x) v) := by
  obtain ⟨⟨a0, a1, a2, a3, a4, a5, a6, a7, a8⟩, hf, ht, hs, hb⟩ := h
  refine ⟨⟨cr_ne (by simp only [ch]; omega) (by omega) a0, cr_ne (by simp only [ch]; omega) (by omega) a1, cr_ne (by simp only [ch]; omega) (by omega) a2, cr_ne (by simp only [ch]; omega) (by omega) a3, cr_ne (by simp only [ch]; omega) (by omega) a4, cr_ne (by simp only [ch]; omega) (by omega) a5, cr_ne (by simp only [ch]; omega) (by omega) a6, cr_ne (by simp only [ch]; omega) (by omega) a7, cr_ne (by simp only [ch]; omega) (by omega) a8⟩, fun f q => ⟨((Decidable.em (f = x)).elim (fun e => by subst e; exact cr_eq) (fun e => cr_ne (by simp only [ch]; omega) (by omega) (hf f q).1)), cr_ne (by simp only [ch]; omega) (by omega) (hf f q).2.1, cr_ne (by simp only [ch]; omega) (by omega) (hf f q).2.2⟩, fun t q => ⟨cr_ne (by simp only [ch]; omega) (by omega) (ht t q).1, cr_ne (by simp only [ch]; omega) (by omega) (ht t q).2.1, cr_ne (by simp only [ch]; omega) (by omega) (ht t q).2.2⟩, fun k q => cr_ne (by simp only [ch]; omega) (by omega) (hs k q), fun k q => ?_⟩
  rw [upd_ne (show ¬ (0 : Nat) = 10 + 3 * x by omega)]
  exact cr_ne (by simp only [ch]; omega) (by omega) (hb k q)
theorem CR.bit {G : GG} {i : Nat} {μ : MU} (h : CR G i μ) {x : Nat} (hx : x < 10) (v : Int32) : CR (up G (ch i 2) x v) i (upd μ (11 + 3 * x) v) := by
  obtain ⟨⟨a0, a1, a2, a3, a4, a5, a6, a7, a8⟩, hf, ht, hs, hb⟩ := h
  refine ⟨⟨cr_ne (by simp only [ch]; omega) (by omega) a0, cr_ne (by simp only [ch]; omega) (by omega) a1, cr_ne (by simp only [ch]; omega) (by omega) a2, cr_ne (by simp only [ch]; omega) (by omega) a3, cr_ne (by simp only [ch]; omega) (by omega) a4, cr_ne (by simp only [ch]; omega) (by omega) a5, cr_ne (by simp only [ch]; omega) (by omega) a6, cr_ne (by simp only [ch]; omega) (by omega) a7, cr_ne (by simp only [ch]; omega) (by omega) a8⟩, fun f q => ⟨cr_ne (by simp only [ch]; omega) (by omega) (hf f q).1, ((Decidable.em (f = x)).elim (fun e => by subst e; exact cr_eq) (fun e => cr_ne (by simp only [ch]; omega) (by omega) (hf f q).2.1)), cr_ne (by simp only [ch]; omega) (by omega) (hf f q).2.2⟩, fun t q => ⟨cr_ne (by simp only [ch]; omega) (by omega) (ht t q).1, cr_ne (by simp only [ch]; omega) (by omega) (ht t q).2.1, cr_ne (by simp only [ch]; omega) (by omega) (ht t q).2.2⟩, fun k q => cr_ne (by simp only [ch]; omega) (by omega) (hs k q), fun k q => ?_⟩
  rw [upd_ne (show ¬ (0 : Nat) = 11 + 3 * x by omega)]
  exact cr_ne (by simp only [ch]; omega) (by omega) (hb k q)
theorem CR.tri {G : GG} {i : Nat} {μ : MU} (h : CR G i μ) {x : Nat} (hx : x < 10) (v : Int32) : CR (up G (ch i 3) x v) i (upd μ (12 + 3 * x) v) := by
  obtain ⟨⟨a0, a1, a2, a3, a4, a5, a6, a7, a8⟩, hf, ht, hs, hb⟩ := h
  refine ⟨⟨cr_ne (by simp only [ch]; omega) (by omega) a0, cr_ne (by simp only [ch]; omega) (by omega) a1, cr_ne (by simp only [ch]; omega) (by omega) a2, cr_ne (by simp only [ch]; omega) (by omega) a3, cr_ne (by simp only [ch]; omega) (by omega) a4, cr_ne (by simp only [ch]; omega) (by omega) a5, cr_ne (by simp only [ch]; omega) (by omega) a6, cr_ne (by simp only [ch]; omega) (by omega) a7, cr_ne (by simp only [ch]; omega) (by omega) a8⟩, fun f q => ⟨cr_ne (by simp only [ch]; omega) (by omega) (hf f q).1, cr_ne (by simp only [ch]; omega) (by omega) (hf f q).2.1, ((Decidable.em (f = x)).elim (fun e => by subst e; exact cr_eq) (fun e => cr_ne (by simp only [ch]; omega) (by omega) (hf f q).2.2))⟩, fun t q => ⟨cr_ne (by simp only [ch]; omega) (by omega) (ht t q).1, cr_ne (by simp only [ch]; omega) (by omega) (ht t q).2.1, cr_ne (by simp only [ch]; omega) (by omega) (ht t q).2.2⟩, fun k q => cr_ne (by simp only [ch]; omega) (by omega) (hs k q), fun k q => ?_⟩
  rw [upd_ne (show ¬ (0 : Nat) = 12 + 3 * x by omega)]
  exact cr_ne (by simp only [ch]; omega) (by omega) (hb k q)
theorem CR.kin {G : GG} {i : Nat} {μ : MU} (h : CR G i μ) {x : Nat} (hx : x < 10) (v : Int32) : CR (up G (ch i 5) x v) i (upd μ (40 + 3 * x) v) := by
  obtain ⟨⟨a0, a1, a2, a3, a4, a5, a6, a7, a8⟩, hf, ht, hs, hb⟩ := h
  refine ⟨⟨cr_ne (by simp only [ch]; omega) (by omega) a0, cr_ne (by simp only [ch]; omega) (by omega) a1, cr_ne (by simp only [ch]; omega) (by omega) a2, cr_ne (by simp only [ch]; omega) (by omega) a3, cr_ne (by simp only [ch]; omega) (by omega) a4, cr_ne (by simp only [ch]; omega) (by omega) a5, cr_ne (by simp only [ch]; omega) (by omega) a6, cr_ne (by simp only [ch]; omega) (by omega) a7, cr_ne (by simp only [ch]; omega) (by omega) a8⟩, fun f q => ⟨cr_ne (by simp only [ch]; omega) (by omega) (hf f q).1, cr_ne (by simp only [ch]; omega) (by omega) (hf f q).2.1, cr_ne (by simp only [ch]; omega) (by omega) (hf f q).2.2⟩, fun t q => ⟨((Decidable.em (t = x)).elim (fun e => by subst e; exact cr_eq) (fun e => cr_ne (by simp only [ch]; omega) (by omega) (ht t q).1)), cr_ne (by simp only [ch]; omega) (by omega) (ht t q).2.1, cr_ne (by simp only [ch]; omega) (by omega) (ht t q).2.2⟩, fun k q => cr_ne (by simp only [ch]; omega) (by omega) (hs k q), fun k q => ?_⟩
  rw [upd_ne (show ¬ (0 : Nat) = 40 + 3 * x by omega)]
  exact cr_ne (by simp only [ch]; omega) (by omega) (hb k q)
theorem CR.foo {G : GG} {i : Nat} {μ : MU} (h : CR G i μ) {x : Nat} (hx : x < 10) (v : Int32) : CR (up G (ch i 6) x v) i (upd μ (41 + 3 * x) v) := by
  obtain ⟨⟨a0, a1, a2, a3, a4, a5, a6, a7, a8⟩, hf, ht, hs, hb⟩ := h
  refine ⟨⟨cr_ne (by simp only [ch]; omega) (by omega) a0, cr_ne (by simp only [ch]; omega) (by omega) a1, cr_ne (by simp only [ch]; omega) (by omega) a2, cr_ne (by simp only [ch]; omega) (by omega) a3, cr_ne (by simp only [ch]; omega) (by omega) a4, cr_ne (by simp only [ch]; omega) (by omega) a5, cr_ne (by simp only [ch]; omega) (by omega) a6, cr_ne (by simp only [ch]; omega) (by omega) a7, cr_ne (by simp only [ch]; omega) (by omega) a8⟩, fun f q => ⟨cr_ne (by simp only [ch]; omega) (by omega) (hf f q).1, cr_ne (by simp only [ch]; omega) (by omega) (hf f q).2.1, cr_ne (by simp only [ch]; omega) (by omega) (hf f q).2.2⟩, fun t q => ⟨cr_ne (by simp only [ch]; omega) (by omega) (ht t q).1, ((Decidable.em (t = x)).elim (fun e => by subst e; exact cr_eq) (fun e => cr_ne (by simp only [ch]; omega) (by omega) (ht t q).2.1)), cr_ne (by simp only [ch]; omega) (by omega) (ht t q).2.2⟩, fun k q => cr_ne (by simp only [ch]; omega) (by omega) (hs k q), fun k q => ?_⟩
  rw [upd_ne (show ¬ (0 : Nat) = 41 + 3 * x by omega)]
  exact cr_ne (by simp only [ch]; omega) (by omega) (hb k q)
theorem CR.put {G : GG} {i : Nat} {μ : MU} (h : CR G i μ) {x : Nat} (hx : x < 10) (v : Int32) : CR (up G (ch i 7) x v) i (upd μ (42 + 3 * x) v) := by
  obtain ⟨⟨a0, a1, a2, a3, a4, a5, a6, a7, a8⟩, hf, ht, hs, hb⟩ := h
  refine ⟨⟨cr_ne (by simp only [ch]; omega) (by omega) a0, cr_ne (by simp only [ch]; omega) (by omega) a1, cr_ne (by simp only [ch]; omega) (by omega) a2, cr_ne (by simp only [ch]; omega) (by omega) a3, cr_ne (by simp only [ch]; omega) (by omega) a4, cr_ne (by simp only [ch]; omega) (by omega) a5, cr_ne (by simp only [ch]; omega) (by omega) a6, cr_ne (by simp only [ch]; omega) (by omega) a7, cr_ne (by simp only [ch]; omega) (by omega) a8⟩, fun f q => ⟨cr_ne (by simp only [ch]; omega) (by omega) (hf f q).1, cr_ne (by simp only [ch]; omega) (by omega) (hf f q).2.1, cr_ne (by simp only [ch]; omega) (by omega) (hf f q).2.2⟩, fun t q => ⟨cr_ne (by simp only [ch]; omega) (by omega) (ht t q).1, cr_ne (by simp only [ch]; omega) (by omega) (ht t q).2.1, ((Decidable.em (t = x)).elim (fun e => by subst e; exact cr_eq) (fun e => cr_ne (by simp only [ch]; omega) (by omega) (ht t q).2.2))⟩, fun k q => cr_ne (by simp only [ch]; omega) (by omega) (hs k q), fun k q => ?_⟩
  rw [upd_ne (show ¬ (0 : Nat) = 42 + 3 * x by omega)]
  exact cr_ne (by simp only [ch]; omega) (by omega) (hb k q)
theorem CR.spo {G : GG} {i : Nat} {μ : MU} (h : CR G i μ) {x : Nat} (hx : x < 10) (v : Int32) : CR (up G (ch i 9) x v) i (upd μ (70 + x) v) := by
  obtain ⟨⟨a0, a1, a2, a3, a4, a5, a6, a7, a8⟩, hf, ht, hs, hb⟩ := h
  refine ⟨⟨cr_ne (by simp only [ch]; omega) (by omega) a0, cr_ne (by simp only [ch]; omega) (by omega) a1, cr_ne (by simp only [ch]; omega) (by omega) a2, cr_ne (by simp only [ch]; omega) (by omega) a3, cr_ne (by simp only [ch]; omega) (by omega) a4, cr_ne (by simp only [ch]; omega) (by omega) a5, cr_ne (by simp only [ch]; omega) (by omega) a6, cr_ne (by simp only [ch]; omega) (by omega) a7, cr_ne (by simp only [ch]; omega) (by omega) a8⟩, fun f q => ⟨cr_ne (by simp only [ch]; omega) (by omega) (hf f q).1, cr_ne (by simp only [ch]; omega) (by omega) (hf f q).2.1, cr_ne (by simp only [ch]; omega) (by omega) (hf f q).2.2⟩, fun t q => ⟨cr_ne (by simp only [ch]; omega) (by omega) (ht t q).1, cr_ne (by simp only [ch]; omega) (by omega) (ht t q).2.1, cr_ne (by simp only [ch]; omega) (by omega) (ht t q).2.2⟩, fun k q => ((Decidable.em (k = x)).elim (fun e => by subst e; exact cr_eq) (fun e => cr_ne (by simp only [ch]; omega) (by omega) (hs k q))), fun k q => ?_⟩
  rw [upd_ne (show ¬ (0 : Nat) = 70 + x by omega)]
  exact cr_ne (by simp only [ch]; omega) (by omega) (hb k q)
theorem CR.meal {G : GG} {i : Nat} {μ : MU} (h : CR G i μ) {m : Nat} (hm : μ 0 = nI m) (hb0 : m < 2 ^ 30) (e n9 : Int32) : CR (up (up G (ch i 8) (m % 35) e) (ch i 0) 10 (μ 0 + nI 1)) i (upd (upd (shf μ e) 9 n9) 0 (μ 0 + nI 1)) := by
  obtain ⟨⟨a0, a1, a2, a3, a4, a5, a6, a7, a8⟩, hf, ht, hs, hb⟩ := h
  have key : ∀ (c' f' k' : Nat), ¬ (c' = ch i 0 ∧ f' = 10) → ¬ c' = ch i 8 → ¬ k' = 0 → ¬ k' = 9 → k' < 80 → G c' f' = μ k' → up (up G (ch i 8) (m % 35) e) (ch i 0) 10 (μ 0 + nI 1) c' f' = upd (upd (shf μ e) 9 n9) 0 (μ 0 + nI 1) k' := by
    intro c' f' k' h1 h2 h3 h4 h5 h6
    rw [up_ne h1, up_ne (fun q => h2 q.1), upd_ne h3, upd_ne h4]
    simp only [shf]
    rw [if_neg (by omega), if_neg (by omega)]
    exact h6
  have hcl : cl (μ 0) = m := by rw [hm]; exact nI_clamp (by omega)
  have hcl1 : cl (μ 0 + nI 1) = m + 1 := by rw [hm, nI_add]; exact nI_clamp (by omega)
  refine ⟨⟨cr_eq, key _ _ _ (by simp only [ch]; omega) (by simp only [ch]; omega) (by omega) (by omega) (by omega) a1, key _ _ _ (by simp only [ch]; omega) (by simp only [ch]; omega) (by omega) (by omega) (by omega) a2, key _ _ _ (by simp only [ch]; omega) (by simp only [ch]; omega) (by omega) (by omega) (by omega) a3, key _ _ _ (by simp only [ch]; omega) (by simp only [ch]; omega) (by omega) (by omega) (by omega) a4, key _ _ _ (by simp only [ch]; omega) (by simp only [ch]; omega) (by omega) (by omega) (by omega) a5, key _ _ _ (by simp only [ch]; omega) (by simp only [ch]; omega) (by omega) (by omega) (by omega) a6, key _ _ _ (by simp only [ch]; omega) (by simp only [ch]; omega) (by omega) (by omega) (by omega) a7, key _ _ _ (by simp only [ch]; omega) (by simp only [ch]; omega) (by omega) (by omega) (by omega) a8⟩,
    fun f q => ⟨key _ _ _ (by simp only [ch]; omega) (by simp only [ch]; omega) (by omega) (by omega) (by omega) (hf f q).1, key _ _ _ (by simp only [ch]; omega) (by simp only [ch]; omega) (by omega) (by omega) (by omega) (hf f q).2.1, key _ _ _ (by simp only [ch]; omega) (by simp only [ch]; omega) (by omega) (by omega) (by omega) (hf f q).2.2⟩,
    fun t q => ⟨key _ _ _ (by simp only [ch]; omega) (by simp only [ch]; omega) (by omega) (by omega) (by omega) (ht t q).1, key _ _ _ (by simp only [ch]; omega) (by simp only [ch]; omega) (by omega) (by omega) (by omega) (ht t q).2.1, key _ _ _ (by simp only [ch]; omega) (by simp only [ch]; omega) (by omega) (by omega) (by omega) (ht t q).2.2⟩,
    fun k q => key _ _ _ (by simp only [ch]; omega) (by simp only [ch]; omega) (by omega) (by omega) (by omega) (hs k q), fun k q => ?_⟩
  rw [upd_eq, hcl1, up_ne (by simp only [ch]; omega), upd_ne (by omega), upd_ne (by omega)]
  simp only [shf]
  by_cases hk : k = 0
  · subst hk
    rw [if_pos (by omega)]
    rw [show rix (m + 1) 0 = m % 35 by simp only [rix]; omega]
    exact up_eq
  · rw [if_neg (by omega), if_pos (by omega), up_ne (by simp only [rix]; omega)]
    have h9 := hb (k - 1) (by omega)
    rw [hcl] at h9
    rw [show rix (m + 1) k = rix m (k - 1) by simp only [rix]; omega, h9, show 80 + k - 1 = 80 + (k - 1) by omega]
theorem imin_nI {a b : Nat} (ha : a < 2 ^ 31) (hb : b < 2 ^ 31) : imin (nI a) (nI b) = nI (min a b) := by
  unfold imin
  by_cases h : b < a
  · rw [if_pos ((nI_ltI hb ha).mpr h), Nat.min_eq_right (by omega)]
  · rw [if_neg (fun q => h ((nI_ltI hb ha).mp q)), Nat.min_eq_left (by omega)]
theorem imax_nI {a b : Nat} (ha : a < 2 ^ 31) (hb : b < 2 ^ 31) : imax (nI a) (nI b) = nI (max a b) := by
  unfold imax
  by_cases h : a < b
  · rw [if_pos ((nI_ltI ha hb).mpr h), Nat.max_eq_right (by omega)]
  · rw [if_neg (fun q => h ((nI_ltI ha hb).mp q)), Nat.max_eq_left (by omega)]
theorem nI_nn {x : Int32} (h : ¬ x < nI 0) : ∃ j, j < 2 ^ 31 ∧ x = nI j := nI_of (by rw [nI_0] at h; exact h)
theorem imax0 (x : Int32) : ∃ j, j < 2 ^ 31 ∧ imax (nI 0) x = nI j ∧ (x < nI 0 → j = 0) ∧ (∀ b, b < 2 ^ 31 → x ≤ nI b → j ≤ b) := by
  unfold imax
  by_cases h : nI 0 < x
  · obtain ⟨j, h1, h2⟩ := nI_nn (fun q => Int32.lt_irrefl (Int32.lt_trans h q))
    rw [if_pos h]
    refine ⟨j, h1, h2, fun q => (Int32.lt_irrefl (Int32.lt_trans h q)).elim, fun b hb q => ?_⟩
    rw [h2] at q
    exact (nI_leI h1 hb).mp q
  · rw [if_neg h]
    exact ⟨0, by decide, rfl, fun _ => rfl, fun _ _ _ => Nat.zero_le _⟩
theorem imin_le {b : Nat} {x : Int32} : imin (nI b) x ≤ nI b := by
  unfold imin
  by_cases h : x < nI b
  · rw [if_pos h]
    exact Int32.le_of_lt h
  · rw [if_neg h]
    exact Int32.le_refl _
theorem nn_clamp {b : Nat} (hb : b < 2 ^ 31) (x : Int32) : nn (imax (nI 0) (imin (nI b) x)) b := by
  obtain ⟨j, h1, h2, h3, h4⟩ := imax0 (imin (nI b) x)
  exact ⟨j, h4 b hb imin_le, h2⟩
theorem nn_lk (x : Int32) : nn (lkS x) 99 := nn_clamp (by decide) x
theorem nn_wei (w e : Int32) : nn (weiS w e) 9999 := nn_clamp (by decide) _
theorem sub_cases {a b : Nat} (ha : a < 2 ^ 30) (hb : b < 2 ^ 30) : (b ≤ a ∧ nI a - nI b = nI (a - b)) ∨ (a < b ∧ nI a - nI b < nI 0) := by
  rcases Nat.lt_or_ge a b with h | h
  · exact Or.inr ⟨h, by rw [nI_0]; exact pk_sneg hb h⟩
  · exact Or.inl ⟨h, pk_sub h⟩
theorem hun_val {a b : Nat} (ha : a ≤ 99) (hb : b ≤ 20) : hunS (nI a) (nI b) = nI (min 99 (a - 3 * b + 12)) := by
  unfold hunS
  rw [pk_mul]
  rcases sub_cases (a := a) (b := 3 * b) (by omega) (by omega) with ⟨h, e⟩ | ⟨h, e⟩
  · rw [e, imax_nI (by decide) (by omega), nI_add, imin_nI (by decide) (by omega), Nat.zero_max]
  · obtain ⟨j, h1, h2, h3, h4⟩ := imax0 (nI a - nI (3 * b))
    rw [h2, h3 e, nI_add, imin_nI (by decide) (by omega), show a - 3 * b = 0 by omega]
theorem nn_hun {h e : Int32} (hh : nn h 99) (he : nn e 20) : nn (hunS h e) 99 := by
  obtain ⟨a, h1, rfl⟩ := hh
  obtain ⟨b, h2, rfl⟩ := he
  rw [hun_val h1 h2]
  exact ⟨_, by omega, rfl⟩
theorem pl_val {p l h : Nat} (hp : p ≤ 20) (hl : l ≤ 99) (hh : h ≤ 99) : plS (nI p) (nI l) (nI h) = nI (p * l * (h + 20) / 10000) ∧ p * l * (h + 20) ≤ 20 * 99 * 119 := by
  have h1 : p * l ≤ 20 * 99 := Nat.mul_le_mul hp hl
  have h2 : p * l * (h + 20) ≤ 20 * 99 * 119 := Nat.mul_le_mul h1 (by omega)
  unfold plS
  rw [pk_mul, nI_add, pk_mul, pk_div (by omega) (by decide) (by decide)]
  exact ⟨rfl, h2⟩
theorem nI_ne {a b : Nat} (ha : a < 2 ^ 31) (hb : b < 2 ^ 31) (h : a ≠ b) : ¬ nI a = nI b := fun q => h ((nI_eq ha hb).mp q)
/-- what is eaten, before it is held to what was put -/
def eatR (k put like hun : Int32) (fr fnd : Bool) : Int32 :=
  if k = nI 1 then nI 0 else if k = nI 2 then plS put like hun + nI 2 else if k = nI 3 then plS put like hun + nI 5
  else if k = nI 4 ∨ k = nI 5 then (if fr = true then plS put like hun + plS put like hun / nI 2 else plS put like hun)
  else if k = nI 6 then (if fnd = true then nI 0 else put) else plS put like hun
theorem he_min {p n : Nat} (hp : p < 2 ^ 31) (hn : n < 2 ^ 31) : heS (nI n) (nI p) = imin (nI p) (nI n) := by
  unfold heS imin
  rw [if_neg (fun q => absurd ((nI_ltI hn (by decide)).mp q) (by omega))]
  by_cases h : p < n
  · rw [if_pos ((nI_ltI hp hn).mpr h), if_neg (fun q => absurd ((nI_ltI hn hp).mp q) (by omega))]
  · rw [if_neg (fun q => h ((nI_ltI hp hn).mp q))]
    by_cases h2 : n < p
    · rw [if_pos ((nI_ltI hn hp).mpr h2)]
    · rw [if_neg (fun q => h2 ((nI_ltI hn hp).mp q)), show n = p by omega]
theorem eat_val {p l h : Nat} (k : Int32) (fr fnd : Bool) (hp : p ≤ 20) (hl : l ≤ 99) (hh : h ≤ 99) : ∃ n, n < 1000 ∧ eatR k (nI p) (nI l) (nI h) fr fnd = nI n ∧ eatS k (nI p) (nI l) (nI h) fr fnd = imin (nI p) (nI n) := by
  obtain ⟨e1, e2⟩ := pl_val hp hl hh
  have e3 : p * l * (h + 20) / 10000 ≤ 23 := by omega
  generalize p * l * (h + 20) / 10000 = z at e1 e3
  unfold eatR eatS
  rw [e1]
  by_cases k1 : k = nI 1
  · rw [if_pos k1, if_pos k1]
    exact ⟨0, by decide, rfl, by rw [imin_nI (by omega) (by decide), Nat.min_eq_right (by omega)]⟩
  rw [if_neg k1, if_neg k1]
  by_cases k2 : k = nI 2
  · rw [if_pos k2, if_pos k2, nI_add]
    exact ⟨z + 2, by omega, rfl, rfl⟩
  rw [if_neg k2, if_neg k2]
  by_cases k3 : k = nI 3
  · rw [if_pos k3, if_pos k3, nI_add, nI_add, nI_add]
    exact ⟨z + 5, by omega, rfl, rfl⟩
  rw [if_neg k3, if_neg k3]
  by_cases k4 : k = nI 4 ∨ k = nI 5
  · rw [if_pos k4, if_pos k4, pk_div (by omega) (by decide) (by decide), nI_add]
    by_cases q : fr = true
    · rw [if_pos q]
      exact ⟨_, by omega, rfl, rfl⟩
    · rw [if_neg q]
      exact ⟨z, by omega, rfl, rfl⟩
  rw [if_neg k4, if_neg k4]
  by_cases k6 : k = nI 6
  · rw [if_pos k6, if_pos k6]
    by_cases q : fnd = true
    · rw [if_pos q]
      exact ⟨0, by decide, rfl, by rw [imin_nI (by omega) (by decide), Nat.min_eq_right (by omega)]⟩
    · rw [if_neg q]
      exact ⟨p, by omega, rfl, by rw [imin_nI (by omega) (by omega), Nat.min_self]⟩
  rw [if_neg k6, if_neg k6]
  exact ⟨z, by omega, rfl, rfl⟩
theorem nn_eat {put like hun : Int32} (k : Int32) (fr fnd : Bool) (hp : nn put 20) (hl : nn like 99) (hh : nn hun 99) : nn (eatS k put like hun fr fnd) 20 := by
  obtain ⟨p, h1, rfl⟩ := hp
  obtain ⟨l, h2, rfl⟩ := hl
  obtain ⟨h, h3, rfl⟩ := hh
  obtain ⟨n, e1, e2, e3⟩ := eat_val k fr fnd h1 h2 h3
  rw [e3, imin_nI (by omega) (by omega)]
  exact ⟨_, by omega, rfl⟩
theorem he_eat {put like hun : Int32} (k : Int32) (fr fnd : Bool) (hp : nn put 20) (hl : nn like 99) (hh : nn hun 99) : heS (eatR k put like hun fr fnd) put = eatS k put like hun fr fnd := by
  obtain ⟨p, h1, rfl⟩ := hp
  obtain ⟨l, h2, rfl⟩ := hl
  obtain ⟨h, h3, rfl⟩ := hh
  obtain ⟨n, e1, e2, e3⟩ := eat_val k fr fnd h1 h2 h3
  rw [e3, e2, he_min (by omega) (by omega)]
theorem he_clamp {b : Nat} (hb : b < 2 ^ 31) (x : Int32) : heS x (nI b) = imax (nI 0) (imin (nI b) x) := by
  by_cases h : x < nI 0
  · obtain ⟨j, h1, h2, h3, h4⟩ := imax0 (imin (nI b) x)
    have e : imin (nI b) x = x := by
      unfold imin
      rw [if_pos (Int32.lt_of_lt_of_le h (nI_le (Nat.zero_le b) hb))]
    rw [h2, h3 (by rw [e]; exact h)]
    unfold heS
    rw [if_pos h]
  · obtain ⟨n, h1, rfl⟩ := nI_nn h
    rw [imin_nI hb h1, imax_nI (by decide) (by omega), Nat.zero_max, he_min hb h1, imin_nI hb h1]
theorem he_lk (x : Int32) : heS x (nI 99) = lkS x := he_clamp (by decide) x
theorem he_wei (w e : Int32) : heS (w + e - nI 4) (nI 9999) = weiS w e := he_clamp (by decide) _
theorem he_hun {h e : Int32} (hh : nn h 99) (he : nn e 20) : heS (heS (h - nI 3 * e) (nI 99) + nI 12) (nI 99) = hunS h e := by
  obtain ⟨a, h1, rfl⟩ := hh
  obtain ⟨b, h2, rfl⟩ := he
  rw [hun_val h1 h2, he_clamp (by decide) (_ - _), pk_mul]
  have e : imax (nI 0) (imin (nI 99) (nI a - nI (3 * b))) = nI (a - 3 * b) := by
    rcases sub_cases (a := a) (b := 3 * b) (by omega) (by omega) with ⟨h, e⟩ | ⟨h, e⟩
    · rw [e, imin_nI (by decide) (by omega), imax_nI (by decide) (by omega), Nat.zero_max, Nat.min_eq_right (by omega)]
    · obtain ⟨j, g1, g2, g3, g4⟩ := imax0 (imin (nI 99) (nI a - nI (3 * b)))
      have e2 : imin (nI 99) (nI a - nI (3 * b)) = nI a - nI (3 * b) := by
        unfold imin
        rw [if_pos (Int32.lt_trans e (nI_lt (by decide) (by decide)))]
      rw [g2, g3 (by rw [e2]; exact e), show a - 3 * b = 0 by omega]
  rw [e, nI_add, he_min (by decide) (by omega), imin_nI (by decide) (by omega)]
theorem nn_tri {x : Int32} (h : nn x 999) : nn (imin (nI 999) (x + nI 1)) 999 := by
  obtain ⟨n, h1, rfl⟩ := h
  rw [nI_add, imin_nI (by decide) (by omega)]
  exact ⟨_, by omega, rfl⟩
theorem he_tri {x : Int32} (h : nn x 999) : heS (x + nI 1) (nI 999) = imin (nI 999) (x + nI 1) := by
  obtain ⟨n, h1, rfl⟩ := h
  rw [nI_add, he_min (by decide) (by omega)]
/-! the invariant goes on -/
theorem Inv.like {b : Nat} {μ : MU} (h : Inv b μ) {x : Nat} (hx : x < 10) {v : Int32} (hv : nn v 99) : Inv b (upd μ (10 + 3 * x) v) := by
  obtain ⟨hm, ⟨s1, s2, s3, s4, s5, s6⟩, hn, hf, ht, hb⟩ := h
  simp only [Inv]
  rw [upd_ne (show ¬ 0 = 10 + 3 * x by omega), upd_ne (show ¬ 9 = 10 + 3 * x by omega), upd_ne (show ¬ 2 = 10 + 3 * x by omega), upd_ne (show ¬ 3 = 10 + 3 * x by omega), upd_ne (show ¬ 4 = 10 + 3 * x by omega), upd_ne (show ¬ 5 = 10 + 3 * x by omega), upd_ne (show ¬ 6 = 10 + 3 * x by omega), upd_ne (show ¬ 7 = 10 + 3 * x by omega), upd_ne (show ¬ 8 = 10 + 3 * x by omega)]
  refine ⟨hm, ⟨s1, s2, s3, s4, s5, s6⟩, ?_, fun f q => ⟨?_, ?_, ?_⟩, fun t q => ⟨?_, ?_, ?_⟩, fun k q => ?_⟩
  · exact hn
  · by_cases e : f = x
    · subst e; rw [upd_eq]; exact hv
    · rw [upd_ne (by omega)]; exact (hf f q).1
  · rw [upd_ne (by omega)]; exact (hf f q).2.1
  · rw [upd_ne (by omega)]; exact (hf f q).2.2
  · rw [upd_ne (by omega)]; exact (ht t q).1
  · rw [upd_ne (by omega)]; exact (ht t q).2.1
  · rw [upd_ne (by omega)]; exact (ht t q).2.2
  · rw [upd_ne (by omega)]; exact hb k q
theorem Inv.bit {b : Nat} {μ : MU} (h : Inv b μ) {x : Nat} (hx : x < 10) {v : Int32} (hv : nn v 9) : Inv b (upd μ (11 + 3 * x) v) := by
  obtain ⟨hm, ⟨s1, s2, s3, s4, s5, s6⟩, hn, hf, ht, hb⟩ := h
  simp only [Inv]
  rw [upd_ne (show ¬ 0 = 11 + 3 * x by omega), upd_ne (show ¬ 9 = 11 + 3 * x by omega), upd_ne (show ¬ 2 = 11 + 3 * x by omega), upd_ne (show ¬ 3 = 11 + 3 * x by omega), upd_ne (show ¬ 4 = 11 + 3 * x by omega), upd_ne (show ¬ 5 = 11 + 3 * x by omega), upd_ne (show ¬ 6 = 11 + 3 * x by omega), upd_ne (show ¬ 7 = 11 + 3 * x by omega), upd_ne (show ¬ 8 = 11 + 3 * x by omega)]
  refine ⟨hm, ⟨s1, s2, s3, s4, s5, s6⟩, ?_, fun f q => ⟨?_, ?_, ?_⟩, fun t q => ⟨?_, ?_, ?_⟩, fun k q => ?_⟩
  · exact hn
  · rw [upd_ne (by omega)]; exact (hf f q).1
  · by_cases e : f = x
    · subst e; rw [upd_eq]; exact hv
    · rw [upd_ne (by omega)]; exact (hf f q).2.1
  · rw [upd_ne (by omega)]; exact (hf f q).2.2
  · rw [upd_ne (by omega)]; exact (ht t q).1
  · rw [upd_ne (by omega)]; exact (ht t q).2.1
  · rw [upd_ne (by omega)]; exact (ht t q).2.2
  · rw [upd_ne (by omega)]; exact hb k q
theorem Inv.tri {b : Nat} {μ : MU} (h : Inv b μ) {x : Nat} (hx : x < 10) {v : Int32} (hv : nn v 999) : Inv b (upd μ (12 + 3 * x) v) := by
  obtain ⟨hm, ⟨s1, s2, s3, s4, s5, s6⟩, hn, hf, ht, hb⟩ := h
  simp only [Inv]
  rw [upd_ne (show ¬ 0 = 12 + 3 * x by omega), upd_ne (show ¬ 9 = 12 + 3 * x by omega), upd_ne (show ¬ 2 = 12 + 3 * x by omega), upd_ne (show ¬ 3 = 12 + 3 * x by omega), upd_ne (show ¬ 4 = 12 + 3 * x by omega), upd_ne (show ¬ 5 = 12 + 3 * x by omega), upd_ne (show ¬ 6 = 12 + 3 * x by omega), upd_ne (show ¬ 7 = 12 + 3 * x by omega), upd_ne (show ¬ 8 = 12 + 3 * x by omega)]
  refine ⟨hm, ⟨s1, s2, s3, s4, s5, s6⟩, ?_, fun f q => ⟨?_, ?_, ?_⟩, fun t q => ⟨?_, ?_, ?_⟩, fun k q => ?_⟩
  · exact hn
  · rw [upd_ne (by omega)]; exact (hf f q).1
  · rw [upd_ne (by omega)]; exact (hf f q).2.1
  · by_cases e : f = x
    · subst e; rw [upd_eq]; exact hv
    · rw [upd_ne (by omega)]; exact (hf f q).2.2
  · rw [upd_ne (by omega)]; exact (ht t q).1
  · rw [upd_ne (by omega)]; exact (ht t q).2.1
  · rw [upd_ne (by omega)]; exact (ht t q).2.2
  · rw [upd_ne (by omega)]; exact hb k q
theorem Inv.kin {b : Nat} {μ : MU} (h : Inv b μ) {x : Nat} (hx : x < 10) {v : Int32} (hv : nn v 6) : Inv b (upd μ (40 + 3 * x) v) := by
  obtain ⟨hm, ⟨s1, s2, s3, s4, s5, s6⟩, hn, hf, ht, hb⟩ := h
  simp only [Inv]
  rw [upd_ne (show ¬ 0 = 40 + 3 * x by omega), upd_ne (show ¬ 9 = 40 + 3 * x by omega), upd_ne (show ¬ 2 = 40 + 3 * x by omega), upd_ne (show ¬ 3 = 40 + 3 * x by omega), upd_ne (show ¬ 4 = 40 + 3 * x by omega), upd_ne (show ¬ 5 = 40 + 3 * x by omega), upd_ne (show ¬ 6 = 40 + 3 * x by omega), upd_ne (show ¬ 7 = 40 + 3 * x by omega), upd_ne (show ¬ 8 = 40 + 3 * x by omega)]
  refine ⟨hm, ⟨s1, s2, s3, s4, s5, s6⟩, ?_, fun f q => ⟨?_, ?_, ?_⟩, fun t q => ⟨?_, ?_, ?_⟩, fun k q => ?_⟩
  · exact hn
  · rw [upd_ne (by omega)]; exact (hf f q).1
  · rw [upd_ne (by omega)]; exact (hf f q).2.1
  · rw [upd_ne (by omega)]; exact (hf f q).2.2
  · by_cases e : t = x
    · subst e; rw [upd_eq]; exact hv
    · rw [upd_ne (by omega)]; exact (ht t q).1
  · rw [upd_ne (by omega)]; exact (ht t q).2.1
  · rw [upd_ne (by omega)]; exact (ht t q).2.2
  · rw [upd_ne (by omega)]; exact hb k q
theorem Inv.foo {b : Nat} {μ : MU} (h : Inv b μ) {x : Nat} (hx : x < 10) {v : Int32} (hv : nn v 9) : Inv b (upd μ (41 + 3 * x) v) := by
  obtain ⟨hm, ⟨s1, s2, s3, s4, s5, s6⟩, hn, hf, ht, hb⟩ := h
  simp only [Inv]
  rw [upd_ne (show ¬ 0 = 41 + 3 * x by omega), upd_ne (show ¬ 9 = 41 + 3 * x by omega), upd_ne (show ¬ 2 = 41 + 3 * x by omega), upd_ne (show ¬ 3 = 41 + 3 * x by omega), upd_ne (show ¬ 4 = 41 + 3 * x by omega), upd_ne (show ¬ 5 = 41 + 3 * x by omega), upd_ne (show ¬ 6 = 41 + 3 * x by omega), upd_ne (show ¬ 7 = 41 + 3 * x by omega), upd_ne (show ¬ 8 = 41 + 3 * x by omega)]
  refine ⟨hm, ⟨s1, s2, s3, s4, s5, s6⟩, ?_, fun f q => ⟨?_, ?_, ?_⟩, fun t q => ⟨?_, ?_, ?_⟩, fun k q => ?_⟩
  · exact hn
  · rw [upd_ne (by omega)]; exact (hf f q).1
  · rw [upd_ne (by omega)]; exact (hf f q).2.1
  · rw [upd_ne (by omega)]; exact (hf f q).2.2
  · rw [upd_ne (by omega)]; exact (ht t q).1
  · by_cases e : t = x
    · subst e; rw [upd_eq]; exact hv
    · rw [upd_ne (by omega)]; exact (ht t q).2.1
  · rw [upd_ne (by omega)]; exact (ht t q).2.2
  · rw [upd_ne (by omega)]; exact hb k q
theorem Inv.put {b : Nat} {μ : MU} (h : Inv b μ) {x : Nat} (hx : x < 10) {v : Int32} (hv : nn v 20) : Inv b (upd μ (42 + 3 * x) v) := by
  obtain ⟨hm, ⟨s1, s2, s3, s4, s5, s6⟩, hn, hf, ht, hb⟩ := h
  simp only [Inv]
  rw [upd_ne (show ¬ 0 = 42 + 3 * x by omega), upd_ne (show ¬ 9 = 42 + 3 * x by omega), upd_ne (show ¬ 2 = 42 + 3 * x by omega), upd_ne (show ¬ 3 = 42 + 3 * x by omega), upd_ne (show ¬ 4 = 42 + 3 * x by omega), upd_ne (show ¬ 5 = 42 + 3 * x by omega), upd_ne (show ¬ 6 = 42 + 3 * x by omega), upd_ne (show ¬ 7 = 42 + 3 * x by omega), upd_ne (show ¬ 8 = 42 + 3 * x by omega)]
  refine ⟨hm, ⟨s1, s2, s3, s4, s5, s6⟩, ?_, fun f q => ⟨?_, ?_, ?_⟩, fun t q => ⟨?_, ?_, ?_⟩, fun k q => ?_⟩
  · exact hn
  · rw [upd_ne (by omega)]; exact (hf f q).1
  · rw [upd_ne (by omega)]; exact (hf f q).2.1
  · rw [upd_ne (by omega)]; exact (hf f q).2.2
  · rw [upd_ne (by omega)]; exact (ht t q).1
  · rw [upd_ne (by omega)]; exact (ht t q).2.1
  · by_cases e : t = x
    · subst e; rw [upd_eq]; exact hv
    · rw [upd_ne (by omega)]; exact (ht t q).2.2
  · rw [upd_ne (by omega)]; exact hb k q
theorem Inv.bent {b : Nat} {μ : MU} (h : Inv b μ)  {v : Int32} (hv : nn v 9) : Inv b (upd μ (2) v) := by
  obtain ⟨hm, ⟨s1, s2, s3, s4, s5, s6⟩, hn, hf, ht, hb⟩ := h
  simp only [Inv]
  rw [upd_ne (show ¬ 0 = 2 by omega), upd_ne (show ¬ 9 = 2 by omega), upd_ne (show ¬ 3 = 2 by omega), upd_ne (show ¬ 4 = 2 by omega), upd_ne (show ¬ 5 = 2 by omega), upd_ne (show ¬ 6 = 2 by omega), upd_ne (show ¬ 7 = 2 by omega), upd_ne (show ¬ 8 = 2 by omega)]
  rw [upd_eq]
  refine ⟨hm, ⟨hv, s2, s3, s4, s5, s6⟩, ?_, fun f q => ⟨?_, ?_, ?_⟩, fun t q => ⟨?_, ?_, ?_⟩, fun k q => ?_⟩
  · exact hn
  · rw [upd_ne (by omega)]; exact (hf f q).1
  · rw [upd_ne (by omega)]; exact (hf f q).2.1
  · rw [upd_ne (by omega)]; exact (hf f q).2.2
  · rw [upd_ne (by omega)]; exact (ht t q).1
  · rw [upd_ne (by omega)]; exact (ht t q).2.1
  · rw [upd_ne (by omega)]; exact (ht t q).2.2
  · rw [upd_ne (by omega)]; exact hb k q
theorem Inv.hun {b : Nat} {μ : MU} (h : Inv b μ)  {v : Int32} (hv : nn v 99) : Inv b (upd μ (3) v) := by
  obtain ⟨hm, ⟨s1, s2, s3, s4, s5, s6⟩, hn, hf, ht, hb⟩ := h
  simp only [Inv]
  rw [upd_ne (show ¬ 0 = 3 by omega), upd_ne (show ¬ 9 = 3 by omega), upd_ne (show ¬ 2 = 3 by omega), upd_ne (show ¬ 4 = 3 by omega), upd_ne (show ¬ 5 = 3 by omega), upd_ne (show ¬ 6 = 3 by omega), upd_ne (show ¬ 7 = 3 by omega), upd_ne (show ¬ 8 = 3 by omega)]
  rw [upd_eq]
  refine ⟨hm, ⟨s1, hv, s3, s4, s5, s6⟩, ?_, fun f q => ⟨?_, ?_, ?_⟩, fun t q => ⟨?_, ?_, ?_⟩, fun k q => ?_⟩
  · exact hn
  · rw [upd_ne (by omega)]; exact (hf f q).1
  · rw [upd_ne (by omega)]; exact (hf f q).2.1
  · rw [upd_ne (by omega)]; exact (hf f q).2.2
  · rw [upd_ne (by omega)]; exact (ht t q).1
  · rw [upd_ne (by omega)]; exact (ht t q).2.1
  · rw [upd_ne (by omega)]; exact (ht t q).2.2
  · rw [upd_ne (by omega)]; exact hb k q
theorem Inv.wei {b : Nat} {μ : MU} (h : Inv b μ)  {v : Int32} (hv : nn v 9999) : Inv b (upd μ (4) v) := by
  obtain ⟨hm, ⟨s1, s2, s3, s4, s5, s6⟩, hn, hf, ht, hb⟩ := h
  simp only [Inv]
  rw [upd_ne (show ¬ 0 = 4 by omega), upd_ne (show ¬ 9 = 4 by omega), upd_ne (show ¬ 2 = 4 by omega), upd_ne (show ¬ 3 = 4 by omega), upd_ne (show ¬ 5 = 4 by omega), upd_ne (show ¬ 6 = 4 by omega), upd_ne (show ¬ 7 = 4 by omega), upd_ne (show ¬ 8 = 4 by omega)]
  rw [upd_eq]
  refine ⟨hm, ⟨s1, s2, hv, s4, s5, s6⟩, ?_, fun f q => ⟨?_, ?_, ?_⟩, fun t q => ⟨?_, ?_, ?_⟩, fun k q => ?_⟩
  · exact hn
  · rw [upd_ne (by omega)]; exact (hf f q).1
  · rw [upd_ne (by omega)]; exact (hf f q).2.1
  · rw [upd_ne (by omega)]; exact (hf f q).2.2
  · rw [upd_ne (by omega)]; exact (ht t q).1
  · rw [upd_ne (by omega)]; exact (ht t q).2.1
  · rw [upd_ne (by omega)]; exact (ht t q).2.2
  · rw [upd_ne (by omega)]; exact hb k q
theorem Inv.line {b : Nat} {μ : MU} (h : Inv b μ)  {v : Int32} (hv : nn v 99) : Inv b (upd μ (5) v) := by
  obtain ⟨hm, ⟨s1, s2, s3, s4, s5, s6⟩, hn, hf, ht, hb⟩ := h
  simp only [Inv]
  rw [upd_ne (show ¬ 0 = 5 by omega), upd_ne (show ¬ 9 = 5 by omega), upd_ne (show ¬ 2 = 5 by omega), upd_ne (show ¬ 3 = 5 by omega), upd_ne (show ¬ 4 = 5 by omega), upd_ne (show ¬ 6 = 5 by omega), upd_ne (show ¬ 7 = 5 by omega), upd_ne (show ¬ 8 = 5 by omega)]
  rw [upd_eq]
  refine ⟨hm, ⟨s1, s2, s3, hv, s5, s6⟩, ?_, fun f q => ⟨?_, ?_, ?_⟩, fun t q => ⟨?_, ?_, ?_⟩, fun k q => ?_⟩
  · exact hn
  · rw [upd_ne (by omega)]; exact (hf f q).1
  · rw [upd_ne (by omega)]; exact (hf f q).2.1
  · rw [upd_ne (by omega)]; exact (hf f q).2.2
  · rw [upd_ne (by omega)]; exact (ht t q).1
  · rw [upd_ne (by omega)]; exact (ht t q).2.1
  · rw [upd_ne (by omega)]; exact (ht t q).2.2
  · rw [upd_ne (by omega)]; exact hb k q
theorem Inv.pud {b : Nat} {μ : MU} (h : Inv b μ)  {v : Int32} (hv : v = -1 ∨ nn v 9) : Inv b (upd μ (6) v) := by
  obtain ⟨hm, ⟨s1, s2, s3, s4, s5, s6⟩, hn, hf, ht, hb⟩ := h
  simp only [Inv]
  rw [upd_ne (show ¬ 0 = 6 by omega), upd_ne (show ¬ 9 = 6 by omega), upd_ne (show ¬ 2 = 6 by omega), upd_ne (show ¬ 3 = 6 by omega), upd_ne (show ¬ 4 = 6 by omega), upd_ne (show ¬ 5 = 6 by omega), upd_ne (show ¬ 7 = 6 by omega), upd_ne (show ¬ 8 = 6 by omega)]
  rw [upd_eq]
  refine ⟨hm, ⟨s1, s2, s3, s4, hv, s6⟩, ?_, fun f q => ⟨?_, ?_, ?_⟩, fun t q => ⟨?_, ?_, ?_⟩, fun k q => ?_⟩
  · exact hn
  · rw [upd_ne (by omega)]; exact (hf f q).1
  · rw [upd_ne (by omega)]; exact (hf f q).2.1
  · rw [upd_ne (by omega)]; exact (hf f q).2.2
  · rw [upd_ne (by omega)]; exact (ht t q).1
  · rw [upd_ne (by omega)]; exact (ht t q).2.1
  · rw [upd_ne (by omega)]; exact (ht t q).2.2
  · rw [upd_ne (by omega)]; exact hb k q
theorem Inv.fri {b : Nat} {μ : MU} (h : Inv b μ)  {v : Int32} (hv : nn v 1023) : Inv b (upd μ (7) v) := by
  obtain ⟨hm, ⟨s1, s2, s3, s4, s5, s6⟩, hn, hf, ht, hb⟩ := h
  simp only [Inv]
  rw [upd_ne (show ¬ 0 = 7 by omega), upd_ne (show ¬ 9 = 7 by omega), upd_ne (show ¬ 2 = 7 by omega), upd_ne (show ¬ 3 = 7 by omega), upd_ne (show ¬ 4 = 7 by omega), upd_ne (show ¬ 5 = 7 by omega), upd_ne (show ¬ 6 = 7 by omega), upd_ne (show ¬ 8 = 7 by omega)]
  rw [upd_eq]
  refine ⟨hm, ⟨s1, s2, s3, s4, s5, hv⟩, ?_, fun f q => ⟨?_, ?_, ?_⟩, fun t q => ⟨?_, ?_, ?_⟩, fun k q => ?_⟩
  · exact hn
  · rw [upd_ne (by omega)]; exact (hf f q).1
  · rw [upd_ne (by omega)]; exact (hf f q).2.1
  · rw [upd_ne (by omega)]; exact (hf f q).2.2
  · rw [upd_ne (by omega)]; exact (ht t q).1
  · rw [upd_ne (by omega)]; exact (ht t q).2.1
  · rw [upd_ne (by omega)]; exact (ht t q).2.2
  · rw [upd_ne (by omega)]; exact hb k q
theorem Inv.z {b : Nat} {μ : MU} (h : Inv b μ)  {v : Int32}  : Inv b (upd μ (1) v) := by
  obtain ⟨hm, ⟨s1, s2, s3, s4, s5, s6⟩, hn, hf, ht, hb⟩ := h
  simp only [Inv]
  rw [upd_ne (show ¬ 0 = 1 by omega), upd_ne (show ¬ 9 = 1 by omega), upd_ne (show ¬ 2 = 1 by omega), upd_ne (show ¬ 3 = 1 by omega), upd_ne (show ¬ 4 = 1 by omega), upd_ne (show ¬ 5 = 1 by omega), upd_ne (show ¬ 6 = 1 by omega), upd_ne (show ¬ 7 = 1 by omega), upd_ne (show ¬ 8 = 1 by omega)]
  refine ⟨hm, ⟨s1, s2, s3, s4, s5, s6⟩, ?_, fun f q => ⟨?_, ?_, ?_⟩, fun t q => ⟨?_, ?_, ?_⟩, fun k q => ?_⟩
  · exact hn
  · rw [upd_ne (by omega)]; exact (hf f q).1
  · rw [upd_ne (by omega)]; exact (hf f q).2.1
  · rw [upd_ne (by omega)]; exact (hf f q).2.2
  · rw [upd_ne (by omega)]; exact (ht t q).1
  · rw [upd_ne (by omega)]; exact (ht t q).2.1
  · rw [upd_ne (by omega)]; exact (ht t q).2.2
  · rw [upd_ne (by omega)]; exact hb k q
theorem Inv.spo {b : Nat} {μ : MU} (h : Inv b μ) {x : Nat} (hx : x < 10) {v : Int32} : Inv b (upd μ (70 + x) v) := by
  obtain ⟨hm, ⟨s1, s2, s3, s4, s5, s6⟩, hn, hf, ht, hb⟩ := h
  simp only [Inv]
  rw [upd_ne (show ¬ 0 = 70 + x by omega), upd_ne (show ¬ 9 = 70 + x by omega), upd_ne (show ¬ 2 = 70 + x by omega), upd_ne (show ¬ 3 = 70 + x by omega), upd_ne (show ¬ 4 = 70 + x by omega), upd_ne (show ¬ 5 = 70 + x by omega), upd_ne (show ¬ 6 = 70 + x by omega), upd_ne (show ¬ 7 = 70 + x by omega), upd_ne (show ¬ 8 = 70 + x by omega)]
  refine ⟨hm, ⟨s1, s2, s3, s4, s5, s6⟩, ?_, fun f q => ⟨?_, ?_, ?_⟩, fun t q => ⟨?_, ?_, ?_⟩, fun k q => ?_⟩
  · exact hn
  · rw [upd_ne (by omega)]; exact (hf f q).1
  · rw [upd_ne (by omega)]; exact (hf f q).2.1
  · rw [upd_ne (by omega)]; exact (hf f q).2.2
  · rw [upd_ne (by omega)]; exact (ht t q).1
  · rw [upd_ne (by omega)]; exact (ht t q).2.1
  · rw [upd_ne (by omega)]; exact (ht t q).2.2
  · rw [upd_ne (by omega)]; exact hb k q
theorem nb_val {m : Nat} : heS (nI (if m < 35 then m else 35) + nI 1) (nI 35) = nI (if m + 1 < 35 then m + 1 else 35) := by
  rw [nI_add, he_min (by decide) (by split <;> omega), imin_nI (by decide) (by split <;> omega)]
  congr 1
  split <;> split <;> omega
theorem Inv.meal {b : Nat} {μ : MU} (h : Inv b μ) {e : Int32} (he : nn e 20) : Inv (b + 1) (mealE μ e) := by
  have h2 := (h.hun (nn_hun h.2.1.2.1 he)).wei (v := weiS (μ 4) e) (nn_wei _ _)
  obtain ⟨⟨m, m1, m2, m3⟩, hs, hn, hf, ht, hb⟩ := h2
  have e9 : μ 9 = upd (upd μ 3 (hunS (μ 3) e)) 4 (weiS (μ 4) e) 9 := rfl
  have e0 : μ 0 = upd (upd μ 3 (hunS (μ 3) e)) 4 (weiS (μ 4) e) 0 := rfl
  unfold mealE
  rw [e9, e0]
  generalize upd (upd μ 3 (hunS (μ 3) e)) 4 (weiS (μ 4) e) = ν at *
  have lo : ∀ k, ¬ k = 0 → ¬ k = 9 → k < 80 → upd (upd (shf ν e) 9 (heS (ν 9 + nI 1) (nI 35))) 0 (ν 0 + nI 1) k = ν k := by
    intro k h1 h2 h3
    rw [upd_ne h1, upd_ne h2]
    simp only [shf]
    rw [if_neg (by omega), if_neg (by omega)]
  simp only [Inv]
  rw [lo 2 (by decide) (by decide) (by decide), lo 3 (by decide) (by decide) (by decide), lo 4 (by decide) (by decide) (by decide), lo 5 (by decide) (by decide) (by decide), lo 6 (by decide) (by decide) (by decide), lo 7 (by decide) (by decide) (by decide), lo 8 (by decide) (by decide) (by decide), upd_eq, upd_ne (show ¬ (9 : Nat) = 0 by decide), upd_eq]
  refine ⟨⟨m + 1, by omega, by rw [m2, nI_add], by rw [m3]; exact nb_val⟩, hs, ?_, fun f q => ⟨?_, ?_, ?_⟩, fun t q => ⟨?_, ?_, ?_⟩, fun k q => ?_⟩
  · exact hn
  · rw [lo _ (by omega) (by omega) (by omega)]; exact (hf f q).1
  · rw [lo _ (by omega) (by omega) (by omega)]; exact (hf f q).2.1
  · rw [lo _ (by omega) (by omega) (by omega)]; exact (hf f q).2.2
  · rw [lo _ (by omega) (by omega) (by omega)]; exact (ht t q).1
  · rw [lo _ (by omega) (by omega) (by omega)]; exact (ht t q).2.1
  · rw [lo _ (by omega) (by omega) (by omega)]; exact (ht t q).2.2
  · rw [upd_ne (by omega), upd_ne (by omega)]
    simp only [shf]
    by_cases hk : k = 0
    · rw [if_pos (by omega)]; exact he
    · rw [if_neg (by omega), if_pos (by omega), show 80 + k - 1 = 80 + (k - 1) by omega]
      exact hb (k - 1) (by omega)
theorem Inv.le {b b' : Nat} {μ : MU} (h : Inv b μ) (hb : b ≤ b') : Inv b' μ := by
  obtain ⟨⟨m, m1, m2⟩, h2⟩ := h
  exact ⟨⟨m, by omega, m2⟩, h2⟩
theorem Inv.fd {b : Nat} {μ : MU} (h : Inv b μ) {t : Nat} (ht : t < 10) : cl (μ (41 + 3 * t)) < 10 ∧ μ (41 + 3 * t) = nI (cl (μ (41 + 3 * t))) := by
  have h2 := nn_cl (h.2.2.2.2.1 t ht).2.1 (by decide)
  exact ⟨by have := h2.1; simp only [cl]; omega, h2.2⟩
theorem srv_z {μ : MU} {t f k : Nat} (hk : ¬ k = 1) : srvM μ t f k = μ k := by
  unfold srvM
  split
  · exact upd_ne hk
  · rfl
theorem Inv.srvM {b : Nat} {μ : MU} (h : Inv b μ) (t f : Nat) : Inv b (srvM μ t f) := by
  unfold Jvm.Pilot.CPeaSpoonsLaw_law_r1469_87ba7e.srvM
  split
  · exact h.z
  · exact h
theorem Inv.srvL {b : Nat} {μ : MU} (h : Inv b μ) (t : Nat) {f : Nat} (hf : f < 10) : Inv b (srvL μ t f) := (h.srvM t f).like hf (nn_lk _)
theorem Inv.pd {b : Nat} {μ : MU} (h : Inv b μ) (hp : ¬ μ 6 < nI 0) : cl (μ 6) < 10 ∧ μ 6 = nI (cl (μ 6)) := by
  rcases h.2.1.2.2.2.2.1 with q | q
  · exact absurd (by rw [q]; decide +kernel) hp
  · have h2 := nn_cl q (by decide)
    exact ⟨by have := h2.1; simp only [cl]; omega, h2.2⟩
theorem Inv.srvP {b : Nat} {μ : MU} (h : Inv b μ) (t : Nat) {f : Nat} (hf : f < 10) : Inv b (srvP μ t f) := by
  unfold Jvm.Pilot.CPeaSpoonsLaw_law_r1469_87ba7e.srvP
  split
  · next q => exact (h.srvL t hf).like (h.pd q.2).1 (nn_lk _)
  · exact h.srvL t hf
theorem Inv.srv {b : Nat} {μ : MU} (h : Inv b μ) {t : Nat} (ht : t < 10) : Inv b (srvF μ t).2 ∧ nn (srvF μ t).1 20 := by
  have hf := (h.fd ht).1
  exact ⟨(h.srvP t hf).tri hf (nn_tri (h.2.2.2.1 _ hf).2.2), nn_eat _ _ _ (h.2.2.2.2.1 t ht).2.2 (h.2.2.2.1 _ hf).1 h.2.1.2.1⟩
theorem Inv.served {b : Nat} {μ : MU} (h : Inv b μ) (hb : b < 2 ^ 30) : (μ 8 = nI 0 ∧ servN μ = none) ∨ ∃ m n, m ≤ b ∧ 0 < n ∧ n ≤ 10 ∧ μ 0 = nI m ∧ μ 8 = nI n ∧ servN μ = some (m % n) := by
  obtain ⟨⟨m, m1, m2, m3⟩, hs, ⟨n, n1, n2⟩, -⟩ := h
  unfold servN
  by_cases q : n = 0
  · subst q
    rw [if_pos n2]
    exact Or.inl ⟨n2, rfl⟩
  · refine Or.inr ⟨m, n, m1, by omega, n1, m2, n2, ?_⟩
    rw [if_neg (by rw [n2]; exact nI_ne (by omega) (by decide) q), m2, n2]
    simp only [cl]
    rw [nI_clamp (by omega), nI_clamp (by omega)]
theorem Inv.mealT {b : Nat} {μ : MU} (h : Inv b μ) {o : Option Nat} (ho : ∀ t, o = some t → t < 10) : Inv (b + 1) (mealF μ o).2 ∧ nn (mealF μ o).1 20 := by
  cases o with
  | none => exact ⟨h.meal (nn_mk (by decide)), nn_mk (by decide)⟩
  | some t =>
    have h2 := h.srv (ho t rfl)
    exact ⟨h2.1.meal h2.2, h2.2⟩
theorem Inv.step {b : Nat} {μ : MU} (h : Inv b μ) (hb : b < 2 ^ 30) : Inv (b + 1) (stepF μ).2 ∧ nn (stepF μ).1 20 := by
  unfold stepF
  refine h.mealT (fun t q => ?_)
  rcases h.served hb with ⟨-, e⟩ | ⟨m, n, h1, h2, h3, -, -, e⟩
  · rw [e] at q; cases q
  · rw [e] at q
    cases q
    exact Nat.lt_of_lt_of_le (Nat.mod_lt _ h2) h3
theorem Inv.go {b : Nat} {μ : MU} (h : Inv b μ) : ∀ (n : Nat), b + n < 2 ^ 30 → Inv (b + n) (goF μ n).2
  | 0, _ => h
  | n + 1, hn => ((h.go n (by omega)).step (by omega)).1
/-! what a taste eats and moves now -/
def eatT (μ : MU) (t : Nat) (fb : Bool) : Int32 := eatS (μ (40 + 3 * t)) (μ (42 + 3 * t)) (μ (10 + 3 * cl (μ (41 + 3 * t)))) (μ 3) (frS (μ 7) (cl (μ (41 + 3 * t)))) fb
def movT (μ : MU) (t : Nat) (fb : Bool) : Int32 := movS (μ (40 + 3 * t)) (μ (11 + 3 * cl (μ (41 + 3 * t)))) (μ 2) (frS (μ 7) (cl (μ (41 + 3 * t)))) fb
theorem eatT_z {μ : MU} {t t' f : Nat} {fb : Bool} : eatT (srvM μ t' f) t fb = eatT μ t fb := by
  unfold eatT
  rw [srv_z (by omega), srv_z (by omega), srv_z (by omega), srv_z (by omega), srv_z (by omega), srv_z (by omega)]
theorem movT_z {μ : MU} {t t' f : Nat} {fb : Bool} : movT (srvM μ t' f) t fb = movT μ t fb := by
  unfold movT
  rw [srv_z (by omega), srv_z (by omega), srv_z (by omega), srv_z (by omega), srv_z (by omega)]
def bcF (x : Int32) : Int32 :=
  let s (a : Int32) (k : Nat) : Int32 := (a.toUInt32 >>> ((nI k).toUInt32 &&& Int32.toUInt32 31)).toInt32
  let a := x - (s x 1 &&& nI 1431655765)
  let b := (a &&& nI 858993459) + (s a 2 &&& nI 858993459)
  let c := (b + s b 4) &&& nI 252645135
  let d := c + s c 8
  let e := d + s d 16
  e &&& nI 63
def cnt10 (k : Nat) : Nat := (List.range 10).countP (fun f => k.testBit f)
theorem bc_val : ∀ k, k < 1024 → bcF (nI k) = nI (cnt10 k) := by decide +kernel
theorem fm_b : ∀ m, m < 35 → ∀ k, k < 35 → m < k + 1 → ¬ (0 : Int32) ≤ (nI m - nI 1 - nI k) ^^^ nI 35 ∧ (irm (nI m - nI 1 - nI k) (nI 35) = 0 → irm (nI m - nI 1 - nI k) (nI 35) = nI (rix m k)) ∧ (¬ irm (nI m - nI 1 - nI k) (nI 35) = 0 → irm (nI m - nI 1 - nI k) (nI 35) + nI 35 = nI (rix m k)) := by decide +kernel
theorem fm_a {m k : Nat} (hm : m < 2 ^ 30) (hk : k + 1 ≤ m) (hk2 : k < 35) : (0 : Int32) ≤ (nI m - nI 1 - nI k) ^^^ nI 35 ∧ irm (nI m - nI 1 - nI k) (nI 35) = nI (rix m k) := by
  rw [pk_sub (by omega), pk_sub (by omega)]
  constructor
  · have h : (nI (m - 1 - k) ^^^ nI 35) = nI ((m - 1 - k) ^^^ 35) := by
      apply Int32.toBitVec_inj.mp
      apply BitVec.eq_of_toNat_eq
      rw [Int32.toBitVec_xor, BitVec.toNat_xor, pk_tn (by omega), pk_tn (by decide), pk_tn (Nat.xor_lt_two_pow (n := 32) (by omega) (by decide))]
    rw [h]
    exact nI_pos' (Nat.xor_lt_two_pow (n := 31) (by omega) (by decide))
  · unfold irm
    rw [pk_rem (by omega) (by decide) (by decide)]
    congr 1
    unfold rix
    omega
theorem srvL_eq {μ : MU} {t f : Nat} (hf : f = cl (μ (41 + 3 * t))) : srvL μ t f = upd (srvM μ t f) (10 + 3 * f) (lkS (μ (10 + 3 * f) + movT μ t (fndS (μ (40 + 3 * t)) (μ 1) (μ (11 + 3 * f))))) := by
  subst hf
  rfl
theorem srvE_eq {μ : MU} {t f : Nat} (hf : f = cl (μ (41 + 3 * t))) : srvE μ t f = eatT μ t (fndS (μ (40 + 3 * t)) (μ 1) (μ (11 + 3 * f))) := by
  subst hf
  rfl
theorem srvM_6 {μ : MU} {t f : Nat} (h : μ (40 + 3 * t) = nI 6) : srvM μ t f = upd μ 1 (drS (μ 1)) := if_pos h
theorem srvM_n {μ : MU} {t f : Nat} (h : ¬ μ (40 + 3 * t) = nI 6) : srvM μ t f = μ := if_neg h
def nbk (m : Nat) : Nat := if m < 35 then m else 35
def wkF (μ : MU) : Nat → Int32
  | 0 => nI 0
  | k + 1 => wkF μ k + μ (80 + k)
def shortF (μ : MU) : Bool := decide (cl (μ 9) = 35 ∧ wkF μ 35 < nI 100)
def lkB (μ : MU) (f : Nat) : Bool := decide (μ 5 ≤ μ (10 + 3 * f))
def lsF (μ : MU) : Nat → Int32
  | 0 => nI 0
  | k + 1 => if lkB μ k = true then lsF μ k ||| (nI 1 <<< (nI k &&& 31)) else lsF μ k
def trF (μ : MU) : Nat → Int32
  | 0 => nI 0
  | k + 1 => trF μ k + μ (12 + 3 * k)
def spF (μ : MU) : Nat → Int32
  | 0 => nI 0
  | k + 1 => if μ (70 + k) < nI 0 then spF μ k else spF μ k + nI 1
def frS_ (μ : MU) (n k : Nat) : MU := fun j => if 70 ≤ j ∧ j < 70 + k ∧ μ j = nI n then -1 else μ j
def setP (G : GG) (i : Nat) (p v : Int32) : GG := if p = nI 0 then up G (ch i 0) 3 v else if p = nI 1 then up G (ch i 0) 4 v else if p = nI 2 then up G (ch i 0) 5 v else up G (ch i 0) 6 v
def getP (G : GG) (i : Nat) (p : Int32) : Int32 := if p = nI 0 then G (ch i 0) 3 else if p = nI 1 then G (ch i 0) 4 else if p = nI 2 then G (ch i 0) 5 else G (ch i 0) 6
/-! changes of the plan -/
def exG (G : GG) (c a b : Nat) : GG := up (up G c a (G c b)) c b (G c a)
def swS (μ : MU) (x y : Nat) : MU := upd (upd μ x (μ y)) y (μ x)
def swM (μ : MU) (a b : Nat) : MU := swS (swS (swS μ (40 + 3 * a) (40 + 3 * b)) (41 + 3 * a) (41 + 3 * b)) (42 + 3 * a) (42 + 3 * b)
theorem swS_ne {μ : MU} {x y k : Nat} (h1 : ¬ k = x) (h2 : ¬ k = y) : swS μ x y k = μ k := by
  unfold swS
  rw [upd_ne h2, upd_ne h1]
theorem CR.exch {G : GG} {i : Nat} {μ : MU} (h : CR G i μ) {a b : Nat} (ha : a < 10) (hb : b < 10) : CR (exG (exG (exG G (ch i 5) a b) (ch i 6) a b) (ch i 7) a b) i (swM μ a b) := by
  have h1 : CR (exG G (ch i 5) a b) i (swS μ (40 + 3 * a) (40 + 3 * b)) := by
    have q := (h.kin ha (G (ch i 5) b)).kin hb (G (ch i 5) a)
    rw [(h.2.2.1 a ha).1, (h.2.2.1 b hb).1] at q
    unfold exG
    rw [(h.2.2.1 a ha).1, (h.2.2.1 b hb).1]
    exact q
  have h2 : CR (exG (exG G (ch i 5) a b) (ch i 6) a b) i (swS (swS μ (40 + 3 * a) (40 + 3 * b)) (41 + 3 * a) (41 + 3 * b)) := by
    generalize exG G (ch i 5) a b = G1 at h1 ⊢
    have q := (h1.foo ha (G1 (ch i 6) b)).foo hb (G1 (ch i 6) a)
    rw [(h1.2.2.1 a ha).2.1, (h1.2.2.1 b hb).2.1] at q
    unfold exG
    rw [(h1.2.2.1 a ha).2.1, (h1.2.2.1 b hb).2.1]
    exact q
  generalize exG (exG G (ch i 5) a b) (ch i 6) a b = G2 at h2 ⊢
  have q := (h2.put ha (G2 (ch i 7) b)).put hb (G2 (ch i 7) a)
  rw [(h2.2.2.1 a ha).2.2, (h2.2.2.1 b hb).2.2] at q
  unfold exG
  rw [(h2.2.2.1 a ha).2.2, (h2.2.2.1 b hb).2.2]
  exact q
theorem Fr.ex {i j a b : Nat} {G G' : GG} (h : Fr i G G') (hj : j < 10) : Fr i G (exG G' (ch i j) a b) := (h.up hj).up hj
theorem Inv.sw {n : Nat} {μ : MU} (h : Inv n μ) {a b : Nat} (ha : a < 10) (hb : b < 10) : Inv n (swM μ a b) := by
  have q1 : Inv n (swS μ (40 + 3 * a) (40 + 3 * b)) := (h.kin ha (h.2.2.2.2.1 b hb).1).kin hb (h.2.2.2.2.1 a ha).1
  have q2 : Inv n (swS (swS μ (40 + 3 * a) (40 + 3 * b)) (41 + 3 * a) (41 + 3 * b)) := (q1.foo ha (q1.2.2.2.2.1 b hb).2.1).foo hb (q1.2.2.2.2.1 a ha).2.1
  exact (q2.put ha (q2.2.2.2.2.1 b hb).2.2).put hb (q2.2.2.2.2.1 a ha).2.2
def addM (μ : MU) (n : Nat) (k f p : Int32) : MU := upd (upd (upd (upd μ (40 + 3 * n) k) (41 + 3 * n) f) (42 + 3 * n) p) 8 (nI (n + 1))
theorem Inv.size {b : Nat} {μ : MU} (h : Inv b μ) {n' : Nat} (hn : n' ≤ 10) : Inv b (upd μ 8 (nI n')) := by
  obtain ⟨hm, hs0, hn0, hf, ht, hb⟩ := h
  simp only [Inv]
  rw [upd_ne (show ¬ 0 = 8 by omega), upd_ne (show ¬ 9 = 8 by omega), upd_ne (show ¬ 2 = 8 by omega), upd_ne (show ¬ 3 = 8 by omega), upd_ne (show ¬ 4 = 8 by omega), upd_ne (show ¬ 5 = 8 by omega), upd_ne (show ¬ 6 = 8 by omega), upd_ne (show ¬ 7 = 8 by omega), upd_eq]
  refine ⟨hm, hs0, ⟨n', hn, rfl⟩, fun f q => ⟨?_, ?_, ?_⟩, fun t q => ⟨?_, ?_, ?_⟩, fun k q => ?_⟩
  · rw [upd_ne (by omega)]; exact (hf f q).1
  · rw [upd_ne (by omega)]; exact (hf f q).2.1
  · rw [upd_ne (by omega)]; exact (hf f q).2.2
  · rw [upd_ne (by omega)]; exact (ht t q).1
  · rw [upd_ne (by omega)]; exact (ht t q).2.1
  · rw [upd_ne (by omega)]; exact (ht t q).2.2
  · rw [upd_ne (by omega)]; exact hb k q
theorem Inv.add {b : Nat} {μ : MU} (h : Inv b μ) {n : Nat} (hn1 : n < 10) {k f p : Int32} (hk : nn k 6) (hf : nn f 9) (hp : nn p 20) : Inv b (addM μ n k f p) := (((h.kin hn1 hk).foo hn1 hf).put hn1 hp).size (by omega)
def prM (μ : MU) : Nat → MU
  | 0 => μ
  | k + 1 => if μ (40 + 3 * k) = nI 3 then upd (prM μ k) (40 + 3 * k) (nI 2) else prM μ k
theorem prM_ne {μ : MU} : ∀ (n k : Nat), (∀ t, t < n → ¬ k = 40 + 3 * t) → prM μ n k = μ k
  | 0, k, _ => rfl
  | n + 1, k, h => by
    unfold prM
    split
    · rw [upd_ne (h n (by omega))]
      exact prM_ne n k (fun t ht => h t (by omega))
    · exact prM_ne n k (fun t ht => h t (by omega))
theorem Inv.pr {b : Nat} {μ : MU} (h : Inv b μ) : ∀ (n : Nat), n ≤ 10 → Inv b (prM μ n)
  | 0, _ => h
  | n + 1, hn => by
    unfold prM
    split
    · exact (h.pr n (by omega)).kin (by omega) (nn_mk (by decide))
    · exact h.pr n (by omega)
def fsM (μ : MU) (n : Nat) : Nat → MU
  | 0 => μ
  | k + 1 => if μ (70 + k) = nI n then upd (fsM μ n k) (70 + k) (-1) else fsM μ n k
theorem fsM_ne {μ : MU} {n : Nat} : ∀ (k j : Nat), (j < 70 ∨ 70 + k ≤ j) → fsM μ n k j = μ j
  | 0, j, _ => rfl
  | k + 1, j, h => by
    unfold fsM
    split
    · rw [upd_ne (by omega)]
      exact fsM_ne k j (by omega)
    · exact fsM_ne k j (by omega)
theorem fsM_in {μ : MU} {n : Nat} : ∀ (k j : Nat), 70 ≤ j → j < 70 + k → fsM μ n k j = if μ j = nI n then -1 else μ j
  | 0, j, h1, h2 => absurd h2 (by omega)
  | k + 1, j, h1, h2 => by
    unfold fsM
    by_cases e : j = 70 + k
    · subst e
      by_cases q : μ (70 + k) = nI n
      · rw [if_pos q, if_pos q, upd_eq]
      · rw [if_neg q, if_neg q, fsM_ne k _ (by omega)]
    · split
      · rw [upd_ne e]; exact fsM_in k j h1 (by omega)
      · exact fsM_in k j h1 (by omega)
theorem Inv.fs {b : Nat} {μ : MU} (h : Inv b μ) {n : Nat} : ∀ (k : Nat), k ≤ 10 → Inv b (fsM μ n k)
  | 0, _ => h
  | k + 1, hk => by
    unfold fsM
    split
    · exact (h.fs k (by omega)).spo (by omega)
    · exact h.fs k (by omega)
def bpG (G : GG) (i j : Nat) : GG := up (upc (upc (upc G (ch i 5) (va_cpy (G (ch j 5)) (G (ch i 5)) 0 0 10)) (ch i 6) (va_cpy (G (ch j 6)) (G (ch i 6)) 0 0 10)) (ch i 7) (va_cpy (G (ch j 7)) (G (ch i 7)) 0 0 10)) (ch i 4) 3 (G (ch j 4) 3)
def tsB (μ : MU) (v : Int32) : Bool := decide (nI 0 ≤ v ∧ v ≤ μ 8 - nI 1)
theorem ts_of {b : Nat} {μ : MU} (h : Inv b μ) {v : Int32} : (tsB μ v = true ↔ ∃ n t, n ≤ 10 ∧ t < n ∧ μ 8 = nI n ∧ v = nI t) := by
  obtain ⟨n, n1, n2⟩ := h.2.2.1
  simp only [tsB, decide_eq_true_eq]
  rw [n2]
  constructor
  · rintro ⟨h1, h2⟩
    obtain ⟨t, t1, rfl⟩ := nI_nn (Int32.not_lt.mpr h1)
    refine ⟨n, t, n1, ?_, rfl, rfl⟩
    rcases sub_cases (a := n) (b := 1) (by omega) (by decide) with ⟨q1, q2⟩ | ⟨q1, q2⟩
    · rw [q2] at h2
      have := (nI_leI t1 (by omega)).mp h2
      omega
    · exact absurd (Int32.lt_of_le_of_lt (Int32.le_trans h1 h2) q2) Int32.lt_irrefl
  · rintro ⟨n', t, h1, h2, h3, rfl⟩
    have e : n = n' := (nI_eq (by omega) (by omega)).mp h3
    subst e
    rw [pk_sub (by omega)]
    exact ⟨nI_le (Nat.zero_le _) (by omega), nI_le (by omega) (by omega)⟩
