/-! the machine's constants, out of the Statement's premises -/
def tid : List Nat := [60, 62, 64, 66, 84, 72, 74, 76, 78, 80, 82, 41, 112, 118, 123, 50, 55]
abbrev NRc : Cond := Jvm.Cond.and given_1 narrow_1
abbrev txT (i : Nat) : Term := .string "PeaSpoons$Text" (tid.getD i 0)
abbrev kaT : Term := .static "PeaSpoons" "KIND_ABOVE" "[I"
set_option maxRecDepth 100000 in
theorem pr_ex : ∀ i, i < 17 → Cond.exactly (txT i) "java/lang/String" ∈ flatC NRc := by decide +kernel
set_option maxRecDepth 100000 in
theorem pr_co : ∀ i, i < 17 → Cond.eq (.field (txT i) "java/lang/String" "coder" "B") (.int 0) ∈ flatC NRc := by decide +kernel
set_option maxRecDepth 100000 in
theorem pr_ar : ∀ i, i < 17 → Cond.arrayOf (.field (txT i) "java/lang/String" "value" "[B") .byte ∈ flatC NRc := by decide +kernel
set_option maxRecDepth 100000 in
theorem pr_le : ∀ i, i < 17 → Cond.eq (.length (.field (txT i) "java/lang/String" "value" "[B")) (.int (Int32.ofNat (slen.getD i 0))) ∈ flatC NRc := by decide +kernel
set_option maxRecDepth 100000 in
theorem pr_el : ∀ i, i < 17 → ∀ j, j < 8 → j < slen.getD i 0 → Cond.eq (.elem (.field (txT i) "java/lang/String" "value" "[B") (.int (Int32.ofNat j))) (.int ((sbyt.getD i []).getD j 0)) ∈ flatC NRc := by decide +kernel
set_option maxRecDepth 100000 in
theorem pr_ka : Cond.arrayOf kaT .int ∈ flatC NRc ∧ Cond.eq (.length kaT) (.int (Int32.ofNat 7)) ∈ flatC NRc ∧ ∀ j, j < 7 → Cond.eq (.elem kaT (.int (Int32.ofNat j))) (.int (kab j)) ∈ flatC NRc := by decide +kernel
set_option maxRecDepth 100000 in
theorem pr_st : ∀ q ∈ stab, Cond.stringRef q.1 q.2.1 q.2.2.1 ∈ lw_tbl ∧ q.2.2.2 < 17 ∧ ((q.1 = "PeaSpoons$Text" ∧ q.2.1 = tid.getD q.2.2.2 0) ∨ Cond.eq (txT q.2.2.2) (.string q.1 q.2.1) ∈ flatC NRc) := by decide +kernel
set_option maxRecDepth 100000 in
theorem pr_nt : ∀ q ∈ ntab, Cond.methodLinkNest q.1 q.2.1 q.2.2.1 q.2.2.2 ∈ lw_tbl := by decide +kernel
theorem tx_all {s : State} {b : Nat} {A : Nat → Prop} (hn : ∀ c ∈ flatC NRc, c.before #[Value.ref b] s = true) (hA : ∀ a : Nat, a < s.heap.size → ¬ A a) : ∃ K V : Nat → Nat, vk_S 17 slen sbyt K V A s s.heap ∧ ∀ i, i < 17 → (txT i).eval #[Value.ref b] s none [] s = some (.ref (K i)) := by
  have h17 : ∀ i, i < 17 → slen.getD i 0 < 8 := by decide
  have h0 : ∀ i : Nat, ∃ q : Nat × Nat, i < 17 → (txT i).eval #[Value.ref b] s none [] s = some (.ref q.1) ∧ va_O "java/lang/String" q.1 A s s.heap ∧ va_OF "java/lang/String" "coder" "B" (.int 0) q.1 A s s.heap ∧ va_OF "java/lang/String" "value" "[B" (.ref q.2) q.1 A s s.heap ∧ va_T .byte q.2 (slen.getD i 0) (fun j => .int ((sbyt.getD i []).getD j 0)) A s s.heap := by
    intro i
    by_cases hi : i < 17
    · have hl := h17 i hi
      obtain ⟨k, v, hS, he⟩ := vk_Sof (N := 1) (tm := fun _ => txT i) (len := [slen.getD i 0]) (byt := [sbyt.getD i []]) (A := A) (args := #[Value.ref b]) (s := s)
        (fun x hx => by have e : x = 0 := by omega
                        subst e; show slen.getD i 0 < 2 ^ 31; omega)
        (fun x _ => hn _ (pr_ex i hi)) (fun x _ => hn _ (pr_co i hi)) (fun x _ => hn _ (pr_ar i hi))
        (fun x hx => by have e : x = 0 := by omega
                        subst e; exact hn _ (pr_le i hi))
        (fun x hx j hj => by have e : x = 0 := by omega
                             subst e
                             have hj2 : j < slen.getD i 0 := hj
                             exact hn _ (pr_el i hi j (by omega) hj2))
        (fun x y hx hy hxy => absurd (show x = y by omega) hxy) hA
      obtain ⟨a1, a2, a3, a4⟩ := hS.1 0 (by decide)
      exact ⟨(k 0, v 0), fun _ => ⟨he 0 (by decide), a1, a2, a3, a4⟩⟩
    · exact ⟨(0, 0), fun h => absurd h hi⟩
  obtain ⟨ad, had⟩ := Classical.axiomOfChoice h0
  refine ⟨fun i => (ad i).1, fun i => (ad i).2, ⟨fun i hi => (had i hi).2, fun i j hi hj e => ?_⟩, fun i hi => (had i hi).1⟩
  obtain ⟨-, -, -, ⟨cf, k, fi, f, cell, p1, p2, p3, p4, p5, p6⟩, ⟨c1, r1, r2, r3, r4, r5, r6, r7⟩⟩ := had i hi
  obtain ⟨-, -, -, ⟨cf', k', fi', f', cell', p1', p2', p3', p4', p5', p6'⟩, ⟨c1', r1', r2', r3', r4', r5', r6', r7'⟩⟩ := had j hj
  have e' : (ad i).1 = (ad j).1 := e
  rw [e'] at p3
  cases p1.symm.trans p1'
  cases p3.symm.trans p3'
  have ev : (ad i).2 = (ad j).2 := by
    have := Option.some.inj (p5.symm.trans p5')
    injection this
  rw [ev] at r1
  cases r1.symm.trans r1'
  have hli := h17 i hi
  have hlj := h17 j hj
  have el : slen.getD i 0 = slen.getD j 0 := (nI_eq (by omega) (by omega)).mp (r5.symm.trans r5')
  have key : ∀ i, i < 17 → ∀ j, j < 17 → slen.getD i 0 = slen.getD j 0 → (∀ u, u < slen.getD i 0 → (sbyt.getD i []).getD u 0 = (sbyt.getD j []).getD u 0) → i = j := by decide +kernel
  refine key i hi j hj el (fun u hu => ?_)
  have := Option.some.inj ((r6 u hu).symm.trans (r6' u (by omega)))
  injection this
theorem St_0 {s : State} {b : Nat} {A : Nat → Prop} (hts : ∀ w ∈ lw_tbl, w.before #[Value.ref b] s = true) (hn : ∀ c ∈ flatC NRc, c.before #[Value.ref b] s = true) (hA : ∀ a : Nat, a < s.heap.size → ¬ A a) : ∃ (ka : Nat) (K V : Nat → Nat), ∀ (D : va_G) (cI cS : ClassId) (uA uB : Nat → Nat), St (GamOf D cI cS ka K V uA uB) A s s.heap := by
  obtain ⟨K, V, hS, he⟩ := tx_all (A := A) hn hA
  obtain ⟨ka, hk, hT⟩ := va_Tof (args := #[Value.ref b]) (s := s) (tm := kaT) (ty := .int) (N := 7) (f := fun j => .int (kab j)) (A := A) (by decide) (hn _ pr_ka.1) (va_eqt (hn _ pr_ka.2.1)) (fun j hj => va_eqt (hn _ (pr_ka.2.2 j hj))) hA
  refine ⟨ka, K, V, fun D cI cS uA uB => ⟨va_Zof (hts (.laysStatic "PeaSpoons" "KIND_ABOVE" "[I") (by decide +kernel)) (hts (.initialized "PeaSpoons") (by decide +kernel)) hk hA, hT,
    va_Zof (hts (.laysStatic "java/lang/String" "COMPACT_STRINGS" "Z") (by decide +kernel)) (hts (.initialized "java/lang/String") (by decide +kernel)) (va_eqi (hn (.eq (.static "java/lang/String" "COMPACT_STRINGS" "Z") (.int 1)) (by decide +kernel))) hA,
    va_Zqof (hts (.laysStatic "jdk/internal/util/Preconditions" "SIOOBE_FORMATTER" "Ljava/util/function/BiFunction;") (by decide +kernel)) (hts (.initialized "jdk/internal/util/Preconditions") (by decide +kernel)) (hn (.isRef (.static "jdk/internal/util/Preconditions" "SIOOBE_FORMATTER" "Ljava/util/function/BiFunction;")) (by decide +kernel)) hA,
    hS, fun q hq => ?_, fun q hq => va_Nw.of rfl (hts _ (pr_nt q hq))⟩⟩
  obtain ⟨h1, h2, h3⟩ := pr_st q hq
  rcases h3 with ⟨e1, e2⟩ | h3
  · have := he q.2.2.2 h2
    unfold txT at this
    rw [← e2, ← e1] at this
    exact vk_R.of (hts _ h1) this
  · exact vk_R.of (hts _ h1) (va_eqR (hn _ h3) (he q.2.2.2 h2))
