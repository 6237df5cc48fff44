/-! longs: their locals, their comparison, a start with three of them -/
theorem r_lload0 {X : XT} {Γ : Gam} {cc : ByteArray} {own : String} {F L : Nat} (hX : OKX X Γ cc own F L) {pc q : Nat} {ls : List (Option Value)} {st : List Value} {G : GG} {x : Int64} (d : decode cc pc = .ok (.lload_n 0, 1)) (hq : pc + 1 = q) (h : ls[0]? = some (some (.long x))) (k : WP X Γ q ls (.long x :: st) G) : WP X Γ pc ls st G := by
  obtain ⟨p, l, e, R, s, m, args, below, meth, c, Q, A, nL, cs, sl⟩ := X
  obtain ⟨hx, hb, hml, hown, hts, hK, hinj, hA, hSt, hF, hL, hcs, hsl⟩ := hX
  subst hq
  intro H locs la hP hS hl
  exact lv_lload_n (i := 0) hx hb d rfl (hl.2.2 0 _ h) (k H locs la hP hS hl)
theorem r_lload2 {X : XT} {Γ : Gam} {cc : ByteArray} {own : String} {F L : Nat} (hX : OKX X Γ cc own F L) {pc q : Nat} {ls : List (Option Value)} {st : List Value} {G : GG} {x : Int64} (d : decode cc pc = .ok (.lload_n 2, 1)) (hq : pc + 1 = q) (h : ls[2]? = some (some (.long x))) (k : WP X Γ q ls (.long x :: st) G) : WP X Γ pc ls st G := by
  obtain ⟨p, l, e, R, s, m, args, below, meth, c, Q, A, nL, cs, sl⟩ := X
  obtain ⟨hx, hb, hml, hown, hts, hK, hinj, hA, hSt, hF, hL, hcs, hsl⟩ := hX
  subst hq
  intro H locs la hP hS hl
  exact lv_lload_n (i := 2) hx hb d rfl (hl.2.2 2 _ h) (k H locs la hP hS hl)
theorem r_lload4 {X : XT} {Γ : Gam} {cc : ByteArray} {own : String} {F L : Nat} (hX : OKX X Γ cc own F L) {pc q : Nat} {ls : List (Option Value)} {st : List Value} {G : GG} {x : Int64} (d : decode cc pc = .ok (.lload 4, 2)) (hq : pc + 2 = q) (h : ls[4]? = some (some (.long x))) (k : WP X Γ q ls (.long x :: st) G) : WP X Γ pc ls st G := by
  obtain ⟨p, l, e, R, s, m, args, below, meth, c, Q, A, nL, cs, sl⟩ := X
  obtain ⟨hx, hb, hml, hown, hts, hK, hinj, hA, hSt, hF, hL, hcs, hsl⟩ := hX
  subst hq
  intro H locs la hP hS hl
  exact lv_lload (i := 4) hx hb d (hl.2.2 4 _ h) (k H locs la hP hS hl)
theorem r_lcmp {X : XT} {Γ : Gam} {cc : ByteArray} {own : String} {F L : Nat} (hX : OKX X Γ cc own F L) {pc q : Nat} {ls : List (Option Value)} {st : List Value} {G : GG} {x y : Int64} (d : decode cc pc = .ok (.lcmp, 1)) (hq : pc + 1 = q) (k : WP X Γ q ls (.int (lg_cmp x y) :: st) G) : WP X Γ pc ls (.long y :: .long x :: st) G := by
  obtain ⟨p, l, e, R, s, m, args, below, meth, c, Q, A, nL, cs, sl⟩ := X
  obtain ⟨hx, hb, hml, hown, hts, hK, hinj, hA, hSt, hF, hL, hcs, hsl⟩ := hX
  subst hq
  intro H locs la hP hS hl
  exact W.lcmp hx hb d (k H locs la hP hS hl)
theorem Sp_of3 {l : Launch} {y : MethodName} {cc : ByteArray} {ret : Option FieldType} {fr lo : Nat} {a b c : Int64} {Γ : Gam} {G : GG} {post : Option Value → GG → Prop} {own : String} (ho : y.cls = own) (hy : plainFor y = true)
    (body : ∀ X : XT, OKX X Γ cc own fr lo → RX X Γ ret post → WP X Γ 0 [some (.long a), none, some (.long b), none, some (.long c), none] [] G) : Sp l y cc 6 ret fr lo [.long a, .long b, .long c] Γ G post := by
  subst ho
  refine va_MetF (cc := cc) (maxL := 6) (ret := ret) hy rfl ?_
  intro p e s m args below meth cd s₁ B hml hv
  obtain ⟨rfl, hP, hK, hi, hSt⟩ := hv
  have hts := atoms_spec (ws := .code y cc 6 ret :: TB) B.pre
  have h := body (p, l, e, rmOf fr lo, s, m, [.long a, .long b, .long c].toArray, below, meth, cd, MQ below (SpQ Γ post) [.long a, .long b, .long c].toArray s 0 0 (gA Γ), gA Γ, 6, 0, 0)
    ⟨B.exec, B.bytes, hml, findClass_of_methodNamed B.named, fun w hw => hts w (List.mem_cons_of_mem _ hw), hK, hi, fun c hc => ⟨c, hc, rfl⟩, hSt, rfl, rfl, Nat.le_refl _, Nat.le_refl _⟩
    ⟨B.returns, B.notSynchronized, rfl, rfl⟩
  rw [lg_entry_eq]
  have hl := lv_entry [.long a, .long b, .long c] (n := 6) (Nat.le_refl 6)
  refine h s.heap [] _ hP va_S.rf ⟨⟨hl.1, rfl⟩, hl.2.1, fun i v hi => ?_⟩
  match i, hi with
  | 0, hi => have e := Option.some.inj (Option.some.inj hi); subst e; exact hl.2.2 (0, .long a) (show (0, Value.long a) ∈ [(0, Value.long a), (2, Value.long b), (4, Value.long c)] by simp)
  | 1, hi => exact absurd (Option.some.inj hi) (by simp)
  | 2, hi => have e := Option.some.inj (Option.some.inj hi); subst e; exact hl.2.2 (2, .long b) (show (2, Value.long b) ∈ [(0, Value.long a), (2, Value.long b), (4, Value.long c)] by simp)
  | 3, hi => exact absurd (Option.some.inj hi) (by simp)
  | 4, hi => have e := Option.some.inj (Option.some.inj hi); subst e; exact hl.2.2 (4, .long c) (show (4, Value.long c) ∈ [(0, Value.long a), (2, Value.long b), (4, Value.long c)] by simp)
  | 5, hi => exact absurd (Option.some.inj hi) (by simp)
  | i + 6, hi => exact absurd hi (by simp)
theorem lc_lt {a b : Int32} : lg_cmp a.toInt64 b.toInt64 < 0 ↔ a < b := by
  unfold lg_cmp
  simp only [gt_iff_lt, Int64.lt_iff_toInt_lt, ← Int64.toInt_inj, Jvm.Kit.i64_of_i32, Int32.lt_iff_toInt_lt]
  split
  · exact ⟨fun h => absurd h (by decide), fun h => by omega⟩
  · split
    · exact ⟨fun h => absurd h (by decide), fun h => by omega⟩
    · exact ⟨fun _ => by omega, fun _ => by decide⟩
theorem lc_gt {a b : Int32} : 0 < lg_cmp a.toInt64 b.toInt64 ↔ b < a := by
  unfold lg_cmp
  simp only [gt_iff_lt, Int64.lt_iff_toInt_lt, ← Int64.toInt_inj, Jvm.Kit.i64_of_i32, Int32.lt_iff_toInt_lt]
  split
  · exact ⟨fun _ => by omega, fun _ => by decide⟩
  · split
    · exact ⟨fun h => absurd h (by decide), fun h => by omega⟩
    · exact ⟨fun h => absurd h (by decide), fun h => by omega⟩
