/-! constructors: worlds that grow, cell by cell; int arrays are of class 0 of tys, the sheets' row of class 1 -/
def tyN (cI cS : ClassId) : List (ClassId × FieldType) := [(cI, .int), (cS, .object "PeaSpoons$Sheet")]
def WN (X : XT) (D : va_G) (pc : Nat) (ls : List (Option Value)) (st : List Value) (ws : va_W) (cs sl : Nat) : Prop := match X with
  | (p, l, e, R, s, m, args, below, meth, c, Q, A, nL, _, _) => ∀ (H : Heap) (locs : List Loc) (la : Array Slot), va_P D vwCl ws H → va_D A ws → va_S A s.heap H locs → LH la nL ls → W p l e R s m args below meth c H locs cs sl Q (F0 m pc la st)
def OKN (X : XT) (D : va_G) (cI cS : ClassId) (cc : ByteArray) (own : String) (F L C S : Nat) : Prop := match X with
  | (p, _, _, R, s, m, args, _, _, c, _, A, nL, _, _) => p.tables.exec = Jvm.exec ∧ c.code = cc ∧ c.maxLocals = nL ∧ s.vm.findClass own = some m.cls ∧ (∀ w ∈ TB, w.before args s = true) ∧ va_K D vwCl (tyN cI cS) s ∧ va_AO "PeaSpoons$Sheet" s ∧ (∀ q, s.heap.size ≤ q → A q) ∧ (R.frames = F ∧ R.locals = L ∧ R.cells = C ∧ R.slots = S)
def XIN (X : XT) : Prop := match X with
  | (_, _, _, _, _, _, _, _, meth, _, _, _, _, _, _) => meth.name = "<init>"

theorem n_iconst {X : XT} {D : va_G} {cI cS : ClassId} {cc : ByteArray} {own : String} {F L C S : Nat} (hX : OKN X D cI cS cc own F L C S) {pc q : Nat} {ls : List (Option Value)} {st : List Value} {ws : va_W} {cs sl : Nat} {n : Int} {v : Int32} (d : decode cc pc = .ok (.iconst n, 1)) (hq : pc + 1 = q) (hv : Int32.ofInt n = v) (k : WN X D q ls (.int v :: st) ws cs sl) : WN X D pc ls st ws cs sl := by
  obtain ⟨p, l, e, R, s, m, args, below, meth, c, Q, A, nL, cs0, sl0⟩ := X
  obtain ⟨hx, hb, hml, hown, hts, hK, hO, hA, hF, hL, hC, hS0⟩ := hX
  subst hq
  intro H locs la hP hD hS hl
  exact lv_iconst hx hb d hv (k H locs la hP hD hS hl)

theorem n_bipush {X : XT} {D : va_G} {cI cS : ClassId} {cc : ByteArray} {own : String} {F L C S : Nat} (hX : OKN X D cI cS cc own F L C S) {pc q : Nat} {ls : List (Option Value)} {st : List Value} {ws : va_W} {cs sl : Nat} {n : Int} {v : Int32} (d : decode cc pc = .ok (.bipush n, 2)) (hq : pc + 2 = q) (hv : (Int8.ofInt n).toInt32 = v) (k : WN X D q ls (.int v :: st) ws cs sl) : WN X D pc ls st ws cs sl := by
  obtain ⟨p, l, e, R, s, m, args, below, meth, c, Q, A, nL, cs0, sl0⟩ := X
  obtain ⟨hx, hb, hml, hown, hts, hK, hO, hA, hF, hL, hC, hS0⟩ := hX
  subst hq
  intro H locs la hP hD hS hl
  exact lv_bipush hx hb d hv (k H locs la hP hD hS hl)

theorem n_sipush {X : XT} {D : va_G} {cI cS : ClassId} {cc : ByteArray} {own : String} {F L C S : Nat} (hX : OKN X D cI cS cc own F L C S) {pc q : Nat} {ls : List (Option Value)} {st : List Value} {ws : va_W} {cs sl : Nat} {n : Int} {v : Int32} (d : decode cc pc = .ok (.sipush n, 3)) (hq : pc + 3 = q) (hv : (Int16.ofInt n).toInt32 = v) (k : WN X D q ls (.int v :: st) ws cs sl) : WN X D pc ls st ws cs sl := by
  obtain ⟨p, l, e, R, s, m, args, below, meth, c, Q, A, nL, cs0, sl0⟩ := X
  obtain ⟨hx, hb, hml, hown, hts, hK, hO, hA, hF, hL, hC, hS0⟩ := hX
  subst hq
  intro H locs la hP hD hS hl
  exact lv_sipush hx hb d hv (k H locs la hP hD hS hl)

theorem n_iadd {X : XT} {D : va_G} {cI cS : ClassId} {cc : ByteArray} {own : String} {F L C S : Nat} (hX : OKN X D cI cS cc own F L C S) {pc q : Nat} {ls : List (Option Value)} {st : List Value} {ws : va_W} {cs sl : Nat} {a b : Int32} (d : decode cc pc = .ok (.iadd, 1)) (hq : pc + 1 = q)  (k : WN X D q ls (.int (a + b) :: st) ws cs sl) : WN X D pc ls (.int b :: .int a :: st) ws cs sl := by
  obtain ⟨p, l, e, R, s, m, args, below, meth, c, Q, A, nL, cs0, sl0⟩ := X
  obtain ⟨hx, hb, hml, hown, hts, hK, hO, hA, hF, hL, hC, hS0⟩ := hX
  subst hq
  intro H locs la hP hD hS hl
  exact lv_iadd hx hb d (k H locs la hP hD hS hl)

theorem n_imul {X : XT} {D : va_G} {cI cS : ClassId} {cc : ByteArray} {own : String} {F L C S : Nat} (hX : OKN X D cI cS cc own F L C S) {pc q : Nat} {ls : List (Option Value)} {st : List Value} {ws : va_W} {cs sl : Nat} {a b : Int32} (d : decode cc pc = .ok (.imul, 1)) (hq : pc + 1 = q)  (k : WN X D q ls (.int (a * b) :: st) ws cs sl) : WN X D pc ls (.int b :: .int a :: st) ws cs sl := by
  obtain ⟨p, l, e, R, s, m, args, below, meth, c, Q, A, nL, cs0, sl0⟩ := X
  obtain ⟨hx, hb, hml, hown, hts, hK, hO, hA, hF, hL, hC, hS0⟩ := hX
  subst hq
  intro H locs la hP hD hS hl
  exact lv_imul hx hb d (k H locs la hP hD hS hl)

theorem n_dup {X : XT} {D : va_G} {cI cS : ClassId} {cc : ByteArray} {own : String} {F L C S : Nat} (hX : OKN X D cI cS cc own F L C S) {pc q : Nat} {ls : List (Option Value)} {st : List Value} {ws : va_W} {cs sl : Nat} {v : Value} (d : decode cc pc = .ok (.dup, 1)) (hq : pc + 1 = q) (hv : v.category = 1) (k : WN X D q ls (v :: v :: st) ws cs sl) : WN X D pc ls (v :: st) ws cs sl := by
  obtain ⟨p, l, e, R, s, m, args, below, meth, c, Q, A, nL, cs0, sl0⟩ := X
  obtain ⟨hx, hb, hml, hown, hts, hK, hO, hA, hF, hL, hC, hS0⟩ := hX
  subst hq
  intro H locs la hP hD hS hl
  exact lv_dup hx hb d hv (k H locs la hP hD hS hl)

theorem n_iload0 {X : XT} {D : va_G} {cI cS : ClassId} {cc : ByteArray} {own : String} {F L C S : Nat} (hX : OKN X D cI cS cc own F L C S) {pc q : Nat} {ls : List (Option Value)}  {st : List Value} {ws : va_W} {cs sl : Nat} {x : Int32} (d : decode cc pc = .ok (.iload_n 0, 1)) (hq : pc + 1 = q) (k : WN X D q (some (.int x) :: ls) (.int x :: st) ws cs sl) : WN X D pc (some (.int x) :: ls) st ws cs sl := by
  obtain ⟨p, l, e, R, s, m, args, below, meth, c, Q, A, nL, cs0, sl0⟩ := X
  obtain ⟨hx, hb, hml, hown, hts, hK, hO, hA, hF, hL, hC, hS0⟩ := hX
  subst hq
  intro H locs la hP hD hS hl
  exact lv_iload_n hx hb d rfl (hl.get (i := 0) rfl) (k H locs la hP hD hS hl)

theorem n_aload0 {X : XT} {D : va_G} {cI cS : ClassId} {cc : ByteArray} {own : String} {F L C S : Nat} (hX : OKN X D cI cS cc own F L C S) {pc q : Nat} {ls : List (Option Value)}  {st : List Value} {ws : va_W} {cs sl : Nat} {x : Nat} (d : decode cc pc = .ok (.aload_n 0, 1)) (hq : pc + 1 = q) (k : WN X D q (some (.ref x) :: ls) (.ref x :: st) ws cs sl) : WN X D pc (some (.ref x) :: ls) st ws cs sl := by
  obtain ⟨p, l, e, R, s, m, args, below, meth, c, Q, A, nL, cs0, sl0⟩ := X
  obtain ⟨hx, hb, hml, hown, hts, hK, hO, hA, hF, hL, hC, hS0⟩ := hX
  subst hq
  intro H locs la hP hD hS hl
  exact lv_aload_n hx hb d rfl (hl.get (i := 0) rfl) (k H locs la hP hD hS hl)

theorem n_istore0 {X : XT} {D : va_G} {cI cS : ClassId} {cc : ByteArray} {own : String} {F L C S : Nat} (hX : OKN X D cI cS cc own F L C S) {pc q : Nat} {ls : List (Option Value)}  {st : List Value} {ws : va_W} {cs sl : Nat} {z : Option Value} {x : Int32} (d : decode cc pc = .ok (.istore_n 0, 1)) (hq : pc + 1 = q) (hno : nolong (z :: ls) = true) (k : WN X D q (some (.int x) :: ls) st ws cs sl) : WN X D pc (z :: ls) (.int x :: st) ws cs sl := by
  obtain ⟨p, l, e, R, s, m, args, below, meth, c, Q, A, nL, cs0, sl0⟩ := X
  obtain ⟨hx, hb, hml, hown, hts, hK, hO, hA, hF, hL, hC, hS0⟩ := hX
  subst hq
  intro H locs la hP hD hS hl
  have hn : 0 < nL := by have := hl.1.2; simp at this; omega
  exact lv_istore_n hx hb d rfl hl.has hn rfl (fun la2 h2 => k H locs la2 hP hD hS (LH.set hl.1.2 hno h2))

theorem n_astore0 {X : XT} {D : va_G} {cI cS : ClassId} {cc : ByteArray} {own : String} {F L C S : Nat} (hX : OKN X D cI cS cc own F L C S) {pc q : Nat} {ls : List (Option Value)}  {st : List Value} {ws : va_W} {cs sl : Nat} {z : Option Value} {x : Nat} (d : decode cc pc = .ok (.astore_n 0, 1)) (hq : pc + 1 = q) (hno : nolong (z :: ls) = true) (k : WN X D q (some (.ref x) :: ls) st ws cs sl) : WN X D pc (z :: ls) (.ref x :: st) ws cs sl := by
  obtain ⟨p, l, e, R, s, m, args, below, meth, c, Q, A, nL, cs0, sl0⟩ := X
  obtain ⟨hx, hb, hml, hown, hts, hK, hO, hA, hF, hL, hC, hS0⟩ := hX
  subst hq
  intro H locs la hP hD hS hl
  have hn : 0 < nL := by have := hl.1.2; simp at this; omega
  exact lv_astore_n hx hb d rfl hl.has hn rfl (fun la2 h2 => k H locs la2 hP hD hS (LH.set hl.1.2 hno h2))

theorem n_iinc0 {X : XT} {D : va_G} {cI cS : ClassId} {cc : ByteArray} {own : String} {F L C S : Nat} (hX : OKN X D cI cS cc own F L C S) {pc q : Nat} {ls : List (Option Value)}  {st : List Value} {ws : va_W} {cs sl : Nat} {n : Int} {x v : Int32} (d : decode cc pc = .ok (.iinc 0 n, 3)) (hq : pc + 3 = q) (hno : nolong (some (.int x) :: ls) = true) (hv : x + Int32.ofInt n = v) (k : WN X D q (some (.int v) :: ls) st ws cs sl) : WN X D pc (some (.int x) :: ls) st ws cs sl := by
  obtain ⟨p, l, e, R, s, m, args, below, meth, c, Q, A, nL, cs0, sl0⟩ := X
  obtain ⟨hx, hb, hml, hown, hts, hK, hO, hA, hF, hL, hC, hS0⟩ := hX
  subst hq
  intro H locs la hP hD hS hl
  have hn : 0 < nL := by have := hl.1.2; simp at this; omega
  have hm : (0, Value.int x) ∈ lvl (some (.int x) :: ls) := lvl_mem.mpr rfl
  obtain ⟨j, hj⟩ := List.getElem?_of_mem hm
  exact lv_iinc hx hb d hl.has hj hv hn rfl (fun la2 h2 => k H locs la2 hP hD hS (LH.set hl.1.2 hno h2))

theorem n_iload1 {X : XT} {D : va_G} {cI cS : ClassId} {cc : ByteArray} {own : String} {F L C S : Nat} (hX : OKN X D cI cS cc own F L C S) {pc q : Nat} {ls : List (Option Value)} {a0 : Option Value}  {st : List Value} {ws : va_W} {cs sl : Nat} {x : Int32} (d : decode cc pc = .ok (.iload_n 1, 1)) (hq : pc + 1 = q) (k : WN X D q (a0 :: some (.int x) :: ls) (.int x :: st) ws cs sl) : WN X D pc (a0 :: some (.int x) :: ls) st ws cs sl := by
  obtain ⟨p, l, e, R, s, m, args, below, meth, c, Q, A, nL, cs0, sl0⟩ := X
  obtain ⟨hx, hb, hml, hown, hts, hK, hO, hA, hF, hL, hC, hS0⟩ := hX
  subst hq
  intro H locs la hP hD hS hl
  exact lv_iload_n hx hb d rfl (hl.get (i := 1) rfl) (k H locs la hP hD hS hl)

theorem n_aload1 {X : XT} {D : va_G} {cI cS : ClassId} {cc : ByteArray} {own : String} {F L C S : Nat} (hX : OKN X D cI cS cc own F L C S) {pc q : Nat} {ls : List (Option Value)} {a0 : Option Value}  {st : List Value} {ws : va_W} {cs sl : Nat} {x : Nat} (d : decode cc pc = .ok (.aload_n 1, 1)) (hq : pc + 1 = q) (k : WN X D q (a0 :: some (.ref x) :: ls) (.ref x :: st) ws cs sl) : WN X D pc (a0 :: some (.ref x) :: ls) st ws cs sl := by
  obtain ⟨p, l, e, R, s, m, args, below, meth, c, Q, A, nL, cs0, sl0⟩ := X
  obtain ⟨hx, hb, hml, hown, hts, hK, hO, hA, hF, hL, hC, hS0⟩ := hX
  subst hq
  intro H locs la hP hD hS hl
  exact lv_aload_n hx hb d rfl (hl.get (i := 1) rfl) (k H locs la hP hD hS hl)

theorem n_istore1 {X : XT} {D : va_G} {cI cS : ClassId} {cc : ByteArray} {own : String} {F L C S : Nat} (hX : OKN X D cI cS cc own F L C S) {pc q : Nat} {ls : List (Option Value)} {a0 : Option Value}  {st : List Value} {ws : va_W} {cs sl : Nat} {z : Option Value} {x : Int32} (d : decode cc pc = .ok (.istore_n 1, 1)) (hq : pc + 1 = q) (hno : nolong (a0 :: z :: ls) = true) (k : WN X D q (a0 :: some (.int x) :: ls) st ws cs sl) : WN X D pc (a0 :: z :: ls) (.int x :: st) ws cs sl := by
  obtain ⟨p, l, e, R, s, m, args, below, meth, c, Q, A, nL, cs0, sl0⟩ := X
  obtain ⟨hx, hb, hml, hown, hts, hK, hO, hA, hF, hL, hC, hS0⟩ := hX
  subst hq
  intro H locs la hP hD hS hl
  have hn : 1 < nL := by have := hl.1.2; simp at this; omega
  exact lv_istore_n hx hb d rfl hl.has hn rfl (fun la2 h2 => k H locs la2 hP hD hS (LH.set hl.1.2 hno h2))

theorem n_astore1 {X : XT} {D : va_G} {cI cS : ClassId} {cc : ByteArray} {own : String} {F L C S : Nat} (hX : OKN X D cI cS cc own F L C S) {pc q : Nat} {ls : List (Option Value)} {a0 : Option Value}  {st : List Value} {ws : va_W} {cs sl : Nat} {z : Option Value} {x : Nat} (d : decode cc pc = .ok (.astore_n 1, 1)) (hq : pc + 1 = q) (hno : nolong (a0 :: z :: ls) = true) (k : WN X D q (a0 :: some (.ref x) :: ls) st ws cs sl) : WN X D pc (a0 :: z :: ls) (.ref x :: st) ws cs sl := by
  obtain ⟨p, l, e, R, s, m, args, below, meth, c, Q, A, nL, cs0, sl0⟩ := X
  obtain ⟨hx, hb, hml, hown, hts, hK, hO, hA, hF, hL, hC, hS0⟩ := hX
  subst hq
  intro H locs la hP hD hS hl
  have hn : 1 < nL := by have := hl.1.2; simp at this; omega
  exact lv_astore_n hx hb d rfl hl.has hn rfl (fun la2 h2 => k H locs la2 hP hD hS (LH.set hl.1.2 hno h2))

theorem n_iinc1 {X : XT} {D : va_G} {cI cS : ClassId} {cc : ByteArray} {own : String} {F L C S : Nat} (hX : OKN X D cI cS cc own F L C S) {pc q : Nat} {ls : List (Option Value)} {a0 : Option Value}  {st : List Value} {ws : va_W} {cs sl : Nat} {n : Int} {x v : Int32} (d : decode cc pc = .ok (.iinc 1 n, 3)) (hq : pc + 3 = q) (hno : nolong (a0 :: some (.int x) :: ls) = true) (hv : x + Int32.ofInt n = v) (k : WN X D q (a0 :: some (.int v) :: ls) st ws cs sl) : WN X D pc (a0 :: some (.int x) :: ls) st ws cs sl := by
  obtain ⟨p, l, e, R, s, m, args, below, meth, c, Q, A, nL, cs0, sl0⟩ := X
  obtain ⟨hx, hb, hml, hown, hts, hK, hO, hA, hF, hL, hC, hS0⟩ := hX
  subst hq
  intro H locs la hP hD hS hl
  have hn : 1 < nL := by have := hl.1.2; simp at this; omega
  have hm : (1, Value.int x) ∈ lvl (a0 :: some (.int x) :: ls) := lvl_mem.mpr rfl
  obtain ⟨j, hj⟩ := List.getElem?_of_mem hm
  exact lv_iinc hx hb d hl.has hj hv hn rfl (fun la2 h2 => k H locs la2 hP hD hS (LH.set hl.1.2 hno h2))

theorem n_iload2 {X : XT} {D : va_G} {cI cS : ClassId} {cc : ByteArray} {own : String} {F L C S : Nat} (hX : OKN X D cI cS cc own F L C S) {pc q : Nat} {ls : List (Option Value)} {a0 a1 : Option Value}  {st : List Value} {ws : va_W} {cs sl : Nat} {x : Int32} (d : decode cc pc = .ok (.iload_n 2, 1)) (hq : pc + 1 = q) (k : WN X D q (a0 :: a1 :: some (.int x) :: ls) (.int x :: st) ws cs sl) : WN X D pc (a0 :: a1 :: some (.int x) :: ls) st ws cs sl := by
  obtain ⟨p, l, e, R, s, m, args, below, meth, c, Q, A, nL, cs0, sl0⟩ := X
  obtain ⟨hx, hb, hml, hown, hts, hK, hO, hA, hF, hL, hC, hS0⟩ := hX
  subst hq
  intro H locs la hP hD hS hl
  exact lv_iload_n hx hb d rfl (hl.get (i := 2) rfl) (k H locs la hP hD hS hl)

theorem n_aload2 {X : XT} {D : va_G} {cI cS : ClassId} {cc : ByteArray} {own : String} {F L C S : Nat} (hX : OKN X D cI cS cc own F L C S) {pc q : Nat} {ls : List (Option Value)} {a0 a1 : Option Value}  {st : List Value} {ws : va_W} {cs sl : Nat} {x : Nat} (d : decode cc pc = .ok (.aload_n 2, 1)) (hq : pc + 1 = q) (k : WN X D q (a0 :: a1 :: some (.ref x) :: ls) (.ref x :: st) ws cs sl) : WN X D pc (a0 :: a1 :: some (.ref x) :: ls) st ws cs sl := by
  obtain ⟨p, l, e, R, s, m, args, below, meth, c, Q, A, nL, cs0, sl0⟩ := X
  obtain ⟨hx, hb, hml, hown, hts, hK, hO, hA, hF, hL, hC, hS0⟩ := hX
  subst hq
  intro H locs la hP hD hS hl
  exact lv_aload_n hx hb d rfl (hl.get (i := 2) rfl) (k H locs la hP hD hS hl)

theorem n_istore2 {X : XT} {D : va_G} {cI cS : ClassId} {cc : ByteArray} {own : String} {F L C S : Nat} (hX : OKN X D cI cS cc own F L C S) {pc q : Nat} {ls : List (Option Value)} {a0 a1 : Option Value}  {st : List Value} {ws : va_W} {cs sl : Nat} {z : Option Value} {x : Int32} (d : decode cc pc = .ok (.istore_n 2, 1)) (hq : pc + 1 = q) (hno : nolong (a0 :: a1 :: z :: ls) = true) (k : WN X D q (a0 :: a1 :: some (.int x) :: ls) st ws cs sl) : WN X D pc (a0 :: a1 :: z :: ls) (.int x :: st) ws cs sl := by
  obtain ⟨p, l, e, R, s, m, args, below, meth, c, Q, A, nL, cs0, sl0⟩ := X
  obtain ⟨hx, hb, hml, hown, hts, hK, hO, hA, hF, hL, hC, hS0⟩ := hX
  subst hq
  intro H locs la hP hD hS hl
  have hn : 2 < nL := by have := hl.1.2; simp at this; omega
  exact lv_istore_n hx hb d rfl hl.has hn rfl (fun la2 h2 => k H locs la2 hP hD hS (LH.set hl.1.2 hno h2))

theorem n_astore2 {X : XT} {D : va_G} {cI cS : ClassId} {cc : ByteArray} {own : String} {F L C S : Nat} (hX : OKN X D cI cS cc own F L C S) {pc q : Nat} {ls : List (Option Value)} {a0 a1 : Option Value}  {st : List Value} {ws : va_W} {cs sl : Nat} {z : Option Value} {x : Nat} (d : decode cc pc = .ok (.astore_n 2, 1)) (hq : pc + 1 = q) (hno : nolong (a0 :: a1 :: z :: ls) = true) (k : WN X D q (a0 :: a1 :: some (.ref x) :: ls) st ws cs sl) : WN X D pc (a0 :: a1 :: z :: ls) (.ref x :: st) ws cs sl := by
  obtain ⟨p, l, e, R, s, m, args, below, meth, c, Q, A, nL, cs0, sl0⟩ := X
  obtain ⟨hx, hb, hml, hown, hts, hK, hO, hA, hF, hL, hC, hS0⟩ := hX
  subst hq
  intro H locs la hP hD hS hl
  have hn : 2 < nL := by have := hl.1.2; simp at this; omega
  exact lv_astore_n hx hb d rfl hl.has hn rfl (fun la2 h2 => k H locs la2 hP hD hS (LH.set hl.1.2 hno h2))

theorem n_iinc2 {X : XT} {D : va_G} {cI cS : ClassId} {cc : ByteArray} {own : String} {F L C S : Nat} (hX : OKN X D cI cS cc own F L C S) {pc q : Nat} {ls : List (Option Value)} {a0 a1 : Option Value}  {st : List Value} {ws : va_W} {cs sl : Nat} {n : Int} {x v : Int32} (d : decode cc pc = .ok (.iinc 2 n, 3)) (hq : pc + 3 = q) (hno : nolong (a0 :: a1 :: some (.int x) :: ls) = true) (hv : x + Int32.ofInt n = v) (k : WN X D q (a0 :: a1 :: some (.int v) :: ls) st ws cs sl) : WN X D pc (a0 :: a1 :: some (.int x) :: ls) st ws cs sl := by
  obtain ⟨p, l, e, R, s, m, args, below, meth, c, Q, A, nL, cs0, sl0⟩ := X
  obtain ⟨hx, hb, hml, hown, hts, hK, hO, hA, hF, hL, hC, hS0⟩ := hX
  subst hq
  intro H locs la hP hD hS hl
  have hn : 2 < nL := by have := hl.1.2; simp at this; omega
  have hm : (2, Value.int x) ∈ lvl (a0 :: a1 :: some (.int x) :: ls) := lvl_mem.mpr rfl
  obtain ⟨j, hj⟩ := List.getElem?_of_mem hm
  exact lv_iinc hx hb d hl.has hj hv hn rfl (fun la2 h2 => k H locs la2 hP hD hS (LH.set hl.1.2 hno h2))

theorem n_iload3 {X : XT} {D : va_G} {cI cS : ClassId} {cc : ByteArray} {own : String} {F L C S : Nat} (hX : OKN X D cI cS cc own F L C S) {pc q : Nat} {ls : List (Option Value)} {a0 a1 a2 : Option Value}  {st : List Value} {ws : va_W} {cs sl : Nat} {x : Int32} (d : decode cc pc = .ok (.iload_n 3, 1)) (hq : pc + 1 = q) (k : WN X D q (a0 :: a1 :: a2 :: some (.int x) :: ls) (.int x :: st) ws cs sl) : WN X D pc (a0 :: a1 :: a2 :: some (.int x) :: ls) st ws cs sl := by
  obtain ⟨p, l, e, R, s, m, args, below, meth, c, Q, A, nL, cs0, sl0⟩ := X
  obtain ⟨hx, hb, hml, hown, hts, hK, hO, hA, hF, hL, hC, hS0⟩ := hX
  subst hq
  intro H locs la hP hD hS hl
  exact lv_iload_n hx hb d rfl (hl.get (i := 3) rfl) (k H locs la hP hD hS hl)

theorem n_aload3 {X : XT} {D : va_G} {cI cS : ClassId} {cc : ByteArray} {own : String} {F L C S : Nat} (hX : OKN X D cI cS cc own F L C S) {pc q : Nat} {ls : List (Option Value)} {a0 a1 a2 : Option Value}  {st : List Value} {ws : va_W} {cs sl : Nat} {x : Nat} (d : decode cc pc = .ok (.aload_n 3, 1)) (hq : pc + 1 = q) (k : WN X D q (a0 :: a1 :: a2 :: some (.ref x) :: ls) (.ref x :: st) ws cs sl) : WN X D pc (a0 :: a1 :: a2 :: some (.ref x) :: ls) st ws cs sl := by
  obtain ⟨p, l, e, R, s, m, args, below, meth, c, Q, A, nL, cs0, sl0⟩ := X
  obtain ⟨hx, hb, hml, hown, hts, hK, hO, hA, hF, hL, hC, hS0⟩ := hX
  subst hq
  intro H locs la hP hD hS hl
  exact lv_aload_n hx hb d rfl (hl.get (i := 3) rfl) (k H locs la hP hD hS hl)

theorem n_istore3 {X : XT} {D : va_G} {cI cS : ClassId} {cc : ByteArray} {own : String} {F L C S : Nat} (hX : OKN X D cI cS cc own F L C S) {pc q : Nat} {ls : List (Option Value)} {a0 a1 a2 : Option Value}  {st : List Value} {ws : va_W} {cs sl : Nat} {z : Option Value} {x : Int32} (d : decode cc pc = .ok (.istore_n 3, 1)) (hq : pc + 1 = q) (hno : nolong (a0 :: a1 :: a2 :: z :: ls) = true) (k : WN X D q (a0 :: a1 :: a2 :: some (.int x) :: ls) st ws cs sl) : WN X D pc (a0 :: a1 :: a2 :: z :: ls) (.int x :: st) ws cs sl := by
  obtain ⟨p, l, e, R, s, m, args, below, meth, c, Q, A, nL, cs0, sl0⟩ := X
  obtain ⟨hx, hb, hml, hown, hts, hK, hO, hA, hF, hL, hC, hS0⟩ := hX
  subst hq
  intro H locs la hP hD hS hl
  have hn : 3 < nL := by have := hl.1.2; simp at this; omega
  exact lv_istore_n hx hb d rfl hl.has hn rfl (fun la2 h2 => k H locs la2 hP hD hS (LH.set hl.1.2 hno h2))

theorem n_astore3 {X : XT} {D : va_G} {cI cS : ClassId} {cc : ByteArray} {own : String} {F L C S : Nat} (hX : OKN X D cI cS cc own F L C S) {pc q : Nat} {ls : List (Option Value)} {a0 a1 a2 : Option Value}  {st : List Value} {ws : va_W} {cs sl : Nat} {z : Option Value} {x : Nat} (d : decode cc pc = .ok (.astore_n 3, 1)) (hq : pc + 1 = q) (hno : nolong (a0 :: a1 :: a2 :: z :: ls) = true) (k : WN X D q (a0 :: a1 :: a2 :: some (.ref x) :: ls) st ws cs sl) : WN X D pc (a0 :: a1 :: a2 :: z :: ls) (.ref x :: st) ws cs sl := by
  obtain ⟨p, l, e, R, s, m, args, below, meth, c, Q, A, nL, cs0, sl0⟩ := X
  obtain ⟨hx, hb, hml, hown, hts, hK, hO, hA, hF, hL, hC, hS0⟩ := hX
  subst hq
  intro H locs la hP hD hS hl
  have hn : 3 < nL := by have := hl.1.2; simp at this; omega
  exact lv_astore_n hx hb d rfl hl.has hn rfl (fun la2 h2 => k H locs la2 hP hD hS (LH.set hl.1.2 hno h2))

theorem n_iinc3 {X : XT} {D : va_G} {cI cS : ClassId} {cc : ByteArray} {own : String} {F L C S : Nat} (hX : OKN X D cI cS cc own F L C S) {pc q : Nat} {ls : List (Option Value)} {a0 a1 a2 : Option Value}  {st : List Value} {ws : va_W} {cs sl : Nat} {n : Int} {x v : Int32} (d : decode cc pc = .ok (.iinc 3 n, 3)) (hq : pc + 3 = q) (hno : nolong (a0 :: a1 :: a2 :: some (.int x) :: ls) = true) (hv : x + Int32.ofInt n = v) (k : WN X D q (a0 :: a1 :: a2 :: some (.int v) :: ls) st ws cs sl) : WN X D pc (a0 :: a1 :: a2 :: some (.int x) :: ls) st ws cs sl := by
  obtain ⟨p, l, e, R, s, m, args, below, meth, c, Q, A, nL, cs0, sl0⟩ := X
  obtain ⟨hx, hb, hml, hown, hts, hK, hO, hA, hF, hL, hC, hS0⟩ := hX
  subst hq
  intro H locs la hP hD hS hl
  have hn : 3 < nL := by have := hl.1.2; simp at this; omega
  have hm : (3, Value.int x) ∈ lvl (a0 :: a1 :: a2 :: some (.int x) :: ls) := lvl_mem.mpr rfl
  obtain ⟨j, hj⟩ := List.getElem?_of_mem hm
  exact lv_iinc hx hb d hl.has hj hv hn rfl (fun la2 h2 => k H locs la2 hP hD hS (LH.set hl.1.2 hno h2))

theorem n_icmp_ge {X : XT} {D : va_G} {cI cS : ClassId} {cc : ByteArray} {own : String} {F L C S : Nat} (hX : OKN X D cI cS cc own F L C S) {pc q : Nat} {ls : List (Option Value)} {st : List Value} {ws : va_W} {cs sl : Nat} {a b : Int32} {off : Int} {tgt : Nat} (d : decode cc pc = .ok (.if_icmp .ge off, 3)) (hq : pc + 3 = q) (ht : (pc : Int) + off = (tgt : Int)) (kt : b ≤ a → WN X D tgt ls st ws cs sl) (kf : ¬ b ≤ a → WN X D q ls st ws cs sl) : WN X D pc ls (.int b :: .int a :: st) ws cs sl := by
  obtain ⟨p, l, e, R, s, m, args, below, meth, c, Q, A, nL, cs0, sl0⟩ := X
  obtain ⟨hx, hb, hml, hown, hts, hK, hO, hA, hF, hL, hC, hS0⟩ := hX
  subst hq
  intro H locs la hP hD hS hl
  exact lv_icmp_ge hx hb d ht (fun h => kt h H locs la hP hD hS hl) (fun h => kf h H locs la hP hD hS hl)
theorem n_goto {X : XT} {D : va_G} {cI cS : ClassId} {cc : ByteArray} {own : String} {F L C S : Nat} (hX : OKN X D cI cS cc own F L C S) {pc : Nat} {ls : List (Option Value)} {st : List Value} {ws : va_W} {cs sl : Nat} {off : Int} {tgt : Nat} (d : decode cc pc = .ok (.goto off, 3)) (ht : (pc : Int) + off = (tgt : Int)) (k : WN X D tgt ls st ws cs sl) : WN X D pc ls st ws cs sl := by
  obtain ⟨p, l, e, R, s, m, args, below, meth, c, Q, A, nL, cs0, sl0⟩ := X
  obtain ⟨hx, hb, -⟩ := hX
  intro H locs la hP hD hS hl
  exact lv_goto hx hb d ht (k H locs la hP hD hS hl)
theorem n_alen {X : XT} {D : va_G} {cI cS : ClassId} {cc : ByteArray} {own : String} {F L C S : Nat} (hX : OKN X D cI cS cc own F L C S) {pc q : Nat} {ls : List (Option Value)} {st : List Value} {ws : va_W} {cs sl : Nat} {a n q0 : Nat} {f : Nat → Int32} (d : decode cc pc = .ok (.arraylength, 1)) (hq : pc + 1 = q) (he : ws[q0]? = some (a, .inl (cI, n, .inl f))) (k : WN X D q ls (.int (nI n) :: st) ws cs sl) : WN X D pc ls (.ref a :: st) ws cs sl := by
  obtain ⟨p, l, e, R, s, m, args, below, meth, c, Q, A, nL, cs0, sl0⟩ := X
  obtain ⟨hx, hb, hml, hown, hts, hK, hO, hA, hF, hL, hC, hS0⟩ := hX
  subst hq
  intro H locs la hP hD hS hl
  exact va_alen (v := nI n) hx hb hK hP q0 0 he rfl rfl d (k H locs la hP hD hS hl)
theorem n_iast {X : XT} {D : va_G} {cI cS : ClassId} {cc : ByteArray} {own : String} {F L C S : Nat} (hX : OKN X D cI cS cc own F L C S) {pc q : Nat} {ls : List (Option Value)} {st : List Value} {ws : va_W} {cs sl : Nat} {a n q0 j : Nat} {i v : Int32} {f : Nat → Int32} {ws' : va_W} (d : decode cc pc = .ok (.iastore, 1)) (hq : pc + 1 = q) (he : ws[q0]? = some (a, .inl (cI, n, .inl f))) (hi : i = nI j) (hj : j < n) (hn : n < 2 ^ 31) (hws : ws.set q0 (a, .inl (cI, n, .inl (upd f j v))) = ws') (k : WN X D q ls st ws' cs sl) : WN X D pc ls (.int v :: .int i :: .ref a :: st) ws cs sl := by
  obtain ⟨p, l, e, R, s, m, args, below, meth, c, Q, A, nL, cs0, sl0⟩ := X
  obtain ⟨hx, hb, hml, hown, hts, hK, hO, hA, hF, hL, hC, hS0⟩ := hX
  subst hq
  intro H locs la hP hD hS hl
  subst hi
  subst hws
  refine va_iast hx hb hK hP hD hS q0 0 he rfl (vp_in_nI hj hn) d (fun H1 locs1 p1 d1 s1 => ?_)
  rw [nI_clamp (by omega)] at p1 d1
  exact k H1 locs1 la p1 d1 s1 hl
theorem n_newa {X : XT} {D : va_G} {cI cS : ClassId} {cc : ByteArray} {own : String} {F L C S : Nat} (hX : OKN X D cI cS cc own F L C S) {pc q : Nat} {ls : List (Option Value)} {st : List Value} {ws : va_W} {cs sl : Nat} {n : Nat} {i : Int32} (d : decode cc pc = .ok (.newarray .int, 2)) (hq : pc + 2 = q) (harr : Cond.arrayClass .int ∈ TB) (hi : i = nI n) (hn : n ≤ 1000) (hC1 : cs + 1 ≤ C) (hS1 : sl + n ≤ S) (k : ∀ a : Nat, WN X D q ls (.ref a :: st) (ws ++ [(a, .inl (cI, n, .inl (fun _ => 0)))]) (cs + 1) (sl + n)) : WN X D pc ls (.int i :: st) ws cs sl := by
  obtain ⟨p, l, e, R, s, m, args, below, meth, c, Q, A, nL, cs0, sl0⟩ := X
  obtain ⟨hx, hb, hml, hown, hts, hK, hO, hA, hF, hL, hC, hS0⟩ := hX
  subst hq
  intro H locs la hP hD hS hl
  subst hi
  refine va_newa (atype := .int) (ty := .int) (N' := n) (a0 := (n, .inl (fun _ => 0))) hx hb (hts _ harr) rfl hK hP hD hS hA (fun _ => rfl) (by rw [← nI_0]; exact Int32.not_lt.mpr (nI_le (Nat.zero_le _) (by omega))) (nI_clamp (by omega)) (by show n * 4 ≤ _; omega) (by omega) (by omega) d (fun a cA H1 k1 p1 d1 s1 => ?_)
  have e1 : cA = cI := by
    have h1 := (k1.2 2 (cA, .int) rfl).2
    have h2 := (hK.2 0 (cI, .int) rfl).2
    exact Option.some.inj (h1.symm.trans h2)
  subst e1
  exact k a H1 locs la p1 d1 s1 hl
theorem n_newq {X : XT} {D : va_G} {cI cS : ClassId} {cc : ByteArray} {own : String} {F L C S : Nat} (hX : OKN X D cI cS cc own F L C S) {pc q : Nat} {ls : List (Option Value)} {st : List Value} {ws : va_W} {cs sl : Nat} {index : Nat} {i : Int32} (d : decode cc pc = .ok (.anewarray index, 3)) (hq : pc + 3 = q) (hc : Cond.classLink own index "PeaSpoons$Sheet" ∈ TB) (hi : i = nI 4) (hC1 : cs + 1 ≤ C) (hS1 : sl + 4 ≤ S) (k : ∀ a : Nat, WN X D q ls (.ref a :: st) (ws ++ [(a, .inl (cS, 4, .inr (.inr (.inr (.inr (fun _ => none))))))]) (cs + 1) (sl + 4)) : WN X D pc ls (.int i :: st) ws cs sl := by
  obtain ⟨p, l, e, R, s, m, args, below, meth, c, Q, A, nL, cs0, sl0⟩ := X
  obtain ⟨hx, hb, hml, hown, hts, hK, hO, hA, hF, hL, hC, hS0⟩ := hX
  subst hq
  intro H locs la hP hD hS hl
  subst hi
  refine va_newq (N' := 4) hx hb hown (hts _ hc) hO hK hP hD hS hA (by decide +kernel) (by decide +kernel) (by decide) (by omega) (by omega) d (fun a cA H1 k1 p1 d1 s1 => ?_)
  have e1 : cA = cS := by
    obtain ⟨_, _, _, _, _, h1⟩ := (k1.2 2 (cA, .object "PeaSpoons$Sheet") rfl).2
    obtain ⟨_, _, _, _, _, h2⟩ := (hK.2 1 (cS, .object "PeaSpoons$Sheet") rfl).2
    exact Option.some.inj (h1.symm.trans h2)
  subst e1
  exact k a H1 locs la p1 d1 s1 hl
theorem n_aast {X : XT} {D : va_G} {cI cS : ClassId} {cc : ByteArray} {own : String} {F L C S : Nat} (hX : OKN X D cI cS cc own F L C S) {pc q : Nat} {ls : List (Option Value)} {st : List Value} {ws : va_W} {cs sl : Nat} {a x q0 qk j : Nat} {i : Int32} {vs : List Value} {f : Nat → Option Nat} {ws' : va_W} (d : decode cc pc = .ok (.aastore, 1)) (hq : pc + 1 = q) (he : ws[q0]? = some (a, .inl (cS, 4, .inr (.inr (.inr (.inr f)))))) (hv : ws[qk]? = some (x, .inr (2, vs))) (hi : i = nI j) (hj : j < 4) (hws : ws.set q0 (a, .inl (cS, 4, .inr (.inr (.inr (.inr (va_up f j (some x))))))) = ws') (k : WN X D q ls st ws' cs sl) : WN X D pc ls (.ref x :: .int i :: .ref a :: st) ws cs sl := by
  obtain ⟨p, l, e, R, s, m, args, below, meth, c, Q, A, nL, cs0, sl0⟩ := X
  obtain ⟨hx, hb, hml, hown, hts, hK, hO, hA, hF, hL, hC, hS0⟩ := hX
  subst hq
  intro H locs la hP hD hS hl
  subst hi
  subst hws
  refine va_astq hx hb hK hP hD hS q0 1 qk 2 (r := (RX2, TX2, 3)) he rfl hv rfl (vp_in_nI hj (by decide)) d (fun H1 locs1 p1 d1 s1 => ?_)
  rw [nI_clamp (by omega)] at p1 d1
  exact k H1 locs1 la p1 d1 s1 hl
/-- what 'new' makes -/
def CN (own : String) (index ci n : Nat) (fs : List Value) : Prop := ∃ (Cn : String) (T : u_T) (ty : Nat → FieldType), vwCl[ci]? = some (Cn, T, n) ∧ Cond.classLink own index Cn ∈ TB ∧ Cond.instantiable Cn n ∈ TB ∧ Cond.initialized Cn ∈ TB ∧ (∀ w ∈ u_ws Cn T n, w ∈ TB) ∧ (∀ k, k < n → parseFieldDescriptor (T k).2.2.1 = some (ty k)) ∧ ∀ j, j < n → defaultValue (ty j) = vp_V fs j
theorem n_new {X : XT} {D : va_G} {cI cS : ClassId} {cc : ByteArray} {own : String} {F L C S : Nat} (hX : OKN X D cI cS cc own F L C S) {pc q : Nat} {ls : List (Option Value)} {st : List Value} {ws : va_W} {cs sl : Nat} {index ci n : Nat} {fs : List Value} (d : decode cc pc = .ok (.new index, 3)) (hq : pc + 3 = q) (hc : CN own index ci n fs) (hC1 : cs + 1 ≤ C) (hS1 : sl + n ≤ S) (k : ∀ a : Nat, WN X D q ls (.ref a :: st) (ws ++ [(a, .inr (ci, fs))]) (cs + 1) (sl + n)) : WN X D pc ls st ws cs sl := by
  obtain ⟨p, l, e, R, s, m, args, below, meth, c, Q, A, nL, cs0, sl0⟩ := X
  obtain ⟨hx, hb, hml, hown, hts, hK, hO, hA, hF, hL, hC, hS0⟩ := hX
  subst hq
  intro H locs la hP hD hS hl
  obtain ⟨Cn, T, ty, h1, h2, h3, h4, h5, h6, h7⟩ := hc
  exact va_new hx hb hts h5 ty h6 hown (hts _ h2) (hts _ h3) (hts _ h4) hK hP hD hS hA h1 h7 (by omega) (by omega) d (fun a H1 p1 d1 s1 => k a H1 locs la p1 d1 s1 hl)
/-- a final field, of the constructor's own class -/
def FN (own : String) (ci k : Nat) (ty : FieldType) : Prop := ∃ (Cn : String) (T : u_T) (N : Nat), vwCl[ci]? = some (Cn, T, N) ∧ (T k).2.2.2 = true ∧ (T k).1 = own ∧ parseFieldDescriptor (T k).2.2.1 = some ty
theorem n_putF {X : XT} {D : va_G} {cI cS : ClassId} {cc : ByteArray} {own : String} {F L C S : Nat} (hX : OKN X D cI cS cc own F L C S) {pc q : Nat} {ls : List (Option Value)} {st : List Value} {ws : va_W} {cs sl : Nat} {index ci k a q0 : Nat} {v : Value} {ty : FieldType} {fs : List Value} {ws' : va_W} (hin : XIN X) (d : decode cc pc = .ok (.putfield index, 3)) (hq : pc + 3 = q) (hf : FL own index ci k) (hw : FN own ci k ty) (hn : narrow ty v = v) (hfit : fits ty v = true) (he : ws[q0]? = some (a, .inr (ci, fs))) (hk : k < fs.length) (hws : ws.set q0 (a, .inr (ci, fs.set k v)) = ws') (kk : WN X D q ls st ws' cs sl) : WN X D pc ls (v :: .ref a :: st) ws cs sl := by
  obtain ⟨p, l, e, R, s, m, args, below, meth, c, Q, A, nL, cs0, sl0⟩ := X
  obtain ⟨hx, hb, hml, hown, hts, hK, hO, hA, hF, hL, hC, hS0⟩ := hX
  subst hq
  intro H locs la hP hD hS hl
  subst hws
  obtain ⟨Cn, T, N, ty0, h1, h2, h3, h4, h5, h6⟩ := hf
  obtain ⟨C', T', N', g1, g2, g3, g4⟩ := hw
  cases h1.symm.trans g1
  exact va_putF hx hb hts h4 ty0 h5 h6 hown hK hP hD hS q0 he h1 k h2 (hts _ h3) (fun _ h9 => h9) g2 hin g3 g4 hn hfit hk d (fun H1 locs1 p1 d1 s1 => kk H1 locs1 la p1 d1 s1 hl)
theorem n_put {X : XT} {D : va_G} {cI cS : ClassId} {cc : ByteArray} {own : String} {F L C S : Nat} (hX : OKN X D cI cS cc own F L C S) {pc q : Nat} {ls : List (Option Value)} {st : List Value} {ws : va_W} {cs sl : Nat} {index ci k a q0 : Nat} {v : Int32} {ty : FieldType} {fs : List Value} {ws' : va_W} (d : decode cc pc = .ok (.putfield index, 3)) (hq : pc + 3 = q) (hf : FL own index ci k) (hw : FW ci k ty) (hn : narrow ty (.int v) = .int v) (hfit : fits ty (.int v) = true) (he : ws[q0]? = some (a, .inr (ci, fs))) (hk : k < fs.length) (hws : ws.set q0 (a, .inr (ci, fs.set k (.int v))) = ws') (kk : WN X D q ls st ws' cs sl) : WN X D pc ls (.int v :: .ref a :: st) ws cs sl := by
  obtain ⟨p, l, e, R, s, m, args, below, meth, c, Q, A, nL, cs0, sl0⟩ := X
  obtain ⟨hx, hb, hml, hown, hts, hK, hO, hA, hF, hL, hC, hS0⟩ := hX
  subst hq
  intro H locs la hP hD hS hl
  subst hws
  obtain ⟨Cn, T, N, ty0, h1, h2, h3, h4, h5, h6⟩ := hf
  obtain ⟨C', T', N', g1, g2, g3⟩ := hw
  cases h1.symm.trans g1
  exact va_put hx hb hts h4 ty0 h5 h6 hown hK hP hD hS q0 he h1 k h2 (hts _ h3) (fun _ h9 => h9) g2 g3 hn hfit hk d (fun H1 locs1 p1 d1 s1 => kk H1 locs1 la p1 d1 s1 hl)
theorem n_get {X : XT} {D : va_G} {cI cS : ClassId} {cc : ByteArray} {own : String} {F L C S : Nat} (hX : OKN X D cI cS cc own F L C S) {pc q : Nat} {ls : List (Option Value)} {st : List Value} {ws : va_W} {cs sl : Nat} {index ci k a q0 : Nat} {v : Value} {fs : List Value} (d : decode cc pc = .ok (.getfield index, 3)) (hq : pc + 3 = q) (hf : FL own index ci k) (he : ws[q0]? = some (a, .inr (ci, fs))) (hv : fs[k]? = some v) (kk : WN X D q ls (v :: st) ws cs sl) : WN X D pc ls (.ref a :: st) ws cs sl := by
  obtain ⟨p, l, e, R, s, m, args, below, meth, c, Q, A, nL, cs0, sl0⟩ := X
  obtain ⟨hx, hb, hml, hown, hts, hK, hO, hA, hF, hL, hC, hS0⟩ := hX
  subst hq
  intro H locs la hP hD hS hl
  obtain ⟨Cn, T, N, ty0, h1, h2, h3, h4, h5, h6⟩ := hf
  exact va_get hx hb hts h4 hown hK hP q0 he h1 k h2 (hts _ h3) (fun _ h9 => h9) hv d (kk H locs la hP hD hS hl)
theorem n_obj {X : XT} {D : va_G} {cI cS : ClassId} {cc : ByteArray} {own : String} {F L C S : Nat} (hX : OKN X D cI cS cc own F L C S) {pc q : Nat} {ls : List (Option Value)} {st : List Value} {ws : va_W} {cs sl : Nat} {index a : Nat} (d : decode cc pc = .ok (.invokespecial index, 3)) (hq : pc + 3 = q) (h1 : Cond.methodLink own index objectInit ∈ TB) (h2 : Cond.instanceMethod objectInit ∈ TB ∧ Cond.code objectInit ⟨#[0xb1]⟩ 1 none ∈ TB) (hcat : (st.map fun v => v.category).sum ≤ 8) (hroom : 1 ≤ F ∧ 20 ≤ L) (k : WN X D q ls st ws cs sl) : WN X D pc ls (.ref a :: st) ws cs sl := by
  obtain ⟨p, l, e, R, s, m, args, below, meth, c, Q, A, nL, cs0, sl0⟩ := X
  obtain ⟨hx, hb, hml, hown, hts, hK, hO, hA, hF, hL, hC, hS0⟩ := hX
  subst hq
  intro H locs la hP hD hS hl
  subst hF hL
  exact W.objInit hx hb hown (hts _ h1) (hts _ h2.1) (hts _ h2.2) rfl (by rw [hml]; exact hl.1.1) rfl d hroom.1 (Nat.le_trans (Nat.add_le_add_right (lv_room hcat) 12) hroom.2) (W.eq (g2 := F0 m (pc + 3) la st) rfl (k H locs la hP hD hS hl))
theorem n_cg {X : XT} {D : va_G} {pc : Nat} {ls : List (Option Value)} {st : List Value} {ws ws' : va_W} {cs sl : Nat} (h : ws = ws') (k : WN X D pc ls st ws' cs sl) : WN X D pc ls st ws cs sl := h ▸ k
/-! contracts of methods that make cells -/
abbrev rmN (fr lo mc ms : Nat) : Room := { frames := fr, cells := mc, slots := ms, locals := lo }
def PN (av : List Value) (D : va_G) (cI cS : ClassId) (w0 : Nat × va_E) (sz : Nat) : Array Value → State → Prop := va_Pc av (fun U => U.heap.size = sz ∧ va_P D vwCl [w0] U.heap ∧ va_K D vwCl (tyN cI cS) U ∧ va_AO "PeaSpoons$Sheet" U)
def QN (D : va_G) (w0 : Nat × va_E) (sz : Nat) (mk : (Nat → Nat) → va_W) : Array Value → State → Outcome → State → Prop := va_Qv (fun u : Nat → Nat => u 0 = w0.1) (fun u U => va_P D vwCl (mk u) U.heap ∧ va_D (va_A [w0] sz) (mk u)) (va_A [w0] sz)
def MN (l : Launch) (y : MethodName) (cc : ByteArray) (maxL fr lo mc ms : Nat) (D : va_G) (cI cS : ClassId) (av : Nat → List Value) (w0 : va_E) (mk : (Nat → Nat) → va_W) : Prop := ∀ (h sz : Nat), Met l y (.code y cc maxL none :: TB) (rmN fr lo mc ms) (PN (av h) D cI cS (h, w0) sz) (QN D (h, w0) sz mk) mc ms (va_A [(h, w0)] sz)
theorem PN.blind {av : List Value} {D : va_G} {cI cS : ClassId} {w0 : Nat × va_E} {sz : Nat} : FrameBlind (PN av D cI cS w0 sz) := fun a U g mk q => by
  obtain ⟨q0, q1, qP, qK, qO⟩ := q
  exact ⟨q0, q1, qP, va_K.moved (u := U) (U := U.calling g mk a) (Vm.Alike.refl U.vm) qK, va_AO.moved (u := U) (U := U.calling g mk a) (Vm.Alike.refl U.vm) qO⟩
def RN (X : XT) (D : va_G) (w0 : Nat × va_E) (mc ms : Nat) (mk : (Nat → Nat) → va_W) : Prop := match X with
  | (_, _, _, _, s, _, args, below, meth, _, Q, A, _, _, _) => meth.sig.returnType = none ∧ meth.locks = false ∧ A = va_A [w0] s.heap.size ∧ Q = MQ below (QN D w0 s.heap.size mk) args s mc ms (va_A [w0] s.heap.size)
theorem MN_of {l : Launch} {y : MethodName} {cc : ByteArray} {maxL fr lo mc ms : Nat} {D : va_G} {cI cS : ClassId} {av : Nat → List Value} {w0 : va_E} {mk : (Nat → Nat) → va_W} {own : String} (ho : y.cls = own) (hy : plainFor y = true) (hav : ∀ h, no2 (av h) = true ∧ (av h).length ≤ maxL)
    (body : ∀ (X : XT) (h : Nat), OKN X D cI cS cc own fr lo mc ms → RN X D (h, w0) mc ms mk → (y.name = "<init>" → XIN X) → X.2.1 = l → WN X D 0 (ents (av h) maxL) [] [(h, w0)] 0 0) : MN l y cc maxL fr lo mc ms D cI cS av w0 mk := by
  subst ho
  intro h sz
  refine va_MetF (cc := cc) (maxL := maxL) (ret := none) hy rfl ?_
  intro p e s m args below meth c s₁ B hml hv
  obtain ⟨rfl, hsz, hP, hK, hO⟩ := hv
  subst hsz
  have hts := atoms_spec (ws := .code y cc maxL none :: TB) B.pre
  have hin : meth.name = y.name := (name_of_methodNamed B.named B.method).1
  have hD : va_D (va_A [(h, w0)] s.heap.size) [(h, w0)] := by
    refine ⟨fun i j p q h1 h2 _ => ?_, fun k q hk => va_A.in hk⟩
    have a1 := (List.getElem?_eq_some_iff.mp h1).1
    have a2 := (List.getElem?_eq_some_iff.mp h2).1
    simp at a1 a2
    omega
  have hh := body (p, l, e, rmN fr lo mc ms, s, m, (av h).toArray, below, meth, c, MQ below (QN D (h, w0) s.heap.size mk) (av h).toArray s mc ms (va_A [(h, w0)] s.heap.size), va_A [(h, w0)] s.heap.size, maxL, 0, 0) h
    ⟨B.exec, B.bytes, hml, findClass_of_methodNamed B.named, fun w hw => hts w (List.mem_cons_of_mem _ hw), hK, hO, fun q hq => Or.inr hq, rfl, rfl, rfl, rfl⟩
    ⟨B.returns, B.notSynchronized, rfl, rfl⟩ (fun hn => hin.trans hn) rfl
  rw [lg_entry_eq]
  have hl := lv_entry (av h) (n := maxL) (by rw [lgsl_len (av h) (hav h).1]; exact (hav h).2)
  exact hh s.heap [] _ hP hD va_S.rf ⟨⟨hl.1, ents_len (av h) maxL (hav h).2⟩, hl.2.1, fun i v hi => hl.2.2 (i, v) (by
    have := lvargs_at (av h) 0 (hav h).1 i v (ents_at (av h) maxL i v hi)
    rwa [Nat.zero_add] at this)⟩
theorem n_vret {X : XT} {D : va_G} {cI cS : ClassId} {cc : ByteArray} {own : String} {F L C S : Nat} (hX : OKN X D cI cS cc own F L C S) {pc : Nat} {ls : List (Option Value)} {ws : va_W} {cs sl mc ms : Nat} {w0 : Nat × va_E} {mk : (Nat → Nat) → va_W} (hR : RN X D w0 mc ms mk) (d : decode cc pc = .ok (.return_, 1)) (u : Nat → Nat) (hu : u 0 = w0.1) (hw : ws = mk u) (hcs : cs ≤ mc) (hsl : sl ≤ ms) : WN X D pc ls [] ws cs sl := by
  obtain ⟨p, l, e, R, s, m, args, below, meth, c, Q, A, nL, cs0, sl0⟩ := X
  obtain ⟨hx, hb, -⟩ := hX
  obtain ⟨hr, hlk, rfl, rfl⟩ := hR
  subst hw
  intro H locs la hP hD hS hl
  refine W.widen hcs hsl ?_
  exact W.vret hx hb hr (fun t ht hW => ⟨⟨u, rfl, hu, by rw [ht]; exact hP, hD⟩, hS.F ht⟩) hS.2.2 d hlk
theorem n_join {A0 : Nat → Prop} {D : va_G} {ws w1 : va_W} {x : Nat × va_E} {q0 : Nat} {H H1 : Heap} (hP : va_P D vwCl ws H) (hD : va_D A0 ws) (he : ws[q0]? = some x) (wr : va_W) (hwr : ∀ (k : Nat) (z : Nat × va_E), wr[k]? = some z → ∃ i : Nat, ¬ i = q0 ∧ ws[i]? = some z) (hwd : ∀ (i j : Nat) (a b : Nat × va_E), wr[i]? = some a → wr[j]? = some b → a.1 = b.1 → i = j)
    (hk : ∀ q : Nat, q < H.size → ¬ va_A [x] H.size q → H1[q]? = H[q]?) (hF : ∀ q, va_A [x] H.size q → A0 q) (hP1 : va_P D vwCl w1 H1) (hD1 : va_D (va_A [x] H.size) w1) : va_P D vwCl (wr ++ w1) H1 ∧ va_D A0 (wr ++ w1) := by
  have apart : ∀ (k : Nat) (z : Nat × va_E), wr[k]? = some z → z.1 < H.size ∧ ¬ va_A [x] H.size z.1 := by
    intro k z hz
    obtain ⟨i, h1, h2⟩ := hwr k z hz
    have hl := (hP i z h2).lt
    refine ⟨hl, fun h => ?_⟩
    rcases h with ⟨k2, e, h⟩ | h
    · have a2 := (List.getElem?_eq_some_iff.mp h).1
      simp at a2
      subst a2
      have ex : x = (z.1, e) := Option.some.inj h
      exact h1 (hD.1 i q0 z x h2 he (by rw [ex]))
    · omega
  refine ⟨va_P.app (fun k z hz => ?_) hP1, va_D.app ⟨hwd, fun k z hz => ?_⟩ (hD1.weaken (fun k z _ h => hF z.1 h)) (fun i j y z hy hz hyz => ?_)⟩
  · obtain ⟨i, h1, h2⟩ := hwr k z hz
    obtain ⟨g1, g2⟩ := apart k z hz
    exact (hP i z h2).kept (hk z.1 g1 g2)
  · obtain ⟨i, h1, h2⟩ := hwr k z hz
    exact hD.2 i z h2
  · exact (apart i y hy).2 (by rw [hyz]; exact hD1.2 j z hz)
/-- a constructor's call, on the newest cell -/
theorem n_callI {X : XT} {D : va_G} {cI cS : ClassId} {cc : ByteArray} {own : String} {F L C S : Nat} (hX : OKN X D cI cS cc own F L C S) {pc q : Nat} {ls : List (Option Value)} {st : List Value} {ws : va_W} {cs sl : Nat} {y : MethodName} {bytes : ByteArray} {maxL fr lo mc ms index a : Nat} {w0 : va_E} {mk : (Nat → Nat) → va_W} {wr : va_W} (d : decode cc pc = .ok (.invokespecial index, 3)) (hq : pc + 3 = q) (hM : MN X.2.1 y bytes maxL fr lo mc ms D cI cS (fun h => [.ref h]) w0 mk) (hl1 : Cond.methodLink own index y ∈ TB) (hl2 : MLw y bytes maxL none 0) (hl3 : Cond.instanceMethod y ∈ TB) (hyn : y.name = "<init>") (hws : ws = wr ++ [(a, w0)]) (hroom : fr + 1 ≤ F ∧ 8 + (maxL + 11) + lo ≤ L) (hcat : (st.map fun v => v.category).sum ≤ 8) (hC1 : cs + mc ≤ C) (hS1 : sl + ms ≤ S)
    (k : ∀ u : Nat → Nat, u 0 = a → WN X D q ls st (wr ++ mk u) (cs + mc) (sl + ms)) : WN X D pc ls (.ref a :: st) ws cs sl := by
  obtain ⟨p, l, e, R, s, m, args, below, meth, c, Q, A, nL, cs0, sl0⟩ := X
  obtain ⟨hx, hb, hml, hown, hts, hK, hO, hA, hF, hL, hC, hS0⟩ := hX
  subst hq
  intro H locs la hP hD hS hl
  subst hF hL hws hC hS0
  obtain ⟨g1, g2, g3⟩ := hl2
  have e1 : (wr ++ [(a, w0)])[wr.length]? = some (a, w0) := by simp
  have eL : ∀ (k : Nat) (z : Nat × va_E), wr[k]? = some z → (wr ++ [(a, w0)])[k]? = some z := fun k z h => by
    rw [List.getElem?_append_left (List.getElem?_eq_some_iff.mp h).1]; exact h
  have cb := callB_of (args := args) (s := s) (R := R) (own := own) (index := index) (mc := mc) (ms := ms) (rm := rmN fr lo mc ms) 0 hts (ws_good g2) rfl rfl rfl (hts _ g1) (hts _ hl1) g3 hroom
  have hPc : va_P D vwCl [(a, w0)] H := fun k z hz => by
    have a2 := (List.getElem?_eq_some_iff.mp hz).1
    simp at a2
    subst a2
    cases hz
    exact hP _ _ e1
  have hFc : ∀ q, va_A [(a, w0)] H.size q → A q := fun q h => by
    rcases h with ⟨k2, e, h⟩ | h
    · have a2 := (List.getElem?_eq_some_iff.mp h).1
      simp at a2
      subst a2
      cases h
      exact hD.2 _ _ e1
    · exact hA q (Nat.le_trans hS.1 h)
  refine va_callv (va_runI (As := []) (rest := st) ⟨hx, hb, hml, hown, hts⟩ (hM a H.size) ⟨cb, hyn, hts _ hl3⟩ ⟨PN.blind, fun U hU hW => ⟨rfl, by rw [hU], by rw [hU]; exact hPc, va_K.moved hW.alike hK, va_AO.moved hW.alike hO⟩⟩ rfl rfl hl.1.1 rfl (lv_room hcat) d ⟨hC1, hS1⟩) hS (fun q _ h => hFc q h) hFc (fun u t H1 locs1 ht hvm hu hB hz hk1 hS2 => ?_)
  obtain ⟨hP1, hD1⟩ := hB
  rw [ht] at hP1
  obtain ⟨p2, d2⟩ := n_join hP hD e1 wr (fun k z hz => ⟨k, by have := (List.getElem?_eq_some_iff.mp hz).1; omega, eL k z hz⟩) (fun i j x y hx hy hxy => hD.1 i j x y (eL i x hx) (eL j y hy) hxy) hk1 hFc hP1 hD1
  exact k u hu H1 locs1 la p2 d2 hS2 hl
/-- a row is filled -/
theorem n_fill {X : XT} {D : va_G} {cI cS : ClassId} {cc : ByteArray} {own : String} {F L C S : Nat} (hX : OKN X D cI cS cc own F L C S) {pc q : Nat} {ls : List (Option Value)} {st : List Value} {ws : va_W} {cs sl : Nat} {bytes : ByteArray} {maxL fr lo index a n q0 : Nat} {y : MethodName} {v : Int32} {f g : Nat → Int32} {ws' : va_W} (d : decode cc pc = .ok (.invokestatic index, 3)) (hq : pc + 3 = q) (hM : MN X.2.1 y bytes maxL fr lo 0 0 D cI cS (fun h => [.ref h, .int v]) (.inl (cI, n, .inl f)) (fun u => [(u 0, .inl (cI, n, .inl g))])) (hl1 : Cond.methodLink own index y ∈ TB) (hl2 : MLw y bytes maxL none 2) (hl3 : Cond.static y ∈ TB) (he : ws[q0]? = some (a, .inl (cI, n, .inl f))) (hws : ws.set q0 (a, .inl (cI, n, .inl g)) = ws') (hroom : fr + 1 ≤ F ∧ 8 + (maxL + 11) + lo ≤ L) (hcat : (st.map fun v => v.category).sum ≤ 8)
    (hcs : cs ≤ C ∧ sl ≤ S) (k : WN X D q ls st ws' cs sl) : WN X D pc ls (.int v :: .ref a :: st) ws cs sl := by
  obtain ⟨p, l, e, R, s, m, args, below, meth, c, Q, A, nL, cs0, sl0⟩ := X
  obtain ⟨hx, hb, hml, hown, hts, hK, hO, hA, hF, hL, hC, hS0⟩ := hX
  subst hq
  intro H locs la hP hD hS hl
  subst hF hL hws hC hS0
  obtain ⟨g1, g2, g3⟩ := hl2
  have cb := callB_of (args := args) (s := s) (R := R) (own := own) (index := index) (mc := 0) (ms := 0) (rm := rmN fr lo 0 0) 2 hts (ws_good g2) rfl rfl rfl (hts _ g1) (hts _ hl1) g3 hroom
  have hPc : va_P D vwCl [(a, .inl (cI, n, .inl f))] H := fun k z hz => by
    have a2 := (List.getElem?_eq_some_iff.mp hz).1
    simp at a2
    subst a2
    cases hz
    exact hP _ _ he
  have hFc : ∀ q, va_A [(a, .inl (cI, n, .inl f))] H.size q → A q := fun q h => by
    rcases h with ⟨k2, e, h⟩ | h
    · have a2 := (List.getElem?_eq_some_iff.mp h).1
      simp at a2
      subst a2
      cases h
      exact hD.2 _ _ he
    · exact hA q (Nat.le_trans hS.1 h)
  refine va_callv (va_runS (As := [.ref a, .int v]) (rest := st) ⟨hx, hb, hml, hown, hts⟩ (hM a H.size) ⟨cb, hts _ hl3⟩ ⟨PN.blind, fun U hU hW => ⟨rfl, by rw [hU], by rw [hU]; exact hPc, va_K.moved hW.alike hK, va_AO.moved hW.alike hO⟩⟩ rfl rfl hl.1.1 rfl (lv_room hcat) d hcs) hS (fun q _ h => hFc q h) hFc (fun u t H1 locs1 ht hvm hu hB hz hk1 hS2 => ?_)
  obtain ⟨hP1, hD1⟩ := hB
  rw [ht] at hP1
  have hu2 : u 0 = a := hu
  have hP2 : va_P D vwCl (ws.set q0 (a, .inl (cI, n, .inl g))) H1 := fun j z hz => by
    by_cases ej : j = q0
    · subst ej
      rw [List.getElem?_set_self (List.getElem?_eq_some_iff.mp he).1] at hz
      cases hz
      have := hP1 0 _ rfl
      rw [hu2] at this
      exact this
    · rw [List.getElem?_set_ne (fun q => ej q.symm)] at hz
      have hlt := (hP j z hz).lt
      refine (hP j z hz).kept (hk1 z.1 hlt (fun h => ?_))
      rcases h with ⟨k2, e, h⟩ | h
      · have a2 := (List.getElem?_eq_some_iff.mp h).1
        simp at a2
        subst a2
        have ex : ((a, .inl (cI, n, .inl f)) : Nat × va_E) = (z.1, e) := Option.some.inj h
        exact ej (hD.1 j q0 z _ hz he (congrArg Prod.fst ex).symm)
      · omega
  exact k H1 locs1 la hP2 (hD.set he) hS2 hl
