def imax (a b : Int32) : Int32 := if a < b then b else a
def imin (a b : Int32) : Int32 := if b < a then b else a
def slen : List Nat := [4, 6, 6, 4, 5, 6, 7, 4, 6, 5, 6, 4, 3, 4, 6, 7, 6]
def sbyt : List (List Int32) := [[98, 101, 110, 116], [104, 117, 110, 103, 101, 114], [119, 101, 105, 103, 104, 116], [108, 105, 110, 101], [116, 97, 115, 116, 101], [108, 105, 99, 107, 101, 100], [112, 114, 101, 115, 115, 101, 100], [112, 97, 105, 100], [99, 111, 112, 105, 101, 100], [103, 114, 111, 119, 110], [104, 105, 100, 100, 101, 110], [102, 111, 111, 100], [112, 117, 116], [108, 105, 107, 101], [98, 105, 116, 116, 101, 114], [112, 117, 100, 100, 105, 110, 103], [102, 114, 105, 101, 110, 100]]
def stab : List (String × Nat × String × Nat) := [("PeaSpoons$Text", 112, "put", 12), ("PeaSpoons$Text", 118, "like", 13), ("PeaSpoons$Text", 123, "bitter", 14), ("PeaSpoons$Text", 41, "food", 11), ("PeaSpoons$Text", 50, "pudding", 15), ("PeaSpoons$Text", 55, "friend", 16), ("PeaSpoons$Text", 60, "bent", 0), ("PeaSpoons$Text", 62, "hunger", 1), ("PeaSpoons$Text", 64, "weight", 2), ("PeaSpoons$Text", 66, "line", 3), ("PeaSpoons$Text", 72, "licked", 5), ("PeaSpoons$Text", 74, "pressed", 6), ("PeaSpoons$Text", 76, "paid", 7), ("PeaSpoons$Text", 78, "copied", 8), ("PeaSpoons$Text", 80, "grown", 9), ("PeaSpoons$Text", 82, "hidden", 10), ("PeaSpoons$Text", 84, "taste", 4), ("PeaSpoonsModel", 213, "taste", 4), ("PeaSpoonsModel", 215, "licked", 5), ("PeaSpoonsModel", 217, "pressed", 6), ("PeaSpoonsModel", 219, "paid", 7), ("PeaSpoonsModel", 221, "copied", 8), ("PeaSpoonsModel", 223, "grown", 9), ("PeaSpoonsModel", 225, "hidden", 10), ("PeaSpoonsModel", 229, "like", 13), ("PeaSpoonsModel", 236, "bitter", 14), ("PeaSpoonsModel", 238, "put", 12), ("PeaSpoonsModel", 240, "food", 11), ("PeaSpoonsModel", 245, "bent", 0), ("PeaSpoonsModel", 247, "hunger", 1), ("PeaSpoonsModel", 249, "weight", 2), ("PeaSpoonsModel", 251, "line", 3), ("PeaSpoonsModel", 253, "pudding", 15), ("PeaSpoonsModel", 255, "friend", 16)]
def ntab : List (String × Nat × MethodName × String) := [(RX0, 116, yX5_isFood, "PeaSpoons"), (RX3, 49, yX5_within, "PeaSpoons"), (RX4, 86, yX5_partLow, "PeaSpoons"), (RX4, 90, yX5_partTop, "PeaSpoons")]
/-! the layer: a method's walk over a world whose cells are numbered and whose references never change: all that a state holds is one function of numbers -/
def TB : List Cond := lw_tbl.filter goodWord
theorem TB_mem {w : Cond} (h : w ∈ lw_tbl) (g : goodWord w = true) : w ∈ TB := List.mem_filter.mpr ⟨h, g⟩
theorem TB_sub {w : Cond} (h : w ∈ TB) : w ∈ lw_tbl := (List.mem_filter.mp h).1
theorem TB_good {ws : List Cond} (h : ∀ w ∈ ws, w ∈ TB) : GoodIn TB ws := fun w hw => ⟨h w hw, good_of_word (List.mem_filter.mp (h w hw)).2⟩
abbrev GG : Type := Nat → Nat → Int32
abbrev Gam : Type := (Nat → Nat) × va_G × ClassId × ClassId × Nat × (Nat → Nat) × (Nat → Nat)
abbrev gad (Γ : Gam) : Nat → Nat := Γ.1
abbrev gD (Γ : Gam) : va_G := Γ.2.1
abbrev gI (Γ : Gam) : ClassId := Γ.2.2.1
abbrev gS (Γ : Gam) : ClassId := Γ.2.2.2.1
abbrev gka (Γ : Gam) : Nat := Γ.2.2.2.2.1
abbrev gK (Γ : Gam) : Nat → Nat := Γ.2.2.2.2.2.1
abbrev gV (Γ : Gam) : Nat → Nat := Γ.2.2.2.2.2.2
def up (G : GG) (c k : Nat) (v : Int32) : GG := fun c' k' => if c' = c ∧ k' = k then v else G c' k'
def upc (G : GG) (c : Nat) (f : Nat → Int32) : GG := fun c' => if c' = c then f else G c'
theorem up_upc (G : GG) (c k : Nat) (v : Int32) : upc G c (upd (G c) k v) = up G c k v := by
  funext c' k'
  by_cases h : c' = c
  · subst h
    by_cases h2 : k' = k <;> simp [upc, up, upd, h2]
  · simp [upc, up, h]
def layC : List (Nat × Nat) := [(0, 14), (7, 10), (7, 10), (7, 10), (1, 4), (7, 10), (7, 10), (7, 10), (7, 35), (7, 10)]
def layL : List (Nat × Nat) := layC ++ layC ++ layC ++ [(4, 7), (3, 8), (7, 120), (7, 121), (7, 121), (7, 121), (7, 121), (8, 4), (2, 3), (7, 40), (2, 3), (7, 40), (2, 3), (7, 40), (2, 3), (7, 40), (7, 7), (5, 15), (7, 115), (7, 115), (7, 115), (7, 7), (7, 120), (7, 4), (7, 4), (7, 160)]
def lay (c : Nat) : Nat × Nat := layL.getD c (9, 0)
def ch (i j : Nat) : Nat := 10 * i + j
def rfOf (c k : Nat) : Option Nat := match (lay c).1 with
  | 0 => match k with
    | 0 => some (c + 1)
    | 1 => some (c + 2)
    | 2 => some (c + 3)
    | 9 => some (c + 4)
    | 11 => some (c + 8)
    | 13 => some (c + 9)
    | _ => none
  | 1 => match k with
    | 0 => some (c + 1)
    | 1 => some (c + 2)
    | 2 => some (c + 3)
    | _ => none
  | 2 => match k with
    | 0 => some (c + 1)
    | _ => none
  | 3 => match k with
    | 0 => some 32
    | 2 => some 33
    | 3 => some 34
    | 4 => some 35
    | 5 => some 36
    | _ => none
  | 4 => match k with
    | 0 => some 0
    | 1 => some 10
    | 2 => some 20
    | 4 => some 31
    | 5 => some 37
    | 6 => some 46
    | _ => none
  | 5 => match k with
    | 0 => some 48
    | 1 => some 49
    | 2 => some 50
    | 4 => some 51
    | 5 => some 52
    | 12 => some 53
    | 13 => some 54
    | 14 => some 55
    | _ => none
  | _ => none
def fvl (Γ : Gam) (g : Nat → Int32) (c k : Nat) : Value := match rfOf c k with
  | some c' => .ref (gad Γ c')
  | none => .int (g k)
def shq (Γ : Gam) (g : Nat → Int32) (c : Nat) (z : Nat × Nat) : va_E := match z.1 with
  | 7 => .inl (gI Γ, z.2, .inl g)
  | 8 => .inl (gS Γ, z.2, .inr (.inr (.inr (.inr (fun j => some (gad Γ (38 + 2 * j)))))))
  | ci => .inr (ci, (List.range z.2).map (fvl Γ g c))
def shp (Γ : Gam) (g : Nat → Int32) (c : Nat) : va_E := shq Γ g c (lay c)
def cw (Γ : Gam) (G : GG) : va_W := (List.range 56).map (fun c => (gad Γ c, shp Γ (G c) c))
theorem cw_at {Γ : Gam} {G : GG} {c : Nat} (h : c < 56) : (cw Γ G)[c]? = some (gad Γ c, shp Γ (G c) c) := by simp [cw, h]
theorem cw_set {Γ : Gam} {G : GG} {c : Nat} (h : c < 56) (f : Nat → Int32) : (cw Γ G).set c (gad Γ c, shp Γ f c) = cw Γ (upc G c f) := by
  apply List.ext_getElem?
  intro j
  rw [List.getElem?_set]
  by_cases hj : c = j
  · subst hj
    rw [if_pos rfl, cw_at h]
    simp [cw, h, upc]
  · rw [if_neg hj]
    by_cases h2 : j < 56
    · rw [cw_at h2, cw_at h2]
      simp [upc, Ne.symm hj]
    · simp [cw, h2]
theorem lay_lt {c : Nat} {z : Nat × Nat} (h : lay c = z) (hz : z.1 ≠ 9) : c < 56 := by
  rcases Nat.lt_or_ge c 56 with q | q
  · exact q
  · refine absurd ?_ hz
    rw [← h]
    show (layL.getD c (9, 0)).1 = 9
    rw [List.getD_eq_getElem?_getD, List.getElem?_eq_none (by simpa [layL, layC] using q)]
    rfl
def gA (Γ : Gam) : Nat → Prop := fun q => ∃ c, c < 56 ∧ q = gad Γ c
def gInj (Γ : Gam) : Prop := ∀ i j : Nat, i < 56 → j < 56 → gad Γ i = gad Γ j → i = j
theorem cw_D {Γ : Gam} {G : GG} {A : Nat → Prop} (hi : gInj Γ) (hA : ∀ c, c < 56 → A (gad Γ c)) : va_D A (cw Γ G) := by
  have key : ∀ (k : Nat) (q : Nat × va_E), (cw Γ G)[k]? = some q → k < 56 ∧ q.1 = gad Γ k := by
    intro k q h
    by_cases hk : k < 56
    · rw [cw_at hk] at h
      cases h
      exact ⟨hk, rfl⟩
    · simp [cw, hk] at h
  refine ⟨fun i j p q h1 h2 e => ?_, fun k q h => ?_⟩
  · obtain ⟨a1, a2⟩ := key i p h1
    obtain ⟨b1, b2⟩ := key j q h2
    exact hi i j a1 b1 (by rw [← a2, ← b2]; exact e)
  · obtain ⟨a1, a2⟩ := key k q h
    rw [a2]
    exact hA k a1
abbrev tysG (Γ : Gam) : List (ClassId × FieldType) := [(gI Γ, .int), (gS Γ, .object "PeaSpoons$Sheet")]
def kab (j : Nat) : Int32 := if j = 0 then -1 else if j = 3 then 2 else if j = 5 then 4 else 0
/-- what the machine's constants are: KIND_ABOVE, the texts, two statics of the JDK -/
def St (Γ : Gam) (A : Nat → Prop) (U : State) (H : Heap) : Prop :=
  va_Z "PeaSpoons" "KIND_ABOVE" "[I" (.ref (gka Γ)) A U H ∧ va_T .int (gka Γ) 7 (fun j => .int (kab j)) A U H ∧
  va_Z "java/lang/String" "COMPACT_STRINGS" "Z" (.int 1) A U H ∧ va_Zq "jdk/internal/util/Preconditions" "SIOOBE_FORMATTER" "Ljava/util/function/BiFunction;" A U H ∧
  vk_S 17 slen sbyt (gK Γ) (gV Γ) A U H ∧ (∀ q ∈ stab, vk_R q.1 q.2.1 q.2.2.1 (gK Γ q.2.2.2) U) ∧ ∀ q ∈ ntab, va_Nw (.methodLinkNest q.1 q.2.1 q.2.2.1 q.2.2.2) U
theorem St.to {Γ : Gam} {A : Nat → Prop} {s U : State} {H : Heap} {locs : List Loc} (h : St Γ A s s.heap) (hW : s.WarmedH U.vm) (hS : va_S A s.heap H locs) : St Γ A U H := by
  obtain ⟨h1, h2, h3, h4, h5, h6, h7⟩ := h
  have ha := hW.alike
  exact ⟨(h1.moved ha).kept hS.2.1, (h2.moved ha).kept hS.2.1, (h3.moved ha).kept hS.2.1, (h4.moved ha).kept hS.2.1, (h5.moved ha).kept hS.2.1, fun q hq => (h6 q hq).warm hW, fun q hq => va_Nw.warmM hW (h7 q hq)⟩
theorem St.narrow {Γ : Gam} {A B : Nat → Prop} {U : State} {H : Heap} (h : St Γ A U H) (hAB : ∀ q, B q → A q) : St Γ B U H := by
  obtain ⟨h1, h2, h3, h4, h5, h6, h7⟩ := h
  exact ⟨h1.narrow hAB, h2.narrow hAB, h3.narrow hAB, h4.narrow hAB, h5.narrow hAB, h6, h7⟩
theorem St.blind {Γ : Gam} {A : Nat → Prop} {U : State} {g : JFrame} {mk : MethodId} {a : Array Value} (h : St Γ A U U.heap) : St Γ A (U.calling g mk a) (U.calling g mk a).heap := by
  obtain ⟨h1, h2, h3, h4, h5, h6, h7⟩ := h
  exact ⟨va_Z.moved (u := U) (U := U.calling g mk a) (Vm.Alike.refl U.vm) h1, va_T.moved (u := U) (U := U.calling g mk a) (Vm.Alike.refl U.vm) h2, va_Z.moved (u := U) (U := U.calling g mk a) (Vm.Alike.refl U.vm) h3, va_Zq.moved (u := U) (U := U.calling g mk a) (Vm.Alike.refl U.vm) h4, vk_S.moved (u := U) (U := U.calling g mk a) (Vm.Alike.refl U.vm) h5, fun q hq => vk_R.same (u := U) (U := U.calling g mk a) rfl (h6 q hq), fun q hq => va_Nw.same (u := U) (U := U.calling g mk a) rfl rfl (h7 q hq)⟩
/-- a world: the cells hold G, the classes are known, the addresses are apart -/
def Wd (Γ : Gam) (G : GG) (U : State) : Prop := va_P (gD Γ) vwCl (cw Γ G) U.heap ∧ va_K (gD Γ) vwCl (tysG Γ) U ∧ gInj Γ ∧ St Γ (gA Γ) U U.heap
def SpP (av : List Value) (Γ : Gam) (G : GG) : Array Value → State → Prop := fun v U => v = av.toArray ∧ Wd Γ G U
def SpQ (Γ : Gam) (post : Option Value → GG → Prop) : Array Value → State → Outcome → State → Prop := fun _ st oc t => (∃ (r : Option Value) (G : GG), oc = .returned r ∧ post r G ∧ va_P (gD Γ) vwCl (cw Γ G) t.heap) ∧ va_F (gA Γ) st t
abbrev rmOf (fr lo : Nat) : Room := { frames := fr, cells := 0, slots := 0, locals := lo }
/-- a contract -/
def Sp (l : Launch) (y : MethodName) (cc : ByteArray) (maxL : Nat) (ret : Option FieldType) (fr lo : Nat) (av : List Value) (Γ : Gam) (G : GG) (post : Option Value → GG → Prop) : Prop :=
  Met l y (.code y cc maxL ret :: TB) (rmOf fr lo) (SpP av Γ G) (SpQ Γ post) 0 0 (gA Γ)
theorem Sp.blind {av : List Value} {Γ : Gam} {G : GG} : FrameBlind (SpP av Γ G) := fun a U g mk q => by
  obtain ⟨q0, qP, qK, qi, qS⟩ := q
  exact ⟨q0, qP, va_K.moved (u := U) (U := U.calling g mk a) (Vm.Alike.refl U.vm) qK, qi, qS.blind⟩
theorem Sp.weaken {l : Launch} {y : MethodName} {cc : ByteArray} {maxL : Nat} {ret : Option FieldType} {fr lo : Nat} {av : List Value} {Γ : Gam} {G : GG} {post post' : Option Value → GG → Prop} (h : Sp l y cc maxL ret fr lo av Γ G post) (hp : ∀ r G', post r G' → post' r G') : Sp l y cc maxL ret fr lo av Γ G post' := by
  intro p e ha hc hk s m args below hf h1 h2 h3
  obtain ⟨t, o, a1, a2, a3, ⟨⟨r, G', b1, b2, b3⟩, b4⟩, b5⟩ := h p e ha hc hk s m args below hf h1 h2 h3
  exact ⟨t, o, a1, a2, a3, ⟨⟨r, G', b1, hp r G' b2, b3⟩, b4⟩, b5⟩
abbrev XT : Type := Program × Launch × Env × Room × State × MethodId × Array Value × List Frame × Method × Code × (State → Prop) × (Nat → Prop) × Nat × Nat × Nat
def LH (la : Array Slot) (nL : Nat) (ls : List (Option Value)) : Prop := (la.size = nL ∧ ls.length = nL) ∧ lv_wf la ∧ ∀ (i : Nat) (v : Value), ls[i]? = some (some v) → la[i]? = some (.val v)
def WP (X : XT) (Γ : Gam) (pc : Nat) (ls : List (Option Value)) (st : List Value) (G : GG) : Prop := match X with
  | (p, l, e, R, s, m, args, below, meth, c, Q, A, nL, cs, sl) => ∀ (H : Heap) (locs : List Loc) (la : Array Slot), va_P (gD Γ) vwCl (cw Γ G) H → va_S A s.heap H locs → LH la nL ls → W p l e R s m args below meth c H locs cs sl Q (F0 m pc la st)
def OKX (X : XT) (Γ : Gam) (cc : ByteArray) (own : String) (F L : Nat) : Prop := match X with
  | (p, _, _, R, s, m, args, _, _, c, _, A, nL, cs, sl) => p.tables.exec = Jvm.exec ∧ c.code = cc ∧ c.maxLocals = nL ∧ s.vm.findClass own = some m.cls ∧ (∀ w ∈ TB, w.before args s = true) ∧ va_K (gD Γ) vwCl (tysG Γ) s ∧ gInj Γ ∧ (∀ c, c < 56 → A (gad Γ c)) ∧ St Γ A s s.heap ∧ R.frames = F ∧ R.locals = L ∧ cs ≤ R.cells ∧ sl ≤ R.slots
def RX (X : XT) (Γ : Gam) (ret : Option FieldType) (post : Option Value → GG → Prop) : Prop := match X with
  | (_, _, _, _, s, _, args, below, meth, _, Q, A, _, cs, sl) => meth.sig.returnType = ret ∧ meth.locks = false ∧ A = gA Γ ∧ Q = MQ below (SpQ Γ post) args s cs sl (gA Γ)
def ents : List Value → Nat → List (Option Value)
  | v :: vs, n + 1 => some v :: ents vs n
  | _, n => List.replicate n none
theorem ents_at : ∀ (vs : List Value) (n i : Nat) (v : Value), (ents vs n)[i]? = some (some v) → vs[i]? = some v
  | [], n, i, v, h => by
    simp only [ents] at h
    rw [List.getElem?_replicate] at h
    split at h <;> simp at h
  | w :: vs, 0, i, v, h => by simp [ents] at h
  | w :: vs, n + 1, 0, v, h => by
    simp [ents] at h
    simp [h]
  | w :: vs, n + 1, i + 1, v, h => by
    simp only [ents, List.getElem?_cons_succ] at h
    rw [List.getElem?_cons_succ]
    exact ents_at vs n i v h
def no2 (vs : List Value) : Bool := vs.all fun v => v.category == 1
theorem lvargs_at : ∀ (vs : List Value) (b : Nat), no2 vs = true → ∀ (i : Nat) (v : Value), vs[i]? = some v → (b + i, v) ∈ lv_args b vs
  | [], b, _, i, v, h => by simp at h
  | w :: vs, b, hn, i, v, h => by
    simp only [no2, List.all_cons, Bool.and_eq_true, beq_iff_eq] at hn
    have hc : ¬ w.category = 2 := by omega
    cases i with
    | zero =>
      simp at h
      subst h
      simp [lv_args]
    | succ i =>
      rw [List.getElem?_cons_succ] at h
      have := lvargs_at vs (b + 1) hn.2 i v h
      simp only [lv_args, if_neg hc]
      rw [show b + (i + 1) = b + 1 + i by omega]
      exact List.mem_cons_of_mem _ this
theorem lgsl_len : ∀ (vs : List Value), no2 vs = true → (lg_sl vs).length = vs.length
  | [], _ => rfl
  | w :: vs, hn => by
    simp only [no2, List.all_cons, Bool.and_eq_true, beq_iff_eq] at hn
    have hc : ¬ w.category = 2 := by omega
    have := lgsl_len vs hn.2
    simp only [lg_sl, List.flatMap_cons, if_neg hc, List.length_append, List.length_cons, List.length_nil] at this ⊢
    omega
/-- a method's start -/
theorem ents_len : ∀ (vs : List Value) (n : Nat), vs.length ≤ n → (ents vs n).length = n
  | [], n, _ => by simp [ents]
  | w :: vs, 0, h => by simp at h
  | w :: vs, n + 1, h => by
    simp only [List.length_cons] at h
    simp only [ents, List.length_cons, ents_len vs n (by omega)]
theorem Sp_of {l : Launch} {y : MethodName} {cc : ByteArray} {maxL : Nat} {ret : Option FieldType} {fr lo : Nat} {av : List Value} {Γ : Gam} {G : GG} {post : Option Value → GG → Prop} {own : String} (ho : y.cls = own) (hy : plainFor y = true) (hav : no2 av = true) (hlen : av.length ≤ maxL)
    (body : ∀ X : XT, OKX X Γ cc own fr lo → RX X Γ ret post → WP X Γ 0 (ents av maxL) [] G) : Sp l y cc maxL ret fr lo av Γ G post := by
  subst ho
  refine va_MetF (cc := cc) (maxL := maxL) (ret := ret) hy rfl ?_
  intro p e s m args below meth c s₁ B hml hv
  obtain ⟨rfl, hP, hK, hi, hSt⟩ := hv
  have hts := atoms_spec (ws := .code y cc maxL ret :: TB) B.pre
  have h := body (p, l, e, rmOf fr lo, s, m, av.toArray, below, meth, c, MQ below (SpQ Γ post) av.toArray s 0 0 (gA Γ), gA Γ, maxL, 0, 0)
    ⟨B.exec, B.bytes, hml, findClass_of_methodNamed B.named, fun w hw => hts w (List.mem_cons_of_mem _ hw), hK, hi, fun c hc => ⟨c, hc, rfl⟩, hSt, rfl, rfl, Nat.le_refl _, Nat.le_refl _⟩
    ⟨B.returns, B.notSynchronized, rfl, rfl⟩
  rw [lg_entry_eq]
  have hl := lv_entry av (n := maxL) (by rw [lgsl_len av hav]; exact hlen)
  exact h s.heap [] _ hP va_S.rf ⟨⟨hl.1, ents_len av maxL hlen⟩, hl.2.1, fun i v hi => hl.2.2 (i, v) (by
    have := lvargs_at av 0 hav i v (ents_at av maxL i v hi)
    rwa [Nat.zero_add] at this)⟩

theorem r_iconst {X : XT} {Γ : Gam} {cc : ByteArray} {own : String} {F L : Nat} (hX : OKX X Γ cc own F L) {pc q : Nat} {ls : List (Option Value)} {st : List Value} {G : GG} {n : Int} {v : Int32} (d : decode cc pc = .ok (.iconst n, 1)) (hq : pc + 1 = q) (hv : Int32.ofInt n = v) (k : WP X Γ q ls (.int v :: st) G) : WP X Γ pc ls st G := by
  obtain ⟨p, l, e, R, s, m, args, below, meth, c, Q, A, nL, cs, sl⟩ := X
  obtain ⟨hx, hb, hml, hown, hts, hK, hinj, hA, hSt, hF, hL, hcs, hsl⟩ := hX
  subst hq
  intro H locs la hP hS hl
  exact lv_iconst hx hb d hv (k H locs la hP hS hl)

theorem r_bipush {X : XT} {Γ : Gam} {cc : ByteArray} {own : String} {F L : Nat} (hX : OKX X Γ cc own F L) {pc q : Nat} {ls : List (Option Value)} {st : List Value} {G : GG} {n : Int} {v : Int32} (d : decode cc pc = .ok (.bipush n, 2)) (hq : pc + 2 = q) (hv : (Int8.ofInt n).toInt32 = v) (k : WP X Γ q ls (.int v :: st) G) : WP X Γ pc ls st G := by
  obtain ⟨p, l, e, R, s, m, args, below, meth, c, Q, A, nL, cs, sl⟩ := X
  obtain ⟨hx, hb, hml, hown, hts, hK, hinj, hA, hSt, hF, hL, hcs, hsl⟩ := hX
  subst hq
  intro H locs la hP hS hl
  exact lv_bipush hx hb d hv (k H locs la hP hS hl)

theorem r_sipush {X : XT} {Γ : Gam} {cc : ByteArray} {own : String} {F L : Nat} (hX : OKX X Γ cc own F L) {pc q : Nat} {ls : List (Option Value)} {st : List Value} {G : GG} {n : Int} {v : Int32} (d : decode cc pc = .ok (.sipush n, 3)) (hq : pc + 3 = q) (hv : (Int16.ofInt n).toInt32 = v) (k : WP X Γ q ls (.int v :: st) G) : WP X Γ pc ls st G := by
  obtain ⟨p, l, e, R, s, m, args, below, meth, c, Q, A, nL, cs, sl⟩ := X
  obtain ⟨hx, hb, hml, hown, hts, hK, hinj, hA, hSt, hF, hL, hcs, hsl⟩ := hX
  subst hq
  intro H locs la hP hS hl
  exact lv_sipush hx hb d hv (k H locs la hP hS hl)

theorem r_lconst {X : XT} {Γ : Gam} {cc : ByteArray} {own : String} {F L : Nat} (hX : OKX X Γ cc own F L) {pc q : Nat} {ls : List (Option Value)} {st : List Value} {G : GG} {n : Fin 2} {v : Int64} (d : decode cc pc = .ok (.lconst n, 1)) (hq : pc + 1 = q) (hv : Int64.ofNat (n : Nat) = v) (k : WP X Γ q ls (.long v :: st) G) : WP X Γ pc ls st G := by
  obtain ⟨p, l, e, R, s, m, args, below, meth, c, Q, A, nL, cs, sl⟩ := X
  obtain ⟨hx, hb, hml, hown, hts, hK, hinj, hA, hSt, hF, hL, hcs, hsl⟩ := hX
  subst hq
  intro H locs la hP hS hl
  exact lv_lconst hx hb d hv (k H locs la hP hS hl)

theorem r_ldc {X : XT} {Γ : Gam} {cc : ByteArray} {own : String} {F L : Nat} (hX : OKX X Γ cc own F L) {pc q : Nat} {ls : List (Option Value)} {st : List Value} {G : GG} {index : Nat} {v : Int32} (d : decode cc pc = .ok (.ldc index, 2)) (hq : pc + 2 = q) (hc : Cond.constant own index v ∈ TB) (k : WP X Γ q ls (.int v :: st) G) : WP X Γ pc ls st G := by
  obtain ⟨p, l, e, R, s, m, args, below, meth, c, Q, A, nL, cs, sl⟩ := X
  obtain ⟨hx, hb, hml, hown, hts, hK, hinj, hA, hSt, hF, hL, hcs, hsl⟩ := hX
  subst hq
  intro H locs la hP hS hl
  exact lv_ldc hx hb hown (hts _ hc) d (k H locs la hP hS hl)

theorem r_ldc_w {X : XT} {Γ : Gam} {cc : ByteArray} {own : String} {F L : Nat} (hX : OKX X Γ cc own F L) {pc q : Nat} {ls : List (Option Value)} {st : List Value} {G : GG} {index : Nat} {v : Int32} (d : decode cc pc = .ok (.ldc_w index, 3)) (hq : pc + 3 = q) (hc : Cond.constant own index v ∈ TB) (k : WP X Γ q ls (.int v :: st) G) : WP X Γ pc ls st G := by
  obtain ⟨p, l, e, R, s, m, args, below, meth, c, Q, A, nL, cs, sl⟩ := X
  obtain ⟨hx, hb, hml, hown, hts, hK, hinj, hA, hSt, hF, hL, hcs, hsl⟩ := hX
  subst hq
  intro H locs la hP hS hl
  exact lv_ldcw hx hb hown (hts _ hc) d (k H locs la hP hS hl)

theorem r_ldc2 {X : XT} {Γ : Gam} {cc : ByteArray} {own : String} {F L : Nat} (hX : OKX X Γ cc own F L) {pc q : Nat} {ls : List (Option Value)} {st : List Value} {G : GG} {index : Nat} {v : Int64} (d : decode cc pc = .ok (.ldc2_w index, 3)) (hq : pc + 3 = q) (hc : Cond.constantLong own index v ∈ TB) (k : WP X Γ q ls (.long v :: st) G) : WP X Γ pc ls st G := by
  obtain ⟨p, l, e, R, s, m, args, below, meth, c, Q, A, nL, cs, sl⟩ := X
  obtain ⟨hx, hb, hml, hown, hts, hK, hinj, hA, hSt, hF, hL, hcs, hsl⟩ := hX
  subst hq
  intro H locs la hP hS hl
  exact lv_ldc2 hx hb hown (hts _ hc) d (k H locs la hP hS hl)

theorem r_iadd {X : XT} {Γ : Gam} {cc : ByteArray} {own : String} {F L : Nat} (hX : OKX X Γ cc own F L) {pc q : Nat} {ls : List (Option Value)} {st : List Value} {G : GG} {a b : Int32} (d : decode cc pc = .ok (.iadd, 1)) (hq : pc + 1 = q)  (k : WP X Γ q ls (.int (a + b) :: st) G) : WP X Γ pc ls (.int b :: .int a :: st) G := by
  obtain ⟨p, l, e, R, s, m, args, below, meth, c, Q, A, nL, cs, sl⟩ := X
  obtain ⟨hx, hb, hml, hown, hts, hK, hinj, hA, hSt, hF, hL, hcs, hsl⟩ := hX
  subst hq
  intro H locs la hP hS hl
  exact lv_iadd hx hb d (k H locs la hP hS hl)

theorem r_isub {X : XT} {Γ : Gam} {cc : ByteArray} {own : String} {F L : Nat} (hX : OKX X Γ cc own F L) {pc q : Nat} {ls : List (Option Value)} {st : List Value} {G : GG} {a b : Int32} (d : decode cc pc = .ok (.isub, 1)) (hq : pc + 1 = q)  (k : WP X Γ q ls (.int (a - b) :: st) G) : WP X Γ pc ls (.int b :: .int a :: st) G := by
  obtain ⟨p, l, e, R, s, m, args, below, meth, c, Q, A, nL, cs, sl⟩ := X
  obtain ⟨hx, hb, hml, hown, hts, hK, hinj, hA, hSt, hF, hL, hcs, hsl⟩ := hX
  subst hq
  intro H locs la hP hS hl
  exact lv_isub hx hb d (k H locs la hP hS hl)

theorem r_imul {X : XT} {Γ : Gam} {cc : ByteArray} {own : String} {F L : Nat} (hX : OKX X Γ cc own F L) {pc q : Nat} {ls : List (Option Value)} {st : List Value} {G : GG} {a b : Int32} (d : decode cc pc = .ok (.imul, 1)) (hq : pc + 1 = q)  (k : WP X Γ q ls (.int (a * b) :: st) G) : WP X Γ pc ls (.int b :: .int a :: st) G := by
  obtain ⟨p, l, e, R, s, m, args, below, meth, c, Q, A, nL, cs, sl⟩ := X
  obtain ⟨hx, hb, hml, hown, hts, hK, hinj, hA, hSt, hF, hL, hcs, hsl⟩ := hX
  subst hq
  intro H locs la hP hS hl
  exact lv_imul hx hb d (k H locs la hP hS hl)

theorem r_iand {X : XT} {Γ : Gam} {cc : ByteArray} {own : String} {F L : Nat} (hX : OKX X Γ cc own F L) {pc q : Nat} {ls : List (Option Value)} {st : List Value} {G : GG} {a b : Int32} (d : decode cc pc = .ok (.iand, 1)) (hq : pc + 1 = q)  (k : WP X Γ q ls (.int (a &&& b) :: st) G) : WP X Γ pc ls (.int b :: .int a :: st) G := by
  obtain ⟨p, l, e, R, s, m, args, below, meth, c, Q, A, nL, cs, sl⟩ := X
  obtain ⟨hx, hb, hml, hown, hts, hK, hinj, hA, hSt, hF, hL, hcs, hsl⟩ := hX
  subst hq
  intro H locs la hP hS hl
  exact lv_iand hx hb d (k H locs la hP hS hl)

theorem r_ior {X : XT} {Γ : Gam} {cc : ByteArray} {own : String} {F L : Nat} (hX : OKX X Γ cc own F L) {pc q : Nat} {ls : List (Option Value)} {st : List Value} {G : GG} {a b : Int32} (d : decode cc pc = .ok (.ior, 1)) (hq : pc + 1 = q)  (k : WP X Γ q ls (.int (a ||| b) :: st) G) : WP X Γ pc ls (.int b :: .int a :: st) G := by
  obtain ⟨p, l, e, R, s, m, args, below, meth, c, Q, A, nL, cs, sl⟩ := X
  obtain ⟨hx, hb, hml, hown, hts, hK, hinj, hA, hSt, hF, hL, hcs, hsl⟩ := hX
  subst hq
  intro H locs la hP hS hl
  exact lv_ior hx hb d (k H locs la hP hS hl)

theorem r_ixor {X : XT} {Γ : Gam} {cc : ByteArray} {own : String} {F L : Nat} (hX : OKX X Γ cc own F L) {pc q : Nat} {ls : List (Option Value)} {st : List Value} {G : GG} {a b : Int32} (d : decode cc pc = .ok (.ixor, 1)) (hq : pc + 1 = q)  (k : WP X Γ q ls (.int (a ^^^ b) :: st) G) : WP X Γ pc ls (.int b :: .int a :: st) G := by
  obtain ⟨p, l, e, R, s, m, args, below, meth, c, Q, A, nL, cs, sl⟩ := X
  obtain ⟨hx, hb, hml, hown, hts, hK, hinj, hA, hSt, hF, hL, hcs, hsl⟩ := hX
  subst hq
  intro H locs la hP hS hl
  exact lv_ixor hx hb d (k H locs la hP hS hl)

theorem r_ishl {X : XT} {Γ : Gam} {cc : ByteArray} {own : String} {F L : Nat} (hX : OKX X Γ cc own F L) {pc q : Nat} {ls : List (Option Value)} {st : List Value} {G : GG} {a b : Int32} (d : decode cc pc = .ok (.ishl, 1)) (hq : pc + 1 = q)  (k : WP X Γ q ls (.int (a <<< (b &&& 31)) :: st) G) : WP X Γ pc ls (.int b :: .int a :: st) G := by
  obtain ⟨p, l, e, R, s, m, args, below, meth, c, Q, A, nL, cs, sl⟩ := X
  obtain ⟨hx, hb, hml, hown, hts, hK, hinj, hA, hSt, hF, hL, hcs, hsl⟩ := hX
  subst hq
  intro H locs la hP hS hl
  exact lv_ishl hx hb d (k H locs la hP hS hl)

theorem r_ishr {X : XT} {Γ : Gam} {cc : ByteArray} {own : String} {F L : Nat} (hX : OKX X Γ cc own F L) {pc q : Nat} {ls : List (Option Value)} {st : List Value} {G : GG} {a b : Int32} (d : decode cc pc = .ok (.ishr, 1)) (hq : pc + 1 = q)  (k : WP X Γ q ls (.int (a >>> (b &&& 31)) :: st) G) : WP X Γ pc ls (.int b :: .int a :: st) G := by
  obtain ⟨p, l, e, R, s, m, args, below, meth, c, Q, A, nL, cs, sl⟩ := X
  obtain ⟨hx, hb, hml, hown, hts, hK, hinj, hA, hSt, hF, hL, hcs, hsl⟩ := hX
  subst hq
  intro H locs la hP hS hl
  exact lv_ishr hx hb d (k H locs la hP hS hl)

theorem r_iushr {X : XT} {Γ : Gam} {cc : ByteArray} {own : String} {F L : Nat} (hX : OKX X Γ cc own F L) {pc q : Nat} {ls : List (Option Value)} {st : List Value} {G : GG} {a b : Int32} (d : decode cc pc = .ok (.iushr, 1)) (hq : pc + 1 = q)  (k : WP X Γ q ls (.int ((a.toUInt32 >>> (b.toUInt32 &&& Int32.toUInt32 31)).toInt32) :: st) G) : WP X Γ pc ls (.int b :: .int a :: st) G := by
  obtain ⟨p, l, e, R, s, m, args, below, meth, c, Q, A, nL, cs, sl⟩ := X
  obtain ⟨hx, hb, hml, hown, hts, hK, hinj, hA, hSt, hF, hL, hcs, hsl⟩ := hX
  subst hq
  intro H locs la hP hS hl
  exact lv_iushr hx hb d rfl (k H locs la hP hS hl)

theorem r_idiv {X : XT} {Γ : Gam} {cc : ByteArray} {own : String} {F L : Nat} (hX : OKX X Γ cc own F L) {pc q : Nat} {ls : List (Option Value)} {st : List Value} {G : GG} {a b : Int32} (d : decode cc pc = .ok (.idiv, 1)) (hq : pc + 1 = q) (hne : ¬ b = 0) (k : WP X Γ q ls (.int (a / b) :: st) G) : WP X Γ pc ls (.int b :: .int a :: st) G := by
  obtain ⟨p, l, e, R, s, m, args, below, meth, c, Q, A, nL, cs, sl⟩ := X
  obtain ⟨hx, hb, hml, hown, hts, hK, hinj, hA, hSt, hF, hL, hcs, hsl⟩ := hX
  subst hq
  intro H locs la hP hS hl
  exact lv_idiv hx hb d hne (k H locs la hP hS hl)

def irm (a b : Int32) : Int32 := a - a / b * b

theorem r_irem {X : XT} {Γ : Gam} {cc : ByteArray} {own : String} {F L : Nat} (hX : OKX X Γ cc own F L) {pc q : Nat} {ls : List (Option Value)} {st : List Value} {G : GG} {a b : Int32} (d : decode cc pc = .ok (.irem, 1)) (hq : pc + 1 = q) (hne : ¬ b = 0) (k : WP X Γ q ls (.int (irm a b) :: st) G) : WP X Γ pc ls (.int b :: .int a :: st) G := by
  obtain ⟨p, l, e, R, s, m, args, below, meth, c, Q, A, nL, cs, sl⟩ := X
  obtain ⟨hx, hb, hml, hown, hts, hK, hinj, hA, hSt, hF, hL, hcs, hsl⟩ := hX
  subst hq
  intro H locs la hP hS hl
  exact lv_irem hx hb d hne (k H locs la hP hS hl)

theorem r_i2l {X : XT} {Γ : Gam} {cc : ByteArray} {own : String} {F L : Nat} (hX : OKX X Γ cc own F L) {pc q : Nat} {ls : List (Option Value)} {st : List Value} {G : GG} {a : Int32} (d : decode cc pc = .ok (.i2l, 1)) (hq : pc + 1 = q)  (k : WP X Γ q ls (.long a.toInt64 :: st) G) : WP X Γ pc ls (.int a :: st) G := by
  obtain ⟨p, l, e, R, s, m, args, below, meth, c, Q, A, nL, cs, sl⟩ := X
  obtain ⟨hx, hb, hml, hown, hts, hK, hinj, hA, hSt, hF, hL, hcs, hsl⟩ := hX
  subst hq
  intro H locs la hP hS hl
  exact lv_i2l hx hb d rfl (k H locs la hP hS hl)

theorem r_i2b {X : XT} {Γ : Gam} {cc : ByteArray} {own : String} {F L : Nat} (hX : OKX X Γ cc own F L) {pc q : Nat} {ls : List (Option Value)} {st : List Value} {G : GG} {a : Int32} (d : decode cc pc = .ok (.i2b, 1)) (hq : pc + 1 = q)  (k : WP X Γ q ls (.int a.toInt8.toInt32 :: st) G) : WP X Γ pc ls (.int a :: st) G := by
  obtain ⟨p, l, e, R, s, m, args, below, meth, c, Q, A, nL, cs, sl⟩ := X
  obtain ⟨hx, hb, hml, hown, hts, hK, hinj, hA, hSt, hF, hL, hcs, hsl⟩ := hX
  subst hq
  intro H locs la hP hS hl
  exact lv_i2b hx hb d rfl (k H locs la hP hS hl)

theorem r_i2s {X : XT} {Γ : Gam} {cc : ByteArray} {own : String} {F L : Nat} (hX : OKX X Γ cc own F L) {pc q : Nat} {ls : List (Option Value)} {st : List Value} {G : GG} {a : Int32} (d : decode cc pc = .ok (.i2s, 1)) (hq : pc + 1 = q)  (k : WP X Γ q ls (.int a.toInt16.toInt32 :: st) G) : WP X Γ pc ls (.int a :: st) G := by
  obtain ⟨p, l, e, R, s, m, args, below, meth, c, Q, A, nL, cs, sl⟩ := X
  obtain ⟨hx, hb, hml, hown, hts, hK, hinj, hA, hSt, hF, hL, hcs, hsl⟩ := hX
  subst hq
  intro H locs la hP hS hl
  exact lv_i2s hx hb d rfl (k H locs la hP hS hl)

theorem r_i2c {X : XT} {Γ : Gam} {cc : ByteArray} {own : String} {F L : Nat} (hX : OKX X Γ cc own F L) {pc q : Nat} {ls : List (Option Value)} {st : List Value} {G : GG} {a : Int32} (d : decode cc pc = .ok (.i2c, 1)) (hq : pc + 1 = q)  (k : WP X Γ q ls (.int (a.toUInt32 % 65536).toInt32 :: st) G) : WP X Γ pc ls (.int a :: st) G := by
  obtain ⟨p, l, e, R, s, m, args, below, meth, c, Q, A, nL, cs, sl⟩ := X
  obtain ⟨hx, hb, hml, hown, hts, hK, hinj, hA, hSt, hF, hL, hcs, hsl⟩ := hX
  subst hq
  intro H locs la hP hS hl
  exact lv_i2c hx hb d rfl (k H locs la hP hS hl)

theorem r_dup {X : XT} {Γ : Gam} {cc : ByteArray} {own : String} {F L : Nat} (hX : OKX X Γ cc own F L) {pc q : Nat} {ls : List (Option Value)} {st : List Value} {G : GG} {v : Value} (d : decode cc pc = .ok (.dup, 1)) (hq : pc + 1 = q) (hv : v.category = 1) (k : WP X Γ q ls (v :: v :: st) G) : WP X Γ pc ls (v :: st) G := by
  obtain ⟨p, l, e, R, s, m, args, below, meth, c, Q, A, nL, cs, sl⟩ := X
  obtain ⟨hx, hb, hml, hown, hts, hK, hinj, hA, hSt, hF, hL, hcs, hsl⟩ := hX
  subst hq
  intro H locs la hP hS hl
  exact lv_dup hx hb d hv (k H locs la hP hS hl)

theorem r_dup2 {X : XT} {Γ : Gam} {cc : ByteArray} {own : String} {F L : Nat} (hX : OKX X Γ cc own F L) {pc q : Nat} {ls : List (Option Value)} {st : List Value} {G : GG} {v u : Value} (d : decode cc pc = .ok (.dup2, 1)) (hq : pc + 1 = q) (hv : v.category = 1) (hu : u.category = 1) (k : WP X Γ q ls (v :: u :: v :: u :: st) G) : WP X Γ pc ls (v :: u :: st) G := by
  obtain ⟨p, l, e, R, s, m, args, below, meth, c, Q, A, nL, cs, sl⟩ := X
  obtain ⟨hx, hb, hml, hown, hts, hK, hinj, hA, hSt, hF, hL, hcs, hsl⟩ := hX
  subst hq
  intro H locs la hP hS hl
  exact lv_dup2_11 hx hb d hv hu (k H locs la hP hS hl)

theorem r_pop {X : XT} {Γ : Gam} {cc : ByteArray} {own : String} {F L : Nat} (hX : OKX X Γ cc own F L) {pc q : Nat} {ls : List (Option Value)} {st : List Value} {G : GG} {v : Value} (d : decode cc pc = .ok (.pop, 1)) (hq : pc + 1 = q) (hv : v.category = 1) (k : WP X Γ q ls st G) : WP X Γ pc ls (v :: st) G := by
  obtain ⟨p, l, e, R, s, m, args, below, meth, c, Q, A, nL, cs, sl⟩ := X
  obtain ⟨hx, hb, hml, hown, hts, hK, hinj, hA, hSt, hF, hL, hcs, hsl⟩ := hX
  subst hq
  intro H locs la hP hS hl
  exact lv_pop hx hb d hv (k H locs la hP hS hl)

theorem LH.get {la : Array Slot} {nL : Nat} {ls : List (Option Value)} (h : LH la nL ls) {i : Nat} {v : Value} (hi : ls[i]? = some (some v)) : la[i]? = some (.val v) := h.2.2 i v hi
def nolong (ls : List (Option Value)) : Bool := ls.all fun x => match x with
  | some v => v.category == 1
  | none => true
def lvl (ls : List (Option Value)) : List (Nat × Value) := (List.range ls.length).filterMap fun i => match ls[i]? with
  | some (some v) => some (i, v)
  | _ => none
theorem lvl_mem {ls : List (Option Value)} {i : Nat} {v : Value} : (i, v) ∈ lvl ls ↔ ls[i]? = some (some v) := by
  simp only [lvl, List.mem_filterMap, List.mem_range]
  constructor
  · rintro ⟨a, h1, h2⟩
    split at h2
    · next w h3 =>
      simp only [Option.some.injEq, Prod.mk.injEq] at h2
      obtain ⟨rfl, rfl⟩ := h2
      exact h3
    · cases h2
  · intro h
    exact ⟨i, (List.getElem?_eq_some_iff.mp h).1, by rw [h]⟩
theorem LH.has {la : Array Slot} {nL : Nat} {ls : List (Option Value)} (h : LH la nL ls) : lv_has la nL (lvl ls) := ⟨h.1.1, h.2.1, fun q hq => h.2.2 q.1 q.2 (lvl_mem.mp hq)⟩
theorem LH.set {la' : Array Slot} {nL i : Nat} {v : Value} {ls : List (Option Value)} (hlen : ls.length = nL) (h0 : nolong ls = true) (h : lv_has la' nL ((i, v) :: (lvl ls).filter (fun q => !(q.1 == i) && !(q.1 + 1 == i && q.2.category == 2)))) : LH la' nL (ls.set i (some v)) := by
  refine ⟨⟨h.1, by rw [List.length_set]; exact hlen⟩, h.2.1, fun j u hj => ?_⟩
  by_cases hij : i = j
  · subst hij
    rw [List.getElem?_set_self' ] at hj
    cases hq : ls[i]? with
    | none => rw [hq] at hj; cases hj
    | some z =>
      rw [hq] at hj
      cases hj
      exact h.2.2 (i, v) List.mem_cons_self
  · rw [List.getElem?_set_ne hij] at hj
    refine h.2.2 (j, u) (List.mem_cons_of_mem _ (List.mem_filter.mpr ⟨lvl_mem.mpr hj, ?_⟩))
    have hc : u.category = 1 := by
      have h1 := List.all_eq_true.mp h0 _ (List.mem_of_getElem? hj)
      simpa using h1
    simp [Ne.symm hij, hc]

theorem r_iload0 {X : XT} {Γ : Gam} {cc : ByteArray} {own : String} {F L : Nat} (hX : OKX X Γ cc own F L) {pc q : Nat} {ls : List (Option Value)}  {st : List Value} {G : GG} {x : Int32} (d : decode cc pc = .ok (.iload_n 0, 1)) (hq : pc + 1 = q) (k : WP X Γ q (some (.int x) :: ls) (.int x :: st) G) : WP X Γ pc (some (.int x) :: ls) st G := by
  obtain ⟨p, l, e, R, s, m, args, below, meth, c, Q, A, nL, cs, sl⟩ := X
  obtain ⟨hx, hb, hml, hown, hts, hK, hinj, hA, hSt, hF, hL, hcs, hsl⟩ := hX
  subst hq
  intro H locs la hP hS hl
  exact lv_iload_n hx hb d rfl (hl.get (i := 0) rfl) (k H locs la hP hS hl)

theorem r_aload0 {X : XT} {Γ : Gam} {cc : ByteArray} {own : String} {F L : Nat} (hX : OKX X Γ cc own F L) {pc q : Nat} {ls : List (Option Value)}  {st : List Value} {G : GG} {x : Nat} (d : decode cc pc = .ok (.aload_n 0, 1)) (hq : pc + 1 = q) (k : WP X Γ q (some (.ref x) :: ls) (.ref x :: st) G) : WP X Γ pc (some (.ref x) :: ls) st G := by
  obtain ⟨p, l, e, R, s, m, args, below, meth, c, Q, A, nL, cs, sl⟩ := X
  obtain ⟨hx, hb, hml, hown, hts, hK, hinj, hA, hSt, hF, hL, hcs, hsl⟩ := hX
  subst hq
  intro H locs la hP hS hl
  exact lv_aload_n hx hb d rfl (hl.get (i := 0) rfl) (k H locs la hP hS hl)

theorem r_istore0 {X : XT} {Γ : Gam} {cc : ByteArray} {own : String} {F L : Nat} (hX : OKX X Γ cc own F L) {pc q : Nat} {ls : List (Option Value)}  {st : List Value} {G : GG} {z : Option Value} {x : Int32} (d : decode cc pc = .ok (.istore_n 0, 1)) (hq : pc + 1 = q) (hno : nolong (z :: ls) = true) (k : WP X Γ q (some (.int x) :: ls) st G) : WP X Γ pc (z :: ls) (.int x :: st) G := by
  obtain ⟨p, l, e, R, s, m, args, below, meth, c, Q, A, nL, cs, sl⟩ := X
  obtain ⟨hx, hb, hml, hown, hts, hK, hinj, hA, hSt, hF, hL, hcs, hsl⟩ := hX
  subst hq
  intro H locs la hP hS hl
  have hn : 0 < nL := by have := hl.1.2; simp at this; omega
  exact lv_istore_n hx hb d rfl hl.has hn rfl (fun la2 h2 => k H locs la2 hP hS (LH.set hl.1.2 hno h2))

theorem r_astore0 {X : XT} {Γ : Gam} {cc : ByteArray} {own : String} {F L : Nat} (hX : OKX X Γ cc own F L) {pc q : Nat} {ls : List (Option Value)}  {st : List Value} {G : GG} {z : Option Value} {x : Nat} (d : decode cc pc = .ok (.astore_n 0, 1)) (hq : pc + 1 = q) (hno : nolong (z :: ls) = true) (k : WP X Γ q (some (.ref x) :: ls) st G) : WP X Γ pc (z :: ls) (.ref x :: st) G := by
  obtain ⟨p, l, e, R, s, m, args, below, meth, c, Q, A, nL, cs, sl⟩ := X
  obtain ⟨hx, hb, hml, hown, hts, hK, hinj, hA, hSt, hF, hL, hcs, hsl⟩ := hX
  subst hq
  intro H locs la hP hS hl
  have hn : 0 < nL := by have := hl.1.2; simp at this; omega
  exact lv_astore_n hx hb d rfl hl.has hn rfl (fun la2 h2 => k H locs la2 hP hS (LH.set hl.1.2 hno h2))

theorem r_iinc0 {X : XT} {Γ : Gam} {cc : ByteArray} {own : String} {F L : Nat} (hX : OKX X Γ cc own F L) {pc q : Nat} {ls : List (Option Value)}  {st : List Value} {G : GG} {n : Int} {x v : Int32} (d : decode cc pc = .ok (.iinc 0 n, 3)) (hq : pc + 3 = q) (hno : nolong (some (.int x) :: ls) = true) (hv : x + Int32.ofInt n = v) (k : WP X Γ q (some (.int v) :: ls) st G) : WP X Γ pc (some (.int x) :: ls) st G := by
  obtain ⟨p, l, e, R, s, m, args, below, meth, c, Q, A, nL, cs, sl⟩ := X
  obtain ⟨hx, hb, hml, hown, hts, hK, hinj, hA, hSt, hF, hL, hcs, hsl⟩ := hX
  subst hq
  intro H locs la hP hS hl
  have hn : 0 < nL := by have := hl.1.2; simp at this; omega
  have hm : (0, Value.int x) ∈ lvl (some (.int x) :: ls) := lvl_mem.mpr rfl
  obtain ⟨j, hj⟩ := List.getElem?_of_mem hm
  exact lv_iinc hx hb d hl.has hj hv hn rfl (fun la2 h2 => k H locs la2 hP hS (LH.set hl.1.2 hno h2))

theorem r_iload1 {X : XT} {Γ : Gam} {cc : ByteArray} {own : String} {F L : Nat} (hX : OKX X Γ cc own F L) {pc q : Nat} {ls : List (Option Value)} {a0 : Option Value}  {st : List Value} {G : GG} {x : Int32} (d : decode cc pc = .ok (.iload_n 1, 1)) (hq : pc + 1 = q) (k : WP X Γ q (a0 :: some (.int x) :: ls) (.int x :: st) G) : WP X Γ pc (a0 :: some (.int x) :: ls) st G := by
  obtain ⟨p, l, e, R, s, m, args, below, meth, c, Q, A, nL, cs, sl⟩ := X
  obtain ⟨hx, hb, hml, hown, hts, hK, hinj, hA, hSt, hF, hL, hcs, hsl⟩ := hX
  subst hq
  intro H locs la hP hS hl
  exact lv_iload_n hx hb d rfl (hl.get (i := 1) rfl) (k H locs la hP hS hl)

theorem r_aload1 {X : XT} {Γ : Gam} {cc : ByteArray} {own : String} {F L : Nat} (hX : OKX X Γ cc own F L) {pc q : Nat} {ls : List (Option Value)} {a0 : Option Value}  {st : List Value} {G : GG} {x : Nat} (d : decode cc pc = .ok (.aload_n 1, 1)) (hq : pc + 1 = q) (k : WP X Γ q (a0 :: some (.ref x) :: ls) (.ref x :: st) G) : WP X Γ pc (a0 :: some (.ref x) :: ls) st G := by
  obtain ⟨p, l, e, R, s, m, args, below, meth, c, Q, A, nL, cs, sl⟩ := X
  obtain ⟨hx, hb, hml, hown, hts, hK, hinj, hA, hSt, hF, hL, hcs, hsl⟩ := hX
  subst hq
  intro H locs la hP hS hl
  exact lv_aload_n hx hb d rfl (hl.get (i := 1) rfl) (k H locs la hP hS hl)

theorem r_istore1 {X : XT} {Γ : Gam} {cc : ByteArray} {own : String} {F L : Nat} (hX : OKX X Γ cc own F L) {pc q : Nat} {ls : List (Option Value)} {a0 : Option Value}  {st : List Value} {G : GG} {z : Option Value} {x : Int32} (d : decode cc pc = .ok (.istore_n 1, 1)) (hq : pc + 1 = q) (hno : nolong (a0 :: z :: ls) = true) (k : WP X Γ q (a0 :: some (.int x) :: ls) st G) : WP X Γ pc (a0 :: z :: ls) (.int x :: st) G := by
  obtain ⟨p, l, e, R, s, m, args, below, meth, c, Q, A, nL, cs, sl⟩ := X
  obtain ⟨hx, hb, hml, hown, hts, hK, hinj, hA, hSt, hF, hL, hcs, hsl⟩ := hX
  subst hq
  intro H locs la hP hS hl
  have hn : 1 < nL := by have := hl.1.2; simp at this; omega
  exact lv_istore_n hx hb d rfl hl.has hn rfl (fun la2 h2 => k H locs la2 hP hS (LH.set hl.1.2 hno h2))

theorem r_astore1 {X : XT} {Γ : Gam} {cc : ByteArray} {own : String} {F L : Nat} (hX : OKX X Γ cc own F L) {pc q : Nat} {ls : List (Option Value)} {a0 : Option Value}  {st : List Value} {G : GG} {z : Option Value} {x : Nat} (d : decode cc pc = .ok (.astore_n 1, 1)) (hq : pc + 1 = q) (hno : nolong (a0 :: z :: ls) = true) (k : WP X Γ q (a0 :: some (.ref x) :: ls) st G) : WP X Γ pc (a0 :: z :: ls) (.ref x :: st) G := by
  obtain ⟨p, l, e, R, s, m, args, below, meth, c, Q, A, nL, cs, sl⟩ := X
  obtain ⟨hx, hb, hml, hown, hts, hK, hinj, hA, hSt, hF, hL, hcs, hsl⟩ := hX
  subst hq
  intro H locs la hP hS hl
  have hn : 1 < nL := by have := hl.1.2; simp at this; omega
  exact lv_astore_n hx hb d rfl hl.has hn rfl (fun la2 h2 => k H locs la2 hP hS (LH.set hl.1.2 hno h2))

theorem r_iinc1 {X : XT} {Γ : Gam} {cc : ByteArray} {own : String} {F L : Nat} (hX : OKX X Γ cc own F L) {pc q : Nat} {ls : List (Option Value)} {a0 : Option Value}  {st : List Value} {G : GG} {n : Int} {x v : Int32} (d : decode cc pc = .ok (.iinc 1 n, 3)) (hq : pc + 3 = q) (hno : nolong (a0 :: some (.int x) :: ls) = true) (hv : x + Int32.ofInt n = v) (k : WP X Γ q (a0 :: some (.int v) :: ls) st G) : WP X Γ pc (a0 :: some (.int x) :: ls) st G := by
  obtain ⟨p, l, e, R, s, m, args, below, meth, c, Q, A, nL, cs, sl⟩ := X
  obtain ⟨hx, hb, hml, hown, hts, hK, hinj, hA, hSt, hF, hL, hcs, hsl⟩ := hX
  subst hq
  intro H locs la hP hS hl
  have hn : 1 < nL := by have := hl.1.2; simp at this; omega
  have hm : (1, Value.int x) ∈ lvl (a0 :: some (.int x) :: ls) := lvl_mem.mpr rfl
  obtain ⟨j, hj⟩ := List.getElem?_of_mem hm
  exact lv_iinc hx hb d hl.has hj hv hn rfl (fun la2 h2 => k H locs la2 hP hS (LH.set hl.1.2 hno h2))

theorem r_iload2 {X : XT} {Γ : Gam} {cc : ByteArray} {own : String} {F L : Nat} (hX : OKX X Γ cc own F L) {pc q : Nat} {ls : List (Option Value)} {a0 a1 : Option Value}  {st : List Value} {G : GG} {x : Int32} (d : decode cc pc = .ok (.iload_n 2, 1)) (hq : pc + 1 = q) (k : WP X Γ q (a0 :: a1 :: some (.int x) :: ls) (.int x :: st) G) : WP X Γ pc (a0 :: a1 :: some (.int x) :: ls) st G := by
  obtain ⟨p, l, e, R, s, m, args, below, meth, c, Q, A, nL, cs, sl⟩ := X
  obtain ⟨hx, hb, hml, hown, hts, hK, hinj, hA, hSt, hF, hL, hcs, hsl⟩ := hX
  subst hq
  intro H locs la hP hS hl
  exact lv_iload_n hx hb d rfl (hl.get (i := 2) rfl) (k H locs la hP hS hl)

theorem r_aload2 {X : XT} {Γ : Gam} {cc : ByteArray} {own : String} {F L : Nat} (hX : OKX X Γ cc own F L) {pc q : Nat} {ls : List (Option Value)} {a0 a1 : Option Value}  {st : List Value} {G : GG} {x : Nat} (d : decode cc pc = .ok (.aload_n 2, 1)) (hq : pc + 1 = q) (k : WP X Γ q (a0 :: a1 :: some (.ref x) :: ls) (.ref x :: st) G) : WP X Γ pc (a0 :: a1 :: some (.ref x) :: ls) st G := by
  obtain ⟨p, l, e, R, s, m, args, below, meth, c, Q, A, nL, cs, sl⟩ := X
  obtain ⟨hx, hb, hml, hown, hts, hK, hinj, hA, hSt, hF, hL, hcs, hsl⟩ := hX
  subst hq
  intro H locs la hP hS hl
  exact lv_aload_n hx hb d rfl (hl.get (i := 2) rfl) (k H locs la hP hS hl)

theorem r_istore2 {X : XT} {Γ : Gam} {cc : ByteArray} {own : String} {F L : Nat} (hX : OKX X Γ cc own F L) {pc q : Nat} {ls : List (Option Value)} {a0 a1 : Option Value}  {st : List Value} {G : GG} {z : Option Value} {x : Int32} (d : decode cc pc = .ok (.istore_n 2, 1)) (hq : pc + 1 = q) (hno : nolong (a0 :: a1 :: z :: ls) = true) (k : WP X Γ q (a0 :: a1 :: some (.int x) :: ls) st G) : WP X Γ pc (a0 :: a1 :: z :: ls) (.int x :: st) G := by
  obtain ⟨p, l, e, R, s, m, args, below, meth, c, Q, A, nL, cs, sl⟩ := X
  obtain ⟨hx, hb, hml, hown, hts, hK, hinj, hA, hSt, hF, hL, hcs, hsl⟩ := hX
  subst hq
  intro H locs la hP hS hl
  have hn : 2 < nL := by have := hl.1.2; simp at this; omega
  exact lv_istore_n hx hb d rfl hl.has hn rfl (fun la2 h2 => k H locs la2 hP hS (LH.set hl.1.2 hno h2))

theorem r_astore2 {X : XT} {Γ : Gam} {cc : ByteArray} {own : String} {F L : Nat} (hX : OKX X Γ cc own F L) {pc q : Nat} {ls : List (Option Value)} {a0 a1 : Option Value}  {st : List Value} {G : GG} {z : Option Value} {x : Nat} (d : decode cc pc = .ok (.astore_n 2, 1)) (hq : pc + 1 = q) (hno : nolong (a0 :: a1 :: z :: ls) = true) (k : WP X Γ q (a0 :: a1 :: some (.ref x) :: ls) st G) : WP X Γ pc (a0 :: a1 :: z :: ls) (.ref x :: st) G := by
  obtain ⟨p, l, e, R, s, m, args, below, meth, c, Q, A, nL, cs, sl⟩ := X
  obtain ⟨hx, hb, hml, hown, hts, hK, hinj, hA, hSt, hF, hL, hcs, hsl⟩ := hX
  subst hq
  intro H locs la hP hS hl
  have hn : 2 < nL := by have := hl.1.2; simp at this; omega
  exact lv_astore_n hx hb d rfl hl.has hn rfl (fun la2 h2 => k H locs la2 hP hS (LH.set hl.1.2 hno h2))

theorem r_iinc2 {X : XT} {Γ : Gam} {cc : ByteArray} {own : String} {F L : Nat} (hX : OKX X Γ cc own F L) {pc q : Nat} {ls : List (Option Value)} {a0 a1 : Option Value}  {st : List Value} {G : GG} {n : Int} {x v : Int32} (d : decode cc pc = .ok (.iinc 2 n, 3)) (hq : pc + 3 = q) (hno : nolong (a0 :: a1 :: some (.int x) :: ls) = true) (hv : x + Int32.ofInt n = v) (k : WP X Γ q (a0 :: a1 :: some (.int v) :: ls) st G) : WP X Γ pc (a0 :: a1 :: some (.int x) :: ls) st G := by
  obtain ⟨p, l, e, R, s, m, args, below, meth, c, Q, A, nL, cs, sl⟩ := X
  obtain ⟨hx, hb, hml, hown, hts, hK, hinj, hA, hSt, hF, hL, hcs, hsl⟩ := hX
  subst hq
  intro H locs la hP hS hl
  have hn : 2 < nL := by have := hl.1.2; simp at this; omega
  have hm : (2, Value.int x) ∈ lvl (a0 :: a1 :: some (.int x) :: ls) := lvl_mem.mpr rfl
  obtain ⟨j, hj⟩ := List.getElem?_of_mem hm
  exact lv_iinc hx hb d hl.has hj hv hn rfl (fun la2 h2 => k H locs la2 hP hS (LH.set hl.1.2 hno h2))

theorem r_iload3 {X : XT} {Γ : Gam} {cc : ByteArray} {own : String} {F L : Nat} (hX : OKX X Γ cc own F L) {pc q : Nat} {ls : List (Option Value)} {a0 a1 a2 : Option Value}  {st : List Value} {G : GG} {x : Int32} (d : decode cc pc = .ok (.iload_n 3, 1)) (hq : pc + 1 = q) (k : WP X Γ q (a0 :: a1 :: a2 :: some (.int x) :: ls) (.int x :: st) G) : WP X Γ pc (a0 :: a1 :: a2 :: some (.int x) :: ls) st G := by
  obtain ⟨p, l, e, R, s, m, args, below, meth, c, Q, A, nL, cs, sl⟩ := X
  obtain ⟨hx, hb, hml, hown, hts, hK, hinj, hA, hSt, hF, hL, hcs, hsl⟩ := hX
  subst hq
  intro H locs la hP hS hl
  exact lv_iload_n hx hb d rfl (hl.get (i := 3) rfl) (k H locs la hP hS hl)

theorem r_aload3 {X : XT} {Γ : Gam} {cc : ByteArray} {own : String} {F L : Nat} (hX : OKX X Γ cc own F L) {pc q : Nat} {ls : List (Option Value)} {a0 a1 a2 : Option Value}  {st : List Value} {G : GG} {x : Nat} (d : decode cc pc = .ok (.aload_n 3, 1)) (hq : pc + 1 = q) (k : WP X Γ q (a0 :: a1 :: a2 :: some (.ref x) :: ls) (.ref x :: st) G) : WP X Γ pc (a0 :: a1 :: a2 :: some (.ref x) :: ls) st G := by
  obtain ⟨p, l, e, R, s, m, args, below, meth, c, Q, A, nL, cs, sl⟩ := X
  obtain ⟨hx, hb, hml, hown, hts, hK, hinj, hA, hSt, hF, hL, hcs, hsl⟩ := hX
  subst hq
  intro H locs la hP hS hl
  exact lv_aload_n hx hb d rfl (hl.get (i := 3) rfl) (k H locs la hP hS hl)

theorem r_istore3 {X : XT} {Γ : Gam} {cc : ByteArray} {own : String} {F L : Nat} (hX : OKX X Γ cc own F L) {pc q : Nat} {ls : List (Option Value)} {a0 a1 a2 : Option Value}  {st : List Value} {G : GG} {z : Option Value} {x : Int32} (d : decode cc pc = .ok (.istore_n 3, 1)) (hq : pc + 1 = q) (hno : nolong (a0 :: a1 :: a2 :: z :: ls) = true) (k : WP X Γ q (a0 :: a1 :: a2 :: some (.int x) :: ls) st G) : WP X Γ pc (a0 :: a1 :: a2 :: z :: ls) (.int x :: st) G := by
  obtain ⟨p, l, e, R, s, m, args, below, meth, c, Q, A, nL, cs, sl⟩ := X
  obtain ⟨hx, hb, hml, hown, hts, hK, hinj, hA, hSt, hF, hL, hcs, hsl⟩ := hX
  subst hq
  intro H locs la hP hS hl
  have hn : 3 < nL := by have := hl.1.2; simp at this; omega
  exact lv_istore_n hx hb d rfl hl.has hn rfl (fun la2 h2 => k H locs la2 hP hS (LH.set hl.1.2 hno h2))

theorem r_astore3 {X : XT} {Γ : Gam} {cc : ByteArray} {own : String} {F L : Nat} (hX : OKX X Γ cc own F L) {pc q : Nat} {ls : List (Option Value)} {a0 a1 a2 : Option Value}  {st : List Value} {G : GG} {z : Option Value} {x : Nat} (d : decode cc pc = .ok (.astore_n 3, 1)) (hq : pc + 1 = q) (hno : nolong (a0 :: a1 :: a2 :: z :: ls) = true) (k : WP X Γ q (a0 :: a1 :: a2 :: some (.ref x) :: ls) st G) : WP X Γ pc (a0 :: a1 :: a2 :: z :: ls) (.ref x :: st) G := by
  obtain ⟨p, l, e, R, s, m, args, below, meth, c, Q, A, nL, cs, sl⟩ := X
  obtain ⟨hx, hb, hml, hown, hts, hK, hinj, hA, hSt, hF, hL, hcs, hsl⟩ := hX
  subst hq
  intro H locs la hP hS hl
  have hn : 3 < nL := by have := hl.1.2; simp at this; omega
  exact lv_astore_n hx hb d rfl hl.has hn rfl (fun la2 h2 => k H locs la2 hP hS (LH.set hl.1.2 hno h2))

theorem r_iinc3 {X : XT} {Γ : Gam} {cc : ByteArray} {own : String} {F L : Nat} (hX : OKX X Γ cc own F L) {pc q : Nat} {ls : List (Option Value)} {a0 a1 a2 : Option Value}  {st : List Value} {G : GG} {n : Int} {x v : Int32} (d : decode cc pc = .ok (.iinc 3 n, 3)) (hq : pc + 3 = q) (hno : nolong (a0 :: a1 :: a2 :: some (.int x) :: ls) = true) (hv : x + Int32.ofInt n = v) (k : WP X Γ q (a0 :: a1 :: a2 :: some (.int v) :: ls) st G) : WP X Γ pc (a0 :: a1 :: a2 :: some (.int x) :: ls) st G := by
  obtain ⟨p, l, e, R, s, m, args, below, meth, c, Q, A, nL, cs, sl⟩ := X
  obtain ⟨hx, hb, hml, hown, hts, hK, hinj, hA, hSt, hF, hL, hcs, hsl⟩ := hX
  subst hq
  intro H locs la hP hS hl
  have hn : 3 < nL := by have := hl.1.2; simp at this; omega
  have hm : (3, Value.int x) ∈ lvl (a0 :: a1 :: a2 :: some (.int x) :: ls) := lvl_mem.mpr rfl
  obtain ⟨j, hj⟩ := List.getElem?_of_mem hm
  exact lv_iinc hx hb d hl.has hj hv hn rfl (fun la2 h2 => k H locs la2 hP hS (LH.set hl.1.2 hno h2))

theorem r_iload4 {X : XT} {Γ : Gam} {cc : ByteArray} {own : String} {F L : Nat} (hX : OKX X Γ cc own F L) {pc q : Nat} {ls : List (Option Value)} {a0 a1 a2 a3 : Option Value}  {st : List Value} {G : GG} {x : Int32} (d : decode cc pc = .ok (.iload 4, 2)) (hq : pc + 2 = q) (k : WP X Γ q (a0 :: a1 :: a2 :: a3 :: some (.int x) :: ls) (.int x :: st) G) : WP X Γ pc (a0 :: a1 :: a2 :: a3 :: some (.int x) :: ls) st G := by
  obtain ⟨p, l, e, R, s, m, args, below, meth, c, Q, A, nL, cs, sl⟩ := X
  obtain ⟨hx, hb, hml, hown, hts, hK, hinj, hA, hSt, hF, hL, hcs, hsl⟩ := hX
  subst hq
  intro H locs la hP hS hl
  exact lv_iload hx hb d (hl.get (i := 4) rfl) (k H locs la hP hS hl)

theorem r_aload4 {X : XT} {Γ : Gam} {cc : ByteArray} {own : String} {F L : Nat} (hX : OKX X Γ cc own F L) {pc q : Nat} {ls : List (Option Value)} {a0 a1 a2 a3 : Option Value}  {st : List Value} {G : GG} {x : Nat} (d : decode cc pc = .ok (.aload 4, 2)) (hq : pc + 2 = q) (k : WP X Γ q (a0 :: a1 :: a2 :: a3 :: some (.ref x) :: ls) (.ref x :: st) G) : WP X Γ pc (a0 :: a1 :: a2 :: a3 :: some (.ref x) :: ls) st G := by
  obtain ⟨p, l, e, R, s, m, args, below, meth, c, Q, A, nL, cs, sl⟩ := X
  obtain ⟨hx, hb, hml, hown, hts, hK, hinj, hA, hSt, hF, hL, hcs, hsl⟩ := hX
  subst hq
  intro H locs la hP hS hl
  exact lv_aload hx hb d (hl.get (i := 4) rfl) (k H locs la hP hS hl)

theorem r_istore4 {X : XT} {Γ : Gam} {cc : ByteArray} {own : String} {F L : Nat} (hX : OKX X Γ cc own F L) {pc q : Nat} {ls : List (Option Value)} {a0 a1 a2 a3 : Option Value}  {st : List Value} {G : GG} {z : Option Value} {x : Int32} (d : decode cc pc = .ok (.istore 4, 2)) (hq : pc + 2 = q) (hno : nolong (a0 :: a1 :: a2 :: a3 :: z :: ls) = true) (k : WP X Γ q (a0 :: a1 :: a2 :: a3 :: some (.int x) :: ls) st G) : WP X Γ pc (a0 :: a1 :: a2 :: a3 :: z :: ls) (.int x :: st) G := by
  obtain ⟨p, l, e, R, s, m, args, below, meth, c, Q, A, nL, cs, sl⟩ := X
  obtain ⟨hx, hb, hml, hown, hts, hK, hinj, hA, hSt, hF, hL, hcs, hsl⟩ := hX
  subst hq
  intro H locs la hP hS hl
  have hn : 4 < nL := by have := hl.1.2; simp at this; omega
  exact lv_istore hx hb d hl.has hn rfl (fun la2 h2 => k H locs la2 hP hS (LH.set hl.1.2 hno h2))

theorem r_astore4 {X : XT} {Γ : Gam} {cc : ByteArray} {own : String} {F L : Nat} (hX : OKX X Γ cc own F L) {pc q : Nat} {ls : List (Option Value)} {a0 a1 a2 a3 : Option Value}  {st : List Value} {G : GG} {z : Option Value} {x : Nat} (d : decode cc pc = .ok (.astore 4, 2)) (hq : pc + 2 = q) (hno : nolong (a0 :: a1 :: a2 :: a3 :: z :: ls) = true) (k : WP X Γ q (a0 :: a1 :: a2 :: a3 :: some (.ref x) :: ls) st G) : WP X Γ pc (a0 :: a1 :: a2 :: a3 :: z :: ls) (.ref x :: st) G := by
  obtain ⟨p, l, e, R, s, m, args, below, meth, c, Q, A, nL, cs, sl⟩ := X
  obtain ⟨hx, hb, hml, hown, hts, hK, hinj, hA, hSt, hF, hL, hcs, hsl⟩ := hX
  subst hq
  intro H locs la hP hS hl
  have hn : 4 < nL := by have := hl.1.2; simp at this; omega
  exact lv_astore hx hb d hl.has hn rfl (fun la2 h2 => k H locs la2 hP hS (LH.set hl.1.2 hno h2))

theorem r_iinc4 {X : XT} {Γ : Gam} {cc : ByteArray} {own : String} {F L : Nat} (hX : OKX X Γ cc own F L) {pc q : Nat} {ls : List (Option Value)} {a0 a1 a2 a3 : Option Value}  {st : List Value} {G : GG} {n : Int} {x v : Int32} (d : decode cc pc = .ok (.iinc 4 n, 3)) (hq : pc + 3 = q) (hno : nolong (a0 :: a1 :: a2 :: a3 :: some (.int x) :: ls) = true) (hv : x + Int32.ofInt n = v) (k : WP X Γ q (a0 :: a1 :: a2 :: a3 :: some (.int v) :: ls) st G) : WP X Γ pc (a0 :: a1 :: a2 :: a3 :: some (.int x) :: ls) st G := by
  obtain ⟨p, l, e, R, s, m, args, below, meth, c, Q, A, nL, cs, sl⟩ := X
  obtain ⟨hx, hb, hml, hown, hts, hK, hinj, hA, hSt, hF, hL, hcs, hsl⟩ := hX
  subst hq
  intro H locs la hP hS hl
  have hn : 4 < nL := by have := hl.1.2; simp at this; omega
  have hm : (4, Value.int x) ∈ lvl (a0 :: a1 :: a2 :: a3 :: some (.int x) :: ls) := lvl_mem.mpr rfl
  obtain ⟨j, hj⟩ := List.getElem?_of_mem hm
  exact lv_iinc hx hb d hl.has hj hv hn rfl (fun la2 h2 => k H locs la2 hP hS (LH.set hl.1.2 hno h2))

theorem r_iload5 {X : XT} {Γ : Gam} {cc : ByteArray} {own : String} {F L : Nat} (hX : OKX X Γ cc own F L) {pc q : Nat} {ls : List (Option Value)} {a0 a1 a2 a3 a4 : Option Value}  {st : List Value} {G : GG} {x : Int32} (d : decode cc pc = .ok (.iload 5, 2)) (hq : pc + 2 = q) (k : WP X Γ q (a0 :: a1 :: a2 :: a3 :: a4 :: some (.int x) :: ls) (.int x :: st) G) : WP X Γ pc (a0 :: a1 :: a2 :: a3 :: a4 :: some (.int x) :: ls) st G := by
  obtain ⟨p, l, e, R, s, m, args, below, meth, c, Q, A, nL, cs, sl⟩ := X
  obtain ⟨hx, hb, hml, hown, hts, hK, hinj, hA, hSt, hF, hL, hcs, hsl⟩ := hX
  subst hq
  intro H locs la hP hS hl
  exact lv_iload hx hb d (hl.get (i := 5) rfl) (k H locs la hP hS hl)

theorem r_aload5 {X : XT} {Γ : Gam} {cc : ByteArray} {own : String} {F L : Nat} (hX : OKX X Γ cc own F L) {pc q : Nat} {ls : List (Option Value)} {a0 a1 a2 a3 a4 : Option Value}  {st : List Value} {G : GG} {x : Nat} (d : decode cc pc = .ok (.aload 5, 2)) (hq : pc + 2 = q) (k : WP X Γ q (a0 :: a1 :: a2 :: a3 :: a4 :: some (.ref x) :: ls) (.ref x :: st) G) : WP X Γ pc (a0 :: a1 :: a2 :: a3 :: a4 :: some (.ref x) :: ls) st G := by
  obtain ⟨p, l, e, R, s, m, args, below, meth, c, Q, A, nL, cs, sl⟩ := X
  obtain ⟨hx, hb, hml, hown, hts, hK, hinj, hA, hSt, hF, hL, hcs, hsl⟩ := hX
  subst hq
  intro H locs la hP hS hl
  exact lv_aload hx hb d (hl.get (i := 5) rfl) (k H locs la hP hS hl)

theorem r_istore5 {X : XT} {Γ : Gam} {cc : ByteArray} {own : String} {F L : Nat} (hX : OKX X Γ cc own F L) {pc q : Nat} {ls : List (Option Value)} {a0 a1 a2 a3 a4 : Option Value}  {st : List Value} {G : GG} {z : Option Value} {x : Int32} (d : decode cc pc = .ok (.istore 5, 2)) (hq : pc + 2 = q) (hno : nolong (a0 :: a1 :: a2 :: a3 :: a4 :: z :: ls) = true) (k : WP X Γ q (a0 :: a1 :: a2 :: a3 :: a4 :: some (.int x) :: ls) st G) : WP X Γ pc (a0 :: a1 :: a2 :: a3 :: a4 :: z :: ls) (.int x :: st) G := by
  obtain ⟨p, l, e, R, s, m, args, below, meth, c, Q, A, nL, cs, sl⟩ := X
  obtain ⟨hx, hb, hml, hown, hts, hK, hinj, hA, hSt, hF, hL, hcs, hsl⟩ := hX
  subst hq
  intro H locs la hP hS hl
  have hn : 5 < nL := by have := hl.1.2; simp at this; omega
  exact lv_istore hx hb d hl.has hn rfl (fun la2 h2 => k H locs la2 hP hS (LH.set hl.1.2 hno h2))

theorem r_astore5 {X : XT} {Γ : Gam} {cc : ByteArray} {own : String} {F L : Nat} (hX : OKX X Γ cc own F L) {pc q : Nat} {ls : List (Option Value)} {a0 a1 a2 a3 a4 : Option Value}  {st : List Value} {G : GG} {z : Option Value} {x : Nat} (d : decode cc pc = .ok (.astore 5, 2)) (hq : pc + 2 = q) (hno : nolong (a0 :: a1 :: a2 :: a3 :: a4 :: z :: ls) = true) (k : WP X Γ q (a0 :: a1 :: a2 :: a3 :: a4 :: some (.ref x) :: ls) st G) : WP X Γ pc (a0 :: a1 :: a2 :: a3 :: a4 :: z :: ls) (.ref x :: st) G := by
  obtain ⟨p, l, e, R, s, m, args, below, meth, c, Q, A, nL, cs, sl⟩ := X
  obtain ⟨hx, hb, hml, hown, hts, hK, hinj, hA, hSt, hF, hL, hcs, hsl⟩ := hX
  subst hq
  intro H locs la hP hS hl
  have hn : 5 < nL := by have := hl.1.2; simp at this; omega
  exact lv_astore hx hb d hl.has hn rfl (fun la2 h2 => k H locs la2 hP hS (LH.set hl.1.2 hno h2))

theorem r_iinc5 {X : XT} {Γ : Gam} {cc : ByteArray} {own : String} {F L : Nat} (hX : OKX X Γ cc own F L) {pc q : Nat} {ls : List (Option Value)} {a0 a1 a2 a3 a4 : Option Value}  {st : List Value} {G : GG} {n : Int} {x v : Int32} (d : decode cc pc = .ok (.iinc 5 n, 3)) (hq : pc + 3 = q) (hno : nolong (a0 :: a1 :: a2 :: a3 :: a4 :: some (.int x) :: ls) = true) (hv : x + Int32.ofInt n = v) (k : WP X Γ q (a0 :: a1 :: a2 :: a3 :: a4 :: some (.int v) :: ls) st G) : WP X Γ pc (a0 :: a1 :: a2 :: a3 :: a4 :: some (.int x) :: ls) st G := by
  obtain ⟨p, l, e, R, s, m, args, below, meth, c, Q, A, nL, cs, sl⟩ := X
  obtain ⟨hx, hb, hml, hown, hts, hK, hinj, hA, hSt, hF, hL, hcs, hsl⟩ := hX
  subst hq
  intro H locs la hP hS hl
  have hn : 5 < nL := by have := hl.1.2; simp at this; omega
  have hm : (5, Value.int x) ∈ lvl (a0 :: a1 :: a2 :: a3 :: a4 :: some (.int x) :: ls) := lvl_mem.mpr rfl
  obtain ⟨j, hj⟩ := List.getElem?_of_mem hm
  exact lv_iinc hx hb d hl.has hj hv hn rfl (fun la2 h2 => k H locs la2 hP hS (LH.set hl.1.2 hno h2))

theorem r_iload6 {X : XT} {Γ : Gam} {cc : ByteArray} {own : String} {F L : Nat} (hX : OKX X Γ cc own F L) {pc q : Nat} {ls : List (Option Value)} {a0 a1 a2 a3 a4 a5 : Option Value}  {st : List Value} {G : GG} {x : Int32} (d : decode cc pc = .ok (.iload 6, 2)) (hq : pc + 2 = q) (k : WP X Γ q (a0 :: a1 :: a2 :: a3 :: a4 :: a5 :: some (.int x) :: ls) (.int x :: st) G) : WP X Γ pc (a0 :: a1 :: a2 :: a3 :: a4 :: a5 :: some (.int x) :: ls) st G := by
  obtain ⟨p, l, e, R, s, m, args, below, meth, c, Q, A, nL, cs, sl⟩ := X
  obtain ⟨hx, hb, hml, hown, hts, hK, hinj, hA, hSt, hF, hL, hcs, hsl⟩ := hX
  subst hq
  intro H locs la hP hS hl
  exact lv_iload hx hb d (hl.get (i := 6) rfl) (k H locs la hP hS hl)

theorem r_aload6 {X : XT} {Γ : Gam} {cc : ByteArray} {own : String} {F L : Nat} (hX : OKX X Γ cc own F L) {pc q : Nat} {ls : List (Option Value)} {a0 a1 a2 a3 a4 a5 : Option Value}  {st : List Value} {G : GG} {x : Nat} (d : decode cc pc = .ok (.aload 6, 2)) (hq : pc + 2 = q) (k : WP X Γ q (a0 :: a1 :: a2 :: a3 :: a4 :: a5 :: some (.ref x) :: ls) (.ref x :: st) G) : WP X Γ pc (a0 :: a1 :: a2 :: a3 :: a4 :: a5 :: some (.ref x) :: ls) st G := by
  obtain ⟨p, l, e, R, s, m, args, below, meth, c, Q, A, nL, cs, sl⟩ := X
  obtain ⟨hx, hb, hml, hown, hts, hK, hinj, hA, hSt, hF, hL, hcs, hsl⟩ := hX
  subst hq
  intro H locs la hP hS hl
  exact lv_aload hx hb d (hl.get (i := 6) rfl) (k H locs la hP hS hl)

theorem r_istore6 {X : XT} {Γ : Gam} {cc : ByteArray} {own : String} {F L : Nat} (hX : OKX X Γ cc own F L) {pc q : Nat} {ls : List (Option Value)} {a0 a1 a2 a3 a4 a5 : Option Value}  {st : List Value} {G : GG} {z : Option Value} {x : Int32} (d : decode cc pc = .ok (.istore 6, 2)) (hq : pc + 2 = q) (hno : nolong (a0 :: a1 :: a2 :: a3 :: a4 :: a5 :: z :: ls) = true) (k : WP X Γ q (a0 :: a1 :: a2 :: a3 :: a4 :: a5 :: some (.int x) :: ls) st G) : WP X Γ pc (a0 :: a1 :: a2 :: a3 :: a4 :: a5 :: z :: ls) (.int x :: st) G := by
  obtain ⟨p, l, e, R, s, m, args, below, meth, c, Q, A, nL, cs, sl⟩ := X
  obtain ⟨hx, hb, hml, hown, hts, hK, hinj, hA, hSt, hF, hL, hcs, hsl⟩ := hX
  subst hq
  intro H locs la hP hS hl
  have hn : 6 < nL := by have := hl.1.2; simp at this; omega
  exact lv_istore hx hb d hl.has hn rfl (fun la2 h2 => k H locs la2 hP hS (LH.set hl.1.2 hno h2))

theorem r_astore6 {X : XT} {Γ : Gam} {cc : ByteArray} {own : String} {F L : Nat} (hX : OKX X Γ cc own F L) {pc q : Nat} {ls : List (Option Value)} {a0 a1 a2 a3 a4 a5 : Option Value}  {st : List Value} {G : GG} {z : Option Value} {x : Nat} (d : decode cc pc = .ok (.astore 6, 2)) (hq : pc + 2 = q) (hno : nolong (a0 :: a1 :: a2 :: a3 :: a4 :: a5 :: z :: ls) = true) (k : WP X Γ q (a0 :: a1 :: a2 :: a3 :: a4 :: a5 :: some (.ref x) :: ls) st G) : WP X Γ pc (a0 :: a1 :: a2 :: a3 :: a4 :: a5 :: z :: ls) (.ref x :: st) G := by
  obtain ⟨p, l, e, R, s, m, args, below, meth, c, Q, A, nL, cs, sl⟩ := X
  obtain ⟨hx, hb, hml, hown, hts, hK, hinj, hA, hSt, hF, hL, hcs, hsl⟩ := hX
  subst hq
  intro H locs la hP hS hl
  have hn : 6 < nL := by have := hl.1.2; simp at this; omega
  exact lv_astore hx hb d hl.has hn rfl (fun la2 h2 => k H locs la2 hP hS (LH.set hl.1.2 hno h2))

theorem r_iinc6 {X : XT} {Γ : Gam} {cc : ByteArray} {own : String} {F L : Nat} (hX : OKX X Γ cc own F L) {pc q : Nat} {ls : List (Option Value)} {a0 a1 a2 a3 a4 a5 : Option Value}  {st : List Value} {G : GG} {n : Int} {x v : Int32} (d : decode cc pc = .ok (.iinc 6 n, 3)) (hq : pc + 3 = q) (hno : nolong (a0 :: a1 :: a2 :: a3 :: a4 :: a5 :: some (.int x) :: ls) = true) (hv : x + Int32.ofInt n = v) (k : WP X Γ q (a0 :: a1 :: a2 :: a3 :: a4 :: a5 :: some (.int v) :: ls) st G) : WP X Γ pc (a0 :: a1 :: a2 :: a3 :: a4 :: a5 :: some (.int x) :: ls) st G := by
  obtain ⟨p, l, e, R, s, m, args, below, meth, c, Q, A, nL, cs, sl⟩ := X
  obtain ⟨hx, hb, hml, hown, hts, hK, hinj, hA, hSt, hF, hL, hcs, hsl⟩ := hX
  subst hq
  intro H locs la hP hS hl
  have hn : 6 < nL := by have := hl.1.2; simp at this; omega
  have hm : (6, Value.int x) ∈ lvl (a0 :: a1 :: a2 :: a3 :: a4 :: a5 :: some (.int x) :: ls) := lvl_mem.mpr rfl
  obtain ⟨j, hj⟩ := List.getElem?_of_mem hm
  exact lv_iinc hx hb d hl.has hj hv hn rfl (fun la2 h2 => k H locs la2 hP hS (LH.set hl.1.2 hno h2))

theorem r_iload7 {X : XT} {Γ : Gam} {cc : ByteArray} {own : String} {F L : Nat} (hX : OKX X Γ cc own F L) {pc q : Nat} {ls : List (Option Value)} {a0 a1 a2 a3 a4 a5 a6 : Option Value}  {st : List Value} {G : GG} {x : Int32} (d : decode cc pc = .ok (.iload 7, 2)) (hq : pc + 2 = q) (k : WP X Γ q (a0 :: a1 :: a2 :: a3 :: a4 :: a5 :: a6 :: some (.int x) :: ls) (.int x :: st) G) : WP X Γ pc (a0 :: a1 :: a2 :: a3 :: a4 :: a5 :: a6 :: some (.int x) :: ls) st G := by
  obtain ⟨p, l, e, R, s, m, args, below, meth, c, Q, A, nL, cs, sl⟩ := X
  obtain ⟨hx, hb, hml, hown, hts, hK, hinj, hA, hSt, hF, hL, hcs, hsl⟩ := hX
  subst hq
  intro H locs la hP hS hl
  exact lv_iload hx hb d (hl.get (i := 7) rfl) (k H locs la hP hS hl)

theorem r_aload7 {X : XT} {Γ : Gam} {cc : ByteArray} {own : String} {F L : Nat} (hX : OKX X Γ cc own F L) {pc q : Nat} {ls : List (Option Value)} {a0 a1 a2 a3 a4 a5 a6 : Option Value}  {st : List Value} {G : GG} {x : Nat} (d : decode cc pc = .ok (.aload 7, 2)) (hq : pc + 2 = q) (k : WP X Γ q (a0 :: a1 :: a2 :: a3 :: a4 :: a5 :: a6 :: some (.ref x) :: ls) (.ref x :: st) G) : WP X Γ pc (a0 :: a1 :: a2 :: a3 :: a4 :: a5 :: a6 :: some (.ref x) :: ls) st G := by
  obtain ⟨p, l, e, R, s, m, args, below, meth, c, Q, A, nL, cs, sl⟩ := X
  obtain ⟨hx, hb, hml, hown, hts, hK, hinj, hA, hSt, hF, hL, hcs, hsl⟩ := hX
  subst hq
  intro H locs la hP hS hl
  exact lv_aload hx hb d (hl.get (i := 7) rfl) (k H locs la hP hS hl)

theorem r_istore7 {X : XT} {Γ : Gam} {cc : ByteArray} {own : String} {F L : Nat} (hX : OKX X Γ cc own F L) {pc q : Nat} {ls : List (Option Value)} {a0 a1 a2 a3 a4 a5 a6 : Option Value}  {st : List Value} {G : GG} {z : Option Value} {x : Int32} (d : decode cc pc = .ok (.istore 7, 2)) (hq : pc + 2 = q) (hno : nolong (a0 :: a1 :: a2 :: a3 :: a4 :: a5 :: a6 :: z :: ls) = true) (k : WP X Γ q (a0 :: a1 :: a2 :: a3 :: a4 :: a5 :: a6 :: some (.int x) :: ls) st G) : WP X Γ pc (a0 :: a1 :: a2 :: a3 :: a4 :: a5 :: a6 :: z :: ls) (.int x :: st) G := by
  obtain ⟨p, l, e, R, s, m, args, below, meth, c, Q, A, nL, cs, sl⟩ := X
  obtain ⟨hx, hb, hml, hown, hts, hK, hinj, hA, hSt, hF, hL, hcs, hsl⟩ := hX
  subst hq
  intro H locs la hP hS hl
  have hn : 7 < nL := by have := hl.1.2; simp at this; omega
  exact lv_istore hx hb d hl.has hn rfl (fun la2 h2 => k H locs la2 hP hS (LH.set hl.1.2 hno h2))

theorem r_astore7 {X : XT} {Γ : Gam} {cc : ByteArray} {own : String} {F L : Nat} (hX : OKX X Γ cc own F L) {pc q : Nat} {ls : List (Option Value)} {a0 a1 a2 a3 a4 a5 a6 : Option Value}  {st : List Value} {G : GG} {z : Option Value} {x : Nat} (d : decode cc pc = .ok (.astore 7, 2)) (hq : pc + 2 = q) (hno : nolong (a0 :: a1 :: a2 :: a3 :: a4 :: a5 :: a6 :: z :: ls) = true) (k : WP X Γ q (a0 :: a1 :: a2 :: a3 :: a4 :: a5 :: a6 :: some (.ref x) :: ls) st G) : WP X Γ pc (a0 :: a1 :: a2 :: a3 :: a4 :: a5 :: a6 :: z :: ls) (.ref x :: st) G := by
  obtain ⟨p, l, e, R, s, m, args, below, meth, c, Q, A, nL, cs, sl⟩ := X
  obtain ⟨hx, hb, hml, hown, hts, hK, hinj, hA, hSt, hF, hL, hcs, hsl⟩ := hX
  subst hq
  intro H locs la hP hS hl
  have hn : 7 < nL := by have := hl.1.2; simp at this; omega
  exact lv_astore hx hb d hl.has hn rfl (fun la2 h2 => k H locs la2 hP hS (LH.set hl.1.2 hno h2))

theorem r_iinc7 {X : XT} {Γ : Gam} {cc : ByteArray} {own : String} {F L : Nat} (hX : OKX X Γ cc own F L) {pc q : Nat} {ls : List (Option Value)} {a0 a1 a2 a3 a4 a5 a6 : Option Value}  {st : List Value} {G : GG} {n : Int} {x v : Int32} (d : decode cc pc = .ok (.iinc 7 n, 3)) (hq : pc + 3 = q) (hno : nolong (a0 :: a1 :: a2 :: a3 :: a4 :: a5 :: a6 :: some (.int x) :: ls) = true) (hv : x + Int32.ofInt n = v) (k : WP X Γ q (a0 :: a1 :: a2 :: a3 :: a4 :: a5 :: a6 :: some (.int v) :: ls) st G) : WP X Γ pc (a0 :: a1 :: a2 :: a3 :: a4 :: a5 :: a6 :: some (.int x) :: ls) st G := by
  obtain ⟨p, l, e, R, s, m, args, below, meth, c, Q, A, nL, cs, sl⟩ := X
  obtain ⟨hx, hb, hml, hown, hts, hK, hinj, hA, hSt, hF, hL, hcs, hsl⟩ := hX
  subst hq
  intro H locs la hP hS hl
  have hn : 7 < nL := by have := hl.1.2; simp at this; omega
  have hm : (7, Value.int x) ∈ lvl (a0 :: a1 :: a2 :: a3 :: a4 :: a5 :: a6 :: some (.int x) :: ls) := lvl_mem.mpr rfl
  obtain ⟨j, hj⟩ := List.getElem?_of_mem hm
  exact lv_iinc hx hb d hl.has hj hv hn rfl (fun la2 h2 => k H locs la2 hP hS (LH.set hl.1.2 hno h2))

theorem r_iload8 {X : XT} {Γ : Gam} {cc : ByteArray} {own : String} {F L : Nat} (hX : OKX X Γ cc own F L) {pc q : Nat} {ls : List (Option Value)} {a0 a1 a2 a3 a4 a5 a6 a7 : Option Value}  {st : List Value} {G : GG} {x : Int32} (d : decode cc pc = .ok (.iload 8, 2)) (hq : pc + 2 = q) (k : WP X Γ q (a0 :: a1 :: a2 :: a3 :: a4 :: a5 :: a6 :: a7 :: some (.int x) :: ls) (.int x :: st) G) : WP X Γ pc (a0 :: a1 :: a2 :: a3 :: a4 :: a5 :: a6 :: a7 :: some (.int x) :: ls) st G := by
  obtain ⟨p, l, e, R, s, m, args, below, meth, c, Q, A, nL, cs, sl⟩ := X
  obtain ⟨hx, hb, hml, hown, hts, hK, hinj, hA, hSt, hF, hL, hcs, hsl⟩ := hX
  subst hq
  intro H locs la hP hS hl
  exact lv_iload hx hb d (hl.get (i := 8) rfl) (k H locs la hP hS hl)

theorem r_aload8 {X : XT} {Γ : Gam} {cc : ByteArray} {own : String} {F L : Nat} (hX : OKX X Γ cc own F L) {pc q : Nat} {ls : List (Option Value)} {a0 a1 a2 a3 a4 a5 a6 a7 : Option Value}  {st : List Value} {G : GG} {x : Nat} (d : decode cc pc = .ok (.aload 8, 2)) (hq : pc + 2 = q) (k : WP X Γ q (a0 :: a1 :: a2 :: a3 :: a4 :: a5 :: a6 :: a7 :: some (.ref x) :: ls) (.ref x :: st) G) : WP X Γ pc (a0 :: a1 :: a2 :: a3 :: a4 :: a5 :: a6 :: a7 :: some (.ref x) :: ls) st G := by
  obtain ⟨p, l, e, R, s, m, args, below, meth, c, Q, A, nL, cs, sl⟩ := X
  obtain ⟨hx, hb, hml, hown, hts, hK, hinj, hA, hSt, hF, hL, hcs, hsl⟩ := hX
  subst hq
  intro H locs la hP hS hl
  exact lv_aload hx hb d (hl.get (i := 8) rfl) (k H locs la hP hS hl)

theorem r_istore8 {X : XT} {Γ : Gam} {cc : ByteArray} {own : String} {F L : Nat} (hX : OKX X Γ cc own F L) {pc q : Nat} {ls : List (Option Value)} {a0 a1 a2 a3 a4 a5 a6 a7 : Option Value}  {st : List Value} {G : GG} {z : Option Value} {x : Int32} (d : decode cc pc = .ok (.istore 8, 2)) (hq : pc + 2 = q) (hno : nolong (a0 :: a1 :: a2 :: a3 :: a4 :: a5 :: a6 :: a7 :: z :: ls) = true) (k : WP X Γ q (a0 :: a1 :: a2 :: a3 :: a4 :: a5 :: a6 :: a7 :: some (.int x) :: ls) st G) : WP X Γ pc (a0 :: a1 :: a2 :: a3 :: a4 :: a5 :: a6 :: a7 :: z :: ls) (.int x :: st) G := by
  obtain ⟨p, l, e, R, s, m, args, below, meth, c, Q, A, nL, cs, sl⟩ := X
  obtain ⟨hx, hb, hml, hown, hts, hK, hinj, hA, hSt, hF, hL, hcs, hsl⟩ := hX
  subst hq
  intro H locs la hP hS hl
  have hn : 8 < nL := by have := hl.1.2; simp at this; omega
  exact lv_istore hx hb d hl.has hn rfl (fun la2 h2 => k H locs la2 hP hS (LH.set hl.1.2 hno h2))

theorem r_astore8 {X : XT} {Γ : Gam} {cc : ByteArray} {own : String} {F L : Nat} (hX : OKX X Γ cc own F L) {pc q : Nat} {ls : List (Option Value)} {a0 a1 a2 a3 a4 a5 a6 a7 : Option Value}  {st : List Value} {G : GG} {z : Option Value} {x : Nat} (d : decode cc pc = .ok (.astore 8, 2)) (hq : pc + 2 = q) (hno : nolong (a0 :: a1 :: a2 :: a3 :: a4 :: a5 :: a6 :: a7 :: z :: ls) = true) (k : WP X Γ q (a0 :: a1 :: a2 :: a3 :: a4 :: a5 :: a6 :: a7 :: some (.ref x) :: ls) st G) : WP X Γ pc (a0 :: a1 :: a2 :: a3 :: a4 :: a5 :: a6 :: a7 :: z :: ls) (.ref x :: st) G := by
  obtain ⟨p, l, e, R, s, m, args, below, meth, c, Q, A, nL, cs, sl⟩ := X
  obtain ⟨hx, hb, hml, hown, hts, hK, hinj, hA, hSt, hF, hL, hcs, hsl⟩ := hX
  subst hq
  intro H locs la hP hS hl
  have hn : 8 < nL := by have := hl.1.2; simp at this; omega
  exact lv_astore hx hb d hl.has hn rfl (fun la2 h2 => k H locs la2 hP hS (LH.set hl.1.2 hno h2))

theorem r_iinc8 {X : XT} {Γ : Gam} {cc : ByteArray} {own : String} {F L : Nat} (hX : OKX X Γ cc own F L) {pc q : Nat} {ls : List (Option Value)} {a0 a1 a2 a3 a4 a5 a6 a7 : Option Value}  {st : List Value} {G : GG} {n : Int} {x v : Int32} (d : decode cc pc = .ok (.iinc 8 n, 3)) (hq : pc + 3 = q) (hno : nolong (a0 :: a1 :: a2 :: a3 :: a4 :: a5 :: a6 :: a7 :: some (.int x) :: ls) = true) (hv : x + Int32.ofInt n = v) (k : WP X Γ q (a0 :: a1 :: a2 :: a3 :: a4 :: a5 :: a6 :: a7 :: some (.int v) :: ls) st G) : WP X Γ pc (a0 :: a1 :: a2 :: a3 :: a4 :: a5 :: a6 :: a7 :: some (.int x) :: ls) st G := by
  obtain ⟨p, l, e, R, s, m, args, below, meth, c, Q, A, nL, cs, sl⟩ := X
  obtain ⟨hx, hb, hml, hown, hts, hK, hinj, hA, hSt, hF, hL, hcs, hsl⟩ := hX
  subst hq
  intro H locs la hP hS hl
  have hn : 8 < nL := by have := hl.1.2; simp at this; omega
  have hm : (8, Value.int x) ∈ lvl (a0 :: a1 :: a2 :: a3 :: a4 :: a5 :: a6 :: a7 :: some (.int x) :: ls) := lvl_mem.mpr rfl
  obtain ⟨j, hj⟩ := List.getElem?_of_mem hm
  exact lv_iinc hx hb d hl.has hj hv hn rfl (fun la2 h2 => k H locs la2 hP hS (LH.set hl.1.2 hno h2))

theorem r_iload9 {X : XT} {Γ : Gam} {cc : ByteArray} {own : String} {F L : Nat} (hX : OKX X Γ cc own F L) {pc q : Nat} {ls : List (Option Value)} {a0 a1 a2 a3 a4 a5 a6 a7 a8 : Option Value}  {st : List Value} {G : GG} {x : Int32} (d : decode cc pc = .ok (.iload 9, 2)) (hq : pc + 2 = q) (k : WP X Γ q (a0 :: a1 :: a2 :: a3 :: a4 :: a5 :: a6 :: a7 :: a8 :: some (.int x) :: ls) (.int x :: st) G) : WP X Γ pc (a0 :: a1 :: a2 :: a3 :: a4 :: a5 :: a6 :: a7 :: a8 :: some (.int x) :: ls) st G := by
  obtain ⟨p, l, e, R, s, m, args, below, meth, c, Q, A, nL, cs, sl⟩ := X
  obtain ⟨hx, hb, hml, hown, hts, hK, hinj, hA, hSt, hF, hL, hcs, hsl⟩ := hX
  subst hq
  intro H locs la hP hS hl
  exact lv_iload hx hb d (hl.get (i := 9) rfl) (k H locs la hP hS hl)

theorem r_aload9 {X : XT} {Γ : Gam} {cc : ByteArray} {own : String} {F L : Nat} (hX : OKX X Γ cc own F L) {pc q : Nat} {ls : List (Option Value)} {a0 a1 a2 a3 a4 a5 a6 a7 a8 : Option Value}  {st : List Value} {G : GG} {x : Nat} (d : decode cc pc = .ok (.aload 9, 2)) (hq : pc + 2 = q) (k : WP X Γ q (a0 :: a1 :: a2 :: a3 :: a4 :: a5 :: a6 :: a7 :: a8 :: some (.ref x) :: ls) (.ref x :: st) G) : WP X Γ pc (a0 :: a1 :: a2 :: a3 :: a4 :: a5 :: a6 :: a7 :: a8 :: some (.ref x) :: ls) st G := by
  obtain ⟨p, l, e, R, s, m, args, below, meth, c, Q, A, nL, cs, sl⟩ := X
  obtain ⟨hx, hb, hml, hown, hts, hK, hinj, hA, hSt, hF, hL, hcs, hsl⟩ := hX
  subst hq
  intro H locs la hP hS hl
  exact lv_aload hx hb d (hl.get (i := 9) rfl) (k H locs la hP hS hl)

theorem r_istore9 {X : XT} {Γ : Gam} {cc : ByteArray} {own : String} {F L : Nat} (hX : OKX X Γ cc own F L) {pc q : Nat} {ls : List (Option Value)} {a0 a1 a2 a3 a4 a5 a6 a7 a8 : Option Value}  {st : List Value} {G : GG} {z : Option Value} {x : Int32} (d : decode cc pc = .ok (.istore 9, 2)) (hq : pc + 2 = q) (hno : nolong (a0 :: a1 :: a2 :: a3 :: a4 :: a5 :: a6 :: a7 :: a8 :: z :: ls) = true) (k : WP X Γ q (a0 :: a1 :: a2 :: a3 :: a4 :: a5 :: a6 :: a7 :: a8 :: some (.int x) :: ls) st G) : WP X Γ pc (a0 :: a1 :: a2 :: a3 :: a4 :: a5 :: a6 :: a7 :: a8 :: z :: ls) (.int x :: st) G := by
  obtain ⟨p, l, e, R, s, m, args, below, meth, c, Q, A, nL, cs, sl⟩ := X
  obtain ⟨hx, hb, hml, hown, hts, hK, hinj, hA, hSt, hF, hL, hcs, hsl⟩ := hX
  subst hq
  intro H locs la hP hS hl
  have hn : 9 < nL := by have := hl.1.2; simp at this; omega
  exact lv_istore hx hb d hl.has hn rfl (fun la2 h2 => k H locs la2 hP hS (LH.set hl.1.2 hno h2))

theorem r_astore9 {X : XT} {Γ : Gam} {cc : ByteArray} {own : String} {F L : Nat} (hX : OKX X Γ cc own F L) {pc q : Nat} {ls : List (Option Value)} {a0 a1 a2 a3 a4 a5 a6 a7 a8 : Option Value}  {st : List Value} {G : GG} {z : Option Value} {x : Nat} (d : decode cc pc = .ok (.astore 9, 2)) (hq : pc + 2 = q) (hno : nolong (a0 :: a1 :: a2 :: a3 :: a4 :: a5 :: a6 :: a7 :: a8 :: z :: ls) = true) (k : WP X Γ q (a0 :: a1 :: a2 :: a3 :: a4 :: a5 :: a6 :: a7 :: a8 :: some (.ref x) :: ls) st G) : WP X Γ pc (a0 :: a1 :: a2 :: a3 :: a4 :: a5 :: a6 :: a7 :: a8 :: z :: ls) (.ref x :: st) G := by
  obtain ⟨p, l, e, R, s, m, args, below, meth, c, Q, A, nL, cs, sl⟩ := X
  obtain ⟨hx, hb, hml, hown, hts, hK, hinj, hA, hSt, hF, hL, hcs, hsl⟩ := hX
  subst hq
  intro H locs la hP hS hl
  have hn : 9 < nL := by have := hl.1.2; simp at this; omega
  exact lv_astore hx hb d hl.has hn rfl (fun la2 h2 => k H locs la2 hP hS (LH.set hl.1.2 hno h2))

theorem r_iinc9 {X : XT} {Γ : Gam} {cc : ByteArray} {own : String} {F L : Nat} (hX : OKX X Γ cc own F L) {pc q : Nat} {ls : List (Option Value)} {a0 a1 a2 a3 a4 a5 a6 a7 a8 : Option Value}  {st : List Value} {G : GG} {n : Int} {x v : Int32} (d : decode cc pc = .ok (.iinc 9 n, 3)) (hq : pc + 3 = q) (hno : nolong (a0 :: a1 :: a2 :: a3 :: a4 :: a5 :: a6 :: a7 :: a8 :: some (.int x) :: ls) = true) (hv : x + Int32.ofInt n = v) (k : WP X Γ q (a0 :: a1 :: a2 :: a3 :: a4 :: a5 :: a6 :: a7 :: a8 :: some (.int v) :: ls) st G) : WP X Γ pc (a0 :: a1 :: a2 :: a3 :: a4 :: a5 :: a6 :: a7 :: a8 :: some (.int x) :: ls) st G := by
  obtain ⟨p, l, e, R, s, m, args, below, meth, c, Q, A, nL, cs, sl⟩ := X
  obtain ⟨hx, hb, hml, hown, hts, hK, hinj, hA, hSt, hF, hL, hcs, hsl⟩ := hX
  subst hq
  intro H locs la hP hS hl
  have hn : 9 < nL := by have := hl.1.2; simp at this; omega
  have hm : (9, Value.int x) ∈ lvl (a0 :: a1 :: a2 :: a3 :: a4 :: a5 :: a6 :: a7 :: a8 :: some (.int x) :: ls) := lvl_mem.mpr rfl
  obtain ⟨j, hj⟩ := List.getElem?_of_mem hm
  exact lv_iinc hx hb d hl.has hj hv hn rfl (fun la2 h2 => k H locs la2 hP hS (LH.set hl.1.2 hno h2))

theorem r_iload10 {X : XT} {Γ : Gam} {cc : ByteArray} {own : String} {F L : Nat} (hX : OKX X Γ cc own F L) {pc q : Nat} {ls : List (Option Value)} {a0 a1 a2 a3 a4 a5 a6 a7 a8 a9 : Option Value}  {st : List Value} {G : GG} {x : Int32} (d : decode cc pc = .ok (.iload 10, 2)) (hq : pc + 2 = q) (k : WP X Γ q (a0 :: a1 :: a2 :: a3 :: a4 :: a5 :: a6 :: a7 :: a8 :: a9 :: some (.int x) :: ls) (.int x :: st) G) : WP X Γ pc (a0 :: a1 :: a2 :: a3 :: a4 :: a5 :: a6 :: a7 :: a8 :: a9 :: some (.int x) :: ls) st G := by
  obtain ⟨p, l, e, R, s, m, args, below, meth, c, Q, A, nL, cs, sl⟩ := X
  obtain ⟨hx, hb, hml, hown, hts, hK, hinj, hA, hSt, hF, hL, hcs, hsl⟩ := hX
  subst hq
  intro H locs la hP hS hl
  exact lv_iload hx hb d (hl.get (i := 10) rfl) (k H locs la hP hS hl)

theorem r_aload10 {X : XT} {Γ : Gam} {cc : ByteArray} {own : String} {F L : Nat} (hX : OKX X Γ cc own F L) {pc q : Nat} {ls : List (Option Value)} {a0 a1 a2 a3 a4 a5 a6 a7 a8 a9 : Option Value}  {st : List Value} {G : GG} {x : Nat} (d : decode cc pc = .ok (.aload 10, 2)) (hq : pc + 2 = q) (k : WP X Γ q (a0 :: a1 :: a2 :: a3 :: a4 :: a5 :: a6 :: a7 :: a8 :: a9 :: some (.ref x) :: ls) (.ref x :: st) G) : WP X Γ pc (a0 :: a1 :: a2 :: a3 :: a4 :: a5 :: a6 :: a7 :: a8 :: a9 :: some (.ref x) :: ls) st G := by
  obtain ⟨p, l, e, R, s, m, args, below, meth, c, Q, A, nL, cs, sl⟩ := X
  obtain ⟨hx, hb, hml, hown, hts, hK, hinj, hA, hSt, hF, hL, hcs, hsl⟩ := hX
  subst hq
  intro H locs la hP hS hl
  exact lv_aload hx hb d (hl.get (i := 10) rfl) (k H locs la hP hS hl)

theorem r_istore10 {X : XT} {Γ : Gam} {cc : ByteArray} {own : String} {F L : Nat} (hX : OKX X Γ cc own F L) {pc q : Nat} {ls : List (Option Value)} {a0 a1 a2 a3 a4 a5 a6 a7 a8 a9 : Option Value}  {st : List Value} {G : GG} {z : Option Value} {x : Int32} (d : decode cc pc = .ok (.istore 10, 2)) (hq : pc + 2 = q) (hno : nolong (a0 :: a1 :: a2 :: a3 :: a4 :: a5 :: a6 :: a7 :: a8 :: a9 :: z :: ls) = true) (k : WP X Γ q (a0 :: a1 :: a2 :: a3 :: a4 :: a5 :: a6 :: a7 :: a8 :: a9 :: some (.int x) :: ls) st G) : WP X Γ pc (a0 :: a1 :: a2 :: a3 :: a4 :: a5 :: a6 :: a7 :: a8 :: a9 :: z :: ls) (.int x :: st) G := by
  obtain ⟨p, l, e, R, s, m, args, below, meth, c, Q, A, nL, cs, sl⟩ := X
  obtain ⟨hx, hb, hml, hown, hts, hK, hinj, hA, hSt, hF, hL, hcs, hsl⟩ := hX
  subst hq
  intro H locs la hP hS hl
  have hn : 10 < nL := by have := hl.1.2; simp at this; omega
  exact lv_istore hx hb d hl.has hn rfl (fun la2 h2 => k H locs la2 hP hS (LH.set hl.1.2 hno h2))

theorem r_astore10 {X : XT} {Γ : Gam} {cc : ByteArray} {own : String} {F L : Nat} (hX : OKX X Γ cc own F L) {pc q : Nat} {ls : List (Option Value)} {a0 a1 a2 a3 a4 a5 a6 a7 a8 a9 : Option Value}  {st : List Value} {G : GG} {z : Option Value} {x : Nat} (d : decode cc pc = .ok (.astore 10, 2)) (hq : pc + 2 = q) (hno : nolong (a0 :: a1 :: a2 :: a3 :: a4 :: a5 :: a6 :: a7 :: a8 :: a9 :: z :: ls) = true) (k : WP X Γ q (a0 :: a1 :: a2 :: a3 :: a4 :: a5 :: a6 :: a7 :: a8 :: a9 :: some (.ref x) :: ls) st G) : WP X Γ pc (a0 :: a1 :: a2 :: a3 :: a4 :: a5 :: a6 :: a7 :: a8 :: a9 :: z :: ls) (.ref x :: st) G := by
  obtain ⟨p, l, e, R, s, m, args, below, meth, c, Q, A, nL, cs, sl⟩ := X
  obtain ⟨hx, hb, hml, hown, hts, hK, hinj, hA, hSt, hF, hL, hcs, hsl⟩ := hX
  subst hq
  intro H locs la hP hS hl
  have hn : 10 < nL := by have := hl.1.2; simp at this; omega
  exact lv_astore hx hb d hl.has hn rfl (fun la2 h2 => k H locs la2 hP hS (LH.set hl.1.2 hno h2))

theorem r_iinc10 {X : XT} {Γ : Gam} {cc : ByteArray} {own : String} {F L : Nat} (hX : OKX X Γ cc own F L) {pc q : Nat} {ls : List (Option Value)} {a0 a1 a2 a3 a4 a5 a6 a7 a8 a9 : Option Value}  {st : List Value} {G : GG} {n : Int} {x v : Int32} (d : decode cc pc = .ok (.iinc 10 n, 3)) (hq : pc + 3 = q) (hno : nolong (a0 :: a1 :: a2 :: a3 :: a4 :: a5 :: a6 :: a7 :: a8 :: a9 :: some (.int x) :: ls) = true) (hv : x + Int32.ofInt n = v) (k : WP X Γ q (a0 :: a1 :: a2 :: a3 :: a4 :: a5 :: a6 :: a7 :: a8 :: a9 :: some (.int v) :: ls) st G) : WP X Γ pc (a0 :: a1 :: a2 :: a3 :: a4 :: a5 :: a6 :: a7 :: a8 :: a9 :: some (.int x) :: ls) st G := by
  obtain ⟨p, l, e, R, s, m, args, below, meth, c, Q, A, nL, cs, sl⟩ := X
  obtain ⟨hx, hb, hml, hown, hts, hK, hinj, hA, hSt, hF, hL, hcs, hsl⟩ := hX
  subst hq
  intro H locs la hP hS hl
  have hn : 10 < nL := by have := hl.1.2; simp at this; omega
  have hm : (10, Value.int x) ∈ lvl (a0 :: a1 :: a2 :: a3 :: a4 :: a5 :: a6 :: a7 :: a8 :: a9 :: some (.int x) :: ls) := lvl_mem.mpr rfl
  obtain ⟨j, hj⟩ := List.getElem?_of_mem hm
  exact lv_iinc hx hb d hl.has hj hv hn rfl (fun la2 h2 => k H locs la2 hP hS (LH.set hl.1.2 hno h2))

theorem r_icmp_eq {X : XT} {Γ : Gam} {cc : ByteArray} {own : String} {F L : Nat} (hX : OKX X Γ cc own F L) {pc q : Nat} {ls : List (Option Value)} {st : List Value} {G : GG} {a b : Int32} {off : Int} {tgt : Nat} (d : decode cc pc = .ok (.if_icmp .eq off, 3)) (hq : pc + 3 = q) (ht : (pc : Int) + off = (tgt : Int)) (kt : a = b → WP X Γ tgt ls st G) (kf : ¬ a = b → WP X Γ q ls st G) : WP X Γ pc ls (.int b :: .int a :: st) G := by
  obtain ⟨p, l, e, R, s, m, args, below, meth, c, Q, A, nL, cs, sl⟩ := X
  obtain ⟨hx, hb, hml, hown, hts, hK, hinj, hA, hSt, hF, hL, hcs, hsl⟩ := hX
  subst hq
  intro H locs la hP hS hl
  exact lv_icmp_eq hx hb d ht (fun h => kt h H locs la hP hS hl) (fun h => kf h H locs la hP hS hl)

theorem r_if_eq {X : XT} {Γ : Gam} {cc : ByteArray} {own : String} {F L : Nat} (hX : OKX X Γ cc own F L) {pc q : Nat} {ls : List (Option Value)} {st : List Value} {G : GG} {a : Int32} {off : Int} {tgt : Nat} (d : decode cc pc = .ok (.ifCond .eq off, 3)) (hq : pc + 3 = q) (ht : (pc : Int) + off = (tgt : Int)) (kt : a = 0 → WP X Γ tgt ls st G) (kf : ¬ a = 0 → WP X Γ q ls st G) : WP X Γ pc ls (.int a :: st) G := by
  obtain ⟨p, l, e, R, s, m, args, below, meth, c, Q, A, nL, cs, sl⟩ := X
  obtain ⟨hx, hb, hml, hown, hts, hK, hinj, hA, hSt, hF, hL, hcs, hsl⟩ := hX
  subst hq
  intro H locs la hP hS hl
  exact lv_if_eq hx hb d ht (fun h => kt h H locs la hP hS hl) (fun h => kf h H locs la hP hS hl)

theorem r_icmp_ne {X : XT} {Γ : Gam} {cc : ByteArray} {own : String} {F L : Nat} (hX : OKX X Γ cc own F L) {pc q : Nat} {ls : List (Option Value)} {st : List Value} {G : GG} {a b : Int32} {off : Int} {tgt : Nat} (d : decode cc pc = .ok (.if_icmp .ne off, 3)) (hq : pc + 3 = q) (ht : (pc : Int) + off = (tgt : Int)) (kt : ¬ a = b → WP X Γ tgt ls st G) (kf : a = b → WP X Γ q ls st G) : WP X Γ pc ls (.int b :: .int a :: st) G := by
  obtain ⟨p, l, e, R, s, m, args, below, meth, c, Q, A, nL, cs, sl⟩ := X
  obtain ⟨hx, hb, hml, hown, hts, hK, hinj, hA, hSt, hF, hL, hcs, hsl⟩ := hX
  subst hq
  intro H locs la hP hS hl
  exact lv_icmp_ne hx hb d ht (fun h => kt h H locs la hP hS hl) (fun h => kf h H locs la hP hS hl)

theorem r_if_ne {X : XT} {Γ : Gam} {cc : ByteArray} {own : String} {F L : Nat} (hX : OKX X Γ cc own F L) {pc q : Nat} {ls : List (Option Value)} {st : List Value} {G : GG} {a : Int32} {off : Int} {tgt : Nat} (d : decode cc pc = .ok (.ifCond .ne off, 3)) (hq : pc + 3 = q) (ht : (pc : Int) + off = (tgt : Int)) (kt : ¬ a = 0 → WP X Γ tgt ls st G) (kf : a = 0 → WP X Γ q ls st G) : WP X Γ pc ls (.int a :: st) G := by
  obtain ⟨p, l, e, R, s, m, args, below, meth, c, Q, A, nL, cs, sl⟩ := X
  obtain ⟨hx, hb, hml, hown, hts, hK, hinj, hA, hSt, hF, hL, hcs, hsl⟩ := hX
  subst hq
  intro H locs la hP hS hl
  exact lv_if_ne hx hb d ht (fun h => kt h H locs la hP hS hl) (fun h => kf h H locs la hP hS hl)

theorem r_icmp_lt {X : XT} {Γ : Gam} {cc : ByteArray} {own : String} {F L : Nat} (hX : OKX X Γ cc own F L) {pc q : Nat} {ls : List (Option Value)} {st : List Value} {G : GG} {a b : Int32} {off : Int} {tgt : Nat} (d : decode cc pc = .ok (.if_icmp .lt off, 3)) (hq : pc + 3 = q) (ht : (pc : Int) + off = (tgt : Int)) (kt : a < b → WP X Γ tgt ls st G) (kf : ¬ a < b → WP X Γ q ls st G) : WP X Γ pc ls (.int b :: .int a :: st) G := by
  obtain ⟨p, l, e, R, s, m, args, below, meth, c, Q, A, nL, cs, sl⟩ := X
  obtain ⟨hx, hb, hml, hown, hts, hK, hinj, hA, hSt, hF, hL, hcs, hsl⟩ := hX
  subst hq
  intro H locs la hP hS hl
  exact lv_icmp_lt hx hb d ht (fun h => kt h H locs la hP hS hl) (fun h => kf h H locs la hP hS hl)

theorem r_if_lt {X : XT} {Γ : Gam} {cc : ByteArray} {own : String} {F L : Nat} (hX : OKX X Γ cc own F L) {pc q : Nat} {ls : List (Option Value)} {st : List Value} {G : GG} {a : Int32} {off : Int} {tgt : Nat} (d : decode cc pc = .ok (.ifCond .lt off, 3)) (hq : pc + 3 = q) (ht : (pc : Int) + off = (tgt : Int)) (kt : a < 0 → WP X Γ tgt ls st G) (kf : ¬ a < 0 → WP X Γ q ls st G) : WP X Γ pc ls (.int a :: st) G := by
  obtain ⟨p, l, e, R, s, m, args, below, meth, c, Q, A, nL, cs, sl⟩ := X
  obtain ⟨hx, hb, hml, hown, hts, hK, hinj, hA, hSt, hF, hL, hcs, hsl⟩ := hX
  subst hq
  intro H locs la hP hS hl
  exact lv_if_lt hx hb d ht (fun h => kt h H locs la hP hS hl) (fun h => kf h H locs la hP hS hl)

theorem r_icmp_ge {X : XT} {Γ : Gam} {cc : ByteArray} {own : String} {F L : Nat} (hX : OKX X Γ cc own F L) {pc q : Nat} {ls : List (Option Value)} {st : List Value} {G : GG} {a b : Int32} {off : Int} {tgt : Nat} (d : decode cc pc = .ok (.if_icmp .ge off, 3)) (hq : pc + 3 = q) (ht : (pc : Int) + off = (tgt : Int)) (kt : b ≤ a → WP X Γ tgt ls st G) (kf : ¬ b ≤ a → WP X Γ q ls st G) : WP X Γ pc ls (.int b :: .int a :: st) G := by
  obtain ⟨p, l, e, R, s, m, args, below, meth, c, Q, A, nL, cs, sl⟩ := X
  obtain ⟨hx, hb, hml, hown, hts, hK, hinj, hA, hSt, hF, hL, hcs, hsl⟩ := hX
  subst hq
  intro H locs la hP hS hl
  exact lv_icmp_ge hx hb d ht (fun h => kt h H locs la hP hS hl) (fun h => kf h H locs la hP hS hl)

theorem r_if_ge {X : XT} {Γ : Gam} {cc : ByteArray} {own : String} {F L : Nat} (hX : OKX X Γ cc own F L) {pc q : Nat} {ls : List (Option Value)} {st : List Value} {G : GG} {a : Int32} {off : Int} {tgt : Nat} (d : decode cc pc = .ok (.ifCond .ge off, 3)) (hq : pc + 3 = q) (ht : (pc : Int) + off = (tgt : Int)) (kt : 0 ≤ a → WP X Γ tgt ls st G) (kf : ¬ 0 ≤ a → WP X Γ q ls st G) : WP X Γ pc ls (.int a :: st) G := by
  obtain ⟨p, l, e, R, s, m, args, below, meth, c, Q, A, nL, cs, sl⟩ := X
  obtain ⟨hx, hb, hml, hown, hts, hK, hinj, hA, hSt, hF, hL, hcs, hsl⟩ := hX
  subst hq
  intro H locs la hP hS hl
  exact lv_if_ge hx hb d ht (fun h => kt h H locs la hP hS hl) (fun h => kf h H locs la hP hS hl)

theorem r_icmp_gt {X : XT} {Γ : Gam} {cc : ByteArray} {own : String} {F L : Nat} (hX : OKX X Γ cc own F L) {pc q : Nat} {ls : List (Option Value)} {st : List Value} {G : GG} {a b : Int32} {off : Int} {tgt : Nat} (d : decode cc pc = .ok (.if_icmp .gt off, 3)) (hq : pc + 3 = q) (ht : (pc : Int) + off = (tgt : Int)) (kt : b < a → WP X Γ tgt ls st G) (kf : ¬ b < a → WP X Γ q ls st G) : WP X Γ pc ls (.int b :: .int a :: st) G := by
  obtain ⟨p, l, e, R, s, m, args, below, meth, c, Q, A, nL, cs, sl⟩ := X
  obtain ⟨hx, hb, hml, hown, hts, hK, hinj, hA, hSt, hF, hL, hcs, hsl⟩ := hX
  subst hq
  intro H locs la hP hS hl
  exact lv_icmp_gt hx hb d ht (fun h => kt h H locs la hP hS hl) (fun h => kf h H locs la hP hS hl)

theorem r_if_gt {X : XT} {Γ : Gam} {cc : ByteArray} {own : String} {F L : Nat} (hX : OKX X Γ cc own F L) {pc q : Nat} {ls : List (Option Value)} {st : List Value} {G : GG} {a : Int32} {off : Int} {tgt : Nat} (d : decode cc pc = .ok (.ifCond .gt off, 3)) (hq : pc + 3 = q) (ht : (pc : Int) + off = (tgt : Int)) (kt : 0 < a → WP X Γ tgt ls st G) (kf : ¬ 0 < a → WP X Γ q ls st G) : WP X Γ pc ls (.int a :: st) G := by
  obtain ⟨p, l, e, R, s, m, args, below, meth, c, Q, A, nL, cs, sl⟩ := X
  obtain ⟨hx, hb, hml, hown, hts, hK, hinj, hA, hSt, hF, hL, hcs, hsl⟩ := hX
  subst hq
  intro H locs la hP hS hl
  exact lv_if_gt hx hb d ht (fun h => kt h H locs la hP hS hl) (fun h => kf h H locs la hP hS hl)

theorem r_icmp_le {X : XT} {Γ : Gam} {cc : ByteArray} {own : String} {F L : Nat} (hX : OKX X Γ cc own F L) {pc q : Nat} {ls : List (Option Value)} {st : List Value} {G : GG} {a b : Int32} {off : Int} {tgt : Nat} (d : decode cc pc = .ok (.if_icmp .le off, 3)) (hq : pc + 3 = q) (ht : (pc : Int) + off = (tgt : Int)) (kt : a ≤ b → WP X Γ tgt ls st G) (kf : ¬ a ≤ b → WP X Γ q ls st G) : WP X Γ pc ls (.int b :: .int a :: st) G := by
  obtain ⟨p, l, e, R, s, m, args, below, meth, c, Q, A, nL, cs, sl⟩ := X
  obtain ⟨hx, hb, hml, hown, hts, hK, hinj, hA, hSt, hF, hL, hcs, hsl⟩ := hX
  subst hq
  intro H locs la hP hS hl
  exact lv_icmp_le hx hb d ht (fun h => kt h H locs la hP hS hl) (fun h => kf h H locs la hP hS hl)

theorem r_if_le {X : XT} {Γ : Gam} {cc : ByteArray} {own : String} {F L : Nat} (hX : OKX X Γ cc own F L) {pc q : Nat} {ls : List (Option Value)} {st : List Value} {G : GG} {a : Int32} {off : Int} {tgt : Nat} (d : decode cc pc = .ok (.ifCond .le off, 3)) (hq : pc + 3 = q) (ht : (pc : Int) + off = (tgt : Int)) (kt : a ≤ 0 → WP X Γ tgt ls st G) (kf : ¬ a ≤ 0 → WP X Γ q ls st G) : WP X Γ pc ls (.int a :: st) G := by
  obtain ⟨p, l, e, R, s, m, args, below, meth, c, Q, A, nL, cs, sl⟩ := X
  obtain ⟨hx, hb, hml, hown, hts, hK, hinj, hA, hSt, hF, hL, hcs, hsl⟩ := hX
  subst hq
  intro H locs la hP hS hl
  exact lv_if_le hx hb d ht (fun h => kt h H locs la hP hS hl) (fun h => kf h H locs la hP hS hl)

def bi (b : Bool) : Int32 := if b then 1 else 0
theorem bi_t : bi true = 1 := rfl
theorem bi_f : bi false = 0 := rfl
theorem bi_0 {b : Bool} (h : bi b = 0) : b = false := by cases b <;> simp_all [bi]
theorem bi_n {b : Bool} (h : ¬ bi b = 0) : b = true := by cases b <;> simp_all [bi]
theorem bi_nar (b : Bool) : narrow .boolean (.int (bi b)) = .int (bi b) := by cases b <;> rfl
theorem bi_fit (b : Bool) : fits .boolean (.int (bi b)) = true := by cases b <;> rfl

theorem r_ifb_eq {X : XT} {Γ : Gam} {cc : ByteArray} {own : String} {F L : Nat} (hX : OKX X Γ cc own F L) {pc q : Nat} {ls : List (Option Value)} {st : List Value} {G : GG} {b : Bool} {off : Int} {tgt : Nat} (d : decode cc pc = .ok (.ifCond .eq off, 3)) (hq : pc + 3 = q) (ht : (pc : Int) + off = (tgt : Int)) (kt : b = false → WP X Γ tgt ls st G) (kf : b = true → WP X Γ q ls st G) : WP X Γ pc ls (.int (bi b) :: st) G :=
  r_if_eq hX d hq ht (fun h => kt (bi_0 h)) (fun h => kf (bi_n h))

theorem r_ifb_ne {X : XT} {Γ : Gam} {cc : ByteArray} {own : String} {F L : Nat} (hX : OKX X Γ cc own F L) {pc q : Nat} {ls : List (Option Value)} {st : List Value} {G : GG} {b : Bool} {off : Int} {tgt : Nat} (d : decode cc pc = .ok (.ifCond .ne off, 3)) (hq : pc + 3 = q) (ht : (pc : Int) + off = (tgt : Int)) (kt : b = true → WP X Γ tgt ls st G) (kf : b = false → WP X Γ q ls st G) : WP X Γ pc ls (.int (bi b) :: st) G :=
  r_if_ne hX d hq ht (fun h => kt (bi_n h)) (fun h => kf (bi_0 h))

theorem r_goto {X : XT} {Γ : Gam} {cc : ByteArray} {own : String} {F L : Nat} (hX : OKX X Γ cc own F L) {pc : Nat} {ls : List (Option Value)} {st : List Value} {G : GG} {off : Int} {tgt : Nat} (d : decode cc pc = .ok (.goto off, 3)) (ht : (pc : Int) + off = (tgt : Int)) (k : WP X Γ tgt ls st G) : WP X Γ pc ls st G := by
  obtain ⟨p, l, e, R, s, m, args, below, meth, c, Q, A, nL, cs, sl⟩ := X
  obtain ⟨hx, hb, -⟩ := hX
  intro H locs la hP hS hl
  exact lv_goto hx hb d ht (k H locs la hP hS hl)
theorem r_tabIn {X : XT} {Γ : Gam} {cc : ByteArray} {own : String} {F L : Nat} (hX : OKX X Γ cc own F L) {pc : Nat} {ls : List (Option Value)} {st : List Value} {G : GG} {dflt lo hi : Int} {offs : Array Int} {len : Nat} {x : Int32} {off : Int} {tgt : Nat} (d : decode cc pc = .ok (.tableswitch dflt lo hi offs, len)) {v : Int} (hv : x.toInt = v) (h1 : ¬ v < lo) (h2 : ¬ hi < v) (ho : offs[(v - lo).toNat]? = some off) (ht : (pc : Int) + off = (tgt : Int)) (k : WP X Γ tgt ls st G) : WP X Γ pc ls (.int x :: st) G := by
  obtain ⟨p, l, e, R, s, m, args, below, meth, c, Q, A, nL, cs, sl⟩ := X
  obtain ⟨hx, hb, -⟩ := hX
  subst hv
  intro H locs la hP hS hl
  exact lv_tableIn hx hb d h1 h2 ho ht (k H locs la hP hS hl)
theorem r_tabOut {X : XT} {Γ : Gam} {cc : ByteArray} {own : String} {F L : Nat} (hX : OKX X Γ cc own F L) {pc : Nat} {ls : List (Option Value)} {st : List Value} {G : GG} {dflt lo hi : Int} {offs : Array Int} {len : Nat} {x : Int32} {tgt : Nat} (d : decode cc pc = .ok (.tableswitch dflt lo hi offs, len)) (h : x.toInt < lo ∨ hi < x.toInt) (ht : (pc : Int) + dflt = (tgt : Int)) (k : WP X Γ tgt ls st G) : WP X Γ pc ls (.int x :: st) G := by
  obtain ⟨p, l, e, R, s, m, args, below, meth, c, Q, A, nL, cs, sl⟩ := X
  obtain ⟨hx, hb, -⟩ := hX
  intro H locs la hP hS hl
  exact lv_tableOut hx hb d h ht (k H locs la hP hS hl)
theorem r_look {X : XT} {Γ : Gam} {cc : ByteArray} {own : String} {F L : Nat} (hX : OKX X Γ cc own F L) {pc : Nat} {ls : List (Option Value)} {st : List Value} {G : GG} {dflt : Int} {ps : Array (Int × Int)} {len : Nat} {x : Int32} {off : Int} {tgt : Nat} (d : decode cc pc = .ok (.lookupswitch dflt ps, len)) (hp : (ps.toList.zip (ps.toList.drop 1)).all (fun (a, next) => a.1 < next.1) = true) (ho : Op.lookupswitch.offset ps.toList dflt x.toInt = off) (ht : (pc : Int) + off = (tgt : Int)) (k : WP X Γ tgt ls st G) : WP X Γ pc ls (.int x :: st) G := by
  obtain ⟨p, l, e, R, s, m, args, below, meth, c, Q, A, nL, cs, sl⟩ := X
  obtain ⟨hx, hb, -⟩ := hX
  intro H locs la hP hS hl
  exact lv_lookup hx hb d hp ho ht (k H locs la hP hS hl)

/-- a field's link: its class's number and its place in it -/
def FL (own : String) (index ci k : Nat) : Prop := ∃ (C : String) (T : u_T) (N : Nat) (ty : Nat → FieldType), vwCl[ci]? = some (C, T, N) ∧ k < N ∧ Cond.fieldLink own index (T k).1 (T k).2.1 (T k).2.2.1 ∈ TB ∧ (∀ w ∈ u_ws C T N, w ∈ TB) ∧ (∀ k, k < N → parseFieldDescriptor (T k).2.2.1 = some (ty k)) ∧ (∀ a, a < N → ∀ b, b < N → a ≠ b → (T a).2.1 ≠ (T b).2.1)
/-- it may be written, and is an int (or a boolean) -/
def FW (ci k : Nat) (ty : FieldType) : Prop := ∃ (C : String) (T : u_T) (N : Nat), vwCl[ci]? = some (C, T, N) ∧ (T k).2.2.2 = false ∧ parseFieldDescriptor (T k).2.2.1 = some ty
theorem shp_obj {Γ : Gam} {g : Nat → Int32} {c ci n : Nat} (h : lay c = (ci, n)) (hci : ci < 7) : shp Γ g c = .inr (ci, (List.range n).map (fvl Γ g c)) := by
  unfold shp
  rw [h]
  match ci, hci with
  | 0, _ => rfl
  | 1, _ => rfl
  | 2, _ => rfl
  | 3, _ => rfl
  | 4, _ => rfl
  | 5, _ => rfl
  | 6, _ => rfl
theorem shp_arr {Γ : Gam} {g : Nat → Int32} {c n : Nat} (h : lay c = (7, n)) : shp Γ g c = .inl (gI Γ, n, .inl g) := by
  unfold shp
  rw [h]
  rfl

theorem r_getI {X : XT} {Γ : Gam} {cc : ByteArray} {own : String} {F L : Nat} (hX : OKX X Γ cc own F L) {pc q : Nat} {ls : List (Option Value)} {st : List Value} {G : GG} {index ci n c0 f0 : Nat} (d : decode cc pc = .ok (.getfield index, 3)) (hq : pc + 3 = q) (hf : FL own index ci f0) (hl0 : lay c0 = (ci, n)) (hr : ci < 7 ∧ f0 < n ∧ rfOf c0 f0 = none) (k : WP X Γ q ls (.int (G c0 f0) :: st) G) : WP X Γ pc ls (.ref (gad Γ c0) :: st) G := by
  obtain ⟨p, l, e, R, s, m, args, below, meth, cd, Q, A, nL, cs, sl⟩ := X
  obtain ⟨hx, hb, hml, hown, hts, hK, hinj, hA, hSt, hF, hL, hcs, hsl⟩ := hX
  subst hq
  intro H locs la hP hS hl
  obtain ⟨C, T, N, ty, h1, h2, h3, h4, h5, h6⟩ := hf
  have hc56 := lay_lt hl0 (by have := hr.1; show ci ≠ 9; omega)
  exact va_get hx hb hts h4 hown hK hP c0 (by rw [cw_at hc56, shp_obj hl0 hr.1]) h1 _ h2 (hts _ h3) (fun _ h9 => h9) (by rw [List.getElem?_map, List.getElem?_range hr.2.1]; simp [fvl, hr.2.2]) d (k H locs la hP hS hl)
theorem r_getR {X : XT} {Γ : Gam} {cc : ByteArray} {own : String} {F L : Nat} (hX : OKX X Γ cc own F L) {pc q : Nat} {ls : List (Option Value)} {st : List Value} {G : GG} {index ci n c0 f0 c' : Nat} (d : decode cc pc = .ok (.getfield index, 3)) (hq : pc + 3 = q) (hf : FL own index ci f0) (hl0 : lay c0 = (ci, n)) (hr : ci < 7 ∧ f0 < n ∧ rfOf c0 f0 = some c') (k : WP X Γ q ls (.ref (gad Γ c') :: st) G) : WP X Γ pc ls (.ref (gad Γ c0) :: st) G := by
  obtain ⟨p, l, e, R, s, m, args, below, meth, cd, Q, A, nL, cs, sl⟩ := X
  obtain ⟨hx, hb, hml, hown, hts, hK, hinj, hA, hSt, hF, hL, hcs, hsl⟩ := hX
  subst hq
  intro H locs la hP hS hl
  obtain ⟨C, T, N, ty, h1, h2, h3, h4, h5, h6⟩ := hf
  have hc56 := lay_lt hl0 (by have := hr.1; show ci ≠ 9; omega)
  exact va_get hx hb hts h4 hown hK hP c0 (by rw [cw_at hc56, shp_obj hl0 hr.1]) h1 _ h2 (hts _ h3) (fun _ h9 => h9) (by rw [List.getElem?_map, List.getElem?_range hr.2.1]; simp [fvl, hr.2.2]) d (k H locs la hP hS hl)
theorem fs_set {Γ : Gam} {g : Nat → Int32} {c n k : Nat} {v : Int32} (hr : rfOf c k = none) : ((List.range n).map (fvl Γ g c)).set k (.int v) = (List.range n).map (fvl Γ (upd g k v) c) := by
  apply List.ext_getElem?
  intro j
  rw [List.getElem?_set]
  by_cases hj : k = j
  · subst hj
    by_cases hk : k < n <;> simp [hk, fvl, hr, upd]
  · rw [if_neg hj]
    by_cases hk : j < n
    · simp only [List.getElem?_map, List.getElem?_range hk, Option.map_some, fvl]
      cases rfOf c j <;> simp [upd, Ne.symm hj]
    · simp [hk]
theorem r_put {X : XT} {Γ : Gam} {cc : ByteArray} {own : String} {F L : Nat} (hX : OKX X Γ cc own F L) {pc q : Nat} {ls : List (Option Value)} {st : List Value} {G : GG} {index ci n c0 f0 : Nat} {v : Int32} {tf : FieldType} (d : decode cc pc = .ok (.putfield index, 3)) (hq : pc + 3 = q) (hf : FL own index ci f0) (hw : FW ci f0 tf) (hn : narrow tf (.int v) = .int v) (hfit : fits tf (.int v) = true) (hl0 : lay c0 = (ci, n)) (hr : ci < 7 ∧ f0 < n ∧ rfOf c0 f0 = none) (kk : WP X Γ q ls st (up G c0 f0 v)) : WP X Γ pc ls (.int v :: .ref (gad Γ c0) :: st) G := by
  obtain ⟨p, l, e, R, s, m, args, below, meth, cd, Q, A, nL, cs, sl⟩ := X
  obtain ⟨hx, hb, hml, hown, hts, hK, hinj, hA, hSt, hF, hL, hcs, hsl⟩ := hX
  subst hq
  intro H locs la hP hS hl
  obtain ⟨C, T, N, ty, h1, h2, h3, h4, h5, h6⟩ := hf
  obtain ⟨C', T', N', g1, g2, g3⟩ := hw
  cases h1.symm.trans g1
  have hc56 := lay_lt hl0 (by have := hr.1; show ci ≠ 9; omega)
  have e0 := shp_obj (Γ := Γ) (g := G c0) hl0 hr.1
  refine va_put hx hb hts h4 ty h5 h6 hown hK hP (cw_D hinj hA) hS c0 (by rw [cw_at hc56, e0]) h1 _ h2 (hts _ h3) (fun _ h9 => h9) g2 g3 hn hfit (by simp [hr.2.1]) d (fun H1 locs1 p1 d1 s1 => ?_)
  rw [fs_set hr.2.2, ← shp_obj (Γ := Γ) (g := upd (G c0) f0 v) hl0 hr.1, cw_set hc56, up_upc] at p1
  exact kk H1 locs1 la p1 s1 hl
theorem r_iald {X : XT} {Γ : Gam} {cc : ByteArray} {own : String} {F L : Nat} (hX : OKX X Γ cc own F L) {pc q : Nat} {ls : List (Option Value)} {st : List Value} {G : GG} {n c0 : Nat} {i : Int32} (d : decode cc pc = .ok (.iaload, 1)) (hq : pc + 1 = q) (hl0 : lay c0 = (7, n)) (hi : vp_in i n) (k : WP X Γ q ls (.int (G c0 i.toNatClampNeg) :: st) G) : WP X Γ pc ls (.int i :: .ref (gad Γ c0) :: st) G := by
  obtain ⟨p, l, e, R, s, m, args, below, meth, cd, Q, A, nL, cs, sl⟩ := X
  obtain ⟨hx, hb, hml, hown, hts, hK, hinj, hA, hSt, hF, hL, hcs, hsl⟩ := hX
  subst hq
  intro H locs la hP hS hl
  exact va_iald hx hb hK hP c0 0 (by rw [cw_at (lay_lt hl0 (show (7 : Nat) ≠ 9 by decide)), shp_arr hl0]) rfl hi d (k H locs la hP hS hl)
theorem r_iast {X : XT} {Γ : Gam} {cc : ByteArray} {own : String} {F L : Nat} (hX : OKX X Γ cc own F L) {pc q : Nat} {ls : List (Option Value)} {st : List Value} {G : GG} {n c0 : Nat} {i v : Int32} (d : decode cc pc = .ok (.iastore, 1)) (hq : pc + 1 = q) (hl0 : lay c0 = (7, n)) (hi : vp_in i n) (k : WP X Γ q ls st (up G c0 i.toNatClampNeg v)) : WP X Γ pc ls (.int v :: .int i :: .ref (gad Γ c0) :: st) G := by
  obtain ⟨p, l, e, R, s, m, args, below, meth, cd, Q, A, nL, cs, sl⟩ := X
  obtain ⟨hx, hb, hml, hown, hts, hK, hinj, hA, hSt, hF, hL, hcs, hsl⟩ := hX
  subst hq
  intro H locs la hP hS hl
  have hc56 := lay_lt hl0 (show (7 : Nat) ≠ 9 by decide)
  refine va_iast hx hb hK hP (cw_D hinj hA) hS c0 0 (by rw [cw_at hc56, shp_arr hl0]) rfl hi d (fun H1 locs1 p1 d1 s1 => ?_)
  rw [← shp_arr (Γ := Γ) (g := upd (G c0) i.toNatClampNeg v) hl0, cw_set hc56, up_upc] at p1
  exact k H1 locs1 la p1 s1 hl
theorem r_ialdN {X : XT} {Γ : Gam} {cc : ByteArray} {own : String} {F L : Nat} (hX : OKX X Γ cc own F L) {pc q : Nat} {ls : List (Option Value)} {st : List Value} {G : GG} {n c0 j : Nat} {i : Int32} (d : decode cc pc = .ok (.iaload, 1)) (hq : pc + 1 = q) (hl0 : lay c0 = (7, n)) (hi : i = nI j) (hj : j < n) (hn : n < 2 ^ 31) (k : WP X Γ q ls (.int (G c0 j) :: st) G) : WP X Γ pc ls (.int i :: .ref (gad Γ c0) :: st) G := by
  subst hi
  refine r_iald hX d hq hl0 (vp_in_nI hj hn) ?_
  rw [nI_clamp (by omega)]
  exact k
theorem r_iastN {X : XT} {Γ : Gam} {cc : ByteArray} {own : String} {F L : Nat} (hX : OKX X Γ cc own F L) {pc q : Nat} {ls : List (Option Value)} {st : List Value} {G : GG} {n c0 j : Nat} {i v : Int32} (d : decode cc pc = .ok (.iastore, 1)) (hq : pc + 1 = q) (hl0 : lay c0 = (7, n)) (hi : i = nI j) (hj : j < n) (hn : n < 2 ^ 31) (k : WP X Γ q ls st (up G c0 j v)) : WP X Γ pc ls (.int v :: .int i :: .ref (gad Γ c0) :: st) G := by
  subst hi
  refine r_iast hX d hq hl0 (vp_in_nI hj hn) ?_
  rw [nI_clamp (by omega)]
  exact k
theorem r_aald {X : XT} {Γ : Gam} {cc : ByteArray} {own : String} {F L : Nat} (hX : OKX X Γ cc own F L) {pc q : Nat} {ls : List (Option Value)} {st : List Value} {G : GG} {j : Nat} {i : Int32} (d : decode cc pc = .ok (.aaload, 1)) (hq : pc + 1 = q) (hi : i = nI j) (hj : j < 4) (k : WP X Γ q ls (.ref (gad Γ (38 + 2 * j)) :: st) G) : WP X Γ pc ls (.int i :: .ref (gad Γ 37) :: st) G := by
  obtain ⟨p, l, e, R, s, m, args, below, meth, c, Q, A, nL, cs, sl⟩ := X
  obtain ⟨hx, hb, hml, hown, hts, hK, hinj, hA, hSt, hF, hL, hcs, hsl⟩ := hX
  subst hq
  intro H locs la hP hS hl
  subst hi
  refine va_aldq (f := fun j => some (gad Γ (38 + 2 * j))) (n := 4) (cA := gS Γ) (C := "PeaSpoons$Sheet") hx hb hK hP 37 1 (by rw [cw_at (by decide)]; rfl) rfl (vp_in_nI hj (by decide)) d ?_
  rw [nI_clamp (by omega)]
  exact k H locs la hP hS hl

theorem r_iret {X : XT} {Γ : Gam} {cc : ByteArray} {own : String} {F L : Nat} {post : Option Value → GG → Prop} (hX : OKX X Γ cc own F L) {pc : Nat} {ls : List (Option Value)} {G : GG} (hR : RX X Γ (some .int) post) {v : Int32} (d : decode cc pc = .ok (.ireturn, 1)) (hp : post (some (.int v)) G) : WP X Γ pc ls [.int v] G := by
  obtain ⟨p, l, e, R, s, m, args, below, meth, c, Q, A, nL, cs, sl⟩ := X
  obtain ⟨hx, hb, hml, hown, hts, hK, hinj, hA, hSt, hF, hL, hcs, hsl⟩ := hX
  obtain ⟨hr, hlk, rfl, rfl⟩ := hR
  intro H locs la hP hS hl
  exact W.iret hx hb hr (fun t ht hW => ⟨⟨_, G, rfl, hp, by rw [ht]; exact hP⟩, hS.F ht⟩) hS.2.2 d hlk
theorem r_zret {X : XT} {Γ : Gam} {cc : ByteArray} {own : String} {F L : Nat} {post : Option Value → GG → Prop} (hX : OKX X Γ cc own F L) {pc : Nat} {ls : List (Option Value)} {G : GG} (hR : RX X Γ (some .boolean) post) {b : Bool} (d : decode cc pc = .ok (.ireturn, 1)) (hp : post (some (.int (bi b))) G) : WP X Γ pc ls [.int (bi b)] G := by
  obtain ⟨p, l, e, R, s, m, args, below, meth, c, Q, A, nL, cs, sl⟩ := X
  obtain ⟨hx, hb, hml, hown, hts, hK, hinj, hA, hSt, hF, hL, hcs, hsl⟩ := hX
  obtain ⟨hr, hlk, rfl, rfl⟩ := hR
  intro H locs la hP hS hl
  exact W.zret hx hb hr (bi_nar b) (fun t ht hW => ⟨⟨_, G, rfl, hp, by rw [ht]; exact hP⟩, hS.F ht⟩) hS.2.2 d hlk
theorem r_vret {X : XT} {Γ : Gam} {cc : ByteArray} {own : String} {F L : Nat} {post : Option Value → GG → Prop} (hX : OKX X Γ cc own F L) {pc : Nat} {ls : List (Option Value)} {G : GG} (hR : RX X Γ none post) (d : decode cc pc = .ok (.return_, 1)) (hp : post none G) : WP X Γ pc ls [] G := by
  obtain ⟨p, l, e, R, s, m, args, below, meth, c, Q, A, nL, cs, sl⟩ := X
  obtain ⟨hx, hb, hml, hown, hts, hK, hinj, hA, hSt, hF, hL, hcs, hsl⟩ := hX
  obtain ⟨hr, hlk, rfl, rfl⟩ := hR
  intro H locs la hP hS hl
  exact W.vret hx hb hr (fun t ht hW => ⟨⟨_, G, rfl, hp, by rw [ht]; exact hP⟩, hS.F ht⟩) hS.2.2 d hlk
theorem r_aret {X : XT} {Γ : Gam} {cc : ByteArray} {own : String} {F L : Nat} {post : Option Value → GG → Prop} (hX : OKX X Γ cc own F L) {pc : Nat} {ls : List (Option Value)} {G : GG} {rt : FieldType} (hR : RX X Γ (some rt) post) (hrt : (∃ n, rt = .object n) ∨ ∃ t, rt = .array t) {a : Nat} (d : decode cc pc = .ok (.areturn, 1)) (hp : post (some (.ref a)) G) : WP X Γ pc ls [.ref a] G := by
  obtain ⟨p, l, e, R, s, m, args, below, meth, c, Q, A, nL, cs, sl⟩ := X
  obtain ⟨hx, hb, hml, hown, hts, hK, hinj, hA, hSt, hF, hL, hcs, hsl⟩ := hX
  obtain ⟨hr, hlk, rfl, rfl⟩ := hR
  intro H locs la hP hS hl
  exact W.aret hx hb hr hrt (Or.inr ⟨_, rfl⟩) (fun t ht hW => ⟨⟨_, G, rfl, hp, by rw [ht]; exact hP⟩, hS.F ht⟩) hS.2.2 d hlk

def MLw (y : MethodName) (cc : ByteArray) (maxL : Nat) (ret : Option FieldType) (n : Nat) : Prop := Cond.initialized y.cls ∈ TB ∧ Cond.code y cc maxL ret ∈ TB ∧ y.cls ≠ "java/lang/invoke/MethodHandle" ∧ y.cls ≠ "java/lang/invoke/VarHandle" ∧ (parseMethodDescriptor y.desc).map (fun d => d.parameters.length) = some n
def MLv (y : MethodName) : Prop := Cond.instanceMethod y ∈ TB ∧ Cond.selects y.cls y y ∈ TB
theorem ws_good {y : MethodName} {cc : ByteArray} {maxL : Nat} {ret : Option FieldType} (h : Cond.code y cc maxL ret ∈ TB) : GoodIn TB (Cond.code y cc maxL ret :: TB) := TB_good fun w hw => (List.mem_cons.mp hw).elim (fun q => q ▸ h) id
section GC
variable {p : Program} {l : Launch} {e : Env} {R : Room} {s : State} {m : MethodId} {args : Array Value} {below : List Frame} {meth : Method} {c : Code} {H : Heap} {locs : List Loc} {cs sl : Nat} {Q : State → Prop}
theorem g_call {pc : Nat} {la : Array Slot} {rest st0 : List Value} {a : Array Value} {A : Nat → Prop} {Γ : Gam} {post : Option Value → GG → Prop} (hr : va_Run p l e R s m args below meth c H locs cs sl 0 0 (F0 m pc la st0) rest (SpQ Γ post a) (gA Γ)) (hS : va_S A s.heap H locs) (hA : ∀ q, gA Γ q → A q)
    (kk : ∀ (r : Option Value) (G : GG) (H1 : Heap) (locs1 : List Loc), post r G → va_P (gD Γ) vwCl (cw Γ G) H1 → va_S A s.heap H1 locs1 → W p l e R s m args below meth c H1 locs1 cs sl Q (F0 m (pc + 3) la (r.toList ++ rest))) : W p l e R s m args below meth c H locs cs sl Q (F0 m pc la st0) := by
  intro T hT X
  obtain ⟨v, st₀, t, T', L, h0, X', hL, e1, e2, ⟨⟨r, G, hv, hp, hP⟩, hz, hk⟩, st⟩ := hr T hT X
  cases hv
  rw [h0] at hz hk
  obtain ⟨t2, a1, b1⟩ := kk v G T'.heap (locs ++ L) hp (by rw [e1]; exact hP)
    ⟨Nat.le_trans hS.1 (by rw [e1]; exact hz), fun q h1 h2 => by rw [e1, hk q (Nat.lt_of_lt_of_le h1 hS.1) (fun z => h2 (hA q z))]; exact hS.2.1 q h1 h2, fun q hq => by
      rcases List.mem_append.mp hq with h | h
      · exact hS.2.2 q h
      · exact hA _ (hL q h)⟩ T' rfl X'
  exact ⟨t2, st t2 a1, b1⟩
end GC
theorem gA_of {Γ : Gam} {A : Nat → Prop} (hA : ∀ c, c < 56 → A (gad Γ c)) : ∀ q, gA Γ q → A q := fun q h => by
  obtain ⟨c, h1, rfl⟩ := h
  exact hA c h1

theorem r_callV {X : XT} {Γ : Gam} {cc : ByteArray} {own : String} {F L : Nat} (hX : OKX X Γ cc own F L) {pc q : Nat} {ls : List (Option Value)} {G : GG} {y : MethodName} {bytes : ByteArray} {maxL fr lo n index : Nat} {ret : Option FieldType} {post : Option Value → GG → Prop} {As rest st : List Value} {c0 ci n0 : Nat} (d : decode cc pc = .ok (.invokevirtual index, 3)) (hq : pc + 3 = q) (hM : Sp X.2.1 y bytes maxL ret fr lo (.ref (gad Γ c0) :: As) Γ G post) (hl1 : Cond.methodLink own index y ∈ TB) (hl2 : MLw y bytes maxL ret n) (hl3 : MLv y) (hn : As.length = n) (hst : st = As.reverse ++ .ref (gad Γ c0) :: rest) (hl0 : lay c0 = (ci, n0)) (hci : ci < 7 ∧ (vwCl[ci]?).map (fun z => z.1) = some y.cls) (hroom : fr + 1 ≤ F ∧ 8 + (maxL + 11) + lo ≤ L) (hcat : (rest.map fun v => v.category).sum ≤ 8)
    (k : ∀ (r : Option Value) (G' : GG), post r G' → WP X Γ q ls (r.toList ++ rest) G') : WP X Γ pc ls st G := by
  obtain ⟨p, l, e, R, s, m, args, below, meth, c, Q, A, nL, cs, sl⟩ := X
  obtain ⟨hx, hb, hml, hown, hts, hK, hinj, hA, hSt, hF, hL, hcs, hsl⟩ := hX
  subst hq
  subst hF hL hst
  intro H locs la hP hS hl
  obtain ⟨g1, g2, g3⟩ := hl2
  have hc56 := lay_lt hl0 (by have := hci.1; show ci ≠ 9; omega)
  obtain ⟨qq, hq1, hq2⟩ : ∃ z : vw_C, vwCl[ci]? = some z ∧ z.1 = y.cls := by
    have h := hci.2
    cases hz : vwCl[ci]? with
    | none => rw [hz] at h; cases h
    | some z => rw [hz] at h; exact ⟨z, rfl, Option.some.inj h⟩
  have hrec := va_recv hK hP hq1 (q0 := c0) (by rw [cw_at hc56, shp_obj hl0 hci.1])
  rw [hq2] at hrec
  have cb := callB_of (args := args) (s := s) (R := R) (own := own) (index := index) (mc := 0) (ms := 0) (rm := rmOf fr lo) n hts (ws_good g2) rfl rfl rfl (hts _ g1) (hts _ hl1) g3 hroom
  exact g_call (va_runV ⟨hx, hb, hml, hown, hts⟩ hM ⟨cb, hts _ hl3.1, hts _ hl3.2⟩ ⟨Sp.blind, hrec, fun U hU hW => ⟨rfl, by rw [hU]; exact hP, va_K.moved hW.alike hK, hinj, (by rw [hU]; exact (hSt.to hW hS).narrow (gA_of hA))⟩⟩ rfl hn hl.1.1 rfl (lv_room hcat) d ⟨hcs, hsl⟩) hS (gA_of hA) (fun r G' H1 locs1 h1 h2 h3 => k r G' h1 H1 locs1 la h2 h3 hl)
theorem r_callS {X : XT} {Γ : Gam} {cc : ByteArray} {own : String} {F L : Nat} (hX : OKX X Γ cc own F L) {pc q : Nat} {ls : List (Option Value)} {G : GG} {y : MethodName} {bytes : ByteArray} {maxL fr lo n index : Nat} {ret : Option FieldType} {post : Option Value → GG → Prop} {As rest st : List Value} (d : decode cc pc = .ok (.invokestatic index, 3)) (hq : pc + 3 = q) (hM : Sp X.2.1 y bytes maxL ret fr lo As Γ G post) (hl1 : Cond.methodLink own index y ∈ TB) (hl2 : MLw y bytes maxL ret n) (hl3 : Cond.static y ∈ TB) (hn : As.length = n) (hst : st = As.reverse ++ rest) (hroom : fr + 1 ≤ F ∧ 8 + (maxL + 11) + lo ≤ L) (hcat : (rest.map fun v => v.category).sum ≤ 8)
    (k : ∀ (r : Option Value) (G' : GG), post r G' → WP X Γ q ls (r.toList ++ rest) G') : WP X Γ pc ls st G := by
  obtain ⟨p, l, e, R, s, m, args, below, meth, c, Q, A, nL, cs, sl⟩ := X
  obtain ⟨hx, hb, hml, hown, hts, hK, hinj, hA, hSt, hF, hL, hcs, hsl⟩ := hX
  subst hq
  subst hF hL hst
  intro H locs la hP hS hl
  obtain ⟨g1, g2, g3⟩ := hl2
  have cb := callB_of (args := args) (s := s) (R := R) (own := own) (index := index) (mc := 0) (ms := 0) (rm := rmOf fr lo) n hts (ws_good g2) rfl rfl rfl (hts _ g1) (hts _ hl1) g3 hroom
  exact g_call (va_runS ⟨hx, hb, hml, hown, hts⟩ hM ⟨cb, hts _ hl3⟩ ⟨Sp.blind, fun U hU hW => ⟨rfl, by rw [hU]; exact hP, va_K.moved hW.alike hK, hinj, (by rw [hU]; exact (hSt.to hW hS).narrow (gA_of hA))⟩⟩ rfl hn hl.1.1 rfl (lv_room hcat) d ⟨hcs, hsl⟩) hS (gA_of hA) (fun r G' H1 locs1 h1 h2 h3 => k r G' h1 H1 locs1 la h2 h3 hl)
theorem r_callN {X : XT} {Γ : Gam} {cc : ByteArray} {own : String} {F L : Nat} (hX : OKX X Γ cc own F L) {pc q : Nat} {ls : List (Option Value)} {G : GG} {y : MethodName} {bytes : ByteArray} {maxL fr lo n index : Nat} {ret : Option FieldType} {post : Option Value → GG → Prop} {As rest st : List Value} {host : String} (d : decode cc pc = .ok (.invokestatic index, 3)) (hq : pc + 3 = q) (hM : Sp X.2.1 y bytes maxL ret fr lo As Γ G post) (hl1 : (own, index, y, host) ∈ ntab) (hl2 : MLw y bytes maxL ret n) (hl3 : Cond.static y ∈ TB) (hn : As.length = n) (hst : st = As.reverse ++ rest) (hroom : fr + 1 ≤ F ∧ 8 + (maxL + 11) + lo ≤ L) (hcat : (rest.map fun v => v.category).sum ≤ 8)
    (k : ∀ (r : Option Value) (G' : GG), post r G' → WP X Γ q ls (r.toList ++ rest) G') : WP X Γ pc ls st G := by
  obtain ⟨p, l, e, R, s, m, args, below, meth, c, Q, A, nL, cs, sl⟩ := X
  obtain ⟨hx, hb, hml, hown, hts, hK, hinj, hA, hSt, hF, hL, hcs, hsl⟩ := hX
  subst hq
  subst hF hL hst
  intro H locs la hP hS hl
  obtain ⟨g1, g2, g3⟩ := hl2
  have cb := va_cnB (args := args) (s := s) (R := R) (own := own) (host := host) (index := index) (mc := 0) (ms := 0) (rm := rmOf fr lo) n hts (ws_good g2) rfl rfl rfl (hSt.2.2.2.2.2.2 _ hl1) (hts _ g1) g3 hroom
  exact g_call (va_runSN ⟨hx, hb, hml, hown, hts⟩ hM ⟨cb, hts _ hl3, trivial⟩ ⟨Sp.blind, fun U hU hW => ⟨rfl, by rw [hU]; exact hP, va_K.moved hW.alike hK, hinj, (by rw [hU]; exact (hSt.to hW hS).narrow (gA_of hA))⟩⟩ rfl hn hl.1.1 rfl (lv_room hcat) d ⟨hcs, hsl⟩) hS (gA_of hA) (fun r G' H1 locs1 h1 h2 h3 => k r G' h1 H1 locs1 la h2 h3 hl)

theorem r_mmax {X : XT} {Γ : Gam} {cc : ByteArray} {own : String} {F L : Nat} (hX : OKX X Γ cc own F L) {pc q : Nat} {ls : List (Option Value)} {st : List Value} {G : GG} {a b : Int32} {index : Nat} (d : decode cc pc = .ok (.invokestatic index, 3)) (hq : pc + 3 = q) (hl1 : Cond.methodLink own index Lib.Math.max.name ∈ TB) (hl2 : Cond.static Lib.Math.max.name ∈ TB ∧ Cond.initialized "java/lang/Math" ∈ TB ∧ Cond.code Lib.Math.max.name Lib.Math.max.code 2 (some .int) ∈ TB) (hroom : 1 ≤ F ∧ (st.map fun v => v.category).sum + 13 ≤ L) (k : WP X Γ q ls (.int (imax a b) :: st) G) : WP X Γ pc ls (.int b :: .int a :: st) G := by
  obtain ⟨p, l, e, R, s, m, args, below, meth, c, Q, A, nL, cs, sl⟩ := X
  obtain ⟨hx, hb, hml, hown, hts, hK, hinj, hA, hSt, hF, hL, hcs, hsl⟩ := hX
  subst hq
  subst hF hL
  intro H locs la hP hS hl
  exact va_mmax hx hb (by rw [hml]; exact hl.1.1.symm) hown (hts _ hl1) (hts _ hl2.1) (hts _ hl2.2.1) (hts _ hl2.2.2) hroom.1 hroom.2 hcs hsl d (k H locs la hP hS hl)

theorem r_mmin {X : XT} {Γ : Gam} {cc : ByteArray} {own : String} {F L : Nat} (hX : OKX X Γ cc own F L) {pc q : Nat} {ls : List (Option Value)} {st : List Value} {G : GG} {a b : Int32} {index : Nat} (d : decode cc pc = .ok (.invokestatic index, 3)) (hq : pc + 3 = q) (hl1 : Cond.methodLink own index Lib.Math.min.name ∈ TB) (hl2 : Cond.static Lib.Math.min.name ∈ TB ∧ Cond.initialized "java/lang/Math" ∈ TB ∧ Cond.code Lib.Math.min.name Lib.Math.min.code 2 (some .int) ∈ TB) (hroom : 1 ≤ F ∧ (st.map fun v => v.category).sum + 13 ≤ L) (k : WP X Γ q ls (.int (imin a b) :: st) G) : WP X Γ pc ls (.int b :: .int a :: st) G := by
  obtain ⟨p, l, e, R, s, m, args, below, meth, c, Q, A, nL, cs, sl⟩ := X
  obtain ⟨hx, hb, hml, hown, hts, hK, hinj, hA, hSt, hF, hL, hcs, hsl⟩ := hX
  subst hq
  subst hF hL
  intro H locs la hP hS hl
  exact va_mmin hx hb (by rw [hml]; exact hl.1.1.symm) hown (hts _ hl1) (hts _ hl2.1) (hts _ hl2.2.1) (hts _ hl2.2.2) hroom.1 hroom.2 hcs hsl d (k H locs la hP hS hl)

abbrev Post : Type := Option Value → GG → Prop
def pI (P : Int32 → GG → Prop) : Post := fun r G' => ∃ v : Int32, r = some (.int v) ∧ P v G'
def pB (P : Bool → GG → Prop) : Post := fun r G' => ∃ b : Bool, r = some (.int (bi b)) ∧ P b G'
def pV (P : GG → Prop) : Post := fun r G' => r = none ∧ P G'
def eI (G : GG) (v : Int32) : Post := fun r G' => r = some (.int v) ∧ G' = G
def eB (G : GG) (b : Bool) : Post := fun r G' => r = some (.int (bi b)) ∧ G' = G
def eR (G : GG) (a : Nat) : Post := fun r G' => r = some (.ref a) ∧ G' = G
def eV (G : GG) : Post := fun r G' => r = none ∧ G' = G
section KS
variable {X : XT} {Γ : Gam} {q : Nat} {ls : List (Option Value)} {rest : List Value} {G : GG}
theorem kpI {P : Int32 → GG → Prop} (k : ∀ (v : Int32) (G' : GG), P v G' → WP X Γ q ls (.int v :: rest) G') : ∀ r G', pI P r G' → WP X Γ q ls (r.toList ++ rest) G' := by
  rintro _ G' ⟨v, rfl, h⟩
  exact k v G' h
theorem kpB {P : Bool → GG → Prop} (k : ∀ (v : Bool) (G' : GG), P v G' → WP X Γ q ls (.int (bi v) :: rest) G') : ∀ r G', pB P r G' → WP X Γ q ls (r.toList ++ rest) G' := by
  rintro _ G' ⟨v, rfl, h⟩
  exact k v G' h
theorem kpV {P : GG → Prop} (k : ∀ (G' : GG), P G' → WP X Γ q ls rest G') : ∀ r G', pV P r G' → WP X Γ q ls (r.toList ++ rest) G' := by
  rintro _ G' ⟨rfl, h⟩
  exact k G' h
theorem keI {v : Int32} (k : WP X Γ q ls (.int v :: rest) G) : ∀ r G', eI G v r G' → WP X Γ q ls (r.toList ++ rest) G' := by
  rintro _ _ ⟨rfl, rfl⟩
  exact k
theorem keB {v : Bool} (k : WP X Γ q ls (.int (bi v) :: rest) G) : ∀ r G', eB G v r G' → WP X Γ q ls (r.toList ++ rest) G' := by
  rintro _ _ ⟨rfl, rfl⟩
  exact k
theorem keR {a : Nat} (k : WP X Γ q ls (.ref a :: rest) G) : ∀ r G', eR G a r G' → WP X Γ q ls (r.toList ++ rest) G' := by
  rintro _ _ ⟨rfl, rfl⟩
  exact k
theorem keV (k : WP X Γ q ls rest G) : ∀ r G', eV G r G' → WP X Γ q ls (r.toList ++ rest) G' := by
  rintro _ _ ⟨rfl, rfl⟩
  exact k
end KS

theorem r_iincN0 {X : XT} {Γ : Gam} {cc : ByteArray} {own : String} {F L : Nat} (hX : OKX X Γ cc own F L) {pc q : Nat} {ls : List (Option Value)}  {st : List Value} {G : GG} {j : Nat} (d : decode cc pc = .ok (.iinc 0 1, 3)) (hq : pc + 3 = q) (hno : nolong (some (.int (nI j)) :: ls) = true) (k : WP X Γ q (some (.int (nI (j + 1))) :: ls) st G) : WP X Γ pc (some (.int (nI j)) :: ls) st G :=
  r_iinc0 hX d hq hno (nI_1 j) k

theorem r_iincN1 {X : XT} {Γ : Gam} {cc : ByteArray} {own : String} {F L : Nat} (hX : OKX X Γ cc own F L) {pc q : Nat} {ls : List (Option Value)} {a0 : Option Value}  {st : List Value} {G : GG} {j : Nat} (d : decode cc pc = .ok (.iinc 1 1, 3)) (hq : pc + 3 = q) (hno : nolong (a0 :: some (.int (nI j)) :: ls) = true) (k : WP X Γ q (a0 :: some (.int (nI (j + 1))) :: ls) st G) : WP X Γ pc (a0 :: some (.int (nI j)) :: ls) st G :=
  r_iinc1 hX d hq hno (nI_1 j) k

theorem r_iincN2 {X : XT} {Γ : Gam} {cc : ByteArray} {own : String} {F L : Nat} (hX : OKX X Γ cc own F L) {pc q : Nat} {ls : List (Option Value)} {a0 a1 : Option Value}  {st : List Value} {G : GG} {j : Nat} (d : decode cc pc = .ok (.iinc 2 1, 3)) (hq : pc + 3 = q) (hno : nolong (a0 :: a1 :: some (.int (nI j)) :: ls) = true) (k : WP X Γ q (a0 :: a1 :: some (.int (nI (j + 1))) :: ls) st G) : WP X Γ pc (a0 :: a1 :: some (.int (nI j)) :: ls) st G :=
  r_iinc2 hX d hq hno (nI_1 j) k

theorem r_iincN3 {X : XT} {Γ : Gam} {cc : ByteArray} {own : String} {F L : Nat} (hX : OKX X Γ cc own F L) {pc q : Nat} {ls : List (Option Value)} {a0 a1 a2 : Option Value}  {st : List Value} {G : GG} {j : Nat} (d : decode cc pc = .ok (.iinc 3 1, 3)) (hq : pc + 3 = q) (hno : nolong (a0 :: a1 :: a2 :: some (.int (nI j)) :: ls) = true) (k : WP X Γ q (a0 :: a1 :: a2 :: some (.int (nI (j + 1))) :: ls) st G) : WP X Γ pc (a0 :: a1 :: a2 :: some (.int (nI j)) :: ls) st G :=
  r_iinc3 hX d hq hno (nI_1 j) k

theorem r_iincN4 {X : XT} {Γ : Gam} {cc : ByteArray} {own : String} {F L : Nat} (hX : OKX X Γ cc own F L) {pc q : Nat} {ls : List (Option Value)} {a0 a1 a2 a3 : Option Value}  {st : List Value} {G : GG} {j : Nat} (d : decode cc pc = .ok (.iinc 4 1, 3)) (hq : pc + 3 = q) (hno : nolong (a0 :: a1 :: a2 :: a3 :: some (.int (nI j)) :: ls) = true) (k : WP X Γ q (a0 :: a1 :: a2 :: a3 :: some (.int (nI (j + 1))) :: ls) st G) : WP X Γ pc (a0 :: a1 :: a2 :: a3 :: some (.int (nI j)) :: ls) st G :=
  r_iinc4 hX d hq hno (nI_1 j) k

theorem r_iincN5 {X : XT} {Γ : Gam} {cc : ByteArray} {own : String} {F L : Nat} (hX : OKX X Γ cc own F L) {pc q : Nat} {ls : List (Option Value)} {a0 a1 a2 a3 a4 : Option Value}  {st : List Value} {G : GG} {j : Nat} (d : decode cc pc = .ok (.iinc 5 1, 3)) (hq : pc + 3 = q) (hno : nolong (a0 :: a1 :: a2 :: a3 :: a4 :: some (.int (nI j)) :: ls) = true) (k : WP X Γ q (a0 :: a1 :: a2 :: a3 :: a4 :: some (.int (nI (j + 1))) :: ls) st G) : WP X Γ pc (a0 :: a1 :: a2 :: a3 :: a4 :: some (.int (nI j)) :: ls) st G :=
  r_iinc5 hX d hq hno (nI_1 j) k

theorem r_iincN6 {X : XT} {Γ : Gam} {cc : ByteArray} {own : String} {F L : Nat} (hX : OKX X Γ cc own F L) {pc q : Nat} {ls : List (Option Value)} {a0 a1 a2 a3 a4 a5 : Option Value}  {st : List Value} {G : GG} {j : Nat} (d : decode cc pc = .ok (.iinc 6 1, 3)) (hq : pc + 3 = q) (hno : nolong (a0 :: a1 :: a2 :: a3 :: a4 :: a5 :: some (.int (nI j)) :: ls) = true) (k : WP X Γ q (a0 :: a1 :: a2 :: a3 :: a4 :: a5 :: some (.int (nI (j + 1))) :: ls) st G) : WP X Γ pc (a0 :: a1 :: a2 :: a3 :: a4 :: a5 :: some (.int (nI j)) :: ls) st G :=
  r_iinc6 hX d hq hno (nI_1 j) k

theorem r_iincN7 {X : XT} {Γ : Gam} {cc : ByteArray} {own : String} {F L : Nat} (hX : OKX X Γ cc own F L) {pc q : Nat} {ls : List (Option Value)} {a0 a1 a2 a3 a4 a5 a6 : Option Value}  {st : List Value} {G : GG} {j : Nat} (d : decode cc pc = .ok (.iinc 7 1, 3)) (hq : pc + 3 = q) (hno : nolong (a0 :: a1 :: a2 :: a3 :: a4 :: a5 :: a6 :: some (.int (nI j)) :: ls) = true) (k : WP X Γ q (a0 :: a1 :: a2 :: a3 :: a4 :: a5 :: a6 :: some (.int (nI (j + 1))) :: ls) st G) : WP X Γ pc (a0 :: a1 :: a2 :: a3 :: a4 :: a5 :: a6 :: some (.int (nI j)) :: ls) st G :=
  r_iinc7 hX d hq hno (nI_1 j) k

theorem r_iincN8 {X : XT} {Γ : Gam} {cc : ByteArray} {own : String} {F L : Nat} (hX : OKX X Γ cc own F L) {pc q : Nat} {ls : List (Option Value)} {a0 a1 a2 a3 a4 a5 a6 a7 : Option Value}  {st : List Value} {G : GG} {j : Nat} (d : decode cc pc = .ok (.iinc 8 1, 3)) (hq : pc + 3 = q) (hno : nolong (a0 :: a1 :: a2 :: a3 :: a4 :: a5 :: a6 :: a7 :: some (.int (nI j)) :: ls) = true) (k : WP X Γ q (a0 :: a1 :: a2 :: a3 :: a4 :: a5 :: a6 :: a7 :: some (.int (nI (j + 1))) :: ls) st G) : WP X Γ pc (a0 :: a1 :: a2 :: a3 :: a4 :: a5 :: a6 :: a7 :: some (.int (nI j)) :: ls) st G :=
  r_iinc8 hX d hq hno (nI_1 j) k

theorem r_iincN9 {X : XT} {Γ : Gam} {cc : ByteArray} {own : String} {F L : Nat} (hX : OKX X Γ cc own F L) {pc q : Nat} {ls : List (Option Value)} {a0 a1 a2 a3 a4 a5 a6 a7 a8 : Option Value}  {st : List Value} {G : GG} {j : Nat} (d : decode cc pc = .ok (.iinc 9 1, 3)) (hq : pc + 3 = q) (hno : nolong (a0 :: a1 :: a2 :: a3 :: a4 :: a5 :: a6 :: a7 :: a8 :: some (.int (nI j)) :: ls) = true) (k : WP X Γ q (a0 :: a1 :: a2 :: a3 :: a4 :: a5 :: a6 :: a7 :: a8 :: some (.int (nI (j + 1))) :: ls) st G) : WP X Γ pc (a0 :: a1 :: a2 :: a3 :: a4 :: a5 :: a6 :: a7 :: a8 :: some (.int (nI j)) :: ls) st G :=
  r_iinc9 hX d hq hno (nI_1 j) k

theorem r_iincN10 {X : XT} {Γ : Gam} {cc : ByteArray} {own : String} {F L : Nat} (hX : OKX X Γ cc own F L) {pc q : Nat} {ls : List (Option Value)} {a0 a1 a2 a3 a4 a5 a6 a7 a8 a9 : Option Value}  {st : List Value} {G : GG} {j : Nat} (d : decode cc pc = .ok (.iinc 10 1, 3)) (hq : pc + 3 = q) (hno : nolong (a0 :: a1 :: a2 :: a3 :: a4 :: a5 :: a6 :: a7 :: a8 :: a9 :: some (.int (nI j)) :: ls) = true) (k : WP X Γ q (a0 :: a1 :: a2 :: a3 :: a4 :: a5 :: a6 :: a7 :: a8 :: a9 :: some (.int (nI (j + 1))) :: ls) st G) : WP X Γ pc (a0 :: a1 :: a2 :: a3 :: a4 :: a5 :: a6 :: a7 :: a8 :: a9 :: some (.int (nI j)) :: ls) st G :=
  r_iinc10 hX d hq hno (nI_1 j) k

theorem r_icmpN_eq {X : XT} {Γ : Gam} {cc : ByteArray} {own : String} {F L : Nat} (hX : OKX X Γ cc own F L) {pc q : Nat} {ls : List (Option Value)} {st : List Value} {G : GG} {a b : Nat} {off : Int} {tgt : Nat} (d : decode cc pc = .ok (.if_icmp .eq off, 3)) (hq : pc + 3 = q) (ht : (pc : Int) + off = (tgt : Int)) (ha : a < 2 ^ 31) (hb : b < 2 ^ 31) (kt : a = b → WP X Γ tgt ls st G) (kf : ¬ a = b → WP X Γ q ls st G) : WP X Γ pc ls (.int (nI b) :: .int (nI a) :: st) G :=
  r_icmp_eq hX d hq ht (fun h => kt ((nI_eq ha hb).mp h)) (fun h => kf (fun z => h ((nI_eq ha hb).mpr z)))

theorem r_icmpN_ne {X : XT} {Γ : Gam} {cc : ByteArray} {own : String} {F L : Nat} (hX : OKX X Γ cc own F L) {pc q : Nat} {ls : List (Option Value)} {st : List Value} {G : GG} {a b : Nat} {off : Int} {tgt : Nat} (d : decode cc pc = .ok (.if_icmp .ne off, 3)) (hq : pc + 3 = q) (ht : (pc : Int) + off = (tgt : Int)) (ha : a < 2 ^ 31) (hb : b < 2 ^ 31) (kt : ¬ a = b → WP X Γ tgt ls st G) (kf : a = b → WP X Γ q ls st G) : WP X Γ pc ls (.int (nI b) :: .int (nI a) :: st) G :=
  r_icmp_ne hX d hq ht (fun h => kt (fun z => h ((nI_eq ha hb).mpr z))) (fun h => kf ((nI_eq ha hb).mp h))

theorem r_icmpN_lt {X : XT} {Γ : Gam} {cc : ByteArray} {own : String} {F L : Nat} (hX : OKX X Γ cc own F L) {pc q : Nat} {ls : List (Option Value)} {st : List Value} {G : GG} {a b : Nat} {off : Int} {tgt : Nat} (d : decode cc pc = .ok (.if_icmp .lt off, 3)) (hq : pc + 3 = q) (ht : (pc : Int) + off = (tgt : Int)) (ha : a < 2 ^ 31) (hb : b < 2 ^ 31) (kt : a < b → WP X Γ tgt ls st G) (kf : b ≤ a → WP X Γ q ls st G) : WP X Γ pc ls (.int (nI b) :: .int (nI a) :: st) G :=
  r_icmp_lt hX d hq ht (fun h => kt ((nI_ltI ha hb).mp h)) (fun h => kf (Nat.not_lt.mp fun z => h ((nI_ltI ha hb).mpr z)))

theorem r_icmpN_ge {X : XT} {Γ : Gam} {cc : ByteArray} {own : String} {F L : Nat} (hX : OKX X Γ cc own F L) {pc q : Nat} {ls : List (Option Value)} {st : List Value} {G : GG} {a b : Nat} {off : Int} {tgt : Nat} (d : decode cc pc = .ok (.if_icmp .ge off, 3)) (hq : pc + 3 = q) (ht : (pc : Int) + off = (tgt : Int)) (ha : a < 2 ^ 31) (hb : b < 2 ^ 31) (kt : b ≤ a → WP X Γ tgt ls st G) (kf : a < b → WP X Γ q ls st G) : WP X Γ pc ls (.int (nI b) :: .int (nI a) :: st) G :=
  r_icmp_ge hX d hq ht (fun h => kt ((nI_leI hb ha).mp h)) (fun h => kf (Nat.not_le.mp fun z => h ((nI_leI hb ha).mpr z)))

theorem r_icmpN_gt {X : XT} {Γ : Gam} {cc : ByteArray} {own : String} {F L : Nat} (hX : OKX X Γ cc own F L) {pc q : Nat} {ls : List (Option Value)} {st : List Value} {G : GG} {a b : Nat} {off : Int} {tgt : Nat} (d : decode cc pc = .ok (.if_icmp .gt off, 3)) (hq : pc + 3 = q) (ht : (pc : Int) + off = (tgt : Int)) (ha : a < 2 ^ 31) (hb : b < 2 ^ 31) (kt : b < a → WP X Γ tgt ls st G) (kf : a ≤ b → WP X Γ q ls st G) : WP X Γ pc ls (.int (nI b) :: .int (nI a) :: st) G :=
  r_icmp_gt hX d hq ht (fun h => kt ((nI_ltI hb ha).mp h)) (fun h => kf (Nat.not_lt.mp fun z => h ((nI_ltI hb ha).mpr z)))

theorem r_icmpN_le {X : XT} {Γ : Gam} {cc : ByteArray} {own : String} {F L : Nat} (hX : OKX X Γ cc own F L) {pc q : Nat} {ls : List (Option Value)} {st : List Value} {G : GG} {a b : Nat} {off : Int} {tgt : Nat} (d : decode cc pc = .ok (.if_icmp .le off, 3)) (hq : pc + 3 = q) (ht : (pc : Int) + off = (tgt : Int)) (ha : a < 2 ^ 31) (hb : b < 2 ^ 31) (kt : a ≤ b → WP X Γ tgt ls st G) (kf : b < a → WP X Γ q ls st G) : WP X Γ pc ls (.int (nI b) :: .int (nI a) :: st) G :=
  r_icmp_le hX d hq ht (fun h => kt ((nI_leI ha hb).mp h)) (fun h => kf (Nat.not_le.mp fun z => h ((nI_leI ha hb).mpr z)))

theorem r_ifd_eq {X : XT} {Γ : Gam} {cc : ByteArray} {own : String} {F L : Nat} (hX : OKX X Γ cc own F L) {pc q : Nat} {ls : List (Option Value)} {st : List Value} {G : GG} {P : Prop} [Decidable P] {off : Int} {tgt : Nat} (d : decode cc pc = .ok (.ifCond .eq off, 3)) (hq : pc + 3 = q) (ht : (pc : Int) + off = (tgt : Int)) (kt : ¬ P → WP X Γ tgt ls st G) (kf : P → WP X Γ q ls st G) : WP X Γ pc ls (.int (bi (decide P)) :: st) G :=
  r_ifb_eq hX d hq ht (fun h => kt (of_decide_eq_false h)) (fun h => kf (of_decide_eq_true h))

theorem r_ifd_ne {X : XT} {Γ : Gam} {cc : ByteArray} {own : String} {F L : Nat} (hX : OKX X Γ cc own F L) {pc q : Nat} {ls : List (Option Value)} {st : List Value} {G : GG} {P : Prop} [Decidable P] {off : Int} {tgt : Nat} (d : decode cc pc = .ok (.ifCond .ne off, 3)) (hq : pc + 3 = q) (ht : (pc : Int) + off = (tgt : Int)) (kt : P → WP X Γ tgt ls st G) (kf : ¬ P → WP X Γ q ls st G) : WP X Γ pc ls (.int (bi (decide P)) :: st) G :=
  r_ifb_ne hX d hq ht (fun h => kt (of_decide_eq_true h)) (fun h => kf (of_decide_eq_false h))

theorem r_zret1 {X : XT} {Γ : Gam} {cc : ByteArray} {own : String} {F L : Nat} {post : Option Value → GG → Prop} (hX : OKX X Γ cc own F L) {pc : Nat} {ls : List (Option Value)} {G : GG} (hR : RX X Γ (some .boolean) post) (d : decode cc pc = .ok (.ireturn, 1)) (hp : post (some (.int (bi true))) G) : WP X Γ pc ls [.int (nI 1)] G := r_zret hX hR (b := true) d hp
theorem r_zret0 {X : XT} {Γ : Gam} {cc : ByteArray} {own : String} {F L : Nat} {post : Option Value → GG → Prop} (hX : OKX X Γ cc own F L) {pc : Nat} {ls : List (Option Value)} {G : GG} (hR : RX X Γ (some .boolean) post) (d : decode cc pc = .ok (.ireturn, 1)) (hp : post (some (.int (bi false))) G) : WP X Γ pc ls [.int (nI 0)] G := r_zret hX hR (b := false) d hp
theorem ch_lay {i j : Nat} {z : Nat × Nat} (hi : i < 3) (hj : j < 10) (h : layC[j]? = some z) : lay (ch i j) = z := by
  have key : ∀ a, a < 3 → ∀ b, b < 10 → layC[b]? = some (lay (ch a b)) := by decide +kernel
  exact Option.some.inj ((key i hi j hj).symm.trans h)
theorem sh_lay {s : Nat} (hs : s < 4) : lay (38 + 2 * s) = (2, 3) ∧ lay (38 + 2 * s + 1) = (7, 40) ∧ rfOf (38 + 2 * s) 0 = some (38 + 2 * s + 1) := by
  have key : ∀ s, s < 4 → lay (38 + 2 * s) = (2, 3) ∧ lay (38 + 2 * s + 1) = (7, 40) ∧ rfOf (38 + 2 * s) 0 = some (38 + 2 * s + 1) := by decide +kernel
  exact key s hs

theorem rC_0 {i : Nat} (hi : i < 3) : (0 : Nat) < 7 ∧ 0 < 14 ∧ rfOf (ch i 0) 0 = some (ch i 1) := by
  have key : ∀ a, a < 3 → rfOf (ch a 0) 0 = some (ch a 1) := by decide +kernel
  exact ⟨by decide, by decide, key i hi⟩

theorem rC_1 {i : Nat} (hi : i < 3) : (0 : Nat) < 7 ∧ 1 < 14 ∧ rfOf (ch i 0) 1 = some (ch i 2) := by
  have key : ∀ a, a < 3 → rfOf (ch a 0) 1 = some (ch a 2) := by decide +kernel
  exact ⟨by decide, by decide, key i hi⟩

theorem rC_2 {i : Nat} (hi : i < 3) : (0 : Nat) < 7 ∧ 2 < 14 ∧ rfOf (ch i 0) 2 = some (ch i 3) := by
  have key : ∀ a, a < 3 → rfOf (ch a 0) 2 = some (ch a 3) := by decide +kernel
  exact ⟨by decide, by decide, key i hi⟩

theorem rC_3 {i : Nat} (hi : i < 3) : (0 : Nat) < 7 ∧ 3 < 14 ∧ rfOf (ch i 0) 3 = none := by
  have key : ∀ a, a < 3 → rfOf (ch a 0) 3 = none := by decide +kernel
  exact ⟨by decide, by decide, key i hi⟩

theorem rC_4 {i : Nat} (hi : i < 3) : (0 : Nat) < 7 ∧ 4 < 14 ∧ rfOf (ch i 0) 4 = none := by
  have key : ∀ a, a < 3 → rfOf (ch a 0) 4 = none := by decide +kernel
  exact ⟨by decide, by decide, key i hi⟩

theorem rC_5 {i : Nat} (hi : i < 3) : (0 : Nat) < 7 ∧ 5 < 14 ∧ rfOf (ch i 0) 5 = none := by
  have key : ∀ a, a < 3 → rfOf (ch a 0) 5 = none := by decide +kernel
  exact ⟨by decide, by decide, key i hi⟩

theorem rC_6 {i : Nat} (hi : i < 3) : (0 : Nat) < 7 ∧ 6 < 14 ∧ rfOf (ch i 0) 6 = none := by
  have key : ∀ a, a < 3 → rfOf (ch a 0) 6 = none := by decide +kernel
  exact ⟨by decide, by decide, key i hi⟩

theorem rC_7 {i : Nat} (hi : i < 3) : (0 : Nat) < 7 ∧ 7 < 14 ∧ rfOf (ch i 0) 7 = none := by
  have key : ∀ a, a < 3 → rfOf (ch a 0) 7 = none := by decide +kernel
  exact ⟨by decide, by decide, key i hi⟩

theorem rC_8 {i : Nat} (hi : i < 3) : (0 : Nat) < 7 ∧ 8 < 14 ∧ rfOf (ch i 0) 8 = none := by
  have key : ∀ a, a < 3 → rfOf (ch a 0) 8 = none := by decide +kernel
  exact ⟨by decide, by decide, key i hi⟩

theorem rC_9 {i : Nat} (hi : i < 3) : (0 : Nat) < 7 ∧ 9 < 14 ∧ rfOf (ch i 0) 9 = some (ch i 4) := by
  have key : ∀ a, a < 3 → rfOf (ch a 0) 9 = some (ch a 4) := by decide +kernel
  exact ⟨by decide, by decide, key i hi⟩

theorem rC_10 {i : Nat} (hi : i < 3) : (0 : Nat) < 7 ∧ 10 < 14 ∧ rfOf (ch i 0) 10 = none := by
  have key : ∀ a, a < 3 → rfOf (ch a 0) 10 = none := by decide +kernel
  exact ⟨by decide, by decide, key i hi⟩

theorem rC_11 {i : Nat} (hi : i < 3) : (0 : Nat) < 7 ∧ 11 < 14 ∧ rfOf (ch i 0) 11 = some (ch i 8) := by
  have key : ∀ a, a < 3 → rfOf (ch a 0) 11 = some (ch a 8) := by decide +kernel
  exact ⟨by decide, by decide, key i hi⟩

theorem rC_12 {i : Nat} (hi : i < 3) : (0 : Nat) < 7 ∧ 12 < 14 ∧ rfOf (ch i 0) 12 = none := by
  have key : ∀ a, a < 3 → rfOf (ch a 0) 12 = none := by decide +kernel
  exact ⟨by decide, by decide, key i hi⟩

theorem rC_13 {i : Nat} (hi : i < 3) : (0 : Nat) < 7 ∧ 13 < 14 ∧ rfOf (ch i 0) 13 = some (ch i 9) := by
  have key : ∀ a, a < 3 → rfOf (ch a 0) 13 = some (ch a 9) := by decide +kernel
  exact ⟨by decide, by decide, key i hi⟩

theorem rP_0 {i : Nat} (hi : i < 3) : (1 : Nat) < 7 ∧ 0 < 4 ∧ rfOf (ch i 4) 0 = some (ch i 5) := by
  have key : ∀ a, a < 3 → rfOf (ch a 4) 0 = some (ch a 5) := by decide +kernel
  exact ⟨by decide, by decide, key i hi⟩

theorem rP_1 {i : Nat} (hi : i < 3) : (1 : Nat) < 7 ∧ 1 < 4 ∧ rfOf (ch i 4) 1 = some (ch i 6) := by
  have key : ∀ a, a < 3 → rfOf (ch a 4) 1 = some (ch a 6) := by decide +kernel
  exact ⟨by decide, by decide, key i hi⟩

theorem rP_2 {i : Nat} (hi : i < 3) : (1 : Nat) < 7 ∧ 2 < 4 ∧ rfOf (ch i 4) 2 = some (ch i 7) := by
  have key : ∀ a, a < 3 → rfOf (ch a 4) 2 = some (ch a 7) := by decide +kernel
  exact ⟨by decide, by decide, key i hi⟩

theorem rP_3 {i : Nat} (hi : i < 3) : (1 : Nat) < 7 ∧ 3 < 4 ∧ rfOf (ch i 4) 3 = none := by
  have key : ∀ a, a < 3 → rfOf (ch a 4) 3 = none := by decide +kernel
  exact ⟨by decide, by decide, key i hi⟩

theorem e_add {a b : Int32} {m n : Nat} (h1 : a = nI m) (h2 : b = nI n) : a + b = nI (m + n) := by rw [h1, h2, nI_add]
theorem e_mul {a b : Int32} {m n : Nat} (h1 : a = nI m) (h2 : b = nI n) : a * b = nI (m * n) := by rw [h1, h2, pk_mul]
theorem e_sub {a b : Int32} {m n : Nat} (h1 : a = nI m) (h2 : b = nI n) (h : n ≤ m) : a - b = nI (m - n) := by rw [h1, h2, pk_sub h]
/-- a case of a switch split off -/
theorem r_tabCase {X : XT} {Γ : Gam} {cc : ByteArray} {own : String} {F L : Nat} (hX : OKX X Γ cc own F L) {pc : Nat} {ls : List (Option Value)} {st : List Value} {G : GG} {dflt lo hi : Int} {offs : Array Int} {len : Nat} {x : Int32} {off : Int} {tgt : Nat} (d : decode cc pc = .ok (.tableswitch dflt lo hi offs, len)) (v : Nat) (h0 : ¬ (v : Int) < lo ∧ ¬ hi < (v : Int) ∧ v < 2 ^ 31 ∧ offs[((v : Int) - lo).toNat]? = some off ∧ (pc : Int) + off = (tgt : Int)) (kt : x = nI v → WP X Γ tgt ls st G) (kf : ¬ x = nI v → WP X Γ pc ls (.int x :: st) G) : WP X Γ pc ls (.int x :: st) G := by
  by_cases h : x = nI v
  · exact r_tabIn hX d (v := (v : Int)) (by rw [h]; exact nI_toInt h0.2.2.1) h0.1 h0.2.1 h0.2.2.2.1 h0.2.2.2.2 (kt h)
  · exact kf h
theorem nI_neT {x : Int32} {v : Nat} (h : ¬ x = nI v) (hv : v < 2 ^ 31) : ¬ x.toInt = (v : Int) := lv_neT h (nI_toInt hv)
theorem r_drop {X : XT} {Γ : Gam} {pc : Nat} {ls ls' : List (Option Value)} {st : List Value} {G : GG} (hlen : ls'.length = ls.length) (h : ∀ (i : Nat) (v : Value), ls'[i]? = some (some v) → ls[i]? = some (some v)) (k : WP X Γ pc ls' st G) : WP X Γ pc ls st G := by
  obtain ⟨p, l, e, R, s, m, args, below, meth, c, Q, A, nL, cs, sl⟩ := X
  intro H locs la hP hS hl
  exact k H locs la hP hS ⟨⟨hl.1.1, hlen.trans hl.1.2⟩, hl.2.1, fun i v hi => hl.2.2 i v (h i v hi)⟩
theorem drop_ok {pre post : List (Option Value)} {z : Option Value} (i : Nat) (v : Value) (h : (pre ++ none :: post)[i]? = some (some v)) : (pre ++ z :: post)[i]? = some (some v) := by
  rw [List.getElem?_append] at h ⊢
  split at h
  · next q => rw [if_pos q]; exact h
  · next q =>
    rw [if_neg q]
    cases hj : i - pre.length with
    | zero => rw [hj] at h; simp at h
    | succ j => rw [hj] at h; simpa using h

theorem r_drop0 {X : XT} {Γ : Gam} {pc : Nat} {ls : List (Option Value)} {z : Option Value} {st : List Value} {G : GG} (k : WP X Γ pc (none :: ls) st G) : WP X Γ pc (z :: ls) st G := r_drop (ls' := none :: ls) rfl (fun i v h => drop_ok (pre := []) (post := ls) (z := z) i v h) k

theorem r_drop1 {X : XT} {Γ : Gam} {pc : Nat} {ls : List (Option Value)} {a0 : Option Value} {z : Option Value} {st : List Value} {G : GG} (k : WP X Γ pc (a0 :: none :: ls) st G) : WP X Γ pc (a0 :: z :: ls) st G := r_drop (ls' := a0 :: none :: ls) rfl (fun i v h => drop_ok (pre := [a0]) (post := ls) (z := z) i v h) k

theorem r_drop2 {X : XT} {Γ : Gam} {pc : Nat} {ls : List (Option Value)} {a0 a1 : Option Value} {z : Option Value} {st : List Value} {G : GG} (k : WP X Γ pc (a0 :: a1 :: none :: ls) st G) : WP X Γ pc (a0 :: a1 :: z :: ls) st G := r_drop (ls' := a0 :: a1 :: none :: ls) rfl (fun i v h => drop_ok (pre := [a0, a1]) (post := ls) (z := z) i v h) k

theorem r_drop3 {X : XT} {Γ : Gam} {pc : Nat} {ls : List (Option Value)} {a0 a1 a2 : Option Value} {z : Option Value} {st : List Value} {G : GG} (k : WP X Γ pc (a0 :: a1 :: a2 :: none :: ls) st G) : WP X Γ pc (a0 :: a1 :: a2 :: z :: ls) st G := r_drop (ls' := a0 :: a1 :: a2 :: none :: ls) rfl (fun i v h => drop_ok (pre := [a0, a1, a2]) (post := ls) (z := z) i v h) k

theorem r_drop4 {X : XT} {Γ : Gam} {pc : Nat} {ls : List (Option Value)} {a0 a1 a2 a3 : Option Value} {z : Option Value} {st : List Value} {G : GG} (k : WP X Γ pc (a0 :: a1 :: a2 :: a3 :: none :: ls) st G) : WP X Γ pc (a0 :: a1 :: a2 :: a3 :: z :: ls) st G := r_drop (ls' := a0 :: a1 :: a2 :: a3 :: none :: ls) rfl (fun i v h => drop_ok (pre := [a0, a1, a2, a3]) (post := ls) (z := z) i v h) k

theorem r_drop5 {X : XT} {Γ : Gam} {pc : Nat} {ls : List (Option Value)} {a0 a1 a2 a3 a4 : Option Value} {z : Option Value} {st : List Value} {G : GG} (k : WP X Γ pc (a0 :: a1 :: a2 :: a3 :: a4 :: none :: ls) st G) : WP X Γ pc (a0 :: a1 :: a2 :: a3 :: a4 :: z :: ls) st G := r_drop (ls' := a0 :: a1 :: a2 :: a3 :: a4 :: none :: ls) rfl (fun i v h => drop_ok (pre := [a0, a1, a2, a3, a4]) (post := ls) (z := z) i v h) k

theorem r_drop6 {X : XT} {Γ : Gam} {pc : Nat} {ls : List (Option Value)} {a0 a1 a2 a3 a4 a5 : Option Value} {z : Option Value} {st : List Value} {G : GG} (k : WP X Γ pc (a0 :: a1 :: a2 :: a3 :: a4 :: a5 :: none :: ls) st G) : WP X Γ pc (a0 :: a1 :: a2 :: a3 :: a4 :: a5 :: z :: ls) st G := r_drop (ls' := a0 :: a1 :: a2 :: a3 :: a4 :: a5 :: none :: ls) rfl (fun i v h => drop_ok (pre := [a0, a1, a2, a3, a4, a5]) (post := ls) (z := z) i v h) k

theorem r_drop7 {X : XT} {Γ : Gam} {pc : Nat} {ls : List (Option Value)} {a0 a1 a2 a3 a4 a5 a6 : Option Value} {z : Option Value} {st : List Value} {G : GG} (k : WP X Γ pc (a0 :: a1 :: a2 :: a3 :: a4 :: a5 :: a6 :: none :: ls) st G) : WP X Γ pc (a0 :: a1 :: a2 :: a3 :: a4 :: a5 :: a6 :: z :: ls) st G := r_drop (ls' := a0 :: a1 :: a2 :: a3 :: a4 :: a5 :: a6 :: none :: ls) rfl (fun i v h => drop_ok (pre := [a0, a1, a2, a3, a4, a5, a6]) (post := ls) (z := z) i v h) k

theorem r_drop8 {X : XT} {Γ : Gam} {pc : Nat} {ls : List (Option Value)} {a0 a1 a2 a3 a4 a5 a6 a7 : Option Value} {z : Option Value} {st : List Value} {G : GG} (k : WP X Γ pc (a0 :: a1 :: a2 :: a3 :: a4 :: a5 :: a6 :: a7 :: none :: ls) st G) : WP X Γ pc (a0 :: a1 :: a2 :: a3 :: a4 :: a5 :: a6 :: a7 :: z :: ls) st G := r_drop (ls' := a0 :: a1 :: a2 :: a3 :: a4 :: a5 :: a6 :: a7 :: none :: ls) rfl (fun i v h => drop_ok (pre := [a0, a1, a2, a3, a4, a5, a6, a7]) (post := ls) (z := z) i v h) k

theorem r_drop9 {X : XT} {Γ : Gam} {pc : Nat} {ls : List (Option Value)} {a0 a1 a2 a3 a4 a5 a6 a7 a8 : Option Value} {z : Option Value} {st : List Value} {G : GG} (k : WP X Γ pc (a0 :: a1 :: a2 :: a3 :: a4 :: a5 :: a6 :: a7 :: a8 :: none :: ls) st G) : WP X Γ pc (a0 :: a1 :: a2 :: a3 :: a4 :: a5 :: a6 :: a7 :: a8 :: z :: ls) st G := r_drop (ls' := a0 :: a1 :: a2 :: a3 :: a4 :: a5 :: a6 :: a7 :: a8 :: none :: ls) rfl (fun i v h => drop_ok (pre := [a0, a1, a2, a3, a4, a5, a6, a7, a8]) (post := ls) (z := z) i v h) k

theorem r_drop10 {X : XT} {Γ : Gam} {pc : Nat} {ls : List (Option Value)} {a0 a1 a2 a3 a4 a5 a6 a7 a8 a9 : Option Value} {z : Option Value} {st : List Value} {G : GG} (k : WP X Γ pc (a0 :: a1 :: a2 :: a3 :: a4 :: a5 :: a6 :: a7 :: a8 :: a9 :: none :: ls) st G) : WP X Γ pc (a0 :: a1 :: a2 :: a3 :: a4 :: a5 :: a6 :: a7 :: a8 :: a9 :: z :: ls) st G := r_drop (ls' := a0 :: a1 :: a2 :: a3 :: a4 :: a5 :: a6 :: a7 :: a8 :: a9 :: none :: ls) rfl (fun i v h => drop_ok (pre := [a0, a1, a2, a3, a4, a5, a6, a7, a8, a9]) (post := ls) (z := z) i v h) k

theorem r_copy {X : XT} {Γ : Gam} {cc : ByteArray} {own : String} {F L : Nat} (hX : OKX X Γ cc own F L) {pc q : Nat} {ls : List (Option Value)} {st : List Value} {G : GG} {c0 c1 n0 n1 index : Nat} {sp dp n : Int32} (d : decode cc pc = .ok (.invokestatic index, 3)) (hq : pc + 3 = q) (hl1 : Cond.methodLink own index arraycopyName ∈ TB) (hl2 : Cond.native arraycopyName ∈ TB ∧ Cond.static arraycopyName ∈ TB ∧ Cond.initialized "java/lang/System" ∈ TB) (ha0 : lay c0 = (7, n0)) (ha1 : lay c1 = (7, n1)) (h1 : ¬ sp < 0) (h2 : ¬ dp < 0) (h3 : ¬ n < 0) (h4 : sp.toNatClampNeg + n.toNatClampNeg ≤ n0) (h5 : dp.toNatClampNeg + n.toNatClampNeg ≤ n1) (hroom : 1 ≤ F ∧ (st.map fun v => v.category).sum + (nativeFrameWords "java/lang/System" "arraycopy" 5 + 11) ≤ L) (k : WP X Γ q ls st (upc G c1 (va_cpy (G c0) (G c1) sp.toNatClampNeg dp.toNatClampNeg n.toNatClampNeg))) : WP X Γ pc ls (.int n :: .int dp :: .ref (gad Γ c1) :: .int sp :: .ref (gad Γ c0) :: st) G := by
  obtain ⟨p, l, e, R, s, m, args, below, meth, c, Q, A, nL, cs, sl⟩ := X
  obtain ⟨hx, hb, hml, hown, hts, hK, hinj, hA, hSt, hF, hL, hcs, hsl⟩ := hX
  subst hq
  subst hF hL
  intro H locs la hP hS hl
  have hc0 := lay_lt ha0 (show (7 : Nat) ≠ 9 by decide)
  have hc1 := lay_lt ha1 (show (7 : Nat) ≠ 9 by decide)
  refine va_copyi hx hb (by rw [hml]; exact hl.1.1.symm) hown (hts _ hl1) (hts _ hl2.1) (hts _ hl2.2.1) (hts _ hl2.2.2) hK hP (cw_D hinj hA) hS c0 c1 0 0 (by rw [cw_at hc0, shp_arr ha0]) (by rw [cw_at hc1, shp_arr ha1]) rfl rfl rfl h1 h2 h3 h4 h5 (fun _ _ => rfl) hroom.1 hroom.2 d (fun H1 locs1 p1 d1 s1 => ?_)
  rw [← shp_arr (Γ := Γ) (g := va_cpy (G c0) (G c1) sp.toNatClampNeg dp.toNatClampNeg n.toNatClampNeg) ha1, cw_set hc1] at p1
  exact k H1 locs1 la p1 s1 hl
theorem r_topi {X : XT} {Γ : Gam} {pc : Nat} {ls : List (Option Value)} {st : List Value} {G : GG} {x : Int32} (k : ∀ y : Int32, y = x → WP X Γ pc ls (.int y :: st) G) : WP X Γ pc ls (.int x :: st) G := k x rfl

theorem r_lookCase {X : XT} {Γ : Gam} {cc : ByteArray} {own : String} {F L : Nat} (hX : OKX X Γ cc own F L) {pc : Nat} {ls : List (Option Value)} {st : List Value} {G : GG} {dflt : Int} {ps : Array (Int × Int)} {len : Nat} {x : Int32} {off : Int} {tgt : Nat} (d : decode cc pc = .ok (.lookupswitch dflt ps, len)) (v : Nat) (h0 : (ps.toList.zip (ps.toList.drop 1)).all (fun (a, next) => a.1 < next.1) = true ∧ Op.lookupswitch.offset ps.toList dflt (nI v).toInt = off ∧ (pc : Int) + off = (tgt : Int)) (kt : x = nI v → WP X Γ tgt ls st G) (kf : ¬ x = nI v → WP X Γ pc ls (.int x :: st) G) : WP X Γ pc ls (.int x :: st) G := by
  by_cases h : x = nI v
  · exact r_look hX d h0.1 (by rw [h]; exact h0.2.1) h0.2.2 (kt h)
  · exact kf h
theorem row_lay {i w : Nat} (hi : i < 3) (hw : w < 3) : lay (ch i (5 + w)) = (7, 10) := by
  have key : ∀ a, a < 3 → ∀ b, b < 3 → lay (ch a (5 + b)) = (7, 10) := by decide +kernel
  exact key i hi w hw
