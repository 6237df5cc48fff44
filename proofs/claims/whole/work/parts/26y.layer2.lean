/-! more rows: lengths, the constant row of kinds, texts -/
section L2
variable {X : XT} {Γ : Gam} {cc : ByteArray} {own : String} {F L : Nat}
theorem r_alen (hX : OKX X Γ cc own F L) {pc q : Nat} {ls : List (Option Value)} {st : List Value} {G : GG} {n c0 : Nat} (d : decode cc pc = .ok (.arraylength, 1)) (hq : pc + 1 = q) (hl0 : lay c0 = (7, n)) (k : WP X Γ q ls (.int (nI n) :: st) G) : WP X Γ pc ls (.ref (gad Γ c0) :: st) G := by
  obtain ⟨p, l, e, R, s, m, args, below, meth, cd, Q, A, nL, cs, sl⟩ := X
  obtain ⟨hx, hb, hml, hown, hts, hK, hinj, hA, hSt, hF, hL, hcs, hsl⟩ := hX
  subst hq
  intro H locs la hP hS hl
  exact va_alen (v := nI n) hx hb hK hP c0 0 (by rw [cw_at (lay_lt hl0 (show (7 : Nat) ≠ 9 by decide)), shp_arr hl0]) rfl rfl d (k H locs la hP hS hl)
theorem r_getsKA (hX : OKX X Γ cc own F L) {pc q : Nat} {ls : List (Option Value)} {st : List Value} {G : GG} {index : Nat} (d : decode cc pc = .ok (.getstatic index, 3)) (hq : pc + 3 = q) (hf : Cond.fieldLink own index "PeaSpoons" "KIND_ABOVE" "[I" ∈ TB) (k : WP X Γ q ls (.ref (gka Γ) :: st) G) : WP X Γ pc ls st G := by
  obtain ⟨p, l, e, R, s, m, args, below, meth, cd, Q, A, nL, cs, sl⟩ := X
  obtain ⟨hx, hb, hml, hown, hts, hK, hinj, hA, hSt, hF, hL, hcs, hsl⟩ := hX
  subst hq
  intro H locs la hP hS hl
  exact va_gets hx hb hSt.1 hS hown (hts _ hf) (fun _ h => h) d (k H locs la hP hS hl)
theorem r_kald (hX : OKX X Γ cc own F L) {pc q : Nat} {ls : List (Option Value)} {st : List Value} {G : GG} {j : Nat} {i : Int32} (d : decode cc pc = .ok (.iaload, 1)) (hq : pc + 1 = q) (hi : i = nI j) (hj : j < 7) (k : WP X Γ q ls (.int (kab j) :: st) G) : WP X Γ pc ls (.int i :: .ref (gka Γ) :: st) G := by
  obtain ⟨p, l, e, R, s, m, args, below, meth, cd, Q, A, nL, cs, sl⟩ := X
  obtain ⟨hx, hb, hml, hown, hts, hK, hinj, hA, hSt, hF, hL, hcs, hsl⟩ := hX
  subst hq
  subst hi
  intro H locs la hP hS hl
  exact va_ti hx hb hSt.2.1 hS (vp_in_nI hj (by decide)) (v := .int (kab j)) (by rw [nI_clamp (by omega)]) d (k H locs la hP hS hl)
theorem r_ldcS (hX : OKX X Γ cc own F L) {pc q : Nat} {ls : List (Option Value)} {st : List Value} {G : GG} {index i : Nat} {tx : String} (d : decode cc pc = .ok (.ldc index, 2)) (hq : pc + 2 = q) (h0 : (own, index, tx, i) ∈ stab) (k : WP X Γ q ls (.ref (gK Γ i) :: st) G) : WP X Γ pc ls st G := by
  obtain ⟨p, l, e, R, s, m, args, below, meth, cd, Q, A, nL, cs, sl⟩ := X
  obtain ⟨hx, hb, hml, hown, hts, hK, hinj, hA, hSt, hF, hL, hcs, hsl⟩ := hX
  subst hq
  intro H locs la hP hS hl
  exact va_ldcS hx hb hown (hSt.2.2.2.2.2.1 _ h0) d (k H locs la hP hS hl)
theorem r_getSV (hX : OKX X Γ cc own F L) {pc q : Nat} {ls : List (Option Value)} {st : List Value} {G : GG} {index i : Nat} (d : decode cc pc = .ok (.getfield index, 3)) (hq : pc + 3 = q) (hi : i < 17) (hf : Cond.fieldLink own index "java/lang/String" "value" "[B" ∈ TB) (k : WP X Γ q ls (.ref (gV Γ i) :: st) G) : WP X Γ pc ls (.ref (gK Γ i) :: st) G := by
  obtain ⟨p, l, e, R, s, m, args, below, meth, cd, Q, A, nL, cs, sl⟩ := X
  obtain ⟨hx, hb, hml, hown, hts, hK, hinj, hA, hSt, hF, hL, hcs, hsl⟩ := hX
  subst hq
  intro H locs la hP hS hl
  exact vk_getf hx hb (hSt.2.2.2.2.1.1 i hi).2.2.1 hS hown (hts _ hf) (fun _ h => h) d (k H locs la hP hS hl)
theorem r_getSC (hX : OKX X Γ cc own F L) {pc q : Nat} {ls : List (Option Value)} {st : List Value} {G : GG} {index i : Nat} (d : decode cc pc = .ok (.getfield index, 3)) (hq : pc + 3 = q) (hi : i < 17) (hf : Cond.fieldLink own index "java/lang/String" "coder" "B" ∈ TB) (k : WP X Γ q ls (.int (nI 0) :: st) G) : WP X Γ pc ls (.ref (gK Γ i) :: st) G := by
  obtain ⟨p, l, e, R, s, m, args, below, meth, cd, Q, A, nL, cs, sl⟩ := X
  obtain ⟨hx, hb, hml, hown, hts, hK, hinj, hA, hSt, hF, hL, hcs, hsl⟩ := hX
  subst hq
  intro H locs la hP hS hl
  exact vk_getf hx hb (hSt.2.2.2.2.1.1 i hi).2.1 hS hown (hts _ hf) (fun _ h => h) d (k H locs la hP hS hl)
theorem r_getsCS (hX : OKX X Γ cc own F L) {pc q : Nat} {ls : List (Option Value)} {st : List Value} {G : GG} {index : Nat} (d : decode cc pc = .ok (.getstatic index, 3)) (hq : pc + 3 = q) (hf : Cond.fieldLink own index "java/lang/String" "COMPACT_STRINGS" "Z" ∈ TB) (k : WP X Γ q ls (.int (nI 1) :: st) G) : WP X Γ pc ls st G := by
  obtain ⟨p, l, e, R, s, m, args, below, meth, cd, Q, A, nL, cs, sl⟩ := X
  obtain ⟨hx, hb, hml, hown, hts, hK, hinj, hA, hSt, hF, hL, hcs, hsl⟩ := hX
  subst hq
  intro H locs la hP hS hl
  exact va_gets hx hb hSt.2.2.1 hS hown (hts _ hf) (fun _ h => h) d (k H locs la hP hS hl)
theorem r_getsSI (hX : OKX X Γ cc own F L) {pc q : Nat} {ls : List (Option Value)} {st : List Value} {G : GG} {index : Nat} (d : decode cc pc = .ok (.getstatic index, 3)) (hq : pc + 3 = q) (hf : Cond.fieldLink own index "jdk/internal/util/Preconditions" "SIOOBE_FORMATTER" "Ljava/util/function/BiFunction;" ∈ TB) (k : ∀ v : Value, v.category = 1 → WP X Γ q ls (v :: st) G) : WP X Γ pc ls st G := by
  obtain ⟨p, l, e, R, s, m, args, below, meth, cd, Q, A, nL, cs, sl⟩ := X
  obtain ⟨hx, hb, hml, hown, hts, hK, hinj, hA, hSt, hF, hL, hcs, hsl⟩ := hX
  subst hq
  intro H locs la hP hS hl
  rcases hSt.2.2.2.1 with hz | ⟨t, hz⟩
  · exact va_gets hx hb hz hS hown (hts _ hf) (fun _ h => h) d (k _ rfl H locs la hP hS hl)
  · exact va_gets hx hb hz hS hown (hts _ hf) (fun _ h => h) d (k _ rfl H locs la hP hS hl)
theorem r_slen (hX : OKX X Γ cc own F L) {pc q : Nat} {ls : List (Option Value)} {st : List Value} {G : GG} {i : Nat} (d : decode cc pc = .ok (.arraylength, 1)) (hq : pc + 1 = q) (hi : i < 17) (k : WP X Γ q ls (.int (nI (slen.getD i 0)) :: st) G) : WP X Γ pc ls (.ref (gV Γ i) :: st) G := by
  obtain ⟨p, l, e, R, s, m, args, below, meth, cd, Q, A, nL, cs, sl⟩ := X
  obtain ⟨hx, hb, hml, hown, hts, hK, hinj, hA, hSt, hF, hL, hcs, hsl⟩ := hX
  subst hq
  intro H locs la hP hS hl
  exact va_tlen hx hb (hSt.2.2.2.2.1.1 i hi).2.2.2 hS rfl d (k H locs la hP hS hl)
theorem r_sbald (hX : OKX X Γ cc own F L) {pc q : Nat} {ls : List (Option Value)} {st : List Value} {G : GG} {i j : Nat} {x : Int32} (d : decode cc pc = .ok (.baload, 1)) (hq : pc + 1 = q) (hi : i < 17) (hx0 : x = nI j) (hj : j < slen.getD i 0) (hj2 : j < 2 ^ 30) (k : WP X Γ q ls (.int ((sbyt.getD i []).getD j 0) :: st) G) : WP X Γ pc ls (.int x :: .ref (gV Γ i) :: st) G := by
  obtain ⟨p, l, e, R, s, m, args, below, meth, cd, Q, A, nL, cs, sl⟩ := X
  obtain ⟨hx, hb, hml, hown, hts, hK, hinj, hA, hSt, hF, hL, hcs, hsl⟩ := hX
  subst hq
  subst hx0
  intro H locs la hP hS hl
  have h17 : ∀ i, i < 17 → slen.getD i 0 < 2 ^ 31 := by decide
  exact va_tb hx hb (hSt.2.2.2.2.1.1 i hi).2.2.2 hS (vp_in_nI hj (h17 i hi)) (v := .int ((sbyt.getD i []).getD j 0)) (by rw [nI_clamp (by omega)]) d (k H locs la hP hS hl)
theorem r_nret {post : Option Value → GG → Prop} {ty : FieldType} (hX : OKX X Γ cc own F L) {pc : Nat} {ls : List (Option Value)} {G : GG} (hR : RX X Γ (some ty) post) {v : Int32} (hn : narrow ty (.int v) = .int v) (d : decode cc pc = .ok (.ireturn, 1)) (hp : post (some (.int v)) G) : WP X Γ pc ls [.int v] G := by
  obtain ⟨p, l, e, R, s, m, args, below, meth, c, Q, A, nL, cs, sl⟩ := X
  obtain ⟨hx, hb, hml, hown, hts, hK, hinj, hA, hSt, hF, hL, hcs, hsl⟩ := hX
  obtain ⟨hr, hlk, rfl, rfl⟩ := hR
  intro H locs la hP hS hl
  exact W.zret hx hb hr hn (fun t ht hW => ⟨⟨_, G, rfl, hp, by rw [ht]; exact hP⟩, hS.F ht⟩) hS.2.2 d hlk
/-- a call of a method of String on a constant -/
theorem r_callK (hX : OKX X Γ cc own F L) {pc q : Nat} {ls : List (Option Value)} {G : GG} {y : MethodName} {bytes : ByteArray} {maxL fr lo n index : Nat} {ret : Option FieldType} {post : Option Value → GG → Prop} {As rest st : List Value} {i : Nat} (d : decode cc pc = .ok (.invokevirtual index, 3)) (hq : pc + 3 = q) (hM : Sp X.2.1 y bytes maxL ret fr lo (.ref (gK Γ i) :: As) Γ G post) (hl1 : Cond.methodLink own index y ∈ TB) (hl2 : MLw y bytes maxL ret n) (hl3 : MLv y) (hn : As.length = n) (hst : st = As.reverse ++ .ref (gK Γ i) :: rest) (hi : i < 17) (hy : y.cls = "java/lang/String") (hroom : fr + 1 ≤ F ∧ 8 + (maxL + 11) + lo ≤ L) (hcat : (rest.map fun v => v.category).sum ≤ 8)
    (k : ∀ (r : Option Value) (G' : GG), post r G' → WP X Γ q ls (r.toList ++ rest) G') : WP X Γ pc ls st G := by
  obtain ⟨p, l, e, R, s, m, args, below, meth, c, Q, A, nL, cs, sl⟩ := X
  obtain ⟨hx, hb, hml, hown, hts, hK, hinj, hA, hSt, hF, hL, hcs, hsl⟩ := hX
  subst hq
  subst hF hL hst
  intro H locs la hP hS hl
  obtain ⟨g1, g2, g3⟩ := hl2
  have hrec := vk_recv hSt.2.2.2.2.1 hi hS
  rw [← hy] at hrec
  have cb := callB_of (args := args) (s := s) (R := R) (own := own) (index := index) (mc := 0) (ms := 0) (rm := rmOf fr lo) n hts (ws_good g2) rfl rfl rfl (hts _ g1) (hts _ hl1) g3 hroom
  exact g_call (va_runV ⟨hx, hb, hml, hown, hts⟩ hM ⟨cb, hts _ hl3.1, hts _ hl3.2⟩ ⟨Sp.blind, hrec, fun U hU hW => ⟨rfl, by rw [hU]; exact hP, va_K.moved hW.alike hK, hinj, (by rw [hU]; exact (hSt.to hW hS).narrow (gA_of hA))⟩⟩ rfl hn hl.1.1 rfl (lv_room hcat) d ⟨hcs, hsl⟩) hS (gA_of hA) (fun r G' H1 locs1 h1 h2 h3 => k r G' h1 H1 locs1 la h2 h3 hl)
end L2
theorem sb_char {i j : Nat} (hi : i < 17) (hj : j < slen.getD i 0) : narrow .char (.int ((sbyt.getD i []).getD j 0)) = .int ((sbyt.getD i []).getD j 0) := by
  have h17 : ∀ i, i < 17 → slen.getD i 0 < 8 := by decide
  have hl := h17 i hi
  have key : ∀ i, i < 17 → ∀ j, j < 8 → j < slen.getD i 0 → (((sbyt.getD i []).getD j 0).toUInt32 % 65536).toInt32 = (sbyt.getD i []).getD j 0 := by decide +kernel
  rw [← key i hi j (by omega) hj]
  exact pk_nc _
theorem sh_none_1 {s : Nat} (hs : s < 4) : rfOf (38 + 2 * s) 1 = none := by
  have key : ∀ s, s < 4 → rfOf (38 + 2 * s) 1 = none := by decide +kernel
  exact key s hs
theorem sh_none_2 {s : Nat} (hs : s < 4) : rfOf (38 + 2 * s) 2 = none := by
  have key : ∀ s, s < 4 → rfOf (38 + 2 * s) 2 = none := by decide +kernel
  exact key s hs
def narS (b v : Int32) : Int32 := if b = nI 8 then v.toInt8.toInt32 else if b = nI 16 then v.toInt16.toInt32 else v
