/-! tokens of a tape of n bytes T: of the token that begins behind place p its sort (0 END, 1 WORD, 2 NUMBER, 3 a byte), first place, end, value -/
def isL (x : Int32) : Bool := decide (nI 97 ≤ x ∧ x ≤ nI 122)
def isD (x : Int32) : Bool := decide (nI 48 ≤ x ∧ x ≤ nI 57)
def isBk (x : Int32) : Bool := decide (x = nI 32)
def rnF (P : Int32 → Bool) (T : MU) (n : Nat) : Nat → Nat → Nat
  | 0, p => p
  | f + 1, p => if P (T p) = true then rnF P T n f (p + 1) else p
/-- as long as P holds, from p on (n at most) -/
def run (P : Int32 → Bool) (T : MU) (n p : Nat) : Nat := rnF P T n (n - p) p
theorem run_end {P : Int32 → Bool} {T : MU} {n p : Nat} (h : n ≤ p) : run P T n p = p := by
  unfold run
  rw [show n - p = 0 by omega]
  rfl
theorem run_stop {P : Int32 → Bool} {T : MU} {n p : Nat} (h : P (T p) = false) : run P T n p = p := by
  unfold run
  cases n - p with
  | zero => rfl
  | succ f => simp only [rnF, h]; rfl
theorem run_step {P : Int32 → Bool} {T : MU} {n p : Nat} (hp : p < n) (h : P (T p) = true) : run P T n p = run P T n (p + 1) := by
  unfold run
  obtain ⟨f, hf⟩ : ∃ f, n - p = f + 1 := ⟨n - p - 1, by omega⟩
  rw [hf, show n - (p + 1) = f by omega]
  simp only [rnF, h, if_true]
theorem run_ge {P : Int32 → Bool} {T : MU} {n : Nat} : ∀ (f p : Nat), p ≤ rnF P T n f p
  | 0, p => Nat.le_refl p
  | f + 1, p => by
    unfold rnF
    split
    · have := run_ge (P := P) (T := T) (n := n) f (p + 1); omega
    · exact Nat.le_refl p
theorem run_le {P : Int32 → Bool} {T : MU} {n : Nat} : ∀ (f p : Nat), rnF P T n f p ≤ p + f
  | 0, p => Nat.le_refl p
  | f + 1, p => by
    unfold rnF
    split
    · have := run_le (P := P) (T := T) (n := n) f (p + 1); omega
    · omega
theorem run_b {P : Int32 → Bool} {T : MU} {n p : Nat} (hp : p ≤ n) : p ≤ run P T n p ∧ run P T n p ≤ n := by
  have h1 := run_ge (P := P) (T := T) (n := n) (n - p) p
  have h2 := run_le (P := P) (T := T) (n := n) (n - p) p
  exact ⟨h1, by show rnF P T n (n - p) p ≤ n; omega⟩
def frm (T : MU) (n p : Nat) : Nat := run isBk T n p
def srt (T : MU) (n p : Nat) : Nat := if n ≤ frm T n p then 0 else if isL (T (frm T n p)) = true then 1 else if isD (T (frm T n p)) = true then 2 else 3
def nxt (T : MU) (n p : Nat) : Nat := if srt T n p = 0 then frm T n p else if srt T n p = 1 then run isL T n (frm T n p) else if srt T n p = 2 then run isD T n (frm T n p) else frm T n p + 1
def dg (x : Int32) : Nat := cl x - 48
def vlF (T : MU) (q : Nat) : Nat → Nat
  | 0 => 0
  | k + 1 => min 10000 (10 * vlF T q k + dg (T (q + k)))
def val (T : MU) (n p : Nat) : Nat := vlF T (frm T n p) (nxt T n p - frm T n p)
/-- the class's kinds: a ; is 3, another byte 4, the end 5 -/
def knd (T : MU) (n p : Nat) : Nat := if srt T n p = 0 then 5 else if srt T n p = 3 then (if T (frm T n p) = nI 59 then 3 else 4) else srt T n p
def pk (T : MU) (n : Nat) : Nat → Nat
  | 0 => 0
  | k + 1 => nxt T n (pk T n k)
theorem frm_b {T : MU} {n p : Nat} (hp : p ≤ n) : p ≤ frm T n p ∧ frm T n p ≤ n := run_b hp
theorem isD_L {x : Int32} (h : isD x = true) : isL x = false := by
  have h1 := of_decide_eq_true h
  refine decide_eq_false (fun q => ?_)
  exact absurd (Int32.le_trans q.1 h1.2) (by decide +kernel)
theorem nxt_b {T : MU} {n p : Nat} (hp : p ≤ n) : frm T n p ≤ nxt T n p ∧ nxt T n p ≤ n := by
  have h := frm_b (T := T) hp
  unfold nxt
  split
  · exact ⟨Nat.le_refl _, h.2⟩
  · next h0 =>
    have hlt : frm T n p < n := by
      rcases Nat.lt_or_ge (frm T n p) n with q | q
      · exact q
      · exact absurd (by unfold srt; rw [if_pos q]) h0
    split
    · exact run_b h.2
    · split
      · exact run_b h.2
      · exact ⟨by omega, by omega⟩
theorem pk_b {T : MU} {n : Nat} : ∀ k, pk T n k ≤ n
  | 0 => Nat.zero_le n
  | k + 1 => (nxt_b (pk_b k)).2
theorem srt_lt {T : MU} {n p : Nat} (h : ¬ srt T n p = 0) : frm T n p < n := by
  rcases Nat.lt_or_ge (frm T n p) n with q | q
  · exact q
  · exact absurd (by unfold srt; rw [if_pos q]) h
theorem frm_self {T : MU} {n p : Nat} (h : isBk (T p) = false) : frm T n p = p := run_stop h
theorem frm_n {T : MU} {n : Nat} : frm T n n = n := run_end (Nat.le_refl n)
theorem frm_step {T : MU} {n p : Nat} (hp : p < n) (h : isBk (T p) = true) : frm T n p = frm T n (p + 1) := run_step hp h
theorem L_B {x : Int32} (h : isL x = true) : isBk x = false := by
  have h1 := of_decide_eq_true h
  exact decide_eq_false (fun q => absurd (q ▸ h1.1) (by decide +kernel))
theorem D_B {x : Int32} (h : isD x = true) : isBk x = false := by
  have h1 := of_decide_eq_true h
  exact decide_eq_false (fun q => absurd (q ▸ h1.1) (by decide +kernel))
theorem frm_nb {T : MU} {n : Nat} : ∀ (f p : Nat), n - p = f → p ≤ n → frm T n p < n → isBk (T (frm T n p)) = false
  | 0, p, h, h1, h2 => by
    have : p = n := by omega
    subst this
    rw [frm_n] at h2
    exact absurd h2 (Nat.lt_irrefl _)
  | f + 1, p, h, h1, h2 => by
    cases hb : isBk (T p) with
    | false => rw [frm_self hb]; exact hb
    | true =>
      rw [frm_step (by omega) hb] at h2 ⊢
      exact frm_nb f (p + 1) (by omega) (by omega) h2
theorem run_gt {P : Int32 → Bool} {T : MU} {n p : Nat} (hp : p < n) (h : P (T p) = true) : p < run P T n p := by
  rw [run_step hp h]
  have := (run_b (P := P) (T := T) (show p + 1 ≤ n by omega)).1
  omega
theorem nxt_gt {T : MU} {n p : Nat} (hp : p ≤ n) (h : ¬ srt T n p = 0) : frm T n p < nxt T n p := by
  have hlt := srt_lt h
  unfold nxt
  rw [if_neg h]
  split
  · next q =>
    refine run_gt hlt ?_
    unfold srt at q
    rw [if_neg (by omega)] at q
    by_cases z : isL (T (frm T n p)) = true
    · exact z
    · rw [if_neg z] at q
      split at q <;> omega
  · next q1 =>
    split
    · next q =>
      refine run_gt hlt ?_
      unfold srt at q
      rw [if_neg (by omega)] at q
      by_cases z : isL (T (frm T n p)) = true
      · rw [if_pos z] at q; omega
      · rw [if_neg z] at q
        by_cases z2 : isD (T (frm T n p)) = true
        · exact z2
        · rw [if_neg z2] at q; omega
    · omega
theorem srt_1 {T : MU} {n p : Nat} (h : srt T n p = 1) : isL (T (frm T n p)) = true := by
  have hlt := srt_lt (by rw [h]; decide)
  unfold srt at h
  rw [if_neg (by omega)] at h
  by_cases z : isL (T (frm T n p)) = true
  · exact z
  · rw [if_neg z] at h
    split at h <;> omega
theorem srt_2 {T : MU} {n p : Nat} (h : srt T n p = 2) : isD (T (frm T n p)) = true := by
  have hlt := srt_lt (by rw [h]; decide)
  unfold srt at h
  rw [if_neg (by omega)] at h
  by_cases z : isL (T (frm T n p)) = true
  · rw [if_pos z] at h; omega
  · rw [if_neg z] at h
    by_cases z2 : isD (T (frm T n p)) = true
    · exact z2
    · rw [if_neg z2] at h; omega
/-- kind of a byte -/
def kb (x : Int32) : Nat := if isL x = true then 1 else if isD x = true then 2 else if x = nI 59 then 3 else if x = nI 32 then 0 else 4
def beG (G : GG) (t : Nat) (k s : Int32) : GG := up (up (up (up (up G 33 t k) 34 t s) 35 t (nI 0)) 36 t (nI 0)) 31 6 (nI (t + 1))
def leG (G : GG) (t i : Nat) : GG := if G 33 t = nI 2 then up (up G 35 t (G 35 t + nI 1)) 36 t (imin (nI 10000) (G 36 t * nI 10 + G 32 i - nI 48)) else up G 35 t (G 35 t + nI 1)
/-- the tape's tokens are cut: those of T, the last one (number c) the end -/
def TKR (G : GG) (T : MU) (n c : Nat) : Prop := (n ≤ 120 ∧ c ≤ 120 ∧ ∀ j, j < n → G 32 j = T j) ∧ (srt T n (pk T n c) = 0 ∧ ∀ k, k < c → ¬ srt T n (pk T n k) = 0) ∧
  ∀ k, k ≤ c → G 33 k = nI (knd T n (pk T n k)) ∧ G 34 k = nI (frm T n (pk T n k)) ∧ G 35 k = nI (nxt T n (pk T n k) - frm T n (pk T n k)) ∧ G 36 k = nI (if srt T n (pk T n k) = 2 then val T n (pk T n k) else 0)
theorem TKR.k121 {G : GG} {T : MU} {n c k : Nat} (h : TKR G T n c) (hk : k ≤ c) : k < 121 := by have := h.1.2.1; omega
theorem knd_n5 {T : MU} {n p : Nat} (h : ¬ srt T n p = 0) : ¬ knd T n p = 5 := by
  unfold knd
  rw [if_neg h]
  split
  · split <;> decide
  · have : srt T n p ≤ 3 := by unfold srt; split <;> first | omega | (split <;> first | omega | (split <;> omega))
    omega
def sgB (T : MU) (n p : Nat) : Bool := decide (srt T n p = 3 ∧ T (frm T n p) = nI 59)
theorem srt_le {T : MU} {n p : Nat} : srt T n p ≤ 3 := by unfold srt; split <;> first | omega | (split <;> first | omega | (split <;> omega))
theorem knd_3 {T : MU} {n p : Nat} (h : knd T n p = 3) : ¬ srt T n p = 0 ∧ sgB T n p = true := by
  unfold knd at h
  by_cases h0 : srt T n p = 0
  · rw [if_pos h0] at h; omega
  · rw [if_neg h0] at h
    by_cases h3 : srt T n p = 3
    · rw [if_pos h3] at h
      by_cases h4 : T (frm T n p) = nI 59
      · exact ⟨h0, decide_eq_true ⟨h3, h4⟩⟩
      · rw [if_neg h4] at h; omega
    · rw [if_neg h3] at h; exact absurd h h3
theorem knd_n3 {T : MU} {n p : Nat} (h : ¬ knd T n p = 3) : sgB T n p = false := by
  refine decide_eq_false (fun q => h ?_)
  unfold knd
  rw [if_neg (by omega), if_pos q.1, if_pos q.2]
theorem knd_2 {T : MU} {n p : Nat} (h : knd T n p = 2) : srt T n p = 2 := by
  unfold knd at h
  by_cases h0 : srt T n p = 0
  · rw [if_pos h0] at h; omega
  · rw [if_neg h0] at h
    by_cases h3 : srt T n p = 3
    · rw [if_pos h3] at h
      split at h <;> omega
    · rw [if_neg h3] at h; exact h
theorem knd_2i {T : MU} {n p : Nat} (h : srt T n p = 2) : knd T n p = 2 := by
  unfold knd
  rw [if_neg (by omega), if_neg (by omega)]
  exact h
def numF (T : MU) (n p lo hi : Nat) : Option Nat := if srt T n p = 2 ∧ lo ≤ val T n p ∧ val T n p ≤ hi then some (val T n p) else none
theorem numF_n {T : MU} {n p lo hi : Nat} (h : ¬ srt T n p = 2) : numF T n p lo hi = none := if_neg (fun q => h q.1)
theorem numF_n2 {T : MU} {n p lo hi : Nat} (h : ¬ (lo ≤ val T n p ∧ val T n p ≤ hi)) : numF T n p lo hi = none := if_neg (fun q => h q.2)
theorem numF_s {T : MU} {n p lo hi : Nat} (h : srt T n p = 2) (h1 : lo ≤ val T n p) (h2 : val T n p ≤ hi) : numF T n p lo hi = some (val T n p) := if_pos ⟨h, h1, h2⟩
theorem vl_le {T : MU} {q : Nat} : ∀ k, vlF T q k ≤ 10000
  | 0 => Nat.zero_le _
  | k + 1 => Nat.min_le_left _ _
theorem val_le {T : MU} {n p : Nat} : val T n p ≤ 10000 := vl_le _
theorem knd_le {T : MU} {n p : Nat} : knd T n p ≤ 5 := by
  unfold knd
  split
  · omega
  · split
    · split <;> omega
    · have := srt_le (T := T) (n := n) (p := p); omega
theorem knd_5 {T : MU} {n p : Nat} (h : knd T n p = 5) : srt T n p = 0 := by
  rcases Nat.eq_zero_or_pos (srt T n p) with q | q
  · exact q
  · exact absurd h (knd_n5 (by omega))
theorem knd_5i {T : MU} {n p : Nat} (h : srt T n p = 0) : knd T n p = 5 := by
  unfold knd
  rw [if_pos h]
theorem TKR.at {G : GG} {T : MU} {n c : Nat} (h : TKR G T n c) (v : Int32) : TKR (up G 31 7 v) T n c := by
  obtain ⟨⟨h1, h2, h3⟩, h4, h5⟩ := h
  refine ⟨⟨h1, h2, fun j hj => (up_ne (by omega)).trans (h3 j hj)⟩, h4, fun k hk => ?_⟩
  obtain ⟨a1, a2, a3, a4⟩ := h5 k hk
  exact ⟨(up_ne (by omega)).trans a1, (up_ne (by omega)).trans a2, (up_ne (by omega)).trans a3, (up_ne (by omega)).trans a4⟩
theorem TKR.lt {G : GG} {T : MU} {n c k : Nat} (h : TKR G T n c) (hk : k ≤ c) (hs : ¬ srt T n (pk T n k) = 0) : k + 1 ≤ c := by
  rcases Nat.lt_or_ge k c with q | q
  · exact q
  · have : k = c := by omega
    subst this
    exact absurd h.2.1.1 hs
theorem TKR.fr {G G' : GG} {T : MU} {n c : Nat} (h : TKR G T n c) (hF : ∀ x, 32 ≤ x → x < 37 → G' x = G x) : TKR G' T n c := by
  obtain ⟨⟨h1, h2, h3⟩, h4, h5⟩ := h
  refine ⟨⟨h1, h2, fun j hj => by rw [hF 32 (by decide) (by decide)]; exact h3 j hj⟩, h4, fun k hk => ?_⟩
  rw [hF 33 (by decide) (by decide), hF 34 (by decide) (by decide), hF 35 (by decide) (by decide), hF 36 (by decide) (by decide)]
  exact h5 k hk
/-- the token behind p is the word i -/
def wdB (T : MU) (n p i : Nat) : Bool := decide (srt T n p = 1 ∧ nxt T n p - frm T n p = slen.getD i 0 ∧ ∀ u, u < slen.getD i 0 → T (frm T n p + u) = (sbyt.getD i []).getD u 0)
theorem knd_1 {T : MU} {n p : Nat} (h : knd T n p = 1) : srt T n p = 1 := by
  unfold knd at h
  by_cases h0 : srt T n p = 0
  · rw [if_pos h0] at h; omega
  · rw [if_neg h0] at h
    by_cases h3 : srt T n p = 3
    · rw [if_pos h3] at h
      split at h <;> omega
    · rw [if_neg h3] at h; exact h
theorem knd_1i {T : MU} {n p : Nat} (h : srt T n p = 1) : knd T n p = 1 := by
  unfold knd
  rw [if_neg (by omega), if_neg (by omega)]
  exact h
theorem wd_uniq {T : MU} {n p i j : Nat} (hi : i < 17) (hj : j < 17) (h1 : wdB T n p i = true) (h2 : wdB T n p j = true) : i = j := by
  have a := of_decide_eq_true h1
  have b := of_decide_eq_true h2
  have key : ∀ i, i < 17 → ∀ j, j < 17 → slen.getD i 0 = slen.getD j 0 → (∀ u, u < slen.getD i 0 → (sbyt.getD i []).getD u 0 = (sbyt.getD j []).getD u 0) → i = j := by decide +kernel
  have e : slen.getD i 0 = slen.getD j 0 := a.2.1.symm.trans b.2.1
  exact key i hi j hj e (fun u hu => (a.2.2 u hu).symm.trans (b.2.2 u (by omega)))
