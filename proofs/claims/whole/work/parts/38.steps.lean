section STEPS0
variable {E : jE} {l : Launch} {own : String} {cc : ByteArray} {nL : Nat} {R : Room} {J : jJ} {pc : Nat} {lv : jL} {st : List Value} {ws : va_W} {cs ss : Nat}
theorem J_lvE (C : jC E l own cc nL R J) {lv' : jL} (h : lv = lv') (kk : J pc lv' st ws cs ss) : J pc lv st ws cs ss := by subst h; exact kk
theorem jn_decM (n : Nat) : nI n + Int32.ofInt (-1) = mI n := by
  cases n with
  | zero => rfl
  | succ n => rw [mI_s]; exact pk_m1 n
theorem jn_max {a b : Nat} (ha : a < 2 ^ 31) (hb : b < 2 ^ 31) : (if nI a < nI b then nI b else nI a) = nI (if a < b then b else a) := by
  by_cases h : a < b
  · rw [if_pos h, if_pos ((nI_ltI ha hb).mpr h)]
  · rw [if_neg h, if_neg (fun q => h ((nI_ltI ha hb).mp q))]
theorem jn_min {a b : Nat} (ha : a < 2 ^ 31) (hb : b < 2 ^ 31) : (if nI b < nI a then nI b else nI a) = nI (if b < a then b else a) := by
  by_cases h : b < a
  · rw [if_pos h, if_pos ((nI_ltI hb ha).mpr h)]
  · rw [if_neg h, if_neg (fun q => h ((nI_ltI hb ha).mp q))]
theorem kQ_congr {E : jE} {a n : Nat} {f g : Nat → Option Nat} (h : ∀ j, j < n → f j = g j) {D : va_G} {cl : List vw_C} {H : Heap} : va_at D cl (kQ E a n f) H → va_at D cl (kQ E a n g) H := by
  intro q
  have e : vp_cell (E.2 3) (n, .inr (.inr (.inr (.inr f)))) = vp_cell (E.2 3) (n, .inr (.inr (.inr (.inr g)))) := by
    rw [vp_cell_q, vp_cell_q]
    unfold arrV
    congr 1
    apply congrArg
    funext j
    simp only [h j.val j.isLt]
  exact (show H[a]? = some _ from q).trans (congrArg some e)
theorem cq_s {f g : Nat → Option Nat} {i : Nat} (hf : ∀ j, f j = if j < i then none else g j) (j : Nat) : va_up f i none j = if j < i + 1 then none else g j := by
  unfold va_up
  by_cases e : j = i
  · subst e; simp
  · rw [if_neg e, hf j]
    by_cases h2 : j < i
    · rw [if_pos h2, if_pos (by omega)]
    · rw [if_neg h2, if_neg (by omega)]
theorem wst_s {nd : Nat → Nat} {k w : Nat} (hk : 1 ≤ k) : wst nd k w = wst nd (k - 1) (if w.testBit (k - 1) then w ||| nd (k - 1) else w) := by
  obtain ⟨j, rfl⟩ : ∃ j, k = j + 1 := ⟨k - 1, by omega⟩
  rfl
/-- which steps may be moved at S -/
theorem mv_all {b w S s : Nat} (hs : s < 12) (h : bc S < b) : (w.testBit s = true ↔ w.testBit s = true ∧ bc (S ^^^ 2 ^ s) ≤ b) := by
  refine ⟨fun q => ⟨q, ?_⟩, fun q => q.1⟩
  cases hq : S.testBit s with
  | false => rw [bc_up hs hq]; omega
  | true => have := bc_down hs hq; omega
theorem mv_back {b w S s : Nat} (hs : s < 12) (h : ¬ bc S < b) (hb : bc S ≤ b) : ((w &&& S).testBit s = true ↔ w.testBit s = true ∧ bc (S ^^^ 2 ^ s) ≤ b) := by
  rw [Nat.testBit_and, Bool.and_eq_true]
  constructor
  · rintro ⟨h1, h2⟩
    have := bc_down hs h2
    exact ⟨h1, by omega⟩
  · rintro ⟨h1, h2⟩
    refine ⟨h1, ?_⟩
    cases hq : S.testBit s with
    | true => rfl
    | false => rw [bc_up hs hq] at h2; omega
theorem bI_le {m : Nat} {nd : Nat → Nat} {b w k s n : Nat} {Q lf : Nat → Nat} (h : bI m nd b w k s n Q lf) : n ≤ 2 ^ m := few (fun i hi => (h.2.1 i hi).1) h.2.2.2.1
/-- distances are no more than the sets -/
theorem bI_far {m : Nat} {nd : Nat → Nat} {b w k s n : Nat} {Q lf : Nat → Nat} (h : bI m nd b w k s n Q lf) (hf : ∀ i, i < n → lf (Q i) ≤ i + 1) : True := trivial
/-- the search for the moves, with how far it may be -/
def bF (m : Nat) (nd : Nat → Nat) (b w k s n : Nat) (Q lf : Nat → Nat) : Prop := bI m nd b w k s n Q lf ∧ (∀ i, i < n → lf (Q i) ≤ i + 1) ∧ ∀ S, S < 2 ^ m → lf S ≤ 4096
theorem bF_0 {m : Nat} {nd : Nat → Nat} {b w : Nat} {Q lf : Nat → Nat} (g : mG m nd) (hb : 1 ≤ b) (hQ : Q 0 = 2 ^ (m - 1)) (hl : ∀ S, S < 2 ^ m → lf S = if S = 2 ^ (m - 1) then 1 else 0) : bF m nd b w 0 0 1 Q lf := by
  refine ⟨bI_0 g hb hQ hl, fun i hi => ?_, fun S hS => ?_⟩
  · have hg : 2 ^ (m - 1) < 2 ^ m := Nat.pow_lt_pow_right (by omega) (by have := g.1; omega)
    rw [show i = 0 by omega, hQ, hl _ hg]; simp
  · rw [hl S hS]; split <;> omega
theorem bF_skip {m : Nat} {nd : Nat → Nat} {b w k s n : Nat} {Q lf : Nat → Nat} (h : bF m nd b w k s n Q lf) (hk : k < n) (hno : w.testBit s = true → mok m nd b (Q k) s → lf (Q k ^^^ 2 ^ s) ≠ 0) : bF m nd b w k (s + 1) n Q lf := ⟨bI_skip h.1 hk hno, h.2⟩
theorem bF_new {m : Nat} {nd : Nat → Nat} {b w k s n : Nat} {Q lf : Nat → Nat} (g : mG m nd) (h : bF m nd b w k s n Q lf) (hk : k < n) (hw : w.testBit s = true) (ho : mok m nd b (Q k) s) (hz : lf (Q k ^^^ 2 ^ s) = 0) : bF m nd b w k (s + 1) (n + 1) (upN Q n (Q k ^^^ 2 ^ s)) (upN lf (Q k ^^^ 2 ^ s) (lf (Q k) + 1)) := by
  have hI := bI_new g h.1 hk hw ho hz
  have hne : ∀ i, i < n → Q i ≠ Q k ^^^ 2 ^ s := fun i hi e => (h.1.2.1 i hi).2.2 (by rw [e]; exact hz)
  have hk1 := h.2.1 k hk
  have hle := bI_le hI
  have hp := p4096 g.2.1
  have hfar : ∀ i, i < n + 1 → upN lf (Q k ^^^ 2 ^ s) (lf (Q k) + 1) (upN Q n (Q k ^^^ 2 ^ s) i) ≤ i + 1 := by
    intro i hi
    by_cases e : i = n
    · subst e; rw [upN_s, upN_s]; omega
    · rw [upN_n (t := Q) e, upN_n (hne i (by omega))]; exact h.2.1 i (by omega)
  refine ⟨hI, hfar, fun S hS => ?_⟩
  by_cases e : S = Q k ^^^ 2 ^ s
  · rw [e, upN_s]; omega
  · rw [upN_n e]; exact h.2.2 S hS
theorem bF_next {m : Nat} {nd : Nat → Nat} {b w k n : Nat} {Q lf : Nat → Nat} (hw : w < 2 ^ m) (h : bF m nd b w k m n Q lf) (hk : k < n) : bF m nd b w (k + 1) 0 n Q lf := ⟨bI_next hw h.1 hk, h.2⟩
/-- the ends of the class's search -/
def bX (m : Nat) (nd : Nat → Nat) (b : Nat) (lf : Nat → Nat) : Prop := (∀ S, S < 2 ^ m → lf S ≤ 4096) ∧ ((lf 0 = 0 ∧ ∀ qs, ¬ mP m nd b 0 qs (2 ^ (m - 1))) ∨ ∃ k n Q, bE m nd b k n Q lf)
theorem bX_of {m : Nat} {nd : Nat → Nat} {b k n : Nat} {Q lf : Nat → Nat} (g : mG m nd) (h : bF m nd b (mW m nd) k 0 n Q lf) (he : n ≤ k ∨ lf 0 ≠ 0) : bX m nd b lf := by
  refine ⟨h.2.2, ?_⟩
  by_cases hz : lf 0 = 0
  · rcases he with q | q
    · exact Or.inl ⟨hz, bI_none g h.1 q hz⟩
    · exact absurd hz q
  · exact Or.inr ⟨k, n, Q, h.1, hz⟩
/-- the marks behind the first i of a row of moves -/
def runT (t : Nat → Nat) : Nat → Nat
  | 0 => 0
  | i + 1 => runT t i ^^^ 2 ^ t i
theorem runT_c {t u : Nat → Nat} : ∀ i, (∀ j, j < i → t j = u j) → runT t i = runT u i
  | 0, _ => rfl
  | i + 1, h => by simp only [runT]; rw [runT_c i (fun j hj => h j (by omega)), h i (by omega)]
/-- one greedy step of the row -/
def gst (m : Nat) (nd lf : Nat → Nat) (S s : Nat) : Prop := s < m ∧ nd s &&& S = nd s ∧ lf (S ^^^ 2 ^ s) + 1 = lf S ∧ ∀ t, t < s → ¬ (nd t &&& S = nd t ∧ lf (S ^^^ 2 ^ t) + 1 = lf S)
theorem gst_list {m : Nat} {nd lf t : Nat → Nat} {n : Nat} (h0 : lf 0 = n + 1) (h : ∀ i, i < n → gst m nd lf (runT t i) (t i)) : ∀ i, i ≤ n → lf (runT t i) + i = n + 1
  | 0, _ => by simpa [runT] using h0
  | i + 1, hi => by
    have ih := gst_list h0 h i (by omega)
    have := (h i (by omega)).2.2.1
    simp only [runT]
    omega
theorem gst_mGr {m : Nat} {nd lf t : Nat → Nat} {n : Nat} (h0 : lf 0 = n + 1) (h : ∀ i, i < n → gst m nd lf (runT t i) (t i)) : ∀ d i, i + d = n → mGr m nd lf (runT t i) ((List.range' i d).map t)
  | 0, i, hi => by
    have := gst_list h0 h i (by omega)
    simp only [List.range'_zero, List.map_nil, mGr]
    omega
  | d + 1, i, hi => by
    have ih := gst_mGr h0 h d (i + 1) (by omega)
    obtain ⟨a, b, c, e⟩ := h i (by omega)
    have hl := gst_list h0 h (i + 1) (by omega)
    simp only [runT] at hl ih
    rw [List.range'_succ, List.map_cons]
    exact ⟨a, b, c, by omega, e, ih⟩
/-- the row that the class fills -/
def rowL (t : Nat → Nat) (n : Nat) : List Nat := (List.range' 0 n).map t
theorem rowL_len (t : Nat → Nat) (n : Nat) : (rowL t n).length = n := by simp [rowL]
theorem rowL_gL (t : Nat → Nat) (n : Nat) : gL t (rowL t n) := by
  intro j hj
  rw [rowL_len] at hj
  simp [rowL, List.getD, hj]
theorem rowL_mSP {m : Nat} {nd : Nat → Nat} {b k n : Nat} {Q lf t : Nat → Nat} {N : Nat} (g : mG m nd) (h : bE m nd b k n Q lf) (h0 : lf 0 = N + 1) (ht : ∀ i, i < N → gst m nd lf (runT t i) (t i)) : mSP m nd b (rowL t N) := bE_found g h (gst_mGr h0 ht N 0 (by omega))
theorem gst_lt {m : Nat} {nd lf t : Nat → Nat} {n : Nat} (h : ∀ i, i < n → gst m nd lf (runT t i) (t i)) : ∀ i, i ≤ n → runT t i < 2 ^ m
  | 0, _ => Nat.two_pow_pos m
  | i + 1, hi => flip_lt (gst_lt h i (by omega)) (h i (by omega)).1
end STEPS0
