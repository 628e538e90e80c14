section GATES
/-! gates row by row: numbers alone -/
def chg (x a c : Nat) : Nat := if x &&& c = c then x ^^^ 2 ^ a else x
def gAp (n : Nat) (t : Nat → Nat) (a c : Nat) : Nat → Nat := fun v => if v < 2 ^ n then chg (t v) a c else t v
abbrev gS : Type := (Nat → Nat) × List Nat
def gU (n : Nat) (s : gS) (a c : Nat) : gS := (gAp n s.1 a c, s.2 ++ [16 * a + c])
def g1 (n v : Nat) : Nat → gS → gS
  | 0, s => s
  | a + 1, s => if v.testBit a = true ∧ ((g1 n v a s).1 v).testBit a = false then gU n (g1 n v a s) a ((g1 n v a s).1 v) else g1 n v a s
def g2 (n v : Nat) : Nat → gS → gS
  | 0, s => s
  | a + 1, s => if ((g2 n v a s).1 v).testBit a = true ∧ v.testBit a = false then gU n (g2 n v a s) a v else g2 n v a s
def gRow (n v : Nat) (s : gS) : gS := g2 n v n (g1 n v n s)
def gRows (n : Nat) : Nat → gS → gS
  | 0, s => s
  | v + 1, s => gRow n v (gRows n v s)
def gOk (n : Nat) (t : Nat → Nat) : Prop := ∀ v, v < 2 ^ n → t v < 2 ^ n
theorem chg_lt {n x a c : Nat} (hx : x < 2 ^ n) (ha : a < n) : chg x a c < 2 ^ n := by
  unfold chg
  split
  · exact Nat.xor_lt_two_pow hx (Nat.pow_lt_pow_right (by omega) ha)
  · exact hx
theorem gAp_ok {n a c : Nat} {t : Nat → Nat} (h : gOk n t) (ha : a < n) : gOk n (gAp n t a c) := by
  intro v hv
  unfold gAp
  rw [if_pos hv]
  exact chg_lt (h v hv) ha
theorem gU_ok {n a c : Nat} {s : gS} (h : gOk n s.1) (ha : a < n) : gOk n (gU n s a c).1 := gAp_ok h ha
theorem g1_ok {n v : Nat} {s : gS} (h : gOk n s.1) : ∀ a, a ≤ n → gOk n (g1 n v a s).1
  | 0, _ => h
  | a + 1, ha => by
    have ih := g1_ok (v := v) h a (by omega)
    simp only [g1]
    split
    · exact gU_ok ih (by omega)
    · exact ih
theorem g2_ok {n v : Nat} {s : gS} (h : gOk n s.1) : ∀ a, a ≤ n → gOk n (g2 n v a s).1
  | 0, _ => h
  | a + 1, ha => by
    have ih := g2_ok (v := v) h a (by omega)
    simp only [g2]
    split
    · exact gU_ok ih (by omega)
    · exact ih
theorem gRow_ok {n v : Nat} {s : gS} (h : gOk n s.1) : gOk n (gRow n v s).1 := g2_ok (g1_ok h n (Nat.le_refl n)) n (Nat.le_refl n)
theorem gRows_ok {n : Nat} {s : gS} (h : gOk n s.1) : ∀ v, gOk n (gRows n v s).1
  | 0 => h
  | v + 1 => gRow_ok (gRows_ok h v)
theorem g1_len {n v : Nat} {s : gS} : ∀ a, (g1 n v a s).2.length ≤ s.2.length + bcn a v
  | 0 => by simp [g1, bcn]
  | a + 1 => by
    have ih := g1_len (n := n) (v := v) (s := s) a
    simp only [g1, bcn]
    split
    · rename_i h
      rw [if_pos h.1]
      simp only [gU, List.length_append, List.length_cons, List.length_nil]
      omega
    · omega
theorem g2_len {n v : Nat} {s : gS} : ∀ a, (g2 n v a s).2.length + bcn a v ≤ s.2.length + a
  | 0 => by simp [g2, bcn]
  | a + 1 => by
    have ih := g2_len (n := n) (v := v) (s := s) a
    simp only [g2, bcn]
    by_cases hv : v.testBit a = true
    · rw [if_pos hv, if_neg (by simp [hv])]
      omega
    · rw [if_neg hv]
      split
      · simp only [gU, List.length_append, List.length_cons, List.length_nil]
        omega
      · omega
theorem gRow_len {n v : Nat} {s : gS} : (gRow n v s).2.length ≤ s.2.length + n := by
  have h1 := g1_len (n := n) (v := v) (s := s) n
  have h2 := g2_len (n := n) (v := v) (s := g1 n v n s) n
  unfold gRow
  omega
theorem gRows_len {n : Nat} {s : gS} : ∀ v, (gRows n v s).2.length ≤ s.2.length + n * v
  | 0 => by simp [gRows]
  | v + 1 => by
    have ih := gRows_len (n := n) (s := s) v
    have h := gRow_len (n := n) (v := v) (s := gRows n v s)
    simp only [gRows, Nat.mul_add, Nat.mul_one]
    omega
/-- the row F holds the list out -/
def gL (F : Nat → Nat) (out : List Nat) : Prop := ∀ j, j < out.length → F j = out.getD j 0
theorem gL_nil (F : Nat → Nat) : gL F [] := fun j h => by simp at h
theorem gL_push {F : Nat → Nat} {out : List Nat} {x : Nat} (h : gL F out) : gL (upN F out.length x) (out ++ [x]) := by
  intro j hj
  rw [List.length_append, List.length_cons, List.length_nil] at hj
  by_cases e : j = out.length
  · subst e
    rw [upN_s]
    simp [List.getD]
  · rw [upN_n e, h j (by omega)]
    have : j < out.length := by omega
    simp [List.getD, List.getElem?_append_left this]
theorem gate_num : ∀ a, a < 4 → ∀ c, c < 16 → (a * 16 ||| c) = 16 * a + c ∧ (16 * a + c) / 16 = a ∧ (16 * a + c) &&& 15 = c ∧ (16 * a + c) % 16 = c := by decide +kernel
theorem bit_not : ∀ v, v < 16 → ∀ r, r < 16 → ∀ a, a < 4 → (nI v &&& (nI r ^^^ -1)) &&& nI (2 ^ a) = nI (if v.testBit a = true ∧ r.testBit a = false then 2 ^ a else 0) := by decide +kernel
theorem p16 {n : Nat} (h : n ≤ 4) : 2 ^ n ≤ 16 := Nat.pow_le_pow_right (by omega) h
theorem p1 (n : Nat) : 1 ≤ 2 ^ n := Nat.two_pow_pos n
end GATES
section GATES2
theorem tb_and1 (c a : Nat) : c / 2 ^ a &&& 1 = if c.testBit a then 1 else 0 := by
  rw [Nat.and_one_is_mod, Nat.testBit_eq_decide_div_mod_eq]
  have := Nat.mod_lt (c / 2 ^ a) (show 0 < 2 by omega)
  by_cases h : c / 2 ^ a % 2 = 1
  · simp [h]
  · simp [h]; omega
theorem ch_t {f t : Nat → Nat} {a c i : Nat} (hf : ∀ j, f j = if j < i then chg (t j) a c else t j) (h : t i &&& c = c) (j : Nat) : upN f i (t i ^^^ 2 ^ a) j = if j < i + 1 then chg (t j) a c else t j := by
  unfold upN
  by_cases e : j = i
  · subst e
    simp [chg, h]
  · rw [if_neg e, hf j]
    by_cases h2 : j < i
    · rw [if_pos h2, if_pos (by omega)]
    · rw [if_neg h2, if_neg (by omega)]
theorem ch_f {f t : Nat → Nat} {a c i : Nat} (hf : ∀ j, f j = if j < i then chg (t j) a c else t j) (h : t i &&& c ≠ c) (j : Nat) : f j = if j < i + 1 then chg (t j) a c else t j := by
  rw [hf j]
  by_cases e : j = i
  · subst e
    simp [chg, h]
  · by_cases h2 : j < i
    · rw [if_pos h2, if_pos (by omega)]
    · rw [if_neg h2, if_neg (by omega)]
/-- which values are there -/
def sn (t : Nat → Nat) : Nat → Nat
  | 0 => 0
  | i + 1 => sn t i ||| 2 ^ t i
theorem sn_lt {t : Nat → Nat} : ∀ i, (∀ j, j < i → t j < 16) → sn t i < 2 ^ 16
  | 0, _ => by simp [sn]
  | i + 1, h => Nat.or_lt_two_pow (sn_lt i (fun j hj => h j (by omega))) (Nat.pow_lt_pow_right (by omega) (h i (by omega)))
theorem p65 {n : Nat} (h : n ≤ 4) : 2 ^ 2 ^ n ≤ 65536 := Nat.pow_le_pow_right (n := 2) (by omega) (show 2 ^ n ≤ 16 from p16 h)
end GATES2
section GATES3
/-- alike on the values -/
def gE (n : Nat) (s t : gS) : Prop := (∀ j, j < 2 ^ n → s.1 j = t.1 j) ∧ s.2 = t.2
theorem gU_E {n a c : Nat} {s t : gS} (h : gE n s t) : gE n (gU n s a c) (gU n t a c) := by
  refine ⟨fun j hj => ?_, ?_⟩
  · simp only [gU, gAp]
    rw [if_pos hj, if_pos hj, h.1 j hj]
  · simp only [gU]
    rw [h.2]
theorem g1_E {n v : Nat} (hv : v < 2 ^ n) {s t : gS} (h : gE n s t) : ∀ a, gE n (g1 n v a s) (g1 n v a t)
  | 0 => h
  | a + 1 => by
    have ih := g1_E hv h a
    simp only [g1]
    rw [ih.1 v hv]
    split
    · exact gU_E ih
    · exact ih
theorem g2_E {n v : Nat} (hv : v < 2 ^ n) {s t : gS} (h : gE n s t) : ∀ a, gE n (g2 n v a s) (g2 n v a t)
  | 0 => h
  | a + 1 => by
    have ih := g2_E hv h a
    simp only [g2]
    rw [ih.1 v hv]
    split
    · exact gU_E ih
    · exact ih
theorem gRows_E {n : Nat} {s t : gS} (h : gE n s t) : ∀ v, v ≤ 2 ^ n → gE n (gRows n v s) (gRows n v t)
  | 0, _ => h
  | v + 1, hv => g2_E (by omega) (g1_E (by omega) (gRows_E h v (by omega)) n) n
/-- THE GATES, the first one found first -/
def gts (n : Nat) (t : Nat → Nat) : List Nat := (gRows n (2 ^ n) (t, [])).2
theorem gts_of {n : Nat} {t f : Nat → Nat} (h : ∀ j, j < 2 ^ n → f j = t j) : (gRows n (2 ^ n) (f, [])).2 = gts n t := (gRows_E (s := (f, [])) (t := (t, [])) ⟨h, rfl⟩ (2 ^ n) (Nat.le_refl _)).2
theorem gts_len {n : Nat} (hn : n ≤ 4) (t : Nat → Nat) : (gts n t).length ≤ 64 := by
  have h := gRows_len (n := n) (s := (t, [])) (2 ^ n)
  have h2 := Nat.mul_le_mul hn (p16 hn)
  unfold gts
  simp at h
  omega
theorem g1_t {n v a : Nat} {s : gS} (h : v.testBit a = true ∧ ((g1 n v a s).1 v).testBit a = false) : g1 n v (a + 1) s = gU n (g1 n v a s) a ((g1 n v a s).1 v) := by simp only [g1]; rw [if_pos h]
theorem g1_f {n v a : Nat} {s : gS} (h : ¬ (v.testBit a = true ∧ ((g1 n v a s).1 v).testBit a = false)) : g1 n v (a + 1) s = g1 n v a s := by simp only [g1]; rw [if_neg h]
theorem g2_t {n v a : Nat} {s : gS} (h : ((g2 n v a s).1 v).testBit a = true ∧ v.testBit a = false) : g2 n v (a + 1) s = gU n (g2 n v a s) a v := by simp only [g2]; rw [if_pos h]
theorem g2_f {n v a : Nat} {s : gS} (h : ¬ (((g2 n v a s).1 v).testBit a = true ∧ v.testBit a = false)) : g2 n v (a + 1) s = g2 n v a s := by simp only [g2]; rw [if_neg h]
theorem if_two_eq {P : Prop} [Decidable P] {a : Nat} (h : (((if P then 2 ^ a else 0 : Nat)) : Int) = 0) : ¬ P := by
  intro q
  rw [if_pos q] at h
  have := p1 a
  omega
theorem if_two_ne {P : Prop} [Decidable P] {a : Nat} (h : (((if P then 2 ^ a else 0 : Nat)) : Int) ≠ 0) : P := by
  by_cases q : P
  · exact q
  · rw [if_neg q] at h
    simp at h
theorem if_two_lt {P : Prop} [Decidable P] {a : Nat} (ha : a < 5) : (if P then 2 ^ a else 0 : Nat) < 2 ^ 31 := by
  have : 2 ^ a ≤ 2 ^ 4 := Nat.pow_le_pow_right (by omega) (by omega)
  split <;> omega
/-- a copy of the first i -/
theorem cp_s {f g t : Nat → Nat} {i : Nat} (hf : ∀ j, f j = if j < i then t j else g j) (j : Nat) : upN f i (t i) j = if j < i + 1 then t j else g j := by
  unfold upN
  by_cases e : j = i
  · subst e; simp
  · rw [if_neg e, hf j]
    by_cases h2 : j < i
    · rw [if_pos h2, if_pos (by omega)]
    · rw [if_neg h2, if_neg (by omega)]
end GATES3
section GATES4
theorem bcn_grow (v a : Nat) : ∀ d, bcn (a + d) v ≤ bcn a v + d
  | 0 => Nat.le_refl _
  | d + 1 => by
    have := bcn_grow v a d
    rw [← Nat.add_assoc]
    simp only [bcn]
    split <;> omega
theorem bcn_gap {v n a : Nat} (h : a < n) (hv : v.testBit a = false) : bcn n v + a + 1 ≤ bcn a v + n := by
  have h1 := bcn_grow v (a + 1) (n - (a + 1))
  rw [show a + 1 + (n - (a + 1)) = n by omega] at h1
  have h2 : bcn (a + 1) v = bcn a v := by simp [bcn, hv]
  omega
end GATES4
