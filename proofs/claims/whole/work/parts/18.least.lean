section LEAST
/-- the class's row of forms, levels below fl filled -/
def fRow (fl : Nat) (rw : Nat → Int64) : Prop := ∀ lv, lv < fl → ∀ f, f < 2 ^ 2 ^ lv → rw (jsT lv + f) = lN (fcode (pF lv f))
theorem jsT_fit {n : Nat} (h : n ≤ 3) : jsT n + 2 ^ 2 ^ n ≤ 278 := by
  rcases (show n = 0 ∨ n = 1 ∨ n = 2 ∨ n = 3 by omega) with rfl | rfl | rfl | rfl <;> decide
theorem p27 {n : Nat} (h : n ≤ 3) : 3 ^ n ≤ 27 := Nat.pow_le_pow_right (n := 3) (by omega) h
theorem fcode_num {ps : List Nat} {k : Nat} (hl : ps.length ≤ 6) (hp : ∀ p ∈ ps, p < 128) (hk : k < ps.length) : fcode ps / 2 ^ (7 * (ps.length - 1 - k)) &&& 127 = ps.getD k 0 := by
  have e := fcode_at ps hp k hk
  rw [show (127 : Nat) = 2 ^ 7 - 1 from rfl, Nat.and_two_pow_sub_one_eq_mod]
  rw [← e]
  have hm : 7 * (ps.length - 1 - k) ≤ 35 := by omega
  generalize 7 * (ps.length - 1 - k) = m at hm ⊢
  unfold fcode
  have q : ps.length * 2 ^ 48 = 2 ^ m * (ps.length * 2 ^ (41 - m) * 128) := by
    have : (2 : Nat) ^ 48 = 2 ^ m * (2 ^ (41 - m) * 128) := by
      rw [show (128 : Nat) = 2 ^ 7 from rfl, ← Nat.pow_add, ← Nat.pow_add]
      congr 1
      omega
    rw [this]
    ac_rfl
  rw [q, Nat.mul_add_div (Nat.two_pow_pos m), Nat.add_comm, Nat.add_mul_mod_self_right]
theorem lf_skip {n f g m : Nat} (h1 : ∀ g', g' < g → pCand n f g' = pF (n + 1) f → m ≤ fcode (pF (n + 1) f)) (hgt : m / 2 ^ 48 < (pCand n f g).length) : ∀ g', g' < g + 1 → pCand n f g' = pF (n + 1) f → m ≤ fcode (pF (n + 1) f) := by
  intro g' hg' e
  by_cases q : g' = g
  · subst q
    rw [← e]
    unfold fcode
    omega
  · exact h1 g' (by omega) e
theorem lf_more {n f g m : Nat} {k : Nat} (h2 : m = k ∨ ∃ g', g' < g ∧ g' < 2 ^ 2 ^ n ∧ (pCand n f g').length ≤ 6 ∧ m = fcode (pCand n f g')) : m = k ∨ ∃ g', g' < g + 1 ∧ g' < 2 ^ 2 ^ n ∧ (pCand n f g').length ≤ 6 ∧ m = fcode (pCand n f g') := by
  rcases h2 with h | ⟨g', a, b⟩
  · exact Or.inl h
  · exact Or.inr ⟨g', by omega, b⟩
theorem lf_min1 {n f g m : Nat} (h1 : ∀ g', g' < g → pCand n f g' = pF (n + 1) f → m ≤ fcode (pF (n + 1) f)) : ∀ g', g' < g + 1 → pCand n f g' = pF (n + 1) f → (if fcode (pCand n f g) < m then fcode (pCand n f g) else m) ≤ fcode (pF (n + 1) f) := by
  intro g' hg' e
  by_cases q : g' = g
  · subst q
    rw [e]
    split <;> omega
  · have := h1 g' (by omega) e
    split <;> omega
theorem lf_min2 {n f g m k : Nat} (hcl : (pCand n f g).length ≤ 6 ∧ (∀ p ∈ pCand n f g, p < 128) ∧ g < 2 ^ 2 ^ n) (h2 : m = k ∨ ∃ g', g' < g ∧ g' < 2 ^ 2 ^ n ∧ (pCand n f g').length ≤ 6 ∧ m = fcode (pCand n f g')) : (if fcode (pCand n f g) < m then fcode (pCand n f g) else m) = k ∨ ∃ g', g' < g + 1 ∧ g' < 2 ^ 2 ^ n ∧ (pCand n f g').length ≤ 6 ∧ (if fcode (pCand n f g) < m then fcode (pCand n f g) else m) = fcode (pCand n f g') := by
  split
  · exact Or.inr ⟨g, by omega, hcl.2.2, hcl.1, rfl⟩
  · exact lf_more h2
theorem lf_min3 {n f g m : Nat} (hcl : (pCand n f g).length ≤ 6 ∧ (∀ p ∈ pCand n f g, p < 128) ∧ g < 2 ^ 2 ^ n) (hm : m < 2 ^ 52) : (if fcode (pCand n f g) < m then fcode (pCand n f g) else m) < 2 ^ 52 := by
  split <;> omega
theorem lf_if {n f g m : Nat} (hcl : (pCand n f g).length ≤ 6 ∧ (∀ p ∈ pCand n f g, p < 128) ∧ g < 2 ^ 2 ^ n) (hm : m < 2 ^ 63) : (if lN (fcode (pCand n f g)) < lN m then lN (fcode (pCand n f g)) else lN m) = lN (if fcode (pCand n f g) < m then fcode (pCand n f g) else m) := by
  have h := fcode_lt hcl.1 hcl.2.1
  by_cases q : fcode (pCand n f g) < m
  · rw [if_pos q, if_pos ((pk_lLT (by omega) hm).mpr q)]
  · rw [if_neg q, if_neg (fun z => q ((pk_lLT (by omega) hm).mp z))]
theorem lf_six {n f g m : Nat} (h2 : m = 1970324836974591 ∨ ∃ g', g' < g ∧ g' < 2 ^ 2 ^ n ∧ (pCand n f g').length ≤ 6 ∧ m = fcode (pCand n f g')) (hn : n + 1 ≤ 4 := by omega) (hf : f < 2 ^ 2 ^ (n + 1) := by assumption) : m / 2 ^ 48 ≤ 6 := by
  rcases h2 with h | ⟨g', a, b, c, d⟩
  · omega
  · rw [d, fcode_size c (fun p hp => p3_128 hn ((pCand_bt hf b).1 p hp))]; exact c
theorem lf_end {n f m : Nat} (hn : n + 1 ≤ 4) (hf : f < 2 ^ 2 ^ (n + 1)) (h1 : ∀ g', g' < 2 ^ 2 ^ n → pCand n f g' = pF (n + 1) f → m ≤ fcode (pF (n + 1) f)) (h2 : m = 1970324836974591 ∨ ∃ g', g' < 2 ^ 2 ^ n ∧ g' < 2 ^ 2 ^ n ∧ (pCand n f g').length ≤ 6 ∧ m = fcode (pCand n f g')) : m = fcode (pF (n + 1) f) := by
  obtain ⟨g, hg, e⟩ := pCand_has hn hf
  have a := h1 g hg e.symm
  have l6 := pF_6 hn hf
  have j42 := jval_42 l6 (pF_128 hn hf)
  rcases h2 with h | ⟨g', -, b, c, d⟩
  · unfold fcode at a
    omega
  · have q := (fcode_le l6 (pF_128 hn hf) c (fun p hp => p3_128 hn ((pCand_bt hf b).1 p hp))).mpr (pCand_bt hf b).2
    omega
end LEAST
