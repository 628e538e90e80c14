section FORMS
/-! products, functions, forms: numbers alone -/
/-- the function that the product p of n bits is -/
def pfn : Nat → Nat → Nat
  | 0, _ => 1
  | n + 1, p => if p / 3 ^ n = 0 then pfn n (p % 3 ^ n) * 2 ^ 2 ^ n + pfn n (p % 3 ^ n) else if p / 3 ^ n = 1 then pfn n (p % 3 ^ n) * 2 ^ 2 ^ n else pfn n (p % 3 ^ n)
theorem p_sq (n : Nat) : 2 ^ 2 ^ (n + 1) = 2 ^ 2 ^ n * 2 ^ 2 ^ n := by
  rw [← Nat.pow_add, Nat.pow_succ, Nat.mul_two]
theorem p_pos (n : Nat) : 0 < 2 ^ 2 ^ n := Nat.two_pow_pos _
theorem p3_pos (n : Nat) : 0 < 3 ^ n := Nat.pow_pos (by omega)
theorem pfn_lt : ∀ (n p : Nat), pfn n p < 2 ^ 2 ^ n
  | 0, _ => by simp [pfn]
  | n + 1, p => by
    have h := pfn_lt n (p % 3 ^ n)
    have h1 := Nat.mul_le_mul_right (2 ^ 2 ^ n) (Nat.succ_le_of_lt h)
    rw [Nat.succ_mul] at h1
    have h2 : 1 * 2 ^ 2 ^ n ≤ 2 ^ 2 ^ n * 2 ^ 2 ^ n := Nat.mul_le_mul_right _ (p_pos n)
    rw [p_sq]
    simp only [pfn]
    split
    · omega
    · split <;> omega
def pX (n : Nat) : List Nat → Nat
  | [] => 0
  | p :: ps => pfn n p ^^^ pX n ps
theorem pX_lt (n : Nat) : ∀ ps, pX n ps < 2 ^ 2 ^ n
  | [] => p_pos n
  | p :: ps => Nat.xor_lt_two_pow (pfn_lt n p) (pX_lt n ps)
theorem pX_app (n : Nat) : ∀ a b, pX n (a ++ b) = pX n a ^^^ pX n b
  | [], b => by simp [pX]
  | x :: a, b => by simp only [List.cons_append, pX, pX_app n a b, Nat.xor_assoc]
theorem p_h0 {n p : Nat} (h : p < 3 ^ n) : pfn (n + 1) p % 2 ^ 2 ^ n = pfn n p ∧ pfn (n + 1) p / 2 ^ 2 ^ n = pfn n p := by
  have hg := pfn_lt n p
  have e : pfn (n + 1) p = pfn n p * 2 ^ 2 ^ n + pfn n p := by
    simp only [pfn]
    rw [if_pos (Nat.div_eq_of_lt h), Nat.mod_eq_of_lt h]
  rw [e]
  refine ⟨?_, ?_⟩
  · rw [Nat.mul_comm, Nat.mul_add_mod, Nat.mod_eq_of_lt hg]
  · rw [Nat.mul_comm, Nat.mul_add_div (p_pos n), Nat.div_eq_of_lt hg, Nat.add_zero]
theorem p_h1 {n p : Nat} (h : p < 3 ^ n) : pfn (n + 1) (p + 3 ^ n) % 2 ^ 2 ^ n = 0 ∧ pfn (n + 1) (p + 3 ^ n) / 2 ^ 2 ^ n = pfn n p := by
  have hd : (p + 3 ^ n) / 3 ^ n = 1 := by rw [Nat.add_div_right _ (p3_pos n), Nat.div_eq_of_lt h]
  have hm : (p + 3 ^ n) % 3 ^ n = p := by rw [Nat.add_mod_right, Nat.mod_eq_of_lt h]
  have e : pfn (n + 1) (p + 3 ^ n) = pfn n p * 2 ^ 2 ^ n := by
    simp only [pfn]
    rw [hd, hm]
    simp
  rw [e]
  exact ⟨Nat.mul_mod_left _ _, Nat.mul_div_cancel _ (p_pos n)⟩
theorem p_h2 {n p : Nat} (h : p < 3 ^ n) : pfn (n + 1) (p + 2 * 3 ^ n) % 2 ^ 2 ^ n = pfn n p ∧ pfn (n + 1) (p + 2 * 3 ^ n) / 2 ^ 2 ^ n = 0 := by
  have hg := pfn_lt n p
  have hd : (p + 2 * 3 ^ n) / 3 ^ n = 2 := by rw [Nat.add_mul_div_right _ _ (p3_pos n), Nat.div_eq_of_lt h]
  have hm : (p + 2 * 3 ^ n) % 3 ^ n = p := by rw [Nat.add_mul_mod_self_right, Nat.mod_eq_of_lt h]
  have e : pfn (n + 1) (p + 2 * 3 ^ n) = pfn n p := by
    simp only [pfn]
    rw [hd, hm]
    simp
  rw [e]
  exact ⟨Nat.mod_eq_of_lt hg, Nat.div_eq_of_lt hg⟩
theorem p_X0 {n : Nat} : ∀ A : List Nat, (∀ p ∈ A, p < 3 ^ n) → pX (n + 1) A % 2 ^ 2 ^ n = pX n A ∧ pX (n + 1) A / 2 ^ 2 ^ n = pX n A
  | [], _ => by simp [pX]
  | p :: A, h => by
    have ih := p_X0 A (fun q hq => h q (List.mem_cons_of_mem _ hq))
    have h0 := p_h0 (h p List.mem_cons_self)
    simp only [pX]
    rw [Nat.xor_mod_two_pow, Nat.xor_div_two_pow, ih.1, ih.2, h0.1, h0.2]
    exact ⟨rfl, rfl⟩
theorem p_X1 {n : Nat} : ∀ B : List Nat, (∀ p ∈ B, p < 3 ^ n) → pX (n + 1) (B.map (· + 3 ^ n)) % 2 ^ 2 ^ n = 0 ∧ pX (n + 1) (B.map (· + 3 ^ n)) / 2 ^ 2 ^ n = pX n B
  | [], _ => by simp [pX]
  | p :: A, h => by
    have ih := p_X1 A (fun q hq => h q (List.mem_cons_of_mem _ hq))
    have h0 := p_h1 (h p List.mem_cons_self)
    simp only [List.map_cons, pX]
    rw [Nat.xor_mod_two_pow, Nat.xor_div_two_pow, ih.1, ih.2, h0.1, h0.2]
    exact ⟨rfl, rfl⟩
theorem p_X2 {n : Nat} : ∀ B : List Nat, (∀ p ∈ B, p < 3 ^ n) → pX (n + 1) (B.map (· + 2 * 3 ^ n)) % 2 ^ 2 ^ n = pX n B ∧ pX (n + 1) (B.map (· + 2 * 3 ^ n)) / 2 ^ 2 ^ n = 0
  | [], _ => by simp [pX]
  | p :: A, h => by
    have ih := p_X2 A (fun q hq => h q (List.mem_cons_of_mem _ hq))
    have h0 := p_h2 (h p List.mem_cons_self)
    simp only [List.map_cons, pX]
    rw [Nat.xor_mod_two_pow, Nat.xor_div_two_pow, ih.1, ih.2, h0.1, h0.2]
    exact ⟨rfl, rfl⟩
/-- three lists of n bits as one of n + 1 -/
def pJ (n : Nat) (A B C : List Nat) : List Nat := A ++ (B.map (· + 3 ^ n) ++ C.map (· + 2 * 3 ^ n))
theorem pJ_len (n : Nat) (A B C : List Nat) : (pJ n A B C).length = A.length + B.length + C.length := by simp [pJ, Nat.add_assoc]
theorem pJ_X {n : Nat} {A B C : List Nat} (hA : ∀ p ∈ A, p < 3 ^ n) (hB : ∀ p ∈ B, p < 3 ^ n) (hC : ∀ p ∈ C, p < 3 ^ n) : pX (n + 1) (pJ n A B C) % 2 ^ 2 ^ n = pX n A ^^^ pX n C ∧ pX (n + 1) (pJ n A B C) / 2 ^ 2 ^ n = pX n A ^^^ pX n B := by
  unfold pJ
  rw [pX_app, pX_app, Nat.xor_mod_two_pow, Nat.xor_div_two_pow, Nat.xor_mod_two_pow, Nat.xor_div_two_pow, (p_X0 A hA).1, (p_X0 A hA).2, (p_X1 B hB).1, (p_X1 B hB).2, (p_X2 C hC).1, (p_X2 C hC).2]
  simp
theorem pJ_in {n : Nat} {A B C : List Nat} (hA : ∀ p ∈ A, p < 3 ^ n) (hB : ∀ p ∈ B, p < 3 ^ n) (hC : ∀ p ∈ C, p < 3 ^ n) : ∀ p ∈ pJ n A B C, p < 3 ^ (n + 1) := by
  intro p hp
  rw [Nat.pow_succ]
  simp only [pJ, List.mem_append, List.mem_map] at hp
  rcases hp with h | ⟨q, h, rfl⟩ | ⟨q, h, rfl⟩
  · have := hA p h; omega
  · have := hB q h; omega
  · have := hC q h; omega
theorem pX_eq {n f : Nat} {ps : List Nat} (h1 : pX (n + 1) ps % 2 ^ 2 ^ n = f % 2 ^ 2 ^ n) (h2 : pX (n + 1) ps / 2 ^ 2 ^ n = f / 2 ^ 2 ^ n) : pX (n + 1) ps = f := by
  rw [← Nat.div_add_mod (pX (n + 1) ps) (2 ^ 2 ^ n), ← Nat.div_add_mod f (2 ^ 2 ^ n), h1, h2]
/-- any list of n + 1 bits comes apart by the highest place, and in that order it comes no later -/
theorem p_part {n : Nat} : ∀ qs : List Nat, (∀ p ∈ qs, p < 3 ^ (n + 1)) → ∃ A B C : List Nat, (∀ p ∈ A, p < 3 ^ n) ∧ (∀ p ∈ B, p < 3 ^ n) ∧ (∀ p ∈ C, p < 3 ^ n) ∧ (pJ n A B C).length = qs.length ∧ pX (n + 1) (pJ n A B C) = pX (n + 1) qs ∧ jval (pJ n A B C) ≤ jval qs
  | [], _ => ⟨[], [], [], by simp, by simp, by simp, rfl, rfl, Nat.le_refl _⟩
  | x :: qs, h => by
    obtain ⟨A, B, C, hA, hB, hC, hl, hX, hv⟩ := p_part qs (fun q hq => h q (List.mem_cons_of_mem _ hq))
    have hx : x < 3 ^ n * 3 := by rw [← Nat.pow_succ]; exact h x List.mem_cons_self
    by_cases h0 : x < 3 ^ n
    · refine ⟨x :: A, B, C, ?_, hB, hC, ?_, ?_, ?_⟩
      · intro p hp
        rcases List.mem_cons.mp hp with rfl | hp
        · exact h0
        · exact hA p hp
      · simp only [pJ, List.cons_append, List.length_cons] at hl ⊢; omega
      · simp only [pJ, List.cons_append, pX] at hX ⊢; rw [hX]
      · simp only [pJ, List.cons_append, jval] at hl hv ⊢
        rw [hl]; omega
    · by_cases h1 : x < 2 * 3 ^ n
      · refine ⟨A, (x - 3 ^ n) :: B, C, hA, ?_, hC, ?_, ?_, ?_⟩
        · intro p hp
          rcases List.mem_cons.mp hp with rfl | hp
          · omega
          · exact hB p hp
        · simp only [pJ_len, List.length_cons] at hl ⊢; omega
        · have e : x - 3 ^ n + 3 ^ n = x := by omega
          simp only [pJ, List.map_cons, e, List.cons_append, pX_app, pX] at hX ⊢
          rw [← hX]
          rw [← Nat.xor_assoc, Nat.xor_comm (pX (n + 1) A), Nat.xor_assoc]
        · have e : x - 3 ^ n + 3 ^ n = x := by omega
          have hm := jval_move A x (B.map (· + 3 ^ n) ++ C.map (· + 2 * 3 ^ n)) (fun a ha => by have := hA a ha; omega)
          simp only [pJ, List.map_cons, e, List.cons_append, jval] at hl hv hm ⊢
          rw [hl] at hm
          omega
      · refine ⟨A, B, (x - 2 * 3 ^ n) :: C, hA, hB, ?_, ?_, ?_, ?_⟩
        · intro p hp
          rcases List.mem_cons.mp hp with rfl | hp
          · omega
          · exact hC p hp
        · simp only [pJ_len, List.length_cons] at hl ⊢; omega
        · have e : x - 2 * 3 ^ n + 2 * 3 ^ n = x := by omega
          simp only [pJ, List.map_cons, e, pX_app, pX] at hX ⊢
          rw [← hX]
          rw [← Nat.xor_assoc (pX (n + 1) (B.map (· + 3 ^ n))), Nat.xor_comm (pX (n + 1) (B.map (· + 3 ^ n))), Nat.xor_assoc (pfn (n + 1) x), ← Nat.xor_assoc (pX (n + 1) A), Nat.xor_comm (pX (n + 1) A), Nat.xor_assoc]
        · have e : x - 2 * 3 ^ n + 2 * 3 ^ n = x := by omega
          have hm := jval_move (A ++ B.map (· + 3 ^ n)) x (C.map (· + 2 * 3 ^ n)) (fun a ha => by
            rcases List.mem_append.mp ha with h | h
            · have := hA a h; omega
            · obtain ⟨b, hb, rfl⟩ := List.mem_map.mp h
              have := hB b hb; omega)
          simp only [pJ, List.map_cons, e, List.append_assoc, jval] at hl hv hm ⊢
          rw [hl] at hm
          omega
def pRep (n : Nat) (ps : List Nat) (f : Nat) : Prop := (∀ p ∈ ps, p < 3 ^ n) ∧ pX n ps = f
def pOpt (n f : Nat) (ps : List Nat) : Prop := pRep n ps f ∧ ∀ qs, pRep n qs f → jBt ps qs
theorem p_has : ∀ (n f : Nat), f < 2 ^ 2 ^ n → ∃ ps, pRep n ps f
  | 0, f, h => by
    have h' : f < 2 := h
    rcases (show f = 0 ∨ f = 1 by omega) with rfl | rfl
    · exact ⟨[], by simp, rfl⟩
    · exact ⟨[0], by simp, rfl⟩
  | n + 1, f, h => by
    have hM := p_pos n
    have h1 : f / 2 ^ 2 ^ n < 2 ^ 2 ^ n := Nat.div_lt_of_lt_mul (by rw [← p_sq]; exact h)
    obtain ⟨B, hB, eB⟩ := p_has n (f / 2 ^ 2 ^ n) h1
    obtain ⟨C, hC, eC⟩ := p_has n (f % 2 ^ 2 ^ n) (Nat.mod_lt _ hM)
    have hA : ∀ p ∈ ([] : List Nat), p < 3 ^ n := by simp
    have hx := pJ_X hA hB hC
    refine ⟨pJ n [] B C, pJ_in hA hB hC, pX_eq ?_ ?_⟩
    · rw [hx.1, eC]; simp [pX]
    · rw [hx.2, eB]; simp [pX]
theorem p_opt (n f : Nat) (h : f < 2 ^ 2 ^ n) : ∃ ps, pOpt n f ps := jBt_least (fun ps => pRep n ps f) (p_has n f h)
/-- THE FORM of a function of n bits -/
noncomputable def pF (n f : Nat) : List Nat := Classical.epsilon (fun ps => pOpt n f ps)
theorem pF_opt {n f : Nat} (h : f < 2 ^ 2 ^ n) : pOpt n f (pF n f) := Classical.epsilon_spec (p := fun ps => pOpt n f ps) (p_opt n f h)
theorem pF_in {n f : Nat} (h : f < 2 ^ 2 ^ n) : ∀ p ∈ pF n f, p < 3 ^ n := (pF_opt h).1.1
theorem pF_X {n f : Nat} (h : f < 2 ^ 2 ^ n) : pX n (pF n f) = f := (pF_opt h).1.2
theorem pF_bt {n f : Nat} (h : f < 2 ^ 2 ^ n) {qs : List Nat} (hq : ∀ p ∈ qs, p < 3 ^ n) (hX : pX n qs = f) : jBt (pF n f) qs := (pF_opt h).2 qs ⟨hq, hX⟩
theorem p3_128 {n p : Nat} (hn : n ≤ 4) (h : p < 3 ^ n) : p < 128 := Nat.lt_of_lt_of_le h (Nat.le_trans (Nat.pow_le_pow_right (by omega) hn) (by decide))
theorem pF_128 {n f : Nat} (hn : n ≤ 4) (h : f < 2 ^ 2 ^ n) : ∀ p ∈ pF n f, p < 128 := fun p hp => p3_128 hn (pF_in h p hp)
/-- the form by way of g: what the class tries -/
noncomputable def pCand (n f g : Nat) : List Nat := pJ n (pF n g) (pF n (f / 2 ^ 2 ^ n ^^^ g)) (pF n (f % 2 ^ 2 ^ n ^^^ g))
theorem p_half {n f : Nat} (h : f < 2 ^ 2 ^ (n + 1)) : f / 2 ^ 2 ^ n < 2 ^ 2 ^ n ∧ f % 2 ^ 2 ^ n < 2 ^ 2 ^ n := ⟨Nat.div_lt_of_lt_mul (by rw [← p_sq]; exact h), Nat.mod_lt _ (p_pos n)⟩
theorem xor_back (a g : Nat) : g ^^^ (a ^^^ g) = a := by rw [Nat.xor_comm a g, ← Nat.xor_assoc, Nat.xor_self, Nat.zero_xor]
theorem pCand_bt {n f g : Nat} (h : f < 2 ^ 2 ^ (n + 1)) (hg : g < 2 ^ 2 ^ n) : (∀ p ∈ pCand n f g, p < 3 ^ (n + 1)) ∧ jBt (pF (n + 1) f) (pCand n f g) := by
  obtain ⟨h1, h2⟩ := p_half h
  have b1 := Nat.xor_lt_two_pow h1 hg
  have b2 := Nat.xor_lt_two_pow h2 hg
  have hin := pJ_in (pF_in hg) (pF_in b1) (pF_in b2)
  have hx := pJ_X (pF_in hg) (pF_in b1) (pF_in b2)
  refine ⟨hin, pF_bt h hin (pX_eq ?_ ?_)⟩
  · unfold pCand at *
    rw [hx.1, pF_X hg, pF_X b2, xor_back]
  · unfold pCand at *
    rw [hx.2, pF_X hg, pF_X b1, xor_back]
theorem jval_map (k : Nat) : ∀ xs : List Nat, jval (xs.map (· + k)) = jval xs + k * jval (xs.map (fun _ => 1))
  | [] => by simp [jval]
  | x :: xs => by
    simp only [List.map_cons, jval, List.length_map, jval_map k xs, Nat.add_mul, Nat.mul_add, Nat.one_mul]
    omega
theorem jval_ones {xs ys : List Nat} (h : xs.length = ys.length) : jval (xs.map (fun _ => 1)) = jval (ys.map (fun _ => 1)) := by
  congr 1
  exact List.ext_getElem (by simpa using h) (fun i h1 h2 => by simp)
theorem pCand_has {n f : Nat} (hn : n + 1 ≤ 4) (h : f < 2 ^ 2 ^ (n + 1)) : ∃ g, g < 2 ^ 2 ^ n ∧ pF (n + 1) f = pCand n f g := by
  obtain ⟨A, B, C, hA, hB, hC, hl, hX, hv⟩ := p_part (pF (n + 1) f) (pF_in h)
  obtain ⟨h1, h2⟩ := p_half h
  have hx := pJ_X hA hB hC
  rw [hX, pF_X h] at hx
  have hg : pX n A < 2 ^ 2 ^ n := pX_lt n A
  refine ⟨pX n A, hg, ?_⟩
  have b1 := Nat.xor_lt_two_pow h1 hg
  have b2 := Nat.xor_lt_two_pow h2 hg
  have oA := pF_bt hg hA rfl
  have oB := pF_bt b1 hB (by rw [hx.2, Nat.xor_comm (pX n A), Nat.xor_assoc, Nat.xor_self, Nat.xor_zero])
  have oC := pF_bt b2 hC (by rw [hx.1, Nat.xor_comm (pX n A), Nat.xor_assoc, Nat.xor_self, Nat.xor_zero])
  have oT := (pCand_bt h hg).2
  have hlc : (pCand n f (pX n A)).length = (pF n (pX n A)).length + (pF n (f / 2 ^ 2 ^ n ^^^ pX n A)).length + (pF n (f % 2 ^ 2 ^ n ^^^ pX n A)).length := pJ_len _ _ _ _
  rw [pJ_len] at hl
  unfold jBt at oA oB oC oT
  rw [hlc] at oT
  have eA : (pF n (pX n A)).length = A.length := by omega
  have eB : (pF n (f / 2 ^ 2 ^ n ^^^ pX n A)).length = B.length := by omega
  have eC : (pF n (f % 2 ^ 2 ^ n ^^^ pX n A)).length = C.length := by omega
  have vA : jval (pF n (pX n A)) ≤ jval A := by omega
  have vB : jval (pF n (f / 2 ^ 2 ^ n ^^^ pX n A)) ≤ jval B := by omega
  have vC : jval (pF n (f % 2 ^ 2 ^ n ^^^ pX n A)) ≤ jval C := by omega
  have vJ : jval (pCand n f (pX n A)) ≤ jval (pJ n A B C) := by
    unfold pCand pJ
    simp only [jval_app, jval_map, List.length_append, List.length_map, jval_ones eB, jval_ones eC, eB, eC]
    have q1 := Nat.mul_le_mul_right (128 ^ (B.length + C.length)) vA
    have q2 := Nat.mul_le_mul_right (128 ^ C.length) (Nat.add_le_add_right vB (3 ^ n * jval (B.map (fun _ => 1))))
    omega
  refine jBt_anti (pCand_bt h hg).2 (Or.inr ⟨by omega, Nat.le_trans vJ hv⟩) (pF_128 hn h) (fun p hp => p3_128 hn ((pCand_bt h hg).1 p hp))
/-- cost: how many products -/
noncomputable def pc (n f : Nat) : Nat := (pF n f).length
theorem pc_0 (n : Nat) : pc n 0 = 0 := by
  have h := pF_bt (p_pos n) (qs := []) (by simp) rfl
  unfold jBt at h
  unfold pc
  simp at h
  simpa using h.1
theorem pc_eq0 {n f : Nat} (h : f < 2 ^ 2 ^ n) (h0 : pc n f = 0) : f = 0 := by
  have hX := pF_X h
  unfold pc at h0
  rw [List.length_eq_zero_iff.mp h0] at hX
  exact hX.symm
theorem pc_step {n f p : Nat} (h : f < 2 ^ 2 ^ n) (hp : p < 3 ^ n) : pc n (f ^^^ pfn n p) ≤ pc n f + 1 := by
  have h2 := Nat.xor_lt_two_pow h (pfn_lt n p)
  have b := pF_bt h2 (qs := p :: pF n f) (fun q hq => by
    rcases List.mem_cons.mp hq with rfl | hq
    · exact hp
    · exact pF_in h q hq) (by simp only [pX]; rw [pF_X h, Nat.xor_comm])
  unfold jBt at b
  unfold pc
  simp only [List.length_cons] at b
  omega
theorem xor_xor (a b : Nat) : a ^^^ b ^^^ b = a := by rw [Nat.xor_assoc, Nat.xor_self, Nat.xor_zero]
theorem pc_step2 {n f p : Nat} (h : f < 2 ^ 2 ^ n) (hp : p < 3 ^ n) : pc n f ≤ pc n (f ^^^ pfn n p) + 1 := by
  have q := pc_step (Nat.xor_lt_two_pow h (pfn_lt n p)) hp
  rw [xor_xor] at q
  exact q
/-- the form's first product, and the rest: the least product that leaves a function with one product less -/
theorem pF_cons {n f p : Nat} {ps : List Nat} (hn : n ≤ 4) (h : f < 2 ^ 2 ^ n) (e : pF n f = p :: ps) : p < 3 ^ n ∧ pc n (f ^^^ pfn n p) + 1 = pc n f ∧ ps = pF n (f ^^^ pfn n p) ∧ ∀ q, q < p → pc n (f ^^^ pfn n q) + 1 ≠ pc n f := by
  have hin := pF_in h
  have hX := pF_X h
  rw [e] at hin hX
  have hp := hin p List.mem_cons_self
  have hps : ∀ q ∈ ps, q < 3 ^ n := fun q hq => hin q (List.mem_cons_of_mem _ hq)
  have hfp := Nat.xor_lt_two_pow h (pfn_lt n p)
  have eX : pX n ps = f ^^^ pfn n p := by
    rw [← hX]; simp only [pX]
    rw [Nat.xor_comm (pfn n p), xor_xor]
  have b1 := pF_bt hfp hps eX
  have hc : pc n f = ps.length + 1 := by unfold pc; rw [e]; rfl
  have s2 := pc_step2 h hp
  have hc2 : pc n (f ^^^ pfn n p) = ps.length := by
    unfold jBt at b1
    have : pc n (f ^^^ pfn n p) ≤ ps.length := by unfold pc; omega
    omega
  have key : ∀ q, q < 3 ^ n → pc n (f ^^^ pfn n q) + 1 = pc n f → jBt (p :: ps) (q :: pF n (f ^^^ pfn n q)) := by
    intro q hq hqc
    have hfq := Nat.xor_lt_two_pow h (pfn_lt n q)
    rw [← e]
    refine pF_bt h (fun z hz => ?_) ?_
    · rcases List.mem_cons.mp hz with rfl | hz
      · exact hq
      · exact pF_in hfq z hz
    · simp only [pX]
      rw [pF_X hfq, Nat.xor_comm, xor_xor]
  refine ⟨hp, by omega, ?_, ?_⟩
  · have k := key p hp (by omega)
    have hl : ps.length = (pF n (f ^^^ pfn n p)).length := by unfold pc at hc2; omega
    refine jval_inj _ _ hl (fun z hz => p3_128 hn (hps z hz)) (pF_128 hn hfp) ?_
    unfold jBt at b1 k
    simp only [List.length_cons, jval, hl] at b1 k
    omega
  · intro q hq hqc
    have hq3 : q < 3 ^ n := Nat.lt_trans hq hp
    have k := key q hq3 hqc
    have hl : (pF n (f ^^^ pfn n q)).length = ps.length := by unfold pc at hqc hc; omega
    have lt := jval_cons_lt hl (pF_128 hn (Nat.xor_lt_two_pow h (pfn_lt n q))) hq
    unfold jBt at k
    simp only [List.length_cons] at k
    omega
theorem pc_down {n f : Nat} (hn : n ≤ 4) (h : f < 2 ^ 2 ^ n) (h0 : f ≠ 0) : ∃ p, p < 3 ^ n ∧ pc n (f ^^^ pfn n p) + 1 = pc n f := by
  cases e : pF n f with
  | nil => exact absurd (pc_eq0 h (by unfold pc; rw [e]; rfl)) h0
  | cons p ps => exact ⟨p, (pF_cons hn h e).1, (pF_cons hn h e).2.1⟩
end FORMS
