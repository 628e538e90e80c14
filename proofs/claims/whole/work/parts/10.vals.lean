section VALS
/-! lists of small numbers, told as one number: the order by length, then by the first other number -/
def jval : List Nat → Nat
  | [] => 0
  | x :: xs => x * 128 ^ xs.length + jval xs
theorem jval_lt : ∀ (xs : List Nat), (∀ x ∈ xs, x < 128) → jval xs < 128 ^ xs.length
  | [], _ => by simp [jval]
  | x :: xs, h => by
    have h1 := jval_lt xs (fun y hy => h y (List.mem_cons_of_mem _ hy))
    have h2 : x + 1 ≤ 128 := h x List.mem_cons_self
    have h3 := Nat.mul_le_mul_right (128 ^ xs.length) h2
    rw [Nat.add_mul, Nat.one_mul] at h3
    have h4 : 128 ^ (x :: xs).length = 128 * 128 ^ xs.length := by rw [List.length_cons, Nat.pow_succ, Nat.mul_comm]
    rw [h4]
    simp only [jval]
    omega
theorem jval_app : ∀ (a b : List Nat), jval (a ++ b) = jval a * 128 ^ b.length + jval b
  | [], b => by simp [jval]
  | x :: a, b => by
    simp only [List.cons_append, jval, jval_app a b, List.length_append, Nat.pow_add, Nat.add_mul, Nat.mul_assoc, Nat.add_assoc]
theorem jval_cons_lt {x y : Nat} {xs ys : List Nat} (hl : xs.length = ys.length) (hx : ∀ z ∈ xs, z < 128) (h : x < y) : jval (x :: xs) < jval (y :: ys) := by
  have h1 := jval_lt xs hx
  have h2 := Nat.mul_le_mul_right (128 ^ xs.length) (Nat.succ_le_of_lt h)
  rw [Nat.succ_mul] at h2
  simp only [jval, ← hl]
  omega
theorem jval_inj : ∀ (xs ys : List Nat), xs.length = ys.length → (∀ x ∈ xs, x < 128) → (∀ y ∈ ys, y < 128) → jval xs = jval ys → xs = ys
  | [], [], _, _, _, _ => rfl
  | [], y :: ys, h, _, _, _ => by simp at h
  | x :: xs, [], h, _, _, _ => by simp at h
  | x :: xs, y :: ys, h, hx, hy, e => by
    have hl : xs.length = ys.length := by simpa using h
    have hx' : ∀ z ∈ xs, z < 128 := fun z hz => hx z (List.mem_cons_of_mem _ hz)
    have hy' : ∀ z ∈ ys, z < 128 := fun z hz => hy z (List.mem_cons_of_mem _ hz)
    have hxy : x = y := by
      rcases Nat.lt_trichotomy x y with q | q | q
      · exact absurd e (Nat.ne_of_lt (jval_cons_lt hl hx' q))
      · exact q
      · exact absurd e.symm (Nat.ne_of_lt (jval_cons_lt hl.symm hy' q))
    subst hxy
    have e2 : jval xs = jval ys := by
      simp only [jval, hl] at e
      omega
    rw [jval_inj xs ys hl hx' hy' e2]
/-- a number that is no less than those ahead of it is better behind them -/
theorem jval_move : ∀ (A : List Nat) (x : Nat) (R : List Nat), (∀ a ∈ A, a ≤ x) → jval (A ++ x :: R) ≤ jval (x :: (A ++ R))
  | [], x, R, _ => Nat.le_refl _
  | a :: A, x, R, h => by
    have ih := jval_move A x R (fun b hb => h b (List.mem_cons_of_mem _ hb))
    have ha : a ≤ x := h a List.mem_cons_self
    have h2 := Nat.mul_le_mul_right (128 ^ (A ++ R).length) ha
    simp only [List.cons_append, jval, List.length_cons, List.length_append, Nat.pow_succ, Nat.pow_add] at ih h2 ⊢
    have e1 : a * (128 ^ A.length * (128 ^ R.length * 128)) = 128 * (a * (128 ^ A.length * 128 ^ R.length)) := by
      rw [← Nat.mul_assoc (128 ^ A.length), ← Nat.mul_assoc a, Nat.mul_comm _ 128]
    have e2 : x * (128 ^ A.length * 128 ^ R.length * 128) = 128 * (x * (128 ^ A.length * 128 ^ R.length)) := by
      rw [← Nat.mul_assoc x, Nat.mul_comm _ 128]
    rw [e1, e2]
    omega
/-- ps comes no later than qs -/
def jBt (ps qs : List Nat) : Prop := ps.length < qs.length ∨ (ps.length = qs.length ∧ jval ps ≤ jval qs)
theorem jBt_refl (ps : List Nat) : jBt ps ps := Or.inr ⟨rfl, Nat.le_refl _⟩
theorem jBt_anti {ps qs : List Nat} (h1 : jBt ps qs) (h2 : jBt qs ps) (hp : ∀ x ∈ ps, x < 128) (hq : ∀ x ∈ qs, x < 128) : ps = qs := by
  rcases h1 with h1 | ⟨h1, h3⟩ <;> rcases h2 with h2 | ⟨h2, h4⟩
  · omega
  · omega
  · omega
  · exact jval_inj ps qs h1 hp hq (Nat.le_antisymm h3 h4)
theorem jBt_trans {ps qs rs : List Nat} (h1 : jBt ps qs) (h2 : jBt qs rs) : jBt ps rs := by
  unfold jBt at *
  omega
/-- in any nonempty kind of lists there is a first one -/
theorem jBt_least (K : List Nat → Prop) (h : ∃ ps, K ps) : ∃ ps, K ps ∧ ∀ qs, K qs → jBt ps qs := by
  obtain ⟨n, ⟨p0, hp0, rfl⟩, hn⟩ := pk_least (fun n => ∃ ps, K ps ∧ ps.length = n) (by obtain ⟨ps, hp⟩ := h; exact ⟨_, ps, hp, rfl⟩)
  obtain ⟨v, ⟨p1, hp1, hl1, rfl⟩, hv⟩ := pk_least (fun v => ∃ ps, K ps ∧ ps.length = p0.length ∧ jval ps = v) ⟨_, p0, hp0, rfl, rfl⟩
  refine ⟨p1, hp1, fun qs hq => ?_⟩
  rcases Nat.lt_trichotomy p1.length qs.length with q | q | q
  · exact Or.inl q
  · refine Or.inr ⟨q, Nat.not_lt.mp fun z => hv _ z ⟨qs, hq, by omega, rfl⟩⟩
  · exact absurd ⟨qs, hq, rfl⟩ (hn qs.length (by omega))
end VALS
