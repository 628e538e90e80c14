section MOVES
/-! sets of steps as numbers, moves, the first of the shortest ways -/
def bcn : Nat → Nat → Nat
  | 0, _ => 0
  | k + 1, S => bcn k S + (if S.testBit k then 1 else 0)
/-- how many steps are in a set -/
def bc (S : Nat) : Nat := bcn 12 S
theorem bcn_le : ∀ (k S : Nat), bcn k S ≤ k
  | 0, _ => Nat.le_refl 0
  | k + 1, S => by
    have := bcn_le k S
    simp only [bcn]
    split <;> omega
theorem bcn_mono {a b : Nat} (h : ∀ i, a.testBit i = true → b.testBit i = true) : ∀ k, bcn k a ≤ bcn k b
  | 0 => Nat.le_refl 0
  | k + 1 => by
    have := bcn_mono h k
    simp only [bcn]
    by_cases ha : a.testBit k = true
    · rw [if_pos ha, if_pos (h k ha)]; omega
    · rw [if_neg ha]; split <;> omega
theorem bcn_same {a b : Nat} : ∀ k, (∀ i, i < k → a.testBit i = b.testBit i) → bcn k a = bcn k b
  | 0, _ => rfl
  | k + 1, h => by
    simp only [bcn]
    rw [bcn_same k (fun i hi => h i (by omega)), h k (by omega)]
theorem tb_flip (S s i : Nat) : (S ^^^ 2 ^ s).testBit i = (S.testBit i ^^ decide (s = i)) := by
  rw [Nat.testBit_xor, Nat.testBit_two_pow]
theorem bcn_flip {S s : Nat} (h : S.testBit s = false) : ∀ k, s < k → bcn k (S ^^^ 2 ^ s) = bcn k S + 1
  | 0, hk => by omega
  | k + 1, hk => by
    simp only [bcn, tb_flip]
    by_cases e : s = k
    · subst e
      rw [bcn_same (a := S ^^^ 2 ^ s) (b := S) s (fun i hi => by rw [tb_flip]; simp [show s ≠ i by omega])]
      simp [h]
    · rw [bcn_flip h k (by omega)]
      simp [e]
      omega
theorem bc_up {S s : Nat} (hs : s < 12) (h : S.testBit s = false) : bc (S ^^^ 2 ^ s) = bc S + 1 := bcn_flip h 12 hs
theorem flip_flip (S s : Nat) : S ^^^ 2 ^ s ^^^ 2 ^ s = S := by rw [Nat.xor_assoc, Nat.xor_self, Nat.xor_zero]
theorem bc_down {S s : Nat} (hs : s < 12) (h : S.testBit s = true) : bc (S ^^^ 2 ^ s) + 1 = bc S := by
  have h2 : (S ^^^ 2 ^ s).testBit s = false := by rw [tb_flip]; simp [h]
  have := bc_up hs h2
  rw [flip_flip] at this
  omega
theorem tb_big {S m i : Nat} (h : S < 2 ^ m) (hi : m ≤ i) : S.testBit i = false := Nat.testBit_lt_two_pow (Nat.lt_of_lt_of_le h (Nat.pow_le_pow_right (by omega) hi))
theorem bcn_big {S m : Nat} (h : S < 2 ^ m) : ∀ d, bcn (m + d) S = bcn m S
  | 0 => rfl
  | d + 1 => by
    rw [← Nat.add_assoc]
    simp only [bcn]
    rw [bcn_big h d, tb_big h (by omega)]
    simp
theorem bc_le {S m : Nat} (hm : m ≤ 12) (h : S < 2 ^ m) : bc S ≤ m := by
  have e := bcn_big h (12 - m)
  rw [show m + (12 - m) = 12 by omega] at e
  unfold bc
  rw [e]
  exact bcn_le m S
theorem sub_iff {a S : Nat} : a &&& S = a ↔ ∀ i, a.testBit i = true → S.testBit i = true := by
  constructor
  · intro h i hi
    have := congrArg (fun z => z.testBit i) h
    simp only [Nat.testBit_and, hi, Bool.true_and] at this
    exact this
  · intro h
    apply Nat.eq_of_testBit_eq
    intro i
    rw [Nat.testBit_and]
    cases hi : a.testBit i with
    | false => simp
    | true => simp [h i hi]
/-- a program of m steps; what each needs lies ahead of it -/
def mG (m : Nat) (nd : Nat → Nat) : Prop := 1 ≤ m ∧ m ≤ 12 ∧ ∀ s, s < m → nd s < 2 ^ s
theorem mG_self {m s : Nat} {nd : Nat → Nat} (g : mG m nd) (hs : s < m) : (nd s).testBit s = false := tb_big (g.2.2 s hs) (Nat.le_refl s)
/-- a move of step s at the marks S, with at most b marks behind it -/
def mok (m : Nat) (nd : Nat → Nat) (b S s : Nat) : Prop := s < m ∧ nd s &&& S = nd s ∧ bc (S ^^^ 2 ^ s) ≤ b
def mP (m : Nat) (nd : Nat → Nat) (b : Nat) : Nat → List Nat → Nat → Prop
  | S, [], T => S = T
  | S, s :: ps, T => mok m nd b S s ∧ mP m nd b (S ^^^ 2 ^ s) ps T
theorem mP_app {m : Nat} {nd : Nat → Nat} {b : Nat} : ∀ (p q : List Nat) (S T : Nat), mP m nd b S (p ++ q) T ↔ ∃ U, mP m nd b S p U ∧ mP m nd b U q T
  | [], q, S, T => by simp [mP]
  | s :: p, q, S, T => by
    simp only [List.cons_append, mP, mP_app p q]
    constructor
    · rintro ⟨h, U, h1, h2⟩
      exact ⟨U, ⟨h, h1⟩, h2⟩
    · rintro ⟨U, ⟨h, h1⟩, h2⟩
      exact ⟨h, U, h1, h2⟩
theorem flip_lt {m S s : Nat} (h : S < 2 ^ m) (hs : s < m) : S ^^^ 2 ^ s < 2 ^ m := Nat.xor_lt_two_pow h (Nat.pow_lt_pow_right (by omega) hs)
theorem mP_lt {m : Nat} {nd : Nat → Nat} {b : Nat} : ∀ (p : List Nat) (S T : Nat), S < 2 ^ m → mP m nd b S p T → T < 2 ^ m
  | [], S, T, h, e => by simp only [mP] at e; omega
  | s :: p, S, T, h, e => mP_lt p _ T (flip_lt h e.1.1) e.2
theorem mP_in {m : Nat} {nd : Nat → Nat} {b : Nat} : ∀ (p : List Nat) (S T : Nat), mP m nd b S p T → ∀ s ∈ p, s < m
  | [], _, _, _ => by simp
  | s :: p, S, T, e => by
    intro x hx
    rcases List.mem_cons.mp hx with rfl | hx
    · exact e.1.1
    · exact mP_in p _ T e.2 x hx
/-- what a step needs is there behind its own move too -/
theorem need_flip {m S s : Nat} {nd : Nat → Nat} (g : mG m nd) (hs : s < m) (h : nd s &&& S = nd s) : nd s &&& (S ^^^ 2 ^ s) = nd s := by
  rw [sub_iff] at h ⊢
  intro i hi
  rw [tb_flip, h i hi]
  have : s ≠ i := by
    intro e
    subst e
    rw [mG_self g hs] at hi
    cases hi
  simp [this]
/-- THE MOVES for b -/
def mSP (m : Nat) (nd : Nat → Nat) (b : Nat) (ps : List Nat) : Prop := mP m nd b 0 ps (2 ^ (m - 1)) ∧ ∀ qs, mP m nd b 0 qs (2 ^ (m - 1)) → jBt ps qs
theorem mSP_one {m : Nat} {nd : Nat → Nat} {b : Nat} {ps qs : List Nat} (g : mG m nd) (h1 : mSP m nd b ps) (h2 : mSP m nd b qs) : ps = qs :=
  jBt_anti (h1.2 qs h2.1) (h2.2 ps h1.1) (fun x hx => by have := mP_in _ _ _ h1.1 x hx; have := g.2.1; omega) (fun x hx => by have := mP_in _ _ _ h2.1 x hx; have := g.2.1; omega)
def jLt (ps qs : List Nat) : Prop := ps.length < qs.length ∨ (ps.length = qs.length ∧ jval ps < jval qs)
theorem jLt_bt {ps qs : List Nat} (h : jLt ps qs) : jBt ps qs := by unfold jLt jBt at *; omega
theorem jLt_of {ps qs rs : List Nat} (h : jBt ps qs) (h2 : jLt qs rs) : jLt ps rs := by unfold jLt jBt at *; omega
theorem jLt_of' {ps qs rs : List Nat} (h : jLt ps qs) (h2 : jBt qs rs) : jLt ps rs := by unfold jLt jBt at *; omega
theorem jLt_irr {ps : List Nat} : ¬ jLt ps ps := by unfold jLt; omega
theorem jLt_snoc (ps : List Nat) (s : Nat) : jLt ps (ps ++ [s]) := Or.inl (by simp)
theorem jLt_snoc2 {ps qs : List Nat} {s t : Nat} (h : jLt ps qs) (hs : s < 128) : jLt (ps ++ [s]) (qs ++ [t]) := by
  unfold jLt at *
  simp only [List.length_append, List.length_cons, List.length_nil, jval_app, jval, Nat.pow_zero, Nat.mul_one, Nat.pow_one, Nat.add_zero, Nat.zero_add]
  omega
theorem jBt_snoc2 {ps qs : List Nat} {s : Nat} (h : jBt ps qs) : jBt (ps ++ [s]) (qs ++ [s]) := by
  unfold jBt at *
  simp only [List.length_append, List.length_cons, List.length_nil, jval_app, jval, Nat.pow_zero, Nat.mul_one, Nat.pow_one, Nat.add_zero, Nat.zero_add]
  omega
theorem jLt_snoc3 {ps : List Nat} {s t : Nat} (h : s < t) : jLt (ps ++ [s]) (ps ++ [t]) := by
  refine Or.inr ⟨by simp, ?_⟩
  rw [jval_app, jval_app]
  show jval ps * 128 ^ 1 + (s * 128 ^ 0 + 0) < jval ps * 128 ^ 1 + (t * 128 ^ 0 + 0)
  omega
/-! the reference's search, forwards -/
/-- the rows of the search: Q the queue, sr and bw where each came from and by which step, π the way to each -/
def fI (m : Nat) (nd : Nat → Nat) (b k s found : Nat) (Q sr bw : Nat → Nat) (π : Nat → List Nat) : Prop :=
  0 < found ∧ Q 0 = 0 ∧ π 0 = [] ∧
  (∀ i, 0 < i → i < found → sr i < i ∧ bw i < m ∧ π i = π (sr i) ++ [bw i] ∧ (sr i < k ∨ (sr i = k ∧ bw i < s))) ∧
  (∀ i, i < found → mP m nd b 0 (π i) (Q i)) ∧
  (∀ i j, i < j → j < found → jLt (π i) (π j)) ∧
  (∀ i j, i < j → j < found → Q i ≠ Q j) ∧
  (∀ i t, i < found → t < m → (i < k ∨ (i = k ∧ t < s)) → mok m nd b (Q i) t → ∃ j, j < found ∧ Q j = Q i ^^^ 2 ^ t ∧ jBt (π j) (π i ++ [t])) ∧
  (∀ i, i < k → i < found → Q i ≠ 2 ^ (m - 1))
theorem fI_0 (m : Nat) (nd : Nat → Nat) (b : Nat) (Q sr bw : Nat → Nat) (h : Q 0 = 0) : fI m nd b 0 0 1 Q sr bw (fun _ => []) := by
  refine ⟨by omega, h, rfl, ?_, ?_, ?_, ?_, ?_, ?_⟩
  · intro i h1 h2; omega
  · intro i hi
    rw [show i = 0 by omega, h]
    rfl
  · intro i j h1 h2; omega
  · intro i j h1 h2; omega
  · intro i t _ _ h1; omega
  · intro i h1; omega
/-- a step that is not allowed, or leads to what is there -/
theorem fI_skip {m : Nat} {nd : Nat → Nat} {b k s found : Nat} {Q sr bw : Nat → Nat} {π : Nat → List Nat} (hm : m ≤ 12) (h : fI m nd b k s found Q sr bw π) (hk : k < found) (hs : s < m) (hno : mok m nd b (Q k) s → ∃ j, j < found ∧ Q j = Q k ^^^ 2 ^ s) : fI m nd b k (s + 1) found Q sr bw π := by
  obtain ⟨h0, h1, h2, h3, h4, h5, h6, h7, h8⟩ := h
  refine ⟨h0, h1, h2, fun i a c => ?_, h4, h5, h6, fun i t hi ht hp hok => ?_, h8⟩
  · obtain ⟨q1, q2, q3, q4⟩ := h3 i a c
    exact ⟨q1, q2, q3, by omega⟩
  · by_cases e : i = k ∧ t = s
    · obtain ⟨rfl, rfl⟩ := e
      obtain ⟨j, hj, ej⟩ := hno hok
      refine ⟨j, hj, ej, ?_⟩
      rcases Nat.lt_trichotomy j i with q | q | q
      · exact jLt_bt (jLt_of (jLt_bt (h5 j i q hk)) (jLt_snoc _ _))
      · rw [q]; exact jLt_bt (jLt_snoc _ _)
      · obtain ⟨q1, q2, q3, q4⟩ := h3 j (by omega) hj
        rw [q3]
        rcases q4 with q4 | ⟨q4, q5⟩
        · exact jLt_bt (jLt_snoc2 (h5 _ _ q4 hk) (by omega))
        · rw [q4]; exact jLt_bt (jLt_snoc3 q5)
    · exact h7 i t hi ht (by omega) hok
def upL (π : Nat → List Nat) (k : Nat) (p : List Nat) : Nat → List Nat := fun j => if j = k then p else π j
/-- a step that leads to a new set -/
theorem fI_new {m : Nat} {nd : Nat → Nat} {b k s found : Nat} {Q sr bw : Nat → Nat} {π : Nat → List Nat} (hm : m ≤ 12) (h : fI m nd b k s found Q sr bw π) (hk : k < found) (hs : s < m) (hok : mok m nd b (Q k) s) (hnew : ∀ j, j < found → Q j ≠ Q k ^^^ 2 ^ s) : fI m nd b k (s + 1) (found + 1) (upN Q found (Q k ^^^ 2 ^ s)) (upN sr found k) (upN bw found s) (upL π found (π k ++ [s])) := by
  obtain ⟨h0, h1, h2, h3, h4, h5, h6, h7, h8⟩ := h
  have eQ : ∀ i, i < found → upN Q found (Q k ^^^ 2 ^ s) i = Q i := fun i hi => upN_n (by omega)
  have eS : ∀ i, i < found → upN sr found k i = sr i := fun i hi => upN_n (by omega)
  have eB : ∀ i, i < found → upN bw found s i = bw i := fun i hi => upN_n (by omega)
  have eP : ∀ i, i < found → upL π found (π k ++ [s]) i = π i := fun i hi => by simp [upL, show i ≠ found by omega]
  have nP : upL π found (π k ++ [s]) found = π k ++ [s] := by simp [upL]
  refine ⟨by omega, by rw [eQ 0 h0, h1], by rw [eP 0 h0, h2], fun i a c => ?_, fun i hi => ?_, fun i j hij hj => ?_, fun i j hij hj => ?_, fun i t hi ht hp ho => ?_, fun i hi1 hi2 => ?_⟩
  · by_cases e : i = found
    · subst e
      rw [upN_s, upN_s, nP, eP k hk]
      exact ⟨hk, hs, rfl, Or.inr ⟨rfl, by omega⟩⟩
    · have hi : i < found := by omega
      obtain ⟨q1, q2, q3, q4⟩ := h3 i a hi
      rw [eS i hi, eB i hi, eP i hi, eP (sr i) (by omega)]
      exact ⟨q1, q2, q3, by omega⟩
  · by_cases e : i = found
    · subst e
      rw [nP, upN_s]
      exact (mP_app _ _ _ _).mpr ⟨Q k, h4 k hk, hok, rfl⟩
    · rw [eP i (by omega), eQ i (by omega)]
      exact h4 i (by omega)
  · by_cases e : j = found
    · subst e
      rw [nP, eP i hij]
      rcases Nat.lt_trichotomy i k with q | q | q
      · exact jLt_of (jLt_bt (h5 i k q hk)) (jLt_snoc _ _)
      · rw [q]; exact jLt_snoc _ _
      · obtain ⟨q1, q2, q3, q4⟩ := h3 i (by omega) hij
        rw [q3]
        rcases q4 with q4 | ⟨q4, q5⟩
        · exact jLt_snoc2 (h5 _ _ q4 hk) (by omega)
        · rw [q4]; exact jLt_snoc3 q5
    · rw [eP i (by omega), eP j (by omega)]
      exact h5 i j hij (by omega)
  · by_cases e : j = found
    · subst e
      rw [upN_s, eQ i hij]
      exact hnew i hij
    · rw [eQ i (by omega), eQ j (by omega)]
      exact h6 i j hij (by omega)
  · have hif : i < found := by omega
    rw [eQ i hif] at ho ⊢
    by_cases e : i = k ∧ t = s
    · obtain ⟨rfl, rfl⟩ := e
      exact ⟨found, by omega, upN_s, by rw [nP, eP i hif]; exact jBt_refl _⟩
    · obtain ⟨j, hj, q1, q2⟩ := h7 i t hif ht (by omega) ho
      exact ⟨j, by omega, by rw [eQ j hj]; exact q1, by rw [eP j hj, eP i hif]; exact q2⟩
  · rw [eQ i (by omega)]
    exact h8 i hi1 (by omega)
/-- all steps are through: the next set -/
theorem fI_next {m : Nat} {nd : Nat → Nat} {b k found : Nat} {Q sr bw : Nat → Nat} {π : Nat → List Nat} (h : fI m nd b k m found Q sr bw π) (hg : Q k ≠ 2 ^ (m - 1)) : fI m nd b (k + 1) 0 found Q sr bw π := by
  obtain ⟨h0, h1, h2, h3, h4, h5, h6, h7, h8⟩ := h
  refine ⟨h0, h1, h2, fun i a c => ?_, h4, h5, h6, fun i t hi ht hp hok => h7 i t hi ht (by omega) hok, fun i hi hf => ?_⟩
  · obtain ⟨q1, q2, q3, q4⟩ := h3 i a c
    exact ⟨q1, q2, q3, by omega⟩
  · by_cases e : i = k
    · rw [e]; exact hg
    · exact h8 i (by omega) hf
theorem fI_any {m : Nat} {nd : Nat → Nat} {b k found : Nat} {Q sr bw : Nat → Nat} {π : Nat → List Nat} (h : fI m nd b k 0 found Q sr bw π) : ∀ (P : List Nat) (v : Nat), mP m nd b 0 P v → (k < found ∧ jBt (π k) P) ∨ ∃ j, j < found ∧ Q j = v ∧ jBt (π j) P := by
  obtain ⟨h0, h1, h2, h3, h4, h5, h6, h7, h8⟩ := h
  have key : ∀ (n : Nat) (P : List Nat) (v : Nat), P.length = n → mP m nd b 0 P v → (k < found ∧ jBt (π k) P) ∨ ∃ j, j < found ∧ Q j = v ∧ jBt (π j) P := by
    intro n
    induction n with
    | zero =>
      intro P v hl hP
      rw [List.length_eq_zero_iff.mp hl] at hP ⊢
      simp only [mP] at hP
      exact Or.inr ⟨0, h0, by rw [h1, hP], by rw [h2]; exact jBt_refl _⟩
    | succ n ih =>
      intro P v hl hP
      rcases List.eq_nil_or_concat P with rfl | ⟨P', t, rfl⟩
      · simp at hl
      · rw [List.concat_eq_append] at hP hl ⊢
        obtain ⟨u, hu, ho⟩ := (mP_app _ _ _ _).mp hP
        obtain ⟨ho, hv⟩ := ho
        simp only [mP] at hv
        rcases ih P' u (by simpa using hl) hu with ⟨q1, q2⟩ | ⟨i, hi, ei, bi⟩
        · exact Or.inl ⟨q1, jBt_trans q2 (jLt_bt (jLt_snoc _ _))⟩
        · rcases Nat.lt_or_ge i k with q | q
          · rw [← ei] at ho hv
            obtain ⟨j, hj, e1, e2⟩ := h7 i t hi ho.1 (Or.inl q) ho
            exact Or.inr ⟨j, hj, by rw [e1, hv], jBt_trans e2 (jBt_snoc2 bi)⟩
          · refine Or.inl ⟨by omega, ?_⟩
            have hki : jBt (π k) (π i) := by
              rcases Nat.lt_or_ge k i with z | z
              · exact jLt_bt (h5 k i z hi)
              · rw [show k = i by omega]; exact jBt_refl _
            exact jBt_trans hki (jBt_trans bi (jLt_bt (jLt_snoc _ _)))
  intro P v hP
  exact key P.length P v rfl hP
/-- the goal comes out of the queue: the way to it is the one asked for -/
theorem fI_found {m : Nat} {nd : Nat → Nat} {b k found : Nat} {Q sr bw : Nat → Nat} {π : Nat → List Nat} (h : fI m nd b k 0 found Q sr bw π) (hk : k < found) (hg : Q k = 2 ^ (m - 1)) : mSP m nd b (π k) := by
  refine ⟨by rw [← hg]; exact h.2.2.2.2.1 k hk, fun qs hq => ?_⟩
  rcases fI_any h qs _ hq with ⟨-, q⟩ | ⟨j, hj, ej, bj⟩
  · exact q
  · have e : j = k := by
      have h6 := h.2.2.2.2.2.2.1
      rcases Nat.lt_trichotomy j k with z | z | z
      · exact absurd (ej.trans hg.symm) (h6 j k z hk)
      · exact z
      · exact absurd (hg.trans ej.symm) (h6 k j z hj)
    rw [← e]; exact bj
/-- the queue is through: there is no way -/
theorem fI_none {m : Nat} {nd : Nat → Nat} {b k found : Nat} {Q sr bw : Nat → Nat} {π : Nat → List Nat} (h : fI m nd b k 0 found Q sr bw π) (hk : found ≤ k) : ∀ qs, ¬ mP m nd b 0 qs (2 ^ (m - 1)) := by
  intro qs hq
  rcases fI_any h qs _ hq with ⟨q, -⟩ | ⟨j, hj, ej, -⟩
  · omega
  · exact h.2.2.2.2.2.2.2.2 j (by omega) hj ej
theorem fI_lt {m : Nat} {nd : Nat → Nat} {b k s found : Nat} {Q sr bw : Nat → Nat} {π : Nat → List Nat} (h : fI m nd b k s found Q sr bw π) : ∀ i, i < found → Q i < 2 ^ m := fun i hi => mP_lt _ 0 _ (Nat.two_pow_pos m) (h.2.2.2.2.1 i hi)
/-- different sets are at most 2^m -/
theorem few {N n : Nat} {Q : Nat → Nat} (h1 : ∀ i, i < n → Q i < N) (h2 : ∀ i j, i < j → j < n → Q i ≠ Q j) : n ≤ N := by
  have hnd : ((List.range n).map Q).Nodup := by
    rw [List.Nodup, List.pairwise_map]
    refine List.Pairwise.imp_of_mem ?_ (List.pairwise_lt_range)
    intro a c ha hc hac
    exact h2 a c hac (List.mem_range.mp hc)
  have hs : ∀ x ∈ (List.range n).map Q, x ∈ List.range N := by
    intro x hx
    obtain ⟨i, hi, rfl⟩ := List.mem_map.mp hx
    exact List.mem_range.mpr (h1 i (List.mem_range.mp hi))
  have := List.Nodup.length_le_of_subset hnd hs
  simpa using this
end MOVES
