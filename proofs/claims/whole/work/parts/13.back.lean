section BACK
/-! the class's search, backwards from the goal over the steps that are wanted -/
def wst (nd : Nat → Nat) : Nat → Nat → Nat
  | 0, w => w
  | k + 1, w => wst nd k (if w.testBit k then w ||| nd k else w)
def mW (m : Nat) (nd : Nat → Nat) : Nat := wst nd m (2 ^ (m - 1))
theorem wst_hi {nd : Nat → Nat} : ∀ (k w i : Nat), (∀ j, j < k → nd j < 2 ^ j) → k ≤ i → (wst nd k w).testBit i = w.testBit i
  | 0, _, _, _, _ => rfl
  | k + 1, w, i, h, hi => by
    simp only [wst]
    rw [wst_hi k _ i (fun j hj => h j (by omega)) (by omega)]
    split
    · rw [Nat.testBit_or, tb_big (h k (by omega)) (by omega)]
      simp
    · rfl
theorem wst_up {nd : Nat → Nat} : ∀ (k w i : Nat), w.testBit i = true → (wst nd k w).testBit i = true
  | 0, _, _, h => h
  | k + 1, w, i, h => by
    simp only [wst]
    apply wst_up
    split
    · rw [Nat.testBit_or, h]; rfl
    · exact h
theorem wst_cl {nd : Nat → Nat} : ∀ (k w : Nat), (∀ j, j < k → nd j < 2 ^ j) → ∀ s, s < k → (wst nd k w).testBit s = true → ∀ i, (nd s).testBit i = true → (wst nd k w).testBit i = true
  | 0, _, _, s, hs, _, _, _ => by omega
  | k + 1, w, h, s, hs, hw, i, hi => by
    simp only [wst] at hw ⊢
    by_cases e : s = k
    · subst e
      rw [wst_hi s _ s (fun j hj => h j (by omega)) (Nat.le_refl s)] at hw
      apply wst_up
      by_cases hk : w.testBit s = true
      · rw [if_pos hk, Nat.testBit_or, hi]; simp
      · rw [if_neg hk] at hw; exact absurd hw hk
    · exact wst_cl k _ (fun j hj => h j (by omega)) s (by omega) hw i hi
theorem wst_from {nd : Nat → Nat} : ∀ (k w : Nat), (∀ j, j < k → nd j < 2 ^ j) → ∀ i, (wst nd k w).testBit i = true → w.testBit i = true ∨ ∃ t, t < k ∧ i < t ∧ (wst nd k w).testBit t = true ∧ (nd t).testBit i = true
  | 0, _, _, i, h => Or.inl h
  | k + 1, w, h, i, hi => by
    simp only [wst] at hi ⊢
    rcases wst_from k _ (fun j hj => h j (by omega)) i hi with q | ⟨t, h1, h2, h3, h4⟩
    · by_cases hk : w.testBit k = true
      · rw [if_pos hk, Nat.testBit_or, Bool.or_eq_true] at q
        rcases q with q | q
        · exact Or.inl q
        · refine Or.inr ⟨k, by omega, ?_, ?_, q⟩
          · rcases Nat.lt_or_ge i k with z | z
            · exact z
            · rw [tb_big (h k (by omega)) z] at q; cases q
          · apply wst_up
            rw [if_pos hk, Nat.testBit_or, hk]; rfl
      · rw [if_neg hk] at q
        exact Or.inl q
    · exact Or.inr ⟨t, by omega, h2, h3, h4⟩
theorem wst_lt {nd : Nat → Nat} {m : Nat} : ∀ (k w : Nat), (∀ j, j < k → nd j < 2 ^ j) → k ≤ m → w < 2 ^ m → wst nd k w < 2 ^ m
  | 0, _, _, _, h => h
  | k + 1, w, h, hk, hw => by
    simp only [wst]
    apply wst_lt k _ (fun j hj => h j (by omega)) (by omega)
    split
    · exact Nat.or_lt_two_pow hw (Nat.lt_of_lt_of_le (h k (by omega)) (Nat.pow_le_pow_right (by omega) (by omega)))
    · exact hw
/-- what is wanted: the last step, and with a step all that it needs -/
theorem mW_last {m : Nat} {nd : Nat → Nat} : (mW m nd).testBit (m - 1) = true := wst_up _ _ _ (by rw [Nat.testBit_two_pow]; simp)
theorem mW_cl {m : Nat} {nd : Nat → Nat} (g : mG m nd) {s : Nat} (hs : s < m) (h : (mW m nd).testBit s = true) : nd s &&& mW m nd = nd s := sub_iff.mpr (fun i hi => wst_cl m _ g.2.2 s hs h i hi)
theorem mW_lt {m : Nat} {nd : Nat → Nat} (g : mG m nd) : mW m nd < 2 ^ m := wst_lt m _ g.2.2 (Nat.le_refl m) (Nat.pow_lt_pow_right (by omega) (by have := g.1; omega))
theorem mW_from {m : Nat} {nd : Nat → Nat} (g : mG m nd) {i : Nat} (h : (mW m nd).testBit i = true) : i = m - 1 ∨ ∃ t, t < m ∧ i < t ∧ (mW m nd).testBit t = true ∧ (nd t).testBit i = true := by
  rcases wst_from m _ g.2.2 i h with q | q
  · rw [Nat.testBit_two_pow] at q
    exact Or.inl (of_decide_eq_true q).symm
  · exact Or.inr q
def mPW (m : Nat) (nd : Nat → Nat) (b w S : Nat) (ps : List Nat) (T : Nat) : Prop := mP m nd b S ps T ∧ ∀ s ∈ ps, w.testBit s = true
theorem and_flip_in {S w s : Nat} (h : w.testBit s = true) : (S ^^^ 2 ^ s) &&& w = (S &&& w) ^^^ 2 ^ s := by
  apply Nat.eq_of_testBit_eq
  intro i
  rw [Nat.testBit_and, tb_flip, tb_flip, Nat.testBit_and]
  by_cases e : s = i
  · subst e; simp [h]
  · simp [e]
theorem and_flip_out {S w s : Nat} (h : w.testBit s = false) : (S ^^^ 2 ^ s) &&& w = S &&& w := by
  apply Nat.eq_of_testBit_eq
  intro i
  rw [Nat.testBit_and, tb_flip, Nat.testBit_and]
  by_cases e : s = i
  · subst e; simp [h]
  · simp [e]
theorem bc_and (S w : Nat) : bc (S &&& w) ≤ bc S := bcn_mono (fun i hi => by rw [Nat.testBit_and, Bool.and_eq_true] at hi; exact hi.1) 12
/-- moves of steps that aren't wanted may be left out -/
theorem mP_proj {m : Nat} {nd : Nat → Nat} {b : Nat} (g : mG m nd) : ∀ (ps : List Nat) (S T : Nat), mP m nd b S ps T → mPW m nd b (mW m nd) (S &&& mW m nd) (ps.filter (fun s => (mW m nd).testBit s)) (T &&& mW m nd)
  | [], S, T, h => by
    simp only [mP] at h
    subst h
    exact ⟨rfl, by simp⟩
  | s :: ps, S, T, h => by
    obtain ⟨⟨h1, h2, h3⟩, h4⟩ := h
    have ih := mP_proj g ps _ T h4
    by_cases hw : (mW m nd).testBit s = true
    · rw [and_flip_in hw] at ih
      rw [List.filter_cons_of_pos hw]
      refine ⟨⟨⟨h1, ?_, ?_⟩, ih.1⟩, ?_⟩
      · rw [sub_iff] at h2 ⊢
        have hc := sub_iff.mp (mW_cl g h1 hw)
        intro i hi
        rw [Nat.testBit_and, h2 i hi, hc i hi]; rfl
      · rw [← and_flip_in hw]
        exact Nat.le_trans (bc_and _ _) h3
      · intro t ht
        rcases List.mem_cons.mp ht with rfl | ht
        · exact hw
        · exact ih.2 t ht
    · rw [List.filter_cons_of_neg hw]
      rw [and_flip_out (by simpa using hw)] at ih
      exact ih
def bI (m : Nat) (nd : Nat → Nat) (b w k s n : Nat) (Q lf : Nat → Nat) : Prop :=
  (0 < n ∧ Q 0 = 2 ^ (m - 1) ∧ lf (2 ^ (m - 1)) = 1) ∧
  (∀ i, i < n → Q i < 2 ^ m ∧ bc (Q i) ≤ b ∧ lf (Q i) ≠ 0) ∧
  (∀ S, S < 2 ^ m → lf S ≠ 0 → ∃ i, i < n ∧ Q i = S) ∧
  (∀ i j, i < j → j < n → Q i ≠ Q j) ∧
  (∀ i, i < n → ∃ ps, mPW m nd b w (Q i) ps (2 ^ (m - 1)) ∧ ps.length + 1 = lf (Q i)) ∧
  (∀ i j, i ≤ j → j < n → lf (Q i) ≤ lf (Q j)) ∧
  (k < n → ∀ j, j < n → lf (Q j) ≤ lf (Q k) + 1) ∧
  (∀ i t, i < n → (i < k ∨ (i = k ∧ t < s)) → w.testBit t = true → mok m nd b (Q i) t → lf (Q i ^^^ 2 ^ t) ≠ 0 ∧ lf (Q i ^^^ 2 ^ t) ≤ lf (Q i) + 1)
theorem bc_two {k : Nat} (h : k < 12) : bc (2 ^ k) = 1 := by
  have := bc_up (S := 0) h (by simp)
  rw [Nat.zero_xor] at this
  rw [this]; decide
theorem bI_0 {m : Nat} {nd : Nat → Nat} {b w : Nat} {Q lf : Nat → Nat} (g : mG m nd) (hb : 1 ≤ b) (hQ : Q 0 = 2 ^ (m - 1)) (hl : ∀ S, S < 2 ^ m → lf S = if S = 2 ^ (m - 1) then 1 else 0) : bI m nd b w 0 0 1 Q lf := by
  have hg : 2 ^ (m - 1) < 2 ^ m := Nat.pow_lt_pow_right (by omega) (by have := g.1; omega)
  have l1 : lf (2 ^ (m - 1)) = 1 := by rw [hl _ hg]; simp
  refine ⟨⟨by omega, hQ, l1⟩, ?_, ?_, ?_, ?_, ?_, ?_, ?_⟩
  · intro i hi
    rw [show i = 0 by omega, hQ]
    exact ⟨hg, by rw [bc_two (by have := g.1; have := g.2.1; omega)]; exact hb, by rw [l1]; omega⟩
  · intro S hS h0
    rw [hl S hS] at h0
    by_cases e : S = 2 ^ (m - 1)
    · exact ⟨0, by omega, by rw [hQ, e]⟩
    · rw [if_neg e] at h0; exact absurd rfl h0
  · intro i j h1 h2; omega
  · intro i hi
    rw [show i = 0 by omega, hQ]
    exact ⟨[], ⟨rfl, by simp⟩, by rw [l1]; rfl⟩
  · intro i j h1 h2
    rw [show i = 0 by omega, show j = 0 by omega]
    exact Nat.le_refl _
  · intro _ j hj
    rw [show j = 0 by omega]; omega
  · intro i t _ h; omega
theorem bI_skip {m : Nat} {nd : Nat → Nat} {b w k s n : Nat} {Q lf : Nat → Nat} (h : bI m nd b w k s n Q lf) (hk : k < n) (hno : w.testBit s = true → mok m nd b (Q k) s → lf (Q k ^^^ 2 ^ s) ≠ 0) : bI m nd b w k (s + 1) n Q lf := by
  obtain ⟨h0, h1, h2, h3, h4, h5, h6, h7⟩ := h
  refine ⟨h0, h1, h2, h3, h4, h5, h6, fun i t hi hp hw ho => ?_⟩
  by_cases e : i = k ∧ t = s
  · obtain ⟨rfl, rfl⟩ := e
    have hn := hno hw ho
    refine ⟨hn, ?_⟩
    obtain ⟨j, hj, ej⟩ := h2 _ (flip_lt (h1 i hi).1 ho.1) hn
    rw [← ej]
    exact h6 hk j hj
  · exact h7 i t hi (by omega) hw ho
theorem bI_new {m : Nat} {nd : Nat → Nat} {b w k s n : Nat} {Q lf : Nat → Nat} (g : mG m nd) (h : bI m nd b w k s n Q lf) (hk : k < n) (hw : w.testBit s = true) (ho : mok m nd b (Q k) s) (hz : lf (Q k ^^^ 2 ^ s) = 0) : bI m nd b w k (s + 1) (n + 1) (upN Q n (Q k ^^^ 2 ^ s)) (upN lf (Q k ^^^ 2 ^ s) (lf (Q k) + 1)) := by
  obtain ⟨h0, h1, h2, h3, h4, h5, h6, h7⟩ := h
  have hne : ∀ i, i < n → Q i ≠ Q k ^^^ 2 ^ s := fun i hi e => (h1 i hi).2.2 (by rw [e]; exact hz)
  have eQ : ∀ i, i < n → upN Q n (Q k ^^^ 2 ^ s) i = Q i := fun i hi => upN_n (by omega)
  have eL : ∀ i, i < n → upN lf (Q k ^^^ 2 ^ s) (lf (Q k) + 1) (Q i) = lf (Q i) := fun i hi => upN_n (hne i hi)
  have hT := flip_lt (h1 k hk).1 ho.1
  refine ⟨⟨by omega, by rw [eQ 0 h0.1, h0.2.1], ?_⟩, ?_, ?_, ?_, ?_, ?_, ?_, ?_⟩
  · rw [← h0.2.1, eL 0 h0.1, h0.2.1]; exact h0.2.2
  · intro i hi
    by_cases e : i = n
    · subst e
      rw [upN_s, upN_s]
      exact ⟨hT, ho.2.2, by omega⟩
    · rw [eQ i (by omega), eL i (by omega)]
      exact h1 i (by omega)
  · intro S hS hne0
    by_cases e : S = Q k ^^^ 2 ^ s
    · exact ⟨n, by omega, by rw [upN_s, e]⟩
    · rw [upN_n e] at hne0
      obtain ⟨i, hi, ei⟩ := h2 S hS hne0
      exact ⟨i, by omega, by rw [eQ i hi, ei]⟩
  · intro i j hij hj
    by_cases e : j = n
    · subst e
      rw [upN_s, eQ i hij]
      exact hne i hij
    · rw [eQ i (by omega), eQ j (by omega)]
      exact h3 i j hij (by omega)
  · intro i hi
    by_cases e : i = n
    · subst e
      rw [upN_s, upN_s]
      obtain ⟨ps, hp, hl⟩ := h4 k hk
      refine ⟨s :: ps, ⟨⟨⟨ho.1, need_flip g ho.1 ho.2.1, ?_⟩, ?_⟩, ?_⟩, ?_⟩
      · rw [flip_flip]; exact (h1 k hk).2.1
      · rw [flip_flip]; exact hp.1
      · intro t ht
        rcases List.mem_cons.mp ht with rfl | ht
        · exact hw
        · exact hp.2 t ht
      · rw [List.length_cons, hl]
    · rw [eQ i (by omega), eL i (by omega)]
      exact h4 i (by omega)
  · intro i j hij hj
    by_cases e : j = n
    · subst e
      rw [upN_s, upN_s]
      by_cases e2 : i = j
      · subst e2; rw [upN_s, upN_s]; exact Nat.le_refl _
      · rw [eQ i (by omega), eL i (by omega)]
        exact h6 hk i (by omega)
    · rw [eQ i (by omega), eQ j (by omega), eL i (by omega), eL j (by omega)]
      exact h5 i j hij (by omega)
  · intro _ j hj
    rw [eQ k hk, eL k hk]
    by_cases e : j = n
    · subst e; rw [upN_s, upN_s]; exact Nat.le_refl _
    · rw [eQ j (by omega), eL j (by omega)]
      exact h6 hk j (by omega)
  · intro i t hi hp hwt hot
    have hin : i < n := by omega
    rw [eQ i hin] at hot ⊢
    rw [eL i hin]
    by_cases e : Q i ^^^ 2 ^ t = Q k ^^^ 2 ^ s
    · rw [e, upN_s]
      by_cases e2 : i = k
      · subst e2; omega
      · have := h7 i t hin (by omega) hwt hot
        rw [e] at this
        exact absurd hz this.1
    · rw [upN_n e]
      by_cases e2 : i = k ∧ t = s
      · obtain ⟨rfl, rfl⟩ := e2; exact absurd rfl e
      · exact h7 i t hin (by omega) hwt hot
theorem bI_next {m : Nat} {nd : Nat → Nat} {b w k n : Nat} {Q lf : Nat → Nat} (hw : w < 2 ^ m) (h : bI m nd b w k m n Q lf) (hk : k < n) : bI m nd b w (k + 1) 0 n Q lf := by
  obtain ⟨h0, h1, h2, h3, h4, h5, h6, h7⟩ := h
  refine ⟨h0, h1, h2, h3, h4, h5, fun hk1 j hj => Nat.le_trans (h6 hk j hj) (by have := h5 k (k + 1) (by omega) hk1; omega), fun i t hi hp hwt ho => ?_⟩
  exact h7 i t hi (by have := ho.1; omega) hwt ho
theorem bI_any {m : Nat} {nd : Nat → Nat} {b w k n : Nat} {Q lf : Nat → Nat} (g : mG m nd) (h : bI m nd b w k 0 n Q lf) : ∀ (ps : List Nat) (S : Nat), S < 2 ^ m → bc S ≤ b → mPW m nd b w S ps (2 ^ (m - 1)) → (lf S ≠ 0 ∧ lf S ≤ ps.length + 1) ∨ (k < n ∧ lf (Q k) ≤ ps.length)
  | [], S, hS, hb, hp => by
    have e : S = 2 ^ (m - 1) := hp.1
    rw [e, h.1.2.2]
    exact Or.inl ⟨by omega, by simp⟩
  | s :: ps, S, hS, hb, hp => by
    obtain ⟨⟨ho, hp1⟩, hp2⟩ := hp
    have hS1 := flip_lt hS ho.1
    rcases bI_any g h ps _ hS1 ho.2.2 ⟨hp1, fun t ht => hp2 t (List.mem_cons_of_mem _ ht)⟩ with ⟨q1, q2⟩ | ⟨q1, q2⟩
    · obtain ⟨h0, h1, h2, h3, h4, h5, h6, h7⟩ := h
      obtain ⟨i, hi, ei⟩ := h2 _ hS1 q1
      rcases Nat.lt_or_ge i k with z | z
      · have := h7 i s hi (Or.inl z) (hp2 s List.mem_cons_self) (by rw [ei]; exact ⟨ho.1, need_flip g ho.1 ho.2.1, by rw [flip_flip]; exact hb⟩)
        rw [ei, flip_flip] at this
        exact Or.inl ⟨this.1, by rw [List.length_cons]; omega⟩
      · have := h5 k i z hi
        rw [ei] at this
        exact Or.inr ⟨by omega, by rw [List.length_cons]; omega⟩
    · exact Or.inr ⟨q1, by rw [List.length_cons]; omega⟩
/-- the search has ended with the empty set found -/
def bE (m : Nat) (nd : Nat → Nat) (b k n : Nat) (Q lf : Nat → Nat) : Prop := bI m nd b (mW m nd) k 0 n Q lf ∧ lf 0 ≠ 0
theorem bE_edge {m : Nat} {nd : Nat → Nat} {b k n : Nat} {Q lf : Nat → Nat} (g : mG m nd) (h : bE m nd b k n Q lf) {S p : Nat} {ps : List Nat} (hS : S < 2 ^ m) (hr : lf S = ps.length + 2) (hle : lf S ≤ lf 0) (hp : mPW m nd b (mW m nd) S (p :: ps) (2 ^ (m - 1))) : lf (S ^^^ 2 ^ p) = ps.length + 1 := by
  obtain ⟨hI, hz⟩ := h
  obtain ⟨⟨ho, hp1⟩, hp2⟩ := hp
  have hS1 := flip_lt hS ho.1
  have any := bI_any g hI ps _ hS1 ho.2.2 ⟨hp1, fun t ht => hp2 t (List.mem_cons_of_mem _ ht)⟩
  obtain ⟨h0, h1, h2, h3, h4, h5, h6, h7⟩ := hI
  have hk0 : k < n → lf 0 ≤ lf (Q k) + 1 := fun hk => by
    obtain ⟨j, hj, ej⟩ := h2 0 (Nat.two_pow_pos m) hz
    rw [← ej]; exact h6 hk j hj
  obtain ⟨iS, hiS, eiS⟩ := h2 S hS (by omega)
  have hbS : bc S ≤ b := by rw [← eiS]; exact (h1 iS hiS).2.1
  rcases any with ⟨q1, q2⟩ | ⟨q1, q2⟩
  · obtain ⟨i, hi, ei⟩ := h2 _ hS1 q1
    rcases Nat.lt_or_ge i k with z | z
    · have := h7 i p hi (Or.inl z) (hp2 p List.mem_cons_self) (by rw [ei]; exact ⟨ho.1, need_flip g ho.1 ho.2.1, by rw [flip_flip]; exact hbS⟩)
      rw [ei, flip_flip] at this
      omega
    · have a1 := h5 k i z hi
      have a2 := hk0 (by omega)
      rw [ei] at a1
      omega
  · have a2 := hk0 q1
    omega
theorem bE_path {m : Nat} {nd : Nat → Nat} {b k n : Nat} {Q lf : Nat → Nat} (h : bE m nd b k n Q lf) {S : Nat} (hS : S < 2 ^ m) (hz : lf S ≠ 0) : ∃ ps, mPW m nd b (mW m nd) S ps (2 ^ (m - 1)) ∧ ps.length + 1 = lf S := by
  obtain ⟨i, hi, ei⟩ := h.1.2.2.1 S hS hz
  rw [← ei]
  exact h.1.2.2.2.2.1 i hi
/-- a way that goes each time by the first step that comes nearer -/
def mGr (m : Nat) (nd lf : Nat → Nat) : Nat → List Nat → Prop
  | S, [] => lf S = 1
  | S, s :: γ => s < m ∧ nd s &&& S = nd s ∧ lf (S ^^^ 2 ^ s) + 1 = lf S ∧ lf (S ^^^ 2 ^ s) ≠ 0 ∧ (∀ t, t < s → ¬ (nd t &&& S = nd t ∧ lf (S ^^^ 2 ^ t) + 1 = lf S)) ∧ mGr m nd lf (S ^^^ 2 ^ s) γ
theorem mGr_len {m : Nat} {nd lf : Nat → Nat} : ∀ (γ : List Nat) (S : Nat), mGr m nd lf S γ → lf S = γ.length + 1
  | [], S, h => h
  | s :: γ, S, h => by
    have := mGr_len γ _ h.2.2.2.2.2
    rw [List.length_cons]
    have := h.2.2.1
    omega
/-- there is a step that comes nearer -/
theorem bE_step {m : Nat} {nd : Nat → Nat} {b k n : Nat} {Q lf : Nat → Nat} (g : mG m nd) (h : bE m nd b k n Q lf) {S : Nat} (hS : S < 2 ^ m) (h2 : 2 ≤ lf S) (hle : lf S ≤ lf 0) : ∃ p, p < m ∧ nd p &&& S = nd p ∧ lf (S ^^^ 2 ^ p) + 1 = lf S := by
  obtain ⟨ps, hp, hl⟩ := bE_path h hS (by omega)
  cases ps with
  | nil => simp at hl; omega
  | cons p ps =>
    have := bE_edge g h hS (by rw [← hl]; rfl) hle hp
    refine ⟨p, hp.1.1.1, hp.1.1.2.1, ?_⟩
    rw [List.length_cons] at hl
    omega
theorem mGr_valid {m : Nat} {nd : Nat → Nat} {b k n : Nat} {Q lf : Nat → Nat} (h : bE m nd b k n Q lf) : ∀ (γ : List Nat) (S : Nat), S < 2 ^ m → mGr m nd lf S γ → mP m nd b S γ (2 ^ (m - 1))
  | [], S, hS, hg => by
    have hg' : lf S = 1 := hg
    obtain ⟨ps, hp, hl⟩ := bE_path h hS (by omega)
    have : ps = [] := List.length_eq_zero_iff.mp (by omega)
    subst this
    exact hp.1
  | s :: γ, S, hS, hg => by
    have hS1 := flip_lt hS hg.1
    obtain ⟨i, hi, ei⟩ := h.1.2.2.1 _ hS1 hg.2.2.2.1
    refine ⟨⟨hg.1, hg.2.1, ?_⟩, mGr_valid h γ _ hS1 hg.2.2.2.2.2⟩
    rw [← ei]
    exact (h.1.2.1 i hi).2.1
theorem mGr_first {m : Nat} {nd : Nat → Nat} {b k n : Nat} {Q lf : Nat → Nat} (g : mG m nd) (h : bE m nd b k n Q lf) : ∀ (γ P : List Nat) (S : Nat), S < 2 ^ m → mGr m nd lf S γ → lf S ≤ lf 0 → P.length = γ.length → mPW m nd b (mW m nd) S P (2 ^ (m - 1)) → jval γ ≤ jval P
  | [], P, S, hS, hg, hle, hl, hP => by simp [jval]
  | s :: γ, [], S, hS, hg, hle, hl, hP => by simp at hl
  | s :: γ, p :: P, S, hS, hg, hle, hl, hP => by
    have hlen := mGr_len _ _ hg
    have hl' : P.length = γ.length := by simpa using hl
    have he := bE_edge g h hS (by rw [hlen, List.length_cons, hl']) hle hP
    rw [List.length_cons] at hlen
    have hps : ¬ p < s := fun z => hg.2.2.2.2.1 p z ⟨hP.1.1.2.1, by omega⟩
    rcases Nat.lt_or_ge s p with z | z
    · refine Nat.le_of_lt (jval_cons_lt hl'.symm (fun x hx => ?_) z)
      have hv := mGr_valid h γ _ (flip_lt hS hg.1) hg.2.2.2.2.2
      have := mP_in _ _ _ hv x hx
      have := g.2.1
      omega
    · have e : s = p := by omega
      subst e
      have ih := mGr_first g h γ P _ (flip_lt hS hg.1) hg.2.2.2.2.2 (by have := hg.2.2.1; omega) hl' ⟨hP.1.2, fun t ht => hP.2 t (List.mem_cons_of_mem _ ht)⟩
      simp only [jval, hl']
      omega
theorem bE_found {m : Nat} {nd : Nat → Nat} {b k n : Nat} {Q lf : Nat → Nat} (g : mG m nd) (h : bE m nd b k n Q lf) {γ : List Nat} (hg : mGr m nd lf 0 γ) : mSP m nd b γ := by
  have h0 : (0 : Nat) < 2 ^ m := Nat.two_pow_pos m
  refine ⟨mGr_valid h γ 0 h0 hg, fun qs hq => ?_⟩
  have hpr := mP_proj g qs 0 _ hq
  have eg : 2 ^ (m - 1) &&& mW m nd = 2 ^ (m - 1) := sub_iff.mpr (fun i hi => by
    rw [Nat.testBit_two_pow] at hi
    rw [← of_decide_eq_true hi]
    exact mW_last)
  rw [Nat.zero_and, eg] at hpr
  have hlen := mGr_len γ 0 hg
  have hfl : (qs.filter (fun s => (mW m nd).testBit s)).length ≤ qs.length := List.length_filter_le _ _
  have hb0 : bc 0 ≤ b := by have : bc 0 = 0 := by decide
                            omega
  have hge : γ.length ≤ (qs.filter (fun s => (mW m nd).testBit s)).length := by
    rcases bI_any g h.1 _ 0 h0 hb0 hpr with ⟨-, q⟩ | ⟨q1, q2⟩
    · omega
    · obtain ⟨j, hj, ej⟩ := h.1.2.2.1 0 h0 h.2
      have := h.1.2.2.2.2.2.2.1 q1 j hj
      rw [ej] at this
      omega
  rcases Nat.lt_or_ge γ.length qs.length with z | z
  · exact Or.inl z
  · have el : (qs.filter (fun s => (mW m nd).testBit s)).length = qs.length := by omega
    have ef : qs.filter (fun s => (mW m nd).testBit s) = qs := List.Sublist.eq_of_length List.filter_sublist el
    rw [ef] at hpr
    exact Or.inr ⟨by omega, mGr_first g h γ qs 0 h0 hg (Nat.le_refl _) (by omega) hpr⟩
theorem bI_none {m : Nat} {nd : Nat → Nat} {b k n : Nat} {Q lf : Nat → Nat} (g : mG m nd) (h : bI m nd b (mW m nd) k 0 n Q lf) (hk : n ≤ k) (hz : lf 0 = 0) : ∀ qs, ¬ mP m nd b 0 qs (2 ^ (m - 1)) := by
  intro qs hq
  have h0 : (0 : Nat) < 2 ^ m := Nat.two_pow_pos m
  have hpr := mP_proj g qs 0 _ hq
  have eg : 2 ^ (m - 1) &&& mW m nd = 2 ^ (m - 1) := sub_iff.mpr (fun i hi => by
    rw [Nat.testBit_two_pow] at hi
    rw [← of_decide_eq_true hi]
    exact mW_last)
  rw [Nat.zero_and, eg] at hpr
  rcases bI_any g h _ 0 h0 (by have : bc 0 = 0 := by decide
                               omega) hpr with ⟨q, -⟩ | ⟨q, -⟩
  · exact q hz
  · omega
/-! how few marks may do -/
theorem mP_moves {m : Nat} {nd : Nat → Nat} {b : Nat} (g : mG m nd) : ∀ (ps : List Nat) (S T s : Nat), mP m nd b S ps T → bc S ≤ b → S.testBit s = false → T.testBit s = true → ∃ U, U.testBit s = false ∧ mok m nd b U s ∧ ∀ i, (nd s).testBit i = true → U.testBit i = true
  | [], S, T, s, h, _, h1, h2 => by
    simp only [mP] at h
    subst h
    rw [h1] at h2; cases h2
  | t :: ps, S, T, s, h, hb, h1, h2 => by
    by_cases e : t = s
    · subst e
      exact ⟨S, h1, h.1, sub_iff.mp h.1.2.1⟩
    · exact mP_moves g ps _ T s h.2 h.1.2.2 (by rw [tb_flip, h1]; simp [e]) h2
theorem mP_split {m : Nat} {nd : Nat → Nat} {b : Nat} : ∀ (ps : List Nat) (S T s : Nat), mP m nd b S ps T → S.testBit s = false → T.testBit s = true → ∃ (p1 : List Nat) (U : Nat), mP m nd b S p1 U ∧ U.testBit s = false ∧ mok m nd b U s
  | [], S, T, s, h, h1, h2 => by
    simp only [mP] at h
    subst h
    rw [h1] at h2; cases h2
  | t :: ps, S, T, s, h, h1, h2 => by
    by_cases e : t = s
    · subst e
      exact ⟨[], S, rfl, h1, h.1⟩
    · obtain ⟨p1, U, q1, q2, q3⟩ := mP_split ps _ T s h.2 (by rw [tb_flip, h1]; simp [e]) h2
      exact ⟨t :: p1, U, ⟨h.1, q1⟩, q2, q3⟩
/-- each step that is wanted is marked at some time -/
theorem mW_marked {m : Nat} {nd : Nat → Nat} {b : Nat} {ps : List Nat} (g : mG m nd) (h : mP m nd b 0 ps (2 ^ (m - 1))) : ∀ (d s : Nat), m ≤ s + d → s < m → (mW m nd).testBit s = true → ∃ (p1 : List Nat) (U : Nat), mP m nd b 0 p1 U ∧ U.testBit s = false ∧ mok m nd b U s
  | 0, s, h1, h2, _ => by omega
  | d + 1, s, h1, h2, hw => by
    rcases mW_from g hw with e | ⟨t, t1, t2, t3, t4⟩
    · exact mP_split ps 0 _ s h (by simp) (by rw [Nat.testBit_two_pow]; simp [e])
    · obtain ⟨p1, U, q1, q2, q3⟩ := mW_marked g h d t (by omega) t1 t3
      exact mP_split p1 0 U s q1 (by simp) (sub_iff.mp q3.2.1 s t4)
theorem mW_few {m : Nat} {nd : Nat → Nat} {b : Nat} {ps : List Nat} (g : mG m nd) (h : mP m nd b 0 ps (2 ^ (m - 1))) {s : Nat} (hs : s < m) (hw : (mW m nd).testBit s = true) : 1 + bc (nd s) ≤ b := by
  obtain ⟨p1, U, q1, q2, q3⟩ := mW_marked g h m s (by omega) hs hw
  have h1 : bc (nd s) ≤ bc U := bcn_mono (sub_iff.mp q3.2.1) 12
  have h2 := bc_up (S := U) (s := s) (by have := g.2.1; omega) q2
  have := q3.2.2
  omega
/-- with a mark for each step there is a way -/
theorem tb_ones (k i : Nat) : (2 ^ k - 1).testBit i = decide (i < k) := Nat.testBit_two_pow_sub_one k i
theorem mP_upto {m : Nat} {nd : Nat → Nat} (g : mG m nd) : ∀ k, k ≤ m → ∃ ps, mP m nd m 0 ps (2 ^ k - 1)
  | 0, _ => ⟨[], rfl⟩
  | k + 1, hk => by
    obtain ⟨ps, hp⟩ := mP_upto g k (by omega)
    have e : (2 ^ k - 1) ^^^ 2 ^ k = 2 ^ (k + 1) - 1 := by
      apply Nat.eq_of_testBit_eq
      intro i
      rw [tb_flip, tb_ones, tb_ones]
      by_cases h1 : i < k <;> by_cases h2 : k = i <;> simp [h1, h2] <;> omega
    refine ⟨ps ++ [k], (mP_app _ _ _ _).mpr ⟨_, hp, ⟨by omega, ?_, ?_⟩, e⟩⟩
    · rw [sub_iff]
      intro i hi
      rw [tb_ones]
      rcases Nat.lt_or_ge i k with z | z
      · simp [z]
      · rw [tb_big (g.2.2 k (by omega)) z] at hi; cases hi
    · rw [e]
      exact bc_le g.2.1 (by have := Nat.two_pow_pos (k + 1); have := Nat.pow_le_pow_right (show 2 > 0 by omega) hk; omega)
theorem tb_top (m k i : Nat) (h : k < m) : (2 ^ (m - 1) ^^^ (2 ^ k - 1)).testBit i = (decide (m - 1 = i) || decide (i < k)) := by
  rw [Nat.testBit_xor, Nat.testBit_two_pow, tb_ones]
  by_cases h1 : m - 1 = i <;> by_cases h2 : i < k <;> simp [h1, h2] <;> omega
theorem mP_back {m : Nat} {nd : Nat → Nat} (g : mG m nd) : ∀ k, k < m → ∃ ps, mP m nd m (2 ^ (m - 1) ^^^ (2 ^ k - 1)) ps (2 ^ (m - 1))
  | 0, _ => ⟨[], by simp [mP]⟩
  | k + 1, hk => by
    obtain ⟨ps, hp⟩ := mP_back g k (by omega)
    have e : (2 ^ (m - 1) ^^^ (2 ^ (k + 1) - 1)) ^^^ 2 ^ k = 2 ^ (m - 1) ^^^ (2 ^ k - 1) := by
      apply Nat.eq_of_testBit_eq
      intro i
      rw [tb_flip, tb_top m (k + 1) i hk, tb_top m k i (by omega)]
      by_cases h1 : m - 1 = i <;> by_cases h2 : i < k <;> by_cases h3 : k = i <;> simp [h1, h2, h3] <;> omega
    have hlt : 2 ^ (m - 1) ^^^ (2 ^ k - 1) < 2 ^ m := Nat.xor_lt_two_pow (Nat.pow_lt_pow_right (by omega) (by omega)) (by have := Nat.pow_lt_pow_right (show 1 < 2 by omega) (show k < m by omega); have := Nat.two_pow_pos k; omega)
    refine ⟨k :: ps, ⟨by omega, ?_, ?_⟩, by rw [e]; exact hp⟩
    · rw [sub_iff]
      intro i hi
      rw [tb_top m (k + 1) i hk]
      rcases Nat.lt_or_ge i k with z | z
      · simp [show i < k + 1 by omega]
      · rw [tb_big (g.2.2 k (by omega)) z] at hi; cases hi
    · rw [e]
      exact bc_le g.2.1 hlt
theorem mP_full {m : Nat} {nd : Nat → Nat} (g : mG m nd) : ∃ ps, mP m nd m 0 ps (2 ^ (m - 1)) := by
  have hm := g.1
  obtain ⟨p1, h1⟩ := mP_upto g m (Nat.le_refl m)
  obtain ⟨p2, h2⟩ := mP_back g (m - 1) (by omega)
  refine ⟨p1 ++ p2, (mP_app _ _ _ _).mpr ⟨_, h1, ?_⟩⟩
  have e : 2 ^ m - 1 = 2 ^ (m - 1) ^^^ (2 ^ (m - 1) - 1) := by
    apply Nat.eq_of_testBit_eq
    intro i
    rw [tb_ones, tb_top m (m - 1) i (by omega)]
    by_cases h1 : m - 1 = i <;> by_cases h2 : i < m - 1 <;> simp [h1, h2] <;> omega
  rw [e]
  exact h2
/-- more marks do no harm -/
theorem mP_more {m : Nat} {nd : Nat → Nat} {b c : Nat} (h : b ≤ c) : ∀ (ps : List Nat) (S T : Nat), mP m nd b S ps T → mP m nd c S ps T
  | [], _, _, q => q
  | s :: ps, S, T, q => ⟨⟨q.1.1, q.1.2.1, Nat.le_trans q.1.2.2 h⟩, mP_more h ps _ T q.2⟩
/-- more marks than steps are as many -/
theorem mP_less {m : Nat} {nd : Nat → Nat} {b : Nat} (hm : m ≤ 12) : ∀ (ps : List Nat) (S T : Nat), S < 2 ^ m → mP m nd b S ps T → mP m nd (min b m) S ps T
  | [], _, _, _, q => q
  | s :: ps, S, T, hS, q => ⟨⟨q.1.1, q.1.2.1, Nat.le_min.mpr ⟨q.1.2.2, bc_le hm (flip_lt hS q.1.1)⟩⟩, mP_less hm ps _ T (flip_lt hS q.1.1) q.2⟩
theorem mSP_min {m : Nat} {nd : Nat → Nat} {b : Nat} (hm : m ≤ 12) (ps : List Nat) : mSP m nd b ps ↔ mSP m nd (min b m) ps := by
  have a : ∀ qs, mP m nd b 0 qs (2 ^ (m - 1)) ↔ mP m nd (min b m) 0 qs (2 ^ (m - 1)) := fun qs => ⟨mP_less hm qs 0 _ (Nat.two_pow_pos m), mP_more (Nat.min_le_left b m) qs 0 _⟩
  unfold mSP
  rw [a]
  exact ⟨fun h => ⟨h.1, fun qs hq => h.2 qs ((a qs).mpr hq)⟩, fun h => ⟨h.1, fun qs hq => h.2 qs ((a qs).mp hq)⟩⟩
end BACK
