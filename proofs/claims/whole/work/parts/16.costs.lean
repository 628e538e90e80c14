section COSTS
/-! how many products a form has at most; the reference's rounds -/
theorem pc_cand {n f g : Nat} (h : f < 2 ^ 2 ^ (n + 1)) (hg : g < 2 ^ 2 ^ n) : pc (n + 1) f ≤ pc n g + pc n (f / 2 ^ 2 ^ n ^^^ g) + pc n (f % 2 ^ 2 ^ n ^^^ g) := by
  have b := (pCand_bt h hg).2
  have l : (pCand n f g).length = pc n g + pc n (f / 2 ^ 2 ^ n ^^^ g) + pc n (f % 2 ^ 2 ^ n ^^^ g) := pJ_len _ _ _ _
  unfold jBt at b
  rw [l] at b
  unfold pc at b ⊢
  omega
theorem pc_rep {n f : Nat} (h : f < 2 ^ 2 ^ n) {ps : List Nat} (hp : ∀ p ∈ ps, p < 3 ^ n) (hX : pX n ps = f) : pc n f ≤ ps.length := by
  have b := pF_bt h hp hX
  unfold jBt at b
  unfold pc
  omega
def ub2 (f : Nat) : Nat := if f = 0 then 0 else if (List.range 9).any (fun p => pfn 2 p == f) then 1 else 2
theorem two2 : ∀ f, f < 16 → ∃ p, p < 9 ∧ ∃ q, q < 9 ∧ pfn 2 p ^^^ pfn 2 q = f := by decide +kernel
theorem pc2_ub {f : Nat} (h : f < 16) : pc 2 f ≤ ub2 f := by
  unfold ub2
  split
  · rename_i e
    rw [e, pc_0]; exact Nat.le_refl 0
  · split
    · rename_i e
      obtain ⟨p, hp, hq⟩ := List.any_eq_true.mp e
      exact pc_rep (n := 2) h (ps := [p]) (by simpa using hp) (by simp [pX]; simpa using hq)
    · obtain ⟨p, hp, q, hq, e⟩ := two2 f h
      exact pc_rep (n := 2) h (ps := [p, q]) (by simp [hp, hq]) (by simp [pX, e])
theorem three : ∀ a, a < 16 → ∀ b, b < 16 → ∃ g, g < 16 ∧ ub2 g + ub2 (a ^^^ g) + ub2 (b ^^^ g) ≤ 3 := by decide +kernel
theorem pc0_le {f : Nat} (h : f < 2 ^ 2 ^ 0) : pc 0 f ≤ 1 := by
  have h' : f < 2 := h
  rcases (show f = 0 ∨ f = 1 by omega) with rfl | rfl
  · rw [pc_0]; omega
  · exact pc_rep (n := 0) h (ps := [0]) (by simp) rfl
theorem pc1_le {f : Nat} (h : f < 2 ^ 2 ^ 1) : pc 1 f ≤ 2 := by
  obtain ⟨h1, h2⟩ := p_half (n := 0) h
  have c : pc 1 f ≤ pc 0 0 + pc 0 (f / 2 ^ 2 ^ 0 ^^^ 0) + pc 0 (f % 2 ^ 2 ^ 0 ^^^ 0) := pc_cand (n := 0) h (p_pos 0)
  rw [Nat.xor_zero, Nat.xor_zero, pc_0] at c
  have := pc0_le h1
  have := pc0_le h2
  omega
theorem pc2_le {f : Nat} (h : f < 2 ^ 2 ^ 2) : pc 2 f ≤ 2 := by
  have := pc2_ub (show f < 16 from h)
  unfold ub2 at this
  split at this
  · omega
  · split at this <;> omega
theorem pc3_le {f : Nat} (h : f < 2 ^ 2 ^ 3) : pc 3 f ≤ 3 := by
  obtain ⟨h1, h2⟩ := p_half (n := 2) h
  obtain ⟨g, hg, e⟩ := three _ (show f / 2 ^ 2 ^ 2 < 16 from h1) _ (show f % 2 ^ 2 ^ 2 < 16 from h2)
  have c : pc 3 f ≤ pc 2 g + pc 2 (f / 2 ^ 2 ^ 2 ^^^ g) + pc 2 (f % 2 ^ 2 ^ 2 ^^^ g) := pc_cand (n := 2) h (show g < 2 ^ 2 ^ 2 from hg)
  have a1 := pc2_ub hg
  have a2 := pc2_ub (show f / 2 ^ 2 ^ 2 ^^^ g < 16 from Nat.xor_lt_two_pow (n := 4) h1 hg)
  have a3 := pc2_ub (show f % 2 ^ 2 ^ 2 ^^^ g < 16 from Nat.xor_lt_two_pow (n := 4) h2 hg)
  omega
theorem pc_le3 {n f : Nat} (hn : n ≤ 3) (h : f < 2 ^ 2 ^ n) : pc n f ≤ 3 := by
  rcases (show n = 0 ∨ n = 1 ∨ n = 2 ∨ n = 3 by omega) with rfl | rfl | rfl | rfl
  · have := pc0_le h; omega
  · have := pc1_le h; omega
  · have := pc2_le h; omega
  · exact pc3_le h
theorem pc_le6 {n f : Nat} (hn : n ≤ 4) (h : f < 2 ^ 2 ^ n) : pc n f ≤ 6 := by
  rcases (show n ≤ 3 ∨ n = 4 by omega) with q | rfl
  · have := pc_le3 q h; omega
  · obtain ⟨h1, h2⟩ := p_half (n := 3) h
    have c : pc 4 f ≤ pc 3 0 + pc 3 (f / 2 ^ 2 ^ 3 ^^^ 0) + pc 3 (f % 2 ^ 2 ^ 3 ^^^ 0) := pc_cand (n := 3) h (p_pos 3)
    rw [Nat.xor_zero, Nat.xor_zero, pc_0] at c
    have := pc3_le h1
    have := pc3_le h2
    omega
theorem pF_6 {n f : Nat} (hn : n ≤ 4) (h : f < 2 ^ 2 ^ n) : (pF n f).length ≤ 6 := pc_le6 hn h
/-- the reference's costs in round r, at function f and product p; d j is the cost and one, 0 where it isn't known -/
def cR (n r f p mo : Nat) (d d0 : Nat → Nat) : Prop :=
  (∀ g, g < 2 ^ 2 ^ n → pc n g ≤ r → d (g + coff n) = pc n g + 1) ∧
  (∀ g, g < 2 ^ 2 ^ n → pc n g = r + 1 → d (g + coff n) = 0 ∨ d (g + coff n) = r + 2) ∧
  (∀ g, g < 2 ^ 2 ^ n → r + 1 < pc n g → d (g + coff n) = 0) ∧
  (∀ f' p', f' < 2 ^ 2 ^ n → p' < 3 ^ n → pc n f' = r → (f' < f ∨ (f' = f ∧ p' < p)) → d ((f' ^^^ pfn n p') + coff n) ≠ 0) ∧
  (mo = 0 → ∀ g, g < 2 ^ 2 ^ n → pc n g = r + 1 → d (g + coff n) = 0) ∧
  (mo ≠ 0 → ∃ g, g < 2 ^ 2 ^ n ∧ pc n g = r + 1) ∧
  (∀ j, (j < coff n ∨ coff n + 2 ^ 2 ^ n ≤ j) → d j = d0 j)
/-- before round r -/
def cB (n r : Nat) (d d0 : Nat → Nat) : Prop :=
  (∀ g, g < 2 ^ 2 ^ n → d (g + coff n) = if pc n g ≤ r then pc n g + 1 else 0) ∧
  (∀ j, (j < coff n ∨ coff n + 2 ^ 2 ^ n ≤ j) → d j = d0 j)
theorem cR_0 {n r : Nat} {d d0 : Nat → Nat} (h : cB n r d d0) : cR n r 0 0 0 d d0 := by
  refine ⟨fun g hg hc => ?_, fun g hg hc => ?_, fun g hg hc => ?_, fun f' p' _ _ _ q => ?_, fun _ g hg hc => ?_, fun q => absurd rfl q, h.2⟩
  · rw [h.1 g hg, if_pos hc]
  · rw [h.1 g hg, if_neg (by omega)]; exact Or.inl rfl
  · rw [h.1 g hg, if_neg (by omega)]
  · omega
  · rw [h.1 g hg, if_neg (by omega)]
/-- a function of another cost is passed by -/
theorem cR_skipF {n r f mo : Nat} {d d0 : Nat → Nat} (h : cR n r f 0 mo d d0) (hf : pc n f ≠ r) : cR n r (f + 1) 0 mo d d0 := by
  obtain ⟨h1, h2, h3, h4, h5⟩ := h
  refine ⟨h1, h2, h3, fun f' p' a b c q => h4 f' p' a b c ?_, h5⟩
  by_cases e : f' = f
  · subst e; exact absurd c hf
  · omega
theorem cR_nextF {n r f mo : Nat} {d d0 : Nat → Nat} (h : cR n r f (3 ^ n) mo d d0) : cR n r (f + 1) 0 mo d d0 := by
  obtain ⟨h1, h2, h3, h4, h5⟩ := h
  exact ⟨h1, h2, h3, fun f' p' a b c q => h4 f' p' a b c (by omega), h5⟩
/-- the cost at f tells whether f is of this round -/
theorem cR_at {n r f p mo : Nat} {d d0 : Nat → Nat} (h : cR n r f p mo d d0) {g : Nat} (hg : g < 2 ^ 2 ^ n) : d (g + coff n) = r + 1 ↔ pc n g = r := by
  obtain ⟨h1, h2, h3, -⟩ := h
  rcases Nat.lt_or_ge r (pc n g) with q | q
  · rcases Nat.lt_or_ge (r + 1) (pc n g) with z | z
    · have := h3 g hg z; omega
    · have := h2 g hg (by omega); omega
  · have := h1 g hg q; omega
theorem cR_skipP {n r f p mo : Nat} {d d0 : Nat → Nat} (h : cR n r f p mo d d0) (hk : d ((f ^^^ pfn n p) + coff n) ≠ 0) : cR n r f (p + 1) mo d d0 := by
  obtain ⟨h1, h2, h3, h4, h5⟩ := h
  refine ⟨h1, h2, h3, fun f' p' a b c q => ?_, h5⟩
  by_cases e : f' = f ∧ p' = p
  · obtain ⟨rfl, rfl⟩ := e; exact hk
  · exact h4 f' p' a b c (by omega)
theorem cR_new {n r f p mo : Nat} {d d0 : Nat → Nat} (h : cR n r f p mo d d0) (hf : f < 2 ^ 2 ^ n) (hp : p < 3 ^ n) (hr : pc n f = r) (hk : d ((f ^^^ pfn n p) + coff n) = 0) : cR n r f (p + 1) 1 (upN d ((f ^^^ pfn n p) + coff n) (r + 2)) d0 := by
  have hg := Nat.xor_lt_two_pow hf (pfn_lt n p)
  have hc : pc n (f ^^^ pfn n p) = r + 1 := by
    have s1 := pc_step hf hp
    rcases Nat.lt_or_ge r (pc n (f ^^^ pfn n p)) with q | q
    · omega
    · have := h.1 _ hg q; omega
  obtain ⟨h1, h2, h3, h4, h5, h6, h7⟩ := h
  have ne : ∀ g, g ≠ f ^^^ pfn n p → upN d ((f ^^^ pfn n p) + coff n) (r + 2) (g + coff n) = d (g + coff n) := fun g hne => upN_n (by omega)
  refine ⟨fun g a b => ?_, fun g a b => ?_, fun g a b => ?_, fun f' p' a b c q => ?_, fun q => by omega, fun _ => ⟨_, hg, hc⟩, fun j hj => ?_⟩
  · rw [ne g (by intro e; rw [e] at b; omega)]; exact h1 g a b
  · by_cases e : g = f ^^^ pfn n p
    · rw [e, upN_s]; exact Or.inr rfl
    · rw [ne g e]; exact h2 g a b
  · rw [ne g (by intro e; rw [e] at b; omega)]; exact h3 g a b
  · by_cases e : f' ^^^ pfn n p' = f ^^^ pfn n p
    · rw [e, upN_s]; omega
    · rw [ne _ e]
      by_cases e2 : f' = f ∧ p' = p
      · obtain ⟨rfl, rfl⟩ := e2; exact absurd rfl e
      · exact h4 f' p' a b c (by omega)
  · rw [upN_n (by omega)]; exact h7 j hj
theorem cR_end {n r mo : Nat} {d d0 : Nat → Nat} (hn : n ≤ 4) (h : cR n r (2 ^ 2 ^ n) 0 mo d d0) : cB n (r + 1) d d0 := by
  obtain ⟨h1, h2, h3, h4, h5, h6, h7⟩ := h
  refine ⟨fun g hg => ?_, h7⟩
  rcases Nat.lt_or_ge r (pc n g) with q | q
  · rcases Nat.lt_or_ge (r + 1) (pc n g) with z | z
    · rw [if_neg (by omega)]; exact h3 g hg z
    · have e : pc n g = r + 1 := by omega
      rw [if_pos (by omega)]
      obtain ⟨p, hp, hd⟩ := pc_down hn hg (by intro e0; rw [e0, pc_0] at e; omega)
      have := h4 (g ^^^ pfn n p) p (Nat.xor_lt_two_pow hg (pfn_lt n p)) hp (by omega) (Or.inl (Nat.xor_lt_two_pow hg (pfn_lt n p)))
      rw [xor_xor] at this
      have := h2 g hg e
      omega
  · rw [if_pos (by omega)]; exact h1 g hg q
theorem pc_level {n : Nat} (hn : n ≤ 4) (r : Nat) : ∀ (k g : Nat), g < 2 ^ 2 ^ n → pc n g = r + 1 + k → ∃ g', g' < 2 ^ 2 ^ n ∧ pc n g' = r + 1
  | 0, g, hg, h => ⟨g, hg, h⟩
  | k + 1, g, hg, h => by
    obtain ⟨p, hp, hd⟩ := pc_down hn hg (by intro e; rw [e, pc_0] at h; omega)
    exact pc_level hn r k _ (Nat.xor_lt_two_pow hg (pfn_lt n p)) (by omega)
/-- nothing came in a round: all is known -/
theorem cR_done {n r : Nat} {d d0 : Nat → Nat} (hn : n ≤ 4) (h : cR n r (2 ^ 2 ^ n) 0 0 d d0) : ∀ g, g < 2 ^ 2 ^ n → d (g + coff n) = pc n g + 1 := by
  intro g hg
  have hE := cR_end hn h
  rcases Nat.lt_or_ge r (pc n g) with q | q
  · obtain ⟨g', hg', e⟩ := pc_level hn r (pc n g - (r + 1)) g hg (by omega)
    have a := h.2.2.2.2.1 rfl g' hg' e
    have b := hE.1 g' hg'
    rw [if_pos (by omega)] at b
    omega
  · exact h.1 g hg q
end COSTS
