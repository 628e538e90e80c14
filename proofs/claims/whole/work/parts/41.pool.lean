section POOL
theorem perm_in (L P1 P2 : va_W) (x y : Nat × va_E) : List.Perm ((L ++ [x, y]) ++ (P1 ++ P2)) (L ++ (P1 ++ x :: y :: P2)) := by
  rw [List.append_assoc]
  apply List.Perm.append_left
  show List.Perm ([x, y] ++ (P1 ++ P2)) (P1 ++ ([x, y] ++ P2))
  rw [← List.append_assoc, ← List.append_assoc]
  exact List.Perm.append_right _ List.perm_append_comm
theorem perm_out (L P1 P2 : va_W) (x y : Nat × va_E) : List.Perm (L ++ (P1 ++ x :: y :: P2)) ((L ++ [x, y]) ++ (P1 ++ P2)) := (perm_in L P1 P2 x y).symm
theorem gst_s {m : Nat} {nd lf t : Nat → Nat} {i p : Nat} (h : ∀ j, j < i → gst m nd lf (runT t j) (t j)) (hp : gst m nd lf (runT t i) p) : ∀ j, j < i + 1 → gst m nd lf (runT (upN t i p) j) (upN t i p j) := by
  intro j hj
  rw [runT_c (u := t) j (fun z hz => upN_n (by omega))]
  by_cases e : j = i
  · subst e; rw [upN_s]; exact hp
  · rw [upN_n e]; exact h j (by omega)
theorem runT_s {t : Nat → Nat} {i p : Nat} : runT t i ^^^ 2 ^ p = runT (upN t i p) (i + 1) := by
  simp only [runT]
  rw [upN_s, runT_c (t := upN t i p) (u := t) i (fun z hz => upN_n (by omega))]
/-- what the class has kept of its searches -/
def kOK (E : jE) (m : Nat) (nd : Nat → Nat) (kn : Nat → Option Nat) (e3 : Nat) (pool : va_W) : Prop := ∀ b a, 1 ≤ b → b ≤ m → kn b = some a → (a = e3 ∧ ∀ qs, ¬ mP m nd b 0 qs (2 ^ (m - 1))) ∨ ∃ (P1 P2 : va_W) (rr : Nat) (t : Nat → Nat) (ps : List Nat), pool = P1 ++ (a, .inr (1, [.ref rr])) :: kI E rr ps.length t :: P2 ∧ mSP m nd b ps ∧ ps.length ≤ 4096 ∧ gL t ps
theorem kOK_none {E : jE} {m : Nat} {nd : Nat → Nat} {e3 : Nat} {pool : va_W} : kOK E m nd (fun _ => none) e3 pool := fun b a _ _ h => by cases h
theorem kOK_no {E : jE} {m : Nat} {nd : Nat → Nat} {kn : Nat → Option Nat} {e3 b : Nat} {pool : va_W} (h : kOK E m nd kn e3 pool) (hn : ∀ qs, ¬ mP m nd b 0 qs (2 ^ (m - 1))) : kOK E m nd (va_up kn b (some e3)) e3 pool := by
  intro b' a h1 h2 h3
  unfold va_up at h3
  by_cases e : b' = b
  · rw [if_pos e] at h3
    cases h3
    subst e
    exact Or.inl ⟨rfl, hn⟩
  · rw [if_neg e] at h3
    exact h b' a h1 h2 h3
theorem kOK_new {E : jE} {m : Nat} {nd : Nat → Nat} {kn : Nat → Option Nat} {e3 b q rr : Nat} {pool : va_W} {t : Nat → Nat} {ps : List Nat} (h : kOK E m nd kn e3 pool) (hs : mSP m nd b ps) (hl : ps.length ≤ 4096) (hg : gL t ps) : kOK E m nd (va_up kn b (some q)) e3 ([] ++ (q, .inr (1, [.ref rr])) :: kI E rr ps.length t :: pool) := by
  intro b' a h1 h2 h3
  unfold va_up at h3
  by_cases e : b' = b
  · rw [if_pos e] at h3
    cases h3
    subst e
    exact Or.inr ⟨[], pool, rr, t, ps, rfl, hs, hl, hg⟩
  · rw [if_neg e] at h3
    rcases h b' a h1 h2 h3 with z | ⟨P1, P2, r2, t2, p2, z1, z2⟩
    · exact Or.inl z
    · exact Or.inr ⟨(q, .inr (1, [.ref rr])) :: kI E rr ps.length t :: P1, P2, r2, t2, p2, by rw [z1]; rfl, z2⟩
theorem mSP_has {m : Nat} {nd : Nat → Nat} {b : Nat} (h : ∃ qs, mP m nd b 0 qs (2 ^ (m - 1))) : ∃ ps, mSP m nd b ps := jBt_least (fun ps => mP m nd b 0 ps (2 ^ (m - 1))) h
theorem mSP_pos {m : Nat} {nd : Nat → Nat} {b : Nat} {ps : List Nat} (h : mSP m nd b ps) : 1 ≤ ps.length := by
  cases ps with
  | nil =>
    have : (0 : Nat) = 2 ^ (m - 1) := h.1
    have := Nat.two_pow_pos (m - 1)
    omega
  | cons a b => simp
theorem bX_no {m : Nat} {nd : Nat → Nat} {b : Nat} {lf : Nat → Nat} (h : bX m nd b lf) (hn : ∀ qs, ¬ mP m nd b 0 qs (2 ^ (m - 1))) : lf 0 = 0 := by
  rcases h.2 with ⟨q, -⟩ | ⟨k, n, Q, hE⟩
  · exact q
  · obtain ⟨ps, hp, -⟩ := bE_path hE (Nat.two_pow_pos m) hE.2
    exact absurd hp.1 (hn ps)
theorem bX_yes {m : Nat} {nd : Nat → Nat} {b : Nat} {lf : Nat → Nat} {ps : List Nat} (h : bX m nd b lf) (hs : mSP m nd b ps) : ∃ k n Q, bE m nd b k n Q lf := by
  rcases h.2 with ⟨-, q⟩ | q
  · exact absurd hs.1 (q ps)
  · exact q
theorem lf_goal {m : Nat} {f : Nat → Nat} {lf0 : Nat → Nat} (hf : ∀ j, f j = if j < 2 ^ m then 0 else lf0 j) : ∀ S, S < 2 ^ m → upN f (2 ^ (m - 1)) 1 S = if S = 2 ^ (m - 1) then 1 else 0 := by
  intro S hS
  unfold upN
  split
  · rfl
  · rw [hf S, if_pos hS]
theorem few_ft {m : Nat} {nd : Nat → Nat} {ft b : Nat} {ps : List Nat} (g : mG m nd) (hft : 1 ≤ ft ∧ ft ≤ 13 ∧ (ft = 1 ∨ ∃ s, s < m ∧ (mW m nd).testBit s = true ∧ ft = 1 + bc (nd s))) (hb : 1 ≤ b) (h : mSP m nd b ps) : ft ≤ b := by
  rcases hft.2.2 with q | ⟨s, hs, hw, q⟩
  · omega
  · rw [q]; exact mW_few g h.1 hs hw
end POOL
section POOL2
theorem gst_list' {m : Nat} {nd lf t : Nat → Nat} {n i : Nat} (h0 : lf 0 = n + 1) (h : ∀ j, j < i → gst m nd lf (runT t j) (t j)) : lf (runT t i) + i = n + 1 := by
  induction i with
  | zero => simpa [runT] using h0
  | succ i ih =>
    have ih' := ih (fun j hj => h j (by omega))
    have := (h i (by omega)).2.2.1
    simp only [runT]
    omega
end POOL2
section POOL3
theorem J_aload_nN {E : jE} {l : Launch} {own : String} {cc : ByteArray} {nL : Nat} {R : Room} {J : jJ} {pc : Nat} {lv : jL} {st : List Value} {ws : va_W} {cs ss : Nat} (C : jC E l own cc nL R J) {k : Fin 4} {i : Nat} (q : Nat) (hdg : decode cc pc = .ok (.aload_n k, 1)) (hi : (k : Nat) = i) (hq : lv[q]? = some (i, .null)) (kk : J (pc + 1) lv (.null :: st) ws cs ss) : J pc lv st ws cs ss := by
  obtain ⟨p, e, s, m, args, below, meth, c, Q, A, ⟨hx, hb, hml, hown, hts, hA, hK, hST, hlocks⟩, rfl⟩ := C
  intro H locs ls hP hD hS hl
  exact lv_aload_nN hx hb hdg hi (lv_at hl q hq) (kk H locs ls hP hD hS hl)
end POOL3
