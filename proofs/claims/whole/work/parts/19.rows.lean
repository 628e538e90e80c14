section ROWS
/-! the class's row, level by level; the reference's rows -/
theorem jsT_below {a b : Nat} (h : a < b) (hb : b ≤ 3) : jsT a + 2 ^ 2 ^ a ≤ jsT b := by
  rcases (show (a = 0 ∧ b = 1) ∨ (a = 0 ∧ b = 2) ∨ (a = 0 ∧ b = 3) ∨ (a = 1 ∧ b = 2) ∨ (a = 1 ∧ b = 3) ∨ (a = 2 ∧ b = 3) by omega) with ⟨rfl, rfl⟩ | ⟨rfl, rfl⟩ | ⟨rfl, rfl⟩ | ⟨rfl, rfl⟩ | ⟨rfl, rfl⟩ | ⟨rfl, rfl⟩ <;> decide
theorem fr_keep {n f : Nat} {r : Nat → Int64} {x : Int64} (hn : n + 1 ≤ 3) (h : fRow (n + 1) r) : fRow (n + 1) (vp_updL r (jsT (n + 1) + f) x) := by
  intro lv hlv g hg
  have := jsT_below (show lv < n + 1 from hlv) hn
  rw [pk_uLn (by omega)]
  exact h lv hlv g hg
theorem fr_add {n f : Nat} {r : Nat → Int64} (h : ∀ f', f' < f → r (jsT (n + 1) + f') = lN (fcode (pF (n + 1) f'))) : ∀ f', f' < f + 1 → vp_updL r (jsT (n + 1) + f) (lN (fcode (pF (n + 1) f))) (jsT (n + 1) + f') = lN (fcode (pF (n + 1) f')) := by
  intro f' hf'
  by_cases e : f' = f
  · subst e; rw [pk_uLs]
  · rw [pk_uLn (by omega)]
    exact h f' (by omega)
theorem fr_done {n : Nat} {r : Nat → Int64} (h : fRow (n + 1) r) (h2 : ∀ f', f' < 2 ^ 2 ^ (n + 1) → r (jsT (n + 1) + f') = lN (fcode (pF (n + 1) f'))) : fRow (n + 2) r := by
  intro lv hlv g hg
  by_cases e : lv = n + 1
  · subst e; exact h2 g hg
  · exact h lv (by omega) g hg
theorem pF_0 (n : Nat) : pF n 0 = [] := List.length_eq_zero_iff.mp (pc_0 n)
theorem pF_01 : pF 0 1 = [0] := by
  have h : (1 : Nat) < 2 ^ 2 ^ 0 := by decide
  have hl := pc0_le h
  have hin := pF_in h
  have hX := pF_X h
  unfold pc at hl
  match hq : pF 0 1 with
  | [] => rw [hq] at hX; cases hX
  | [p] =>
    rw [hq] at hin
    have := hin p List.mem_cons_self
    have : p < 1 := this
    rw [show p = 0 by omega]
  | p :: q :: r => rw [hq] at hl; simp at hl
theorem fr_init : fRow 1 (vp_updL (fun _ => 0) 1 (lN 281474976710656)) := by
  intro lv hlv f hf
  rw [show lv = 0 by omega] at hf ⊢
  have hf' : f < 2 := hf
  rcases (show f = 0 ∨ f = 1 by omega) with rfl | rfl
  · rw [pF_0]; rfl
  · rw [pF_01]; rfl
/-- the reference's rows: what is known is right -/
def mC (kn d fo : Nat → Nat) : Prop := ∀ b, 1 ≤ b → b ≤ 4 → kn b ≠ 0 → (∀ g, g < 2 ^ 2 ^ b → d (g + coff b) = pc b g + 1) ∧ ∀ p, p < 3 ^ b → fo (p + poff b) = pfn b p
theorem coff_fit {n : Nat} (h1 : 1 ≤ n) (h4 : n ≤ 4) : coff n + 2 ^ 2 ^ n ≤ 65812 := by
  rcases (show n = 1 ∨ n = 2 ∨ n = 3 ∨ n = 4 by omega) with rfl | rfl | rfl | rfl <;> decide
theorem poff_fit {n : Nat} (h1 : 1 ≤ n) (h4 : n ≤ 4) : poff n + 3 ^ n ≤ 120 := by
  rcases (show n = 1 ∨ n = 2 ∨ n = 3 ∨ n = 4 by omega) with rfl | rfl | rfl | rfl <;> decide
theorem coff_apart {a b : Nat} (ha : 1 ≤ a) (ha4 : a ≤ 4) (hb : 1 ≤ b) (hb4 : b ≤ 4) (h : a ≠ b) : coff a + 2 ^ 2 ^ a ≤ coff b ∨ coff b + 2 ^ 2 ^ b ≤ coff a := by
  rcases (show a = 1 ∨ a = 2 ∨ a = 3 ∨ a = 4 by omega) with rfl | rfl | rfl | rfl <;> rcases (show b = 1 ∨ b = 2 ∨ b = 3 ∨ b = 4 by omega) with rfl | rfl | rfl | rfl <;> first | exact absurd rfl h | decide
theorem poff_apart {a b : Nat} (ha : 1 ≤ a) (ha4 : a ≤ 4) (hb : 1 ≤ b) (hb4 : b ≤ 4) (h : a ≠ b) : poff a + 3 ^ a ≤ poff b ∨ poff b + 3 ^ b ≤ poff a := by
  rcases (show a = 1 ∨ a = 2 ∨ a = 3 ∨ a = 4 by omega) with rfl | rfl | rfl | rfl <;> rcases (show b = 1 ∨ b = 2 ∨ b = 3 ∨ b = 4 by omega) with rfl | rfl | rfl | rfl <;> first | exact absurd rfl h | decide
/-- the functions of the products, so far -/
def mF (n p : Nat) (fo fo0 : Nat → Nat) : Prop := (∀ j, (j < poff n ∨ poff n + 3 ^ n ≤ j) → fo j = fo0 j) ∧ ∀ p', p' < p → fo (p' + poff n) = pfn n p'
theorem mF_s {n p : Nat} {fo fo0 : Nat → Nat} (h : mF n p fo fo0) (hp : p < 3 ^ n) : mF n (p + 1) (upN fo (p + poff n) (pfn n p)) fo0 := by
  refine ⟨fun j hj => ?_, fun p' hp' => ?_⟩
  · rw [upN_n (by omega)]; exact h.1 j hj
  · by_cases e : p' = p
    · subst e; rw [upN_s]
    · rw [upN_n (by omega)]; exact h.2 p' (by omega)
def mZ (n f : Nat) (d d0 : Nat → Nat) : Prop := (∀ j, (j < coff n ∨ coff n + 2 ^ 2 ^ n ≤ j) → d j = d0 j) ∧ ∀ f', f' < f → d (f' + coff n) = 0
theorem mZ_s {n f : Nat} {d d0 : Nat → Nat} (h : mZ n f d d0) (hf : f < 2 ^ 2 ^ n) : mZ n (f + 1) (upN d (f + coff n) 0) d0 := by
  refine ⟨fun j hj => ?_, fun p' hp' => ?_⟩
  · rw [upN_n (by omega)]; exact h.1 j hj
  · by_cases e : p' = f
    · subst e; rw [upN_s]
    · rw [upN_n (by omega)]; exact h.2 p' (by omega)
theorem cB_0 {n : Nat} {d d0 : Nat → Nat} (h : mZ n (2 ^ 2 ^ n) d d0) : cB n 0 (upN d (0 + coff n) 1) d0 := by
  refine ⟨fun g hg => ?_, fun j hj => ?_⟩
  · by_cases e : g = 0
    · subst e; rw [upN_s, pc_0]; rfl
    · rw [upN_n (by omega), h.2 g hg, if_neg]
      intro q
      exact e (pc_eq0 hg (by omega))
  · have := p_pos n
    rw [upN_n (by omega)]; exact h.1 j hj
theorem cR_le {n r f p mo : Nat} {d d0 : Nat → Nat} (h : cR n r f p mo d d0) {g : Nat} (hg : g < 2 ^ 2 ^ n) : d (g + coff n) ≤ r + 2 := by
  obtain ⟨h1, h2, h3, -⟩ := h
  rcases Nat.lt_or_ge r (pc n g) with q | q
  · rcases Nat.lt_or_ge (r + 1) (pc n g) with z | z
    · have := h3 g hg z; omega
    · have := h2 g hg (by omega); omega
  · have := h1 g hg q; omega
/-- the head of the reference's rounds -/
def cH (n r mo : Nat) (d d0 : Nat → Nat) : Prop := mo ≤ 1 ∧ r ≤ 7 ∧ (mo ≠ 0 → r ≤ 6 ∧ cB n r d d0) ∧ (mo = 0 → (∀ g, g < 2 ^ 2 ^ n → d (g + coff n) = pc n g + 1) ∧ ∀ j, (j < coff n ∨ coff n + 2 ^ 2 ^ n ≤ j) → d j = d0 j)
theorem cH_next {n r mo : Nat} {d d0 : Nat → Nat} (hn : n ≤ 4) (hm : mo ≤ 1) (hr : r ≤ 6) (h : cR n r (2 ^ 2 ^ n) 0 mo d d0) : cH n (r + 1) mo d d0 := by
  refine ⟨hm, by omega, fun q => ⟨?_, cR_end hn h⟩, fun q => ?_⟩
  · obtain ⟨g, hg, e⟩ := h.2.2.2.2.2.1 q
    have := pc_le6 hn hg
    omega
  · subst q
    exact ⟨cR_done hn h, h.2.2.2.2.2.2⟩
theorem mC_new {n : Nat} {kn d fo d' fo' : Nat → Nat} (hn1 : 1 ≤ n) (hn4 : n ≤ 4) (h : mC kn d fo) (hd : cH n 0 0 d' d ∨ ∃ r, cH n r 0 d' d) (hf : mF n (3 ^ n) fo' fo) : mC (upN kn n 1) d' fo' := by
  have hd' : (∀ g, g < 2 ^ 2 ^ n → d' (g + coff n) = pc n g + 1) ∧ ∀ j, (j < coff n ∨ coff n + 2 ^ 2 ^ n ≤ j) → d' j = d j := by
    rcases hd with q | ⟨r, q⟩ <;> exact q.2.2.2 rfl
  intro b hb hb4 hk
  by_cases e : b = n
  · subst e; exact ⟨hd'.1, hf.2⟩
  · rw [upN_n e] at hk
    obtain ⟨q1, q2⟩ := h b hb hb4 hk
    refine ⟨fun g hg => ?_, fun p hp => ?_⟩
    · rw [hd'.2 _ (by have := coff_apart hb hb4 hn1 hn4 e; omega)]; exact q1 g hg
    · rw [hf.1 _ (by have := poff_apart hb hb4 hn1 hn4 e; omega)]; exact q2 p hp
theorem drop_cons {l : List Nat} {j : Nat} (h : j < l.length) : l.drop j = l.getD j 0 :: l.drop (j + 1) := by
  rw [List.drop_eq_getElem_cons h]
  simp [List.getD, List.getElem?_eq_getElem h]
end ROWS
