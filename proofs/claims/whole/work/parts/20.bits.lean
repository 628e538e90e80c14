section BITS1
theorem jn_notand (x y : Int32) : x &&& (y ^^^ -1) = x ^^^ (x &&& y) := by
  apply Int32.toBitVec_inj.mp
  apply BitVec.eq_of_getLsbD_eq
  intro i hi
  have h1 : (-1 : Int32).toBitVec = BitVec.allOnes 32 := by decide
  simp only [Int32.toBitVec_and, Int32.toBitVec_xor, h1, BitVec.getLsbD_and, BitVec.getLsbD_xor, BitVec.getLsbD_allOnes, hi, decide_true]
  cases x.toBitVec.getLsbD i <;> cases y.toBitVec.getLsbD i <;> rfl
theorem jn_notandN (a b : Nat) : nI a &&& (nI b ^^^ -1) = nI (a ^^^ (a &&& b)) := by rw [jn_notand, jn_and, jn_xor]
theorem notand_0 {a b : Nat} : a ^^^ (a &&& b) = 0 ↔ a &&& b = a := by
  constructor
  · intro h
    apply Nat.eq_of_testBit_eq
    intro i
    have := congrArg (fun z => z.testBit i) h
    simp only [Nat.testBit_xor, Nat.zero_testBit] at this
    cases h1 : a.testBit i <;> cases h2 : (a &&& b).testBit i <;> simp_all
  · intro h
    rw [h, Nat.xor_self]
theorem mI_pos {x : Nat} (h : 1 ≤ x) : mI x = nI (x - 1) := by
  obtain ⟨k, rfl⟩ : ∃ k, x = k + 1 := ⟨x - 1, by omega⟩
  rw [mI_s]; rfl
theorem bcn_add (k S : Nat) : bcn k S + (S / 2 ^ k &&& 1) = bcn (k + 1) S := by rw [tb_and1]; rfl
/-- the JDK's count of bits, for twelve of them -/
def bcJ (x : Int32) : Int32 :=
  let a := x - ((x.toUInt32 >>> ((1 : Int32).toUInt32 &&& Int32.toUInt32 31)).toInt32 &&& 1431655765)
  let b := (a &&& 858993459) + ((a.toUInt32 >>> ((2 : Int32).toUInt32 &&& Int32.toUInt32 31)).toInt32 &&& 858993459)
  let c := (b + (b.toUInt32 >>> ((4 : Int32).toUInt32 &&& Int32.toUInt32 31)).toInt32) &&& 252645135
  let d := c + (c.toUInt32 >>> ((8 : Int32).toUInt32 &&& Int32.toUInt32 31)).toInt32
  let e := d + (d.toUInt32 >>> ((16 : Int32).toUInt32 &&& Int32.toUInt32 31)).toInt32
  e &&& 63
theorem bcJ_all : (List.range 4096).all (fun S => bcJ (nI S) == nI (bc S)) = true := by decide +kernel
theorem bcJ_is {S : Nat} (h : S < 4096) : bcJ (nI S) = nI (bc S) := by
  have := List.all_eq_true.mp bcJ_all S (List.mem_range.mpr h)
  exact eq_of_beq this
theorem p4096 {m : Nat} (h : m ≤ 12) : 2 ^ m ≤ 4096 := Nat.pow_le_pow_right (n := 2) (by omega) h
theorem bc_12 (S : Nat) : bc S ≤ 12 := bcn_le 12 S
/-- the reference's rows of a search -/
def fS (m : Nat) (nd : Nat → Nat) (b k s found : Nat) (co Q sr bw : Nat → Nat) (π : Nat → List Nat) : Prop :=
  fI m nd b k s found Q (fun i => sr i - 1) bw π ∧ sr 0 = 0 ∧ (∀ i, 0 < i → i < found → 1 ≤ sr i) ∧ (∀ v, v < 2 ^ m → (co v ≠ 0 ↔ ∃ i, i < found ∧ Q i = v)) ∧ ∀ v, co v ≤ 1
theorem fS_0 {m : Nat} {nd : Nat → Nat} {b : Nat} {f Q sr bw : Nat → Nat} (hm : m ≤ 12) (hf : ∀ j, f j = 0 ∨ 4096 ≤ j ∧ f j ≤ 1) : fS m nd b 0 0 1 (upN f 0 1) (upN Q 0 0) (upN sr 0 0) bw (fun _ => []) := by
  have hp := p4096 hm
  refine ⟨fI_0 m nd b _ _ _ upN_s, upN_s, fun i h1 h2 => by omega, fun v hv => ?_, fun v => ?_⟩
  · constructor
    · intro h
      by_cases e : v = 0
      · subst e; exact ⟨0, by omega, upN_s⟩
      · rw [upN_n e] at h
        have := hf v
        omega
    · rintro ⟨i, hi, rfl⟩
      rw [show i = 0 by omega, upN_s, upN_s]; omega
  · unfold upN
    split
    · omega
    · have := hf v; omega
theorem fS_found {m : Nat} {nd : Nat → Nat} {b k s found : Nat} {co Q sr bw : Nat → Nat} {π : Nat → List Nat} (hm : m ≤ 12) (h : fS m nd b k s found co Q sr bw π) : found ≤ 4096 := Nat.le_trans (few (fI_lt h.1) h.1.2.2.2.2.2.2.1) (p4096 hm)
theorem fS_skip {m : Nat} {nd : Nat → Nat} {b k s found : Nat} {co Q sr bw : Nat → Nat} {π : Nat → List Nat} (hm : m ≤ 12) (h : fS m nd b k s found co Q sr bw π) (hk : k < found) (hs : s < m) (hno : mok m nd b (Q k) s → co (Q k ^^^ 2 ^ s) ≠ 0) : fS m nd b k (s + 1) found co Q sr bw π := by
  obtain ⟨h0, h1, h2, h3, h4⟩ := h
  refine ⟨fI_skip hm h0 hk hs (fun q => (h3 _ (flip_lt (fI_lt h0 k hk) hs)).mp (hno q)), h1, h2, h3, h4⟩
theorem fS_new {m : Nat} {nd : Nat → Nat} {b k s found : Nat} {co Q sr bw : Nat → Nat} {π : Nat → List Nat} (hm : m ≤ 12) (h : fS m nd b k s found co Q sr bw π) (hk : k < found) (hs : s < m) (hok : mok m nd b (Q k) s) (hz : co (Q k ^^^ 2 ^ s) = 0) : ∃ π', fS m nd b k (s + 1) (found + 1) (upN co (Q k ^^^ 2 ^ s) 1) (upN Q found (Q k ^^^ 2 ^ s)) (upN sr found (k + 1)) (upN bw found s) π' := by
  obtain ⟨h0, h1, h2, h3, h4⟩ := h
  have hlt := flip_lt (fI_lt h0 k hk) hs
  have hnew : ∀ j, j < found → Q j ≠ Q k ^^^ 2 ^ s := fun j hj e => (h3 _ hlt).mpr ⟨j, hj, e⟩ hz
  have e : (fun i => upN sr found (k + 1) i - 1) = upN (fun i => sr i - 1) found k := by
    funext i
    by_cases q : i = found
    · subst q; simp [upN]
    · simp [upN, q]
  have hf0 := h0.1
  refine ⟨upL π found (π k ++ [s]), by rw [e]; exact fI_new hm h0 hk hs hok hnew, by rw [upN_n (by omega)]; exact h1, fun i a c => ?_, fun v hv => ?_, fun v => ?_⟩
  · unfold upN
    split
    · omega
    · exact h2 i a (by omega)
  · by_cases q : v = Q k ^^^ 2 ^ s
    · rw [q, upN_s]
      exact ⟨fun _ => ⟨found, by omega, upN_s⟩, fun _ => by omega⟩
    · rw [upN_n q, h3 v hv]
      constructor
      · rintro ⟨i, hi, ei⟩
        exact ⟨i, by omega, by rw [upN_n (by omega)]; exact ei⟩
      · rintro ⟨i, hi, ei⟩
        by_cases z : i = found
        · rw [z, upN_s] at ei; exact absurd ei.symm q
        · rw [upN_n z] at ei; exact ⟨i, by omega, ei⟩
  · unfold upN
    split
    · omega
    · exact h4 v
theorem fS_next {m : Nat} {nd : Nat → Nat} {b k found : Nat} {co Q sr bw : Nat → Nat} {π : Nat → List Nat} (h : fS m nd b k m found co Q sr bw π) (hg : Q k ≠ 2 ^ (m - 1)) : fS m nd b (k + 1) 0 found co Q sr bw π := ⟨fI_next h.1 hg, h.2⟩
/-- the way back from an entry of the queue -/
theorem fS_way {m : Nat} {nd : Nat → Nat} {b k s found : Nat} {co Q sr bw : Nat → Nat} {π : Nat → List Nat} (h : fS m nd b k s found co Q sr bw π) {i : Nat} (hi : i < found) : (sr i = 0 → i = 0 ∧ π i = []) ∧ (sr i ≠ 0 → sr i - 1 < i ∧ bw i < m ∧ π i = π (sr i - 1) ++ [bw i]) := by
  obtain ⟨h0, h1, h2, -⟩ := h
  refine ⟨fun q => ?_, fun q => ?_⟩
  · have : i = 0 := by
      rcases Nat.eq_zero_or_pos i with z | z
      · exact z
      · have := h2 i z hi; omega
    subst this
    exact ⟨rfl, h0.2.2.1⟩
  · have hp : 0 < i := by
      rcases Nat.eq_zero_or_pos i with z | z
      · rw [z] at q; exact absurd h1 q
      · exact z
    obtain ⟨a, b, c, -⟩ := h0.2.2.2.1 i hp hi
    exact ⟨a, b, c⟩
end BITS1
section BITS2
theorem take_step {X ps : List Nat} {x j : Nat} (h : X ++ [x] = ps.take (j + 1)) (hj : j < ps.length) : X = ps.take j ∧ x = ps.getD j 0 := by
  rw [List.take_succ_eq_append_getElem hj] at h
  have := List.append_inj' h rfl
  refine ⟨this.1, ?_⟩
  have h2 := this.2
  simp at h2
  simp [List.getD, List.getElem?_eq_getElem hj, h2]
end BITS2
section BITS3
theorem fS_len {m : Nat} {nd : Nat → Nat} {b k s found : Nat} {co Q sr bw : Nat → Nat} {π : Nat → List Nat} (h : fS m nd b k s found co Q sr bw π) : ∀ i, i < found → (π i).length ≤ i := by
  intro i
  induction i using Nat.strongRecOn with
  | ind i ih =>
    intro hi
    have hw := fS_way h hi
    rcases Nat.eq_zero_or_pos (sr i) with q | q
    · rw [(hw.1 q).2]; simp
    · obtain ⟨a, -, e⟩ := hw.2 (by omega)
      have := ih (sr i - 1) a (by omega)
      rw [e, List.length_append]
      simp only [List.length_cons, List.length_nil]
      omega
end BITS3
