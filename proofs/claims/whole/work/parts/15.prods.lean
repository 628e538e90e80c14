section PRODS
/-! what a product's number tells; the forms as longs -/
def okd (d : Nat) (b : Bool) : Bool := d == 0 || (d == 1) == b
def hb (p v : Nat) : Nat → Bool
  | 0 => true
  | b + 1 => hb p v b && okd (p / 3 ^ b % 3) (v.testBit b)
def fnv (n p : Nat) : Nat → Nat
  | 0 => 0
  | v + 1 => if hb p v n then fnv n p v ||| 2 ^ v else fnv n p v
theorem fnv_pfn : ∀ n, n < 5 → ∀ p, p < 3 ^ n → fnv n p (2 ^ n) = pfn n p := by decide +kernel
theorem fnv_lt (n p : Nat) : ∀ v, fnv n p v < 2 ^ v
  | 0 => by simp [fnv]
  | v + 1 => by
    have ih := fnv_lt n p v
    have h1 : 2 ^ v < 2 ^ (v + 1) := Nat.pow_lt_pow_right (by omega) (by omega)
    simp only [fnv]
    split
    · exact Nat.or_lt_two_pow (by omega) h1
    · omega
theorem hb_le {p v : Nat} : ∀ {b c : Nat}, b ≤ c → hb p v b = false → hb p v c = false
  | b, 0, h, hf => by rw [show b = 0 by omega] at hf; exact hf
  | b, c + 1, h, hf => by
    by_cases e : b = c + 1
    · rw [← e]; exact hf
    · simp only [hb]
      rw [hb_le (show b ≤ c by omega) hf]; rfl
theorem p81 {n : Nat} (h : n ≤ 4) : 3 ^ n ≤ 81 := Nat.pow_le_pow_right (n := 3) (by omega) h
/-- a form as one number -/
def fcode (ps : List Nat) : Nat := ps.length * 2 ^ 48 + jval ps
theorem p128 (k : Nat) : 128 ^ k = 2 ^ (7 * k) := by rw [Nat.pow_mul]
theorem jval_42 {ps : List Nat} (hl : ps.length ≤ 6) (h : ∀ p ∈ ps, p < 128) : jval ps < 2 ^ 42 := Nat.lt_of_lt_of_le (jval_lt ps h) (by rw [p128]; exact Nat.pow_le_pow_right (by omega) (by omega))
theorem fcode_lt {ps : List Nat} (hl : ps.length ≤ 6) (h : ∀ p ∈ ps, p < 128) : fcode ps < 2 ^ 51 := by
  have := jval_42 hl h
  unfold fcode
  omega
theorem fcode_size {ps : List Nat} (hl : ps.length ≤ 6) (h : ∀ p ∈ ps, p < 128) : fcode ps / 2 ^ 48 = ps.length := by
  have := jval_42 hl h
  unfold fcode
  omega
theorem fcode_nums {ps : List Nat} (hl : ps.length ≤ 6) (h : ∀ p ∈ ps, p < 128) : fcode ps % 2 ^ 48 = jval ps := by
  have := jval_42 hl h
  unfold fcode
  omega
theorem fcode_le {ps qs : List Nat} (hl : ps.length ≤ 6) (hp : ∀ p ∈ ps, p < 128) (hk : qs.length ≤ 6) (hq : ∀ p ∈ qs, p < 128) : fcode ps ≤ fcode qs ↔ jBt ps qs := by
  have h1 := jval_42 hl hp
  have h2 := jval_42 hk hq
  unfold fcode jBt
  omega
/-- the number that stands at place i -/
theorem fcode_at : ∀ (ps : List Nat), (∀ p ∈ ps, p < 128) → ∀ i, i < ps.length → jval ps / 2 ^ (7 * (ps.length - 1 - i)) % 128 = ps.getD i 0
  | [], _, i, h => by simp at h
  | p :: ps, hp, i, h => by
    have hps : ∀ q ∈ ps, q < 128 := fun q hq => hp q (List.mem_cons_of_mem _ hq)
    have hlt := jval_lt ps hps
    have hp0 : p < 128 := hp p List.mem_cons_self
    cases i with
    | zero =>
      simp only [List.length_cons, jval]
      rw [show ps.length + 1 - 1 - 0 = ps.length by omega, ← p128, Nat.mul_comm, Nat.mul_add_div (Nat.pow_pos (by omega)), Nat.div_eq_of_lt hlt, Nat.add_zero, Nat.mod_eq_of_lt hp0]
      rfl
    | succ i =>
      have hi : i < ps.length := by simpa using h
      have ih := fcode_at ps hps i hi
      simp only [List.length_cons, jval]
      rw [show ps.length + 1 - 1 - (i + 1) = ps.length - 1 - i by omega, ← p128]
      rw [← p128] at ih
      have e : p * 128 ^ ps.length = 128 ^ (ps.length - 1 - i) * (p * 128 ^ i * 128) := by
        have : ps.length = (ps.length - 1 - i) + i + 1 := by omega
        rw [this, Nat.pow_succ, Nat.pow_add]
        rw [show (ps.length - 1 - i) + i + 1 - 1 - i = ps.length - 1 - i by omega]
        ac_rfl
      rw [e, Nat.mul_add_div (Nat.pow_pos (by omega)), Nat.add_comm, Nat.add_mul_mod_self_right]
      exact ih
end PRODS
section PRODS2
theorem okd_of {d e : Nat} {t : Bool} (hd : d < 3) (he : e = if t then 1 else 0) (h1 : ¬ (d = 1 ∧ e = 0)) (h2 : ¬ (d = 2 ∧ e = 1)) : okd d t = true := by
  rcases (show d = 0 ∨ d = 1 ∨ d = 2 by omega) with rfl | rfl | rfl <;> cases t <;> simp_all [okd]
theorem okd_no {d e : Nat} {t : Bool} (he : e = if t then 1 else 0) (h : (d = 1 ∧ e = 0) ∨ (d = 2 ∧ e = 1)) : okd d t = false := by
  rcases h with ⟨rfl, h⟩ | ⟨rfl, h⟩ <;> cases t <;> simp_all [okd]
theorem hb_s {p v b : Nat} (h : hb p v b = true) (ho : okd (p / 3 ^ b % 3) (v.testBit b) = true) : hb p v (b + 1) = true := by simp only [hb]; rw [h, ho]; rfl
theorem hb_n {p v b : Nat} (ho : okd (p / 3 ^ b % 3) (v.testBit b) = false) : hb p v (b + 1) = false := by simp only [hb]; rw [ho]; simp
theorem fn_step {p v k z : Nat} (hz : z = (hb p v k).toNat) : (z = 0 → (hb p v (k + 1)).toNat = 0) ∧ (z ≠ 0 → p / 3 ^ k % 3 = 0 → (hb p v (k + 1)).toNat = 1) ∧ (z ≠ 0 → p / 3 ^ k % 3 = 1 → (hb p v (k + 1)).toNat = (v / 2 ^ k &&& 1)) ∧ (z ≠ 0 → p / 3 ^ k % 3 = 2 → (hb p v (k + 1)).toNat + (v / 2 ^ k &&& 1) = 1) ∧ (v / 2 ^ k &&& 1) ≤ 1 ∧ p / 3 ^ k % 3 < 3 := by
  have h3 := Nat.mod_lt (p / 3 ^ k) (show 0 < 3 by omega)
  have e := tb_and1 v k
  simp only [hb]
  refine ⟨fun h => ?_, fun h hd => ?_, fun h hd => ?_, fun h hd => ?_, ?_, h3⟩
  · have : hb p v k = false := by cases q : hb p v k with
      | false => rfl
      | true => rw [q] at hz; simp at hz; omega
    rw [this]; rfl
  · have : hb p v k = true := by cases q : hb p v k with
      | true => rfl
      | false => rw [q] at hz; simp at hz; omega
    rw [this, hd]; simp [okd]
  · have : hb p v k = true := by cases q : hb p v k with
      | true => rfl
      | false => rw [q] at hz; simp at hz; omega
    rw [this, hd, e]; cases v.testBit k <;> simp [okd]
  · have : hb p v k = true := by cases q : hb p v k with
      | true => rfl
      | false => rw [q] at hz; simp at hz; omega
    rw [this, hd, e]; cases v.testBit k <;> simp [okd]
  · rw [e]; split <;> omega
theorem fnv_t {n p v : Nat} (h : hb p v n = true) : fnv n p (v + 1) = fnv n p v ||| 2 ^ v := by simp only [fnv]; rw [if_pos h]
theorem fnv_f {n p v : Nat} (h : hb p v n = false) : fnv n p (v + 1) = fnv n p v := by simp only [fnv]; rw [if_neg (by rw [h]; simp)]
theorem toNat_ne {b : Bool} (h : ((b.toNat : Nat) : Int) ≠ 0) : b = true := by cases b <;> simp_all
theorem toNat_eq {b : Bool} (h : ((b.toNat : Nat) : Int) = 0) : b = false := by cases b <;> simp_all
/-- where the reference's rows for n bits begin -/
def coff (n : Nat) : Nat := if n = 1 then 0 else if n = 2 then 4 else if n = 3 then 20 else 276
def poff (n : Nat) : Nat := if n = 1 then 0 else if n = 2 then 3 else if n = 3 then 12 else 39
theorem pdiv3 (p b : Nat) : p / 3 ^ b / 3 = p / 3 ^ (b + 1) := by rw [Nat.div_div_eq_div_mul, Nat.pow_succ]
theorem pdiv_lt {p : Nat} (h : p < 81) (b : Nat) : p / 3 ^ b < 81 := Nat.lt_of_le_of_lt (Nat.div_le_self _ _) h
theorem and1_le (x : Nat) : x &&& 1 ≤ 1 := Nat.and_le_right
end PRODS2
