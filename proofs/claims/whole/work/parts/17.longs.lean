section LONGS
/-! longs that are told by natural numbers -/
theorem jl_and (a b : Nat) : lN a &&& lN b = lN (a &&& b) := by
  unfold lN; apply Int64.toBitVec_inj.mp; simp [Int64.toBitVec_ofNat']
theorem jl_or (a b : Nat) : lN a ||| lN b = lN (a ||| b) := by
  unfold lN; apply Int64.toBitVec_inj.mp; simp [Int64.toBitVec_ofNat']
theorem jl_s63 : ∀ k, k < 64 → ((nI k).toInt64 &&& 63) = lN k := by decide +kernel
theorem jl_shl (a k : Nat) (h : k < 64) : lN a <<< ((nI k).toInt64 &&& 63) = lN (a * 2 ^ k) := by
  rw [jl_s63 k h]
  apply Int64.toBitVec_inj.mp
  have e : ((lN k).toBitVec.smod 64).toNat = k := by
    revert k; decide +kernel
  rw [Int64.toBitVec_shiftLeft]
  apply BitVec.eq_of_toNat_eq
  rw [BitVec.shiftLeft_eq', BitVec.toNat_shiftLeft, e]
  unfold lN
  simp [Int64.toBitVec_ofNat', BitVec.toNat_ofNat, Nat.shiftLeft_eq, Nat.mod_mul_mod]
theorem jl_u63 : ∀ k, k < 64 → (((nI k).toInt64.toUInt64 &&& Int64.toUInt64 63).toBitVec % 64).toNat = k := by decide +kernel
theorem jl_ushr (a k : Nat) (ha : a < 2 ^ 64) (h : k < 64) : ((lN a).toUInt64 >>> ((nI k).toInt64.toUInt64 &&& Int64.toUInt64 63)).toInt64 = lN (a / 2 ^ k) := by
  apply Int64.toBitVec_inj.mp
  show ((lN a).toUInt64 >>> ((nI k).toInt64.toUInt64 &&& Int64.toUInt64 63)).toBitVec = _
  rw [UInt64.toBitVec_shiftRight]
  apply BitVec.eq_of_toNat_eq
  rw [BitVec.ushiftRight_eq', BitVec.toNat_ushiftRight, jl_u63 k h]
  unfold lN
  show (BitVec.ofNat 64 a).toNat >>> k = (BitVec.ofNat 64 (a / 2 ^ k)).toNat
  rw [BitVec.toNat_ofNat, BitVec.toNat_ofNat, Nat.mod_eq_of_lt ha, Nat.mod_eq_of_lt (Nat.lt_of_le_of_lt (Nat.div_le_self _ _) ha), Nat.shiftRight_eq_div_pow]
/-- ones at the places of a list -/
def on1 (k : Nat) : Nat := jval (List.replicate k 1)
theorem on1_eq (xs : List Nat) : jval (xs.map (fun _ => 1)) = on1 xs.length := by
  unfold on1
  congr 1
  rw [List.map_const']
theorem on1_is : ∀ k, k < 4 → 16513 &&& (2 ^ (7 * k) - 1) = on1 k := by decide +kernel
theorem or_add {a b k : Nat} (h : b < 2 ^ k) : a * 2 ^ k ||| b = a * 2 ^ k + b := by
  rw [Nat.mul_comm]; exact (Nat.two_pow_add_eq_or_of_lt h a).symm
theorem mod48 (a : Nat) : a &&& 281474976710655 = a % 2 ^ 48 := Nat.and_two_pow_sub_one_eq_mod a 48
/-- two forms joined -/
theorem join_is {A B : List Nat} {ad : Nat} (hA : ∀ p ∈ A, p < 128) (hB : ∀ p ∈ B, p + ad < 128) (hB3 : B.length ≤ 3) (hl : A.length + B.length ≤ 6) :
    (A.length + B.length) * 2 ^ 48 ||| (jval A * 2 ^ (7 * B.length) ||| (jval B + ad * on1 B.length)) = fcode (A ++ B.map (· + ad)) := by
  have hB' : ∀ p ∈ B.map (· + ad), p < 128 := fun p hp => by
    obtain ⟨q, hq, rfl⟩ := List.mem_map.mp hp
    exact hB q hq
  have e1 : jval B + ad * on1 B.length = jval (B.map (· + ad)) := by rw [jval_map, on1_eq]
  have l1 : jval (B.map (· + ad)) < 2 ^ (7 * B.length) := by
    have := jval_lt _ hB'
    rw [List.length_map, p128] at this
    exact this
  have e2 : jval A * 2 ^ (7 * B.length) + jval (B.map (· + ad)) = jval (A ++ B.map (· + ad)) := by rw [jval_app, List.length_map, p128]
  have hAB : ∀ p ∈ A ++ B.map (· + ad), p < 128 := fun p hp => (List.mem_append.mp hp).elim (hA p) (hB' p)
  have l2 := jval_42 (ps := A ++ B.map (· + ad)) (by simpa using hl) hAB
  rw [e1, or_add l1, e2, or_add (Nat.lt_trans l2 (by decide))]
  unfold fcode
  simp
end LONGS
