set_option maxHeartbeats 4000000 in
set_option maxRecDepth 100000 in
theorem c_F_sizeOf (E : jE) (l : Launch) (a : Nat) (ha : a < 2 ^ 63) : Con E l yF_sizeOf bF_sizeOf 2 (some .int) { frames := 0, cells := 0, slots := 0, locals := 0 } [.long (lN (a))] [] (fun r w => r = some (.int (nI (a / 2 ^ 48))) ∧ w = []) := by
  refine Con.ofI (by decide) (Nat.le_of_ble_eq_true rfl) ?_
  intro J C hret
  show J 0 [(0, .long (lN (a)))] [] [] 0 0
  refine J_lload_n C 0 dF_sizeOf_0 rfl rfl ?_
  refine J_bipush C (v := nI (48)) dF_sizeOf_1 (by decide) ?_
  refine J_lushr C (v := lN (a / 2 ^ 48)) dF_sizeOf_3 (jl_ushr a 48 (by omega) (by omega)) ?_
  refine J_l2i C (v := nI (a / 2 ^ 48)) dF_sizeOf_4 (lN_i _) ?_
  exact hret _ _ _ _ _ _ dF_sizeOf_5 (by decide) (by decide) (⟨rfl, rfl⟩)
set_option maxHeartbeats 4000000 in
set_option maxRecDepth 100000 in
theorem c_F_numberAt_t (E : jE) (l : Launch) (ps : List Nat) (k : Nat) (hl : ps.length ≤ 6) (hp : ∀ p ∈ ps, p < 128) (hk : k < ps.length) : Con E l yF_numberAt bF_numberAt 4 (some .int) { frames := 1, cells := 0, slots := 0, locals := 21 } [.long (lN (fcode ps)), .int (nI (k))] [] (fun r w => r = some (.int (nI (ps.getD k 0))) ∧ w = []) := by
  refine Con.ofI (by decide) (Nat.le_of_ble_eq_true rfl) ?_
  intro J C hret
  show J 0 [(0, .long (lN (fcode ps))), (2, .int (nI (k)))] [] [] 0 0
  have flt := fcode_lt hl hp
  have fsz := fcode_size hl hp
  refine J_lload_n C 0 dF_numberAt_0 rfl rfl ?_
  refine J_callS C (rest := []) [] [] [] (c_F_sizeOf E l (fcode ps) (by omega)) mmF_sizeOf lkF_21 (rfl) rfl rfl ⟨by decide, by decide⟩ ⟨by decide, by decide⟩ (Nat.le_of_ble_eq_true rfl) dF_numberAt_1 (fun r_c w_c hp => ?_)
  obtain ⟨rfl, rfl⟩ := hp
  refine J_norm C (st' := [.int (nI ((fcode ps) / 2 ^ 48))]) (ws' := []) (cs' := 0) (ss' := 0) rfl (rfl) rfl rfl ?_
  refine J_topN C (n' := ps.length) (fsz) ?_
  refine J_istore_n C (lv' := [(0, .long (lN (fcode ps))), (2, .int (nI (k))), (3, .int (nI (ps.length)))]) [1, 2, 0] dF_numberAt_4 rfl (by decide) rfl ?_
  refine J_iload_n C 1 dF_numberAt_5 rfl rfl ?_
  refine J_if_lt C 14 (nI_toInt (n := k) (by omega)) dF_numberAt_6 (by decide) (fun h6 => ?_) (fun h6 => ?_)
  · exfalso; omega
  · refine J_iload_n C 1 dF_numberAt_9 rfl rfl ?_
    refine J_iload_n C 2 dF_numberAt_10 rfl rfl ?_
    refine J_icmp_lt C 16 (nI_toInt (n := k) (by omega)) (nI_toInt (n := ps.length) (by omega)) dF_numberAt_11 (by decide) (fun h11 => ?_) (fun h11 => ?_)
    · refine J_lload_n C 0 dF_numberAt_16 rfl rfl ?_
      refine J_bipush C (v := nI (7)) dF_numberAt_17 (by decide) ?_
      refine J_iload_n C 2 dF_numberAt_19 rfl rfl ?_
      refine J_iconst C (v := nI (1)) dF_numberAt_20 (by decide) ?_
      refine J_isubN C dF_numberAt_21 (by omega) ?_
      refine J_iload_n C 1 dF_numberAt_22 rfl rfl ?_
      refine J_isubN C dF_numberAt_23 (by omega) ?_
      refine J_imulN C dF_numberAt_24 ?_
      refine J_lushr C (v := lN (fcode ps / 2 ^ (7 * (ps.length - 1 - k)))) dF_numberAt_25 (jl_ushr _ _ (by omega) (by omega)) ?_
      refine J_l2i C (v := nI (fcode ps / 2 ^ (7 * (ps.length - 1 - k)))) dF_numberAt_26 (lN_i _) ?_
      refine J_bipush C (v := nI (127)) dF_numberAt_27 (by decide) ?_
      refine J_iandN C dF_numberAt_29 ?_
      refine J_topN C (n' := ps.getD k 0) (fcode_num hl hp hk) ?_
      exact hret _ _ _ _ _ _ dF_numberAt_30 (by decide) (by decide) (⟨rfl, rfl⟩)
    · exfalso; omega
set_option maxHeartbeats 4000000 in
set_option maxRecDepth 100000 in
theorem c_F_numberAt_f (E : jE) (l : Launch) (ps : List Nat) (x : Int32) (hl : ps.length ≤ 6) (hp : ∀ p ∈ ps, p < 128) (hx : x.toInt < 0 ∨ (ps.length : Int) ≤ x.toInt) : Con E l yF_numberAt bF_numberAt 4 (some .int) { frames := 1, cells := 0, slots := 0, locals := 21 } [.long (lN (fcode ps)), .int (x)] [] (fun r w => r = some (.int (-1)) ∧ w = []) := by
  refine Con.ofI (by decide) (Nat.le_of_ble_eq_true rfl) ?_
  intro J C hret
  show J 0 [(0, .long (lN (fcode ps))), (2, .int (x))] [] [] 0 0
  have flt := fcode_lt hl hp
  have fsz := fcode_size hl hp
  refine J_lload_n C 0 dF_numberAt_0 rfl rfl ?_
  refine J_callS C (rest := []) [] [] [] (c_F_sizeOf E l (fcode ps) (by omega)) mmF_sizeOf lkF_21 (rfl) rfl rfl ⟨by decide, by decide⟩ ⟨by decide, by decide⟩ (Nat.le_of_ble_eq_true rfl) dF_numberAt_1 (fun r_c w_c hp => ?_)
  obtain ⟨rfl, rfl⟩ := hp
  refine J_norm C (st' := [.int (nI ((fcode ps) / 2 ^ 48))]) (ws' := []) (cs' := 0) (ss' := 0) rfl (rfl) rfl rfl ?_
  refine J_topN C (n' := ps.length) (fsz) ?_
  refine J_istore_n C (lv' := [(0, .long (lN (fcode ps))), (2, .int (x)), (3, .int (nI (ps.length)))]) [1, 2, 0] dF_numberAt_4 rfl (by decide) rfl ?_
  refine J_iload_n C 1 dF_numberAt_5 rfl rfl ?_
  refine J_if_lt C 14 rfl dF_numberAt_6 (by decide) (fun h6 => ?_) (fun h6 => ?_)
  · refine J_iconst C (v := -1) dF_numberAt_14 (by decide) ?_
    exact hret _ _ _ _ _ _ dF_numberAt_15 (by decide) (by decide) (⟨rfl, rfl⟩)
  · refine J_iload_n C 1 dF_numberAt_9 rfl rfl ?_
    refine J_iload_n C 2 dF_numberAt_10 rfl rfl ?_
    refine J_icmp_lt C 16 rfl (nI_toInt (n := ps.length) (by omega)) dF_numberAt_11 (by decide) (fun h11 => ?_) (fun h11 => ?_)
    · exfalso; omega
    · refine J_iconst C (v := -1) dF_numberAt_14 (by decide) ?_
      exact hret _ _ _ _ _ _ dF_numberAt_15 (by decide) (by decide) (⟨rfl, rfl⟩)
set_option maxHeartbeats 4000000 in
set_option maxRecDepth 100000 in
theorem c_F_join (E : jE) (l : Launch) (A : List Nat) (B : List Nat) (ad : Nat) (hA : ∀ p ∈ A, p < 128) (hB : ∀ p ∈ B, p + ad < 128) (hB3 : B.length ≤ 3) (hl : A.length + B.length ≤ 6) (had : ad < 128) : Con E l yF_join bF_join 11 (some .long) { frames := 1, cells := 0, slots := 0, locals := 21 } [.long (lN (fcode A)), .long (lN (fcode B)), .int (nI (ad))] [] (fun r w => r = some (.long (lN (fcode (A ++ B.map (· + ad))))) ∧ w = []) := by
  refine Con.ofL (by decide) (Nat.le_of_ble_eq_true rfl) ?_
  intro J C hret
  show J 0 [(0, .long (lN (fcode A))), (2, .long (lN (fcode B))), (4, .int (nI (ad)))] [] [] 0 0
  have hB' : ∀ p ∈ B, p < 128 := fun p hp => by have := hB p hp; omega
  have fa := fcode_lt (ps := A) (by omega) hA
  have fb := fcode_lt (ps := B) (by omega) hB'
  have sa := fcode_size (ps := A) (by omega) hA
  have sb := fcode_size (ps := B) (by omega) hB'
  have na := fcode_nums (ps := A) (by omega) hA
  have nb := fcode_nums (ps := B) (by omega) hB'
  refine J_lload_n C 1 dF_join_0 rfl rfl ?_
  refine J_callS C (rest := []) [] [] [] (c_F_sizeOf E l (fcode B) (by omega)) mmF_sizeOf lkF_21 (rfl) rfl rfl ⟨by decide, by decide⟩ ⟨by decide, by decide⟩ (Nat.le_of_ble_eq_true rfl) dF_join_1 (fun r_c w_c hp => ?_)
  obtain ⟨rfl, rfl⟩ := hp
  refine J_norm C (st' := [.int (nI ((fcode B) / 2 ^ 48))]) (ws' := []) (cs' := 0) (ss' := 0) rfl (rfl) rfl rfl ?_
  refine J_topN C (n' := B.length) (sb) ?_
  refine J_istore C (lv' := [(0, .long (lN (fcode A))), (2, .long (lN (fcode B))), (4, .int (nI (ad))), (5, .int (nI (B.length)))]) [1, 2, 3, 0] dF_join_4 (by decide) rfl ?_
  refine J_bipush C (v := nI (7)) dF_join_6 (by decide) ?_
  refine J_iload C 3 dF_join_8 rfl ?_
  refine J_imulN C dF_join_10 ?_
  refine J_istore C (lv' := [(0, .long (lN (fcode A))), (2, .long (lN (fcode B))), (4, .int (nI (ad))), (5, .int (nI (B.length))), (6, .int (nI (7 * B.length)))]) [1, 2, 3, 4, 0] dF_join_11 (by decide) rfl ?_
  refine J_ldc2 C (v := lN (16513)) kkF_55 dF_join_13 ?_
  refine J_lconst C (v := lN (1)) dF_join_16 rfl ?_
  refine J_iload C 4 dF_join_17 rfl ?_
  refine J_lshl C (v := lN (1 * 2 ^ (7 * B.length))) dF_join_19 (jl_shl 1 _ (by omega)) ?_
  refine J_lconst C (v := lN (1)) dF_join_20 rfl ?_
  refine J_lsub C dF_join_21 ?_
  refine J_topL C (x' := lN (2 ^ (7 * B.length) - 1)) (by rw [Nat.one_mul]; exact lN_sub (Nat.two_pow_pos _)) ?_
  refine J_land C dF_join_22 ?_
  refine J_topL C (x' := lN (on1 B.length)) (by rw [jl_and, on1_is _ (by omega)]) ?_
  refine J_lstore C (lv' := [(0, .long (lN (fcode A))), (2, .long (lN (fcode B))), (4, .int (nI (ad))), (5, .int (nI (B.length))), (6, .int (nI (7 * B.length))), (7, .long (lN (on1 B.length)))]) [1, 2, 3, 4, 5, 0] dF_join_23 (by decide) rfl ?_
  refine J_lload_n C 0 dF_join_25 rfl rfl ?_
  refine J_ldc2 C (v := lN (281474976710655)) kkF_57 dF_join_26 ?_
  refine J_land C dF_join_29 ?_
  refine J_topL C (x' := lN (jval A)) (by rw [jl_and, mod48, na]) ?_
  refine J_iload C 4 dF_join_30 rfl ?_
  refine J_lshl C (v := lN (jval A * 2 ^ (7 * B.length))) dF_join_32 (jl_shl _ _ (by omega)) ?_
  refine J_lload_n C 1 dF_join_33 rfl rfl ?_
  refine J_ldc2 C (v := lN (281474976710655)) kkF_57 dF_join_34 ?_
  refine J_land C dF_join_37 ?_
  refine J_topL C (x' := lN (jval B)) (by rw [jl_and, mod48, nb]) ?_
  refine J_iload C 2 dF_join_38 rfl ?_
  refine J_i2l C (v := lN (ad)) dF_join_40 (nI_l (by omega)) ?_
  refine J_lload C 5 dF_join_41 rfl ?_
  refine J_lmul C dF_join_43 ?_
  refine J_topL C (x' := lN (ad * on1 B.length)) (lN_mul _ _) ?_
  refine J_ladd C dF_join_44 ?_
  refine J_topL C (x' := lN (jval B + ad * on1 B.length)) (lN_add _ _) ?_
  refine J_lor C dF_join_45 ?_
  refine J_topL C (x' := lN (jval A * 2 ^ (7 * B.length) ||| (jval B + ad * on1 B.length))) (jl_or _ _) ?_
  refine J_lstore C (lv' := [(0, .long (lN (fcode A))), (2, .long (lN (fcode B))), (4, .int (nI (ad))), (5, .int (nI (B.length))), (6, .int (nI (7 * B.length))), (7, .long (lN (on1 B.length))), (9, .long (lN (jval A * 2 ^ (7 * B.length) ||| (jval B + ad * on1 B.length))))]) [1, 2, 3, 4, 5, 6, 0] dF_join_46 (by decide) rfl ?_
  refine J_lload_n C 0 dF_join_48 rfl rfl ?_
  refine J_callS C (rest := []) [] [] [] (c_F_sizeOf E l (fcode A) (by omega)) mmF_sizeOf lkF_21 (rfl) rfl rfl ⟨by decide, by decide⟩ ⟨by decide, by decide⟩ (Nat.le_of_ble_eq_true rfl) dF_join_49 (fun r_c w_c hp => ?_)
  obtain ⟨rfl, rfl⟩ := hp
  refine J_norm C (st' := [.int (nI ((fcode A) / 2 ^ 48))]) (ws' := []) (cs' := 0) (ss' := 0) rfl (rfl) rfl rfl ?_
  refine J_topN C (n' := A.length) (sa) ?_
  refine J_iload C 3 dF_join_52 rfl ?_
  refine J_iaddN C dF_join_54 ?_
  refine J_i2l C (v := lN (A.length + B.length)) dF_join_55 (nI_l (by omega)) ?_
  refine J_bipush C (v := nI (48)) dF_join_56 (by decide) ?_
  refine J_lshl C (v := lN ((A.length + B.length) * 2 ^ 48)) dF_join_58 (jl_shl _ 48 (by omega)) ?_
  refine J_lload C 6 dF_join_59 rfl ?_
  refine J_lor C dF_join_61 ?_
  refine J_topL C (x' := lN (fcode (A ++ B.map (· + ad)))) (by rw [jl_or, join_is hA hB hB3 hl]) ?_
  exact hret _ _ _ _ _ _ dF_join_62 (by decide) (by decide) (⟨rfl, rfl⟩)
set_option maxHeartbeats 4000000 in
set_option maxRecDepth 100000 in
theorem c_F_leastFrom (E : jE) (l : Launch) (h : Nat) (b : Nat) (fl : Nat) (rw : Nat → Int64) (n : Nat) (f : Nat) (hn3 : n ≤ 3) (hf : f < 2 ^ 2 ^ (n + 1)) (hfl : n < fl) (hr : fRow fl rw) : Con E l yF_leastFrom bF_leastFrom 20 (some .long) { frames := 2, cells := 0, slots := 0, locals := 51 } [.ref (h), .int (nI (n + 1)), .int (nI (f))] [((h), .inr (0, [.ref (b), .int (nI (fl))])), kL E (b) (278) (rw)] (fun r w => r = some (.long (lN (fcode (pF (n + 1) f)))) ∧ w = [((h), .inr (0, [.ref (b), .int (nI (fl))])), kL E (b) (278) (rw)]) := by
  refine Con.ofL (by decide) (Nat.le_of_ble_eq_true rfl) ?_
  intro J C hret
  show J 0 [(0, .ref (h)), (1, .int (nI (n + 1))), (2, .int (nI (f)))] [] [((h), .inr (0, [.ref (b), .int (nI (fl))])), kL E (b) (278) (rw)] 0 0
  have hp16 : 2 ^ n ≤ 8 := Nat.pow_le_pow_right (by omega) hn3
  have hF : 2 ^ 2 ^ n ≤ 256 := Nat.pow_le_pow_right (n := 2) (by omega) hp16
  have hF0 := p1 (2 ^ n)
  have hf65 : f < 65536 := Nat.lt_of_lt_of_le hf (p65 (show n + 1 ≤ 4 by omega))
  have hs := jsT_fit hn3
  have hh := p_half hf
  have h81 := p81 (show n ≤ 4 by omega)
  have h27 := p27 hn3
  refine J_iconst C (v := nI (1)) dF_leastFrom_0 (by decide) ?_
  refine J_iload_n C 1 dF_leastFrom_1 rfl rfl ?_
  refine J_iconst C (v := nI (1)) dF_leastFrom_2 (by decide) ?_
  refine J_isubN C dF_leastFrom_3 (by omega) ?_
  refine J_topN C (n' := n) (by omega) ?_
  refine J_ishl1 C dF_leastFrom_4 (by omega) ?_
  refine J_istore_n C (lv' := [(0, .ref (h)), (1, .int (nI (n + 1))), (2, .int (nI (f))), (3, .int (nI (2 ^ n)))]) [1, 2, 3, 0] dF_leastFrom_5 rfl (by decide) rfl ?_
  refine J_iconst C (v := nI (1)) dF_leastFrom_6 (by decide) ?_
  refine J_iload_n C 3 dF_leastFrom_7 rfl rfl ?_
  refine J_ishl1 C dF_leastFrom_8 (by omega) ?_
  refine J_istore C (lv' := [(0, .ref (h)), (1, .int (nI (n + 1))), (2, .int (nI (f))), (3, .int (nI (2 ^ n))), (4, .int (nI (2 ^ (2 ^ n))))]) [1, 2, 3, 4, 0] dF_leastFrom_9 (by decide) rfl ?_
  refine J_iload_n C 2 dF_leastFrom_11 rfl rfl ?_
  refine J_iload C 4 dF_leastFrom_12 rfl ?_
  refine J_iconst C (v := nI (1)) dF_leastFrom_14 (by decide) ?_
  refine J_isubN C dF_leastFrom_15 (by omega) ?_
  refine J_iandN C dF_leastFrom_16 ?_
  refine J_topN C (n' := f % 2 ^ 2 ^ n) (Nat.and_two_pow_sub_one_eq_mod f (2 ^ n)) ?_
  refine J_istore C (lv' := [(0, .ref (h)), (1, .int (nI (n + 1))), (2, .int (nI (f))), (3, .int (nI (2 ^ n))), (4, .int (nI (2 ^ (2 ^ n)))), (5, .int (nI (f % 2 ^ 2 ^ n)))]) [1, 2, 3, 4, 5, 0] dF_leastFrom_17 (by decide) rfl ?_
  refine J_iload_n C 2 dF_leastFrom_19 rfl rfl ?_
  refine J_iload_n C 3 dF_leastFrom_20 rfl rfl ?_
  refine J_ishrN C dF_leastFrom_21 (by omega) (by omega) ?_
  refine J_iload C 4 dF_leastFrom_22 rfl ?_
  refine J_iconst C (v := nI (1)) dF_leastFrom_24 (by decide) ?_
  refine J_isubN C dF_leastFrom_25 (by omega) ?_
  refine J_iandN C dF_leastFrom_26 ?_
  refine J_topN C (n' := f / 2 ^ 2 ^ n) (by rw [Nat.and_two_pow_sub_one_eq_mod, Nat.mod_eq_of_lt hh.1]) ?_
  refine J_istore C (lv' := [(0, .ref (h)), (1, .int (nI (n + 1))), (2, .int (nI (f))), (3, .int (nI (2 ^ n))), (4, .int (nI (2 ^ (2 ^ n)))), (5, .int (nI (f % 2 ^ 2 ^ n))), (6, .int (nI (f / 2 ^ 2 ^ n)))]) [1, 2, 3, 4, 5, 6, 0] dF_leastFrom_27 (by decide) rfl ?_
  refine J_gets C fkF_33 dF_leastFrom_29 ?_
  refine J_iload_n C 1 dF_leastFrom_32 rfl rfl ?_
  refine J_iconst C (v := nI (1)) dF_leastFrom_33 (by decide) ?_
  refine J_isubN C dF_leastFrom_34 (by omega) ?_
  refine J_topN C (n' := n) (by omega) ?_
  refine J_tald C (by omega) dF_leastFrom_35 ?_
  refine J_istore C (lv' := [(0, .ref (h)), (1, .int (nI (n + 1))), (2, .int (nI (f))), (3, .int (nI (2 ^ n))), (4, .int (nI (2 ^ (2 ^ n)))), (5, .int (nI (f % 2 ^ 2 ^ n))), (6, .int (nI (f / 2 ^ 2 ^ n))), (7, .int (nI (jsT n)))]) [1, 2, 3, 4, 5, 6, 7, 0] dF_leastFrom_36 (by decide) rfl ?_
  refine J_iload_n C 1 dF_leastFrom_38 rfl rfl ?_
  refine J_iconst C (v := nI (1)) dF_leastFrom_39 (by decide) ?_
  refine J_isubN C dF_leastFrom_40 (by omega) ?_
  refine J_topN C (n' := n) (by omega) ?_
  refine J_callS C (rest := []) [] [] [((h), .inr (0, [.ref (b), .int (nI (fl))])), kL E (b) (278) (rw)] (c_P_count E l n (by omega)) mmP_count lkF_37 (rfl) rfl rfl ⟨by decide, by decide⟩ ⟨by decide, by decide⟩ (Nat.le_of_ble_eq_true rfl) dF_leastFrom_41 (fun r_c w_c hp => ?_)
  obtain ⟨rfl, rfl⟩ := hp
  refine J_norm C (st' := [.int (nI (3 ^ n))]) (ws' := [((h), .inr (0, [.ref (b), .int (nI (fl))])), kL E (b) (278) (rw)]) (cs' := 0) (ss' := 0) rfl (rfl) rfl rfl ?_
  refine J_istore C (lv' := [(0, .ref (h)), (1, .int (nI (n + 1))), (2, .int (nI (f))), (3, .int (nI (2 ^ n))), (4, .int (nI (2 ^ (2 ^ n)))), (5, .int (nI (f % 2 ^ 2 ^ n))), (6, .int (nI (f / 2 ^ 2 ^ n))), (7, .int (nI (jsT n))), (8, .int (nI (3 ^ n)))]) [1, 2, 3, 4, 5, 6, 7, 8, 0] dF_leastFrom_44 (by decide) rfl ?_
  refine J_ldc2 C (v := lN (1970324836974591)) kkF_43 dF_leastFrom_46 ?_
  refine J_lstore C (lv' := [(0, .ref (h)), (1, .int (nI (n + 1))), (2, .int (nI (f))), (3, .int (nI (2 ^ n))), (4, .int (nI (2 ^ (2 ^ n)))), (5, .int (nI (f % 2 ^ 2 ^ n))), (6, .int (nI (f / 2 ^ 2 ^ n))), (7, .int (nI (jsT n))), (8, .int (nI (3 ^ n))), (9, .long (lN (1970324836974591)))]) [1, 2, 3, 4, 5, 6, 7, 8, 9, 0] dF_leastFrom_49 (by decide) rfl ?_
  refine J_iconst C (v := nI (0)) dF_leastFrom_51 (by decide) ?_
  refine J_istore C (lv' := [(0, .ref (h)), (1, .int (nI (n + 1))), (2, .int (nI (f))), (3, .int (nI (2 ^ n))), (4, .int (nI (2 ^ (2 ^ n)))), (5, .int (nI (f % 2 ^ 2 ^ n))), (6, .int (nI (f / 2 ^ 2 ^ n))), (7, .int (nI (jsT n))), (8, .int (nI (3 ^ n))), (9, .long (lN (1970324836974591))), (11, .int (nI (0)))]) [1, 2, 3, 4, 5, 6, 7, 8, 9, 10, 0] dF_leastFrom_52 (by decide) rfl ?_
  have lp_54 : ∀ (k_54 : Nat) (g m : Nat), (g ≤ 2 ^ 2 ^ n) → (∀ g', g' < g → pCand n f g' = pF (n + 1) f → m ≤ fcode (pF (n + 1) f)) → (m = 1970324836974591 ∨ ∃ g', g' < g ∧ g' < 2 ^ 2 ^ n ∧ (pCand n f g').length ≤ 6 ∧ m = fcode (pCand n f g')) → (m < 2 ^ 52) → (2 ^ 2 ^ n - g) < k_54 → J 54 [(0, .ref (h)), (1, .int (nI (n + 1))), (2, .int (nI (f))), (3, .int (nI (2 ^ n))), (4, .int (nI (2 ^ (2 ^ n)))), (5, .int (nI (f % 2 ^ 2 ^ n))), (6, .int (nI (f / 2 ^ 2 ^ n))), (7, .int (nI (jsT n))), (8, .int (nI (3 ^ n))), (9, .long (lN (m))), (11, .int (nI (g)))] [] [((h), .inr (0, [.ref (b), .int (nI (fl))])), kL E (b) (278) (rw)] (0) (0) := by
    intro k_54
    induction k_54 with
    | zero => intro g m hg h1 h2 hm hk_54; exact absurd hk_54 (Nat.not_lt_zero _)
    | succ k_54 ih_54 =>
      intro g m hg h1 h2 hm hk_54
      refine J_iload C 10 dF_leastFrom_54 rfl ?_
      refine J_iload C 4 dF_leastFrom_56 rfl ?_
      refine J_icmp_ge C 163 (nI_toInt (n := g) (by omega)) (nI_toInt (n := 2 ^ (2 ^ n)) (by omega)) dF_leastFrom_58 (by decide) (fun h58 => ?_) (fun h58 => ?_)
      · obtain rfl : 2 ^ 2 ^ n = g := by omega
        have em := lf_end (show n + 1 ≤ 4 by omega) hf h1 h2
        subst em
        refine J_lload C 9 dF_leastFrom_163 rfl ?_
        exact hret _ _ _ _ _ _ dF_leastFrom_165 (by decide) (by decide) (⟨rfl, rfl⟩)
      · have gl : g < 2 ^ 2 ^ n := by omega
        have xh := Nat.xor_lt_two_pow hh.1 gl
        have xl := Nat.xor_lt_two_pow hh.2 gl
        have e1 := pF_128 (show n ≤ 4 by omega) gl
        have e2 := pF_128 (show n ≤ 4 by omega) xh
        have e3 := pF_128 (show n ≤ 4 by omega) xl
        have l1 : (pF n g).length ≤ 3 := pc_le3 hn3 gl
        have l2 : (pF n (f / 2 ^ 2 ^ n ^^^ g)).length ≤ 3 := pc_le3 hn3 xh
        have l3 : (pF n (f % 2 ^ 2 ^ n ^^^ g)).length ≤ 3 := pc_le3 hn3 xl
        have lc : (pCand n f g).length = (pF n g).length + (pF n (f / 2 ^ 2 ^ n ^^^ g)).length + (pF n (f % 2 ^ 2 ^ n ^^^ g)).length := pJ_len _ _ _ _
        refine J_aload_n C 0 dF_leastFrom_61 rfl rfl ?_
        refine J_get C 0 0 hinF rfl rfl (by decide) fkF_11 rfl dF_leastFrom_62 ?_
        refine J_iload C 7 dF_leastFrom_65 rfl ?_
        refine J_iload C 10 dF_leastFrom_67 rfl ?_
        refine J_iaddN C dF_leastFrom_69 ?_
        refine J_lald C 1 rfl (by omega) (by omega) dF_leastFrom_70 ?_
        refine J_topL C (x' := lN (fcode (pF n g))) (hr n hfl g (by omega)) ?_
        refine J_lstore C (lv' := [(0, .ref (h)), (1, .int (nI (n + 1))), (2, .int (nI (f))), (3, .int (nI (2 ^ n))), (4, .int (nI (2 ^ (2 ^ n)))), (5, .int (nI (f % 2 ^ 2 ^ n))), (6, .int (nI (f / 2 ^ 2 ^ n))), (7, .int (nI (jsT n))), (8, .int (nI (3 ^ n))), (9, .long (lN (m))), (11, .int (nI (g))), (12, .long (lN (fcode (pF n g))))]) [1, 2, 3, 4, 5, 6, 7, 8, 9, 10, 11, 0] dF_leastFrom_71 (by decide) rfl ?_
        refine J_aload_n C 0 dF_leastFrom_73 rfl rfl ?_
        refine J_get C 0 0 hinF rfl rfl (by decide) fkF_11 rfl dF_leastFrom_74 ?_
        refine J_iload C 7 dF_leastFrom_77 rfl ?_
        refine J_iload C 6 dF_leastFrom_79 rfl ?_
        refine J_iload C 10 dF_leastFrom_81 rfl ?_
        refine J_ixorN C dF_leastFrom_83 ?_
        refine J_topN C (n' := f / 2 ^ 2 ^ n ^^^ g) (rfl) ?_
        refine J_iaddN C dF_leastFrom_84 ?_
        refine J_lald C 1 rfl (by omega) (by omega) dF_leastFrom_85 ?_
        refine J_topL C (x' := lN (fcode (pF n (f / 2 ^ 2 ^ n ^^^ g)))) (hr n hfl _ xh) ?_
        refine J_lstore C (lv' := [(0, .ref (h)), (1, .int (nI (n + 1))), (2, .int (nI (f))), (3, .int (nI (2 ^ n))), (4, .int (nI (2 ^ (2 ^ n)))), (5, .int (nI (f % 2 ^ 2 ^ n))), (6, .int (nI (f / 2 ^ 2 ^ n))), (7, .int (nI (jsT n))), (8, .int (nI (3 ^ n))), (9, .long (lN (m))), (11, .int (nI (g))), (12, .long (lN (fcode (pF n g)))), (14, .long (lN (fcode (pF n (f / 2 ^ 2 ^ n ^^^ g)))))]) [1, 2, 3, 4, 5, 6, 7, 8, 9, 10, 11, 12, 0] dF_leastFrom_86 (by decide) rfl ?_
        refine J_aload_n C 0 dF_leastFrom_88 rfl rfl ?_
        refine J_get C 0 0 hinF rfl rfl (by decide) fkF_11 rfl dF_leastFrom_89 ?_
        refine J_iload C 7 dF_leastFrom_92 rfl ?_
        refine J_iload C 5 dF_leastFrom_94 rfl ?_
        refine J_iload C 10 dF_leastFrom_96 rfl ?_
        refine J_ixorN C dF_leastFrom_98 ?_
        refine J_iaddN C dF_leastFrom_99 ?_
        refine J_lald C 1 rfl (by omega) (by omega) dF_leastFrom_100 ?_
        refine J_topL C (x' := lN (fcode (pF n (f % 2 ^ 2 ^ n ^^^ g)))) (hr n hfl _ xl) ?_
        refine J_lstore C (lv' := [(0, .ref (h)), (1, .int (nI (n + 1))), (2, .int (nI (f))), (3, .int (nI (2 ^ n))), (4, .int (nI (2 ^ (2 ^ n)))), (5, .int (nI (f % 2 ^ 2 ^ n))), (6, .int (nI (f / 2 ^ 2 ^ n))), (7, .int (nI (jsT n))), (8, .int (nI (3 ^ n))), (9, .long (lN (m))), (11, .int (nI (g))), (12, .long (lN (fcode (pF n g)))), (14, .long (lN (fcode (pF n (f / 2 ^ 2 ^ n ^^^ g))))), (16, .long (lN (fcode (pF n (f % 2 ^ 2 ^ n ^^^ g)))))]) [1, 2, 3, 4, 5, 6, 7, 8, 9, 10, 11, 12, 13, 0] dF_leastFrom_101 (by decide) rfl ?_
        refine J_lload C 11 dF_leastFrom_103 rfl ?_
        refine J_callS C (rest := []) [] [] [((h), .inr (0, [.ref (b), .int (nI (fl))])), kL E (b) (278) (rw)] (c_F_sizeOf E l (fcode (pF n g)) (by have := fcode_lt (ps := pF n g) (by omega) e1; omega)) mmF_sizeOf lkF_21 (rfl) rfl rfl ⟨by decide, by decide⟩ ⟨by decide, by decide⟩ (Nat.le_of_ble_eq_true rfl) dF_leastFrom_105 (fun r_c w_c hp => ?_)
        obtain ⟨rfl, rfl⟩ := hp
        refine J_norm C (st' := [.int (nI ((fcode (pF n g)) / 2 ^ 48))]) (ws' := [((h), .inr (0, [.ref (b), .int (nI (fl))])), kL E (b) (278) (rw)]) (cs' := 0) (ss' := 0) rfl (rfl) rfl rfl ?_
        refine J_topN C (n' := (pF n g).length) (fcode_size (by omega) e1) ?_
        refine J_lload C 12 dF_leastFrom_108 rfl ?_
        refine J_callS C (rest := [.int (nI ((pF n g).length))]) [] [] [((h), .inr (0, [.ref (b), .int (nI (fl))])), kL E (b) (278) (rw)] (c_F_sizeOf E l (fcode (pF n (f / 2 ^ 2 ^ n ^^^ g))) (by have := fcode_lt (ps := pF n (f / 2 ^ 2 ^ n ^^^ g)) (by omega) e2; omega)) mmF_sizeOf lkF_21 (rfl) rfl rfl ⟨by decide, by decide⟩ ⟨by decide, by decide⟩ (Nat.le_of_ble_eq_true rfl) dF_leastFrom_110 (fun r_c w_c hp => ?_)
        obtain ⟨rfl, rfl⟩ := hp
        refine J_norm C (st' := [.int (nI ((fcode (pF n (f / 2 ^ 2 ^ n ^^^ g))) / 2 ^ 48)), .int (nI ((pF n g).length))]) (ws' := [((h), .inr (0, [.ref (b), .int (nI (fl))])), kL E (b) (278) (rw)]) (cs' := 0) (ss' := 0) rfl (rfl) rfl rfl ?_
        refine J_topN C (n' := (pF n (f / 2 ^ 2 ^ n ^^^ g)).length) (fcode_size (by omega) e2) ?_
        refine J_iaddN C dF_leastFrom_113 ?_
        refine J_lload C 13 dF_leastFrom_114 rfl ?_
        refine J_callS C (rest := [.int (nI (((pF n g).length) + ((pF n (f / 2 ^ 2 ^ n ^^^ g)).length)))]) [] [] [((h), .inr (0, [.ref (b), .int (nI (fl))])), kL E (b) (278) (rw)] (c_F_sizeOf E l (fcode (pF n (f % 2 ^ 2 ^ n ^^^ g))) (by have := fcode_lt (ps := pF n (f % 2 ^ 2 ^ n ^^^ g)) (by omega) e3; omega)) mmF_sizeOf lkF_21 (rfl) rfl rfl ⟨by decide, by decide⟩ ⟨by decide, by decide⟩ (Nat.le_of_ble_eq_true rfl) dF_leastFrom_116 (fun r_c w_c hp => ?_)
        obtain ⟨rfl, rfl⟩ := hp
        refine J_norm C (st' := [.int (nI ((fcode (pF n (f % 2 ^ 2 ^ n ^^^ g))) / 2 ^ 48)), .int (nI (((pF n g).length) + ((pF n (f / 2 ^ 2 ^ n ^^^ g)).length)))]) (ws' := [((h), .inr (0, [.ref (b), .int (nI (fl))])), kL E (b) (278) (rw)]) (cs' := 0) (ss' := 0) rfl (rfl) rfl rfl ?_
        refine J_topN C (n' := (pF n (f % 2 ^ 2 ^ n ^^^ g)).length) (fcode_size (by omega) e3) ?_
        refine J_iaddN C dF_leastFrom_119 ?_
        refine J_lload C 9 dF_leastFrom_120 rfl ?_
        refine J_callS C (rest := [.int (nI ((((pF n g).length) + ((pF n (f / 2 ^ 2 ^ n ^^^ g)).length)) + ((pF n (f % 2 ^ 2 ^ n ^^^ g)).length)))]) [] [] [((h), .inr (0, [.ref (b), .int (nI (fl))])), kL E (b) (278) (rw)] (c_F_sizeOf E l m (by omega)) mmF_sizeOf lkF_21 (rfl) rfl rfl ⟨by decide, by decide⟩ ⟨by decide, by decide⟩ (Nat.le_of_ble_eq_true rfl) dF_leastFrom_122 (fun r_c w_c hp => ?_)
        obtain ⟨rfl, rfl⟩ := hp
        refine J_norm C (st' := [.int (nI (m / 2 ^ 48)), .int (nI ((((pF n g).length) + ((pF n (f / 2 ^ 2 ^ n ^^^ g)).length)) + ((pF n (f % 2 ^ 2 ^ n ^^^ g)).length)))]) (ws' := [((h), .inr (0, [.ref (b), .int (nI (fl))])), kL E (b) (278) (rw)]) (cs' := 0) (ss' := 0) rfl (rfl) rfl rfl ?_
        refine J_icmp_gt C 157 (nI_toInt (n := (((pF n g).length) + ((pF n (f / 2 ^ 2 ^ n ^^^ g)).length)) + ((pF n (f % 2 ^ 2 ^ n ^^^ g)).length)) (by omega)) (nI_toInt (n := m / 2 ^ 48) (by omega)) dF_leastFrom_125 (by decide) (fun h125 => ?_) (fun h125 => ?_)
        · refine J_iinc C (lv' := [(0, .ref (h)), (1, .int (nI (n + 1))), (2, .int (nI (f))), (3, .int (nI (2 ^ n))), (4, .int (nI (2 ^ (2 ^ n)))), (5, .int (nI (f % 2 ^ 2 ^ n))), (6, .int (nI (f / 2 ^ 2 ^ n))), (7, .int (nI (jsT n))), (8, .int (nI (3 ^ n))), (9, .long (lN (m))), (11, .int (nI (g + 1))), (12, .long (lN (fcode (pF n g)))), (14, .long (lN (fcode (pF n (f / 2 ^ 2 ^ n ^^^ g))))), (16, .long (lN (fcode (pF n (f % 2 ^ 2 ^ n ^^^ g)))))]) 10 [1, 2, 3, 4, 5, 6, 7, 8, 9, 10, 0, 11, 12, 13] dF_leastFrom_157 rfl (jn_inc _) (by decide) rfl ?_
          refine J_goto C 54 dF_leastFrom_160 (by decide) ?_
          refine J_lv C (lv' := [(0, .ref (h)), (1, .int (nI (n + 1))), (2, .int (nI (f))), (3, .int (nI (2 ^ n))), (4, .int (nI (2 ^ (2 ^ n)))), (5, .int (nI (f % 2 ^ 2 ^ n))), (6, .int (nI (f / 2 ^ 2 ^ n))), (7, .int (nI (jsT n))), (8, .int (nI (3 ^ n))), (9, .long (lN (m))), (11, .int (nI (g + 1)))]) [0, 1, 2, 3, 4, 5, 6, 7, 8, 9, 10] rfl ?_
          exact ih_54 (g + 1) m (by omega) (lf_skip h1 (by omega)) (lf_more h2) (hm) (by omega)
        · have hm6 : m / 2 ^ 48 ≤ 6 := lf_six h2
          have hcl : (pCand n f g).length ≤ 6 ∧ (∀ p ∈ pCand n f g, p < 128) ∧ g < 2 ^ 2 ^ n := ⟨by omega, fun p hp => p3_128 (show n + 1 ≤ 4 by omega) ((pCand_bt hf gl).1 p hp), gl⟩
          have e4 : ∀ p ∈ pF n g ++ (pF n (f / 2 ^ 2 ^ n ^^^ g)).map (· + 3 ^ n), p < 128 := fun p hp => by
            rcases List.mem_append.mp hp with q | q
            · exact e1 p q
            · obtain ⟨z, hz, rfl⟩ := List.mem_map.mp q
              have := pF_in xh z hz
              omega
          refine J_lload C 11 dF_leastFrom_128 rfl ?_
          refine J_lload C 12 dF_leastFrom_130 rfl ?_
          refine J_iload C 8 dF_leastFrom_132 rfl ?_
          refine J_callS C (rest := []) [] [] [((h), .inr (0, [.ref (b), .int (nI (fl))])), kL E (b) (278) (rw)] (c_F_join E l (pF n g) (pF n (f / 2 ^ 2 ^ n ^^^ g)) (3 ^ n) (e1) (fun p hp => by have := pF_in xh p hp; omega) (by omega) (by omega) (by omega)) mmF_join lkF_45 (rfl) rfl rfl ⟨by decide, by decide⟩ ⟨by decide, by decide⟩ (Nat.le_of_ble_eq_true rfl) dF_leastFrom_134 (fun r_c w_c hp => ?_)
          obtain ⟨rfl, rfl⟩ := hp
          refine J_norm C (st' := [.long (lN (fcode ((pF n g) ++ (pF n (f / 2 ^ 2 ^ n ^^^ g)).map (· + (3 ^ n)))))]) (ws' := [((h), .inr (0, [.ref (b), .int (nI (fl))])), kL E (b) (278) (rw)]) (cs' := 0) (ss' := 0) rfl (rfl) rfl rfl ?_
          refine J_lload C 13 dF_leastFrom_137 rfl ?_
          refine J_iconst C (v := nI (2)) dF_leastFrom_139 (by decide) ?_
          refine J_iload C 8 dF_leastFrom_140 rfl ?_
          refine J_imulN C dF_leastFrom_142 ?_
          refine J_callS C (rest := []) [] [] [((h), .inr (0, [.ref (b), .int (nI (fl))])), kL E (b) (278) (rw)] (c_F_join E l ((pF n g) ++ (pF n (f / 2 ^ 2 ^ n ^^^ g)).map (· + 3 ^ n)) (pF n (f % 2 ^ 2 ^ n ^^^ g)) (2 * (3 ^ n)) (e4) (fun p hp => by have := pF_in xl p hp; omega) (by omega) (by rw [List.length_append, List.length_map]; omega) (by omega)) mmF_join lkF_45 (rfl) rfl rfl ⟨by decide, by decide⟩ ⟨by decide, by decide⟩ (Nat.le_of_ble_eq_true rfl) dF_leastFrom_143 (fun r_c w_c hp => ?_)
          obtain ⟨rfl, rfl⟩ := hp
          refine J_norm C (st' := [.long (lN (fcode (((pF n g) ++ (pF n (f / 2 ^ 2 ^ n ^^^ g)).map (· + 3 ^ n)) ++ (pF n (f % 2 ^ 2 ^ n ^^^ g)).map (· + (2 * (3 ^ n))))))]) (ws' := [((h), .inr (0, [.ref (b), .int (nI (fl))])), kL E (b) (278) (rw)]) (cs' := 0) (ss' := 0) rfl (rfl) rfl rfl ?_
          refine J_topL C (x' := lN (fcode (pCand n f g))) (by rw [List.append_assoc]; rfl) ?_
          refine J_lstore C (lv' := [(0, .ref (h)), (1, .int (nI (n + 1))), (2, .int (nI (f))), (3, .int (nI (2 ^ n))), (4, .int (nI (2 ^ (2 ^ n)))), (5, .int (nI (f % 2 ^ 2 ^ n))), (6, .int (nI (f / 2 ^ 2 ^ n))), (7, .int (nI (jsT n))), (8, .int (nI (3 ^ n))), (9, .long (lN (m))), (11, .int (nI (g))), (12, .long (lN (fcode (pF n g)))), (14, .long (lN (fcode (pF n (f / 2 ^ 2 ^ n ^^^ g))))), (16, .long (lN (fcode (pF n (f % 2 ^ 2 ^ n ^^^ g))))), (18, .long (lN (fcode (pCand n f g))))]) [1, 2, 3, 4, 5, 6, 7, 8, 9, 10, 11, 12, 13, 14, 0] dF_leastFrom_146 (by decide) rfl ?_
          refine J_lload C 9 dF_leastFrom_148 rfl ?_
          refine J_lload C 14 dF_leastFrom_150 rfl ?_
          refine J_mminL C lkF_49 k_mminLS k_MathI k_mminLC (by decide) (Nat.le_of_ble_eq_true rfl) (by decide) (by decide) dF_leastFrom_152 ?_
          refine J_topL C (x' := lN (if fcode (pCand n f g) < m then fcode (pCand n f g) else m)) (lf_if hcl (by omega)) ?_
          refine J_lstore C (lv' := [(0, .ref (h)), (1, .int (nI (n + 1))), (2, .int (nI (f))), (3, .int (nI (2 ^ n))), (4, .int (nI (2 ^ (2 ^ n)))), (5, .int (nI (f % 2 ^ 2 ^ n))), (6, .int (nI (f / 2 ^ 2 ^ n))), (7, .int (nI (jsT n))), (8, .int (nI (3 ^ n))), (9, .long (lN (if fcode (pCand n f g) < m then fcode (pCand n f g) else m))), (11, .int (nI (g))), (12, .long (lN (fcode (pF n g)))), (14, .long (lN (fcode (pF n (f / 2 ^ 2 ^ n ^^^ g))))), (16, .long (lN (fcode (pF n (f % 2 ^ 2 ^ n ^^^ g))))), (18, .long (lN (fcode (pCand n f g))))]) [1, 2, 3, 4, 5, 6, 7, 8, 9, 0, 10, 11, 12, 13, 14] dF_leastFrom_155 (by decide) rfl ?_
          refine J_iinc C (lv' := [(0, .ref (h)), (1, .int (nI (n + 1))), (2, .int (nI (f))), (3, .int (nI (2 ^ n))), (4, .int (nI (2 ^ (2 ^ n)))), (5, .int (nI (f % 2 ^ 2 ^ n))), (6, .int (nI (f / 2 ^ 2 ^ n))), (7, .int (nI (jsT n))), (8, .int (nI (3 ^ n))), (9, .long (lN (if fcode (pCand n f g) < m then fcode (pCand n f g) else m))), (11, .int (nI (g + 1))), (12, .long (lN (fcode (pF n g)))), (14, .long (lN (fcode (pF n (f / 2 ^ 2 ^ n ^^^ g))))), (16, .long (lN (fcode (pF n (f % 2 ^ 2 ^ n ^^^ g))))), (18, .long (lN (fcode (pCand n f g))))]) 10 [1, 2, 3, 4, 5, 6, 7, 8, 9, 10, 0, 11, 12, 13, 14] dF_leastFrom_157 rfl (jn_inc _) (by decide) rfl ?_
          refine J_goto C 54 dF_leastFrom_160 (by decide) ?_
          refine J_lv C (lv' := [(0, .ref (h)), (1, .int (nI (n + 1))), (2, .int (nI (f))), (3, .int (nI (2 ^ n))), (4, .int (nI (2 ^ (2 ^ n)))), (5, .int (nI (f % 2 ^ 2 ^ n))), (6, .int (nI (f / 2 ^ 2 ^ n))), (7, .int (nI (jsT n))), (8, .int (nI (3 ^ n))), (9, .long (lN (if fcode (pCand n f g) < m then fcode (pCand n f g) else m))), (11, .int (nI (g + 1)))]) [0, 1, 2, 3, 4, 5, 6, 7, 8, 9, 10] rfl ?_
          exact ih_54 (g + 1) (if fcode (pCand n f g) < m then fcode (pCand n f g) else m) (by omega) (lf_min1 h1) (lf_min2 hcl h2) (lf_min3 hcl hm) (by omega)
  exact lp_54 (2 ^ 2 ^ n + 1) 0 1970324836974591 (by omega) (by intro g' q; omega) (Or.inl rfl) (by decide) (by omega)
