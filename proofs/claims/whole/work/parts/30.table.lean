set_option maxHeartbeats 4000000 in
set_option maxRecDepth 100000 in
theorem c_T_bitCount (E : jE) (l : Launch) (h : Nat) (n : Nat) (a1 : Nat) (a2 : Nat) (a3 : Nat) (fc : Nat) : Con E l yT_bitCount bT_bitCount 1 (some .int) { frames := 0, cells := 0, slots := 0, locals := 0 } [.ref (h)] [((h), .inr (3, [.int (nI (n)), .int (nI (2 ^ n)), .ref (a1), .ref (a2), .ref (a3), .int (nI (fc))]))] (fun r w => r = some (.int (nI n)) ∧ w = [((h), .inr (3, [.int (nI (n)), .int (nI (2 ^ n)), .ref (a1), .ref (a2), .ref (a3), .int (nI (fc))]))]) := by
  refine Con.ofI (by decide) (Nat.le_of_ble_eq_true rfl) ?_
  intro J C hret
  show J 0 [(0, .ref (h))] [] [((h), .inr (3, [.int (nI (n)), .int (nI (2 ^ n)), .ref (a1), .ref (a2), .ref (a3), .int (nI (fc))]))] 0 0
  refine J_aload_n C 0 dT_bitCount_0 rfl rfl ?_
  refine J_get C 0 0 hinT rfl rfl (by decide) fkT_21 rfl dT_bitCount_1 ?_
  exact hret _ _ _ _ _ _ dT_bitCount_4 (by decide) (by decide) (⟨rfl, rfl⟩)
set_option maxHeartbeats 4000000 in
set_option maxRecDepth 100000 in
theorem c_T_hasValue_t (E : jE) (l : Launch) (h : Nat) (n : Nat) (a1 : Nat) (a2 : Nat) (a3 : Nat) (fc : Nat) (k : Nat) (hn1 : 1 ≤ n) (hn4 : n ≤ 4) (hk : k < 2 ^ n) : Con E l yT_hasValue bT_hasValue 2 (some .boolean) { frames := 0, cells := 0, slots := 0, locals := 0 } [.ref (h), .int (nI (k))] [((h), .inr (3, [.int (nI (n)), .int (nI (2 ^ n)), .ref (a1), .ref (a2), .ref (a3), .int (nI (fc))]))] (fun r w => r = some (.int (nI 1)) ∧ w = [((h), .inr (3, [.int (nI (n)), .int (nI (2 ^ n)), .ref (a1), .ref (a2), .ref (a3), .int (nI (fc))]))]) := by
  refine Con.ofZ (by decide) (Nat.le_of_ble_eq_true rfl) ?_
  intro J C hret
  show J 0 [(0, .ref (h)), (1, .int (nI (k)))] [] [((h), .inr (3, [.int (nI (n)), .int (nI (2 ^ n)), .ref (a1), .ref (a2), .ref (a3), .int (nI (fc))]))] 0 0
  have hp16 := p16 hn4
  have hp1 := p1 n
  refine J_iload_n C 1 dT_hasValue_0 rfl rfl ?_
  refine J_if_lt C 16 (nI_toInt (n := k) (by omega)) dT_hasValue_1 (by decide) (fun h1 => ?_) (fun h1 => ?_)
  · exfalso; omega
  · refine J_iload_n C 1 dT_hasValue_4 rfl rfl ?_
    refine J_aload_n C 0 dT_hasValue_5 rfl rfl ?_
    refine J_get C 0 1 hinT rfl rfl (by decide) fkT_25 rfl dT_hasValue_6 ?_
    refine J_icmp_ge C 16 (nI_toInt (n := k) (by omega)) (nI_toInt (n := 2 ^ n) (by omega)) dT_hasValue_9 (by decide) (fun h9 => ?_) (fun h9 => ?_)
    · exfalso; omega
    · refine J_iconst C (v := nI (1)) dT_hasValue_12 (by decide) ?_
      refine J_goto C 17 dT_hasValue_13 (by decide) ?_
      exact hret _ _ _ _ _ _ dT_hasValue_17 (by decide) (by decide) (by decide) (⟨rfl, rfl⟩)
set_option maxHeartbeats 4000000 in
set_option maxRecDepth 100000 in
theorem c_T_hasValue_f (E : jE) (l : Launch) (h : Nat) (n : Nat) (a1 : Nat) (a2 : Nat) (a3 : Nat) (fc : Nat) (x : Int32) (hn1 : 1 ≤ n) (hn4 : n ≤ 4) (hx : x.toInt < 0 ∨ ((2 ^ n : Nat) : Int) ≤ x.toInt) : Con E l yT_hasValue bT_hasValue 2 (some .boolean) { frames := 0, cells := 0, slots := 0, locals := 0 } [.ref (h), .int (x)] [((h), .inr (3, [.int (nI (n)), .int (nI (2 ^ n)), .ref (a1), .ref (a2), .ref (a3), .int (nI (fc))]))] (fun r w => r = some (.int (nI 0)) ∧ w = [((h), .inr (3, [.int (nI (n)), .int (nI (2 ^ n)), .ref (a1), .ref (a2), .ref (a3), .int (nI (fc))]))]) := by
  refine Con.ofZ (by decide) (Nat.le_of_ble_eq_true rfl) ?_
  intro J C hret
  show J 0 [(0, .ref (h)), (1, .int (x))] [] [((h), .inr (3, [.int (nI (n)), .int (nI (2 ^ n)), .ref (a1), .ref (a2), .ref (a3), .int (nI (fc))]))] 0 0
  have hp16 := p16 hn4
  have hp1 := p1 n
  refine J_iload_n C 1 dT_hasValue_0 rfl rfl ?_
  refine J_if_lt C 16 rfl dT_hasValue_1 (by decide) (fun h1 => ?_) (fun h1 => ?_)
  · refine J_iconst C (v := nI (0)) dT_hasValue_16 (by decide) ?_
    exact hret _ _ _ _ _ _ dT_hasValue_17 (by decide) (by decide) (by decide) (⟨rfl, rfl⟩)
  · refine J_iload_n C 1 dT_hasValue_4 rfl rfl ?_
    refine J_aload_n C 0 dT_hasValue_5 rfl rfl ?_
    refine J_get C 0 1 hinT rfl rfl (by decide) fkT_25 rfl dT_hasValue_6 ?_
    refine J_icmp_ge C 16 rfl (nI_toInt (n := 2 ^ n) (by omega)) dT_hasValue_9 (by decide) (fun h9 => ?_) (fun h9 => ?_)
    · refine J_iconst C (v := nI (0)) dT_hasValue_16 (by decide) ?_
      exact hret _ _ _ _ _ _ dT_hasValue_17 (by decide) (by decide) (by decide) (⟨rfl, rfl⟩)
    · exfalso; omega
set_option maxHeartbeats 4000000 in
set_option maxRecDepth 100000 in
theorem c_T_hasGate_t (E : jE) (l : Launch) (h : Nat) (n : Nat) (a1 : Nat) (a2 : Nat) (a3 : Nat) (fc : Nat) (a : Nat) (c : Nat) (hn1 : 1 ≤ n) (hn4 : n ≤ 4) (ha : a < n) (hc : c < 2 ^ n) (hb : c.testBit a = false) : Con E l yT_hasGate bT_hasGate 4 (some .boolean) { frames := 0, cells := 0, slots := 0, locals := 0 } [.ref (h), .int (nI (16 * a + c))] [((h), .inr (3, [.int (nI (n)), .int (nI (2 ^ n)), .ref (a1), .ref (a2), .ref (a3), .int (nI (fc))]))] (fun r w => r = some (.int (nI 1)) ∧ w = [((h), .inr (3, [.int (nI (n)), .int (nI (2 ^ n)), .ref (a1), .ref (a2), .ref (a3), .int (nI (fc))]))]) := by
  refine Con.ofZ (by decide) (Nat.le_of_ble_eq_true rfl) ?_
  intro J C hret
  show J 0 [(0, .ref (h)), (1, .int (nI (16 * a + c)))] [] [((h), .inr (3, [.int (nI (n)), .int (nI (2 ^ n)), .ref (a1), .ref (a2), .ref (a3), .int (nI (fc))]))] 0 0
  have hp16 := p16 hn4
  have hp1 := p1 n
  refine J_iload_n C 1 dT_hasGate_0 rfl rfl ?_
  refine J_if_ge C 6 (nI_toInt (n := 16 * a + c) (by omega)) dT_hasGate_1 (by decide) (fun h1 => ?_) (fun h1 => ?_)
  · refine J_iload_n C 1 dT_hasGate_6 rfl rfl ?_
    refine J_iconst C (v := nI (4)) dT_hasGate_7 (by decide) ?_
    refine J_ishrN C dT_hasGate_8 (by omega) (by omega) ?_
    refine J_topN C (n' := a) (by omega) ?_
    refine J_istore_n C (lv' := [(0, .ref (h)), (1, .int (nI (16 * a + c))), (2, .int (nI (a)))]) [1, 2, 0] dT_hasGate_9 rfl (by decide) rfl ?_
    refine J_iload_n C 1 dT_hasGate_10 rfl rfl ?_
    refine J_bipush C (v := nI (15)) dT_hasGate_11 (by decide) ?_
    refine J_iandN C dT_hasGate_13 ?_
    refine J_topN C (n' := c) ((gate_num a (by omega) c (by omega)).2.2.1) ?_
    refine J_istore_n C (lv' := [(0, .ref (h)), (1, .int (nI (16 * a + c))), (2, .int (nI (a))), (3, .int (nI (c)))]) [1, 2, 3, 0] dT_hasGate_14 rfl (by decide) rfl ?_
    refine J_iload_n C 2 dT_hasGate_15 rfl rfl ?_
    refine J_aload_n C 0 dT_hasGate_16 rfl rfl ?_
    refine J_get C 0 0 hinT rfl rfl (by decide) fkT_21 rfl dT_hasGate_17 ?_
    refine J_icmp_ge C 43 (nI_toInt (n := a) (by omega)) (nI_toInt (n := n) (by omega)) dT_hasGate_20 (by decide) (fun h20 => ?_) (fun h20 => ?_)
    · exfalso; omega
    · refine J_iload_n C 3 dT_hasGate_23 rfl rfl ?_
      refine J_aload_n C 0 dT_hasGate_24 rfl rfl ?_
      refine J_get C 0 1 hinT rfl rfl (by decide) fkT_25 rfl dT_hasGate_25 ?_
      refine J_icmp_ge C 43 (nI_toInt (n := c) (by omega)) (nI_toInt (n := 2 ^ n) (by omega)) dT_hasGate_28 (by decide) (fun h28 => ?_) (fun h28 => ?_)
      · exfalso; omega
      · refine J_iload_n C 3 dT_hasGate_31 rfl rfl ?_
        refine J_iload_n C 2 dT_hasGate_32 rfl rfl ?_
        refine J_ishrN C dT_hasGate_33 (by omega) (by omega) ?_
        refine J_iconst C (v := nI (1)) dT_hasGate_34 (by decide) ?_
        refine J_iandN C dT_hasGate_35 ?_
        refine J_topN C (n' := 0) (by rw [tb_and1, hb]; rfl) ?_
        refine J_if_ne C 43 (nI_toInt (n := 0) (by decide)) dT_hasGate_36 (by decide) (fun h36 => ?_) (fun h36 => ?_)
        · exfalso; omega
        · refine J_iconst C (v := nI (1)) dT_hasGate_39 (by decide) ?_
          refine J_goto C 44 dT_hasGate_40 (by decide) ?_
          exact hret _ _ _ _ _ _ dT_hasGate_44 (by decide) (by decide) (by decide) (⟨rfl, rfl⟩)
  · exfalso; omega
set_option maxHeartbeats 4000000 in
set_option maxRecDepth 100000 in
theorem c_T_hasGate_n (E : jE) (l : Launch) (h : Nat) (n : Nat) (a1 : Nat) (a2 : Nat) (a3 : Nat) (fc : Nat) (x : Int32) (hn1 : 1 ≤ n) (hn4 : n ≤ 4) (hx : x.toInt < 0) : Con E l yT_hasGate bT_hasGate 4 (some .boolean) { frames := 0, cells := 0, slots := 0, locals := 0 } [.ref (h), .int (x)] [((h), .inr (3, [.int (nI (n)), .int (nI (2 ^ n)), .ref (a1), .ref (a2), .ref (a3), .int (nI (fc))]))] (fun r w => r = some (.int (nI 0)) ∧ w = [((h), .inr (3, [.int (nI (n)), .int (nI (2 ^ n)), .ref (a1), .ref (a2), .ref (a3), .int (nI (fc))]))]) := by
  refine Con.ofZ (by decide) (Nat.le_of_ble_eq_true rfl) ?_
  intro J C hret
  show J 0 [(0, .ref (h)), (1, .int (x))] [] [((h), .inr (3, [.int (nI (n)), .int (nI (2 ^ n)), .ref (a1), .ref (a2), .ref (a3), .int (nI (fc))]))] 0 0
  have hp16 := p16 hn4
  have hp1 := p1 n
  refine J_iload_n C 1 dT_hasGate_0 rfl rfl ?_
  refine J_if_ge C 6 rfl dT_hasGate_1 (by decide) (fun h1 => ?_) (fun h1 => ?_)
  · exfalso; omega
  · refine J_iconst C (v := nI (0)) dT_hasGate_4 (by decide) ?_
    exact hret _ _ _ _ _ _ dT_hasGate_5 (by decide) (by decide) (by decide) (⟨rfl, rfl⟩)
set_option maxHeartbeats 4000000 in
set_option maxRecDepth 100000 in
theorem c_T_hasGate_f (E : jE) (l : Launch) (h : Nat) (n : Nat) (a1 : Nat) (a2 : Nat) (a3 : Nat) (fc : Nat) (g : Nat) (hn1 : 1 ≤ n) (hn4 : n ≤ 4) (hg : g < 2 ^ 31) (hx : ¬ (g / 16 < n ∧ g % 16 < 2 ^ n ∧ (g % 16).testBit (g / 16) = false)) : Con E l yT_hasGate bT_hasGate 4 (some .boolean) { frames := 0, cells := 0, slots := 0, locals := 0 } [.ref (h), .int (nI (g))] [((h), .inr (3, [.int (nI (n)), .int (nI (2 ^ n)), .ref (a1), .ref (a2), .ref (a3), .int (nI (fc))]))] (fun r w => r = some (.int (nI 0)) ∧ w = [((h), .inr (3, [.int (nI (n)), .int (nI (2 ^ n)), .ref (a1), .ref (a2), .ref (a3), .int (nI (fc))]))]) := by
  refine Con.ofZ (by decide) (Nat.le_of_ble_eq_true rfl) ?_
  intro J C hret
  show J 0 [(0, .ref (h)), (1, .int (nI (g)))] [] [((h), .inr (3, [.int (nI (n)), .int (nI (2 ^ n)), .ref (a1), .ref (a2), .ref (a3), .int (nI (fc))]))] 0 0
  have hp16 := p16 hn4
  have hp1 := p1 n
  refine J_iload_n C 1 dT_hasGate_0 rfl rfl ?_
  refine J_if_ge C 6 (nI_toInt (n := g) (by omega)) dT_hasGate_1 (by decide) (fun h1 => ?_) (fun h1 => ?_)
  · refine J_iload_n C 1 dT_hasGate_6 rfl rfl ?_
    refine J_iconst C (v := nI (4)) dT_hasGate_7 (by decide) ?_
    refine J_ishrN C dT_hasGate_8 (by omega) (by omega) ?_
    refine J_topN C (n' := g / 16) (by omega) ?_
    refine J_istore_n C (lv' := [(0, .ref (h)), (1, .int (nI (g))), (2, .int (nI (g / 16)))]) [1, 2, 0] dT_hasGate_9 rfl (by decide) rfl ?_
    refine J_iload_n C 1 dT_hasGate_10 rfl rfl ?_
    refine J_bipush C (v := nI (15)) dT_hasGate_11 (by decide) ?_
    refine J_iandN C dT_hasGate_13 ?_
    refine J_topN C (n' := g % 16) (Nat.and_two_pow_sub_one_eq_mod g 4) ?_
    refine J_istore_n C (lv' := [(0, .ref (h)), (1, .int (nI (g))), (2, .int (nI (g / 16))), (3, .int (nI (g % 16)))]) [1, 2, 3, 0] dT_hasGate_14 rfl (by decide) rfl ?_
    refine J_iload_n C 2 dT_hasGate_15 rfl rfl ?_
    refine J_aload_n C 0 dT_hasGate_16 rfl rfl ?_
    refine J_get C 0 0 hinT rfl rfl (by decide) fkT_21 rfl dT_hasGate_17 ?_
    refine J_icmp_ge C 43 (nI_toInt (n := g / 16) (by omega)) (nI_toInt (n := n) (by omega)) dT_hasGate_20 (by decide) (fun h20 => ?_) (fun h20 => ?_)
    · refine J_iconst C (v := nI (0)) dT_hasGate_43 (by decide) ?_
      exact hret _ _ _ _ _ _ dT_hasGate_44 (by decide) (by decide) (by decide) (⟨rfl, rfl⟩)
    · refine J_iload_n C 3 dT_hasGate_23 rfl rfl ?_
      refine J_aload_n C 0 dT_hasGate_24 rfl rfl ?_
      refine J_get C 0 1 hinT rfl rfl (by decide) fkT_25 rfl dT_hasGate_25 ?_
      refine J_icmp_ge C 43 (nI_toInt (n := g % 16) (by omega)) (nI_toInt (n := 2 ^ n) (by omega)) dT_hasGate_28 (by decide) (fun h28 => ?_) (fun h28 => ?_)
      · refine J_iconst C (v := nI (0)) dT_hasGate_43 (by decide) ?_
        exact hret _ _ _ _ _ _ dT_hasGate_44 (by decide) (by decide) (by decide) (⟨rfl, rfl⟩)
      · refine J_iload_n C 3 dT_hasGate_31 rfl rfl ?_
        refine J_iload_n C 2 dT_hasGate_32 rfl rfl ?_
        refine J_ishrN C dT_hasGate_33 (by omega) (by omega) ?_
        refine J_iconst C (v := nI (1)) dT_hasGate_34 (by decide) ?_
        refine J_iandN C dT_hasGate_35 ?_
        refine J_if_ne C 43 (nI_toInt (n := ((g % 16) / 2 ^ (g / 16)) &&& 1) (by have := Nat.and_le_right (n := g % 16 / 2 ^ (g / 16)) (m := 1); omega)) dT_hasGate_36 (by decide) (fun h36 => ?_) (fun h36 => ?_)
        · refine J_iconst C (v := nI (0)) dT_hasGate_43 (by decide) ?_
          exact hret _ _ _ _ _ _ dT_hasGate_44 (by decide) (by decide) (by decide) (⟨rfl, rfl⟩)
        · exfalso
          refine hx ⟨by omega, by omega, ?_⟩
          rw [tb_and1] at h36
          cases hq : (g % 16).testBit (g / 16) with
          | false => rfl
          | true => simp [hq] at h36
  · exfalso; omega
set_option maxHeartbeats 4000000 in
set_option maxRecDepth 100000 in
theorem c_T_get_t (E : jE) (l : Launch) (h : Nat) (n : Nat) (a1 : Nat) (a2 : Nat) (a3 : Nat) (fc : Nat) (to : Nat → Nat) (k : Nat) (hn1 : 1 ≤ n) (hn4 : n ≤ 4) (hk : k < 2 ^ n) : Con E l yT_get bT_get 2 (some .int) { frames := 1, cells := 0, slots := 0, locals := 21 } [.ref (h), .int (nI (k))] [((h), .inr (3, [.int (nI (n)), .int (nI (2 ^ n)), .ref (a1), .ref (a2), .ref (a3), .int (nI (fc))])), kI E (a1) (16) (to)] (fun r w => r = some (.int (nI (to k))) ∧ w = [((h), .inr (3, [.int (nI (n)), .int (nI (2 ^ n)), .ref (a1), .ref (a2), .ref (a3), .int (nI (fc))])), kI E (a1) (16) (to)]) := by
  refine Con.ofI (by decide) (Nat.le_of_ble_eq_true rfl) ?_
  intro J C hret
  show J 0 [(0, .ref (h)), (1, .int (nI (k)))] [] [((h), .inr (3, [.int (nI (n)), .int (nI (2 ^ n)), .ref (a1), .ref (a2), .ref (a3), .int (nI (fc))])), kI E (a1) (16) (to)] 0 0
  have hp16 := p16 hn4
  have hp1 := p1 n
  refine J_aload_n C 0 dT_get_0 rfl rfl ?_
  refine J_iload_n C 1 dT_get_1 rfl rfl ?_
  refine J_callV C (rest := []) [] [((h), .inr (3, [.int (nI (n)), .int (nI (2 ^ n)), .ref (a1), .ref (a2), .ref (a3), .int (nI (fc))]))] [kI E (a1) (16) (to)] 0 (c_T_hasValue_t E l h n a1 a2 a3 fc k (by omega) (by omega) (by omega)) mmT_hasValue msT_hasValue lkT_28 rfl rfl (rfl) rfl rfl ⟨by decide, by decide⟩ ⟨by decide, by decide⟩ (Nat.le_of_ble_eq_true rfl) dT_get_2 (fun r_c w_c hp => ?_)
  obtain ⟨rfl, rfl⟩ := hp
  refine J_norm C (st' := [.int (nI (1))]) (ws' := [((h), .inr (3, [.int (nI (n)), .int (nI (2 ^ n)), .ref (a1), .ref (a2), .ref (a3), .int (nI (fc))])), kI E (a1) (16) (to)]) (cs' := 0) (ss' := 0) rfl (rfl) rfl rfl ?_
  refine J_if_eq C 17 (nI_toInt (n := 1) (by decide)) dT_get_5 (by decide) (fun h5 => ?_) (fun h5 => ?_)
  · exfalso; omega
  · refine J_aload_n C 0 dT_get_8 rfl rfl ?_
    refine J_get C 0 2 hinT rfl rfl (by decide) fkT_9 rfl dT_get_9 ?_
    refine J_iload_n C 1 dT_get_12 rfl rfl ?_
    refine J_iald C 1 rfl (by omega) (by omega) dT_get_13 ?_
    refine J_goto C 18 dT_get_14 (by decide) ?_
    exact hret _ _ _ _ _ _ dT_get_18 (by decide) (by decide) (⟨rfl, rfl⟩)
set_option maxHeartbeats 4000000 in
set_option maxRecDepth 100000 in
theorem c_T_get_f (E : jE) (l : Launch) (h : Nat) (n : Nat) (a1 : Nat) (a2 : Nat) (a3 : Nat) (fc : Nat) (to : Nat → Nat) (x : Int32) (hn1 : 1 ≤ n) (hn4 : n ≤ 4) (hx : x.toInt < 0 ∨ ((2 ^ n : Nat) : Int) ≤ x.toInt) : Con E l yT_get bT_get 2 (some .int) { frames := 1, cells := 0, slots := 0, locals := 21 } [.ref (h), .int (x)] [((h), .inr (3, [.int (nI (n)), .int (nI (2 ^ n)), .ref (a1), .ref (a2), .ref (a3), .int (nI (fc))])), kI E (a1) (16) (to)] (fun r w => r = some (.int (-1)) ∧ w = [((h), .inr (3, [.int (nI (n)), .int (nI (2 ^ n)), .ref (a1), .ref (a2), .ref (a3), .int (nI (fc))])), kI E (a1) (16) (to)]) := by
  refine Con.ofI (by decide) (Nat.le_of_ble_eq_true rfl) ?_
  intro J C hret
  show J 0 [(0, .ref (h)), (1, .int (x))] [] [((h), .inr (3, [.int (nI (n)), .int (nI (2 ^ n)), .ref (a1), .ref (a2), .ref (a3), .int (nI (fc))])), kI E (a1) (16) (to)] 0 0
  have hp16 := p16 hn4
  have hp1 := p1 n
  refine J_aload_n C 0 dT_get_0 rfl rfl ?_
  refine J_iload_n C 1 dT_get_1 rfl rfl ?_
  refine J_callV C (rest := []) [] [((h), .inr (3, [.int (nI (n)), .int (nI (2 ^ n)), .ref (a1), .ref (a2), .ref (a3), .int (nI (fc))]))] [kI E (a1) (16) (to)] 0 (c_T_hasValue_f E l h n a1 a2 a3 fc x (by omega) (by omega) (by omega)) mmT_hasValue msT_hasValue lkT_28 rfl rfl (rfl) rfl rfl ⟨by decide, by decide⟩ ⟨by decide, by decide⟩ (Nat.le_of_ble_eq_true rfl) dT_get_2 (fun r_c w_c hp => ?_)
  obtain ⟨rfl, rfl⟩ := hp
  refine J_norm C (st' := [.int (nI (0))]) (ws' := [((h), .inr (3, [.int (nI (n)), .int (nI (2 ^ n)), .ref (a1), .ref (a2), .ref (a3), .int (nI (fc))])), kI E (a1) (16) (to)]) (cs' := 0) (ss' := 0) rfl (rfl) rfl rfl ?_
  refine J_if_eq C 17 (nI_toInt (n := 0) (by decide)) dT_get_5 (by decide) (fun h5 => ?_) (fun h5 => ?_)
  · refine J_iconst C (v := -1) dT_get_17 (by decide) ?_
    exact hret _ _ _ _ _ _ dT_get_18 (by decide) (by decide) (⟨rfl, rfl⟩)
  · exfalso; omega
set_option maxHeartbeats 4000000 in
set_option maxRecDepth 100000 in
theorem c_T_set_t (E : jE) (l : Launch) (h : Nat) (n : Nat) (a1 : Nat) (a2 : Nat) (a3 : Nat) (fc : Nat) (to : Nat → Nat) (k : Nat) (u : Nat) (hn1 : 1 ≤ n) (hn4 : n ≤ 4) (hk : k < 2 ^ n) (hu : u < 2 ^ n) : Con E l yT_set bT_set 3 (some .boolean) { frames := 1, cells := 0, slots := 0, locals := 21 } [.ref (h), .int (nI (k)), .int (nI (u))] [((h), .inr (3, [.int (nI (n)), .int (nI (2 ^ n)), .ref (a1), .ref (a2), .ref (a3), .int (nI (fc))])), kI E (a1) (16) (to)] (fun r w => r = some (.int (nI 1)) ∧ w = [((h), .inr (3, [.int (nI (n)), .int (nI (2 ^ n)), .ref (a1), .ref (a2), .ref (a3), .int (nI (fc))])), kI E (a1) (16) (upN to k u)]) := by
  refine Con.ofZ (by decide) (Nat.le_of_ble_eq_true rfl) ?_
  intro J C hret
  show J 0 [(0, .ref (h)), (1, .int (nI (k))), (2, .int (nI (u)))] [] [((h), .inr (3, [.int (nI (n)), .int (nI (2 ^ n)), .ref (a1), .ref (a2), .ref (a3), .int (nI (fc))])), kI E (a1) (16) (to)] 0 0
  have hp16 := p16 hn4
  have hp1 := p1 n
  refine J_aload_n C 0 dT_set_0 rfl rfl ?_
  refine J_iload_n C 1 dT_set_1 rfl rfl ?_
  refine J_callV C (rest := []) [] [((h), .inr (3, [.int (nI (n)), .int (nI (2 ^ n)), .ref (a1), .ref (a2), .ref (a3), .int (nI (fc))]))] [kI E (a1) (16) (to)] 0 (c_T_hasValue_t E l h n a1 a2 a3 fc k (by omega) (by omega) (by omega)) mmT_hasValue msT_hasValue lkT_28 rfl rfl (rfl) rfl rfl ⟨by decide, by decide⟩ ⟨by decide, by decide⟩ (Nat.le_of_ble_eq_true rfl) dT_set_2 (fun r_c w_c hp => ?_)
  obtain ⟨rfl, rfl⟩ := hp
  refine J_norm C (st' := [.int (nI (1))]) (ws' := [((h), .inr (3, [.int (nI (n)), .int (nI (2 ^ n)), .ref (a1), .ref (a2), .ref (a3), .int (nI (fc))])), kI E (a1) (16) (to)]) (cs' := 0) (ss' := 0) rfl (rfl) rfl rfl ?_
  refine J_if_eq C 16 (nI_toInt (n := 1) (by decide)) dT_set_5 (by decide) (fun h5 => ?_) (fun h5 => ?_)
  · exfalso; omega
  · refine J_aload_n C 0 dT_set_8 rfl rfl ?_
    refine J_iload_n C 2 dT_set_9 rfl rfl ?_
    refine J_callV C (rest := []) [] [((h), .inr (3, [.int (nI (n)), .int (nI (2 ^ n)), .ref (a1), .ref (a2), .ref (a3), .int (nI (fc))]))] [kI E (a1) (16) (to)] 0 (c_T_hasValue_t E l h n a1 a2 a3 fc u (by omega) (by omega) (by omega)) mmT_hasValue msT_hasValue lkT_28 rfl rfl (rfl) rfl rfl ⟨by decide, by decide⟩ ⟨by decide, by decide⟩ (Nat.le_of_ble_eq_true rfl) dT_set_10 (fun r_c w_c hp => ?_)
    obtain ⟨rfl, rfl⟩ := hp
    refine J_norm C (st' := [.int (nI (1))]) (ws' := [((h), .inr (3, [.int (nI (n)), .int (nI (2 ^ n)), .ref (a1), .ref (a2), .ref (a3), .int (nI (fc))])), kI E (a1) (16) (to)]) (cs' := 0) (ss' := 0) rfl (rfl) rfl rfl ?_
    refine J_if_ne C 18 (nI_toInt (n := 1) (by decide)) dT_set_13 (by decide) (fun h13 => ?_) (fun h13 => ?_)
    · refine J_aload_n C 0 dT_set_18 rfl rfl ?_
      refine J_get C 0 2 hinT rfl rfl (by decide) fkT_9 rfl dT_set_19 ?_
      refine J_iload_n C 1 dT_set_22 rfl rfl ?_
      refine J_iload_n C 2 dT_set_23 rfl rfl ?_
      refine J_iastN C (ws' := [((h), .inr (3, [.int (nI (n)), .int (nI (2 ^ n)), .ref (a1), .ref (a2), .ref (a3), .int (nI (fc))])), kI E (a1) (16) (upN to k u)]) 1 rfl (by omega) (by omega) dT_set_24 rfl ?_
      refine J_iconst C (v := nI (1)) dT_set_25 (by decide) ?_
      exact hret _ _ _ _ _ _ dT_set_26 (by decide) (by decide) (by decide) (⟨rfl, rfl⟩)
    · exfalso; omega
set_option maxHeartbeats 4000000 in
set_option maxRecDepth 100000 in
theorem c_T_set_f1 (E : jE) (l : Launch) (h : Nat) (n : Nat) (a1 : Nat) (a2 : Nat) (a3 : Nat) (fc : Nat) (to : Nat → Nat) (x : Int32) (z : Int32) (hn1 : 1 ≤ n) (hn4 : n ≤ 4) (hx : x.toInt < 0 ∨ ((2 ^ n : Nat) : Int) ≤ x.toInt) : Con E l yT_set bT_set 3 (some .boolean) { frames := 1, cells := 0, slots := 0, locals := 21 } [.ref (h), .int (x), .int (z)] [((h), .inr (3, [.int (nI (n)), .int (nI (2 ^ n)), .ref (a1), .ref (a2), .ref (a3), .int (nI (fc))])), kI E (a1) (16) (to)] (fun r w => r = some (.int (nI 0)) ∧ w = [((h), .inr (3, [.int (nI (n)), .int (nI (2 ^ n)), .ref (a1), .ref (a2), .ref (a3), .int (nI (fc))])), kI E (a1) (16) (to)]) := by
  refine Con.ofZ (by decide) (Nat.le_of_ble_eq_true rfl) ?_
  intro J C hret
  show J 0 [(0, .ref (h)), (1, .int (x)), (2, .int (z))] [] [((h), .inr (3, [.int (nI (n)), .int (nI (2 ^ n)), .ref (a1), .ref (a2), .ref (a3), .int (nI (fc))])), kI E (a1) (16) (to)] 0 0
  have hp16 := p16 hn4
  have hp1 := p1 n
  refine J_aload_n C 0 dT_set_0 rfl rfl ?_
  refine J_iload_n C 1 dT_set_1 rfl rfl ?_
  refine J_callV C (rest := []) [] [((h), .inr (3, [.int (nI (n)), .int (nI (2 ^ n)), .ref (a1), .ref (a2), .ref (a3), .int (nI (fc))]))] [kI E (a1) (16) (to)] 0 (c_T_hasValue_f E l h n a1 a2 a3 fc x (by omega) (by omega) (by omega)) mmT_hasValue msT_hasValue lkT_28 rfl rfl (rfl) rfl rfl ⟨by decide, by decide⟩ ⟨by decide, by decide⟩ (Nat.le_of_ble_eq_true rfl) dT_set_2 (fun r_c w_c hp => ?_)
  obtain ⟨rfl, rfl⟩ := hp
  refine J_norm C (st' := [.int (nI (0))]) (ws' := [((h), .inr (3, [.int (nI (n)), .int (nI (2 ^ n)), .ref (a1), .ref (a2), .ref (a3), .int (nI (fc))])), kI E (a1) (16) (to)]) (cs' := 0) (ss' := 0) rfl (rfl) rfl rfl ?_
  refine J_if_eq C 16 (nI_toInt (n := 0) (by decide)) dT_set_5 (by decide) (fun h5 => ?_) (fun h5 => ?_)
  · refine J_iconst C (v := nI (0)) dT_set_16 (by decide) ?_
    exact hret _ _ _ _ _ _ dT_set_17 (by decide) (by decide) (by decide) (⟨rfl, rfl⟩)
  · exfalso; omega
set_option maxHeartbeats 4000000 in
set_option maxRecDepth 100000 in
theorem c_T_set_f2 (E : jE) (l : Launch) (h : Nat) (n : Nat) (a1 : Nat) (a2 : Nat) (a3 : Nat) (fc : Nat) (to : Nat → Nat) (k : Nat) (z : Int32) (hn1 : 1 ≤ n) (hn4 : n ≤ 4) (hk : k < 2 ^ n) (hx : z.toInt < 0 ∨ ((2 ^ n : Nat) : Int) ≤ z.toInt) : Con E l yT_set bT_set 3 (some .boolean) { frames := 1, cells := 0, slots := 0, locals := 21 } [.ref (h), .int (nI (k)), .int (z)] [((h), .inr (3, [.int (nI (n)), .int (nI (2 ^ n)), .ref (a1), .ref (a2), .ref (a3), .int (nI (fc))])), kI E (a1) (16) (to)] (fun r w => r = some (.int (nI 0)) ∧ w = [((h), .inr (3, [.int (nI (n)), .int (nI (2 ^ n)), .ref (a1), .ref (a2), .ref (a3), .int (nI (fc))])), kI E (a1) (16) (to)]) := by
  refine Con.ofZ (by decide) (Nat.le_of_ble_eq_true rfl) ?_
  intro J C hret
  show J 0 [(0, .ref (h)), (1, .int (nI (k))), (2, .int (z))] [] [((h), .inr (3, [.int (nI (n)), .int (nI (2 ^ n)), .ref (a1), .ref (a2), .ref (a3), .int (nI (fc))])), kI E (a1) (16) (to)] 0 0
  have hp16 := p16 hn4
  have hp1 := p1 n
  refine J_aload_n C 0 dT_set_0 rfl rfl ?_
  refine J_iload_n C 1 dT_set_1 rfl rfl ?_
  refine J_callV C (rest := []) [] [((h), .inr (3, [.int (nI (n)), .int (nI (2 ^ n)), .ref (a1), .ref (a2), .ref (a3), .int (nI (fc))]))] [kI E (a1) (16) (to)] 0 (c_T_hasValue_t E l h n a1 a2 a3 fc k (by omega) (by omega) (by omega)) mmT_hasValue msT_hasValue lkT_28 rfl rfl (rfl) rfl rfl ⟨by decide, by decide⟩ ⟨by decide, by decide⟩ (Nat.le_of_ble_eq_true rfl) dT_set_2 (fun r_c w_c hp => ?_)
  obtain ⟨rfl, rfl⟩ := hp
  refine J_norm C (st' := [.int (nI (1))]) (ws' := [((h), .inr (3, [.int (nI (n)), .int (nI (2 ^ n)), .ref (a1), .ref (a2), .ref (a3), .int (nI (fc))])), kI E (a1) (16) (to)]) (cs' := 0) (ss' := 0) rfl (rfl) rfl rfl ?_
  refine J_if_eq C 16 (nI_toInt (n := 1) (by decide)) dT_set_5 (by decide) (fun h5 => ?_) (fun h5 => ?_)
  · exfalso; omega
  · refine J_aload_n C 0 dT_set_8 rfl rfl ?_
    refine J_iload_n C 2 dT_set_9 rfl rfl ?_
    refine J_callV C (rest := []) [] [((h), .inr (3, [.int (nI (n)), .int (nI (2 ^ n)), .ref (a1), .ref (a2), .ref (a3), .int (nI (fc))]))] [kI E (a1) (16) (to)] 0 (c_T_hasValue_f E l h n a1 a2 a3 fc z (by omega) (by omega) (by omega)) mmT_hasValue msT_hasValue lkT_28 rfl rfl (rfl) rfl rfl ⟨by decide, by decide⟩ ⟨by decide, by decide⟩ (Nat.le_of_ble_eq_true rfl) dT_set_10 (fun r_c w_c hp => ?_)
    obtain ⟨rfl, rfl⟩ := hp
    refine J_norm C (st' := [.int (nI (0))]) (ws' := [((h), .inr (3, [.int (nI (n)), .int (nI (2 ^ n)), .ref (a1), .ref (a2), .ref (a3), .int (nI (fc))])), kI E (a1) (16) (to)]) (cs' := 0) (ss' := 0) rfl (rfl) rfl rfl ?_
    refine J_if_ne C 18 (nI_toInt (n := 0) (by decide)) dT_set_13 (by decide) (fun h13 => ?_) (fun h13 => ?_)
    · exfalso; omega
    · refine J_iconst C (v := nI (0)) dT_set_16 (by decide) ?_
      exact hret _ _ _ _ _ _ dT_set_17 (by decide) (by decide) (by decide) (⟨rfl, rfl⟩)
set_option maxHeartbeats 4000000 in
set_option maxRecDepth 100000 in
theorem c_T_changeAll (E : jE) (l : Launch) (h : Nat) (n : Nat) (a1 : Nat) (a2 : Nat) (a3 : Nat) (fc : Nat) (b : Nat) (t : Nat → Nat) (a : Nat) (c : Nat) (hn1 : 1 ≤ n) (hn4 : n ≤ 4) (ha : a < n) (hc : c < 16) (ht : ∀ v, v < 2 ^ n → t v < 2 ^ n) : Con E l yT_changeAll bT_changeAll 6 none { frames := 0, cells := 0, slots := 0, locals := 0 } [.ref (h), .ref (b), .int (nI (16 * a + c))] [((h), .inr (3, [.int (nI (n)), .int (nI (2 ^ n)), .ref (a1), .ref (a2), .ref (a3), .int (nI (fc))])), kI E (b) (16) (t)] (fun r w => r = none ∧ w = [((h), .inr (3, [.int (nI (n)), .int (nI (2 ^ n)), .ref (a1), .ref (a2), .ref (a3), .int (nI (fc))])), kI E (b) (16) (gAp n t a c)]) := by
  refine Con.ofV (by decide) (Nat.le_of_ble_eq_true rfl) ?_
  intro J C hret
  show J 0 [(0, .ref (h)), (1, .ref (b)), (2, .int (nI (16 * a + c)))] [] [((h), .inr (3, [.int (nI (n)), .int (nI (2 ^ n)), .ref (a1), .ref (a2), .ref (a3), .int (nI (fc))])), kI E (b) (16) (t)] 0 0
  have hp16 := p16 hn4
  have hp1 := p1 n
  refine J_iconst C (v := nI (1)) dT_changeAll_0 (by decide) ?_
  refine J_iload_n C 2 dT_changeAll_1 rfl rfl ?_
  refine J_iconst C (v := nI (4)) dT_changeAll_2 (by decide) ?_
  refine J_ishrN C dT_changeAll_3 (by omega) (by omega) ?_
  refine J_topN C (n' := a) (by omega) ?_
  refine J_ishl1 C dT_changeAll_4 (by omega) ?_
  refine J_istore_n C (lv' := [(0, .ref (h)), (1, .ref (b)), (2, .int (nI (16 * a + c))), (3, .int (nI (2 ^ a)))]) [1, 2, 3, 0] dT_changeAll_5 rfl (by decide) rfl ?_
  refine J_iload_n C 2 dT_changeAll_6 rfl rfl ?_
  refine J_bipush C (v := nI (15)) dT_changeAll_7 (by decide) ?_
  refine J_iandN C dT_changeAll_9 ?_
  refine J_topN C (n' := c) ((gate_num a (by omega) c (by omega)).2.2.1) ?_
  refine J_istore C (lv' := [(0, .ref (h)), (1, .ref (b)), (2, .int (nI (16 * a + c))), (3, .int (nI (2 ^ a))), (4, .int (nI (c)))]) [1, 2, 3, 4, 0] dT_changeAll_10 (by decide) rfl ?_
  refine J_iconst C (v := nI (0)) dT_changeAll_12 (by decide) ?_
  refine J_istore C (lv' := [(0, .ref (h)), (1, .ref (b)), (2, .int (nI (16 * a + c))), (3, .int (nI (2 ^ a))), (4, .int (nI (c))), (5, .int (nI (0)))]) [1, 2, 3, 4, 5, 0] dT_changeAll_13 (by decide) rfl ?_
  have lp_15 : ∀ (k_15 : Nat) (i : Nat) (f : Nat → Nat), (i ≤ 2 ^ n) → (∀ j, f j = if j < i then chg (t j) a c else t j) → (2 ^ n - i) < k_15 → J 15 [(0, .ref (h)), (1, .ref (b)), (2, .int (nI (16 * a + c))), (3, .int (nI (2 ^ a))), (4, .int (nI (c))), (5, .int (nI (i)))] [] [((h), .inr (3, [.int (nI (n)), .int (nI (2 ^ n)), .ref (a1), .ref (a2), .ref (a3), .int (nI (fc))])), kI E (b) (16) (f)] (0) (0) := by
    intro k_15
    induction k_15 with
    | zero => intro i f hi hf hk_15; exact absurd hk_15 (Nat.not_lt_zero _)
    | succ k_15 ih_15 =>
      intro i f hi hf hk_15
      refine J_iload C 5 dT_changeAll_15 rfl ?_
      refine J_aload_n C 0 dT_changeAll_17 rfl rfl ?_
      refine J_get C 0 1 hinT rfl rfl (by decide) fkT_25 rfl dT_changeAll_18 ?_
      refine J_icmp_ge C 50 (nI_toInt (n := i) (by omega)) (nI_toInt (n := 2 ^ n) (by omega)) dT_changeAll_21 (by decide) (fun h21 => ?_) (fun h21 => ?_)
      · have ef : f = gAp n t a c := by
          funext j
          rw [hf j]
          unfold gAp
          rw [show i = 2 ^ n by omega]
        subst ef
        exact hret _ _ _ _ _ dT_changeAll_50 (by decide) (by decide) (⟨rfl, rfl⟩)
      · refine J_aload_n C 1 dT_changeAll_24 rfl rfl ?_
        refine J_iload C 5 dT_changeAll_25 rfl ?_
        refine J_iald C 1 rfl (by omega) (by omega) dT_changeAll_27 ?_
        refine J_topN C (n' := t i) (by rw [hf]; simp) ?_
        refine J_iload C 4 dT_changeAll_28 rfl ?_
        refine J_iandN C dT_changeAll_30 ?_
        refine J_iload C 4 dT_changeAll_31 rfl ?_
        refine J_icmp_ne C 44 (nI_toInt (n := (t i) &&& c) (by have := Nat.and_le_right (n := t i) (m := c); omega)) (nI_toInt (n := c) (by omega)) dT_changeAll_33 (by decide) (fun h33 => ?_) (fun h33 => ?_)
        · refine J_iinc C (lv' := [(0, .ref (h)), (1, .ref (b)), (2, .int (nI (16 * a + c))), (3, .int (nI (2 ^ a))), (4, .int (nI (c))), (5, .int (nI (i + 1)))]) 5 [1, 2, 3, 4, 5, 0] dT_changeAll_44 rfl (jn_inc _) (by decide) rfl ?_
          refine J_goto C 15 dT_changeAll_47 (by decide) ?_
          exact ih_15 (i + 1) f (by omega) (by intro j; exact ch_f hf (by omega) j) (by omega)
        · refine J_aload_n C 1 dT_changeAll_36 rfl rfl ?_
          refine J_iload C 5 dT_changeAll_37 rfl ?_
          refine J_dup2 C dT_changeAll_39 rfl rfl ?_
          refine J_iald C 1 rfl (by omega) (by omega) dT_changeAll_40 ?_
          refine J_topN C (n' := t i) (by rw [hf]; simp) ?_
          refine J_iload_n C 3 dT_changeAll_41 rfl rfl ?_
          refine J_ixorN C dT_changeAll_42 ?_
          refine J_iastN C (ws' := [((h), .inr (3, [.int (nI (n)), .int (nI (2 ^ n)), .ref (a1), .ref (a2), .ref (a3), .int (nI (fc))])), kI E (b) (16) (upN f i ((t i) ^^^ (2 ^ a)))]) 1 rfl (by omega) (by omega) dT_changeAll_43 rfl ?_
          refine J_iinc C (lv' := [(0, .ref (h)), (1, .ref (b)), (2, .int (nI (16 * a + c))), (3, .int (nI (2 ^ a))), (4, .int (nI (c))), (5, .int (nI (i + 1)))]) 5 [1, 2, 3, 4, 5, 0] dT_changeAll_44 rfl (jn_inc _) (by decide) rfl ?_
          refine J_goto C 15 dT_changeAll_47 (by decide) ?_
          exact ih_15 (i + 1) (upN f i ((t i) ^^^ (2 ^ a))) (by omega) (by intro j; exact ch_t hf (by omega) j) (by omega)
  exact lp_15 (2 ^ n + 1) 0 t (by omega) (by intro j; simp) (by omega)
set_option maxHeartbeats 4000000 in
set_option maxRecDepth 100000 in
theorem c_T_change_t (E : jE) (l : Launch) (h : Nat) (n : Nat) (a1 : Nat) (a2 : Nat) (a3 : Nat) (fc : Nat) (to : Nat → Nat) (a : Nat) (c : Nat) (hn1 : 1 ≤ n) (hn4 : n ≤ 4) (ha : a < n) (hc : c < 2 ^ n) (hb : c.testBit a = false) (ht : ∀ v, v < 2 ^ n → to v < 2 ^ n) : Con E l yT_change bT_change 2 (some .boolean) { frames := 1, cells := 0, slots := 0, locals := 25 } [.ref (h), .int (nI (16 * a + c))] [((h), .inr (3, [.int (nI (n)), .int (nI (2 ^ n)), .ref (a1), .ref (a2), .ref (a3), .int (nI (fc))])), kI E (a1) (16) (to)] (fun r w => r = some (.int (nI 1)) ∧ w = [((h), .inr (3, [.int (nI (n)), .int (nI (2 ^ n)), .ref (a1), .ref (a2), .ref (a3), .int (nI (fc))])), kI E (a1) (16) (gAp n to a c)]) := by
  refine Con.ofZ (by decide) (Nat.le_of_ble_eq_true rfl) ?_
  intro J C hret
  show J 0 [(0, .ref (h)), (1, .int (nI (16 * a + c)))] [] [((h), .inr (3, [.int (nI (n)), .int (nI (2 ^ n)), .ref (a1), .ref (a2), .ref (a3), .int (nI (fc))])), kI E (a1) (16) (to)] 0 0
  have hp16 := p16 hn4
  have hp1 := p1 n
  refine J_aload_n C 0 dT_change_0 rfl rfl ?_
  refine J_iload_n C 1 dT_change_1 rfl rfl ?_
  refine J_callV C (rest := []) [] [((h), .inr (3, [.int (nI (n)), .int (nI (2 ^ n)), .ref (a1), .ref (a2), .ref (a3), .int (nI (fc))]))] [kI E (a1) (16) (to)] 0 (c_T_hasGate_t E l h n a1 a2 a3 fc a c (by omega) (by omega) (by omega) (by omega) (hb)) mmT_hasGate msT_hasGate lkT_32 rfl rfl (rfl) rfl rfl ⟨by decide, by decide⟩ ⟨by decide, by decide⟩ (Nat.le_of_ble_eq_true rfl) dT_change_2 (fun r_c w_c hp => ?_)
  obtain ⟨rfl, rfl⟩ := hp
  refine J_norm C (st' := [.int (nI (1))]) (ws' := [((h), .inr (3, [.int (nI (n)), .int (nI (2 ^ n)), .ref (a1), .ref (a2), .ref (a3), .int (nI (fc))])), kI E (a1) (16) (to)]) (cs' := 0) (ss' := 0) rfl (rfl) rfl rfl ?_
  refine J_if_ne C 10 (nI_toInt (n := 1) (by decide)) dT_change_5 (by decide) (fun h5 => ?_) (fun h5 => ?_)
  · refine J_aload_n C 0 dT_change_10 rfl rfl ?_
    refine J_aload_n C 0 dT_change_11 rfl rfl ?_
    refine J_get C 0 2 hinT rfl rfl (by decide) fkT_9 rfl dT_change_12 ?_
    refine J_iload_n C 1 dT_change_15 rfl rfl ?_
    refine J_callV C (rest := []) [] [((h), .inr (3, [.int (nI (n)), .int (nI (2 ^ n)), .ref (a1), .ref (a2), .ref (a3), .int (nI (fc))])), kI E (a1) (16) (to)] [] 0 (c_T_changeAll E l h n a1 a2 a3 fc a1 to a c (by omega) (by omega) (by omega) (by omega) (ht)) mmT_changeAll msT_changeAll lkT_35 rfl rfl (rfl) rfl rfl ⟨by decide, by decide⟩ ⟨by decide, by decide⟩ (Nat.le_of_ble_eq_true rfl) dT_change_16 (fun r_c w_c hp => ?_)
    obtain ⟨rfl, rfl⟩ := hp
    refine J_norm C (st' := []) (ws' := [((h), .inr (3, [.int (nI (n)), .int (nI (2 ^ n)), .ref (a1), .ref (a2), .ref (a3), .int (nI (fc))])), kI E (a1) (16) (gAp n to a c)]) (cs' := 0) (ss' := 0) rfl (rfl) rfl rfl ?_
    refine J_iconst C (v := nI (1)) dT_change_19 (by decide) ?_
    exact hret _ _ _ _ _ _ dT_change_20 (by decide) (by decide) (by decide) (⟨rfl, rfl⟩)
  · exfalso; omega
set_option maxHeartbeats 4000000 in
set_option maxRecDepth 100000 in
theorem c_T_change_n (E : jE) (l : Launch) (h : Nat) (n : Nat) (a1 : Nat) (a2 : Nat) (a3 : Nat) (fc : Nat) (to : Nat → Nat) (x : Int32) (hn1 : 1 ≤ n) (hn4 : n ≤ 4) (hx : x.toInt < 0) : Con E l yT_change bT_change 2 (some .boolean) { frames := 1, cells := 0, slots := 0, locals := 23 } [.ref (h), .int (x)] [((h), .inr (3, [.int (nI (n)), .int (nI (2 ^ n)), .ref (a1), .ref (a2), .ref (a3), .int (nI (fc))])), kI E (a1) (16) (to)] (fun r w => r = some (.int (nI 0)) ∧ w = [((h), .inr (3, [.int (nI (n)), .int (nI (2 ^ n)), .ref (a1), .ref (a2), .ref (a3), .int (nI (fc))])), kI E (a1) (16) (to)]) := by
  refine Con.ofZ (by decide) (Nat.le_of_ble_eq_true rfl) ?_
  intro J C hret
  show J 0 [(0, .ref (h)), (1, .int (x))] [] [((h), .inr (3, [.int (nI (n)), .int (nI (2 ^ n)), .ref (a1), .ref (a2), .ref (a3), .int (nI (fc))])), kI E (a1) (16) (to)] 0 0
  have hp16 := p16 hn4
  have hp1 := p1 n
  refine J_aload_n C 0 dT_change_0 rfl rfl ?_
  refine J_iload_n C 1 dT_change_1 rfl rfl ?_
  refine J_callV C (rest := []) [] [((h), .inr (3, [.int (nI (n)), .int (nI (2 ^ n)), .ref (a1), .ref (a2), .ref (a3), .int (nI (fc))]))] [kI E (a1) (16) (to)] 0 (c_T_hasGate_n E l h n a1 a2 a3 fc x (by omega) (by omega) (by omega)) mmT_hasGate msT_hasGate lkT_32 rfl rfl (rfl) rfl rfl ⟨by decide, by decide⟩ ⟨by decide, by decide⟩ (Nat.le_of_ble_eq_true rfl) dT_change_2 (fun r_c w_c hp => ?_)
  obtain ⟨rfl, rfl⟩ := hp
  refine J_norm C (st' := [.int (nI (0))]) (ws' := [((h), .inr (3, [.int (nI (n)), .int (nI (2 ^ n)), .ref (a1), .ref (a2), .ref (a3), .int (nI (fc))])), kI E (a1) (16) (to)]) (cs' := 0) (ss' := 0) rfl (rfl) rfl rfl ?_
  refine J_if_ne C 10 (nI_toInt (n := 0) (by decide)) dT_change_5 (by decide) (fun h5 => ?_) (fun h5 => ?_)
  · exfalso; omega
  · refine J_iconst C (v := nI (0)) dT_change_8 (by decide) ?_
    exact hret _ _ _ _ _ _ dT_change_9 (by decide) (by decide) (by decide) (⟨rfl, rfl⟩)
set_option maxHeartbeats 4000000 in
set_option maxRecDepth 100000 in
theorem c_T_change_f (E : jE) (l : Launch) (h : Nat) (n : Nat) (a1 : Nat) (a2 : Nat) (a3 : Nat) (fc : Nat) (to : Nat → Nat) (g : Nat) (hn1 : 1 ≤ n) (hn4 : n ≤ 4) (hg : g < 2 ^ 31) (hx : ¬ (g / 16 < n ∧ g % 16 < 2 ^ n ∧ (g % 16).testBit (g / 16) = false)) : Con E l yT_change bT_change 2 (some .boolean) { frames := 1, cells := 0, slots := 0, locals := 23 } [.ref (h), .int (nI (g))] [((h), .inr (3, [.int (nI (n)), .int (nI (2 ^ n)), .ref (a1), .ref (a2), .ref (a3), .int (nI (fc))])), kI E (a1) (16) (to)] (fun r w => r = some (.int (nI 0)) ∧ w = [((h), .inr (3, [.int (nI (n)), .int (nI (2 ^ n)), .ref (a1), .ref (a2), .ref (a3), .int (nI (fc))])), kI E (a1) (16) (to)]) := by
  refine Con.ofZ (by decide) (Nat.le_of_ble_eq_true rfl) ?_
  intro J C hret
  show J 0 [(0, .ref (h)), (1, .int (nI (g)))] [] [((h), .inr (3, [.int (nI (n)), .int (nI (2 ^ n)), .ref (a1), .ref (a2), .ref (a3), .int (nI (fc))])), kI E (a1) (16) (to)] 0 0
  have hp16 := p16 hn4
  have hp1 := p1 n
  refine J_aload_n C 0 dT_change_0 rfl rfl ?_
  refine J_iload_n C 1 dT_change_1 rfl rfl ?_
  refine J_callV C (rest := []) [] [((h), .inr (3, [.int (nI (n)), .int (nI (2 ^ n)), .ref (a1), .ref (a2), .ref (a3), .int (nI (fc))]))] [kI E (a1) (16) (to)] 0 (c_T_hasGate_f E l h n a1 a2 a3 fc g (by omega) (by omega) (by omega) (hx)) mmT_hasGate msT_hasGate lkT_32 rfl rfl (rfl) rfl rfl ⟨by decide, by decide⟩ ⟨by decide, by decide⟩ (Nat.le_of_ble_eq_true rfl) dT_change_2 (fun r_c w_c hp => ?_)
  obtain ⟨rfl, rfl⟩ := hp
  refine J_norm C (st' := [.int (nI (0))]) (ws' := [((h), .inr (3, [.int (nI (n)), .int (nI (2 ^ n)), .ref (a1), .ref (a2), .ref (a3), .int (nI (fc))])), kI E (a1) (16) (to)]) (cs' := 0) (ss' := 0) rfl (rfl) rfl rfl ?_
  refine J_if_ne C 10 (nI_toInt (n := 0) (by decide)) dT_change_5 (by decide) (fun h5 => ?_) (fun h5 => ?_)
  · exfalso; omega
  · refine J_iconst C (v := nI (0)) dT_change_8 (by decide) ?_
    exact hret _ _ _ _ _ _ dT_change_9 (by decide) (by decide) (by decide) (⟨rfl, rfl⟩)
set_option maxHeartbeats 4000000 in
set_option maxRecDepth 100000 in
theorem c_T_isPerm_t (E : jE) (l : Launch) (h : Nat) (n : Nat) (a1 : Nat) (a2 : Nat) (a3 : Nat) (fc : Nat) (to : Nat → Nat) (hn1 : 1 ≤ n) (hn4 : n ≤ 4) (ht : ∀ v, v < 2 ^ n → to v < 2 ^ n) (hq : sn to (2 ^ n) = 2 ^ 2 ^ n - 1) : Con E l yT_isPermutation bT_isPermutation 3 (some .boolean) { frames := 0, cells := 0, slots := 0, locals := 0 } [.ref (h)] [((h), .inr (3, [.int (nI (n)), .int (nI (2 ^ n)), .ref (a1), .ref (a2), .ref (a3), .int (nI (fc))])), kI E (a1) (16) (to)] (fun r w => r = some (.int (nI 1)) ∧ w = [((h), .inr (3, [.int (nI (n)), .int (nI (2 ^ n)), .ref (a1), .ref (a2), .ref (a3), .int (nI (fc))])), kI E (a1) (16) (to)]) := by
  refine Con.ofZ (by decide) (Nat.le_of_ble_eq_true rfl) ?_
  intro J C hret
  show J 0 [(0, .ref (h))] [] [((h), .inr (3, [.int (nI (n)), .int (nI (2 ^ n)), .ref (a1), .ref (a2), .ref (a3), .int (nI (fc))])), kI E (a1) (16) (to)] 0 0
  have hp16 := p16 hn4
  have hp1 := p1 n
  have hp65 := p65 hn4
  have hpp := p1 (2 ^ n)
  have hsn := sn_lt (t := to) (2 ^ n) (fun j hj => by have := ht j hj; omega)
  refine J_iconst C (v := nI (0)) dT_isPermutation_0 (by decide) ?_
  refine J_istore_n C (lv' := [(0, .ref (h)), (1, .int (nI (0)))]) [1, 0] dT_isPermutation_1 rfl (by decide) rfl ?_
  refine J_iconst C (v := nI (0)) dT_isPermutation_2 (by decide) ?_
  refine J_istore_n C (lv' := [(0, .ref (h)), (1, .int (nI (0))), (2, .int (nI (0)))]) [1, 2, 0] dT_isPermutation_3 rfl (by decide) rfl ?_
  have lp_4 : ∀ (k_4 : Nat) (i : Nat), (i ≤ 2 ^ n) → (2 ^ n - i) < k_4 → J 4 [(0, .ref (h)), (1, .int (nI (sn to i))), (2, .int (nI (i)))] [] [((h), .inr (3, [.int (nI (n)), .int (nI (2 ^ n)), .ref (a1), .ref (a2), .ref (a3), .int (nI (fc))])), kI E (a1) (16) (to)] (0) (0) := by
    intro k_4
    induction k_4 with
    | zero => intro i hi hk_4; exact absurd hk_4 (Nat.not_lt_zero _)
    | succ k_4 ih_4 =>
      intro i hi hk_4
      refine J_iload_n C 2 dT_isPermutation_4 rfl rfl ?_
      refine J_aload_n C 0 dT_isPermutation_5 rfl rfl ?_
      refine J_get C 0 1 hinT rfl rfl (by decide) fkT_25 rfl dT_isPermutation_6 ?_
      refine J_icmp_ge C 29 (nI_toInt (n := i) (by omega)) (nI_toInt (n := 2 ^ n) (by omega)) dT_isPermutation_9 (by decide) (fun h9 => ?_) (fun h9 => ?_)
      · obtain rfl : 2 ^ n = i := by omega
        refine J_iload_n C 1 dT_isPermutation_29 rfl rfl ?_
        refine J_iconst C (v := nI (1)) dT_isPermutation_30 (by decide) ?_
        refine J_aload_n C 0 dT_isPermutation_31 rfl rfl ?_
        refine J_get C 0 1 hinT rfl rfl (by decide) fkT_25 rfl dT_isPermutation_32 ?_
        refine J_ishl1 C dT_isPermutation_35 (by omega) ?_
        refine J_iconst C (v := nI (1)) dT_isPermutation_36 (by decide) ?_
        refine J_isubN C dT_isPermutation_37 (by omega) ?_
        refine J_icmp_ne C 45 (nI_toInt (n := sn to (2 ^ n)) (by omega)) (nI_toInt (n := (2 ^ (2 ^ n)) - 1) (by omega)) dT_isPermutation_38 (by decide) (fun h38 => ?_) (fun h38 => ?_)
        · exfalso; omega
        · refine J_iconst C (v := nI (1)) dT_isPermutation_41 (by decide) ?_
          refine J_goto C 46 dT_isPermutation_42 (by decide) ?_
          exact hret _ _ _ _ _ _ dT_isPermutation_46 (by decide) (by decide) (by decide) (⟨rfl, rfl⟩)
      · refine J_iload_n C 1 dT_isPermutation_12 rfl rfl ?_
        refine J_iconst C (v := nI (1)) dT_isPermutation_13 (by decide) ?_
        refine J_aload_n C 0 dT_isPermutation_14 rfl rfl ?_
        refine J_get C 0 2 hinT rfl rfl (by decide) fkT_9 rfl dT_isPermutation_15 ?_
        refine J_iload_n C 2 dT_isPermutation_18 rfl rfl ?_
        refine J_iald C 1 rfl (by omega) (by omega) dT_isPermutation_19 ?_
        refine J_ishl1 C dT_isPermutation_20 (by have := ht i (by omega); omega) ?_
        refine J_iorN C dT_isPermutation_21 ?_
        refine J_istore_n C (lv' := [(0, .ref (h)), (1, .int (nI ((sn to i) ||| (2 ^ (to i))))), (2, .int (nI (i)))]) [1, 0, 2] dT_isPermutation_22 rfl (by decide) rfl ?_
        refine J_iinc C (lv' := [(0, .ref (h)), (1, .int (nI ((sn to i) ||| (2 ^ (to i))))), (2, .int (nI (i + 1)))]) 2 [1, 2, 0] dT_isPermutation_23 rfl (jn_inc _) (by decide) rfl ?_
        refine J_goto C 4 dT_isPermutation_26 (by decide) ?_
        exact ih_4 (i + 1) (by omega) (by omega)
  exact lp_4 (2 ^ n + 1) 0 (by omega) (by omega)
set_option maxHeartbeats 4000000 in
set_option maxRecDepth 100000 in
theorem c_T_isPerm_f (E : jE) (l : Launch) (h : Nat) (n : Nat) (a1 : Nat) (a2 : Nat) (a3 : Nat) (fc : Nat) (to : Nat → Nat) (hn1 : 1 ≤ n) (hn4 : n ≤ 4) (ht : ∀ v, v < 2 ^ n → to v < 2 ^ n) (hq : sn to (2 ^ n) ≠ 2 ^ 2 ^ n - 1) : Con E l yT_isPermutation bT_isPermutation 3 (some .boolean) { frames := 0, cells := 0, slots := 0, locals := 0 } [.ref (h)] [((h), .inr (3, [.int (nI (n)), .int (nI (2 ^ n)), .ref (a1), .ref (a2), .ref (a3), .int (nI (fc))])), kI E (a1) (16) (to)] (fun r w => r = some (.int (nI 0)) ∧ w = [((h), .inr (3, [.int (nI (n)), .int (nI (2 ^ n)), .ref (a1), .ref (a2), .ref (a3), .int (nI (fc))])), kI E (a1) (16) (to)]) := by
  refine Con.ofZ (by decide) (Nat.le_of_ble_eq_true rfl) ?_
  intro J C hret
  show J 0 [(0, .ref (h))] [] [((h), .inr (3, [.int (nI (n)), .int (nI (2 ^ n)), .ref (a1), .ref (a2), .ref (a3), .int (nI (fc))])), kI E (a1) (16) (to)] 0 0
  have hp16 := p16 hn4
  have hp1 := p1 n
  have hp65 := p65 hn4
  have hpp := p1 (2 ^ n)
  have hsn := sn_lt (t := to) (2 ^ n) (fun j hj => by have := ht j hj; omega)
  refine J_iconst C (v := nI (0)) dT_isPermutation_0 (by decide) ?_
  refine J_istore_n C (lv' := [(0, .ref (h)), (1, .int (nI (0)))]) [1, 0] dT_isPermutation_1 rfl (by decide) rfl ?_
  refine J_iconst C (v := nI (0)) dT_isPermutation_2 (by decide) ?_
  refine J_istore_n C (lv' := [(0, .ref (h)), (1, .int (nI (0))), (2, .int (nI (0)))]) [1, 2, 0] dT_isPermutation_3 rfl (by decide) rfl ?_
  have lp_4 : ∀ (k_4 : Nat) (i : Nat), (i ≤ 2 ^ n) → (2 ^ n - i) < k_4 → J 4 [(0, .ref (h)), (1, .int (nI (sn to i))), (2, .int (nI (i)))] [] [((h), .inr (3, [.int (nI (n)), .int (nI (2 ^ n)), .ref (a1), .ref (a2), .ref (a3), .int (nI (fc))])), kI E (a1) (16) (to)] (0) (0) := by
    intro k_4
    induction k_4 with
    | zero => intro i hi hk_4; exact absurd hk_4 (Nat.not_lt_zero _)
    | succ k_4 ih_4 =>
      intro i hi hk_4
      refine J_iload_n C 2 dT_isPermutation_4 rfl rfl ?_
      refine J_aload_n C 0 dT_isPermutation_5 rfl rfl ?_
      refine J_get C 0 1 hinT rfl rfl (by decide) fkT_25 rfl dT_isPermutation_6 ?_
      refine J_icmp_ge C 29 (nI_toInt (n := i) (by omega)) (nI_toInt (n := 2 ^ n) (by omega)) dT_isPermutation_9 (by decide) (fun h9 => ?_) (fun h9 => ?_)
      · obtain rfl : 2 ^ n = i := by omega
        refine J_iload_n C 1 dT_isPermutation_29 rfl rfl ?_
        refine J_iconst C (v := nI (1)) dT_isPermutation_30 (by decide) ?_
        refine J_aload_n C 0 dT_isPermutation_31 rfl rfl ?_
        refine J_get C 0 1 hinT rfl rfl (by decide) fkT_25 rfl dT_isPermutation_32 ?_
        refine J_ishl1 C dT_isPermutation_35 (by omega) ?_
        refine J_iconst C (v := nI (1)) dT_isPermutation_36 (by decide) ?_
        refine J_isubN C dT_isPermutation_37 (by omega) ?_
        refine J_icmp_ne C 45 (nI_toInt (n := sn to (2 ^ n)) (by omega)) (nI_toInt (n := (2 ^ (2 ^ n)) - 1) (by omega)) dT_isPermutation_38 (by decide) (fun h38 => ?_) (fun h38 => ?_)
        · refine J_iconst C (v := nI (0)) dT_isPermutation_45 (by decide) ?_
          exact hret _ _ _ _ _ _ dT_isPermutation_46 (by decide) (by decide) (by decide) (⟨rfl, rfl⟩)
        · exfalso; omega
      · refine J_iload_n C 1 dT_isPermutation_12 rfl rfl ?_
        refine J_iconst C (v := nI (1)) dT_isPermutation_13 (by decide) ?_
        refine J_aload_n C 0 dT_isPermutation_14 rfl rfl ?_
        refine J_get C 0 2 hinT rfl rfl (by decide) fkT_9 rfl dT_isPermutation_15 ?_
        refine J_iload_n C 2 dT_isPermutation_18 rfl rfl ?_
        refine J_iald C 1 rfl (by omega) (by omega) dT_isPermutation_19 ?_
        refine J_ishl1 C dT_isPermutation_20 (by have := ht i (by omega); omega) ?_
        refine J_iorN C dT_isPermutation_21 ?_
        refine J_istore_n C (lv' := [(0, .ref (h)), (1, .int (nI ((sn to i) ||| (2 ^ (to i))))), (2, .int (nI (i)))]) [1, 0, 2] dT_isPermutation_22 rfl (by decide) rfl ?_
        refine J_iinc C (lv' := [(0, .ref (h)), (1, .int (nI ((sn to i) ||| (2 ^ (to i))))), (2, .int (nI (i + 1)))]) 2 [1, 2, 0] dT_isPermutation_23 rfl (jn_inc _) (by decide) rfl ?_
        refine J_goto C 4 dT_isPermutation_26 (by decide) ?_
        exact ih_4 (i + 1) (by omega) (by omega)
  exact lp_4 (2 ^ n + 1) 0 (by omega) (by omega)
set_option maxHeartbeats 4000000 in
set_option maxRecDepth 100000 in
theorem c_T_useGate (E : jE) (l : Launch) (h : Nat) (n : Nat) (a1 : Nat) (a2 : Nat) (a3 : Nat) (s : gS) (F : Nat → Nat) (a : Nat) (c : Nat) (hn1 : 1 ≤ n) (hn4 : n ≤ 4) (hok : gOk n s.1) (hF : gL F s.2) (ha : a < n) (hc : c < 2 ^ n) (hlen : s.2.length < 64) : Con E l yT_useGate bT_useGate 2 none { frames := 1, cells := 0, slots := 0, locals := 25 } [.ref (h), .int (nI (16 * a + c))] [((h), .inr (3, [.int (nI (n)), .int (nI (2 ^ n)), .ref (a1), .ref (a2), .ref (a3), .int (nI (s.2.length))])), kI E (a2) (16) (s.1), kI E (a3) (64) (F)] (fun r w => ∃ F' : Nat → Nat, r = none ∧ gL F' (gU n s a c).2 ∧ w = [((h), .inr (3, [.int (nI (n)), .int (nI (2 ^ n)), .ref (a1), .ref (a2), .ref (a3), .int (nI ((gU n s a c).2.length))])), kI E (a2) (16) ((gU n s a c).1), kI E (a3) (64) (F')]) := by
  refine Con.ofV (by decide) (Nat.le_of_ble_eq_true rfl) ?_
  intro J C hret
  show J 0 [(0, .ref (h)), (1, .int (nI (16 * a + c)))] [] [((h), .inr (3, [.int (nI (n)), .int (nI (2 ^ n)), .ref (a1), .ref (a2), .ref (a3), .int (nI (s.2.length))])), kI E (a2) (16) (s.1), kI E (a3) (64) (F)] 0 0
  have hp16 := p16 hn4
  have hp1 := p1 n
  refine J_aload_n C 0 dT_useGate_0 rfl rfl ?_
  refine J_aload_n C 0 dT_useGate_1 rfl rfl ?_
  refine J_get C 0 3 hinT rfl rfl (by decide) fkT_15 rfl dT_useGate_2 ?_
  refine J_iload_n C 1 dT_useGate_5 rfl rfl ?_
  refine J_callV C (rest := []) [] [((h), .inr (3, [.int (nI (n)), .int (nI (2 ^ n)), .ref (a1), .ref (a2), .ref (a3), .int (nI (s.2.length))])), kI E (a2) (16) (s.1)] [kI E (a3) (64) (F)] 0 (c_T_changeAll E l h n a1 a2 a3 s.2.length a2 s.1 a c (by omega) (by omega) (by omega) (by omega) (hok)) mmT_changeAll msT_changeAll lkT_35 rfl rfl (rfl) rfl rfl ⟨by decide, by decide⟩ ⟨by decide, by decide⟩ (Nat.le_of_ble_eq_true rfl) dT_useGate_6 (fun r_c w_c hp => ?_)
  obtain ⟨rfl, rfl⟩ := hp
  refine J_norm C (st' := []) (ws' := [((h), .inr (3, [.int (nI (n)), .int (nI (2 ^ n)), .ref (a1), .ref (a2), .ref (a3), .int (nI (s.2.length))])), kI E (a2) (16) (gAp n s.1 a c), kI E (a3) (64) (F)]) (cs' := 0) (ss' := 0) rfl (rfl) rfl rfl ?_
  refine J_aload_n C 0 dT_useGate_9 rfl rfl ?_
  refine J_get C 0 5 hinT rfl rfl (by decide) fkT_39 rfl dT_useGate_10 ?_
  refine J_bipush C (v := nI (64)) dT_useGate_13 (by decide) ?_
  refine J_icmp_ge C 38 (nI_toInt (n := s.2.length) (by omega)) (nI_toInt (n := 64) (by decide)) dT_useGate_15 (by decide) (fun h15 => ?_) (fun h15 => ?_)
  · exfalso; omega
  · refine J_aload_n C 0 dT_useGate_18 rfl rfl ?_
    refine J_get C 0 4 hinT rfl rfl (by decide) fkT_18 rfl dT_useGate_19 ?_
    refine J_aload_n C 0 dT_useGate_22 rfl rfl ?_
    refine J_get C 0 5 hinT rfl rfl (by decide) fkT_39 rfl dT_useGate_23 ?_
    refine J_iload_n C 1 dT_useGate_26 rfl rfl ?_
    refine J_iastN C (ws' := [((h), .inr (3, [.int (nI (n)), .int (nI (2 ^ n)), .ref (a1), .ref (a2), .ref (a3), .int (nI (s.2.length))])), kI E (a2) (16) (gAp n s.1 a c), kI E (a3) (64) (upN F s.2.length (16 * a + c))]) 2 rfl (by omega) (by omega) dT_useGate_27 rfl ?_
    refine J_aload_n C 0 dT_useGate_28 rfl rfl ?_
    refine J_dup C dT_useGate_29 rfl ?_
    refine J_get C 0 5 hinT rfl rfl (by decide) fkT_39 rfl dT_useGate_30 ?_
    refine J_iconst C (v := nI (1)) dT_useGate_33 (by decide) ?_
    refine J_iaddN C dT_useGate_34 ?_
    refine J_put C (ws' := [((h), .inr (3, [.int (nI (n)), .int (nI (2 ^ n)), .ref (a1), .ref (a2), .ref (a3), .int (nI (s.2.length + 1))])), kI E (a2) (16) (gAp n s.1 a c), kI E (a3) (64) (upN F s.2.length (16 * a + c))]) 0 5 tyT hinT tyokT nmT rfl rfl (by decide) fkT_39 rfl rfl rfl (Nat.le_of_ble_eq_true rfl) dT_useGate_35 rfl ?_
    exact hret _ _ _ _ _ dT_useGate_38 (by decide) (by decide) (⟨_, rfl, gL_push hF, by simp [gU]⟩)
set_option maxHeartbeats 4000000 in
set_option maxRecDepth 100000 in
theorem c_T_settleRow (E : jE) (l : Launch) (h : Nat) (n : Nat) (a1 : Nat) (a2 : Nat) (a3 : Nat) (s : gS) (F : Nat → Nat) (v : Nat) (hn1 : 1 ≤ n) (hn4 : n ≤ 4) (hok : gOk n s.1) (hF : gL F s.2) (hv : v < 2 ^ n) (hlen : s.2.length + n ≤ 64) : Con E l yT_settleRow bT_settleRow 3 none { frames := 2, cells := 0, slots := 0, locals := 46 } [.ref (h), .int (nI (v))] [((h), .inr (3, [.int (nI (n)), .int (nI (2 ^ n)), .ref (a1), .ref (a2), .ref (a3), .int (nI (s.2.length))])), kI E (a2) (16) (s.1), kI E (a3) (64) (F)] (fun r w => ∃ F' : Nat → Nat, r = none ∧ gL F' (gRow n v s).2 ∧ w = [((h), .inr (3, [.int (nI (n)), .int (nI (2 ^ n)), .ref (a1), .ref (a2), .ref (a3), .int (nI ((gRow n v s).2.length))])), kI E (a2) (16) ((gRow n v s).1), kI E (a3) (64) (F')]) := by
  refine Con.ofV (by decide) (Nat.le_of_ble_eq_true rfl) ?_
  intro J C hret
  show J 0 [(0, .ref (h)), (1, .int (nI (v)))] [] [((h), .inr (3, [.int (nI (n)), .int (nI (2 ^ n)), .ref (a1), .ref (a2), .ref (a3), .int (nI (s.2.length))])), kI E (a2) (16) (s.1), kI E (a3) (64) (F)] 0 0
  have hp16 := p16 hn4
  have hp1 := p1 n
  refine J_iconst C (v := nI (0)) dT_settleRow_0 (by decide) ?_
  refine J_istore_n C (lv' := [(0, .ref (h)), (1, .int (nI (v))), (2, .int (nI (0)))]) [1, 2, 0] dT_settleRow_1 rfl (by decide) rfl ?_
  have lp_2 : ∀ (k_2 : Nat) (a : Nat) (F2 : Nat → Nat), (a ≤ n) → (gL F2 (g1 n v a s).2) → (n - a) < k_2 → J 2 [(0, .ref (h)), (1, .int (nI (v))), (2, .int (nI (a)))] [] [((h), .inr (3, [.int (nI (n)), .int (nI (2 ^ n)), .ref (a1), .ref (a2), .ref (a3), .int (nI ((g1 n v a s).2.length))])), kI E (a2) (16) ((g1 n v a s).1), kI E (a3) (64) (F2)] (0) (0) := by
    intro k_2
    induction k_2 with
    | zero => intro a F2 hi hF2 hk_2; exact absurd hk_2 (Nat.not_lt_zero _)
    | succ k_2 ih_2 =>
      intro a F2 hi hF2 hk_2
      have ok1 := g1_ok (v := v) hok a hi
      have ln1 := g1_len (n := n) (v := v) (s := s) a
      have bl1 := bcn_le a v
      refine J_iload_n C 2 dT_settleRow_2 rfl rfl ?_
      refine J_aload_n C 0 dT_settleRow_3 rfl rfl ?_
      refine J_get C 0 0 hinT rfl rfl (by decide) fkT_21 rfl dT_settleRow_4 ?_
      refine J_icmp_ge C 47 (nI_toInt (n := a) (by omega)) (nI_toInt (n := n) (by omega)) dT_settleRow_7 (by decide) (fun h7 => ?_) (fun h7 => ?_)
      · obtain rfl : n = a := by omega
        refine J_iconst C (v := nI (0)) dT_settleRow_47 (by decide) ?_
        refine J_istore_n C (lv' := [(0, .ref (h)), (1, .int (nI (v))), (2, .int (nI (0)))]) [1, 2, 0] dT_settleRow_48 rfl (by decide) rfl ?_
        have lp_49 : ∀ (k_49 : Nat) (a : Nat) (F2 : Nat → Nat), (a ≤ n) → (gL F2 (g2 n v a (g1 n v n s)).2) → (n - a) < k_49 → J 49 [(0, .ref (h)), (1, .int (nI (v))), (2, .int (nI (a)))] [] [((h), .inr (3, [.int (nI (n)), .int (nI (2 ^ n)), .ref (a1), .ref (a2), .ref (a3), .int (nI ((g2 n v a (g1 n v n s)).2.length))])), kI E (a2) (16) ((g2 n v a (g1 n v n s)).1), kI E (a3) (64) (F2)] (0) (0) := by
          intro k_49
          induction k_49 with
          | zero => intro a F2 hi hF2 hk_49; exact absurd hk_49 (Nat.not_lt_zero _)
          | succ k_49 ih_49 =>
            intro a F2 hi hF2 hk_49
            have ok1 := g2_ok (v := v) (g1_ok (v := v) hok n (Nat.le_refl n)) a hi
            have ln2 := g2_len (n := n) (v := v) (s := g1 n v n s) a
            have ln1 := g1_len (n := n) (v := v) (s := s) n
            have bl1 := bcn_le a v
            refine J_iload_n C 2 dT_settleRow_49 rfl rfl ?_
            refine J_aload_n C 0 dT_settleRow_50 rfl rfl ?_
            refine J_get C 0 0 hinT rfl rfl (by decide) fkT_21 rfl dT_settleRow_51 ?_
            refine J_icmp_ge C 89 (nI_toInt (n := a) (by omega)) (nI_toInt (n := n) (by omega)) dT_settleRow_54 (by decide) (fun h54 => ?_) (fun h54 => ?_)
            · obtain rfl : n = a := by omega
              exact hret _ _ _ _ _ dT_settleRow_89 (by decide) (by decide) (⟨F2, rfl, hF2, rfl⟩)
            · refine J_aload_n C 0 dT_settleRow_57 rfl rfl ?_
              refine J_get C 0 3 hinT rfl rfl (by decide) fkT_15 rfl dT_settleRow_58 ?_
              refine J_iload_n C 1 dT_settleRow_61 rfl rfl ?_
              refine J_iald C 1 rfl (by omega) (by omega) dT_settleRow_62 ?_
              refine J_iload_n C 1 dT_settleRow_63 rfl rfl ?_
              refine J_iconst C (v := -1) dT_settleRow_64 (by decide) ?_
              refine J_ixor C dT_settleRow_65 ?_
              refine J_iand C dT_settleRow_66 ?_
              refine J_iconst C (v := nI (1)) dT_settleRow_67 (by decide) ?_
              refine J_iload_n C 2 dT_settleRow_68 rfl rfl ?_
              refine J_ishl1 C dT_settleRow_69 (by omega) ?_
              refine J_iand C dT_settleRow_70 ?_
              refine J_topX C (x' := nI (if ((g2 n v a (g1 n v n s)).1 v).testBit a = true ∧ v.testBit a = false then 2 ^ a else 0)) (bit_not _ (by have := ok1 v hv; omega) v (by omega) a (by omega)) ?_
              refine J_if_eq C 83 (nI_toInt (n := if ((g2 n v a (g1 n v n s)).1 v).testBit a = true ∧ v.testBit a = false then 2 ^ a else 0) (if_two_lt (by omega))) dT_settleRow_71 (by decide) (fun h71 => ?_) (fun h71 => ?_)
              · have e := g2_f (if_two_eq h71)
                refine J_iinc C (lv' := [(0, .ref (h)), (1, .int (nI (v))), (2, .int (nI (a + 1)))]) 2 [1, 2, 0] dT_settleRow_83 rfl (jn_inc _) (by decide) rfl ?_
                refine J_goto C 49 dT_settleRow_86 (by decide) ?_
                rw [← e]
                rw [← e] at hF2
                exact ih_49 (a + 1) F2 (by omega) (hF2) (by omega)
              · have hc71 := if_two_ne h71
                refine J_aload_n C 0 dT_settleRow_74 rfl rfl ?_
                refine J_iload_n C 2 dT_settleRow_75 rfl rfl ?_
                refine J_iconst C (v := nI (4)) dT_settleRow_76 (by decide) ?_
                refine J_ishlN C dT_settleRow_77 (by omega) ?_
                refine J_iload_n C 1 dT_settleRow_78 rfl rfl ?_
                refine J_iorN C dT_settleRow_79 ?_
                refine J_topN C (n' := 16 * a + v) ((gate_num a (by omega) v (by omega)).1) ?_
                refine J_callV C (rest := []) [] [((h), .inr (3, [.int (nI (n)), .int (nI (2 ^ n)), .ref (a1), .ref (a2), .ref (a3), .int (nI ((g2 n v a (g1 n v n s)).2.length))])), kI E (a2) (16) ((g2 n v a (g1 n v n s)).1), kI E (a3) (64) (F2)] [] 0 (c_T_useGate E l h n a1 a2 a3 (g2 n v a (g1 n v n s)) F2 a v (by omega) (by omega) (ok1) (hF2) (by omega) (by omega) (by have := bcn_gap (v := v) (n := n) (a := a) (by omega) hc71.2; omega)) mmT_useGate msT_useGate lkT_46 rfl rfl (rfl) rfl rfl ⟨by decide, by decide⟩ ⟨by decide, by decide⟩ (Nat.le_of_ble_eq_true rfl) dT_settleRow_80 (fun r_c w_c hp => ?_)
                obtain ⟨F1_1, rfl, hF1, rfl⟩ := hp
                refine J_norm C (st' := []) (ws' := [((h), .inr (3, [.int (nI (n)), .int (nI (2 ^ n)), .ref (a1), .ref (a2), .ref (a3), .int (nI ((gU n (g2 n v a (g1 n v n s)) a v).2.length))])), kI E (a2) (16) ((gU n (g2 n v a (g1 n v n s)) a v).1), kI E (a3) (64) (F1_1)]) (cs' := 0) (ss' := 0) rfl (rfl) rfl rfl ?_
                have e := g2_t hc71
                refine J_iinc C (lv' := [(0, .ref (h)), (1, .int (nI (v))), (2, .int (nI (a + 1)))]) 2 [1, 2, 0] dT_settleRow_83 rfl (jn_inc _) (by decide) rfl ?_
                refine J_goto C 49 dT_settleRow_86 (by decide) ?_
                rw [← e]
                rw [← e] at hF1
                exact ih_49 (a + 1) F1_1 (by omega) (hF1) (by omega)
        exact lp_49 (n + 1) 0 F2 (by omega) (hF2) (by omega)
      · refine J_iload_n C 1 dT_settleRow_10 rfl rfl ?_
        refine J_aload_n C 0 dT_settleRow_11 rfl rfl ?_
        refine J_get C 0 3 hinT rfl rfl (by decide) fkT_15 rfl dT_settleRow_12 ?_
        refine J_iload_n C 1 dT_settleRow_15 rfl rfl ?_
        refine J_iald C 1 rfl (by omega) (by omega) dT_settleRow_16 ?_
        refine J_iconst C (v := -1) dT_settleRow_17 (by decide) ?_
        refine J_ixor C dT_settleRow_18 ?_
        refine J_iand C dT_settleRow_19 ?_
        refine J_iconst C (v := nI (1)) dT_settleRow_20 (by decide) ?_
        refine J_iload_n C 2 dT_settleRow_21 rfl rfl ?_
        refine J_ishl1 C dT_settleRow_22 (by omega) ?_
        refine J_iand C dT_settleRow_23 ?_
        refine J_topX C (x' := nI (if v.testBit a = true ∧ ((g1 n v a s).1 v).testBit a = false then 2 ^ a else 0)) (bit_not v (by omega) _ (by have := ok1 v hv; omega) a (by omega)) ?_
        refine J_if_eq C 41 (nI_toInt (n := if v.testBit a = true ∧ ((g1 n v a s).1 v).testBit a = false then 2 ^ a else 0) (if_two_lt (by omega))) dT_settleRow_24 (by decide) (fun h24 => ?_) (fun h24 => ?_)
        · have e := g1_f (if_two_eq h24)
          refine J_iinc C (lv' := [(0, .ref (h)), (1, .int (nI (v))), (2, .int (nI (a + 1)))]) 2 [1, 2, 0] dT_settleRow_41 rfl (jn_inc _) (by decide) rfl ?_
          refine J_goto C 2 dT_settleRow_44 (by decide) ?_
          rw [← e]
          rw [← e] at hF2
          exact ih_2 (a + 1) F2 (by omega) (hF2) (by omega)
        · have hc24 := if_two_ne h24
          refine J_aload_n C 0 dT_settleRow_27 rfl rfl ?_
          refine J_iload_n C 2 dT_settleRow_28 rfl rfl ?_
          refine J_iconst C (v := nI (4)) dT_settleRow_29 (by decide) ?_
          refine J_ishlN C dT_settleRow_30 (by omega) ?_
          refine J_aload_n C 0 dT_settleRow_31 rfl rfl ?_
          refine J_get C 0 3 hinT rfl rfl (by decide) fkT_15 rfl dT_settleRow_32 ?_
          refine J_iload_n C 1 dT_settleRow_35 rfl rfl ?_
          refine J_iald C 1 rfl (by omega) (by omega) dT_settleRow_36 ?_
          refine J_iorN C dT_settleRow_37 ?_
          refine J_topN C (n' := 16 * a + (g1 n v a s).1 v) ((gate_num a (by omega) _ (by have := ok1 v hv; omega)).1) ?_
          refine J_callV C (rest := []) [] [((h), .inr (3, [.int (nI (n)), .int (nI (2 ^ n)), .ref (a1), .ref (a2), .ref (a3), .int (nI ((g1 n v a s).2.length))])), kI E (a2) (16) ((g1 n v a s).1), kI E (a3) (64) (F2)] [] 0 (c_T_useGate E l h n a1 a2 a3 (g1 n v a s) F2 a ((g1 n v a s).1 v) (by omega) (by omega) (ok1) (hF2) (by omega) (ok1 v hv) (by omega)) mmT_useGate msT_useGate lkT_46 rfl rfl (rfl) rfl rfl ⟨by decide, by decide⟩ ⟨by decide, by decide⟩ (Nat.le_of_ble_eq_true rfl) dT_settleRow_38 (fun r_c w_c hp => ?_)
          obtain ⟨F1_2, rfl, hF1, rfl⟩ := hp
          refine J_norm C (st' := []) (ws' := [((h), .inr (3, [.int (nI (n)), .int (nI (2 ^ n)), .ref (a1), .ref (a2), .ref (a3), .int (nI ((gU n (g1 n v a s) a ((g1 n v a s).1 v)).2.length))])), kI E (a2) (16) ((gU n (g1 n v a s) a ((g1 n v a s).1 v)).1), kI E (a3) (64) (F1_2)]) (cs' := 0) (ss' := 0) rfl (rfl) rfl rfl ?_
          have e := g1_t hc24
          refine J_iinc C (lv' := [(0, .ref (h)), (1, .int (nI (v))), (2, .int (nI (a + 1)))]) 2 [1, 2, 0] dT_settleRow_41 rfl (jn_inc _) (by decide) rfl ?_
          refine J_goto C 2 dT_settleRow_44 (by decide) ?_
          rw [← e]
          rw [← e] at hF1
          exact ih_2 (a + 1) F1_2 (by omega) (hF1) (by omega)
  exact lp_2 (n + 1) 0 F (by omega) (hF) (by omega)
set_option maxHeartbeats 4000000 in
set_option maxRecDepth 100000 in
theorem c_T_findGates (E : jE) (l : Launch) (h : Nat) (n : Nat) (a1 : Nat) (a2 : Nat) (a3 : Nat) (fc : Nat) (to : Nat → Nat) (rs : Nat → Nat) (fd : Nat → Nat) (hn1 : 1 ≤ n) (hn4 : n ≤ 4) (ht : ∀ v, v < 2 ^ n → to v < 2 ^ n) : Con E l yT_findGates bT_findGates 2 (some .int) { frames := 3, cells := 0, slots := 0, locals := 68 } [.ref (h)] [((h), .inr (3, [.int (nI (n)), .int (nI (2 ^ n)), .ref (a1), .ref (a2), .ref (a3), .int (nI (fc))])), kI E (a1) (16) (to), kI E (a2) (16) (rs), kI E (a3) (64) (fd)] (fun r w => ∃ (f F : Nat → Nat), r = some (.int (nI (gts n to).length)) ∧ gL F (gts n to) ∧ w = [((h), .inr (3, [.int (nI (n)), .int (nI (2 ^ n)), .ref (a1), .ref (a2), .ref (a3), .int (nI ((gts n to).length))])), kI E (a1) (16) (to), kI E (a2) (16) (f), kI E (a3) (64) (F)]) := by
  refine Con.ofI (by decide) (Nat.le_of_ble_eq_true rfl) ?_
  intro J C hret
  show J 0 [(0, .ref (h))] [] [((h), .inr (3, [.int (nI (n)), .int (nI (2 ^ n)), .ref (a1), .ref (a2), .ref (a3), .int (nI (fc))])), kI E (a1) (16) (to), kI E (a2) (16) (rs), kI E (a3) (64) (fd)] 0 0
  have hp16 := p16 hn4
  have hp1 := p1 n
  refine J_aload_n C 0 dT_findGates_0 rfl rfl ?_
  refine J_iconst C (v := nI (0)) dT_findGates_1 (by decide) ?_
  refine J_put C (ws' := [((h), .inr (3, [.int (nI (n)), .int (nI (2 ^ n)), .ref (a1), .ref (a2), .ref (a3), .int (nI (0))])), kI E (a1) (16) (to), kI E (a2) (16) (rs), kI E (a3) (64) (fd)]) 0 5 tyT hinT tyokT nmT rfl rfl (by decide) fkT_39 rfl rfl rfl (Nat.le_of_ble_eq_true rfl) dT_findGates_2 rfl ?_
  refine J_iconst C (v := nI (0)) dT_findGates_5 (by decide) ?_
  refine J_istore_n C (lv' := [(0, .ref (h)), (1, .int (nI (0)))]) [1, 0] dT_findGates_6 rfl (by decide) rfl ?_
  have lp_7 : ∀ (k_7 : Nat) (i : Nat) (f : Nat → Nat), (i ≤ 2 ^ n) → (∀ j, f j = if j < i then to j else rs j) → (2 ^ n - i) < k_7 → J 7 [(0, .ref (h)), (1, .int (nI (i)))] [] [((h), .inr (3, [.int (nI (n)), .int (nI (2 ^ n)), .ref (a1), .ref (a2), .ref (a3), .int (nI (0))])), kI E (a1) (16) (to), kI E (a2) (16) (f), kI E (a3) (64) (fd)] (0) (0) := by
    intro k_7
    induction k_7 with
    | zero => intro i f hi hf hk_7; exact absurd hk_7 (Nat.not_lt_zero _)
    | succ k_7 ih_7 =>
      intro i f hi hf hk_7
      refine J_iload_n C 1 dT_findGates_7 rfl rfl ?_
      refine J_aload_n C 0 dT_findGates_8 rfl rfl ?_
      refine J_get C 0 1 hinT rfl rfl (by decide) fkT_25 rfl dT_findGates_9 ?_
      refine J_icmp_ge C 33 (nI_toInt (n := i) (by omega)) (nI_toInt (n := 2 ^ n) (by omega)) dT_findGates_12 (by decide) (fun h12 => ?_) (fun h12 => ?_)
      · obtain rfl : 2 ^ n = i := by omega
        refine J_iconst C (v := nI (0)) dT_findGates_33 (by decide) ?_
        refine J_istore_n C (lv' := [(0, .ref (h)), (1, .int (nI (0)))]) [1, 0] dT_findGates_34 rfl (by decide) rfl ?_
        have lp_35 : ∀ (k_35 : Nat) (v : Nat) (F2 : Nat → Nat), (v ≤ 2 ^ n) → (gL F2 (gRows n v (f, [])).2) → (2 ^ n - v) < k_35 → J 35 [(0, .ref (h)), (1, .int (nI (v)))] [] [((h), .inr (3, [.int (nI (n)), .int (nI (2 ^ n)), .ref (a1), .ref (a2), .ref (a3), .int (nI ((gRows n v (f, [])).2.length))])), kI E (a1) (16) (to), kI E (a2) (16) ((gRows n v (f, [])).1), kI E (a3) (64) (F2)] (0) (0) := by
          intro k_35
          induction k_35 with
          | zero => intro v F2 hv hF2 hk_35; exact absurd hk_35 (Nat.not_lt_zero _)
          | succ k_35 ih_35 =>
            intro v F2 hv hF2 hk_35
            have okr := gRows_ok (n := n) (s := (f, [])) (fun j hj => by have q := hf j; rw [if_pos hj] at q; show f j < _; rw [q]; exact ht j hj) v
            have lnr := gRows_len (n := n) (s := (f, [])) v
            have ml := Nat.mul_le_mul hn4 hp16
            refine J_iload_n C 1 dT_findGates_35 rfl rfl ?_
            refine J_aload_n C 0 dT_findGates_36 rfl rfl ?_
            refine J_get C 0 1 hinT rfl rfl (by decide) fkT_25 rfl dT_findGates_37 ?_
            refine J_icmp_ge C 54 (nI_toInt (n := v) (by omega)) (nI_toInt (n := 2 ^ n) (by omega)) dT_findGates_40 (by decide) (fun h40 => ?_) (fun h40 => ?_)
            · obtain rfl : 2 ^ n = v := by omega
              have eg := gts_of (n := n) (t := to) (f := f) (fun j hj => by rw [hf j, if_pos hj])
              refine J_aload_n C 0 dT_findGates_54 rfl rfl ?_
              refine J_get C 0 5 hinT rfl rfl (by decide) fkT_39 rfl dT_findGates_55 ?_
              exact hret _ _ _ _ _ _ dT_findGates_58 (by decide) (by decide) (⟨_, F2, by rw [← eg], by rw [← eg]; exact hF2, by rw [← eg]⟩)
            · have m2 : n * v + n ≤ n * 2 ^ n := by rw [← Nat.mul_succ]; exact Nat.mul_le_mul_left n (by omega)
              simp only [List.length_nil] at lnr
              refine J_aload_n C 0 dT_findGates_43 rfl rfl ?_
              refine J_iload_n C 1 dT_findGates_44 rfl rfl ?_
              refine J_pick C (ws' := [((h), .inr (3, [.int (nI (n)), .int (nI (2 ^ n)), .ref (a1), .ref (a2), .ref (a3), .int (nI ((gRows n v (f, [])).2.length))])), kI E (a2) (16) ((gRows n v (f, [])).1), kI E (a3) (64) (F2), kI E (a1) (16) (to)]) [0, 2, 3, 1] (by decide) rfl ?_
              refine J_callV C (rest := []) [] [((h), .inr (3, [.int (nI (n)), .int (nI (2 ^ n)), .ref (a1), .ref (a2), .ref (a3), .int (nI ((gRows n v (f, [])).2.length))])), kI E (a2) (16) ((gRows n v (f, [])).1), kI E (a3) (64) (F2)] [kI E (a1) (16) (to)] 0 (c_T_settleRow E l h n a1 a2 a3 (gRows n v (f, [])) F2 v (by omega) (by omega) (okr) (hF2) (by omega) (by omega)) mmT_settleRow msT_settleRow lkT_42 rfl rfl (rfl) rfl rfl ⟨by decide, by decide⟩ ⟨by decide, by decide⟩ (Nat.le_of_ble_eq_true rfl) dT_findGates_45 (fun r_c w_c hp => ?_)
              obtain ⟨F1, rfl, hF1, rfl⟩ := hp
              refine J_norm C (st' := []) (ws' := [((h), .inr (3, [.int (nI (n)), .int (nI (2 ^ n)), .ref (a1), .ref (a2), .ref (a3), .int (nI ((gRow n v (gRows n v (f, []))).2.length))])), kI E (a2) (16) ((gRow n v (gRows n v (f, []))).1), kI E (a3) (64) (F1), kI E (a1) (16) (to)]) (cs' := 0) (ss' := 0) rfl (rfl) rfl rfl ?_
              refine J_pick C (ws' := [((h), .inr (3, [.int (nI (n)), .int (nI (2 ^ n)), .ref (a1), .ref (a2), .ref (a3), .int (nI ((gRow n v (gRows n v (f, []))).2.length))])), kI E (a1) (16) (to), kI E (a2) (16) ((gRow n v (gRows n v (f, []))).1), kI E (a3) (64) (F1)]) [0, 3, 1, 2] (by decide) rfl ?_
              refine J_iinc C (lv' := [(0, .ref (h)), (1, .int (nI (v + 1)))]) 1 [1, 0] dT_findGates_48 rfl (jn_inc _) (by decide) rfl ?_
              refine J_goto C 35 dT_findGates_51 (by decide) ?_
              exact ih_35 (v + 1) F1 (by omega) (hF1) (by omega)
        exact lp_35 (2 ^ n + 1) 0 fd (by omega) (gL_nil _) (by omega)
      · refine J_aload_n C 0 dT_findGates_15 rfl rfl ?_
        refine J_get C 0 3 hinT rfl rfl (by decide) fkT_15 rfl dT_findGates_16 ?_
        refine J_iload_n C 1 dT_findGates_19 rfl rfl ?_
        refine J_aload_n C 0 dT_findGates_20 rfl rfl ?_
        refine J_get C 0 2 hinT rfl rfl (by decide) fkT_9 rfl dT_findGates_21 ?_
        refine J_iload_n C 1 dT_findGates_24 rfl rfl ?_
        refine J_iald C 1 rfl (by omega) (by omega) dT_findGates_25 ?_
        refine J_iastN C (ws' := [((h), .inr (3, [.int (nI (n)), .int (nI (2 ^ n)), .ref (a1), .ref (a2), .ref (a3), .int (nI (0))])), kI E (a1) (16) (to), kI E (a2) (16) (upN f i (to i)), kI E (a3) (64) (fd)]) 2 rfl (by omega) (by omega) dT_findGates_26 rfl ?_
        refine J_iinc C (lv' := [(0, .ref (h)), (1, .int (nI (i + 1)))]) 1 [1, 0] dT_findGates_27 rfl (jn_inc _) (by decide) rfl ?_
        refine J_goto C 7 dT_findGates_30 (by decide) ?_
        exact ih_7 (i + 1) (upN f i (to i)) (by omega) (cp_s hf) (by omega)
  exact lp_7 (2 ^ n + 1) 0 rs (by omega) (by intro j; simp) (by omega)
set_option maxHeartbeats 4000000 in
set_option maxRecDepth 100000 in
theorem c_T_ffl_t (E : jE) (l : Launch) (h : Nat) (n : Nat) (a1 : Nat) (a2 : Nat) (a3 : Nat) (fc : Nat) (fd : Nat → Nat) (k : Nat) (hfc : fc ≤ 64) (hk : k < fc) : Con E l yT_foundFromLast bT_foundFromLast 2 (some .int) { frames := 0, cells := 0, slots := 0, locals := 0 } [.ref (h), .int (nI (k))] [((h), .inr (3, [.int (nI (n)), .int (nI (2 ^ n)), .ref (a1), .ref (a2), .ref (a3), .int (nI (fc))])), kI E (a3) (64) (fd)] (fun r w => r = some (.int (nI (fd (fc - 1 - k)))) ∧ w = [((h), .inr (3, [.int (nI (n)), .int (nI (2 ^ n)), .ref (a1), .ref (a2), .ref (a3), .int (nI (fc))])), kI E (a3) (64) (fd)]) := by
  refine Con.ofI (by decide) (Nat.le_of_ble_eq_true rfl) ?_
  intro J C hret
  show J 0 [(0, .ref (h)), (1, .int (nI (k)))] [] [((h), .inr (3, [.int (nI (n)), .int (nI (2 ^ n)), .ref (a1), .ref (a2), .ref (a3), .int (nI (fc))])), kI E (a3) (64) (fd)] 0 0
  refine J_iload_n C 1 dT_foundFromLast_0 rfl rfl ?_
  refine J_if_lt C 28 (nI_toInt (n := k) (by omega)) dT_foundFromLast_1 (by decide) (fun h1 => ?_) (fun h1 => ?_)
  · exfalso; omega
  · refine J_iload_n C 1 dT_foundFromLast_4 rfl rfl ?_
    refine J_aload_n C 0 dT_foundFromLast_5 rfl rfl ?_
    refine J_get C 0 5 hinT rfl rfl (by decide) fkT_39 rfl dT_foundFromLast_6 ?_
    refine J_icmp_ge C 28 (nI_toInt (n := k) (by omega)) (nI_toInt (n := fc) (by omega)) dT_foundFromLast_9 (by decide) (fun h9 => ?_) (fun h9 => ?_)
    · exfalso; omega
    · refine J_aload_n C 0 dT_foundFromLast_12 rfl rfl ?_
      refine J_get C 0 4 hinT rfl rfl (by decide) fkT_18 rfl dT_foundFromLast_13 ?_
      refine J_aload_n C 0 dT_foundFromLast_16 rfl rfl ?_
      refine J_get C 0 5 hinT rfl rfl (by decide) fkT_39 rfl dT_foundFromLast_17 ?_
      refine J_iconst C (v := nI (1)) dT_foundFromLast_20 (by decide) ?_
      refine J_isubN C dT_foundFromLast_21 (by omega) ?_
      refine J_iload_n C 1 dT_foundFromLast_22 rfl rfl ?_
      refine J_isubN C dT_foundFromLast_23 (by omega) ?_
      refine J_iald C 1 rfl (by omega) (by omega) dT_foundFromLast_24 ?_
      refine J_goto C 29 dT_foundFromLast_25 (by decide) ?_
      exact hret _ _ _ _ _ _ dT_foundFromLast_29 (by decide) (by decide) (⟨rfl, rfl⟩)
set_option maxHeartbeats 4000000 in
set_option maxRecDepth 100000 in
theorem c_T_ffl_f (E : jE) (l : Launch) (h : Nat) (n : Nat) (a1 : Nat) (a2 : Nat) (a3 : Nat) (fc : Nat) (fd : Nat → Nat) (x : Int32) (hfc : fc ≤ 64) (hx : x.toInt < 0 ∨ (fc : Int) ≤ x.toInt) : Con E l yT_foundFromLast bT_foundFromLast 2 (some .int) { frames := 0, cells := 0, slots := 0, locals := 0 } [.ref (h), .int (x)] [((h), .inr (3, [.int (nI (n)), .int (nI (2 ^ n)), .ref (a1), .ref (a2), .ref (a3), .int (nI (fc))])), kI E (a3) (64) (fd)] (fun r w => r = some (.int (-1)) ∧ w = [((h), .inr (3, [.int (nI (n)), .int (nI (2 ^ n)), .ref (a1), .ref (a2), .ref (a3), .int (nI (fc))])), kI E (a3) (64) (fd)]) := by
  refine Con.ofI (by decide) (Nat.le_of_ble_eq_true rfl) ?_
  intro J C hret
  show J 0 [(0, .ref (h)), (1, .int (x))] [] [((h), .inr (3, [.int (nI (n)), .int (nI (2 ^ n)), .ref (a1), .ref (a2), .ref (a3), .int (nI (fc))])), kI E (a3) (64) (fd)] 0 0
  refine J_iload_n C 1 dT_foundFromLast_0 rfl rfl ?_
  refine J_if_lt C 28 rfl dT_foundFromLast_1 (by decide) (fun h1 => ?_) (fun h1 => ?_)
  · refine J_iconst C (v := -1) dT_foundFromLast_28 (by decide) ?_
    exact hret _ _ _ _ _ _ dT_foundFromLast_29 (by decide) (by decide) (⟨rfl, rfl⟩)
  · refine J_iload_n C 1 dT_foundFromLast_4 rfl rfl ?_
    refine J_aload_n C 0 dT_foundFromLast_5 rfl rfl ?_
    refine J_get C 0 5 hinT rfl rfl (by decide) fkT_39 rfl dT_foundFromLast_6 ?_
    refine J_icmp_ge C 28 rfl (nI_toInt (n := fc) (by omega)) dT_foundFromLast_9 (by decide) (fun h9 => ?_) (fun h9 => ?_)
    · refine J_iconst C (v := -1) dT_foundFromLast_28 (by decide) ?_
      exact hret _ _ _ _ _ _ dT_foundFromLast_29 (by decide) (by decide) (⟨rfl, rfl⟩)
    · exfalso; omega
set_option maxHeartbeats 4000000 in
set_option maxRecDepth 100000 in
theorem c_T_start_t (E : jE) (l : Launch) (h : Nat) (n : Nat) (a1 : Nat) (a2 : Nat) (a3 : Nat) (fc : Nat) (to : Nat → Nat) (k : Nat) (hk1 : 1 ≤ k) (hk4 : k ≤ 4) : Con E l yT_startWith bT_startWith 3 (some .boolean) { frames := 0, cells := 0, slots := 0, locals := 0 } [.ref (h), .int (nI (k))] [((h), .inr (3, [.int (nI (n)), .int (nI (2 ^ n)), .ref (a1), .ref (a2), .ref (a3), .int (nI (fc))])), kI E (a1) (16) (to)] (fun r w => r = some (.int (nI 1)) ∧ w = [((h), .inr (3, [.int (nI (k)), .int (nI (2 ^ k)), .ref (a1), .ref (a2), .ref (a3), .int (nI (fc))])), kI E (a1) (16) (fun j => j)]) := by
  refine Con.ofZ (by decide) (Nat.le_of_ble_eq_true rfl) ?_
  intro J C hret
  show J 0 [(0, .ref (h)), (1, .int (nI (k)))] [] [((h), .inr (3, [.int (nI (n)), .int (nI (2 ^ n)), .ref (a1), .ref (a2), .ref (a3), .int (nI (fc))])), kI E (a1) (16) (to)] 0 0
  refine J_iload_n C 1 dT_startWith_0 rfl rfl ?_
  refine J_iconst C (v := nI (1)) dT_startWith_1 (by decide) ?_
  refine J_icmp_lt C 10 (nI_toInt (n := k) (by omega)) (nI_toInt (n := 1) (by decide)) dT_startWith_2 (by decide) (fun h2 => ?_) (fun h2 => ?_)
  · exfalso; omega
  · refine J_iload_n C 1 dT_startWith_5 rfl rfl ?_
    refine J_iconst C (v := nI (4)) dT_startWith_6 (by decide) ?_
    refine J_icmp_le C 12 (nI_toInt (n := k) (by omega)) (nI_toInt (n := 4) (by decide)) dT_startWith_7 (by decide) (fun h7 => ?_) (fun h7 => ?_)
    · refine J_aload_n C 0 dT_startWith_12 rfl rfl ?_
      refine J_iload_n C 1 dT_startWith_13 rfl rfl ?_
      refine J_put C (ws' := [((h), .inr (3, [.int (nI (k)), .int (nI (2 ^ n)), .ref (a1), .ref (a2), .ref (a3), .int (nI (fc))])), kI E (a1) (16) (to)]) 0 0 tyT hinT tyokT nmT rfl rfl (by decide) fkT_21 rfl rfl rfl (Nat.le_of_ble_eq_true rfl) dT_startWith_14 rfl ?_
      refine J_aload_n C 0 dT_startWith_17 rfl rfl ?_
      refine J_iconst C (v := nI (1)) dT_startWith_18 (by decide) ?_
      refine J_iload_n C 1 dT_startWith_19 rfl rfl ?_
      refine J_ishl1 C dT_startWith_20 (by omega) ?_
      refine J_put C (ws' := [((h), .inr (3, [.int (nI (k)), .int (nI (2 ^ k)), .ref (a1), .ref (a2), .ref (a3), .int (nI (fc))])), kI E (a1) (16) (to)]) 0 1 tyT hinT tyokT nmT rfl rfl (by decide) fkT_25 rfl rfl rfl (Nat.le_of_ble_eq_true rfl) dT_startWith_21 rfl ?_
      refine J_iconst C (v := nI (0)) dT_startWith_24 (by decide) ?_
      refine J_istore_n C (lv' := [(0, .ref (h)), (1, .int (nI (k))), (2, .int (nI (0)))]) [1, 2, 0] dT_startWith_25 rfl (by decide) rfl ?_
      have lp_26 : ∀ (k_26 : Nat) (i : Nat) (f : Nat → Nat), (i ≤ 16) → (∀ j, f j = if j < i then j else to j) → (16 - i) < k_26 → J 26 [(0, .ref (h)), (1, .int (nI (k))), (2, .int (nI (i)))] [] [((h), .inr (3, [.int (nI (k)), .int (nI (2 ^ k)), .ref (a1), .ref (a2), .ref (a3), .int (nI (fc))])), kI E (a1) (16) (f)] (0) (0) := by
        intro k_26
        induction k_26 with
        | zero => intro i f hi hf hk_26; exact absurd hk_26 (Nat.not_lt_zero _)
        | succ k_26 ih_26 =>
          intro i f hi hf hk_26
          refine J_iload_n C 2 dT_startWith_26 rfl rfl ?_
          refine J_bipush C (v := nI (16)) dT_startWith_27 (by decide) ?_
          refine J_icmp_ge C 45 (nI_toInt (n := i) (by omega)) (nI_toInt (n := 16) (by decide)) dT_startWith_29 (by decide) (fun h29 => ?_) (fun h29 => ?_)
          · refine J_cell C (ws' := [((h), .inr (3, [.int (nI (k)), .int (nI (2 ^ k)), .ref (a1), .ref (a2), .ref (a3), .int (nI (fc))])), kI E (a1) (16) (fun j => j)]) 1 rfl (fun H => kI_congr (fun j hj => by rw [hf j, if_pos (by omega)])) rfl ?_
            refine J_iconst C (v := nI (1)) dT_startWith_45 (by decide) ?_
            exact hret _ _ _ _ _ _ dT_startWith_46 (by decide) (by decide) (by decide) (⟨rfl, rfl⟩)
          · refine J_aload_n C 0 dT_startWith_32 rfl rfl ?_
            refine J_get C 0 2 hinT rfl rfl (by decide) fkT_9 rfl dT_startWith_33 ?_
            refine J_iload_n C 2 dT_startWith_36 rfl rfl ?_
            refine J_iload_n C 2 dT_startWith_37 rfl rfl ?_
            refine J_iastN C (ws' := [((h), .inr (3, [.int (nI (k)), .int (nI (2 ^ k)), .ref (a1), .ref (a2), .ref (a3), .int (nI (fc))])), kI E (a1) (16) (upN f i i)]) 1 rfl (by omega) (by omega) dT_startWith_38 rfl ?_
            refine J_iinc C (lv' := [(0, .ref (h)), (1, .int (nI (k))), (2, .int (nI (i + 1)))]) 2 [1, 2, 0] dT_startWith_39 rfl (jn_inc _) (by decide) rfl ?_
            refine J_goto C 26 dT_startWith_42 (by decide) ?_
            exact ih_26 (i + 1) (upN f i i) (by omega) (cp_s (t := fun j => j) hf) (by omega)
      exact lp_26 (17) 0 to (by omega) (by intro j; simp) (by omega)
    · exfalso; omega
set_option maxHeartbeats 4000000 in
set_option maxRecDepth 100000 in
theorem c_T_start_f (E : jE) (l : Launch) (h : Nat) (n : Nat) (a1 : Nat) (a2 : Nat) (a3 : Nat) (fc : Nat) (to : Nat → Nat) (x : Int32) (hx : x.toInt < 1 ∨ 4 < x.toInt) : Con E l yT_startWith bT_startWith 3 (some .boolean) { frames := 0, cells := 0, slots := 0, locals := 0 } [.ref (h), .int (x)] [((h), .inr (3, [.int (nI (n)), .int (nI (2 ^ n)), .ref (a1), .ref (a2), .ref (a3), .int (nI (fc))])), kI E (a1) (16) (to)] (fun r w => r = some (.int (nI 0)) ∧ w = [((h), .inr (3, [.int (nI (n)), .int (nI (2 ^ n)), .ref (a1), .ref (a2), .ref (a3), .int (nI (fc))])), kI E (a1) (16) (to)]) := by
  refine Con.ofZ (by decide) (Nat.le_of_ble_eq_true rfl) ?_
  intro J C hret
  show J 0 [(0, .ref (h)), (1, .int (x))] [] [((h), .inr (3, [.int (nI (n)), .int (nI (2 ^ n)), .ref (a1), .ref (a2), .ref (a3), .int (nI (fc))])), kI E (a1) (16) (to)] 0 0
  refine J_iload_n C 1 dT_startWith_0 rfl rfl ?_
  refine J_iconst C (v := nI (1)) dT_startWith_1 (by decide) ?_
  refine J_icmp_lt C 10 rfl (nI_toInt (n := 1) (by decide)) dT_startWith_2 (by decide) (fun h2 => ?_) (fun h2 => ?_)
  · refine J_iconst C (v := nI (0)) dT_startWith_10 (by decide) ?_
    exact hret _ _ _ _ _ _ dT_startWith_11 (by decide) (by decide) (by decide) (⟨rfl, rfl⟩)
  · refine J_iload_n C 1 dT_startWith_5 rfl rfl ?_
    refine J_iconst C (v := nI (4)) dT_startWith_6 (by decide) ?_
    refine J_icmp_le C 12 rfl (nI_toInt (n := 4) (by decide)) dT_startWith_7 (by decide) (fun h7 => ?_) (fun h7 => ?_)
    · exfalso; omega
    · refine J_iconst C (v := nI (0)) dT_startWith_10 (by decide) ?_
      exact hret _ _ _ _ _ _ dT_startWith_11 (by decide) (by decide) (by decide) (⟨rfl, rfl⟩)
set_option maxHeartbeats 4000000 in
set_option maxRecDepth 100000 in
theorem c_T_init (E : jE) (l : Launch) (h : Nat) : Con E l yT_init bT_init 2 none { frames := 1, cells := 3, slots := 96, locals := 12 } [.ref (h)] [((h), .inr (3, [.int (nI (0)), .int (nI (0)), .null, .null, .null, .int (nI (0))]))] (fun r w => ∃ a1 a2 a3 : Nat, r = none ∧ w = [((h), .inr (3, [.int (nI (1)), .int (nI (2 ^ 1)), .ref (a1), .ref (a2), .ref (a3), .int (nI (0))])), kI E (a1) (16) (fun j => j), kI E (a2) (16) (fun _ => 0), kI E (a3) (64) (fun _ => 0)]) := by
  refine Con.ofN rfl (by decide) (Nat.le_of_ble_eq_true rfl) ?_
  intro J C hinit hret
  show J 0 [(0, .ref (h))] [] [((h), .inr (3, [.int (nI (0)), .int (nI (0)), .null, .null, .null, .int (nI (0))]))] 0 0
  refine J_aload_n C 0 dT_init_0 rfl rfl ?_
  refine J_objInit C lkT_3 k_objI k_objC dT_init_1 (by decide) (Nat.le_of_ble_eq_true rfl) ?_
  refine J_aload_n C 0 dT_init_4 rfl rfl ?_
  refine J_bipush C (v := nI (16)) dT_init_5 (by decide) ?_
  refine J_newaI C ar_int (by omega) (by decide) (by decide) dT_init_7 (fun b1 => ?_)
  refine hinit (ws' := [((h), .inr (3, [.int (nI (0)), .int (nI (0)), .ref (b1), .null, .null, .int (nI (0))])), kI E (b1) (16) (fun _ => 0)]) _ _ _ _ _ _ _ _ _ _ _ _ 0 _ 2 tyT _ hinT tyokT nmT rfl rfl (by decide) fkT_9 rfl rfl rfl rfl (Nat.le_of_ble_eq_true rfl) dT_init_9 rfl ?_
  refine J_aload_n C 0 dT_init_12 rfl rfl ?_
  refine J_bipush C (v := nI (16)) dT_init_13 (by decide) ?_
  refine J_newaI C ar_int (by omega) (by decide) (by decide) dT_init_15 (fun b2 => ?_)
  refine hinit (ws' := [((h), .inr (3, [.int (nI (0)), .int (nI (0)), .ref (b1), .ref (b2), .null, .int (nI (0))])), kI E (b1) (16) (fun _ => 0), kI E (b2) (16) (fun _ => 0)]) _ _ _ _ _ _ _ _ _ _ _ _ 0 _ 3 tyT _ hinT tyokT nmT rfl rfl (by decide) fkT_15 rfl rfl rfl rfl (Nat.le_of_ble_eq_true rfl) dT_init_17 rfl ?_
  refine J_aload_n C 0 dT_init_20 rfl rfl ?_
  refine J_bipush C (v := nI (64)) dT_init_21 (by decide) ?_
  refine J_newaI C ar_int (by omega) (by decide) (by decide) dT_init_23 (fun b3 => ?_)
  refine hinit (ws' := [((h), .inr (3, [.int (nI (0)), .int (nI (0)), .ref (b1), .ref (b2), .ref (b3), .int (nI (0))])), kI E (b1) (16) (fun _ => 0), kI E (b2) (16) (fun _ => 0), kI E (b3) (64) (fun _ => 0)]) _ _ _ _ _ _ _ _ _ _ _ _ 0 _ 4 tyT _ hinT tyokT nmT rfl rfl (by decide) fkT_18 rfl rfl rfl rfl (Nat.le_of_ble_eq_true rfl) dT_init_25 rfl ?_
  refine J_aload_n C 0 dT_init_28 rfl rfl ?_
  refine J_iconst C (v := nI (1)) dT_init_29 (by decide) ?_
  refine J_put C (ws' := [((h), .inr (3, [.int (nI (1)), .int (nI (0)), .ref (b1), .ref (b2), .ref (b3), .int (nI (0))])), kI E (b1) (16) (fun _ => 0), kI E (b2) (16) (fun _ => 0), kI E (b3) (64) (fun _ => 0)]) 0 0 tyT hinT tyokT nmT rfl rfl (by decide) fkT_21 rfl rfl rfl (Nat.le_of_ble_eq_true rfl) dT_init_30 rfl ?_
  refine J_aload_n C 0 dT_init_33 rfl rfl ?_
  refine J_iconst C (v := nI (2)) dT_init_34 (by decide) ?_
  refine J_put C (ws' := [((h), .inr (3, [.int (nI (1)), .int (nI (2)), .ref (b1), .ref (b2), .ref (b3), .int (nI (0))])), kI E (b1) (16) (fun _ => 0), kI E (b2) (16) (fun _ => 0), kI E (b3) (64) (fun _ => 0)]) 0 1 tyT hinT tyokT nmT rfl rfl (by decide) fkT_25 rfl rfl rfl (Nat.le_of_ble_eq_true rfl) dT_init_35 rfl ?_
  refine J_iconst C (v := nI (0)) dT_init_38 (by decide) ?_
  refine J_istore_n C (lv' := [(0, .ref (h)), (1, .int (nI (0)))]) [1, 0] dT_init_39 rfl (by decide) rfl ?_
  have lp_40 : ∀ (k_40 : Nat) (i : Nat) (f : Nat → Nat), (i ≤ 16) → (∀ j, f j = if j < i then j else 0) → (16 - i) < k_40 → J 40 [(0, .ref (h)), (1, .int (nI (i)))] [] [((h), .inr (3, [.int (nI (1)), .int (nI (2)), .ref (b1), .ref (b2), .ref (b3), .int (nI (0))])), kI E (b1) (16) (f), kI E (b2) (16) (fun _ => 0), kI E (b3) (64) (fun _ => 0)] (3) (96) := by
    intro k_40
    induction k_40 with
    | zero => intro i f hi hf hk_40; exact absurd hk_40 (Nat.not_lt_zero _)
    | succ k_40 ih_40 =>
      intro i f hi hf hk_40
      refine J_iload_n C 1 dT_init_40 rfl rfl ?_
      refine J_bipush C (v := nI (16)) dT_init_41 (by decide) ?_
      refine J_icmp_ge C 59 (nI_toInt (n := i) (by omega)) (nI_toInt (n := 16) (by decide)) dT_init_43 (by decide) (fun h43 => ?_) (fun h43 => ?_)
      · refine J_cell C (ws' := [((h), .inr (3, [.int (nI (1)), .int (nI (2)), .ref (b1), .ref (b2), .ref (b3), .int (nI (0))])), kI E (b1) (16) (fun j => j), kI E (b2) (16) (fun _ => 0), kI E (b3) (64) (fun _ => 0)]) 1 rfl (fun H => kI_congr (fun j hj => by rw [hf j, if_pos (by omega)])) rfl ?_
        exact hret _ _ _ _ _ dT_init_59 (by decide) (by decide) (⟨b1, b2, b3, rfl, rfl⟩)
      · refine J_aload_n C 0 dT_init_46 rfl rfl ?_
        refine J_get C 0 2 hinT rfl rfl (by decide) fkT_9 rfl dT_init_47 ?_
        refine J_iload_n C 1 dT_init_50 rfl rfl ?_
        refine J_iload_n C 1 dT_init_51 rfl rfl ?_
        refine J_iastN C (ws' := [((h), .inr (3, [.int (nI (1)), .int (nI (2)), .ref (b1), .ref (b2), .ref (b3), .int (nI (0))])), kI E (b1) (16) (upN f i i), kI E (b2) (16) (fun _ => 0), kI E (b3) (64) (fun _ => 0)]) 1 rfl (by omega) (by omega) dT_init_52 rfl ?_
        refine J_iinc C (lv' := [(0, .ref (h)), (1, .int (nI (i + 1)))]) 1 [1, 0] dT_init_53 rfl (jn_inc _) (by decide) rfl ?_
        refine J_goto C 40 dT_init_56 (by decide) ?_
        exact ih_40 (i + 1) (upN f i i) (by omega) (cp_s (t := fun j => j) (g := fun _ => 0) hf) (by omega)
  exact lp_40 (17) 0 (fun _ => 0) (by omega) (by intro j; simp) (by omega)
