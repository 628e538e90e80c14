set_option maxHeartbeats 4000000 in
set_option maxRecDepth 100000 in
theorem c_M_values (E : jE) (l : Launch) (h : Nat) (n : Nat) (st : Nat) (mn : Nat) (m1 : Nat) (m2 : Nat) (m3 : Nat) (m4 : Nat) (m5 : Nat) (m6 : Nat) (m7 : Nat) (m8 : Nat) (m9 : Nat) (ma : Nat) (mb : Nat) (hn1 : 1 ≤ n) (hn4 : n ≤ 4) : Con E l yM_values bM_values 1 (some .int) { frames := 0, cells := 0, slots := 0, locals := 0 } [.ref (h)] [((h), .inr (5, [.int (nI (0)), .int (nI (n)), .ref (m1), .int (nI (st)), .ref (m2), .ref (m3), .ref (m4), .int (nI (mn)), .ref (m5), .ref (m6), .ref (m7), .ref (m8), .ref (m9), .ref (ma), .ref (mb)]))] (fun r w => r = some (.int (nI (2 ^ n))) ∧ w = [((h), .inr (5, [.int (nI (0)), .int (nI (n)), .ref (m1), .int (nI (st)), .ref (m2), .ref (m3), .ref (m4), .int (nI (mn)), .ref (m5), .ref (m6), .ref (m7), .ref (m8), .ref (m9), .ref (ma), .ref (mb)]))]) := by
  refine Con.ofI (by decide) (Nat.le_of_ble_eq_true rfl) ?_
  intro J C hret
  show J 0 [(0, .ref (h))] [] [((h), .inr (5, [.int (nI (0)), .int (nI (n)), .ref (m1), .int (nI (st)), .ref (m2), .ref (m3), .ref (m4), .int (nI (mn)), .ref (m5), .ref (m6), .ref (m7), .ref (m8), .ref (m9), .ref (ma), .ref (mb)]))] 0 0
  have hp16 := p16 hn4
  have hp1 := p1 n
  refine J_iconst C (v := nI (1)) dM_values_0 (by decide) ?_
  refine J_aload_n C 0 dM_values_1 rfl rfl ?_
  refine J_get C 0 1 hinM rfl rfl (by decide) fkM_56 rfl dM_values_2 ?_
  refine J_ishl1 C dM_values_5 (by omega) ?_
  exact hret _ _ _ _ _ _ dM_values_6 (by decide) (by decide) (⟨rfl, rfl⟩)
set_option maxHeartbeats 4000000 in
set_option maxRecDepth 100000 in
theorem c_M_isValue_t (E : jE) (l : Launch) (h : Nat) (n : Nat) (st : Nat) (mn : Nat) (m1 : Nat) (m2 : Nat) (m3 : Nat) (m4 : Nat) (m5 : Nat) (m6 : Nat) (m7 : Nat) (m8 : Nat) (m9 : Nat) (ma : Nat) (mb : Nat) (k : Nat) (hn1 : 1 ≤ n) (hn4 : n ≤ 4) (hk : k < 2 ^ n) : Con E l yM_isValue bM_isValue 2 (some .boolean) { frames := 1, cells := 0, slots := 0, locals := 20 } [.ref (h), .int (nI (k))] [((h), .inr (5, [.int (nI (0)), .int (nI (n)), .ref (m1), .int (nI (st)), .ref (m2), .ref (m3), .ref (m4), .int (nI (mn)), .ref (m5), .ref (m6), .ref (m7), .ref (m8), .ref (m9), .ref (ma), .ref (mb)]))] (fun r w => r = some (.int (nI 1)) ∧ w = [((h), .inr (5, [.int (nI (0)), .int (nI (n)), .ref (m1), .int (nI (st)), .ref (m2), .ref (m3), .ref (m4), .int (nI (mn)), .ref (m5), .ref (m6), .ref (m7), .ref (m8), .ref (m9), .ref (ma), .ref (mb)]))]) := by
  refine Con.ofZ (by decide) (Nat.le_of_ble_eq_true rfl) ?_
  intro J C hret
  show J 0 [(0, .ref (h)), (1, .int (nI (k)))] [] [((h), .inr (5, [.int (nI (0)), .int (nI (n)), .ref (m1), .int (nI (st)), .ref (m2), .ref (m3), .ref (m4), .int (nI (mn)), .ref (m5), .ref (m6), .ref (m7), .ref (m8), .ref (m9), .ref (ma), .ref (mb)]))] 0 0
  have hp16 := p16 hn4
  have hp1 := p1 n
  refine J_iload_n C 1 dM_isValue_0 rfl rfl ?_
  refine J_if_lt C 16 (nI_toInt (n := k) (by omega)) dM_isValue_1 (by decide) (fun h1 => ?_) (fun h1 => ?_)
  · exfalso; omega
  · refine J_iload_n C 1 dM_isValue_4 rfl rfl ?_
    refine J_aload_n C 0 dM_isValue_5 rfl rfl ?_
    refine J_callV C (rest := [.int (nI (k))]) [] [((h), .inr (5, [.int (nI (0)), .int (nI (n)), .ref (m1), .int (nI (st)), .ref (m2), .ref (m3), .ref (m4), .int (nI (mn)), .ref (m5), .ref (m6), .ref (m7), .ref (m8), .ref (m9), .ref (ma), .ref (mb)]))] [] 0 (c_M_values E l h n st mn m1 m2 m3 m4 m5 m6 m7 m8 m9 ma mb (by omega) (by omega)) mmM_values msM_values lkM_59 rfl rfl (rfl) rfl rfl ⟨by decide, by decide⟩ ⟨by decide, by decide⟩ (Nat.le_of_ble_eq_true rfl) dM_isValue_6 (fun r_c w_c hp => ?_)
    obtain ⟨rfl, rfl⟩ := hp
    refine J_norm C (st' := [.int (nI (2 ^ n)), .int (nI (k))]) (ws' := [((h), .inr (5, [.int (nI (0)), .int (nI (n)), .ref (m1), .int (nI (st)), .ref (m2), .ref (m3), .ref (m4), .int (nI (mn)), .ref (m5), .ref (m6), .ref (m7), .ref (m8), .ref (m9), .ref (ma), .ref (mb)]))]) (cs' := 0) (ss' := 0) rfl (rfl) rfl rfl ?_
    refine J_icmp_ge C 16 (nI_toInt (n := k) (by omega)) (nI_toInt (n := 2 ^ n) (by omega)) dM_isValue_9 (by decide) (fun h9 => ?_) (fun h9 => ?_)
    · exfalso; omega
    · refine J_iconst C (v := nI (1)) dM_isValue_12 (by decide) ?_
      refine J_goto C 17 dM_isValue_13 (by decide) ?_
      exact hret _ _ _ _ _ _ dM_isValue_17 (by decide) (by decide) (by decide) (⟨rfl, rfl⟩)
set_option maxHeartbeats 4000000 in
set_option maxRecDepth 100000 in
theorem c_M_isValue_f (E : jE) (l : Launch) (h : Nat) (n : Nat) (st : Nat) (mn : Nat) (m1 : Nat) (m2 : Nat) (m3 : Nat) (m4 : Nat) (m5 : Nat) (m6 : Nat) (m7 : Nat) (m8 : Nat) (m9 : Nat) (ma : Nat) (mb : Nat) (x : Int32) (hn1 : 1 ≤ n) (hn4 : n ≤ 4) (hx : x.toInt < 0 ∨ ((2 ^ n : Nat) : Int) ≤ x.toInt) : Con E l yM_isValue bM_isValue 2 (some .boolean) { frames := 1, cells := 0, slots := 0, locals := 20 } [.ref (h), .int (x)] [((h), .inr (5, [.int (nI (0)), .int (nI (n)), .ref (m1), .int (nI (st)), .ref (m2), .ref (m3), .ref (m4), .int (nI (mn)), .ref (m5), .ref (m6), .ref (m7), .ref (m8), .ref (m9), .ref (ma), .ref (mb)]))] (fun r w => r = some (.int (nI 0)) ∧ w = [((h), .inr (5, [.int (nI (0)), .int (nI (n)), .ref (m1), .int (nI (st)), .ref (m2), .ref (m3), .ref (m4), .int (nI (mn)), .ref (m5), .ref (m6), .ref (m7), .ref (m8), .ref (m9), .ref (ma), .ref (mb)]))]) := by
  refine Con.ofZ (by decide) (Nat.le_of_ble_eq_true rfl) ?_
  intro J C hret
  show J 0 [(0, .ref (h)), (1, .int (x))] [] [((h), .inr (5, [.int (nI (0)), .int (nI (n)), .ref (m1), .int (nI (st)), .ref (m2), .ref (m3), .ref (m4), .int (nI (mn)), .ref (m5), .ref (m6), .ref (m7), .ref (m8), .ref (m9), .ref (ma), .ref (mb)]))] 0 0
  have hp16 := p16 hn4
  have hp1 := p1 n
  refine J_iload_n C 1 dM_isValue_0 rfl rfl ?_
  refine J_if_lt C 16 rfl dM_isValue_1 (by decide) (fun h1 => ?_) (fun h1 => ?_)
  · refine J_iconst C (v := nI (0)) dM_isValue_16 (by decide) ?_
    exact hret _ _ _ _ _ _ dM_isValue_17 (by decide) (by decide) (by decide) (⟨rfl, rfl⟩)
  · refine J_iload_n C 1 dM_isValue_4 rfl rfl ?_
    refine J_aload_n C 0 dM_isValue_5 rfl rfl ?_
    refine J_callV C (rest := [.int (x)]) [] [((h), .inr (5, [.int (nI (0)), .int (nI (n)), .ref (m1), .int (nI (st)), .ref (m2), .ref (m3), .ref (m4), .int (nI (mn)), .ref (m5), .ref (m6), .ref (m7), .ref (m8), .ref (m9), .ref (ma), .ref (mb)]))] [] 0 (c_M_values E l h n st mn m1 m2 m3 m4 m5 m6 m7 m8 m9 ma mb (by omega) (by omega)) mmM_values msM_values lkM_59 rfl rfl (rfl) rfl rfl ⟨by decide, by decide⟩ ⟨by decide, by decide⟩ (Nat.le_of_ble_eq_true rfl) dM_isValue_6 (fun r_c w_c hp => ?_)
    obtain ⟨rfl, rfl⟩ := hp
    refine J_norm C (st' := [.int (nI (2 ^ n)), .int (x)]) (ws' := [((h), .inr (5, [.int (nI (0)), .int (nI (n)), .ref (m1), .int (nI (st)), .ref (m2), .ref (m3), .ref (m4), .int (nI (mn)), .ref (m5), .ref (m6), .ref (m7), .ref (m8), .ref (m9), .ref (ma), .ref (mb)]))]) (cs' := 0) (ss' := 0) rfl (rfl) rfl rfl ?_
    refine J_icmp_ge C 16 rfl (nI_toInt (n := 2 ^ n) (by omega)) dM_isValue_9 (by decide) (fun h9 => ?_) (fun h9 => ?_)
    · refine J_iconst C (v := nI (0)) dM_isValue_16 (by decide) ?_
      exact hret _ _ _ _ _ _ dM_isValue_17 (by decide) (by decide) (by decide) (⟨rfl, rfl⟩)
    · exfalso; omega
set_option maxHeartbeats 4000000 in
set_option maxRecDepth 100000 in
theorem c_M_start (E : jE) (l : Launch) (h : Nat) (n : Nat) (st : Nat) (mn : Nat) (m1 : Nat) (m2 : Nat) (m3 : Nat) (m4 : Nat) (m5 : Nat) (m6 : Nat) (m7 : Nat) (m8 : Nat) (m9 : Nat) (ma : Nat) (mb : Nat) (to : Nat → Nat) (k : Nat) : Con E l yM_start bM_start 3 none { frames := 0, cells := 0, slots := 0, locals := 0 } [.ref (h), .int (nI (k))] [((h), .inr (5, [.int (nI (0)), .int (nI (n)), .ref (m1), .int (nI (st)), .ref (m2), .ref (m3), .ref (m4), .int (nI (mn)), .ref (m5), .ref (m6), .ref (m7), .ref (m8), .ref (m9), .ref (ma), .ref (mb)])), kI E (m1) (16) (to)] (fun r w => r = none ∧ w = [((h), .inr (5, [.int (nI (0)), .int (nI (k)), .ref (m1), .int (nI (st)), .ref (m2), .ref (m3), .ref (m4), .int (nI (mn)), .ref (m5), .ref (m6), .ref (m7), .ref (m8), .ref (m9), .ref (ma), .ref (mb)])), kI E (m1) (16) (fun j => j)]) := by
  refine Con.ofV (by decide) (Nat.le_of_ble_eq_true rfl) ?_
  intro J C hret
  show J 0 [(0, .ref (h)), (1, .int (nI (k)))] [] [((h), .inr (5, [.int (nI (0)), .int (nI (n)), .ref (m1), .int (nI (st)), .ref (m2), .ref (m3), .ref (m4), .int (nI (mn)), .ref (m5), .ref (m6), .ref (m7), .ref (m8), .ref (m9), .ref (ma), .ref (mb)])), kI E (m1) (16) (to)] 0 0
  refine J_aload_n C 0 dM_start_0 rfl rfl ?_
  refine J_iload_n C 1 dM_start_1 rfl rfl ?_
  refine J_put C (ws' := [((h), .inr (5, [.int (nI (0)), .int (nI (k)), .ref (m1), .int (nI (st)), .ref (m2), .ref (m3), .ref (m4), .int (nI (mn)), .ref (m5), .ref (m6), .ref (m7), .ref (m8), .ref (m9), .ref (ma), .ref (mb)])), kI E (m1) (16) (to)]) 0 1 tyM hinM tyokM nmM rfl rfl (by decide) fkM_56 rfl rfl rfl (Nat.le_of_ble_eq_true rfl) dM_start_2 rfl ?_
  refine J_iconst C (v := nI (0)) dM_start_5 (by decide) ?_
  refine J_istore_n C (lv' := [(0, .ref (h)), (1, .int (nI (k))), (2, .int (nI (0)))]) [1, 2, 0] dM_start_6 rfl (by decide) rfl ?_
  have lp_7 : ∀ (k_7 : Nat) (i : Nat) (f : Nat → Nat), (i ≤ 16) → (∀ j, f j = if j < i then j else to j) → (16 - i) < k_7 → J 7 [(0, .ref (h)), (1, .int (nI (k))), (2, .int (nI (i)))] [] [((h), .inr (5, [.int (nI (0)), .int (nI (k)), .ref (m1), .int (nI (st)), .ref (m2), .ref (m3), .ref (m4), .int (nI (mn)), .ref (m5), .ref (m6), .ref (m7), .ref (m8), .ref (m9), .ref (ma), .ref (mb)])), kI E (m1) (16) (f)] (0) (0) := by
    intro k_7
    induction k_7 with
    | zero => intro i f hi hf hk_7; exact absurd hk_7 (Nat.not_lt_zero _)
    | succ k_7 ih_7 =>
      intro i f hi hf hk_7
      refine J_iload_n C 2 dM_start_7 rfl rfl ?_
      refine J_bipush C (v := nI (16)) dM_start_8 (by decide) ?_
      refine J_icmp_ge C 26 (nI_toInt (n := i) (by omega)) (nI_toInt (n := 16) (by decide)) dM_start_10 (by decide) (fun h10 => ?_) (fun h10 => ?_)
      · refine J_cell C (ws' := [((h), .inr (5, [.int (nI (0)), .int (nI (k)), .ref (m1), .int (nI (st)), .ref (m2), .ref (m3), .ref (m4), .int (nI (mn)), .ref (m5), .ref (m6), .ref (m7), .ref (m8), .ref (m9), .ref (ma), .ref (mb)])), kI E (m1) (16) (fun j => j)]) 1 rfl (fun H => kI_congr (fun j hj => by rw [hf j, if_pos (by omega)])) rfl ?_
        exact hret _ _ _ _ _ dM_start_26 (by decide) (by decide) (⟨rfl, rfl⟩)
      · refine J_aload_n C 0 dM_start_13 rfl rfl ?_
        refine J_get C 0 2 hinM rfl rfl (by decide) fkM_7 rfl dM_start_14 ?_
        refine J_iload_n C 2 dM_start_17 rfl rfl ?_
        refine J_iload_n C 2 dM_start_18 rfl rfl ?_
        refine J_iastN C (ws' := [((h), .inr (5, [.int (nI (0)), .int (nI (k)), .ref (m1), .int (nI (st)), .ref (m2), .ref (m3), .ref (m4), .int (nI (mn)), .ref (m5), .ref (m6), .ref (m7), .ref (m8), .ref (m9), .ref (ma), .ref (mb)])), kI E (m1) (16) (upN f i i)]) 1 rfl (by omega) (by omega) dM_start_19 rfl ?_
        refine J_iinc C (lv' := [(0, .ref (h)), (1, .int (nI (k))), (2, .int (nI (i + 1)))]) 2 [1, 2, 0] dM_start_20 rfl (jn_inc _) (by decide) rfl ?_
        refine J_goto C 7 dM_start_23 (by decide) ?_
        exact ih_7 (i + 1) (upN f i i) (by omega) (cp_s (t := fun j => j) hf) (by omega)
  exact lp_7 (17) 0 to (by omega) (by intro j; simp) (by omega)
set_option maxHeartbeats 4000000 in
set_option maxRecDepth 100000 in
theorem c_M_begin_t (E : jE) (l : Launch) (h : Nat) (n : Nat) (st : Nat) (mn : Nat) (m1 : Nat) (m2 : Nat) (m3 : Nat) (m4 : Nat) (m5 : Nat) (m6 : Nat) (m7 : Nat) (m8 : Nat) (m9 : Nat) (ma : Nat) (mb : Nat) (to : Nat → Nat) (k : Nat) (hk1 : 1 ≤ k) (hk4 : k ≤ 4) : Con E l yM_begin bM_begin 2 (some .boolean) { frames := 1, cells := 0, slots := 0, locals := 22 } [.ref (h), .int (nI (k))] [((h), .inr (5, [.int (nI (0)), .int (nI (n)), .ref (m1), .int (nI (st)), .ref (m2), .ref (m3), .ref (m4), .int (nI (mn)), .ref (m5), .ref (m6), .ref (m7), .ref (m8), .ref (m9), .ref (ma), .ref (mb)])), kI E (m1) (16) (to)] (fun r w => r = some (.int (nI 1)) ∧ w = [((h), .inr (5, [.int (nI (0)), .int (nI (k)), .ref (m1), .int (nI (st)), .ref (m2), .ref (m3), .ref (m4), .int (nI (mn)), .ref (m5), .ref (m6), .ref (m7), .ref (m8), .ref (m9), .ref (ma), .ref (mb)])), kI E (m1) (16) (fun j => j)]) := by
  refine Con.ofZ (by decide) (Nat.le_of_ble_eq_true rfl) ?_
  intro J C hret
  show J 0 [(0, .ref (h)), (1, .int (nI (k)))] [] [((h), .inr (5, [.int (nI (0)), .int (nI (n)), .ref (m1), .int (nI (st)), .ref (m2), .ref (m3), .ref (m4), .int (nI (mn)), .ref (m5), .ref (m6), .ref (m7), .ref (m8), .ref (m9), .ref (ma), .ref (mb)])), kI E (m1) (16) (to)] 0 0
  refine J_aload_n C 0 dM_begin_0 rfl rfl ?_
  refine J_iconst C (v := nI (0)) dM_begin_1 (by decide) ?_
  refine J_put C (ws' := [((h), .inr (5, [.int (nI (0)), .int (nI (n)), .ref (m1), .int (nI (st)), .ref (m2), .ref (m3), .ref (m4), .int (nI (mn)), .ref (m5), .ref (m6), .ref (m7), .ref (m8), .ref (m9), .ref (ma), .ref (mb)])), kI E (m1) (16) (to)]) 0 0 tyM hinM tyokM nmM rfl rfl (by decide) fkM_53 rfl rfl rfl (Nat.le_of_ble_eq_true rfl) dM_begin_2 rfl ?_
  refine J_iload_n C 1 dM_begin_5 rfl rfl ?_
  refine J_iconst C (v := nI (1)) dM_begin_6 (by decide) ?_
  refine J_icmp_lt C 15 (nI_toInt (n := k) (by omega)) (nI_toInt (n := 1) (by decide)) dM_begin_7 (by decide) (fun h7 => ?_) (fun h7 => ?_)
  · exfalso; omega
  · refine J_iload_n C 1 dM_begin_10 rfl rfl ?_
    refine J_iconst C (v := nI (4)) dM_begin_11 (by decide) ?_
    refine J_icmp_le C 17 (nI_toInt (n := k) (by omega)) (nI_toInt (n := 4) (by decide)) dM_begin_12 (by decide) (fun h12 => ?_) (fun h12 => ?_)
    · refine J_aload_n C 0 dM_begin_17 rfl rfl ?_
      refine J_iload_n C 1 dM_begin_18 rfl rfl ?_
      refine J_callV C (rest := []) [] [((h), .inr (5, [.int (nI (0)), .int (nI (n)), .ref (m1), .int (nI (st)), .ref (m2), .ref (m3), .ref (m4), .int (nI (mn)), .ref (m5), .ref (m6), .ref (m7), .ref (m8), .ref (m9), .ref (ma), .ref (mb)])), kI E (m1) (16) (to)] [] 0 (c_M_start E l h n st mn m1 m2 m3 m4 m5 m6 m7 m8 m9 ma mb to k) mmM_start msM_start lkM_45 rfl rfl (rfl) rfl rfl ⟨by decide, by decide⟩ ⟨by decide, by decide⟩ (Nat.le_of_ble_eq_true rfl) dM_begin_19 (fun r_c w_c hp => ?_)
      obtain ⟨rfl, rfl⟩ := hp
      refine J_norm C (st' := []) (ws' := [((h), .inr (5, [.int (nI (0)), .int (nI (k)), .ref (m1), .int (nI (st)), .ref (m2), .ref (m3), .ref (m4), .int (nI (mn)), .ref (m5), .ref (m6), .ref (m7), .ref (m8), .ref (m9), .ref (ma), .ref (mb)])), kI E (m1) (16) (fun j => j)]) (cs' := 0) (ss' := 0) rfl (rfl) rfl rfl ?_
      refine J_iconst C (v := nI (1)) dM_begin_22 (by decide) ?_
      exact hret _ _ _ _ _ _ dM_begin_23 (by decide) (by decide) (by decide) (⟨rfl, rfl⟩)
    · exfalso; omega
set_option maxHeartbeats 4000000 in
set_option maxRecDepth 100000 in
theorem c_M_begin_f (E : jE) (l : Launch) (h : Nat) (n : Nat) (st : Nat) (mn : Nat) (m1 : Nat) (m2 : Nat) (m3 : Nat) (m4 : Nat) (m5 : Nat) (m6 : Nat) (m7 : Nat) (m8 : Nat) (m9 : Nat) (ma : Nat) (mb : Nat) (x : Int32) (hx : x.toInt < 1 ∨ 4 < x.toInt) : Con E l yM_begin bM_begin 2 (some .boolean) { frames := 0, cells := 0, slots := 0, locals := 0 } [.ref (h), .int (x)] [((h), .inr (5, [.int (nI (0)), .int (nI (n)), .ref (m1), .int (nI (st)), .ref (m2), .ref (m3), .ref (m4), .int (nI (mn)), .ref (m5), .ref (m6), .ref (m7), .ref (m8), .ref (m9), .ref (ma), .ref (mb)]))] (fun r w => r = some (.int (nI 0)) ∧ w = [((h), .inr (5, [.int (nI (0)), .int (nI (n)), .ref (m1), .int (nI (st)), .ref (m2), .ref (m3), .ref (m4), .int (nI (mn)), .ref (m5), .ref (m6), .ref (m7), .ref (m8), .ref (m9), .ref (ma), .ref (mb)]))]) := by
  refine Con.ofZ (by decide) (Nat.le_of_ble_eq_true rfl) ?_
  intro J C hret
  show J 0 [(0, .ref (h)), (1, .int (x))] [] [((h), .inr (5, [.int (nI (0)), .int (nI (n)), .ref (m1), .int (nI (st)), .ref (m2), .ref (m3), .ref (m4), .int (nI (mn)), .ref (m5), .ref (m6), .ref (m7), .ref (m8), .ref (m9), .ref (ma), .ref (mb)]))] 0 0
  refine J_aload_n C 0 dM_begin_0 rfl rfl ?_
  refine J_iconst C (v := nI (0)) dM_begin_1 (by decide) ?_
  refine J_put C (ws' := [((h), .inr (5, [.int (nI (0)), .int (nI (n)), .ref (m1), .int (nI (st)), .ref (m2), .ref (m3), .ref (m4), .int (nI (mn)), .ref (m5), .ref (m6), .ref (m7), .ref (m8), .ref (m9), .ref (ma), .ref (mb)]))]) 0 0 tyM hinM tyokM nmM rfl rfl (by decide) fkM_53 rfl rfl rfl (Nat.le_of_ble_eq_true rfl) dM_begin_2 rfl ?_
  refine J_iload_n C 1 dM_begin_5 rfl rfl ?_
  refine J_iconst C (v := nI (1)) dM_begin_6 (by decide) ?_
  refine J_icmp_lt C 15 rfl (nI_toInt (n := 1) (by decide)) dM_begin_7 (by decide) (fun h7 => ?_) (fun h7 => ?_)
  · refine J_iconst C (v := nI (0)) dM_begin_15 (by decide) ?_
    exact hret _ _ _ _ _ _ dM_begin_16 (by decide) (by decide) (by decide) (⟨rfl, rfl⟩)
  · refine J_iload_n C 1 dM_begin_10 rfl rfl ?_
    refine J_iconst C (v := nI (4)) dM_begin_11 (by decide) ?_
    refine J_icmp_le C 17 rfl (nI_toInt (n := 4) (by decide)) dM_begin_12 (by decide) (fun h12 => ?_) (fun h12 => ?_)
    · exfalso; omega
    · refine J_iconst C (v := nI (0)) dM_begin_15 (by decide) ?_
      exact hret _ _ _ _ _ _ dM_begin_16 (by decide) (by decide) (by decide) (⟨rfl, rfl⟩)
set_option maxHeartbeats 4000000 in
set_option maxRecDepth 100000 in
theorem c_M_put_t (E : jE) (l : Launch) (h : Nat) (n : Nat) (st : Nat) (mn : Nat) (m1 : Nat) (m2 : Nat) (m3 : Nat) (m4 : Nat) (m5 : Nat) (m6 : Nat) (m7 : Nat) (m8 : Nat) (m9 : Nat) (ma : Nat) (mb : Nat) (to : Nat → Nat) (k : Nat) (u : Nat) (hn1 : 1 ≤ n) (hn4 : n ≤ 4) (hk : k < 2 ^ n) (hu : u < 2 ^ n) : Con E l yM_put bM_put 3 (some .boolean) { frames := 2, cells := 0, slots := 0, locals := 41 } [.ref (h), .int (nI (k)), .int (nI (u))] [((h), .inr (5, [.int (nI (0)), .int (nI (n)), .ref (m1), .int (nI (st)), .ref (m2), .ref (m3), .ref (m4), .int (nI (mn)), .ref (m5), .ref (m6), .ref (m7), .ref (m8), .ref (m9), .ref (ma), .ref (mb)])), kI E (m1) (16) (to)] (fun r w => r = some (.int (nI 1)) ∧ w = [((h), .inr (5, [.int (nI (0)), .int (nI (n)), .ref (m1), .int (nI (st)), .ref (m2), .ref (m3), .ref (m4), .int (nI (mn)), .ref (m5), .ref (m6), .ref (m7), .ref (m8), .ref (m9), .ref (ma), .ref (mb)])), kI E (m1) (16) (upN to k u)]) := by
  refine Con.ofZ (by decide) (Nat.le_of_ble_eq_true rfl) ?_
  intro J C hret
  show J 0 [(0, .ref (h)), (1, .int (nI (k))), (2, .int (nI (u)))] [] [((h), .inr (5, [.int (nI (0)), .int (nI (n)), .ref (m1), .int (nI (st)), .ref (m2), .ref (m3), .ref (m4), .int (nI (mn)), .ref (m5), .ref (m6), .ref (m7), .ref (m8), .ref (m9), .ref (ma), .ref (mb)])), kI E (m1) (16) (to)] 0 0
  have hp16 := p16 hn4
  have hp1 := p1 n
  refine J_aload_n C 0 dM_put_0 rfl rfl ?_
  refine J_iconst C (v := nI (0)) dM_put_1 (by decide) ?_
  refine J_put C (ws' := [((h), .inr (5, [.int (nI (0)), .int (nI (n)), .ref (m1), .int (nI (st)), .ref (m2), .ref (m3), .ref (m4), .int (nI (mn)), .ref (m5), .ref (m6), .ref (m7), .ref (m8), .ref (m9), .ref (ma), .ref (mb)])), kI E (m1) (16) (to)]) 0 0 tyM hinM tyokM nmM rfl rfl (by decide) fkM_53 rfl rfl rfl (Nat.le_of_ble_eq_true rfl) dM_put_2 rfl ?_
  refine J_aload_n C 0 dM_put_5 rfl rfl ?_
  refine J_iload_n C 1 dM_put_6 rfl rfl ?_
  refine J_callV C (rest := []) [] [((h), .inr (5, [.int (nI (0)), .int (nI (n)), .ref (m1), .int (nI (st)), .ref (m2), .ref (m3), .ref (m4), .int (nI (mn)), .ref (m5), .ref (m6), .ref (m7), .ref (m8), .ref (m9), .ref (ma), .ref (mb)]))] [kI E (m1) (16) (to)] 0 (c_M_isValue_t E l h n st mn m1 m2 m3 m4 m5 m6 m7 m8 m9 ma mb k (by omega) (by omega) (by omega)) mmM_isValue msM_isValue lkM_63 rfl rfl (rfl) rfl rfl ⟨by decide, by decide⟩ ⟨by decide, by decide⟩ (Nat.le_of_ble_eq_true rfl) dM_put_7 (fun r_c w_c hp => ?_)
  obtain ⟨rfl, rfl⟩ := hp
  refine J_norm C (st' := [.int (nI (1))]) (ws' := [((h), .inr (5, [.int (nI (0)), .int (nI (n)), .ref (m1), .int (nI (st)), .ref (m2), .ref (m3), .ref (m4), .int (nI (mn)), .ref (m5), .ref (m6), .ref (m7), .ref (m8), .ref (m9), .ref (ma), .ref (mb)])), kI E (m1) (16) (to)]) (cs' := 0) (ss' := 0) rfl (rfl) rfl rfl ?_
  refine J_if_eq C 21 (nI_toInt (n := 1) (by decide)) dM_put_10 (by decide) (fun h10 => ?_) (fun h10 => ?_)
  · exfalso; omega
  · refine J_aload_n C 0 dM_put_13 rfl rfl ?_
    refine J_iload_n C 2 dM_put_14 rfl rfl ?_
    refine J_callV C (rest := []) [] [((h), .inr (5, [.int (nI (0)), .int (nI (n)), .ref (m1), .int (nI (st)), .ref (m2), .ref (m3), .ref (m4), .int (nI (mn)), .ref (m5), .ref (m6), .ref (m7), .ref (m8), .ref (m9), .ref (ma), .ref (mb)]))] [kI E (m1) (16) (to)] 0 (c_M_isValue_t E l h n st mn m1 m2 m3 m4 m5 m6 m7 m8 m9 ma mb u (by omega) (by omega) (by omega)) mmM_isValue msM_isValue lkM_63 rfl rfl (rfl) rfl rfl ⟨by decide, by decide⟩ ⟨by decide, by decide⟩ (Nat.le_of_ble_eq_true rfl) dM_put_15 (fun r_c w_c hp => ?_)
    obtain ⟨rfl, rfl⟩ := hp
    refine J_norm C (st' := [.int (nI (1))]) (ws' := [((h), .inr (5, [.int (nI (0)), .int (nI (n)), .ref (m1), .int (nI (st)), .ref (m2), .ref (m3), .ref (m4), .int (nI (mn)), .ref (m5), .ref (m6), .ref (m7), .ref (m8), .ref (m9), .ref (ma), .ref (mb)])), kI E (m1) (16) (to)]) (cs' := 0) (ss' := 0) rfl (rfl) rfl rfl ?_
    refine J_if_ne C 23 (nI_toInt (n := 1) (by decide)) dM_put_18 (by decide) (fun h18 => ?_) (fun h18 => ?_)
    · refine J_aload_n C 0 dM_put_23 rfl rfl ?_
      refine J_get C 0 2 hinM rfl rfl (by decide) fkM_7 rfl dM_put_24 ?_
      refine J_iload_n C 1 dM_put_27 rfl rfl ?_
      refine J_iload_n C 2 dM_put_28 rfl rfl ?_
      refine J_iastN C (ws' := [((h), .inr (5, [.int (nI (0)), .int (nI (n)), .ref (m1), .int (nI (st)), .ref (m2), .ref (m3), .ref (m4), .int (nI (mn)), .ref (m5), .ref (m6), .ref (m7), .ref (m8), .ref (m9), .ref (ma), .ref (mb)])), kI E (m1) (16) (upN to k u)]) 1 rfl (by omega) (by omega) dM_put_29 rfl ?_
      refine J_iconst C (v := nI (1)) dM_put_30 (by decide) ?_
      exact hret _ _ _ _ _ _ dM_put_31 (by decide) (by decide) (by decide) (⟨rfl, rfl⟩)
    · exfalso; omega
set_option maxHeartbeats 4000000 in
set_option maxRecDepth 100000 in
theorem c_M_put_f1 (E : jE) (l : Launch) (h : Nat) (n : Nat) (st : Nat) (mn : Nat) (m1 : Nat) (m2 : Nat) (m3 : Nat) (m4 : Nat) (m5 : Nat) (m6 : Nat) (m7 : Nat) (m8 : Nat) (m9 : Nat) (ma : Nat) (mb : Nat) (x : Int32) (z : Int32) (hn1 : 1 ≤ n) (hn4 : n ≤ 4) (hx : x.toInt < 0 ∨ ((2 ^ n : Nat) : Int) ≤ x.toInt) : Con E l yM_put bM_put 3 (some .boolean) { frames := 2, cells := 0, slots := 0, locals := 41 } [.ref (h), .int (x), .int (z)] [((h), .inr (5, [.int (nI (0)), .int (nI (n)), .ref (m1), .int (nI (st)), .ref (m2), .ref (m3), .ref (m4), .int (nI (mn)), .ref (m5), .ref (m6), .ref (m7), .ref (m8), .ref (m9), .ref (ma), .ref (mb)]))] (fun r w => r = some (.int (nI 0)) ∧ w = [((h), .inr (5, [.int (nI (0)), .int (nI (n)), .ref (m1), .int (nI (st)), .ref (m2), .ref (m3), .ref (m4), .int (nI (mn)), .ref (m5), .ref (m6), .ref (m7), .ref (m8), .ref (m9), .ref (ma), .ref (mb)]))]) := by
  refine Con.ofZ (by decide) (Nat.le_of_ble_eq_true rfl) ?_
  intro J C hret
  show J 0 [(0, .ref (h)), (1, .int (x)), (2, .int (z))] [] [((h), .inr (5, [.int (nI (0)), .int (nI (n)), .ref (m1), .int (nI (st)), .ref (m2), .ref (m3), .ref (m4), .int (nI (mn)), .ref (m5), .ref (m6), .ref (m7), .ref (m8), .ref (m9), .ref (ma), .ref (mb)]))] 0 0
  have hp16 := p16 hn4
  have hp1 := p1 n
  refine J_aload_n C 0 dM_put_0 rfl rfl ?_
  refine J_iconst C (v := nI (0)) dM_put_1 (by decide) ?_
  refine J_put C (ws' := [((h), .inr (5, [.int (nI (0)), .int (nI (n)), .ref (m1), .int (nI (st)), .ref (m2), .ref (m3), .ref (m4), .int (nI (mn)), .ref (m5), .ref (m6), .ref (m7), .ref (m8), .ref (m9), .ref (ma), .ref (mb)]))]) 0 0 tyM hinM tyokM nmM rfl rfl (by decide) fkM_53 rfl rfl rfl (Nat.le_of_ble_eq_true rfl) dM_put_2 rfl ?_
  refine J_aload_n C 0 dM_put_5 rfl rfl ?_
  refine J_iload_n C 1 dM_put_6 rfl rfl ?_
  refine J_callV C (rest := []) [] [((h), .inr (5, [.int (nI (0)), .int (nI (n)), .ref (m1), .int (nI (st)), .ref (m2), .ref (m3), .ref (m4), .int (nI (mn)), .ref (m5), .ref (m6), .ref (m7), .ref (m8), .ref (m9), .ref (ma), .ref (mb)]))] [] 0 (c_M_isValue_f E l h n st mn m1 m2 m3 m4 m5 m6 m7 m8 m9 ma mb x (by omega) (by omega) (by omega)) mmM_isValue msM_isValue lkM_63 rfl rfl (rfl) rfl rfl ⟨by decide, by decide⟩ ⟨by decide, by decide⟩ (Nat.le_of_ble_eq_true rfl) dM_put_7 (fun r_c w_c hp => ?_)
  obtain ⟨rfl, rfl⟩ := hp
  refine J_norm C (st' := [.int (nI (0))]) (ws' := [((h), .inr (5, [.int (nI (0)), .int (nI (n)), .ref (m1), .int (nI (st)), .ref (m2), .ref (m3), .ref (m4), .int (nI (mn)), .ref (m5), .ref (m6), .ref (m7), .ref (m8), .ref (m9), .ref (ma), .ref (mb)]))]) (cs' := 0) (ss' := 0) rfl (rfl) rfl rfl ?_
  refine J_if_eq C 21 (nI_toInt (n := 0) (by decide)) dM_put_10 (by decide) (fun h10 => ?_) (fun h10 => ?_)
  · refine J_iconst C (v := nI (0)) dM_put_21 (by decide) ?_
    exact hret _ _ _ _ _ _ dM_put_22 (by decide) (by decide) (by decide) (⟨rfl, rfl⟩)
  · exfalso; omega
set_option maxHeartbeats 4000000 in
set_option maxRecDepth 100000 in
theorem c_M_put_f2 (E : jE) (l : Launch) (h : Nat) (n : Nat) (st : Nat) (mn : Nat) (m1 : Nat) (m2 : Nat) (m3 : Nat) (m4 : Nat) (m5 : Nat) (m6 : Nat) (m7 : Nat) (m8 : Nat) (m9 : Nat) (ma : Nat) (mb : Nat) (k : Nat) (z : Int32) (hn1 : 1 ≤ n) (hn4 : n ≤ 4) (hk : k < 2 ^ n) (hx : z.toInt < 0 ∨ ((2 ^ n : Nat) : Int) ≤ z.toInt) : Con E l yM_put bM_put 3 (some .boolean) { frames := 2, cells := 0, slots := 0, locals := 41 } [.ref (h), .int (nI (k)), .int (z)] [((h), .inr (5, [.int (nI (0)), .int (nI (n)), .ref (m1), .int (nI (st)), .ref (m2), .ref (m3), .ref (m4), .int (nI (mn)), .ref (m5), .ref (m6), .ref (m7), .ref (m8), .ref (m9), .ref (ma), .ref (mb)]))] (fun r w => r = some (.int (nI 0)) ∧ w = [((h), .inr (5, [.int (nI (0)), .int (nI (n)), .ref (m1), .int (nI (st)), .ref (m2), .ref (m3), .ref (m4), .int (nI (mn)), .ref (m5), .ref (m6), .ref (m7), .ref (m8), .ref (m9), .ref (ma), .ref (mb)]))]) := by
  refine Con.ofZ (by decide) (Nat.le_of_ble_eq_true rfl) ?_
  intro J C hret
  show J 0 [(0, .ref (h)), (1, .int (nI (k))), (2, .int (z))] [] [((h), .inr (5, [.int (nI (0)), .int (nI (n)), .ref (m1), .int (nI (st)), .ref (m2), .ref (m3), .ref (m4), .int (nI (mn)), .ref (m5), .ref (m6), .ref (m7), .ref (m8), .ref (m9), .ref (ma), .ref (mb)]))] 0 0
  have hp16 := p16 hn4
  have hp1 := p1 n
  refine J_aload_n C 0 dM_put_0 rfl rfl ?_
  refine J_iconst C (v := nI (0)) dM_put_1 (by decide) ?_
  refine J_put C (ws' := [((h), .inr (5, [.int (nI (0)), .int (nI (n)), .ref (m1), .int (nI (st)), .ref (m2), .ref (m3), .ref (m4), .int (nI (mn)), .ref (m5), .ref (m6), .ref (m7), .ref (m8), .ref (m9), .ref (ma), .ref (mb)]))]) 0 0 tyM hinM tyokM nmM rfl rfl (by decide) fkM_53 rfl rfl rfl (Nat.le_of_ble_eq_true rfl) dM_put_2 rfl ?_
  refine J_aload_n C 0 dM_put_5 rfl rfl ?_
  refine J_iload_n C 1 dM_put_6 rfl rfl ?_
  refine J_callV C (rest := []) [] [((h), .inr (5, [.int (nI (0)), .int (nI (n)), .ref (m1), .int (nI (st)), .ref (m2), .ref (m3), .ref (m4), .int (nI (mn)), .ref (m5), .ref (m6), .ref (m7), .ref (m8), .ref (m9), .ref (ma), .ref (mb)]))] [] 0 (c_M_isValue_t E l h n st mn m1 m2 m3 m4 m5 m6 m7 m8 m9 ma mb k (by omega) (by omega) (by omega)) mmM_isValue msM_isValue lkM_63 rfl rfl (rfl) rfl rfl ⟨by decide, by decide⟩ ⟨by decide, by decide⟩ (Nat.le_of_ble_eq_true rfl) dM_put_7 (fun r_c w_c hp => ?_)
  obtain ⟨rfl, rfl⟩ := hp
  refine J_norm C (st' := [.int (nI (1))]) (ws' := [((h), .inr (5, [.int (nI (0)), .int (nI (n)), .ref (m1), .int (nI (st)), .ref (m2), .ref (m3), .ref (m4), .int (nI (mn)), .ref (m5), .ref (m6), .ref (m7), .ref (m8), .ref (m9), .ref (ma), .ref (mb)]))]) (cs' := 0) (ss' := 0) rfl (rfl) rfl rfl ?_
  refine J_if_eq C 21 (nI_toInt (n := 1) (by decide)) dM_put_10 (by decide) (fun h10 => ?_) (fun h10 => ?_)
  · exfalso; omega
  · refine J_aload_n C 0 dM_put_13 rfl rfl ?_
    refine J_iload_n C 2 dM_put_14 rfl rfl ?_
    refine J_callV C (rest := []) [] [((h), .inr (5, [.int (nI (0)), .int (nI (n)), .ref (m1), .int (nI (st)), .ref (m2), .ref (m3), .ref (m4), .int (nI (mn)), .ref (m5), .ref (m6), .ref (m7), .ref (m8), .ref (m9), .ref (ma), .ref (mb)]))] [] 0 (c_M_isValue_f E l h n st mn m1 m2 m3 m4 m5 m6 m7 m8 m9 ma mb z (by omega) (by omega) (by omega)) mmM_isValue msM_isValue lkM_63 rfl rfl (rfl) rfl rfl ⟨by decide, by decide⟩ ⟨by decide, by decide⟩ (Nat.le_of_ble_eq_true rfl) dM_put_15 (fun r_c w_c hp => ?_)
    obtain ⟨rfl, rfl⟩ := hp
    refine J_norm C (st' := [.int (nI (0))]) (ws' := [((h), .inr (5, [.int (nI (0)), .int (nI (n)), .ref (m1), .int (nI (st)), .ref (m2), .ref (m3), .ref (m4), .int (nI (mn)), .ref (m5), .ref (m6), .ref (m7), .ref (m8), .ref (m9), .ref (ma), .ref (mb)]))]) (cs' := 0) (ss' := 0) rfl (rfl) rfl rfl ?_
    refine J_if_ne C 23 (nI_toInt (n := 0) (by decide)) dM_put_18 (by decide) (fun h18 => ?_) (fun h18 => ?_)
    · exfalso; omega
    · refine J_iconst C (v := nI (0)) dM_put_21 (by decide) ?_
      exact hret _ _ _ _ _ _ dM_put_22 (by decide) (by decide) (by decide) (⟨rfl, rfl⟩)
set_option maxHeartbeats 4000000 in
set_option maxRecDepth 100000 in
theorem c_M_changed (E : jE) (l : Launch) (x : Nat) (a : Nat) (c : Nat) (hx : x < 16) (ha : a < 4) (hc : c < 16) : Con E l yM_changed bM_changed 3 (some .int) { frames := 0, cells := 0, slots := 0, locals := 0 } [.int (nI (x)), .int (nI (a)), .int (nI (c))] [] (fun r w => r = some (.int (nI (chg x a c))) ∧ w = []) := by
  refine Con.ofI (by decide) (Nat.le_of_ble_eq_true rfl) ?_
  intro J C hret
  show J 0 [(0, .int (nI (x))), (1, .int (nI (a))), (2, .int (nI (c)))] [] [] 0 0
  refine J_iload_n C 0 dM_changed_0 rfl rfl ?_
  refine J_iload_n C 2 dM_changed_1 rfl rfl ?_
  refine J_iandN C dM_changed_2 ?_
  refine J_iload_n C 2 dM_changed_3 rfl rfl ?_
  refine J_icmp_ne C 15 (nI_toInt (n := x &&& c) (by have := Nat.and_le_right (n := x) (m := c); omega)) (nI_toInt (n := c) (by omega)) dM_changed_4 (by decide) (fun h4 => ?_) (fun h4 => ?_)
  · have e : chg x a c = x := by unfold chg; rw [if_neg (by omega)]
    refine J_iload_n C 0 dM_changed_15 rfl rfl ?_
    exact hret _ _ _ _ _ _ dM_changed_16 (by decide) (by decide) (⟨by rw [e], rfl⟩)
  · have e : chg x a c = x ^^^ 2 ^ a := by unfold chg; rw [if_pos (by omega)]
    refine J_iload_n C 0 dM_changed_7 rfl rfl ?_
    refine J_iconst C (v := nI (1)) dM_changed_8 (by decide) ?_
    refine J_iload_n C 1 dM_changed_9 rfl rfl ?_
    refine J_ishl1 C dM_changed_10 (by omega) ?_
    refine J_ixorN C dM_changed_11 ?_
    refine J_goto C 16 dM_changed_12 (by decide) ?_
    exact hret _ _ _ _ _ _ dM_changed_16 (by decide) (by decide) (⟨by rw [e], rfl⟩)
set_option maxHeartbeats 4000000 in
set_option maxRecDepth 100000 in
theorem c_M_look_t (E : jE) (l : Launch) (h : Nat) (n : Nat) (st : Nat) (mn : Nat) (m1 : Nat) (m2 : Nat) (m3 : Nat) (m4 : Nat) (m5 : Nat) (m6 : Nat) (m7 : Nat) (m8 : Nat) (m9 : Nat) (ma : Nat) (mb : Nat) (to : Nat → Nat) (k : Nat) (hn1 : 1 ≤ n) (hn4 : n ≤ 4) (hk : k < 2 ^ n) : Con E l yM_look bM_look 2 (some .int) { frames := 2, cells := 0, slots := 0, locals := 41 } [.ref (h), .int (nI (k))] [((h), .inr (5, [.int (nI (0)), .int (nI (n)), .ref (m1), .int (nI (st)), .ref (m2), .ref (m3), .ref (m4), .int (nI (mn)), .ref (m5), .ref (m6), .ref (m7), .ref (m8), .ref (m9), .ref (ma), .ref (mb)])), kI E (m1) (16) (to)] (fun r w => r = some (.int (nI (to k))) ∧ w = [((h), .inr (5, [.int (nI (0)), .int (nI (n)), .ref (m1), .int (nI (st)), .ref (m2), .ref (m3), .ref (m4), .int (nI (mn)), .ref (m5), .ref (m6), .ref (m7), .ref (m8), .ref (m9), .ref (ma), .ref (mb)])), kI E (m1) (16) (to)]) := by
  refine Con.ofI (by decide) (Nat.le_of_ble_eq_true rfl) ?_
  intro J C hret
  show J 0 [(0, .ref (h)), (1, .int (nI (k)))] [] [((h), .inr (5, [.int (nI (0)), .int (nI (n)), .ref (m1), .int (nI (st)), .ref (m2), .ref (m3), .ref (m4), .int (nI (mn)), .ref (m5), .ref (m6), .ref (m7), .ref (m8), .ref (m9), .ref (ma), .ref (mb)])), kI E (m1) (16) (to)] 0 0
  have hp16 := p16 hn4
  have hp1 := p1 n
  refine J_aload_n C 0 dM_look_0 rfl rfl ?_
  refine J_iconst C (v := nI (0)) dM_look_1 (by decide) ?_
  refine J_put C (ws' := [((h), .inr (5, [.int (nI (0)), .int (nI (n)), .ref (m1), .int (nI (st)), .ref (m2), .ref (m3), .ref (m4), .int (nI (mn)), .ref (m5), .ref (m6), .ref (m7), .ref (m8), .ref (m9), .ref (ma), .ref (mb)])), kI E (m1) (16) (to)]) 0 0 tyM hinM tyokM nmM rfl rfl (by decide) fkM_53 rfl rfl rfl (Nat.le_of_ble_eq_true rfl) dM_look_2 rfl ?_
  refine J_aload_n C 0 dM_look_5 rfl rfl ?_
  refine J_iload_n C 1 dM_look_6 rfl rfl ?_
  refine J_callV C (rest := []) [] [((h), .inr (5, [.int (nI (0)), .int (nI (n)), .ref (m1), .int (nI (st)), .ref (m2), .ref (m3), .ref (m4), .int (nI (mn)), .ref (m5), .ref (m6), .ref (m7), .ref (m8), .ref (m9), .ref (ma), .ref (mb)]))] [kI E (m1) (16) (to)] 0 (c_M_isValue_t E l h n st mn m1 m2 m3 m4 m5 m6 m7 m8 m9 ma mb k (by omega) (by omega) (by omega)) mmM_isValue msM_isValue lkM_63 rfl rfl (rfl) rfl rfl ⟨by decide, by decide⟩ ⟨by decide, by decide⟩ (Nat.le_of_ble_eq_true rfl) dM_look_7 (fun r_c w_c hp => ?_)
  obtain ⟨rfl, rfl⟩ := hp
  refine J_norm C (st' := [.int (nI (1))]) (ws' := [((h), .inr (5, [.int (nI (0)), .int (nI (n)), .ref (m1), .int (nI (st)), .ref (m2), .ref (m3), .ref (m4), .int (nI (mn)), .ref (m5), .ref (m6), .ref (m7), .ref (m8), .ref (m9), .ref (ma), .ref (mb)])), kI E (m1) (16) (to)]) (cs' := 0) (ss' := 0) rfl (rfl) rfl rfl ?_
  refine J_if_eq C 22 (nI_toInt (n := 1) (by decide)) dM_look_10 (by decide) (fun h10 => ?_) (fun h10 => ?_)
  · exfalso; omega
  · refine J_aload_n C 0 dM_look_13 rfl rfl ?_
    refine J_get C 0 2 hinM rfl rfl (by decide) fkM_7 rfl dM_look_14 ?_
    refine J_iload_n C 1 dM_look_17 rfl rfl ?_
    refine J_iald C 1 rfl (by omega) (by omega) dM_look_18 ?_
    refine J_goto C 23 dM_look_19 (by decide) ?_
    exact hret _ _ _ _ _ _ dM_look_23 (by decide) (by decide) (⟨rfl, rfl⟩)
set_option maxHeartbeats 4000000 in
set_option maxRecDepth 100000 in
theorem c_M_look_f (E : jE) (l : Launch) (h : Nat) (n : Nat) (st : Nat) (mn : Nat) (m1 : Nat) (m2 : Nat) (m3 : Nat) (m4 : Nat) (m5 : Nat) (m6 : Nat) (m7 : Nat) (m8 : Nat) (m9 : Nat) (ma : Nat) (mb : Nat) (to : Nat → Nat) (x : Int32) (hn1 : 1 ≤ n) (hn4 : n ≤ 4) (hx : x.toInt < 0 ∨ ((2 ^ n : Nat) : Int) ≤ x.toInt) : Con E l yM_look bM_look 2 (some .int) { frames := 2, cells := 0, slots := 0, locals := 41 } [.ref (h), .int (x)] [((h), .inr (5, [.int (nI (0)), .int (nI (n)), .ref (m1), .int (nI (st)), .ref (m2), .ref (m3), .ref (m4), .int (nI (mn)), .ref (m5), .ref (m6), .ref (m7), .ref (m8), .ref (m9), .ref (ma), .ref (mb)])), kI E (m1) (16) (to)] (fun r w => r = some (.int (-1)) ∧ w = [((h), .inr (5, [.int (nI (0)), .int (nI (n)), .ref (m1), .int (nI (st)), .ref (m2), .ref (m3), .ref (m4), .int (nI (mn)), .ref (m5), .ref (m6), .ref (m7), .ref (m8), .ref (m9), .ref (ma), .ref (mb)])), kI E (m1) (16) (to)]) := by
  refine Con.ofI (by decide) (Nat.le_of_ble_eq_true rfl) ?_
  intro J C hret
  show J 0 [(0, .ref (h)), (1, .int (x))] [] [((h), .inr (5, [.int (nI (0)), .int (nI (n)), .ref (m1), .int (nI (st)), .ref (m2), .ref (m3), .ref (m4), .int (nI (mn)), .ref (m5), .ref (m6), .ref (m7), .ref (m8), .ref (m9), .ref (ma), .ref (mb)])), kI E (m1) (16) (to)] 0 0
  have hp16 := p16 hn4
  have hp1 := p1 n
  refine J_aload_n C 0 dM_look_0 rfl rfl ?_
  refine J_iconst C (v := nI (0)) dM_look_1 (by decide) ?_
  refine J_put C (ws' := [((h), .inr (5, [.int (nI (0)), .int (nI (n)), .ref (m1), .int (nI (st)), .ref (m2), .ref (m3), .ref (m4), .int (nI (mn)), .ref (m5), .ref (m6), .ref (m7), .ref (m8), .ref (m9), .ref (ma), .ref (mb)])), kI E (m1) (16) (to)]) 0 0 tyM hinM tyokM nmM rfl rfl (by decide) fkM_53 rfl rfl rfl (Nat.le_of_ble_eq_true rfl) dM_look_2 rfl ?_
  refine J_aload_n C 0 dM_look_5 rfl rfl ?_
  refine J_iload_n C 1 dM_look_6 rfl rfl ?_
  refine J_callV C (rest := []) [] [((h), .inr (5, [.int (nI (0)), .int (nI (n)), .ref (m1), .int (nI (st)), .ref (m2), .ref (m3), .ref (m4), .int (nI (mn)), .ref (m5), .ref (m6), .ref (m7), .ref (m8), .ref (m9), .ref (ma), .ref (mb)]))] [kI E (m1) (16) (to)] 0 (c_M_isValue_f E l h n st mn m1 m2 m3 m4 m5 m6 m7 m8 m9 ma mb x (by omega) (by omega) (by omega)) mmM_isValue msM_isValue lkM_63 rfl rfl (rfl) rfl rfl ⟨by decide, by decide⟩ ⟨by decide, by decide⟩ (Nat.le_of_ble_eq_true rfl) dM_look_7 (fun r_c w_c hp => ?_)
  obtain ⟨rfl, rfl⟩ := hp
  refine J_norm C (st' := [.int (nI (0))]) (ws' := [((h), .inr (5, [.int (nI (0)), .int (nI (n)), .ref (m1), .int (nI (st)), .ref (m2), .ref (m3), .ref (m4), .int (nI (mn)), .ref (m5), .ref (m6), .ref (m7), .ref (m8), .ref (m9), .ref (ma), .ref (mb)])), kI E (m1) (16) (to)]) (cs' := 0) (ss' := 0) rfl (rfl) rfl rfl ?_
  refine J_if_eq C 22 (nI_toInt (n := 0) (by decide)) dM_look_10 (by decide) (fun h10 => ?_) (fun h10 => ?_)
  · refine J_iconst C (v := -1) dM_look_22 (by decide) ?_
    exact hret _ _ _ _ _ _ dM_look_23 (by decide) (by decide) (⟨rfl, rfl⟩)
  · exfalso; omega
set_option maxHeartbeats 4000000 in
set_option maxRecDepth 100000 in
theorem c_M_isPerm_t (E : jE) (l : Launch) (h : Nat) (n : Nat) (st : Nat) (mn : Nat) (m1 : Nat) (m2 : Nat) (m3 : Nat) (m4 : Nat) (m5 : Nat) (m6 : Nat) (m7 : Nat) (m8 : Nat) (m9 : Nat) (ma : Nat) (mb : Nat) (to : Nat → Nat) (hn1 : 1 ≤ n) (hn4 : n ≤ 4) (ht : ∀ v, v < 2 ^ n → to v < 2 ^ n) (hq : sn to (2 ^ n) = 2 ^ 2 ^ n - 1) : Con E l yM_isPermutation bM_isPermutation 3 (some .boolean) { frames := 1, cells := 0, slots := 0, locals := 20 } [.ref (h)] [((h), .inr (5, [.int (nI (0)), .int (nI (n)), .ref (m1), .int (nI (st)), .ref (m2), .ref (m3), .ref (m4), .int (nI (mn)), .ref (m5), .ref (m6), .ref (m7), .ref (m8), .ref (m9), .ref (ma), .ref (mb)])), kI E (m1) (16) (to)] (fun r w => r = some (.int (nI 1)) ∧ w = [((h), .inr (5, [.int (nI (0)), .int (nI (n)), .ref (m1), .int (nI (st)), .ref (m2), .ref (m3), .ref (m4), .int (nI (mn)), .ref (m5), .ref (m6), .ref (m7), .ref (m8), .ref (m9), .ref (ma), .ref (mb)])), kI E (m1) (16) (to)]) := by
  refine Con.ofZ (by decide) (Nat.le_of_ble_eq_true rfl) ?_
  intro J C hret
  show J 0 [(0, .ref (h))] [] [((h), .inr (5, [.int (nI (0)), .int (nI (n)), .ref (m1), .int (nI (st)), .ref (m2), .ref (m3), .ref (m4), .int (nI (mn)), .ref (m5), .ref (m6), .ref (m7), .ref (m8), .ref (m9), .ref (ma), .ref (mb)])), kI E (m1) (16) (to)] 0 0
  have hp16 := p16 hn4
  have hp1 := p1 n
  have hp65 := p65 hn4
  have hpp := p1 (2 ^ n)
  have hsn := sn_lt (t := to) (2 ^ n) (fun j hj => by have := ht j hj; omega)
  refine J_iconst C (v := nI (0)) dM_isPermutation_0 (by decide) ?_
  refine J_istore_n C (lv' := [(0, .ref (h)), (1, .int (nI (0)))]) [1, 0] dM_isPermutation_1 rfl (by decide) rfl ?_
  refine J_iconst C (v := nI (0)) dM_isPermutation_2 (by decide) ?_
  refine J_istore_n C (lv' := [(0, .ref (h)), (1, .int (nI (0))), (2, .int (nI (0)))]) [1, 2, 0] dM_isPermutation_3 rfl (by decide) rfl ?_
  have lp_4 : ∀ (k_4 : Nat) (i : Nat), (i ≤ 2 ^ n) → (2 ^ n - i) < k_4 → J 4 [(0, .ref (h)), (1, .int (nI (sn to i))), (2, .int (nI (i)))] [] [((h), .inr (5, [.int (nI (0)), .int (nI (n)), .ref (m1), .int (nI (st)), .ref (m2), .ref (m3), .ref (m4), .int (nI (mn)), .ref (m5), .ref (m6), .ref (m7), .ref (m8), .ref (m9), .ref (ma), .ref (mb)])), kI E (m1) (16) (to)] (0) (0) := by
    intro k_4
    induction k_4 with
    | zero => intro i hi hk_4; exact absurd hk_4 (Nat.not_lt_zero _)
    | succ k_4 ih_4 =>
      intro i hi hk_4
      refine J_iload_n C 2 dM_isPermutation_4 rfl rfl ?_
      refine J_aload_n C 0 dM_isPermutation_5 rfl rfl ?_
      refine J_callV C (rest := [.int (nI (i))]) [] [((h), .inr (5, [.int (nI (0)), .int (nI (n)), .ref (m1), .int (nI (st)), .ref (m2), .ref (m3), .ref (m4), .int (nI (mn)), .ref (m5), .ref (m6), .ref (m7), .ref (m8), .ref (m9), .ref (ma), .ref (mb)]))] [kI E (m1) (16) (to)] 0 (c_M_values E l h n st mn m1 m2 m3 m4 m5 m6 m7 m8 m9 ma mb (by omega) (by omega)) mmM_values msM_values lkM_59 rfl rfl (rfl) rfl rfl ⟨by decide, by decide⟩ ⟨by decide, by decide⟩ (Nat.le_of_ble_eq_true rfl) dM_isPermutation_6 (fun r_c w_c hp => ?_)
      obtain ⟨rfl, rfl⟩ := hp
      refine J_norm C (st' := [.int (nI (2 ^ n)), .int (nI (i))]) (ws' := [((h), .inr (5, [.int (nI (0)), .int (nI (n)), .ref (m1), .int (nI (st)), .ref (m2), .ref (m3), .ref (m4), .int (nI (mn)), .ref (m5), .ref (m6), .ref (m7), .ref (m8), .ref (m9), .ref (ma), .ref (mb)])), kI E (m1) (16) (to)]) (cs' := 0) (ss' := 0) rfl (rfl) rfl rfl ?_
      refine J_icmp_ge C 29 (nI_toInt (n := i) (by omega)) (nI_toInt (n := 2 ^ n) (by omega)) dM_isPermutation_9 (by decide) (fun h9 => ?_) (fun h9 => ?_)
      · obtain rfl : 2 ^ n = i := by omega
        refine J_iload_n C 1 dM_isPermutation_29 rfl rfl ?_
        refine J_iconst C (v := nI (1)) dM_isPermutation_30 (by decide) ?_
        refine J_aload_n C 0 dM_isPermutation_31 rfl rfl ?_
        refine J_callV C (rest := [.int (nI (1)), .int (nI (sn to (2 ^ n)))]) [] [((h), .inr (5, [.int (nI (0)), .int (nI (n)), .ref (m1), .int (nI (st)), .ref (m2), .ref (m3), .ref (m4), .int (nI (mn)), .ref (m5), .ref (m6), .ref (m7), .ref (m8), .ref (m9), .ref (ma), .ref (mb)]))] [kI E (m1) (16) (to)] 0 (c_M_values E l h n st mn m1 m2 m3 m4 m5 m6 m7 m8 m9 ma mb (by omega) (by omega)) mmM_values msM_values lkM_59 rfl rfl (rfl) rfl rfl ⟨by decide, by decide⟩ ⟨by decide, by decide⟩ (Nat.le_of_ble_eq_true rfl) dM_isPermutation_32 (fun r_c w_c hp => ?_)
        obtain ⟨rfl, rfl⟩ := hp
        refine J_norm C (st' := [.int (nI (2 ^ n)), .int (nI (1)), .int (nI (sn to (2 ^ n)))]) (ws' := [((h), .inr (5, [.int (nI (0)), .int (nI (n)), .ref (m1), .int (nI (st)), .ref (m2), .ref (m3), .ref (m4), .int (nI (mn)), .ref (m5), .ref (m6), .ref (m7), .ref (m8), .ref (m9), .ref (ma), .ref (mb)])), kI E (m1) (16) (to)]) (cs' := 0) (ss' := 0) rfl (rfl) rfl rfl ?_
        refine J_ishl1 C dM_isPermutation_35 (by omega) ?_
        refine J_iconst C (v := nI (1)) dM_isPermutation_36 (by decide) ?_
        refine J_isubN C dM_isPermutation_37 (by omega) ?_
        refine J_icmp_ne C 45 (nI_toInt (n := sn to (2 ^ n)) (by omega)) (nI_toInt (n := (2 ^ (2 ^ n)) - 1) (by omega)) dM_isPermutation_38 (by decide) (fun h38 => ?_) (fun h38 => ?_)
        · exfalso; omega
        · refine J_iconst C (v := nI (1)) dM_isPermutation_41 (by decide) ?_
          refine J_goto C 46 dM_isPermutation_42 (by decide) ?_
          exact hret _ _ _ _ _ _ dM_isPermutation_46 (by decide) (by decide) (by decide) (⟨rfl, rfl⟩)
      · refine J_iload_n C 1 dM_isPermutation_12 rfl rfl ?_
        refine J_iconst C (v := nI (1)) dM_isPermutation_13 (by decide) ?_
        refine J_aload_n C 0 dM_isPermutation_14 rfl rfl ?_
        refine J_get C 0 2 hinM rfl rfl (by decide) fkM_7 rfl dM_isPermutation_15 ?_
        refine J_iload_n C 2 dM_isPermutation_18 rfl rfl ?_
        refine J_iald C 1 rfl (by omega) (by omega) dM_isPermutation_19 ?_
        refine J_ishl1 C dM_isPermutation_20 (by have := ht i (by omega); omega) ?_
        refine J_iorN C dM_isPermutation_21 ?_
        refine J_istore_n C (lv' := [(0, .ref (h)), (1, .int (nI ((sn to i) ||| (2 ^ (to i))))), (2, .int (nI (i)))]) [1, 0, 2] dM_isPermutation_22 rfl (by decide) rfl ?_
        refine J_iinc C (lv' := [(0, .ref (h)), (1, .int (nI ((sn to i) ||| (2 ^ (to i))))), (2, .int (nI (i + 1)))]) 2 [1, 2, 0] dM_isPermutation_23 rfl (jn_inc _) (by decide) rfl ?_
        refine J_goto C 4 dM_isPermutation_26 (by decide) ?_
        exact ih_4 (i + 1) (by omega) (by omega)
  exact lp_4 (2 ^ n + 1) 0 (by omega) (by omega)
set_option maxHeartbeats 4000000 in
set_option maxRecDepth 100000 in
theorem c_M_isPerm_f (E : jE) (l : Launch) (h : Nat) (n : Nat) (st : Nat) (mn : Nat) (m1 : Nat) (m2 : Nat) (m3 : Nat) (m4 : Nat) (m5 : Nat) (m6 : Nat) (m7 : Nat) (m8 : Nat) (m9 : Nat) (ma : Nat) (mb : Nat) (to : Nat → Nat) (hn1 : 1 ≤ n) (hn4 : n ≤ 4) (ht : ∀ v, v < 2 ^ n → to v < 2 ^ n) (hq : sn to (2 ^ n) ≠ 2 ^ 2 ^ n - 1) : Con E l yM_isPermutation bM_isPermutation 3 (some .boolean) { frames := 1, cells := 0, slots := 0, locals := 20 } [.ref (h)] [((h), .inr (5, [.int (nI (0)), .int (nI (n)), .ref (m1), .int (nI (st)), .ref (m2), .ref (m3), .ref (m4), .int (nI (mn)), .ref (m5), .ref (m6), .ref (m7), .ref (m8), .ref (m9), .ref (ma), .ref (mb)])), kI E (m1) (16) (to)] (fun r w => r = some (.int (nI 0)) ∧ w = [((h), .inr (5, [.int (nI (0)), .int (nI (n)), .ref (m1), .int (nI (st)), .ref (m2), .ref (m3), .ref (m4), .int (nI (mn)), .ref (m5), .ref (m6), .ref (m7), .ref (m8), .ref (m9), .ref (ma), .ref (mb)])), kI E (m1) (16) (to)]) := by
  refine Con.ofZ (by decide) (Nat.le_of_ble_eq_true rfl) ?_
  intro J C hret
  show J 0 [(0, .ref (h))] [] [((h), .inr (5, [.int (nI (0)), .int (nI (n)), .ref (m1), .int (nI (st)), .ref (m2), .ref (m3), .ref (m4), .int (nI (mn)), .ref (m5), .ref (m6), .ref (m7), .ref (m8), .ref (m9), .ref (ma), .ref (mb)])), kI E (m1) (16) (to)] 0 0
  have hp16 := p16 hn4
  have hp1 := p1 n
  have hp65 := p65 hn4
  have hpp := p1 (2 ^ n)
  have hsn := sn_lt (t := to) (2 ^ n) (fun j hj => by have := ht j hj; omega)
  refine J_iconst C (v := nI (0)) dM_isPermutation_0 (by decide) ?_
  refine J_istore_n C (lv' := [(0, .ref (h)), (1, .int (nI (0)))]) [1, 0] dM_isPermutation_1 rfl (by decide) rfl ?_
  refine J_iconst C (v := nI (0)) dM_isPermutation_2 (by decide) ?_
  refine J_istore_n C (lv' := [(0, .ref (h)), (1, .int (nI (0))), (2, .int (nI (0)))]) [1, 2, 0] dM_isPermutation_3 rfl (by decide) rfl ?_
  have lp_4 : ∀ (k_4 : Nat) (i : Nat), (i ≤ 2 ^ n) → (2 ^ n - i) < k_4 → J 4 [(0, .ref (h)), (1, .int (nI (sn to i))), (2, .int (nI (i)))] [] [((h), .inr (5, [.int (nI (0)), .int (nI (n)), .ref (m1), .int (nI (st)), .ref (m2), .ref (m3), .ref (m4), .int (nI (mn)), .ref (m5), .ref (m6), .ref (m7), .ref (m8), .ref (m9), .ref (ma), .ref (mb)])), kI E (m1) (16) (to)] (0) (0) := by
    intro k_4
    induction k_4 with
    | zero => intro i hi hk_4; exact absurd hk_4 (Nat.not_lt_zero _)
    | succ k_4 ih_4 =>
      intro i hi hk_4
      refine J_iload_n C 2 dM_isPermutation_4 rfl rfl ?_
      refine J_aload_n C 0 dM_isPermutation_5 rfl rfl ?_
      refine J_callV C (rest := [.int (nI (i))]) [] [((h), .inr (5, [.int (nI (0)), .int (nI (n)), .ref (m1), .int (nI (st)), .ref (m2), .ref (m3), .ref (m4), .int (nI (mn)), .ref (m5), .ref (m6), .ref (m7), .ref (m8), .ref (m9), .ref (ma), .ref (mb)]))] [kI E (m1) (16) (to)] 0 (c_M_values E l h n st mn m1 m2 m3 m4 m5 m6 m7 m8 m9 ma mb (by omega) (by omega)) mmM_values msM_values lkM_59 rfl rfl (rfl) rfl rfl ⟨by decide, by decide⟩ ⟨by decide, by decide⟩ (Nat.le_of_ble_eq_true rfl) dM_isPermutation_6 (fun r_c w_c hp => ?_)
      obtain ⟨rfl, rfl⟩ := hp
      refine J_norm C (st' := [.int (nI (2 ^ n)), .int (nI (i))]) (ws' := [((h), .inr (5, [.int (nI (0)), .int (nI (n)), .ref (m1), .int (nI (st)), .ref (m2), .ref (m3), .ref (m4), .int (nI (mn)), .ref (m5), .ref (m6), .ref (m7), .ref (m8), .ref (m9), .ref (ma), .ref (mb)])), kI E (m1) (16) (to)]) (cs' := 0) (ss' := 0) rfl (rfl) rfl rfl ?_
      refine J_icmp_ge C 29 (nI_toInt (n := i) (by omega)) (nI_toInt (n := 2 ^ n) (by omega)) dM_isPermutation_9 (by decide) (fun h9 => ?_) (fun h9 => ?_)
      · obtain rfl : 2 ^ n = i := by omega
        refine J_iload_n C 1 dM_isPermutation_29 rfl rfl ?_
        refine J_iconst C (v := nI (1)) dM_isPermutation_30 (by decide) ?_
        refine J_aload_n C 0 dM_isPermutation_31 rfl rfl ?_
        refine J_callV C (rest := [.int (nI (1)), .int (nI (sn to (2 ^ n)))]) [] [((h), .inr (5, [.int (nI (0)), .int (nI (n)), .ref (m1), .int (nI (st)), .ref (m2), .ref (m3), .ref (m4), .int (nI (mn)), .ref (m5), .ref (m6), .ref (m7), .ref (m8), .ref (m9), .ref (ma), .ref (mb)]))] [kI E (m1) (16) (to)] 0 (c_M_values E l h n st mn m1 m2 m3 m4 m5 m6 m7 m8 m9 ma mb (by omega) (by omega)) mmM_values msM_values lkM_59 rfl rfl (rfl) rfl rfl ⟨by decide, by decide⟩ ⟨by decide, by decide⟩ (Nat.le_of_ble_eq_true rfl) dM_isPermutation_32 (fun r_c w_c hp => ?_)
        obtain ⟨rfl, rfl⟩ := hp
        refine J_norm C (st' := [.int (nI (2 ^ n)), .int (nI (1)), .int (nI (sn to (2 ^ n)))]) (ws' := [((h), .inr (5, [.int (nI (0)), .int (nI (n)), .ref (m1), .int (nI (st)), .ref (m2), .ref (m3), .ref (m4), .int (nI (mn)), .ref (m5), .ref (m6), .ref (m7), .ref (m8), .ref (m9), .ref (ma), .ref (mb)])), kI E (m1) (16) (to)]) (cs' := 0) (ss' := 0) rfl (rfl) rfl rfl ?_
        refine J_ishl1 C dM_isPermutation_35 (by omega) ?_
        refine J_iconst C (v := nI (1)) dM_isPermutation_36 (by decide) ?_
        refine J_isubN C dM_isPermutation_37 (by omega) ?_
        refine J_icmp_ne C 45 (nI_toInt (n := sn to (2 ^ n)) (by omega)) (nI_toInt (n := (2 ^ (2 ^ n)) - 1) (by omega)) dM_isPermutation_38 (by decide) (fun h38 => ?_) (fun h38 => ?_)
        · refine J_iconst C (v := nI (0)) dM_isPermutation_45 (by decide) ?_
          exact hret _ _ _ _ _ _ dM_isPermutation_46 (by decide) (by decide) (by decide) (⟨rfl, rfl⟩)
        · exfalso; omega
      · refine J_iload_n C 1 dM_isPermutation_12 rfl rfl ?_
        refine J_iconst C (v := nI (1)) dM_isPermutation_13 (by decide) ?_
        refine J_aload_n C 0 dM_isPermutation_14 rfl rfl ?_
        refine J_get C 0 2 hinM rfl rfl (by decide) fkM_7 rfl dM_isPermutation_15 ?_
        refine J_iload_n C 2 dM_isPermutation_18 rfl rfl ?_
        refine J_iald C 1 rfl (by omega) (by omega) dM_isPermutation_19 ?_
        refine J_ishl1 C dM_isPermutation_20 (by have := ht i (by omega); omega) ?_
        refine J_iorN C dM_isPermutation_21 ?_
        refine J_istore_n C (lv' := [(0, .ref (h)), (1, .int (nI ((sn to i) ||| (2 ^ (to i))))), (2, .int (nI (i)))]) [1, 0, 2] dM_isPermutation_22 rfl (by decide) rfl ?_
        refine J_iinc C (lv' := [(0, .ref (h)), (1, .int (nI ((sn to i) ||| (2 ^ (to i))))), (2, .int (nI (i + 1)))]) 2 [1, 2, 0] dM_isPermutation_23 rfl (jn_inc _) (by decide) rfl ?_
        refine J_goto C 4 dM_isPermutation_26 (by decide) ?_
        exact ih_4 (i + 1) (by omega) (by omega)
  exact lp_4 (2 ^ n + 1) 0 (by omega) (by omega)
set_option maxHeartbeats 4000000 in
set_option maxRecDepth 100000 in
theorem c_M_apply_t (E : jE) (l : Launch) (h : Nat) (n : Nat) (st : Nat) (mn : Nat) (m1 : Nat) (m2 : Nat) (m3 : Nat) (m4 : Nat) (m5 : Nat) (m6 : Nat) (m7 : Nat) (m8 : Nat) (m9 : Nat) (ma : Nat) (mb : Nat) (to : Nat → Nat) (a : Nat) (c : Nat) (hn1 : 1 ≤ n) (hn4 : n ≤ 4) (ha : a < n) (hc : c < 2 ^ n) (hb : c.testBit a = false) (ht : ∀ v, v < 2 ^ n → to v < 2 ^ n) : Con E l yM_apply bM_apply 5 (some .boolean) { frames := 2, cells := 0, slots := 0, locals := 41 } [.ref (h), .int (nI (16 * a + c))] [((h), .inr (5, [.int (nI (0)), .int (nI (n)), .ref (m1), .int (nI (st)), .ref (m2), .ref (m3), .ref (m4), .int (nI (mn)), .ref (m5), .ref (m6), .ref (m7), .ref (m8), .ref (m9), .ref (ma), .ref (mb)])), kI E (m1) (16) (to)] (fun r w => r = some (.int (nI 1)) ∧ w = [((h), .inr (5, [.int (nI (0)), .int (nI (n)), .ref (m1), .int (nI (st)), .ref (m2), .ref (m3), .ref (m4), .int (nI (mn)), .ref (m5), .ref (m6), .ref (m7), .ref (m8), .ref (m9), .ref (ma), .ref (mb)])), kI E (m1) (16) (gAp n to a c)]) := by
  refine Con.ofZ (by decide) (Nat.le_of_ble_eq_true rfl) ?_
  intro J C hret
  show J 0 [(0, .ref (h)), (1, .int (nI (16 * a + c)))] [] [((h), .inr (5, [.int (nI (0)), .int (nI (n)), .ref (m1), .int (nI (st)), .ref (m2), .ref (m3), .ref (m4), .int (nI (mn)), .ref (m5), .ref (m6), .ref (m7), .ref (m8), .ref (m9), .ref (ma), .ref (mb)])), kI E (m1) (16) (to)] 0 0
  have hp16 := p16 hn4
  have hp1 := p1 n
  refine J_aload_n C 0 dM_apply_0 rfl rfl ?_
  refine J_iconst C (v := nI (0)) dM_apply_1 (by decide) ?_
  refine J_put C (ws' := [((h), .inr (5, [.int (nI (0)), .int (nI (n)), .ref (m1), .int (nI (st)), .ref (m2), .ref (m3), .ref (m4), .int (nI (mn)), .ref (m5), .ref (m6), .ref (m7), .ref (m8), .ref (m9), .ref (ma), .ref (mb)])), kI E (m1) (16) (to)]) 0 0 tyM hinM tyokM nmM rfl rfl (by decide) fkM_53 rfl rfl rfl (Nat.le_of_ble_eq_true rfl) dM_apply_2 rfl ?_
  refine J_iload_n C 1 dM_apply_5 rfl rfl ?_
  refine J_if_ge C 11 (nI_toInt (n := 16 * a + c) (by omega)) dM_apply_6 (by decide) (fun h6 => ?_) (fun h6 => ?_)
  · refine J_iload_n C 1 dM_apply_11 rfl rfl ?_
    refine J_bipush C (v := nI (16)) dM_apply_12 (by decide) ?_
    refine J_idivN C dM_apply_14 (by omega) (by omega) (by omega) ?_
    refine J_topN C (n' := a) (by omega) ?_
    refine J_istore_n C (lv' := [(0, .ref (h)), (1, .int (nI (16 * a + c))), (2, .int (nI (a)))]) [1, 2, 0] dM_apply_15 rfl (by decide) rfl ?_
    refine J_iload_n C 1 dM_apply_16 rfl rfl ?_
    refine J_bipush C (v := nI (16)) dM_apply_17 (by decide) ?_
    refine J_iremN C dM_apply_19 (by omega) (by omega) (by omega) ?_
    refine J_topN C (n' := c) (by omega) ?_
    refine J_istore_n C (lv' := [(0, .ref (h)), (1, .int (nI (16 * a + c))), (2, .int (nI (a))), (3, .int (nI (c)))]) [1, 2, 3, 0] dM_apply_20 rfl (by decide) rfl ?_
    refine J_iload_n C 2 dM_apply_21 rfl rfl ?_
    refine J_aload_n C 0 dM_apply_22 rfl rfl ?_
    refine J_get C 0 1 hinM rfl rfl (by decide) fkM_56 rfl dM_apply_23 ?_
    refine J_icmp_ge C 46 (nI_toInt (n := a) (by omega)) (nI_toInt (n := n) (by omega)) dM_apply_26 (by decide) (fun h26 => ?_) (fun h26 => ?_)
    · exfalso; omega
    · refine J_aload_n C 0 dM_apply_29 rfl rfl ?_
      refine J_iload_n C 3 dM_apply_30 rfl rfl ?_
      refine J_callV C (rest := []) [] [((h), .inr (5, [.int (nI (0)), .int (nI (n)), .ref (m1), .int (nI (st)), .ref (m2), .ref (m3), .ref (m4), .int (nI (mn)), .ref (m5), .ref (m6), .ref (m7), .ref (m8), .ref (m9), .ref (ma), .ref (mb)]))] [kI E (m1) (16) (to)] 0 (c_M_isValue_t E l h n st mn m1 m2 m3 m4 m5 m6 m7 m8 m9 ma mb c (by omega) (by omega) (by omega)) mmM_isValue msM_isValue lkM_63 rfl rfl (rfl) rfl rfl ⟨by decide, by decide⟩ ⟨by decide, by decide⟩ (Nat.le_of_ble_eq_true rfl) dM_apply_31 (fun r_c w_c hp => ?_)
      obtain ⟨rfl, rfl⟩ := hp
      refine J_norm C (st' := [.int (nI (1))]) (ws' := [((h), .inr (5, [.int (nI (0)), .int (nI (n)), .ref (m1), .int (nI (st)), .ref (m2), .ref (m3), .ref (m4), .int (nI (mn)), .ref (m5), .ref (m6), .ref (m7), .ref (m8), .ref (m9), .ref (ma), .ref (mb)])), kI E (m1) (16) (to)]) (cs' := 0) (ss' := 0) rfl (rfl) rfl rfl ?_
      refine J_if_eq C 46 (nI_toInt (n := 1) (by decide)) dM_apply_34 (by decide) (fun h34 => ?_) (fun h34 => ?_)
      · exfalso; omega
      · refine J_iload_n C 3 dM_apply_37 rfl rfl ?_
        refine J_iload_n C 2 dM_apply_38 rfl rfl ?_
        refine J_ishrN C dM_apply_39 (by omega) (by omega) ?_
        refine J_iconst C (v := nI (1)) dM_apply_40 (by decide) ?_
        refine J_iandN C dM_apply_41 ?_
        refine J_topN C (n' := 0) (by rw [tb_and1, hb]; rfl) ?_
        refine J_iconst C (v := nI (1)) dM_apply_42 (by decide) ?_
        refine J_icmp_ne C 48 (nI_toInt (n := 0) (by decide)) (nI_toInt (n := 1) (by decide)) dM_apply_43 (by decide) (fun h43 => ?_) (fun h43 => ?_)
        · refine J_iconst C (v := nI (0)) dM_apply_48 (by decide) ?_
          refine J_istore C (lv' := [(0, .ref (h)), (1, .int (nI (16 * a + c))), (2, .int (nI (a))), (3, .int (nI (c))), (4, .int (nI (0)))]) [1, 2, 3, 4, 0] dM_apply_49 (by decide) rfl ?_
          have lp_51 : ∀ (k_51 : Nat) (i : Nat) (f : Nat → Nat), (i ≤ 2 ^ n) → (∀ j, f j = if j < i then chg (to j) a c else to j) → (2 ^ n - i) < k_51 → J 51 [(0, .ref (h)), (1, .int (nI (16 * a + c))), (2, .int (nI (a))), (3, .int (nI (c))), (4, .int (nI (i)))] [] [((h), .inr (5, [.int (nI (0)), .int (nI (n)), .ref (m1), .int (nI (st)), .ref (m2), .ref (m3), .ref (m4), .int (nI (mn)), .ref (m5), .ref (m6), .ref (m7), .ref (m8), .ref (m9), .ref (ma), .ref (mb)])), kI E (m1) (16) (f)] (0) (0) := by
            intro k_51
            induction k_51 with
            | zero => intro i f hi hf hk_51; exact absurd hk_51 (Nat.not_lt_zero _)
            | succ k_51 ih_51 =>
              intro i f hi hf hk_51
              refine J_iload C 4 dM_apply_51 rfl ?_
              refine J_aload_n C 0 dM_apply_53 rfl rfl ?_
              refine J_callV C (rest := [.int (nI (i))]) [] [((h), .inr (5, [.int (nI (0)), .int (nI (n)), .ref (m1), .int (nI (st)), .ref (m2), .ref (m3), .ref (m4), .int (nI (mn)), .ref (m5), .ref (m6), .ref (m7), .ref (m8), .ref (m9), .ref (ma), .ref (mb)]))] [kI E (m1) (16) (f)] 0 (c_M_values E l h n st mn m1 m2 m3 m4 m5 m6 m7 m8 m9 ma mb (by omega) (by omega)) mmM_values msM_values lkM_59 rfl rfl (rfl) rfl rfl ⟨by decide, by decide⟩ ⟨by decide, by decide⟩ (Nat.le_of_ble_eq_true rfl) dM_apply_54 (fun r_c w_c hp => ?_)
              obtain ⟨rfl, rfl⟩ := hp
              refine J_norm C (st' := [.int (nI (2 ^ n)), .int (nI (i))]) (ws' := [((h), .inr (5, [.int (nI (0)), .int (nI (n)), .ref (m1), .int (nI (st)), .ref (m2), .ref (m3), .ref (m4), .int (nI (mn)), .ref (m5), .ref (m6), .ref (m7), .ref (m8), .ref (m9), .ref (ma), .ref (mb)])), kI E (m1) (16) (f)]) (cs' := 0) (ss' := 0) rfl (rfl) rfl rfl ?_
              refine J_icmp_ge C 85 (nI_toInt (n := i) (by omega)) (nI_toInt (n := 2 ^ n) (by omega)) dM_apply_57 (by decide) (fun h57 => ?_) (fun h57 => ?_)
              · have ef : f = gAp n to a c := by
                  funext j
                  rw [hf j]
                  unfold gAp
                  rw [show i = 2 ^ n by omega]
                subst ef
                refine J_iconst C (v := nI (1)) dM_apply_85 (by decide) ?_
                exact hret _ _ _ _ _ _ dM_apply_86 (by decide) (by decide) (by decide) (⟨rfl, rfl⟩)
              · refine J_aload_n C 0 dM_apply_60 rfl rfl ?_
                refine J_get C 0 2 hinM rfl rfl (by decide) fkM_7 rfl dM_apply_61 ?_
                refine J_iload C 4 dM_apply_64 rfl ?_
                refine J_aload_n C 0 dM_apply_66 rfl rfl ?_
                refine J_get C 0 2 hinM rfl rfl (by decide) fkM_7 rfl dM_apply_67 ?_
                refine J_iload C 4 dM_apply_70 rfl ?_
                refine J_iald C 1 rfl (by omega) (by omega) dM_apply_72 ?_
                refine J_topN C (n' := to i) (by rw [hf]; simp) ?_
                refine J_iload_n C 2 dM_apply_73 rfl rfl ?_
                refine J_iload_n C 3 dM_apply_74 rfl rfl ?_
                refine J_callS C (rest := [.int (nI (i)), .ref (m1)]) [] [] [((h), .inr (5, [.int (nI (0)), .int (nI (n)), .ref (m1), .int (nI (st)), .ref (m2), .ref (m3), .ref (m4), .int (nI (mn)), .ref (m5), .ref (m6), .ref (m7), .ref (m8), .ref (m9), .ref (ma), .ref (mb)])), kI E (m1) (16) (f)] (c_M_changed E l (to i) a c (by have := ht i (by omega); omega) (by omega) (by omega)) mmM_changed lkM_67 (rfl) rfl rfl ⟨by decide, by decide⟩ ⟨by decide, by decide⟩ (Nat.le_of_ble_eq_true rfl) dM_apply_75 (fun r_c w_c hp => ?_)
                obtain ⟨rfl, rfl⟩ := hp
                refine J_norm C (st' := [.int (nI (chg (to i) a c)), .int (nI (i)), .ref (m1)]) (ws' := [((h), .inr (5, [.int (nI (0)), .int (nI (n)), .ref (m1), .int (nI (st)), .ref (m2), .ref (m3), .ref (m4), .int (nI (mn)), .ref (m5), .ref (m6), .ref (m7), .ref (m8), .ref (m9), .ref (ma), .ref (mb)])), kI E (m1) (16) (f)]) (cs' := 0) (ss' := 0) rfl (rfl) rfl rfl ?_
                refine J_iastN C (ws' := [((h), .inr (5, [.int (nI (0)), .int (nI (n)), .ref (m1), .int (nI (st)), .ref (m2), .ref (m3), .ref (m4), .int (nI (mn)), .ref (m5), .ref (m6), .ref (m7), .ref (m8), .ref (m9), .ref (ma), .ref (mb)])), kI E (m1) (16) (upN f i (chg (to i) a c))]) 1 rfl (by omega) (by omega) dM_apply_78 rfl ?_
                refine J_iinc C (lv' := [(0, .ref (h)), (1, .int (nI (16 * a + c))), (2, .int (nI (a))), (3, .int (nI (c))), (4, .int (nI (i + 1)))]) 4 [1, 2, 3, 4, 0] dM_apply_79 rfl (jn_inc _) (by decide) rfl ?_
                refine J_goto C 51 dM_apply_82 (by decide) ?_
                exact ih_51 (i + 1) (upN f i (chg (to i) a c)) (by omega) (cp_s (t := fun j => chg (to j) a c) hf) (by omega)
          exact lp_51 (2 ^ n + 1) 0 to (by omega) (by intro j; simp) (by omega)
        · exfalso; omega
  · exfalso; omega
set_option maxHeartbeats 4000000 in
set_option maxRecDepth 100000 in
theorem c_M_apply_n (E : jE) (l : Launch) (h : Nat) (n : Nat) (st : Nat) (mn : Nat) (m1 : Nat) (m2 : Nat) (m3 : Nat) (m4 : Nat) (m5 : Nat) (m6 : Nat) (m7 : Nat) (m8 : Nat) (m9 : Nat) (ma : Nat) (mb : Nat) (x : Int32) (hn1 : 1 ≤ n) (hn4 : n ≤ 4) (hx : x.toInt < 0) : Con E l yM_apply bM_apply 5 (some .boolean) { frames := 0, cells := 0, slots := 0, locals := 0 } [.ref (h), .int (x)] [((h), .inr (5, [.int (nI (0)), .int (nI (n)), .ref (m1), .int (nI (st)), .ref (m2), .ref (m3), .ref (m4), .int (nI (mn)), .ref (m5), .ref (m6), .ref (m7), .ref (m8), .ref (m9), .ref (ma), .ref (mb)]))] (fun r w => r = some (.int (nI 0)) ∧ w = [((h), .inr (5, [.int (nI (0)), .int (nI (n)), .ref (m1), .int (nI (st)), .ref (m2), .ref (m3), .ref (m4), .int (nI (mn)), .ref (m5), .ref (m6), .ref (m7), .ref (m8), .ref (m9), .ref (ma), .ref (mb)]))]) := by
  refine Con.ofZ (by decide) (Nat.le_of_ble_eq_true rfl) ?_
  intro J C hret
  show J 0 [(0, .ref (h)), (1, .int (x))] [] [((h), .inr (5, [.int (nI (0)), .int (nI (n)), .ref (m1), .int (nI (st)), .ref (m2), .ref (m3), .ref (m4), .int (nI (mn)), .ref (m5), .ref (m6), .ref (m7), .ref (m8), .ref (m9), .ref (ma), .ref (mb)]))] 0 0
  have hp16 := p16 hn4
  have hp1 := p1 n
  refine J_aload_n C 0 dM_apply_0 rfl rfl ?_
  refine J_iconst C (v := nI (0)) dM_apply_1 (by decide) ?_
  refine J_put C (ws' := [((h), .inr (5, [.int (nI (0)), .int (nI (n)), .ref (m1), .int (nI (st)), .ref (m2), .ref (m3), .ref (m4), .int (nI (mn)), .ref (m5), .ref (m6), .ref (m7), .ref (m8), .ref (m9), .ref (ma), .ref (mb)]))]) 0 0 tyM hinM tyokM nmM rfl rfl (by decide) fkM_53 rfl rfl rfl (Nat.le_of_ble_eq_true rfl) dM_apply_2 rfl ?_
  refine J_iload_n C 1 dM_apply_5 rfl rfl ?_
  refine J_if_ge C 11 rfl dM_apply_6 (by decide) (fun h6 => ?_) (fun h6 => ?_)
  · exfalso; omega
  · refine J_iconst C (v := nI (0)) dM_apply_9 (by decide) ?_
    exact hret _ _ _ _ _ _ dM_apply_10 (by decide) (by decide) (by decide) (⟨rfl, rfl⟩)
set_option maxHeartbeats 4000000 in
set_option maxRecDepth 100000 in
theorem c_M_apply_v (E : jE) (l : Launch) (h : Nat) (n : Nat) (st : Nat) (mn : Nat) (m1 : Nat) (m2 : Nat) (m3 : Nat) (m4 : Nat) (m5 : Nat) (m6 : Nat) (m7 : Nat) (m8 : Nat) (m9 : Nat) (ma : Nat) (mb : Nat) (g : Nat) (hn1 : 1 ≤ n) (hn4 : n ≤ 4) (hg : g < 2 ^ 31) (hv : g % 16 < 2 ^ n) (hx : ¬ (g / 16 < n ∧ g % 16 < 2 ^ n ∧ (g % 16).testBit (g / 16) = false)) : Con E l yM_apply bM_apply 5 (some .boolean) { frames := 2, cells := 0, slots := 0, locals := 41 } [.ref (h), .int (nI (g))] [((h), .inr (5, [.int (nI (0)), .int (nI (n)), .ref (m1), .int (nI (st)), .ref (m2), .ref (m3), .ref (m4), .int (nI (mn)), .ref (m5), .ref (m6), .ref (m7), .ref (m8), .ref (m9), .ref (ma), .ref (mb)]))] (fun r w => r = some (.int (nI 0)) ∧ w = [((h), .inr (5, [.int (nI (0)), .int (nI (n)), .ref (m1), .int (nI (st)), .ref (m2), .ref (m3), .ref (m4), .int (nI (mn)), .ref (m5), .ref (m6), .ref (m7), .ref (m8), .ref (m9), .ref (ma), .ref (mb)]))]) := by
  refine Con.ofZ (by decide) (Nat.le_of_ble_eq_true rfl) ?_
  intro J C hret
  show J 0 [(0, .ref (h)), (1, .int (nI (g)))] [] [((h), .inr (5, [.int (nI (0)), .int (nI (n)), .ref (m1), .int (nI (st)), .ref (m2), .ref (m3), .ref (m4), .int (nI (mn)), .ref (m5), .ref (m6), .ref (m7), .ref (m8), .ref (m9), .ref (ma), .ref (mb)]))] 0 0
  have hp16 := p16 hn4
  have hp1 := p1 n
  have ex : (nI (g % 16)).toInt = ((g % 16 : Nat) : Int) := nI_toInt (by omega)
  refine J_aload_n C 0 dM_apply_0 rfl rfl ?_
  refine J_iconst C (v := nI (0)) dM_apply_1 (by decide) ?_
  refine J_put C (ws' := [((h), .inr (5, [.int (nI (0)), .int (nI (n)), .ref (m1), .int (nI (st)), .ref (m2), .ref (m3), .ref (m4), .int (nI (mn)), .ref (m5), .ref (m6), .ref (m7), .ref (m8), .ref (m9), .ref (ma), .ref (mb)]))]) 0 0 tyM hinM tyokM nmM rfl rfl (by decide) fkM_53 rfl rfl rfl (Nat.le_of_ble_eq_true rfl) dM_apply_2 rfl ?_
  refine J_iload_n C 1 dM_apply_5 rfl rfl ?_
  refine J_if_ge C 11 (nI_toInt (n := g) (by omega)) dM_apply_6 (by decide) (fun h6 => ?_) (fun h6 => ?_)
  · refine J_iload_n C 1 dM_apply_11 rfl rfl ?_
    refine J_bipush C (v := nI (16)) dM_apply_12 (by decide) ?_
    refine J_idivN C dM_apply_14 (by omega) (by omega) (by omega) ?_
    refine J_istore_n C (lv' := [(0, .ref (h)), (1, .int (nI (g))), (2, .int (nI (g / 16)))]) [1, 2, 0] dM_apply_15 rfl (by decide) rfl ?_
    refine J_iload_n C 1 dM_apply_16 rfl rfl ?_
    refine J_bipush C (v := nI (16)) dM_apply_17 (by decide) ?_
    refine J_iremN C dM_apply_19 (by omega) (by omega) (by omega) ?_
    refine J_istore_n C (lv' := [(0, .ref (h)), (1, .int (nI (g))), (2, .int (nI (g / 16))), (3, .int (nI (g % 16)))]) [1, 2, 3, 0] dM_apply_20 rfl (by decide) rfl ?_
    refine J_iload_n C 2 dM_apply_21 rfl rfl ?_
    refine J_aload_n C 0 dM_apply_22 rfl rfl ?_
    refine J_get C 0 1 hinM rfl rfl (by decide) fkM_56 rfl dM_apply_23 ?_
    refine J_icmp_ge C 46 (nI_toInt (n := g / 16) (by omega)) (nI_toInt (n := n) (by omega)) dM_apply_26 (by decide) (fun h26 => ?_) (fun h26 => ?_)
    · refine J_iconst C (v := nI (0)) dM_apply_46 (by decide) ?_
      exact hret _ _ _ _ _ _ dM_apply_47 (by decide) (by decide) (by decide) (⟨rfl, rfl⟩)
    · refine J_aload_n C 0 dM_apply_29 rfl rfl ?_
      refine J_iload_n C 3 dM_apply_30 rfl rfl ?_
      refine J_callV C (rest := []) [] [((h), .inr (5, [.int (nI (0)), .int (nI (n)), .ref (m1), .int (nI (st)), .ref (m2), .ref (m3), .ref (m4), .int (nI (mn)), .ref (m5), .ref (m6), .ref (m7), .ref (m8), .ref (m9), .ref (ma), .ref (mb)]))] [] 0 (c_M_isValue_t E l h n st mn m1 m2 m3 m4 m5 m6 m7 m8 m9 ma mb (g % 16) (by omega) (by omega) (by omega)) mmM_isValue msM_isValue lkM_63 rfl rfl (rfl) rfl rfl ⟨by decide, by decide⟩ ⟨by decide, by decide⟩ (Nat.le_of_ble_eq_true rfl) dM_apply_31 (fun r_c w_c hp => ?_)
      obtain ⟨rfl, rfl⟩ := hp
      refine J_norm C (st' := [.int (nI (1))]) (ws' := [((h), .inr (5, [.int (nI (0)), .int (nI (n)), .ref (m1), .int (nI (st)), .ref (m2), .ref (m3), .ref (m4), .int (nI (mn)), .ref (m5), .ref (m6), .ref (m7), .ref (m8), .ref (m9), .ref (ma), .ref (mb)]))]) (cs' := 0) (ss' := 0) rfl (rfl) rfl rfl ?_
      refine J_if_eq C 46 (nI_toInt (n := 1) (by decide)) dM_apply_34 (by decide) (fun h34 => ?_) (fun h34 => ?_)
      · exfalso; omega
      · refine J_iload_n C 3 dM_apply_37 rfl rfl ?_
        refine J_iload_n C 2 dM_apply_38 rfl rfl ?_
        refine J_ishrN C dM_apply_39 (by omega) (by omega) ?_
        refine J_iconst C (v := nI (1)) dM_apply_40 (by decide) ?_
        refine J_iandN C dM_apply_41 ?_
        refine J_iconst C (v := nI (1)) dM_apply_42 (by decide) ?_
        refine J_icmp_ne C 48 (nI_toInt (n := ((g % 16) / 2 ^ (g / 16)) &&& 1) (by have := Nat.and_le_right (n := g % 16 / 2 ^ (g / 16)) (m := 1); omega)) (nI_toInt (n := 1) (by decide)) dM_apply_43 (by decide) (fun h43 => ?_) (fun h43 => ?_)
        · exfalso
          refine hx ⟨by omega, by omega, ?_⟩
          rw [tb_and1] at h43
          cases hq : (g % 16).testBit (g / 16) with
          | false => rfl
          | true => simp [hq] at h43
        · refine J_iconst C (v := nI (0)) dM_apply_46 (by decide) ?_
          exact hret _ _ _ _ _ _ dM_apply_47 (by decide) (by decide) (by decide) (⟨rfl, rfl⟩)
  · exfalso; omega
set_option maxHeartbeats 4000000 in
set_option maxRecDepth 100000 in
theorem c_M_apply_f (E : jE) (l : Launch) (h : Nat) (n : Nat) (st : Nat) (mn : Nat) (m1 : Nat) (m2 : Nat) (m3 : Nat) (m4 : Nat) (m5 : Nat) (m6 : Nat) (m7 : Nat) (m8 : Nat) (m9 : Nat) (ma : Nat) (mb : Nat) (g : Nat) (hn1 : 1 ≤ n) (hn4 : n ≤ 4) (hg : g < 2 ^ 31) (hv : 2 ^ n ≤ g % 16) (hx : ¬ (g / 16 < n ∧ g % 16 < 2 ^ n ∧ (g % 16).testBit (g / 16) = false)) : Con E l yM_apply bM_apply 5 (some .boolean) { frames := 2, cells := 0, slots := 0, locals := 41 } [.ref (h), .int (nI (g))] [((h), .inr (5, [.int (nI (0)), .int (nI (n)), .ref (m1), .int (nI (st)), .ref (m2), .ref (m3), .ref (m4), .int (nI (mn)), .ref (m5), .ref (m6), .ref (m7), .ref (m8), .ref (m9), .ref (ma), .ref (mb)]))] (fun r w => r = some (.int (nI 0)) ∧ w = [((h), .inr (5, [.int (nI (0)), .int (nI (n)), .ref (m1), .int (nI (st)), .ref (m2), .ref (m3), .ref (m4), .int (nI (mn)), .ref (m5), .ref (m6), .ref (m7), .ref (m8), .ref (m9), .ref (ma), .ref (mb)]))]) := by
  refine Con.ofZ (by decide) (Nat.le_of_ble_eq_true rfl) ?_
  intro J C hret
  show J 0 [(0, .ref (h)), (1, .int (nI (g)))] [] [((h), .inr (5, [.int (nI (0)), .int (nI (n)), .ref (m1), .int (nI (st)), .ref (m2), .ref (m3), .ref (m4), .int (nI (mn)), .ref (m5), .ref (m6), .ref (m7), .ref (m8), .ref (m9), .ref (ma), .ref (mb)]))] 0 0
  have hp16 := p16 hn4
  have hp1 := p1 n
  have ex : (nI (g % 16)).toInt = ((g % 16 : Nat) : Int) := nI_toInt (by omega)
  refine J_aload_n C 0 dM_apply_0 rfl rfl ?_
  refine J_iconst C (v := nI (0)) dM_apply_1 (by decide) ?_
  refine J_put C (ws' := [((h), .inr (5, [.int (nI (0)), .int (nI (n)), .ref (m1), .int (nI (st)), .ref (m2), .ref (m3), .ref (m4), .int (nI (mn)), .ref (m5), .ref (m6), .ref (m7), .ref (m8), .ref (m9), .ref (ma), .ref (mb)]))]) 0 0 tyM hinM tyokM nmM rfl rfl (by decide) fkM_53 rfl rfl rfl (Nat.le_of_ble_eq_true rfl) dM_apply_2 rfl ?_
  refine J_iload_n C 1 dM_apply_5 rfl rfl ?_
  refine J_if_ge C 11 (nI_toInt (n := g) (by omega)) dM_apply_6 (by decide) (fun h6 => ?_) (fun h6 => ?_)
  · refine J_iload_n C 1 dM_apply_11 rfl rfl ?_
    refine J_bipush C (v := nI (16)) dM_apply_12 (by decide) ?_
    refine J_idivN C dM_apply_14 (by omega) (by omega) (by omega) ?_
    refine J_istore_n C (lv' := [(0, .ref (h)), (1, .int (nI (g))), (2, .int (nI (g / 16)))]) [1, 2, 0] dM_apply_15 rfl (by decide) rfl ?_
    refine J_iload_n C 1 dM_apply_16 rfl rfl ?_
    refine J_bipush C (v := nI (16)) dM_apply_17 (by decide) ?_
    refine J_iremN C dM_apply_19 (by omega) (by omega) (by omega) ?_
    refine J_istore_n C (lv' := [(0, .ref (h)), (1, .int (nI (g))), (2, .int (nI (g / 16))), (3, .int (nI (g % 16)))]) [1, 2, 3, 0] dM_apply_20 rfl (by decide) rfl ?_
    refine J_iload_n C 2 dM_apply_21 rfl rfl ?_
    refine J_aload_n C 0 dM_apply_22 rfl rfl ?_
    refine J_get C 0 1 hinM rfl rfl (by decide) fkM_56 rfl dM_apply_23 ?_
    refine J_icmp_ge C 46 (nI_toInt (n := g / 16) (by omega)) (nI_toInt (n := n) (by omega)) dM_apply_26 (by decide) (fun h26 => ?_) (fun h26 => ?_)
    · refine J_iconst C (v := nI (0)) dM_apply_46 (by decide) ?_
      exact hret _ _ _ _ _ _ dM_apply_47 (by decide) (by decide) (by decide) (⟨rfl, rfl⟩)
    · refine J_aload_n C 0 dM_apply_29 rfl rfl ?_
      refine J_iload_n C 3 dM_apply_30 rfl rfl ?_
      refine J_callV C (rest := []) [] [((h), .inr (5, [.int (nI (0)), .int (nI (n)), .ref (m1), .int (nI (st)), .ref (m2), .ref (m3), .ref (m4), .int (nI (mn)), .ref (m5), .ref (m6), .ref (m7), .ref (m8), .ref (m9), .ref (ma), .ref (mb)]))] [] 0 (c_M_isValue_f E l h n st mn m1 m2 m3 m4 m5 m6 m7 m8 m9 ma mb (nI (g % 16)) (by omega) (by omega) (by omega)) mmM_isValue msM_isValue lkM_63 rfl rfl (rfl) rfl rfl ⟨by decide, by decide⟩ ⟨by decide, by decide⟩ (Nat.le_of_ble_eq_true rfl) dM_apply_31 (fun r_c w_c hp => ?_)
      obtain ⟨rfl, rfl⟩ := hp
      refine J_norm C (st' := [.int (nI (0))]) (ws' := [((h), .inr (5, [.int (nI (0)), .int (nI (n)), .ref (m1), .int (nI (st)), .ref (m2), .ref (m3), .ref (m4), .int (nI (mn)), .ref (m5), .ref (m6), .ref (m7), .ref (m8), .ref (m9), .ref (ma), .ref (mb)]))]) (cs' := 0) (ss' := 0) rfl (rfl) rfl rfl ?_
      refine J_if_eq C 46 (nI_toInt (n := 0) (by decide)) dM_apply_34 (by decide) (fun h34 => ?_) (fun h34 => ?_)
      · refine J_iconst C (v := nI (0)) dM_apply_46 (by decide) ?_
        exact hret _ _ _ _ _ _ dM_apply_47 (by decide) (by decide) (by decide) (⟨rfl, rfl⟩)
      · exfalso; omega
  · exfalso; omega
set_option maxHeartbeats 4000000 in
set_option maxRecDepth 100000 in
theorem c_M_doGate (E : jE) (l : Launch) (h : Nat) (n : Nat) (st : Nat) (m1 : Nat) (m2 : Nat) (m3 : Nat) (m4 : Nat) (m5 : Nat) (m6 : Nat) (m7 : Nat) (m8 : Nat) (m9 : Nat) (ma : Nat) (mb : Nat) (s : gS) (F : Nat → Nat) (a : Nat) (c : Nat) (hn1 : 1 ≤ n) (hn4 : n ≤ 4) (hok : gOk n s.1) (hF : gL F s.2) (ha : a < n) (hc : c < 2 ^ n) (hlen : s.2.length < 64) : Con E l yM_doGate bM_doGate 4 none { frames := 1, cells := 0, slots := 0, locals := 22 } [.ref (h), .int (nI (a)), .int (nI (c))] [((h), .inr (5, [.int (nI (0)), .int (nI (n)), .ref (m1), .int (nI (st)), .ref (m2), .ref (m3), .ref (m4), .int (nI (s.2.length)), .ref (m5), .ref (m6), .ref (m7), .ref (m8), .ref (m9), .ref (ma), .ref (mb)])), kI E (m3) (16) (s.1), kI E (m4) (64) (F)] (fun r w => ∃ F' : Nat → Nat, r = none ∧ gL F' (gU n s a c).2 ∧ w = [((h), .inr (5, [.int (nI (0)), .int (nI (n)), .ref (m1), .int (nI (st)), .ref (m2), .ref (m3), .ref (m4), .int (nI ((gU n s a c).2.length)), .ref (m5), .ref (m6), .ref (m7), .ref (m8), .ref (m9), .ref (ma), .ref (mb)])), kI E (m3) (16) ((gU n s a c).1), kI E (m4) (64) (F')]) := by
  refine Con.ofV (by decide) (Nat.le_of_ble_eq_true rfl) ?_
  intro J C hret
  show J 0 [(0, .ref (h)), (1, .int (nI (a))), (2, .int (nI (c)))] [] [((h), .inr (5, [.int (nI (0)), .int (nI (n)), .ref (m1), .int (nI (st)), .ref (m2), .ref (m3), .ref (m4), .int (nI (s.2.length)), .ref (m5), .ref (m6), .ref (m7), .ref (m8), .ref (m9), .ref (ma), .ref (mb)])), kI E (m3) (16) (s.1), kI E (m4) (64) (F)] 0 0
  have hp16 := p16 hn4
  have hp1 := p1 n
  refine J_iconst C (v := nI (0)) dM_doGate_0 (by decide) ?_
  refine J_istore_n C (lv' := [(0, .ref (h)), (1, .int (nI (a))), (2, .int (nI (c))), (3, .int (nI (0)))]) [1, 2, 3, 0] dM_doGate_1 rfl (by decide) rfl ?_
  have lp_2 : ∀ (k_2 : Nat) (i : Nat) (f : Nat → Nat), (i ≤ 2 ^ n) → (∀ j, f j = if j < i then chg (s.1 j) a c else s.1 j) → (2 ^ n - i) < k_2 → J 2 [(0, .ref (h)), (1, .int (nI (a))), (2, .int (nI (c))), (3, .int (nI (i)))] [] [((h), .inr (5, [.int (nI (0)), .int (nI (n)), .ref (m1), .int (nI (st)), .ref (m2), .ref (m3), .ref (m4), .int (nI (s.2.length)), .ref (m5), .ref (m6), .ref (m7), .ref (m8), .ref (m9), .ref (ma), .ref (mb)])), kI E (m3) (16) (f), kI E (m4) (64) (F)] (0) (0) := by
    intro k_2
    induction k_2 with
    | zero => intro i f hi hf hk_2; exact absurd hk_2 (Nat.not_lt_zero _)
    | succ k_2 ih_2 =>
      intro i f hi hf hk_2
      refine J_iload_n C 3 dM_doGate_2 rfl rfl ?_
      refine J_aload_n C 0 dM_doGate_3 rfl rfl ?_
      refine J_callV C (rest := [.int (nI (i))]) [] [((h), .inr (5, [.int (nI (0)), .int (nI (n)), .ref (m1), .int (nI (st)), .ref (m2), .ref (m3), .ref (m4), .int (nI (s.2.length)), .ref (m5), .ref (m6), .ref (m7), .ref (m8), .ref (m9), .ref (ma), .ref (mb)]))] [kI E (m3) (16) (f), kI E (m4) (64) (F)] 0 (c_M_values E l h n st s.2.length m1 m2 m3 m4 m5 m6 m7 m8 m9 ma mb (by omega) (by omega)) mmM_values msM_values lkM_59 rfl rfl (rfl) rfl rfl ⟨by decide, by decide⟩ ⟨by decide, by decide⟩ (Nat.le_of_ble_eq_true rfl) dM_doGate_4 (fun r_c w_c hp => ?_)
      obtain ⟨rfl, rfl⟩ := hp
      refine J_norm C (st' := [.int (nI (2 ^ n)), .int (nI (i))]) (ws' := [((h), .inr (5, [.int (nI (0)), .int (nI (n)), .ref (m1), .int (nI (st)), .ref (m2), .ref (m3), .ref (m4), .int (nI (s.2.length)), .ref (m5), .ref (m6), .ref (m7), .ref (m8), .ref (m9), .ref (ma), .ref (mb)])), kI E (m3) (16) (f), kI E (m4) (64) (F)]) (cs' := 0) (ss' := 0) rfl (rfl) rfl rfl ?_
      refine J_icmp_ge C 33 (nI_toInt (n := i) (by omega)) (nI_toInt (n := 2 ^ n) (by omega)) dM_doGate_7 (by decide) (fun h7 => ?_) (fun h7 => ?_)
      · have ef : f = gAp n s.1 a c := by
          funext j
          rw [hf j]
          unfold gAp
          rw [show i = 2 ^ n by omega]
        subst ef
        refine J_aload_n C 0 dM_doGate_33 rfl rfl ?_
        refine J_get C 0 6 hinM rfl rfl (by decide) fkM_19 rfl dM_doGate_34 ?_
        refine J_aload_n C 0 dM_doGate_37 rfl rfl ?_
        refine J_get C 0 7 hinM rfl rfl (by decide) fkM_71 rfl dM_doGate_38 ?_
        refine J_bipush C (v := nI (16)) dM_doGate_41 (by decide) ?_
        refine J_iload_n C 1 dM_doGate_43 rfl rfl ?_
        refine J_imulN C dM_doGate_44 ?_
        refine J_iload_n C 2 dM_doGate_45 rfl rfl ?_
        refine J_iaddN C dM_doGate_46 ?_
        refine J_iastN C (ws' := [((h), .inr (5, [.int (nI (0)), .int (nI (n)), .ref (m1), .int (nI (st)), .ref (m2), .ref (m3), .ref (m4), .int (nI (s.2.length)), .ref (m5), .ref (m6), .ref (m7), .ref (m8), .ref (m9), .ref (ma), .ref (mb)])), kI E (m3) (16) ((gAp n s.1 a c)), kI E (m4) (64) (upN F s.2.length ((16 * a) + c))]) 2 rfl (by omega) (by omega) dM_doGate_47 rfl ?_
        refine J_aload_n C 0 dM_doGate_48 rfl rfl ?_
        refine J_dup C dM_doGate_49 rfl ?_
        refine J_get C 0 7 hinM rfl rfl (by decide) fkM_71 rfl dM_doGate_50 ?_
        refine J_iconst C (v := nI (1)) dM_doGate_53 (by decide) ?_
        refine J_iaddN C dM_doGate_54 ?_
        refine J_put C (ws' := [((h), .inr (5, [.int (nI (0)), .int (nI (n)), .ref (m1), .int (nI (st)), .ref (m2), .ref (m3), .ref (m4), .int (nI (s.2.length + 1)), .ref (m5), .ref (m6), .ref (m7), .ref (m8), .ref (m9), .ref (ma), .ref (mb)])), kI E (m3) (16) ((gAp n s.1 a c)), kI E (m4) (64) (upN F s.2.length ((16 * a) + c))]) 0 7 tyM hinM tyokM nmM rfl rfl (by decide) fkM_71 rfl rfl rfl (Nat.le_of_ble_eq_true rfl) dM_doGate_55 rfl ?_
        exact hret _ _ _ _ _ dM_doGate_58 (by decide) (by decide) (⟨_, rfl, gL_push hF, by simp [gU]⟩)
      · refine J_aload_n C 0 dM_doGate_10 rfl rfl ?_
        refine J_get C 0 5 hinM rfl rfl (by decide) fkM_16 rfl dM_doGate_11 ?_
        refine J_iload_n C 3 dM_doGate_14 rfl rfl ?_
        refine J_aload_n C 0 dM_doGate_15 rfl rfl ?_
        refine J_get C 0 5 hinM rfl rfl (by decide) fkM_16 rfl dM_doGate_16 ?_
        refine J_iload_n C 3 dM_doGate_19 rfl rfl ?_
        refine J_iald C 1 rfl (by omega) (by omega) dM_doGate_20 ?_
        refine J_topN C (n' := s.1 i) (by rw [hf]; simp) ?_
        refine J_iload_n C 1 dM_doGate_21 rfl rfl ?_
        refine J_iload_n C 2 dM_doGate_22 rfl rfl ?_
        refine J_callS C (rest := [.int (nI (i)), .ref (m3)]) [] [] [((h), .inr (5, [.int (nI (0)), .int (nI (n)), .ref (m1), .int (nI (st)), .ref (m2), .ref (m3), .ref (m4), .int (nI (s.2.length)), .ref (m5), .ref (m6), .ref (m7), .ref (m8), .ref (m9), .ref (ma), .ref (mb)])), kI E (m3) (16) (f), kI E (m4) (64) (F)] (c_M_changed E l (s.1 i) a c (by have := hok i (by omega); omega) (by omega) (by omega)) mmM_changed lkM_67 (rfl) rfl rfl ⟨by decide, by decide⟩ ⟨by decide, by decide⟩ (Nat.le_of_ble_eq_true rfl) dM_doGate_23 (fun r_c w_c hp => ?_)
        obtain ⟨rfl, rfl⟩ := hp
        refine J_norm C (st' := [.int (nI (chg (s.1 i) a c)), .int (nI (i)), .ref (m3)]) (ws' := [((h), .inr (5, [.int (nI (0)), .int (nI (n)), .ref (m1), .int (nI (st)), .ref (m2), .ref (m3), .ref (m4), .int (nI (s.2.length)), .ref (m5), .ref (m6), .ref (m7), .ref (m8), .ref (m9), .ref (ma), .ref (mb)])), kI E (m3) (16) (f), kI E (m4) (64) (F)]) (cs' := 0) (ss' := 0) rfl (rfl) rfl rfl ?_
        refine J_iastN C (ws' := [((h), .inr (5, [.int (nI (0)), .int (nI (n)), .ref (m1), .int (nI (st)), .ref (m2), .ref (m3), .ref (m4), .int (nI (s.2.length)), .ref (m5), .ref (m6), .ref (m7), .ref (m8), .ref (m9), .ref (ma), .ref (mb)])), kI E (m3) (16) (upN f i (chg (s.1 i) a c)), kI E (m4) (64) (F)]) 1 rfl (by omega) (by omega) dM_doGate_26 rfl ?_
        refine J_iinc C (lv' := [(0, .ref (h)), (1, .int (nI (a))), (2, .int (nI (c))), (3, .int (nI (i + 1)))]) 3 [1, 2, 3, 0] dM_doGate_27 rfl (jn_inc _) (by decide) rfl ?_
        refine J_goto C 2 dM_doGate_30 (by decide) ?_
        exact ih_2 (i + 1) (upN f i (chg (s.1 i) a c)) (by omega) (cp_s (t := fun j => chg (s.1 j) a c) hf) (by omega)
  exact lp_2 (2 ^ n + 1) 0 s.1 (by omega) (by intro j; simp) (by omega)
set_option maxHeartbeats 4000000 in
set_option maxRecDepth 100000 in
theorem c_M_findGates (E : jE) (l : Launch) (h : Nat) (n : Nat) (st : Nat) (mn : Nat) (m1 : Nat) (m2 : Nat) (m3 : Nat) (m4 : Nat) (m5 : Nat) (m6 : Nat) (m7 : Nat) (m8 : Nat) (m9 : Nat) (ma : Nat) (mb : Nat) (to : Nat → Nat) (wk : Nat → Nat) (md : Nat → Nat) (hn1 : 1 ≤ n) (hn4 : n ≤ 4) (ht : ∀ v, v < 2 ^ n → to v < 2 ^ n) : Con E l yM_findGates bM_findGates 3 none { frames := 2, cells := 0, slots := 0, locals := 45 } [.ref (h)] [((h), .inr (5, [.int (nI (0)), .int (nI (n)), .ref (m1), .int (nI (st)), .ref (m2), .ref (m3), .ref (m4), .int (nI (mn)), .ref (m5), .ref (m6), .ref (m7), .ref (m8), .ref (m9), .ref (ma), .ref (mb)])), kI E (m1) (16) (to), kI E (m3) (16) (wk), kI E (m4) (64) (md)] (fun r w => ∃ (f F : Nat → Nat), r = none ∧ gL F (gts n to) ∧ w = [((h), .inr (5, [.int (nI (0)), .int (nI (n)), .ref (m1), .int (nI (st)), .ref (m2), .ref (m3), .ref (m4), .int (nI ((gts n to).length)), .ref (m5), .ref (m6), .ref (m7), .ref (m8), .ref (m9), .ref (ma), .ref (mb)])), kI E (m1) (16) (to), kI E (m3) (16) (f), kI E (m4) (64) (F)]) := by
  refine Con.ofV (by decide) (Nat.le_of_ble_eq_true rfl) ?_
  intro J C hret
  show J 0 [(0, .ref (h))] [] [((h), .inr (5, [.int (nI (0)), .int (nI (n)), .ref (m1), .int (nI (st)), .ref (m2), .ref (m3), .ref (m4), .int (nI (mn)), .ref (m5), .ref (m6), .ref (m7), .ref (m8), .ref (m9), .ref (ma), .ref (mb)])), kI E (m1) (16) (to), kI E (m3) (16) (wk), kI E (m4) (64) (md)] 0 0
  have hp16 := p16 hn4
  have hp1 := p1 n
  refine J_aload_n C 0 dM_findGates_0 rfl rfl ?_
  refine J_iconst C (v := nI (0)) dM_findGates_1 (by decide) ?_
  refine J_put C (ws' := [((h), .inr (5, [.int (nI (0)), .int (nI (n)), .ref (m1), .int (nI (st)), .ref (m2), .ref (m3), .ref (m4), .int (nI (0)), .ref (m5), .ref (m6), .ref (m7), .ref (m8), .ref (m9), .ref (ma), .ref (mb)])), kI E (m1) (16) (to), kI E (m3) (16) (wk), kI E (m4) (64) (md)]) 0 7 tyM hinM tyokM nmM rfl rfl (by decide) fkM_71 rfl rfl rfl (Nat.le_of_ble_eq_true rfl) dM_findGates_2 rfl ?_
  refine J_iconst C (v := nI (0)) dM_findGates_5 (by decide) ?_
  refine J_istore_n C (lv' := [(0, .ref (h)), (1, .int (nI (0)))]) [1, 0] dM_findGates_6 rfl (by decide) rfl ?_
  have lp_7 : ∀ (k_7 : Nat) (i : Nat) (f : Nat → Nat), (i ≤ 2 ^ n) → (∀ j, f j = if j < i then to j else wk j) → (2 ^ n - i) < k_7 → J 7 [(0, .ref (h)), (1, .int (nI (i)))] [] [((h), .inr (5, [.int (nI (0)), .int (nI (n)), .ref (m1), .int (nI (st)), .ref (m2), .ref (m3), .ref (m4), .int (nI (0)), .ref (m5), .ref (m6), .ref (m7), .ref (m8), .ref (m9), .ref (ma), .ref (mb)])), kI E (m1) (16) (to), kI E (m3) (16) (f), kI E (m4) (64) (md)] (0) (0) := by
    intro k_7
    induction k_7 with
    | zero => intro i f hi hf hk_7; exact absurd hk_7 (Nat.not_lt_zero _)
    | succ k_7 ih_7 =>
      intro i f hi hf hk_7
      refine J_iload_n C 1 dM_findGates_7 rfl rfl ?_
      refine J_aload_n C 0 dM_findGates_8 rfl rfl ?_
      refine J_callV C (rest := [.int (nI (i))]) [] [((h), .inr (5, [.int (nI (0)), .int (nI (n)), .ref (m1), .int (nI (st)), .ref (m2), .ref (m3), .ref (m4), .int (nI (0)), .ref (m5), .ref (m6), .ref (m7), .ref (m8), .ref (m9), .ref (ma), .ref (mb)]))] [kI E (m1) (16) (to), kI E (m3) (16) (f), kI E (m4) (64) (md)] 0 (c_M_values E l h n st 0 m1 m2 m3 m4 m5 m6 m7 m8 m9 ma mb (by omega) (by omega)) mmM_values msM_values lkM_59 rfl rfl (rfl) rfl rfl ⟨by decide, by decide⟩ ⟨by decide, by decide⟩ (Nat.le_of_ble_eq_true rfl) dM_findGates_9 (fun r_c w_c hp => ?_)
      obtain ⟨rfl, rfl⟩ := hp
      refine J_norm C (st' := [.int (nI (2 ^ n)), .int (nI (i))]) (ws' := [((h), .inr (5, [.int (nI (0)), .int (nI (n)), .ref (m1), .int (nI (st)), .ref (m2), .ref (m3), .ref (m4), .int (nI (0)), .ref (m5), .ref (m6), .ref (m7), .ref (m8), .ref (m9), .ref (ma), .ref (mb)])), kI E (m1) (16) (to), kI E (m3) (16) (f), kI E (m4) (64) (md)]) (cs' := 0) (ss' := 0) rfl (rfl) rfl rfl ?_
      refine J_icmp_ge C 33 (nI_toInt (n := i) (by omega)) (nI_toInt (n := 2 ^ n) (by omega)) dM_findGates_12 (by decide) (fun h12 => ?_) (fun h12 => ?_)
      · obtain rfl : 2 ^ n = i := by omega
        refine J_iconst C (v := nI (0)) dM_findGates_33 (by decide) ?_
        refine J_istore_n C (lv' := [(0, .ref (h)), (1, .int (nI (0)))]) [1, 0] dM_findGates_34 rfl (by decide) rfl ?_
        have lp_35 : ∀ (k_35 : Nat) (v : Nat) (F2 : Nat → Nat), (v ≤ 2 ^ n) → (gL F2 (gRows n v (f, [])).2) → (2 ^ n - v) < k_35 → J 35 [(0, .ref (h)), (1, .int (nI (v)))] [] [((h), .inr (5, [.int (nI (0)), .int (nI (n)), .ref (m1), .int (nI (st)), .ref (m2), .ref (m3), .ref (m4), .int (nI ((gRows n v (f, [])).2.length)), .ref (m5), .ref (m6), .ref (m7), .ref (m8), .ref (m9), .ref (ma), .ref (mb)])), kI E (m1) (16) (to), kI E (m3) (16) ((gRows n v (f, [])).1), kI E (m4) (64) (F2)] (0) (0) := by
          intro k_35
          induction k_35 with
          | zero => intro v F2 hv hF2 hk_35; exact absurd hk_35 (Nat.not_lt_zero _)
          | succ k_35 ih_35 =>
            intro v F2 hv hF2 hk_35
            have okr := gRows_ok (n := n) (s := (f, [])) (fun j hj => by have q := hf j; rw [if_pos hj] at q; show f j < _; rw [q]; exact ht j hj) v
            have lnr := gRows_len (n := n) (s := (f, [])) v
            have ml := Nat.mul_le_mul hn4 hp16
            refine J_iload_n C 1 dM_findGates_35 rfl rfl ?_
            refine J_aload_n C 0 dM_findGates_36 rfl rfl ?_
            refine J_callV C (rest := [.int (nI (v))]) [] [((h), .inr (5, [.int (nI (0)), .int (nI (n)), .ref (m1), .int (nI (st)), .ref (m2), .ref (m3), .ref (m4), .int (nI ((gRows n v (f, [])).2.length)), .ref (m5), .ref (m6), .ref (m7), .ref (m8), .ref (m9), .ref (ma), .ref (mb)]))] [kI E (m1) (16) (to), kI E (m3) (16) ((gRows n v (f, [])).1), kI E (m4) (64) (F2)] 0 (c_M_values E l h n st ((gRows n v (f, [])).2.length) m1 m2 m3 m4 m5 m6 m7 m8 m9 ma mb (by omega) (by omega)) mmM_values msM_values lkM_59 rfl rfl (rfl) rfl rfl ⟨by decide, by decide⟩ ⟨by decide, by decide⟩ (Nat.le_of_ble_eq_true rfl) dM_findGates_37 (fun r_c w_c hp => ?_)
            obtain ⟨rfl, rfl⟩ := hp
            refine J_norm C (st' := [.int (nI (2 ^ n)), .int (nI (v))]) (ws' := [((h), .inr (5, [.int (nI (0)), .int (nI (n)), .ref (m1), .int (nI (st)), .ref (m2), .ref (m3), .ref (m4), .int (nI (((gRows n v (f, [])).2.length))), .ref (m5), .ref (m6), .ref (m7), .ref (m8), .ref (m9), .ref (ma), .ref (mb)])), kI E (m1) (16) (to), kI E (m3) (16) ((gRows n v (f, [])).1), kI E (m4) (64) (F2)]) (cs' := 0) (ss' := 0) rfl (rfl) rfl rfl ?_
            refine J_icmp_ge C 132 (nI_toInt (n := v) (by omega)) (nI_toInt (n := 2 ^ n) (by omega)) dM_findGates_40 (by decide) (fun h40 => ?_) (fun h40 => ?_)
            · obtain rfl : 2 ^ n = v := by omega
              have eg := gts_of (n := n) (t := to) (f := f) (fun j hj => by rw [hf j, if_pos hj])
              exact hret _ _ _ _ _ dM_findGates_132 (by decide) (by decide) (⟨_, F2, rfl, by rw [← eg]; exact hF2, by rw [← eg]⟩)
            · have hm2x : n * v + n ≤ n * 2 ^ n := by rw [← Nat.mul_succ]; exact Nat.mul_le_mul_left n (by omega)
              simp only [List.length_nil] at lnr
              refine J_iconst C (v := nI (0)) dM_findGates_43 (by decide) ?_
              refine J_istore_n C (lv' := [(0, .ref (h)), (1, .int (nI (v))), (2, .int (nI (0)))]) [1, 2, 0] dM_findGates_44 rfl (by decide) rfl ?_
              have lp_45 : ∀ (k_45 : Nat) (a : Nat) (F3 : Nat → Nat), (a ≤ n) → (gL F3 (g1 n v a (gRows n v (f, []))).2) → (n - a) < k_45 → J 45 [(0, .ref (h)), (1, .int (nI (v))), (2, .int (nI (a)))] [] [((h), .inr (5, [.int (nI (0)), .int (nI (n)), .ref (m1), .int (nI (st)), .ref (m2), .ref (m3), .ref (m4), .int (nI ((g1 n v a (gRows n v (f, []))).2.length)), .ref (m5), .ref (m6), .ref (m7), .ref (m8), .ref (m9), .ref (ma), .ref (mb)])), kI E (m1) (16) (to), kI E (m3) (16) ((g1 n v a (gRows n v (f, []))).1), kI E (m4) (64) (F3)] (0) (0) := by
                intro k_45
                induction k_45 with
                | zero => intro a F3 hi3 hF3 hk_45; exact absurd hk_45 (Nat.not_lt_zero _)
                | succ k_45 ih_45 =>
                  intro a F3 hi3 hF3 hk_45
                  have ok1 := g1_ok (v := v) okr a hi3
                  have ln1 := g1_len (n := n) (v := v) (s := (gRows n v (f, []))) a
                  have bl1 := bcn_le a v
                  refine J_iload_n C 2 dM_findGates_45 rfl rfl ?_
                  refine J_aload_n C 0 dM_findGates_46 rfl rfl ?_
                  refine J_get C 0 1 hinM rfl rfl (by decide) fkM_56 rfl dM_findGates_47 ?_
                  refine J_icmp_ge C 87 (nI_toInt (n := a) (by omega)) (nI_toInt (n := n) (by omega)) dM_findGates_50 (by decide) (fun h50 => ?_) (fun h50 => ?_)
                  · obtain rfl : n = a := by omega
                    refine J_iconst C (v := nI (0)) dM_findGates_87 (by decide) ?_
                    refine J_istore_n C (lv' := [(0, .ref (h)), (1, .int (nI (v))), (2, .int (nI (0)))]) [1, 2, 0] dM_findGates_88 rfl (by decide) rfl ?_
                    have lp_89 : ∀ (k_89 : Nat) (a : Nat) (F4 : Nat → Nat), (a ≤ n) → (gL F4 (g2 n v a (g1 n v n (gRows n v (f, [])))).2) → (n - a) < k_89 → J 89 [(0, .ref (h)), (1, .int (nI (v))), (2, .int (nI (a)))] [] [((h), .inr (5, [.int (nI (0)), .int (nI (n)), .ref (m1), .int (nI (st)), .ref (m2), .ref (m3), .ref (m4), .int (nI ((g2 n v a (g1 n v n (gRows n v (f, [])))).2.length)), .ref (m5), .ref (m6), .ref (m7), .ref (m8), .ref (m9), .ref (ma), .ref (mb)])), kI E (m1) (16) (to), kI E (m3) (16) ((g2 n v a (g1 n v n (gRows n v (f, [])))).1), kI E (m4) (64) (F4)] (0) (0) := by
                      intro k_89
                      induction k_89 with
                      | zero => intro a F4 hi4 hF4 hk_89; exact absurd hk_89 (Nat.not_lt_zero _)
                      | succ k_89 ih_89 =>
                        intro a F4 hi4 hF4 hk_89
                        have ok1 := g2_ok (v := v) (g1_ok (v := v) okr n (Nat.le_refl n)) a hi4
                        have ln2 := g2_len (n := n) (v := v) (s := g1 n v n (gRows n v (f, []))) a
                        have ln1 := g1_len (n := n) (v := v) (s := (gRows n v (f, []))) n
                        have bl1 := bcn_le a v
                        refine J_iload_n C 2 dM_findGates_89 rfl rfl ?_
                        refine J_aload_n C 0 dM_findGates_90 rfl rfl ?_
                        refine J_get C 0 1 hinM rfl rfl (by decide) fkM_56 rfl dM_findGates_91 ?_
                        refine J_icmp_ge C 126 (nI_toInt (n := a) (by omega)) (nI_toInt (n := n) (by omega)) dM_findGates_94 (by decide) (fun h94 => ?_) (fun h94 => ?_)
                        · obtain rfl : n = a := by omega
                          refine J_iinc C (lv' := [(0, .ref (h)), (1, .int (nI (v + 1))), (2, .int (nI (n)))]) 1 [1, 0, 2] dM_findGates_126 rfl (jn_inc _) (by decide) rfl ?_
                          refine J_goto C 35 dM_findGates_129 (by decide) ?_
                          refine J_lv C (lv' := [(0, .ref h), (1, .int (nI (v + 1)))]) [0, 1] rfl ?_
                          exact ih_35 (v + 1) F4 (by omega) (hF4) (by omega)
                        · refine J_aload_n C 0 dM_findGates_97 rfl rfl ?_
                          refine J_get C 0 5 hinM rfl rfl (by decide) fkM_16 rfl dM_findGates_98 ?_
                          refine J_iload_n C 1 dM_findGates_101 rfl rfl ?_
                          refine J_iald C 2 rfl (by omega) (by omega) dM_findGates_102 ?_
                          refine J_iload_n C 1 dM_findGates_103 rfl rfl ?_
                          refine J_iconst C (v := -1) dM_findGates_104 (by decide) ?_
                          refine J_ixor C dM_findGates_105 ?_
                          refine J_iand C dM_findGates_106 ?_
                          refine J_iconst C (v := nI (1)) dM_findGates_107 (by decide) ?_
                          refine J_iload_n C 2 dM_findGates_108 rfl rfl ?_
                          refine J_ishl1 C dM_findGates_109 (by omega) ?_
                          refine J_iand C dM_findGates_110 ?_
                          refine J_topX C (x' := nI (if ((g2 n v a (g1 n v n (gRows n v (f, [])))).1 v).testBit a = true ∧ v.testBit a = false then 2 ^ a else 0)) (bit_not _ (by have := ok1 v (by omega); omega) v (by omega) a (by omega)) ?_
                          refine J_if_eq C 120 (nI_toInt (n := if ((g2 n v a (g1 n v n (gRows n v (f, [])))).1 v).testBit a = true ∧ v.testBit a = false then 2 ^ a else 0) (if_two_lt (by omega))) dM_findGates_111 (by decide) (fun h111 => ?_) (fun h111 => ?_)
                          · have e := g2_f (if_two_eq h111)
                            refine J_iinc C (lv' := [(0, .ref (h)), (1, .int (nI (v))), (2, .int (nI (a + 1)))]) 2 [1, 2, 0] dM_findGates_120 rfl (jn_inc _) (by decide) rfl ?_
                            refine J_goto C 89 dM_findGates_123 (by decide) ?_
                            rw [← e]
                            rw [← e] at hF4
                            exact ih_89 (a + 1) F4 (by omega) (hF4) (by omega)
                          · have hc111 := if_two_ne h111
                            refine J_aload_n C 0 dM_findGates_114 rfl rfl ?_
                            refine J_iload_n C 2 dM_findGates_115 rfl rfl ?_
                            refine J_iload_n C 1 dM_findGates_116 rfl rfl ?_
                            refine J_pick C (ws' := [((h), .inr (5, [.int (nI (0)), .int (nI (n)), .ref (m1), .int (nI (st)), .ref (m2), .ref (m3), .ref (m4), .int (nI ((g2 n v a (g1 n v n (gRows n v (f, [])))).2.length)), .ref (m5), .ref (m6), .ref (m7), .ref (m8), .ref (m9), .ref (ma), .ref (mb)])), kI E (m3) (16) ((g2 n v a (g1 n v n (gRows n v (f, [])))).1), kI E (m4) (64) (F4), kI E (m1) (16) (to)]) [0, 2, 3, 1] (by decide) rfl ?_
                            refine J_callV C (rest := []) [] [((h), .inr (5, [.int (nI (0)), .int (nI (n)), .ref (m1), .int (nI (st)), .ref (m2), .ref (m3), .ref (m4), .int (nI ((g2 n v a (g1 n v n (gRows n v (f, [])))).2.length)), .ref (m5), .ref (m6), .ref (m7), .ref (m8), .ref (m9), .ref (ma), .ref (mb)])), kI E (m3) (16) ((g2 n v a (g1 n v n (gRows n v (f, [])))).1), kI E (m4) (64) (F4)] [kI E (m1) (16) (to)] 0 (c_M_doGate E l h n st m1 m2 m3 m4 m5 m6 m7 m8 m9 ma mb (g2 n v a (g1 n v n (gRows n v (f, [])))) F4 a v (by omega) (by omega) (ok1) (hF4) (by omega) (by omega) (by have := bcn_gap (v := v) (n := n) (a := a) (by omega) hc111.2; omega)) mmM_doGate msM_doGate lkM_74 rfl rfl (rfl) rfl rfl ⟨by decide, by decide⟩ ⟨by decide, by decide⟩ (Nat.le_of_ble_eq_true rfl) dM_findGates_117 (fun r_c w_c hp => ?_)
                            obtain ⟨F1_1, rfl, hF1, rfl⟩ := hp
                            refine J_norm C (st' := []) (ws' := [((h), .inr (5, [.int (nI (0)), .int (nI (n)), .ref (m1), .int (nI (st)), .ref (m2), .ref (m3), .ref (m4), .int (nI ((gU n (g2 n v a (g1 n v n (gRows n v (f, [])))) a v).2.length)), .ref (m5), .ref (m6), .ref (m7), .ref (m8), .ref (m9), .ref (ma), .ref (mb)])), kI E (m3) (16) ((gU n (g2 n v a (g1 n v n (gRows n v (f, [])))) a v).1), kI E (m4) (64) (F1_1), kI E (m1) (16) (to)]) (cs' := 0) (ss' := 0) rfl (rfl) rfl rfl ?_
                            refine J_pick C (ws' := [((h), .inr (5, [.int (nI (0)), .int (nI (n)), .ref (m1), .int (nI (st)), .ref (m2), .ref (m3), .ref (m4), .int (nI ((gU n (g2 n v a (g1 n v n (gRows n v (f, [])))) a v).2.length)), .ref (m5), .ref (m6), .ref (m7), .ref (m8), .ref (m9), .ref (ma), .ref (mb)])), kI E (m1) (16) (to), kI E (m3) (16) ((gU n (g2 n v a (g1 n v n (gRows n v (f, [])))) a v).1), kI E (m4) (64) (F1_1)]) [0, 3, 1, 2] (by decide) rfl ?_
                            have e := g2_t hc111
                            refine J_iinc C (lv' := [(0, .ref (h)), (1, .int (nI (v))), (2, .int (nI (a + 1)))]) 2 [1, 2, 0] dM_findGates_120 rfl (jn_inc _) (by decide) rfl ?_
                            refine J_goto C 89 dM_findGates_123 (by decide) ?_
                            rw [← e]
                            rw [← e] at hF1
                            exact ih_89 (a + 1) F1_1 (by omega) (hF1) (by omega)
                    exact lp_89 (n + 1) 0 F3 (by omega) (hF3) (by omega)
                  · refine J_iload_n C 1 dM_findGates_53 rfl rfl ?_
                    refine J_aload_n C 0 dM_findGates_54 rfl rfl ?_
                    refine J_get C 0 5 hinM rfl rfl (by decide) fkM_16 rfl dM_findGates_55 ?_
                    refine J_iload_n C 1 dM_findGates_58 rfl rfl ?_
                    refine J_iald C 2 rfl (by omega) (by omega) dM_findGates_59 ?_
                    refine J_iconst C (v := -1) dM_findGates_60 (by decide) ?_
                    refine J_ixor C dM_findGates_61 ?_
                    refine J_iand C dM_findGates_62 ?_
                    refine J_iconst C (v := nI (1)) dM_findGates_63 (by decide) ?_
                    refine J_iload_n C 2 dM_findGates_64 rfl rfl ?_
                    refine J_ishl1 C dM_findGates_65 (by omega) ?_
                    refine J_iand C dM_findGates_66 ?_
                    refine J_topX C (x' := nI (if v.testBit a = true ∧ ((g1 n v a (gRows n v (f, []))).1 v).testBit a = false then 2 ^ a else 0)) (bit_not v (by omega) _ (by have := ok1 v (by omega); omega) a (by omega)) ?_
                    refine J_if_eq C 81 (nI_toInt (n := if v.testBit a = true ∧ ((g1 n v a (gRows n v (f, []))).1 v).testBit a = false then 2 ^ a else 0) (if_two_lt (by omega))) dM_findGates_67 (by decide) (fun h67 => ?_) (fun h67 => ?_)
                    · have e := g1_f (if_two_eq h67)
                      refine J_iinc C (lv' := [(0, .ref (h)), (1, .int (nI (v))), (2, .int (nI (a + 1)))]) 2 [1, 2, 0] dM_findGates_81 rfl (jn_inc _) (by decide) rfl ?_
                      refine J_goto C 45 dM_findGates_84 (by decide) ?_
                      rw [← e]
                      rw [← e] at hF3
                      exact ih_45 (a + 1) F3 (by omega) (hF3) (by omega)
                    · have hc67 := if_two_ne h67
                      refine J_aload_n C 0 dM_findGates_70 rfl rfl ?_
                      refine J_iload_n C 2 dM_findGates_71 rfl rfl ?_
                      refine J_aload_n C 0 dM_findGates_72 rfl rfl ?_
                      refine J_get C 0 5 hinM rfl rfl (by decide) fkM_16 rfl dM_findGates_73 ?_
                      refine J_iload_n C 1 dM_findGates_76 rfl rfl ?_
                      refine J_iald C 2 rfl (by omega) (by omega) dM_findGates_77 ?_
                      refine J_pick C (ws' := [((h), .inr (5, [.int (nI (0)), .int (nI (n)), .ref (m1), .int (nI (st)), .ref (m2), .ref (m3), .ref (m4), .int (nI ((g1 n v a (gRows n v (f, []))).2.length)), .ref (m5), .ref (m6), .ref (m7), .ref (m8), .ref (m9), .ref (ma), .ref (mb)])), kI E (m3) (16) ((g1 n v a (gRows n v (f, []))).1), kI E (m4) (64) (F3), kI E (m1) (16) (to)]) [0, 2, 3, 1] (by decide) rfl ?_
                      refine J_callV C (rest := []) [] [((h), .inr (5, [.int (nI (0)), .int (nI (n)), .ref (m1), .int (nI (st)), .ref (m2), .ref (m3), .ref (m4), .int (nI ((g1 n v a (gRows n v (f, []))).2.length)), .ref (m5), .ref (m6), .ref (m7), .ref (m8), .ref (m9), .ref (ma), .ref (mb)])), kI E (m3) (16) ((g1 n v a (gRows n v (f, []))).1), kI E (m4) (64) (F3)] [kI E (m1) (16) (to)] 0 (c_M_doGate E l h n st m1 m2 m3 m4 m5 m6 m7 m8 m9 ma mb (g1 n v a (gRows n v (f, []))) F3 a (((g1 n v a (gRows n v (f, []))).1) v) (by omega) (by omega) (ok1) (hF3) (by omega) (ok1 v (by omega)) (by omega)) mmM_doGate msM_doGate lkM_74 rfl rfl (rfl) rfl rfl ⟨by decide, by decide⟩ ⟨by decide, by decide⟩ (Nat.le_of_ble_eq_true rfl) dM_findGates_78 (fun r_c w_c hp => ?_)
                      obtain ⟨F1_2, rfl, hF1, rfl⟩ := hp
                      refine J_norm C (st' := []) (ws' := [((h), .inr (5, [.int (nI (0)), .int (nI (n)), .ref (m1), .int (nI (st)), .ref (m2), .ref (m3), .ref (m4), .int (nI ((gU n (g1 n v a (gRows n v (f, []))) a (((g1 n v a (gRows n v (f, []))).1) v)).2.length)), .ref (m5), .ref (m6), .ref (m7), .ref (m8), .ref (m9), .ref (ma), .ref (mb)])), kI E (m3) (16) ((gU n (g1 n v a (gRows n v (f, []))) a (((g1 n v a (gRows n v (f, []))).1) v)).1), kI E (m4) (64) (F1_2), kI E (m1) (16) (to)]) (cs' := 0) (ss' := 0) rfl (rfl) rfl rfl ?_
                      refine J_pick C (ws' := [((h), .inr (5, [.int (nI (0)), .int (nI (n)), .ref (m1), .int (nI (st)), .ref (m2), .ref (m3), .ref (m4), .int (nI ((gU n (g1 n v a (gRows n v (f, []))) a (((g1 n v a (gRows n v (f, []))).1) v)).2.length)), .ref (m5), .ref (m6), .ref (m7), .ref (m8), .ref (m9), .ref (ma), .ref (mb)])), kI E (m1) (16) (to), kI E (m3) (16) ((gU n (g1 n v a (gRows n v (f, []))) a (((g1 n v a (gRows n v (f, []))).1) v)).1), kI E (m4) (64) (F1_2)]) [0, 3, 1, 2] (by decide) rfl ?_
                      have e := g1_t hc67
                      refine J_iinc C (lv' := [(0, .ref (h)), (1, .int (nI (v))), (2, .int (nI (a + 1)))]) 2 [1, 2, 0] dM_findGates_81 rfl (jn_inc _) (by decide) rfl ?_
                      refine J_goto C 45 dM_findGates_84 (by decide) ?_
                      rw [← e]
                      rw [← e] at hF1
                      exact ih_45 (a + 1) F1_2 (by omega) (hF1) (by omega)
              exact lp_45 (n + 1) 0 F2 (by omega) (hF2) (by omega)
        exact lp_35 (2 ^ n + 1) 0 md (by omega) (gL_nil _) (by omega)
      · refine J_aload_n C 0 dM_findGates_15 rfl rfl ?_
        refine J_get C 0 5 hinM rfl rfl (by decide) fkM_16 rfl dM_findGates_16 ?_
        refine J_iload_n C 1 dM_findGates_19 rfl rfl ?_
        refine J_aload_n C 0 dM_findGates_20 rfl rfl ?_
        refine J_get C 0 2 hinM rfl rfl (by decide) fkM_7 rfl dM_findGates_21 ?_
        refine J_iload_n C 1 dM_findGates_24 rfl rfl ?_
        refine J_iald C 1 rfl (by omega) (by omega) dM_findGates_25 ?_
        refine J_iastN C (ws' := [((h), .inr (5, [.int (nI (0)), .int (nI (n)), .ref (m1), .int (nI (st)), .ref (m2), .ref (m3), .ref (m4), .int (nI (0)), .ref (m5), .ref (m6), .ref (m7), .ref (m8), .ref (m9), .ref (ma), .ref (mb)])), kI E (m1) (16) (to), kI E (m3) (16) (upN f i (to i)), kI E (m4) (64) (md)]) 2 rfl (by omega) (by omega) dM_findGates_26 rfl ?_
        refine J_iinc C (lv' := [(0, .ref (h)), (1, .int (nI (i + 1)))]) 1 [1, 0] dM_findGates_27 rfl (jn_inc _) (by decide) rfl ?_
        refine J_goto C 7 dM_findGates_30 (by decide) ?_
        exact ih_7 (i + 1) (upN f i (to i)) (by omega) (cp_s hf) (by omega)
  exact lp_7 (2 ^ n + 1) 0 wk (by omega) (by intro j; simp) (by omega)
set_option maxHeartbeats 4000000 in
set_option maxRecDepth 100000 in
theorem c_M_gate_f (E : jE) (l : Launch) (h : Nat) (n : Nat) (st : Nat) (mn : Nat) (m1 : Nat) (m2 : Nat) (m3 : Nat) (m4 : Nat) (m5 : Nat) (m6 : Nat) (m7 : Nat) (m8 : Nat) (m9 : Nat) (ma : Nat) (mb : Nat) (to : Nat → Nat) (x : Int32) (hn1 : 1 ≤ n) (hn4 : n ≤ 4) (ht : ∀ v, v < 2 ^ n → to v < 2 ^ n) (hq : sn to (2 ^ n) ≠ 2 ^ 2 ^ n - 1) : Con E l yM_gate bM_gate 2 (some .int) { frames := 2, cells := 0, slots := 0, locals := 42 } [.ref (h), .int (x)] [((h), .inr (5, [.int (nI (0)), .int (nI (n)), .ref (m1), .int (nI (st)), .ref (m2), .ref (m3), .ref (m4), .int (nI (mn)), .ref (m5), .ref (m6), .ref (m7), .ref (m8), .ref (m9), .ref (ma), .ref (mb)])), kI E (m1) (16) (to)] (fun r w => r = some (.int (-1)) ∧ w = [((h), .inr (5, [.int (nI (0)), .int (nI (n)), .ref (m1), .int (nI (st)), .ref (m2), .ref (m3), .ref (m4), .int (nI (mn)), .ref (m5), .ref (m6), .ref (m7), .ref (m8), .ref (m9), .ref (ma), .ref (mb)])), kI E (m1) (16) (to)]) := by
  refine Con.ofI (by decide) (Nat.le_of_ble_eq_true rfl) ?_
  intro J C hret
  show J 0 [(0, .ref (h)), (1, .int (x))] [] [((h), .inr (5, [.int (nI (0)), .int (nI (n)), .ref (m1), .int (nI (st)), .ref (m2), .ref (m3), .ref (m4), .int (nI (mn)), .ref (m5), .ref (m6), .ref (m7), .ref (m8), .ref (m9), .ref (ma), .ref (mb)])), kI E (m1) (16) (to)] 0 0
  have hp16 := p16 hn4
  have hp1 := p1 n
  refine J_aload_n C 0 dM_gate_0 rfl rfl ?_
  refine J_iconst C (v := nI (0)) dM_gate_1 (by decide) ?_
  refine J_put C (ws' := [((h), .inr (5, [.int (nI (0)), .int (nI (n)), .ref (m1), .int (nI (st)), .ref (m2), .ref (m3), .ref (m4), .int (nI (mn)), .ref (m5), .ref (m6), .ref (m7), .ref (m8), .ref (m9), .ref (ma), .ref (mb)])), kI E (m1) (16) (to)]) 0 0 tyM hinM tyokM nmM rfl rfl (by decide) fkM_53 rfl rfl rfl (Nat.le_of_ble_eq_true rfl) dM_gate_2 rfl ?_
  refine J_aload_n C 0 dM_gate_5 rfl rfl ?_
  refine J_callV C (rest := []) [] [((h), .inr (5, [.int (nI (0)), .int (nI (n)), .ref (m1), .int (nI (st)), .ref (m2), .ref (m3), .ref (m4), .int (nI (mn)), .ref (m5), .ref (m6), .ref (m7), .ref (m8), .ref (m9), .ref (ma), .ref (mb)])), kI E (m1) (16) (to)] [] 0 (c_M_isPerm_f E l h n st mn m1 m2 m3 m4 m5 m6 m7 m8 m9 ma mb to (by omega) (by omega) (by assumption) (by assumption)) mmM_isPermutation msM_isPermutation lkM_78 rfl rfl (rfl) rfl rfl ⟨by decide, by decide⟩ ⟨by decide, by decide⟩ (Nat.le_of_ble_eq_true rfl) dM_gate_6 (fun r_c w_c hp => ?_)
  obtain ⟨rfl, rfl⟩ := hp
  refine J_norm C (st' := [.int (nI (0))]) (ws' := [((h), .inr (5, [.int (nI (0)), .int (nI (n)), .ref (m1), .int (nI (st)), .ref (m2), .ref (m3), .ref (m4), .int (nI (mn)), .ref (m5), .ref (m6), .ref (m7), .ref (m8), .ref (m9), .ref (ma), .ref (mb)])), kI E (m1) (16) (to)]) (cs' := 0) (ss' := 0) rfl (rfl) rfl rfl ?_
  refine J_if_ne C 14 (nI_toInt (n := 0) (by decide)) dM_gate_9 (by decide) (fun h9 => ?_) (fun h9 => ?_)
  · exfalso; omega
  · refine J_iconst C (v := -1) dM_gate_12 (by decide) ?_
    exact hret _ _ _ _ _ _ dM_gate_13 (by decide) (by decide) (⟨rfl, rfl⟩)
set_option maxHeartbeats 4000000 in
set_option maxRecDepth 100000 in
theorem c_M_gate_m (E : jE) (l : Launch) (h : Nat) (n : Nat) (st : Nat) (mn : Nat) (m1 : Nat) (m2 : Nat) (m3 : Nat) (m4 : Nat) (m5 : Nat) (m6 : Nat) (m7 : Nat) (m8 : Nat) (m9 : Nat) (ma : Nat) (mb : Nat) (to : Nat → Nat) (wk : Nat → Nat) (md : Nat → Nat) (hn1 : 1 ≤ n) (hn4 : n ≤ 4) (ht : ∀ v, v < 2 ^ n → to v < 2 ^ n) (hq : sn to (2 ^ n) = 2 ^ 2 ^ n - 1) : Con E l yM_gate bM_gate 2 (some .int) { frames := 3, cells := 0, slots := 0, locals := 67 } [.ref (h), .int (-1)] [((h), .inr (5, [.int (nI (0)), .int (nI (n)), .ref (m1), .int (nI (st)), .ref (m2), .ref (m3), .ref (m4), .int (nI (mn)), .ref (m5), .ref (m6), .ref (m7), .ref (m8), .ref (m9), .ref (ma), .ref (mb)])), kI E (m1) (16) (to), kI E (m3) (16) (wk), kI E (m4) (64) (md)] (fun r w => ∃ f1 F1 : Nat → Nat, r = some (.int (nI (gts n to).length)) ∧ w = [((h), .inr (5, [.int (nI (0)), .int (nI (n)), .ref (m1), .int (nI (st)), .ref (m2), .ref (m3), .ref (m4), .int (nI ((gts n to).length)), .ref (m5), .ref (m6), .ref (m7), .ref (m8), .ref (m9), .ref (ma), .ref (mb)])), kI E (m1) (16) (to), kI E (m3) (16) (f1), kI E (m4) (64) (F1)]) := by
  refine Con.ofI (by decide) (Nat.le_of_ble_eq_true rfl) ?_
  intro J C hret
  show J 0 [(0, .ref (h)), (1, .int (-1))] [] [((h), .inr (5, [.int (nI (0)), .int (nI (n)), .ref (m1), .int (nI (st)), .ref (m2), .ref (m3), .ref (m4), .int (nI (mn)), .ref (m5), .ref (m6), .ref (m7), .ref (m8), .ref (m9), .ref (ma), .ref (mb)])), kI E (m1) (16) (to), kI E (m3) (16) (wk), kI E (m4) (64) (md)] 0 0
  have hp16 := p16 hn4
  have hp1 := p1 n
  have gl := gts_len hn4 to
  refine J_aload_n C 0 dM_gate_0 rfl rfl ?_
  refine J_iconst C (v := nI (0)) dM_gate_1 (by decide) ?_
  refine J_put C (ws' := [((h), .inr (5, [.int (nI (0)), .int (nI (n)), .ref (m1), .int (nI (st)), .ref (m2), .ref (m3), .ref (m4), .int (nI (mn)), .ref (m5), .ref (m6), .ref (m7), .ref (m8), .ref (m9), .ref (ma), .ref (mb)])), kI E (m1) (16) (to), kI E (m3) (16) (wk), kI E (m4) (64) (md)]) 0 0 tyM hinM tyokM nmM rfl rfl (by decide) fkM_53 rfl rfl rfl (Nat.le_of_ble_eq_true rfl) dM_gate_2 rfl ?_
  refine J_aload_n C 0 dM_gate_5 rfl rfl ?_
  refine J_callV C (rest := []) [] [((h), .inr (5, [.int (nI (0)), .int (nI (n)), .ref (m1), .int (nI (st)), .ref (m2), .ref (m3), .ref (m4), .int (nI (mn)), .ref (m5), .ref (m6), .ref (m7), .ref (m8), .ref (m9), .ref (ma), .ref (mb)])), kI E (m1) (16) (to)] [kI E (m3) (16) (wk), kI E (m4) (64) (md)] 0 (c_M_isPerm_t E l h n st mn m1 m2 m3 m4 m5 m6 m7 m8 m9 ma mb to (by omega) (by omega) (by assumption) (by assumption)) mmM_isPermutation msM_isPermutation lkM_78 rfl rfl (rfl) rfl rfl ⟨by decide, by decide⟩ ⟨by decide, by decide⟩ (Nat.le_of_ble_eq_true rfl) dM_gate_6 (fun r_c w_c hp => ?_)
  obtain ⟨rfl, rfl⟩ := hp
  refine J_norm C (st' := [.int (nI (1))]) (ws' := [((h), .inr (5, [.int (nI (0)), .int (nI (n)), .ref (m1), .int (nI (st)), .ref (m2), .ref (m3), .ref (m4), .int (nI (mn)), .ref (m5), .ref (m6), .ref (m7), .ref (m8), .ref (m9), .ref (ma), .ref (mb)])), kI E (m1) (16) (to), kI E (m3) (16) (wk), kI E (m4) (64) (md)]) (cs' := 0) (ss' := 0) rfl (rfl) rfl rfl ?_
  refine J_if_ne C 14 (nI_toInt (n := 1) (by decide)) dM_gate_9 (by decide) (fun h9 => ?_) (fun h9 => ?_)
  · refine J_aload_n C 0 dM_gate_14 rfl rfl ?_
    refine J_callV C (rest := []) [] [((h), .inr (5, [.int (nI (0)), .int (nI (n)), .ref (m1), .int (nI (st)), .ref (m2), .ref (m3), .ref (m4), .int (nI (mn)), .ref (m5), .ref (m6), .ref (m7), .ref (m8), .ref (m9), .ref (ma), .ref (mb)])), kI E (m1) (16) (to), kI E (m3) (16) (wk), kI E (m4) (64) (md)] [] 0 (c_M_findGates E l h n st mn m1 m2 m3 m4 m5 m6 m7 m8 m9 ma mb to wk md (by omega) (by omega) (by assumption)) mmM_findGates msM_findGates lkM_82 rfl rfl (rfl) rfl rfl ⟨by decide, by decide⟩ ⟨by decide, by decide⟩ (Nat.le_of_ble_eq_true rfl) dM_gate_15 (fun r_c w_c hp => ?_)
    obtain ⟨f1, F1, rfl, hF1, rfl⟩ := hp
    refine J_norm C (st' := []) (ws' := [((h), .inr (5, [.int (nI (0)), .int (nI (n)), .ref (m1), .int (nI (st)), .ref (m2), .ref (m3), .ref (m4), .int (nI ((gts n to).length)), .ref (m5), .ref (m6), .ref (m7), .ref (m8), .ref (m9), .ref (ma), .ref (mb)])), kI E (m1) (16) (to), kI E (m3) (16) (f1), kI E (m4) (64) (F1)]) (cs' := 0) (ss' := 0) rfl (rfl) rfl rfl ?_
    refine J_iload_n C 1 dM_gate_18 rfl rfl ?_
    refine J_iconst C (v := -1) dM_gate_19 (by decide) ?_
    refine J_icmp_ne C 28 j_m1 j_m1 dM_gate_20 (by decide) (fun h20 => ?_) (fun h20 => ?_)
    · exfalso; omega
    · refine J_aload_n C 0 dM_gate_23 rfl rfl ?_
      refine J_get C 0 7 hinM rfl rfl (by decide) fkM_71 rfl dM_gate_24 ?_
      exact hret _ _ _ _ _ _ dM_gate_27 (by decide) (by decide) (⟨f1, F1, rfl, rfl⟩)
  · exfalso; omega
set_option maxHeartbeats 4000000 in
set_option maxRecDepth 100000 in
theorem c_M_gate_k (E : jE) (l : Launch) (h : Nat) (n : Nat) (st : Nat) (mn : Nat) (m1 : Nat) (m2 : Nat) (m3 : Nat) (m4 : Nat) (m5 : Nat) (m6 : Nat) (m7 : Nat) (m8 : Nat) (m9 : Nat) (ma : Nat) (mb : Nat) (to : Nat → Nat) (wk : Nat → Nat) (md : Nat → Nat) (k : Nat) (hn1 : 1 ≤ n) (hn4 : n ≤ 4) (ht : ∀ v, v < 2 ^ n → to v < 2 ^ n) (hq : sn to (2 ^ n) = 2 ^ 2 ^ n - 1) (hk : k < (gts n to).length) : Con E l yM_gate bM_gate 2 (some .int) { frames := 3, cells := 0, slots := 0, locals := 67 } [.ref (h), .int (nI (k))] [((h), .inr (5, [.int (nI (0)), .int (nI (n)), .ref (m1), .int (nI (st)), .ref (m2), .ref (m3), .ref (m4), .int (nI (mn)), .ref (m5), .ref (m6), .ref (m7), .ref (m8), .ref (m9), .ref (ma), .ref (mb)])), kI E (m1) (16) (to), kI E (m3) (16) (wk), kI E (m4) (64) (md)] (fun r w => ∃ f1 F1 : Nat → Nat, r = some (.int (nI ((gts n to).getD ((gts n to).length - 1 - k) 0))) ∧ w = [((h), .inr (5, [.int (nI (0)), .int (nI (n)), .ref (m1), .int (nI (st)), .ref (m2), .ref (m3), .ref (m4), .int (nI ((gts n to).length)), .ref (m5), .ref (m6), .ref (m7), .ref (m8), .ref (m9), .ref (ma), .ref (mb)])), kI E (m1) (16) (to), kI E (m3) (16) (f1), kI E (m4) (64) (F1)]) := by
  refine Con.ofI (by decide) (Nat.le_of_ble_eq_true rfl) ?_
  intro J C hret
  show J 0 [(0, .ref (h)), (1, .int (nI (k)))] [] [((h), .inr (5, [.int (nI (0)), .int (nI (n)), .ref (m1), .int (nI (st)), .ref (m2), .ref (m3), .ref (m4), .int (nI (mn)), .ref (m5), .ref (m6), .ref (m7), .ref (m8), .ref (m9), .ref (ma), .ref (mb)])), kI E (m1) (16) (to), kI E (m3) (16) (wk), kI E (m4) (64) (md)] 0 0
  have hp16 := p16 hn4
  have hp1 := p1 n
  have gl := gts_len hn4 to
  refine J_aload_n C 0 dM_gate_0 rfl rfl ?_
  refine J_iconst C (v := nI (0)) dM_gate_1 (by decide) ?_
  refine J_put C (ws' := [((h), .inr (5, [.int (nI (0)), .int (nI (n)), .ref (m1), .int (nI (st)), .ref (m2), .ref (m3), .ref (m4), .int (nI (mn)), .ref (m5), .ref (m6), .ref (m7), .ref (m8), .ref (m9), .ref (ma), .ref (mb)])), kI E (m1) (16) (to), kI E (m3) (16) (wk), kI E (m4) (64) (md)]) 0 0 tyM hinM tyokM nmM rfl rfl (by decide) fkM_53 rfl rfl rfl (Nat.le_of_ble_eq_true rfl) dM_gate_2 rfl ?_
  refine J_aload_n C 0 dM_gate_5 rfl rfl ?_
  refine J_callV C (rest := []) [] [((h), .inr (5, [.int (nI (0)), .int (nI (n)), .ref (m1), .int (nI (st)), .ref (m2), .ref (m3), .ref (m4), .int (nI (mn)), .ref (m5), .ref (m6), .ref (m7), .ref (m8), .ref (m9), .ref (ma), .ref (mb)])), kI E (m1) (16) (to)] [kI E (m3) (16) (wk), kI E (m4) (64) (md)] 0 (c_M_isPerm_t E l h n st mn m1 m2 m3 m4 m5 m6 m7 m8 m9 ma mb to (by omega) (by omega) (by assumption) (by assumption)) mmM_isPermutation msM_isPermutation lkM_78 rfl rfl (rfl) rfl rfl ⟨by decide, by decide⟩ ⟨by decide, by decide⟩ (Nat.le_of_ble_eq_true rfl) dM_gate_6 (fun r_c w_c hp => ?_)
  obtain ⟨rfl, rfl⟩ := hp
  refine J_norm C (st' := [.int (nI (1))]) (ws' := [((h), .inr (5, [.int (nI (0)), .int (nI (n)), .ref (m1), .int (nI (st)), .ref (m2), .ref (m3), .ref (m4), .int (nI (mn)), .ref (m5), .ref (m6), .ref (m7), .ref (m8), .ref (m9), .ref (ma), .ref (mb)])), kI E (m1) (16) (to), kI E (m3) (16) (wk), kI E (m4) (64) (md)]) (cs' := 0) (ss' := 0) rfl (rfl) rfl rfl ?_
  refine J_if_ne C 14 (nI_toInt (n := 1) (by decide)) dM_gate_9 (by decide) (fun h9 => ?_) (fun h9 => ?_)
  · refine J_aload_n C 0 dM_gate_14 rfl rfl ?_
    refine J_callV C (rest := []) [] [((h), .inr (5, [.int (nI (0)), .int (nI (n)), .ref (m1), .int (nI (st)), .ref (m2), .ref (m3), .ref (m4), .int (nI (mn)), .ref (m5), .ref (m6), .ref (m7), .ref (m8), .ref (m9), .ref (ma), .ref (mb)])), kI E (m1) (16) (to), kI E (m3) (16) (wk), kI E (m4) (64) (md)] [] 0 (c_M_findGates E l h n st mn m1 m2 m3 m4 m5 m6 m7 m8 m9 ma mb to wk md (by omega) (by omega) (by assumption)) mmM_findGates msM_findGates lkM_82 rfl rfl (rfl) rfl rfl ⟨by decide, by decide⟩ ⟨by decide, by decide⟩ (Nat.le_of_ble_eq_true rfl) dM_gate_15 (fun r_c w_c hp => ?_)
    obtain ⟨f1, F1, rfl, hF1, rfl⟩ := hp
    refine J_norm C (st' := []) (ws' := [((h), .inr (5, [.int (nI (0)), .int (nI (n)), .ref (m1), .int (nI (st)), .ref (m2), .ref (m3), .ref (m4), .int (nI ((gts n to).length)), .ref (m5), .ref (m6), .ref (m7), .ref (m8), .ref (m9), .ref (ma), .ref (mb)])), kI E (m1) (16) (to), kI E (m3) (16) (f1), kI E (m4) (64) (F1)]) (cs' := 0) (ss' := 0) rfl (rfl) rfl rfl ?_
    refine J_iload_n C 1 dM_gate_18 rfl rfl ?_
    refine J_iconst C (v := -1) dM_gate_19 (by decide) ?_
    refine J_icmp_ne C 28 (nI_toInt (n := k) (by omega)) j_m1 dM_gate_20 (by decide) (fun h20 => ?_) (fun h20 => ?_)
    · refine J_iload_n C 1 dM_gate_28 rfl rfl ?_
      refine J_if_lt C 56 (nI_toInt (n := k) (by omega)) dM_gate_29 (by decide) (fun h29 => ?_) (fun h29 => ?_)
      · exfalso; omega
      · refine J_iload_n C 1 dM_gate_32 rfl rfl ?_
        refine J_aload_n C 0 dM_gate_33 rfl rfl ?_
        refine J_get C 0 7 hinM rfl rfl (by decide) fkM_71 rfl dM_gate_34 ?_
        refine J_icmp_ge C 56 (nI_toInt (n := k) (by omega)) (nI_toInt (n := (gts n to).length) (by omega)) dM_gate_37 (by decide) (fun h37 => ?_) (fun h37 => ?_)
        · exfalso; omega
        · refine J_aload_n C 0 dM_gate_40 rfl rfl ?_
          refine J_get C 0 6 hinM rfl rfl (by decide) fkM_19 rfl dM_gate_41 ?_
          refine J_aload_n C 0 dM_gate_44 rfl rfl ?_
          refine J_get C 0 7 hinM rfl rfl (by decide) fkM_71 rfl dM_gate_45 ?_
          refine J_iconst C (v := nI (1)) dM_gate_48 (by decide) ?_
          refine J_isubN C dM_gate_49 (by omega) ?_
          refine J_iload_n C 1 dM_gate_50 rfl rfl ?_
          refine J_isubN C dM_gate_51 (by omega) ?_
          refine J_iald C 3 rfl (by omega) (by omega) dM_gate_52 ?_
          refine J_goto C 57 dM_gate_53 (by decide) ?_
          exact hret _ _ _ _ _ _ dM_gate_57 (by decide) (by decide) (⟨f1, F1, by rw [hF1 _ (by omega)], rfl⟩)
    · exfalso; omega
  · exfalso; omega
set_option maxHeartbeats 4000000 in
set_option maxRecDepth 100000 in
theorem c_M_gate_x (E : jE) (l : Launch) (h : Nat) (n : Nat) (st : Nat) (mn : Nat) (m1 : Nat) (m2 : Nat) (m3 : Nat) (m4 : Nat) (m5 : Nat) (m6 : Nat) (m7 : Nat) (m8 : Nat) (m9 : Nat) (ma : Nat) (mb : Nat) (to : Nat → Nat) (wk : Nat → Nat) (md : Nat → Nat) (x : Int32) (hn1 : 1 ≤ n) (hn4 : n ≤ 4) (ht : ∀ v, v < 2 ^ n → to v < 2 ^ n) (hq : sn to (2 ^ n) = 2 ^ 2 ^ n - 1) (hx : x.toInt < -1 ∨ ((gts n to).length : Int) ≤ x.toInt) : Con E l yM_gate bM_gate 2 (some .int) { frames := 3, cells := 0, slots := 0, locals := 67 } [.ref (h), .int (x)] [((h), .inr (5, [.int (nI (0)), .int (nI (n)), .ref (m1), .int (nI (st)), .ref (m2), .ref (m3), .ref (m4), .int (nI (mn)), .ref (m5), .ref (m6), .ref (m7), .ref (m8), .ref (m9), .ref (ma), .ref (mb)])), kI E (m1) (16) (to), kI E (m3) (16) (wk), kI E (m4) (64) (md)] (fun r w => ∃ f1 F1 : Nat → Nat, r = some (.int (-1)) ∧ w = [((h), .inr (5, [.int (nI (0)), .int (nI (n)), .ref (m1), .int (nI (st)), .ref (m2), .ref (m3), .ref (m4), .int (nI ((gts n to).length)), .ref (m5), .ref (m6), .ref (m7), .ref (m8), .ref (m9), .ref (ma), .ref (mb)])), kI E (m1) (16) (to), kI E (m3) (16) (f1), kI E (m4) (64) (F1)]) := by
  refine Con.ofI (by decide) (Nat.le_of_ble_eq_true rfl) ?_
  intro J C hret
  show J 0 [(0, .ref (h)), (1, .int (x))] [] [((h), .inr (5, [.int (nI (0)), .int (nI (n)), .ref (m1), .int (nI (st)), .ref (m2), .ref (m3), .ref (m4), .int (nI (mn)), .ref (m5), .ref (m6), .ref (m7), .ref (m8), .ref (m9), .ref (ma), .ref (mb)])), kI E (m1) (16) (to), kI E (m3) (16) (wk), kI E (m4) (64) (md)] 0 0
  have hp16 := p16 hn4
  have hp1 := p1 n
  have gl := gts_len hn4 to
  refine J_aload_n C 0 dM_gate_0 rfl rfl ?_
  refine J_iconst C (v := nI (0)) dM_gate_1 (by decide) ?_
  refine J_put C (ws' := [((h), .inr (5, [.int (nI (0)), .int (nI (n)), .ref (m1), .int (nI (st)), .ref (m2), .ref (m3), .ref (m4), .int (nI (mn)), .ref (m5), .ref (m6), .ref (m7), .ref (m8), .ref (m9), .ref (ma), .ref (mb)])), kI E (m1) (16) (to), kI E (m3) (16) (wk), kI E (m4) (64) (md)]) 0 0 tyM hinM tyokM nmM rfl rfl (by decide) fkM_53 rfl rfl rfl (Nat.le_of_ble_eq_true rfl) dM_gate_2 rfl ?_
  refine J_aload_n C 0 dM_gate_5 rfl rfl ?_
  refine J_callV C (rest := []) [] [((h), .inr (5, [.int (nI (0)), .int (nI (n)), .ref (m1), .int (nI (st)), .ref (m2), .ref (m3), .ref (m4), .int (nI (mn)), .ref (m5), .ref (m6), .ref (m7), .ref (m8), .ref (m9), .ref (ma), .ref (mb)])), kI E (m1) (16) (to)] [kI E (m3) (16) (wk), kI E (m4) (64) (md)] 0 (c_M_isPerm_t E l h n st mn m1 m2 m3 m4 m5 m6 m7 m8 m9 ma mb to (by omega) (by omega) (by assumption) (by assumption)) mmM_isPermutation msM_isPermutation lkM_78 rfl rfl (rfl) rfl rfl ⟨by decide, by decide⟩ ⟨by decide, by decide⟩ (Nat.le_of_ble_eq_true rfl) dM_gate_6 (fun r_c w_c hp => ?_)
  obtain ⟨rfl, rfl⟩ := hp
  refine J_norm C (st' := [.int (nI (1))]) (ws' := [((h), .inr (5, [.int (nI (0)), .int (nI (n)), .ref (m1), .int (nI (st)), .ref (m2), .ref (m3), .ref (m4), .int (nI (mn)), .ref (m5), .ref (m6), .ref (m7), .ref (m8), .ref (m9), .ref (ma), .ref (mb)])), kI E (m1) (16) (to), kI E (m3) (16) (wk), kI E (m4) (64) (md)]) (cs' := 0) (ss' := 0) rfl (rfl) rfl rfl ?_
  refine J_if_ne C 14 (nI_toInt (n := 1) (by decide)) dM_gate_9 (by decide) (fun h9 => ?_) (fun h9 => ?_)
  · refine J_aload_n C 0 dM_gate_14 rfl rfl ?_
    refine J_callV C (rest := []) [] [((h), .inr (5, [.int (nI (0)), .int (nI (n)), .ref (m1), .int (nI (st)), .ref (m2), .ref (m3), .ref (m4), .int (nI (mn)), .ref (m5), .ref (m6), .ref (m7), .ref (m8), .ref (m9), .ref (ma), .ref (mb)])), kI E (m1) (16) (to), kI E (m3) (16) (wk), kI E (m4) (64) (md)] [] 0 (c_M_findGates E l h n st mn m1 m2 m3 m4 m5 m6 m7 m8 m9 ma mb to wk md (by omega) (by omega) (by assumption)) mmM_findGates msM_findGates lkM_82 rfl rfl (rfl) rfl rfl ⟨by decide, by decide⟩ ⟨by decide, by decide⟩ (Nat.le_of_ble_eq_true rfl) dM_gate_15 (fun r_c w_c hp => ?_)
    obtain ⟨f1, F1, rfl, hF1, rfl⟩ := hp
    refine J_norm C (st' := []) (ws' := [((h), .inr (5, [.int (nI (0)), .int (nI (n)), .ref (m1), .int (nI (st)), .ref (m2), .ref (m3), .ref (m4), .int (nI ((gts n to).length)), .ref (m5), .ref (m6), .ref (m7), .ref (m8), .ref (m9), .ref (ma), .ref (mb)])), kI E (m1) (16) (to), kI E (m3) (16) (f1), kI E (m4) (64) (F1)]) (cs' := 0) (ss' := 0) rfl (rfl) rfl rfl ?_
    refine J_iload_n C 1 dM_gate_18 rfl rfl ?_
    refine J_iconst C (v := -1) dM_gate_19 (by decide) ?_
    refine J_icmp_ne C 28 rfl j_m1 dM_gate_20 (by decide) (fun h20 => ?_) (fun h20 => ?_)
    · refine J_iload_n C 1 dM_gate_28 rfl rfl ?_
      refine J_if_lt C 56 rfl dM_gate_29 (by decide) (fun h29 => ?_) (fun h29 => ?_)
      · refine J_iconst C (v := -1) dM_gate_56 (by decide) ?_
        exact hret _ _ _ _ _ _ dM_gate_57 (by decide) (by decide) (⟨f1, F1, rfl, rfl⟩)
      · refine J_iload_n C 1 dM_gate_32 rfl rfl ?_
        refine J_aload_n C 0 dM_gate_33 rfl rfl ?_
        refine J_get C 0 7 hinM rfl rfl (by decide) fkM_71 rfl dM_gate_34 ?_
        refine J_icmp_ge C 56 rfl (nI_toInt (n := (gts n to).length) (by omega)) dM_gate_37 (by decide) (fun h37 => ?_) (fun h37 => ?_)
        · refine J_iconst C (v := -1) dM_gate_56 (by decide) ?_
          exact hret _ _ _ _ _ _ dM_gate_57 (by decide) (by decide) (⟨f1, F1, rfl, rfl⟩)
        · exfalso; omega
    · exfalso; omega
  · exfalso; omega
