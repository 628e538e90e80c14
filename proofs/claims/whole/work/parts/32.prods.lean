set_option maxHeartbeats 4000000 in
set_option maxRecDepth 100000 in
theorem c_P_count (E : jE) (l : Launch) (n : Nat) (hn4 : n ≤ 4) : Con E l yP_count bP_count 3 (some .int) { frames := 0, cells := 0, slots := 0, locals := 0 } [.int (nI (n))] [] (fun r w => r = some (.int (nI (3 ^ n))) ∧ w = []) := by
  refine Con.ofI (by decide) (Nat.le_of_ble_eq_true rfl) ?_
  intro J C hret
  show J 0 [(0, .int (nI (n)))] [] [] 0 0
  refine J_iconst C (v := nI (1)) dP_count_0 (by decide) ?_
  refine J_istore_n C (lv' := [(0, .int (nI (n))), (1, .int (nI (1)))]) [1, 0] dP_count_1 rfl (by decide) rfl ?_
  refine J_iconst C (v := nI (0)) dP_count_2 (by decide) ?_
  refine J_istore_n C (lv' := [(0, .int (nI (n))), (1, .int (nI (1))), (2, .int (nI (0)))]) [1, 2, 0] dP_count_3 rfl (by decide) rfl ?_
  have lp_4 : ∀ (k_4 : Nat) (i : Nat), (i ≤ n) → (n - i) < k_4 → J 4 [(0, .int (nI (n))), (1, .int (nI (3 ^ i))), (2, .int (nI (i)))] [] [] (0) (0) := by
    intro k_4
    induction k_4 with
    | zero => intro i hi hk_4; exact absurd hk_4 (Nat.not_lt_zero _)
    | succ k_4 ih_4 =>
      intro i hi hk_4
      refine J_iload_n C 2 dP_count_4 rfl rfl ?_
      refine J_iload_n C 0 dP_count_5 rfl rfl ?_
      refine J_icmp_ge C 19 (nI_toInt (n := i) (by omega)) (nI_toInt (n := n) (by omega)) dP_count_6 (by decide) (fun h6 => ?_) (fun h6 => ?_)
      · obtain rfl : n = i := by omega
        refine J_iload_n C 1 dP_count_19 rfl rfl ?_
        exact hret _ _ _ _ _ _ dP_count_20 (by decide) (by decide) (⟨rfl, rfl⟩)
      · refine J_iload_n C 1 dP_count_9 rfl rfl ?_
        refine J_iconst C (v := nI (3)) dP_count_10 (by decide) ?_
        refine J_imulN C dP_count_11 ?_
        refine J_topN C (n' := 3 ^ (i + 1)) ((Nat.pow_succ 3 i).symm) ?_
        refine J_istore_n C (lv' := [(0, .int (nI (n))), (1, .int (nI (3 ^ (i + 1)))), (2, .int (nI (i)))]) [1, 0, 2] dP_count_12 rfl (by decide) rfl ?_
        refine J_iinc C (lv' := [(0, .int (nI (n))), (1, .int (nI (3 ^ (i + 1)))), (2, .int (nI (i + 1)))]) 2 [1, 2, 0] dP_count_13 rfl (jn_inc _) (by decide) rfl ?_
        refine J_goto C 4 dP_count_16 (by decide) ?_
        exact ih_4 (i + 1) (by omega) (by omega)
  exact lp_4 (n + 1) 0 (by omega) (by omega)
set_option maxHeartbeats 4000000 in
set_option maxRecDepth 100000 in
theorem c_P_holds_t (E : jE) (l : Launch) (n : Nat) (p : Nat) (v : Nat) (hn4 : n ≤ 4) (hp : p < 81) (hv : v < 16) (hq : hb p v n = true) : Con E l yP_holds bP_holds 7 (some .boolean) { frames := 0, cells := 0, slots := 0, locals := 0 } [.int (nI (n)), .int (nI (p)), .int (nI (v))] [] (fun r w => r = some (.int (nI 1)) ∧ w = []) := by
  refine Con.ofZ (by decide) (Nat.le_of_ble_eq_true rfl) ?_
  intro J C hret
  show J 0 [(0, .int (nI (n))), (1, .int (nI (p))), (2, .int (nI (v)))] [] [] 0 0
  refine J_iload_n C 1 dP_holds_0 rfl rfl ?_
  refine J_istore_n C (lv' := [(0, .int (nI (n))), (1, .int (nI (p))), (2, .int (nI (v))), (3, .int (nI (p)))]) [1, 2, 3, 0] dP_holds_1 rfl (by decide) rfl ?_
  refine J_iconst C (v := nI (0)) dP_holds_2 (by decide) ?_
  refine J_istore C (lv' := [(0, .int (nI (n))), (1, .int (nI (p))), (2, .int (nI (v))), (3, .int (nI (p))), (4, .int (nI (0)))]) [1, 2, 3, 4, 0] dP_holds_3 (by decide) rfl ?_
  have lp_5 : ∀ (k_5 : Nat) (b : Nat), (b ≤ n) → (hb p v b = true) → (n - b) < k_5 → J 5 [(0, .int (nI (n))), (1, .int (nI (p))), (2, .int (nI (v))), (3, .int (nI (p / 3 ^ b))), (4, .int (nI (b)))] [] [] (0) (0) := by
    intro k_5
    induction k_5 with
    | zero => intro b hi hbt hk_5; exact absurd hk_5 (Nat.not_lt_zero _)
    | succ k_5 ih_5 =>
      intro b hi hbt hk_5
      have hd := pdiv_lt hp b
      have he := and1_le (v / 2 ^ b)
      have hd3 := Nat.mod_lt (p / 3 ^ b) (show 0 < 3 by omega)
      refine J_iload C 4 dP_holds_5 rfl ?_
      refine J_iload_n C 0 dP_holds_7 rfl rfl ?_
      refine J_icmp_ge C 59 (nI_toInt (n := b) (by omega)) (nI_toInt (n := n) (by omega)) dP_holds_8 (by decide) (fun h8 => ?_) (fun h8 => ?_)
      · obtain rfl : n = b := by omega
        refine J_iconst C (v := nI (1)) dP_holds_59 (by decide) ?_
        exact hret _ _ _ _ _ _ dP_holds_60 (by decide) (by decide) (by decide) (⟨rfl, rfl⟩)
      · refine J_iload_n C 3 dP_holds_11 rfl rfl ?_
        refine J_iconst C (v := nI (3)) dP_holds_12 (by decide) ?_
        refine J_iremN C dP_holds_13 (by omega) (by omega) (by omega) ?_
        refine J_istore C (lv' := [(0, .int (nI (n))), (1, .int (nI (p))), (2, .int (nI (v))), (3, .int (nI (p / 3 ^ b))), (4, .int (nI (b))), (5, .int (nI ((p / 3 ^ b) % 3)))]) [1, 2, 3, 4, 5, 0] dP_holds_14 (by decide) rfl ?_
        refine J_iload_n C 2 dP_holds_16 rfl rfl ?_
        refine J_iload C 4 dP_holds_17 rfl ?_
        refine J_ishrN C dP_holds_19 (by omega) (by omega) ?_
        refine J_iconst C (v := nI (1)) dP_holds_20 (by decide) ?_
        refine J_iandN C dP_holds_21 ?_
        refine J_istore C (lv' := [(0, .int (nI (n))), (1, .int (nI (p))), (2, .int (nI (v))), (3, .int (nI (p / 3 ^ b))), (4, .int (nI (b))), (5, .int (nI ((p / 3 ^ b) % 3))), (6, .int (nI ((v / 2 ^ b) &&& 1)))]) [1, 2, 3, 4, 5, 6, 0] dP_holds_22 (by decide) rfl ?_
        refine J_iload C 5 dP_holds_24 rfl ?_
        refine J_iconst C (v := nI (1)) dP_holds_26 (by decide) ?_
        refine J_icmp_ne C 35 (nI_toInt (n := (p / 3 ^ b) % 3) (by omega)) (nI_toInt (n := 1) (by decide)) dP_holds_27 (by decide) (fun h27 => ?_) (fun h27 => ?_)
        · refine J_iload C 5 dP_holds_35 rfl ?_
          refine J_iconst C (v := nI (2)) dP_holds_37 (by decide) ?_
          refine J_icmp_ne C 49 (nI_toInt (n := (p / 3 ^ b) % 3) (by omega)) (nI_toInt (n := 2) (by decide)) dP_holds_38 (by decide) (fun h38 => ?_) (fun h38 => ?_)
          · refine J_iload_n C 3 dP_holds_49 rfl rfl ?_
            refine J_iconst C (v := nI (3)) dP_holds_50 (by decide) ?_
            refine J_idivN C dP_holds_51 (by omega) (by omega) (by omega) ?_
            refine J_topN C (n' := p / 3 ^ (b + 1)) (pdiv3 p b) ?_
            refine J_istore_n C (lv' := [(0, .int (nI (n))), (1, .int (nI (p))), (2, .int (nI (v))), (3, .int (nI (p / 3 ^ (b + 1)))), (4, .int (nI (b))), (5, .int (nI ((p / 3 ^ b) % 3))), (6, .int (nI ((v / 2 ^ b) &&& 1)))]) [1, 2, 3, 0, 4, 5, 6] dP_holds_52 rfl (by decide) rfl ?_
            refine J_iinc C (lv' := [(0, .int (nI (n))), (1, .int (nI (p))), (2, .int (nI (v))), (3, .int (nI (p / 3 ^ (b + 1)))), (4, .int (nI (b + 1))), (5, .int (nI ((p / 3 ^ b) % 3))), (6, .int (nI ((v / 2 ^ b) &&& 1)))]) 4 [1, 2, 3, 4, 0, 5, 6] dP_holds_53 rfl (jn_inc _) (by decide) rfl ?_
            refine J_goto C 5 dP_holds_56 (by decide) ?_
            refine J_lv C (lv' := [(0, .int (nI (n))), (1, .int (nI (p))), (2, .int (nI (v))), (3, .int (nI (p / 3 ^ (b + 1)))), (4, .int (nI (b + 1)))]) [0, 1, 2, 3, 4] rfl ?_
            exact ih_5 (b + 1) (by omega) (hb_s hbt (okd_of (Nat.mod_lt _ (by omega)) (tb_and1 v b) (by omega) (by omega))) (by omega)
          · refine J_iload C 6 dP_holds_41 rfl ?_
            refine J_iconst C (v := nI (1)) dP_holds_43 (by decide) ?_
            refine J_icmp_ne C 49 (nI_toInt (n := (v / 2 ^ b) &&& 1) (by omega)) (nI_toInt (n := 1) (by decide)) dP_holds_44 (by decide) (fun h44 => ?_) (fun h44 => ?_)
            · refine J_iload_n C 3 dP_holds_49 rfl rfl ?_
              refine J_iconst C (v := nI (3)) dP_holds_50 (by decide) ?_
              refine J_idivN C dP_holds_51 (by omega) (by omega) (by omega) ?_
              refine J_topN C (n' := p / 3 ^ (b + 1)) (pdiv3 p b) ?_
              refine J_istore_n C (lv' := [(0, .int (nI (n))), (1, .int (nI (p))), (2, .int (nI (v))), (3, .int (nI (p / 3 ^ (b + 1)))), (4, .int (nI (b))), (5, .int (nI ((p / 3 ^ b) % 3))), (6, .int (nI ((v / 2 ^ b) &&& 1)))]) [1, 2, 3, 0, 4, 5, 6] dP_holds_52 rfl (by decide) rfl ?_
              refine J_iinc C (lv' := [(0, .int (nI (n))), (1, .int (nI (p))), (2, .int (nI (v))), (3, .int (nI (p / 3 ^ (b + 1)))), (4, .int (nI (b + 1))), (5, .int (nI ((p / 3 ^ b) % 3))), (6, .int (nI ((v / 2 ^ b) &&& 1)))]) 4 [1, 2, 3, 4, 0, 5, 6] dP_holds_53 rfl (jn_inc _) (by decide) rfl ?_
              refine J_goto C 5 dP_holds_56 (by decide) ?_
              refine J_lv C (lv' := [(0, .int (nI (n))), (1, .int (nI (p))), (2, .int (nI (v))), (3, .int (nI (p / 3 ^ (b + 1)))), (4, .int (nI (b + 1)))]) [0, 1, 2, 3, 4] rfl ?_
              exact ih_5 (b + 1) (by omega) (hb_s hbt (okd_of (Nat.mod_lt _ (by omega)) (tb_and1 v b) (by omega) (by omega))) (by omega)
            · refine J_iconst C (v := nI (0)) dP_holds_47 (by decide) ?_
              exfalso
              have q0 : okd (p / 3 ^ b % 3) (v.testBit b) = false := okd_no (d := p / 3 ^ b % 3) (e := v / 2 ^ b &&& 1) (tb_and1 v b) (by omega)
              have q := hb_le (show b + 1 ≤ n by omega) (hb_n q0)
              rw [hq] at q; cases q
        · refine J_iload C 6 dP_holds_30 rfl ?_
          refine J_if_eq C 47 (nI_toInt (n := (v / 2 ^ b) &&& 1) (by omega)) dP_holds_32 (by decide) (fun h32 => ?_) (fun h32 => ?_)
          · refine J_iconst C (v := nI (0)) dP_holds_47 (by decide) ?_
            exfalso
            have q0 : okd (p / 3 ^ b % 3) (v.testBit b) = false := okd_no (d := p / 3 ^ b % 3) (e := v / 2 ^ b &&& 1) (tb_and1 v b) (by omega)
            have q := hb_le (show b + 1 ≤ n by omega) (hb_n q0)
            rw [hq] at q; cases q
          · refine J_iload C 5 dP_holds_35 rfl ?_
            refine J_iconst C (v := nI (2)) dP_holds_37 (by decide) ?_
            refine J_icmp_ne C 49 (nI_toInt (n := (p / 3 ^ b) % 3) (by omega)) (nI_toInt (n := 2) (by decide)) dP_holds_38 (by decide) (fun h38 => ?_) (fun h38 => ?_)
            · refine J_iload_n C 3 dP_holds_49 rfl rfl ?_
              refine J_iconst C (v := nI (3)) dP_holds_50 (by decide) ?_
              refine J_idivN C dP_holds_51 (by omega) (by omega) (by omega) ?_
              refine J_topN C (n' := p / 3 ^ (b + 1)) (pdiv3 p b) ?_
              refine J_istore_n C (lv' := [(0, .int (nI (n))), (1, .int (nI (p))), (2, .int (nI (v))), (3, .int (nI (p / 3 ^ (b + 1)))), (4, .int (nI (b))), (5, .int (nI ((p / 3 ^ b) % 3))), (6, .int (nI ((v / 2 ^ b) &&& 1)))]) [1, 2, 3, 0, 4, 5, 6] dP_holds_52 rfl (by decide) rfl ?_
              refine J_iinc C (lv' := [(0, .int (nI (n))), (1, .int (nI (p))), (2, .int (nI (v))), (3, .int (nI (p / 3 ^ (b + 1)))), (4, .int (nI (b + 1))), (5, .int (nI ((p / 3 ^ b) % 3))), (6, .int (nI ((v / 2 ^ b) &&& 1)))]) 4 [1, 2, 3, 4, 0, 5, 6] dP_holds_53 rfl (jn_inc _) (by decide) rfl ?_
              refine J_goto C 5 dP_holds_56 (by decide) ?_
              refine J_lv C (lv' := [(0, .int (nI (n))), (1, .int (nI (p))), (2, .int (nI (v))), (3, .int (nI (p / 3 ^ (b + 1)))), (4, .int (nI (b + 1)))]) [0, 1, 2, 3, 4] rfl ?_
              exact ih_5 (b + 1) (by omega) (hb_s hbt (okd_of (Nat.mod_lt _ (by omega)) (tb_and1 v b) (by omega) (by omega))) (by omega)
            · refine J_iload C 6 dP_holds_41 rfl ?_
              refine J_iconst C (v := nI (1)) dP_holds_43 (by decide) ?_
              refine J_icmp_ne C 49 (nI_toInt (n := (v / 2 ^ b) &&& 1) (by omega)) (nI_toInt (n := 1) (by decide)) dP_holds_44 (by decide) (fun h44 => ?_) (fun h44 => ?_)
              · refine J_iload_n C 3 dP_holds_49 rfl rfl ?_
                refine J_iconst C (v := nI (3)) dP_holds_50 (by decide) ?_
                refine J_idivN C dP_holds_51 (by omega) (by omega) (by omega) ?_
                refine J_topN C (n' := p / 3 ^ (b + 1)) (pdiv3 p b) ?_
                refine J_istore_n C (lv' := [(0, .int (nI (n))), (1, .int (nI (p))), (2, .int (nI (v))), (3, .int (nI (p / 3 ^ (b + 1)))), (4, .int (nI (b))), (5, .int (nI ((p / 3 ^ b) % 3))), (6, .int (nI ((v / 2 ^ b) &&& 1)))]) [1, 2, 3, 0, 4, 5, 6] dP_holds_52 rfl (by decide) rfl ?_
                refine J_iinc C (lv' := [(0, .int (nI (n))), (1, .int (nI (p))), (2, .int (nI (v))), (3, .int (nI (p / 3 ^ (b + 1)))), (4, .int (nI (b + 1))), (5, .int (nI ((p / 3 ^ b) % 3))), (6, .int (nI ((v / 2 ^ b) &&& 1)))]) 4 [1, 2, 3, 4, 0, 5, 6] dP_holds_53 rfl (jn_inc _) (by decide) rfl ?_
                refine J_goto C 5 dP_holds_56 (by decide) ?_
                refine J_lv C (lv' := [(0, .int (nI (n))), (1, .int (nI (p))), (2, .int (nI (v))), (3, .int (nI (p / 3 ^ (b + 1)))), (4, .int (nI (b + 1)))]) [0, 1, 2, 3, 4] rfl ?_
                exact ih_5 (b + 1) (by omega) (hb_s hbt (okd_of (Nat.mod_lt _ (by omega)) (tb_and1 v b) (by omega) (by omega))) (by omega)
              · refine J_iconst C (v := nI (0)) dP_holds_47 (by decide) ?_
                exfalso
                have q0 : okd (p / 3 ^ b % 3) (v.testBit b) = false := okd_no (d := p / 3 ^ b % 3) (e := v / 2 ^ b &&& 1) (tb_and1 v b) (by omega)
                have q := hb_le (show b + 1 ≤ n by omega) (hb_n q0)
                rw [hq] at q; cases q
  have q_5 := lp_5 (n + 1) 0 (by omega) (rfl) (by omega)
  rw [show p / 3 ^ 0 = p by simp] at q_5
  exact q_5
set_option maxHeartbeats 4000000 in
set_option maxRecDepth 100000 in
theorem c_P_holds_f (E : jE) (l : Launch) (n : Nat) (p : Nat) (v : Nat) (hn4 : n ≤ 4) (hp : p < 81) (hv : v < 16) (hq : hb p v n = false) : Con E l yP_holds bP_holds 7 (some .boolean) { frames := 0, cells := 0, slots := 0, locals := 0 } [.int (nI (n)), .int (nI (p)), .int (nI (v))] [] (fun r w => r = some (.int (nI 0)) ∧ w = []) := by
  refine Con.ofZ (by decide) (Nat.le_of_ble_eq_true rfl) ?_
  intro J C hret
  show J 0 [(0, .int (nI (n))), (1, .int (nI (p))), (2, .int (nI (v)))] [] [] 0 0
  refine J_iload_n C 1 dP_holds_0 rfl rfl ?_
  refine J_istore_n C (lv' := [(0, .int (nI (n))), (1, .int (nI (p))), (2, .int (nI (v))), (3, .int (nI (p)))]) [1, 2, 3, 0] dP_holds_1 rfl (by decide) rfl ?_
  refine J_iconst C (v := nI (0)) dP_holds_2 (by decide) ?_
  refine J_istore C (lv' := [(0, .int (nI (n))), (1, .int (nI (p))), (2, .int (nI (v))), (3, .int (nI (p))), (4, .int (nI (0)))]) [1, 2, 3, 4, 0] dP_holds_3 (by decide) rfl ?_
  have lp_5 : ∀ (k_5 : Nat) (b : Nat), (b ≤ n) → (hb p v b = true) → (n - b) < k_5 → J 5 [(0, .int (nI (n))), (1, .int (nI (p))), (2, .int (nI (v))), (3, .int (nI (p / 3 ^ b))), (4, .int (nI (b)))] [] [] (0) (0) := by
    intro k_5
    induction k_5 with
    | zero => intro b hi hbt hk_5; exact absurd hk_5 (Nat.not_lt_zero _)
    | succ k_5 ih_5 =>
      intro b hi hbt hk_5
      have hd := pdiv_lt hp b
      have he := and1_le (v / 2 ^ b)
      have hd3 := Nat.mod_lt (p / 3 ^ b) (show 0 < 3 by omega)
      refine J_iload C 4 dP_holds_5 rfl ?_
      refine J_iload_n C 0 dP_holds_7 rfl rfl ?_
      refine J_icmp_ge C 59 (nI_toInt (n := b) (by omega)) (nI_toInt (n := n) (by omega)) dP_holds_8 (by decide) (fun h8 => ?_) (fun h8 => ?_)
      · obtain rfl : n = b := by omega
        refine J_iconst C (v := nI (1)) dP_holds_59 (by decide) ?_
        exfalso
        rw [hq] at hbt; cases hbt
      · refine J_iload_n C 3 dP_holds_11 rfl rfl ?_
        refine J_iconst C (v := nI (3)) dP_holds_12 (by decide) ?_
        refine J_iremN C dP_holds_13 (by omega) (by omega) (by omega) ?_
        refine J_istore C (lv' := [(0, .int (nI (n))), (1, .int (nI (p))), (2, .int (nI (v))), (3, .int (nI (p / 3 ^ b))), (4, .int (nI (b))), (5, .int (nI ((p / 3 ^ b) % 3)))]) [1, 2, 3, 4, 5, 0] dP_holds_14 (by decide) rfl ?_
        refine J_iload_n C 2 dP_holds_16 rfl rfl ?_
        refine J_iload C 4 dP_holds_17 rfl ?_
        refine J_ishrN C dP_holds_19 (by omega) (by omega) ?_
        refine J_iconst C (v := nI (1)) dP_holds_20 (by decide) ?_
        refine J_iandN C dP_holds_21 ?_
        refine J_istore C (lv' := [(0, .int (nI (n))), (1, .int (nI (p))), (2, .int (nI (v))), (3, .int (nI (p / 3 ^ b))), (4, .int (nI (b))), (5, .int (nI ((p / 3 ^ b) % 3))), (6, .int (nI ((v / 2 ^ b) &&& 1)))]) [1, 2, 3, 4, 5, 6, 0] dP_holds_22 (by decide) rfl ?_
        refine J_iload C 5 dP_holds_24 rfl ?_
        refine J_iconst C (v := nI (1)) dP_holds_26 (by decide) ?_
        refine J_icmp_ne C 35 (nI_toInt (n := (p / 3 ^ b) % 3) (by omega)) (nI_toInt (n := 1) (by decide)) dP_holds_27 (by decide) (fun h27 => ?_) (fun h27 => ?_)
        · refine J_iload C 5 dP_holds_35 rfl ?_
          refine J_iconst C (v := nI (2)) dP_holds_37 (by decide) ?_
          refine J_icmp_ne C 49 (nI_toInt (n := (p / 3 ^ b) % 3) (by omega)) (nI_toInt (n := 2) (by decide)) dP_holds_38 (by decide) (fun h38 => ?_) (fun h38 => ?_)
          · refine J_iload_n C 3 dP_holds_49 rfl rfl ?_
            refine J_iconst C (v := nI (3)) dP_holds_50 (by decide) ?_
            refine J_idivN C dP_holds_51 (by omega) (by omega) (by omega) ?_
            refine J_topN C (n' := p / 3 ^ (b + 1)) (pdiv3 p b) ?_
            refine J_istore_n C (lv' := [(0, .int (nI (n))), (1, .int (nI (p))), (2, .int (nI (v))), (3, .int (nI (p / 3 ^ (b + 1)))), (4, .int (nI (b))), (5, .int (nI ((p / 3 ^ b) % 3))), (6, .int (nI ((v / 2 ^ b) &&& 1)))]) [1, 2, 3, 0, 4, 5, 6] dP_holds_52 rfl (by decide) rfl ?_
            refine J_iinc C (lv' := [(0, .int (nI (n))), (1, .int (nI (p))), (2, .int (nI (v))), (3, .int (nI (p / 3 ^ (b + 1)))), (4, .int (nI (b + 1))), (5, .int (nI ((p / 3 ^ b) % 3))), (6, .int (nI ((v / 2 ^ b) &&& 1)))]) 4 [1, 2, 3, 4, 0, 5, 6] dP_holds_53 rfl (jn_inc _) (by decide) rfl ?_
            refine J_goto C 5 dP_holds_56 (by decide) ?_
            refine J_lv C (lv' := [(0, .int (nI (n))), (1, .int (nI (p))), (2, .int (nI (v))), (3, .int (nI (p / 3 ^ (b + 1)))), (4, .int (nI (b + 1)))]) [0, 1, 2, 3, 4] rfl ?_
            exact ih_5 (b + 1) (by omega) (hb_s hbt (okd_of (Nat.mod_lt _ (by omega)) (tb_and1 v b) (by omega) (by omega))) (by omega)
          · refine J_iload C 6 dP_holds_41 rfl ?_
            refine J_iconst C (v := nI (1)) dP_holds_43 (by decide) ?_
            refine J_icmp_ne C 49 (nI_toInt (n := (v / 2 ^ b) &&& 1) (by omega)) (nI_toInt (n := 1) (by decide)) dP_holds_44 (by decide) (fun h44 => ?_) (fun h44 => ?_)
            · refine J_iload_n C 3 dP_holds_49 rfl rfl ?_
              refine J_iconst C (v := nI (3)) dP_holds_50 (by decide) ?_
              refine J_idivN C dP_holds_51 (by omega) (by omega) (by omega) ?_
              refine J_topN C (n' := p / 3 ^ (b + 1)) (pdiv3 p b) ?_
              refine J_istore_n C (lv' := [(0, .int (nI (n))), (1, .int (nI (p))), (2, .int (nI (v))), (3, .int (nI (p / 3 ^ (b + 1)))), (4, .int (nI (b))), (5, .int (nI ((p / 3 ^ b) % 3))), (6, .int (nI ((v / 2 ^ b) &&& 1)))]) [1, 2, 3, 0, 4, 5, 6] dP_holds_52 rfl (by decide) rfl ?_
              refine J_iinc C (lv' := [(0, .int (nI (n))), (1, .int (nI (p))), (2, .int (nI (v))), (3, .int (nI (p / 3 ^ (b + 1)))), (4, .int (nI (b + 1))), (5, .int (nI ((p / 3 ^ b) % 3))), (6, .int (nI ((v / 2 ^ b) &&& 1)))]) 4 [1, 2, 3, 4, 0, 5, 6] dP_holds_53 rfl (jn_inc _) (by decide) rfl ?_
              refine J_goto C 5 dP_holds_56 (by decide) ?_
              refine J_lv C (lv' := [(0, .int (nI (n))), (1, .int (nI (p))), (2, .int (nI (v))), (3, .int (nI (p / 3 ^ (b + 1)))), (4, .int (nI (b + 1)))]) [0, 1, 2, 3, 4] rfl ?_
              exact ih_5 (b + 1) (by omega) (hb_s hbt (okd_of (Nat.mod_lt _ (by omega)) (tb_and1 v b) (by omega) (by omega))) (by omega)
            · refine J_iconst C (v := nI (0)) dP_holds_47 (by decide) ?_
              exact hret _ _ _ _ _ _ dP_holds_48 (by decide) (by decide) (by decide) (⟨rfl, rfl⟩)
        · refine J_iload C 6 dP_holds_30 rfl ?_
          refine J_if_eq C 47 (nI_toInt (n := (v / 2 ^ b) &&& 1) (by omega)) dP_holds_32 (by decide) (fun h32 => ?_) (fun h32 => ?_)
          · refine J_iconst C (v := nI (0)) dP_holds_47 (by decide) ?_
            exact hret _ _ _ _ _ _ dP_holds_48 (by decide) (by decide) (by decide) (⟨rfl, rfl⟩)
          · refine J_iload C 5 dP_holds_35 rfl ?_
            refine J_iconst C (v := nI (2)) dP_holds_37 (by decide) ?_
            refine J_icmp_ne C 49 (nI_toInt (n := (p / 3 ^ b) % 3) (by omega)) (nI_toInt (n := 2) (by decide)) dP_holds_38 (by decide) (fun h38 => ?_) (fun h38 => ?_)
            · refine J_iload_n C 3 dP_holds_49 rfl rfl ?_
              refine J_iconst C (v := nI (3)) dP_holds_50 (by decide) ?_
              refine J_idivN C dP_holds_51 (by omega) (by omega) (by omega) ?_
              refine J_topN C (n' := p / 3 ^ (b + 1)) (pdiv3 p b) ?_
              refine J_istore_n C (lv' := [(0, .int (nI (n))), (1, .int (nI (p))), (2, .int (nI (v))), (3, .int (nI (p / 3 ^ (b + 1)))), (4, .int (nI (b))), (5, .int (nI ((p / 3 ^ b) % 3))), (6, .int (nI ((v / 2 ^ b) &&& 1)))]) [1, 2, 3, 0, 4, 5, 6] dP_holds_52 rfl (by decide) rfl ?_
              refine J_iinc C (lv' := [(0, .int (nI (n))), (1, .int (nI (p))), (2, .int (nI (v))), (3, .int (nI (p / 3 ^ (b + 1)))), (4, .int (nI (b + 1))), (5, .int (nI ((p / 3 ^ b) % 3))), (6, .int (nI ((v / 2 ^ b) &&& 1)))]) 4 [1, 2, 3, 4, 0, 5, 6] dP_holds_53 rfl (jn_inc _) (by decide) rfl ?_
              refine J_goto C 5 dP_holds_56 (by decide) ?_
              refine J_lv C (lv' := [(0, .int (nI (n))), (1, .int (nI (p))), (2, .int (nI (v))), (3, .int (nI (p / 3 ^ (b + 1)))), (4, .int (nI (b + 1)))]) [0, 1, 2, 3, 4] rfl ?_
              exact ih_5 (b + 1) (by omega) (hb_s hbt (okd_of (Nat.mod_lt _ (by omega)) (tb_and1 v b) (by omega) (by omega))) (by omega)
            · refine J_iload C 6 dP_holds_41 rfl ?_
              refine J_iconst C (v := nI (1)) dP_holds_43 (by decide) ?_
              refine J_icmp_ne C 49 (nI_toInt (n := (v / 2 ^ b) &&& 1) (by omega)) (nI_toInt (n := 1) (by decide)) dP_holds_44 (by decide) (fun h44 => ?_) (fun h44 => ?_)
              · refine J_iload_n C 3 dP_holds_49 rfl rfl ?_
                refine J_iconst C (v := nI (3)) dP_holds_50 (by decide) ?_
                refine J_idivN C dP_holds_51 (by omega) (by omega) (by omega) ?_
                refine J_topN C (n' := p / 3 ^ (b + 1)) (pdiv3 p b) ?_
                refine J_istore_n C (lv' := [(0, .int (nI (n))), (1, .int (nI (p))), (2, .int (nI (v))), (3, .int (nI (p / 3 ^ (b + 1)))), (4, .int (nI (b))), (5, .int (nI ((p / 3 ^ b) % 3))), (6, .int (nI ((v / 2 ^ b) &&& 1)))]) [1, 2, 3, 0, 4, 5, 6] dP_holds_52 rfl (by decide) rfl ?_
                refine J_iinc C (lv' := [(0, .int (nI (n))), (1, .int (nI (p))), (2, .int (nI (v))), (3, .int (nI (p / 3 ^ (b + 1)))), (4, .int (nI (b + 1))), (5, .int (nI ((p / 3 ^ b) % 3))), (6, .int (nI ((v / 2 ^ b) &&& 1)))]) 4 [1, 2, 3, 4, 0, 5, 6] dP_holds_53 rfl (jn_inc _) (by decide) rfl ?_
                refine J_goto C 5 dP_holds_56 (by decide) ?_
                refine J_lv C (lv' := [(0, .int (nI (n))), (1, .int (nI (p))), (2, .int (nI (v))), (3, .int (nI (p / 3 ^ (b + 1)))), (4, .int (nI (b + 1)))]) [0, 1, 2, 3, 4] rfl ?_
                exact ih_5 (b + 1) (by omega) (hb_s hbt (okd_of (Nat.mod_lt _ (by omega)) (tb_and1 v b) (by omega) (by omega))) (by omega)
              · refine J_iconst C (v := nI (0)) dP_holds_47 (by decide) ?_
                exact hret _ _ _ _ _ _ dP_holds_48 (by decide) (by decide) (by decide) (⟨rfl, rfl⟩)
  have q_5 := lp_5 (n + 1) 0 (by omega) (rfl) (by omega)
  rw [show p / 3 ^ 0 = p by simp] at q_5
  exact q_5
set_option maxHeartbeats 4000000 in
set_option maxRecDepth 100000 in
theorem c_P_function (E : jE) (l : Launch) (n : Nat) (p : Nat) (hn4 : n ≤ 4) (hp : p < 3 ^ n) : Con E l yP_function bP_function 4 (some .int) { frames := 1, cells := 0, slots := 0, locals := 26 } [.int (nI (n)), .int (nI (p))] [] (fun r w => r = some (.int (nI (pfn n p))) ∧ w = []) := by
  refine Con.ofI (by decide) (Nat.le_of_ble_eq_true rfl) ?_
  intro J C hret
  show J 0 [(0, .int (nI (n))), (1, .int (nI (p)))] [] [] 0 0
  have hp16 := p16 hn4
  have hp81 := p81 hn4
  have hp1 := p1 n
  refine J_iconst C (v := nI (0)) dP_function_0 (by decide) ?_
  refine J_istore_n C (lv' := [(0, .int (nI (n))), (1, .int (nI (p))), (2, .int (nI (0)))]) [1, 2, 0] dP_function_1 rfl (by decide) rfl ?_
  refine J_iconst C (v := nI (0)) dP_function_2 (by decide) ?_
  refine J_istore_n C (lv' := [(0, .int (nI (n))), (1, .int (nI (p))), (2, .int (nI (0))), (3, .int (nI (0)))]) [1, 2, 3, 0] dP_function_3 rfl (by decide) rfl ?_
  have lp_4 : ∀ (k_4 : Nat) (v : Nat), (v ≤ 2 ^ n) → (2 ^ n - v) < k_4 → J 4 [(0, .int (nI (n))), (1, .int (nI (p))), (2, .int (nI (fnv n p v))), (3, .int (nI (v)))] [] [] (0) (0) := by
    intro k_4
    induction k_4 with
    | zero => intro v hv hk_4; exact absurd hk_4 (Nat.not_lt_zero _)
    | succ k_4 ih_4 =>
      intro v hv hk_4
      refine J_iload_n C 3 dP_function_4 rfl rfl ?_
      refine J_iconst C (v := nI (1)) dP_function_5 (by decide) ?_
      refine J_iload_n C 0 dP_function_6 rfl rfl ?_
      refine J_ishl1 C dP_function_7 (by omega) ?_
      refine J_icmp_ge C 32 (nI_toInt (n := v) (by omega)) (nI_toInt (n := 2 ^ n) (by omega)) dP_function_8 (by decide) (fun h8 => ?_) (fun h8 => ?_)
      · obtain rfl : 2 ^ n = v := by omega
        refine J_iload_n C 2 dP_function_32 rfl rfl ?_
        exact hret _ _ _ _ _ _ dP_function_33 (by decide) (by decide) (⟨by rw [fnv_pfn n (by omega) p hp], rfl⟩)
      · refine J_iload_n C 0 dP_function_11 rfl rfl ?_
        refine J_iload_n C 1 dP_function_12 rfl rfl ?_
        refine J_iload_n C 3 dP_function_13 rfl rfl ?_
        cases hq : hb p v n with
        | false =>
          refine J_callS C (rest := []) [] [] [] (c_P_holds_f E l n p v (by omega) (by omega) (by omega) (hq)) mmP_holds lkP_7 (rfl) rfl rfl ⟨by decide, by decide⟩ ⟨by decide, by decide⟩ (Nat.le_of_ble_eq_true rfl) dP_function_14 (fun r_c w_c hp => ?_)
          obtain ⟨rfl, rfl⟩ := hp
          refine J_norm C (st' := [.int (nI (0))]) (ws' := []) (cs' := 0) (ss' := 0) rfl (rfl) rfl rfl ?_
          refine J_if_eq C 26 (nI_toInt (n := 0) (by decide)) dP_function_17 (by decide) (fun h17 => ?_) (fun h17 => ?_)
          · refine J_iinc C (lv' := [(0, .int (nI (n))), (1, .int (nI (p))), (2, .int (nI (fnv n p v))), (3, .int (nI (v + 1)))]) 3 [1, 2, 3, 0] dP_function_26 rfl (jn_inc _) (by decide) rfl ?_
            refine J_goto C 4 dP_function_29 (by decide) ?_
            rw [← fnv_f hq]
            exact ih_4 (v + 1) (by omega) (by omega)
          · exfalso; omega
        | true =>
          refine J_callS C (rest := []) [] [] [] (c_P_holds_t E l n p v (by omega) (by omega) (by omega) (hq)) mmP_holds lkP_7 (rfl) rfl rfl ⟨by decide, by decide⟩ ⟨by decide, by decide⟩ (Nat.le_of_ble_eq_true rfl) dP_function_14 (fun r_c w_c hp => ?_)
          obtain ⟨rfl, rfl⟩ := hp
          refine J_norm C (st' := [.int (nI (1))]) (ws' := []) (cs' := 0) (ss' := 0) rfl (rfl) rfl rfl ?_
          refine J_if_eq C 26 (nI_toInt (n := 1) (by decide)) dP_function_17 (by decide) (fun h17 => ?_) (fun h17 => ?_)
          · exfalso; omega
          · refine J_iload_n C 2 dP_function_20 rfl rfl ?_
            refine J_iconst C (v := nI (1)) dP_function_21 (by decide) ?_
            refine J_iload_n C 3 dP_function_22 rfl rfl ?_
            refine J_ishl1 C dP_function_23 (by omega) ?_
            refine J_iorN C dP_function_24 ?_
            refine J_istore_n C (lv' := [(0, .int (nI (n))), (1, .int (nI (p))), (2, .int (nI ((fnv n p v) ||| (2 ^ v)))), (3, .int (nI (v)))]) [1, 2, 0, 3] dP_function_25 rfl (by decide) rfl ?_
            refine J_iinc C (lv' := [(0, .int (nI (n))), (1, .int (nI (p))), (2, .int (nI ((fnv n p v) ||| (2 ^ v)))), (3, .int (nI (v + 1)))]) 3 [1, 2, 3, 0] dP_function_26 rfl (jn_inc _) (by decide) rfl ?_
            refine J_goto C 4 dP_function_29 (by decide) ?_
            rw [← fnv_t hq]
            exact ih_4 (v + 1) (by omega) (by omega)
  exact lp_4 (2 ^ n + 1) 0 (by omega) (by omega)
set_option maxHeartbeats 4000000 in
set_option maxRecDepth 100000 in
theorem c_M_products (E : jE) (l : Launch) (h : Nat) (n : Nat) (st : Nat) (mn : Nat) (m1 : Nat) (m2 : Nat) (m3 : Nat) (m4 : Nat) (m5 : Nat) (m6 : Nat) (m7 : Nat) (m8 : Nat) (m9 : Nat) (ma : Nat) (mb : Nat) (hn1 : 1 ≤ n) (hn4 : n ≤ 4) : Con E l yM_products bM_products 3 (some .int) { frames := 0, cells := 0, slots := 0, locals := 0 } [.ref (h)] [((h), .inr (5, [.int (nI (0)), .int (nI (n)), .ref (m1), .int (nI (st)), .ref (m2), .ref (m3), .ref (m4), .int (nI (mn)), .ref (m5), .ref (m6), .ref (m7), .ref (m8), .ref (m9), .ref (ma), .ref (mb)]))] (fun r w => r = some (.int (nI (3 ^ n))) ∧ w = [((h), .inr (5, [.int (nI (0)), .int (nI (n)), .ref (m1), .int (nI (st)), .ref (m2), .ref (m3), .ref (m4), .int (nI (mn)), .ref (m5), .ref (m6), .ref (m7), .ref (m8), .ref (m9), .ref (ma), .ref (mb)]))]) := by
  refine Con.ofI (by decide) (Nat.le_of_ble_eq_true rfl) ?_
  intro J C hret
  show J 0 [(0, .ref (h))] [] [((h), .inr (5, [.int (nI (0)), .int (nI (n)), .ref (m1), .int (nI (st)), .ref (m2), .ref (m3), .ref (m4), .int (nI (mn)), .ref (m5), .ref (m6), .ref (m7), .ref (m8), .ref (m9), .ref (ma), .ref (mb)]))] 0 0
  refine J_iconst C (v := nI (1)) dM_products_0 (by decide) ?_
  refine J_istore_n C (lv' := [(0, .ref (h)), (1, .int (nI (1)))]) [1, 0] dM_products_1 rfl (by decide) rfl ?_
  refine J_iconst C (v := nI (0)) dM_products_2 (by decide) ?_
  refine J_istore_n C (lv' := [(0, .ref (h)), (1, .int (nI (1))), (2, .int (nI (0)))]) [1, 2, 0] dM_products_3 rfl (by decide) rfl ?_
  have lp_4 : ∀ (k_4 : Nat) (i : Nat), (i ≤ n) → (n - i) < k_4 → J 4 [(0, .ref (h)), (1, .int (nI (3 ^ i))), (2, .int (nI (i)))] [] [((h), .inr (5, [.int (nI (0)), .int (nI (n)), .ref (m1), .int (nI (st)), .ref (m2), .ref (m3), .ref (m4), .int (nI (mn)), .ref (m5), .ref (m6), .ref (m7), .ref (m8), .ref (m9), .ref (ma), .ref (mb)]))] (0) (0) := by
    intro k_4
    induction k_4 with
    | zero => intro i hi hk_4; exact absurd hk_4 (Nat.not_lt_zero _)
    | succ k_4 ih_4 =>
      intro i hi hk_4
      refine J_iload_n C 2 dM_products_4 rfl rfl ?_
      refine J_aload_n C 0 dM_products_5 rfl rfl ?_
      refine J_get C 0 1 hinM rfl rfl (by decide) fkM_56 rfl dM_products_6 ?_
      refine J_icmp_ge C 22 (nI_toInt (n := i) (by omega)) (nI_toInt (n := n) (by omega)) dM_products_9 (by decide) (fun h9 => ?_) (fun h9 => ?_)
      · obtain rfl : n = i := by omega
        refine J_iload_n C 1 dM_products_22 rfl rfl ?_
        exact hret _ _ _ _ _ _ dM_products_23 (by decide) (by decide) (⟨rfl, rfl⟩)
      · refine J_iconst C (v := nI (3)) dM_products_12 (by decide) ?_
        refine J_iload_n C 1 dM_products_13 rfl rfl ?_
        refine J_imulN C dM_products_14 ?_
        refine J_topN C (n' := 3 ^ (i + 1)) (by rw [Nat.pow_succ, Nat.mul_comm]) ?_
        refine J_istore_n C (lv' := [(0, .ref (h)), (1, .int (nI (3 ^ (i + 1)))), (2, .int (nI (i)))]) [1, 0, 2] dM_products_15 rfl (by decide) rfl ?_
        refine J_iinc C (lv' := [(0, .ref (h)), (1, .int (nI (3 ^ (i + 1)))), (2, .int (nI (i + 1)))]) 2 [1, 2, 0] dM_products_16 rfl (jn_inc _) (by decide) rfl ?_
        refine J_goto C 4 dM_products_19 (by decide) ?_
        exact ih_4 (i + 1) (by omega) (by omega)
  exact lp_4 (n + 1) 0 (by omega) (by omega)
set_option maxHeartbeats 4000000 in
set_option maxRecDepth 100000 in
theorem c_M_functions (E : jE) (l : Launch) (h : Nat) (n : Nat) (st : Nat) (mn : Nat) (m1 : Nat) (m2 : Nat) (m3 : Nat) (m4 : Nat) (m5 : Nat) (m6 : Nat) (m7 : Nat) (m8 : Nat) (m9 : Nat) (ma : Nat) (mb : Nat) (hn1 : 1 ≤ n) (hn4 : n ≤ 4) : Con E l yM_functions bM_functions 1 (some .int) { frames := 1, cells := 0, slots := 0, locals := 20 } [.ref (h)] [((h), .inr (5, [.int (nI (0)), .int (nI (n)), .ref (m1), .int (nI (st)), .ref (m2), .ref (m3), .ref (m4), .int (nI (mn)), .ref (m5), .ref (m6), .ref (m7), .ref (m8), .ref (m9), .ref (ma), .ref (mb)]))] (fun r w => r = some (.int (nI (2 ^ 2 ^ n))) ∧ w = [((h), .inr (5, [.int (nI (0)), .int (nI (n)), .ref (m1), .int (nI (st)), .ref (m2), .ref (m3), .ref (m4), .int (nI (mn)), .ref (m5), .ref (m6), .ref (m7), .ref (m8), .ref (m9), .ref (ma), .ref (mb)]))]) := by
  refine Con.ofI (by decide) (Nat.le_of_ble_eq_true rfl) ?_
  intro J C hret
  show J 0 [(0, .ref (h))] [] [((h), .inr (5, [.int (nI (0)), .int (nI (n)), .ref (m1), .int (nI (st)), .ref (m2), .ref (m3), .ref (m4), .int (nI (mn)), .ref (m5), .ref (m6), .ref (m7), .ref (m8), .ref (m9), .ref (ma), .ref (mb)]))] 0 0
  have hp16 := p16 hn4
  have hp1 := p1 n
  refine J_iconst C (v := nI (1)) dM_functions_0 (by decide) ?_
  refine J_aload_n C 0 dM_functions_1 rfl rfl ?_
  refine J_callV C (rest := [.int (nI (1))]) [] [((h), .inr (5, [.int (nI (0)), .int (nI (n)), .ref (m1), .int (nI (st)), .ref (m2), .ref (m3), .ref (m4), .int (nI (mn)), .ref (m5), .ref (m6), .ref (m7), .ref (m8), .ref (m9), .ref (ma), .ref (mb)]))] [] 0 (c_M_values E l h n st mn m1 m2 m3 m4 m5 m6 m7 m8 m9 ma mb (by omega) (by omega)) mmM_values msM_values lkM_59 rfl rfl (rfl) rfl rfl ⟨by decide, by decide⟩ ⟨by decide, by decide⟩ (Nat.le_of_ble_eq_true rfl) dM_functions_2 (fun r_c w_c hp => ?_)
  obtain ⟨rfl, rfl⟩ := hp
  refine J_norm C (st' := [.int (nI (2 ^ n)), .int (nI (1))]) (ws' := [((h), .inr (5, [.int (nI (0)), .int (nI (n)), .ref (m1), .int (nI (st)), .ref (m2), .ref (m3), .ref (m4), .int (nI (mn)), .ref (m5), .ref (m6), .ref (m7), .ref (m8), .ref (m9), .ref (ma), .ref (mb)]))]) (cs' := 0) (ss' := 0) rfl (rfl) rfl rfl ?_
  refine J_ishl1 C dM_functions_5 (by omega) ?_
  exact hret _ _ _ _ _ _ dM_functions_6 (by decide) (by decide) (⟨rfl, rfl⟩)
set_option maxHeartbeats 4000000 in
set_option maxRecDepth 100000 in
theorem c_M_costAt (E : jE) (l : Launch) (h : Nat) (n : Nat) (st : Nat) (mn : Nat) (m1 : Nat) (m2 : Nat) (m3 : Nat) (m4 : Nat) (m5 : Nat) (m6 : Nat) (m7 : Nat) (m8 : Nat) (m9 : Nat) (ma : Nat) (mb : Nat) (k : Nat) (hn1 : 1 ≤ n) (hn4 : n ≤ 4) : Con E l yM_costAt bM_costAt 2 (some .int) { frames := 0, cells := 0, slots := 0, locals := 0 } [.ref (h), .int (nI (k))] [((h), .inr (5, [.int (nI (0)), .int (nI (n)), .ref (m1), .int (nI (st)), .ref (m2), .ref (m3), .ref (m4), .int (nI (mn)), .ref (m5), .ref (m6), .ref (m7), .ref (m8), .ref (m9), .ref (ma), .ref (mb)]))] (fun r w => r = some (.int (nI (k + coff n))) ∧ w = [((h), .inr (5, [.int (nI (0)), .int (nI (n)), .ref (m1), .int (nI (st)), .ref (m2), .ref (m3), .ref (m4), .int (nI (mn)), .ref (m5), .ref (m6), .ref (m7), .ref (m8), .ref (m9), .ref (ma), .ref (mb)]))]) := by
  refine Con.ofI (by decide) (Nat.le_of_ble_eq_true rfl) ?_
  intro J C hret
  show J 0 [(0, .ref (h)), (1, .int (nI (k)))] [] [((h), .inr (5, [.int (nI (0)), .int (nI (n)), .ref (m1), .int (nI (st)), .ref (m2), .ref (m3), .ref (m4), .int (nI (mn)), .ref (m5), .ref (m6), .ref (m7), .ref (m8), .ref (m9), .ref (ma), .ref (mb)]))] 0 0
  refine J_iload_n C 1 dM_costAt_0 rfl rfl ?_
  refine J_aload_n C 0 dM_costAt_1 rfl rfl ?_
  refine J_get C 0 1 hinM rfl rfl (by decide) fkM_56 rfl dM_costAt_2 ?_
  refine J_iconst C (v := nI (1)) dM_costAt_5 (by decide) ?_
  refine J_icmp_ne C 13 (nI_toInt (n := n) (by omega)) (nI_toInt (n := 1) (by decide)) dM_costAt_6 (by decide) (fun h6 => ?_) (fun h6 => ?_)
  · refine J_aload_n C 0 dM_costAt_13 rfl rfl ?_
    refine J_get C 0 1 hinM rfl rfl (by decide) fkM_56 rfl dM_costAt_14 ?_
    refine J_iconst C (v := nI (2)) dM_costAt_17 (by decide) ?_
    refine J_icmp_ne C 25 (nI_toInt (n := n) (by omega)) (nI_toInt (n := 2) (by decide)) dM_costAt_18 (by decide) (fun h18 => ?_) (fun h18 => ?_)
    · refine J_aload_n C 0 dM_costAt_25 rfl rfl ?_
      refine J_get C 0 1 hinM rfl rfl (by decide) fkM_56 rfl dM_costAt_26 ?_
      refine J_iconst C (v := nI (3)) dM_costAt_29 (by decide) ?_
      refine J_icmp_ne C 38 (nI_toInt (n := n) (by omega)) (nI_toInt (n := 3) (by decide)) dM_costAt_30 (by decide) (fun h30 => ?_) (fun h30 => ?_)
      · have e : coff n = 276 := by rw [show n = 4 by omega]; rfl
        refine J_sipush C (v := nI (276)) dM_costAt_38 (by decide) ?_
        refine J_iaddN C dM_costAt_41 ?_
        exact hret _ _ _ _ _ _ dM_costAt_42 (by decide) (by decide) (⟨by rw [e], rfl⟩)
      · have e : coff n = 20 := by rw [show n = 3 by omega]; rfl
        refine J_bipush C (v := nI (20)) dM_costAt_33 (by decide) ?_
        refine J_goto C 41 dM_costAt_35 (by decide) ?_
        refine J_iaddN C dM_costAt_41 ?_
        exact hret _ _ _ _ _ _ dM_costAt_42 (by decide) (by decide) (⟨by rw [e], rfl⟩)
    · have e : coff n = 4 := by rw [show n = 2 by omega]; rfl
      refine J_iconst C (v := nI (4)) dM_costAt_21 (by decide) ?_
      refine J_goto C 41 dM_costAt_22 (by decide) ?_
      refine J_iaddN C dM_costAt_41 ?_
      exact hret _ _ _ _ _ _ dM_costAt_42 (by decide) (by decide) (⟨by rw [e], rfl⟩)
  · have e : coff n = 0 := by rw [show n = 1 by omega]; rfl
    refine J_iconst C (v := nI (0)) dM_costAt_9 (by decide) ?_
    refine J_goto C 41 dM_costAt_10 (by decide) ?_
    refine J_iaddN C dM_costAt_41 ?_
    exact hret _ _ _ _ _ _ dM_costAt_42 (by decide) (by decide) (⟨by rw [e], rfl⟩)
set_option maxHeartbeats 4000000 in
set_option maxRecDepth 100000 in
theorem c_M_productAt (E : jE) (l : Launch) (h : Nat) (n : Nat) (st : Nat) (mn : Nat) (m1 : Nat) (m2 : Nat) (m3 : Nat) (m4 : Nat) (m5 : Nat) (m6 : Nat) (m7 : Nat) (m8 : Nat) (m9 : Nat) (ma : Nat) (mb : Nat) (k : Nat) (hn1 : 1 ≤ n) (hn4 : n ≤ 4) : Con E l yM_productAt bM_productAt 2 (some .int) { frames := 0, cells := 0, slots := 0, locals := 0 } [.ref (h), .int (nI (k))] [((h), .inr (5, [.int (nI (0)), .int (nI (n)), .ref (m1), .int (nI (st)), .ref (m2), .ref (m3), .ref (m4), .int (nI (mn)), .ref (m5), .ref (m6), .ref (m7), .ref (m8), .ref (m9), .ref (ma), .ref (mb)]))] (fun r w => r = some (.int (nI (k + poff n))) ∧ w = [((h), .inr (5, [.int (nI (0)), .int (nI (n)), .ref (m1), .int (nI (st)), .ref (m2), .ref (m3), .ref (m4), .int (nI (mn)), .ref (m5), .ref (m6), .ref (m7), .ref (m8), .ref (m9), .ref (ma), .ref (mb)]))]) := by
  refine Con.ofI (by decide) (Nat.le_of_ble_eq_true rfl) ?_
  intro J C hret
  show J 0 [(0, .ref (h)), (1, .int (nI (k)))] [] [((h), .inr (5, [.int (nI (0)), .int (nI (n)), .ref (m1), .int (nI (st)), .ref (m2), .ref (m3), .ref (m4), .int (nI (mn)), .ref (m5), .ref (m6), .ref (m7), .ref (m8), .ref (m9), .ref (ma), .ref (mb)]))] 0 0
  refine J_iload_n C 1 dM_productAt_0 rfl rfl ?_
  refine J_aload_n C 0 dM_productAt_1 rfl rfl ?_
  refine J_get C 0 1 hinM rfl rfl (by decide) fkM_56 rfl dM_productAt_2 ?_
  refine J_iconst C (v := nI (1)) dM_productAt_5 (by decide) ?_
  refine J_icmp_ne C 13 (nI_toInt (n := n) (by omega)) (nI_toInt (n := 1) (by decide)) dM_productAt_6 (by decide) (fun h6 => ?_) (fun h6 => ?_)
  · refine J_aload_n C 0 dM_productAt_13 rfl rfl ?_
    refine J_get C 0 1 hinM rfl rfl (by decide) fkM_56 rfl dM_productAt_14 ?_
    refine J_iconst C (v := nI (2)) dM_productAt_17 (by decide) ?_
    refine J_icmp_ne C 25 (nI_toInt (n := n) (by omega)) (nI_toInt (n := 2) (by decide)) dM_productAt_18 (by decide) (fun h18 => ?_) (fun h18 => ?_)
    · refine J_aload_n C 0 dM_productAt_25 rfl rfl ?_
      refine J_get C 0 1 hinM rfl rfl (by decide) fkM_56 rfl dM_productAt_26 ?_
      refine J_iconst C (v := nI (3)) dM_productAt_29 (by decide) ?_
      refine J_icmp_ne C 38 (nI_toInt (n := n) (by omega)) (nI_toInt (n := 3) (by decide)) dM_productAt_30 (by decide) (fun h30 => ?_) (fun h30 => ?_)
      · have e : poff n = 39 := by rw [show n = 4 by omega]; rfl
        refine J_bipush C (v := nI (39)) dM_productAt_38 (by decide) ?_
        refine J_iaddN C dM_productAt_40 ?_
        exact hret _ _ _ _ _ _ dM_productAt_41 (by decide) (by decide) (⟨by rw [e], rfl⟩)
      · have e : poff n = 12 := by rw [show n = 3 by omega]; rfl
        refine J_bipush C (v := nI (12)) dM_productAt_33 (by decide) ?_
        refine J_goto C 40 dM_productAt_35 (by decide) ?_
        refine J_iaddN C dM_productAt_40 ?_
        exact hret _ _ _ _ _ _ dM_productAt_41 (by decide) (by decide) (⟨by rw [e], rfl⟩)
    · have e : poff n = 3 := by rw [show n = 2 by omega]; rfl
      refine J_iconst C (v := nI (3)) dM_productAt_21 (by decide) ?_
      refine J_goto C 40 dM_productAt_22 (by decide) ?_
      refine J_iaddN C dM_productAt_40 ?_
      exact hret _ _ _ _ _ _ dM_productAt_41 (by decide) (by decide) (⟨by rw [e], rfl⟩)
  · have e : poff n = 0 := by rw [show n = 1 by omega]; rfl
    refine J_iconst C (v := nI (0)) dM_productAt_9 (by decide) ?_
    refine J_goto C 40 dM_productAt_10 (by decide) ?_
    refine J_iaddN C dM_productAt_40 ?_
    exact hret _ _ _ _ _ _ dM_productAt_41 (by decide) (by decide) (⟨by rw [e], rfl⟩)
set_option maxHeartbeats 4000000 in
set_option maxRecDepth 100000 in
theorem c_M_functionFor (E : jE) (l : Launch) (h : Nat) (n : Nat) (st : Nat) (mn : Nat) (m1 : Nat) (m2 : Nat) (m3 : Nat) (m4 : Nat) (m5 : Nat) (m6 : Nat) (m7 : Nat) (m8 : Nat) (m9 : Nat) (ma : Nat) (mb : Nat) (p : Nat) (hn1 : 1 ≤ n) (hn4 : n ≤ 4) (hp : p < 3 ^ n) : Con E l yM_functionFor bM_functionFor 8 (some .int) { frames := 1, cells := 0, slots := 0, locals := 20 } [.ref (h), .int (nI (p))] [((h), .inr (5, [.int (nI (0)), .int (nI (n)), .ref (m1), .int (nI (st)), .ref (m2), .ref (m3), .ref (m4), .int (nI (mn)), .ref (m5), .ref (m6), .ref (m7), .ref (m8), .ref (m9), .ref (ma), .ref (mb)]))] (fun r w => r = some (.int (nI (pfn n p))) ∧ w = [((h), .inr (5, [.int (nI (0)), .int (nI (n)), .ref (m1), .int (nI (st)), .ref (m2), .ref (m3), .ref (m4), .int (nI (mn)), .ref (m5), .ref (m6), .ref (m7), .ref (m8), .ref (m9), .ref (ma), .ref (mb)]))]) := by
  refine Con.ofI (by decide) (Nat.le_of_ble_eq_true rfl) ?_
  intro J C hret
  show J 0 [(0, .ref (h)), (1, .int (nI (p)))] [] [((h), .inr (5, [.int (nI (0)), .int (nI (n)), .ref (m1), .int (nI (st)), .ref (m2), .ref (m3), .ref (m4), .int (nI (mn)), .ref (m5), .ref (m6), .ref (m7), .ref (m8), .ref (m9), .ref (ma), .ref (mb)]))] 0 0
  have hp16 := p16 hn4
  have hp1 := p1 n
  have hp81 := p81 hn4
  refine J_iconst C (v := nI (0)) dM_functionFor_0 (by decide) ?_
  refine J_istore_n C (lv' := [(0, .ref (h)), (1, .int (nI (p))), (2, .int (nI (0)))]) [1, 2, 0] dM_functionFor_1 rfl (by decide) rfl ?_
  refine J_iconst C (v := nI (0)) dM_functionFor_2 (by decide) ?_
  refine J_istore_n C (lv' := [(0, .ref (h)), (1, .int (nI (p))), (2, .int (nI (0))), (3, .int (nI (0)))]) [1, 2, 3, 0] dM_functionFor_3 rfl (by decide) rfl ?_
  have lp_4 : ∀ (k_4 : Nat) (v : Nat), (v ≤ 2 ^ n) → (2 ^ n - v) < k_4 → J 4 [(0, .ref (h)), (1, .int (nI (p))), (2, .int (nI (fnv n p v))), (3, .int (nI (v)))] [] [((h), .inr (5, [.int (nI (0)), .int (nI (n)), .ref (m1), .int (nI (st)), .ref (m2), .ref (m3), .ref (m4), .int (nI (mn)), .ref (m5), .ref (m6), .ref (m7), .ref (m8), .ref (m9), .ref (ma), .ref (mb)]))] (0) (0) := by
    intro k_4
    induction k_4 with
    | zero => intro v hv hk_4; exact absurd hk_4 (Nat.not_lt_zero _)
    | succ k_4 ih_4 =>
      intro v hv hk_4
      refine J_iload_n C 3 dM_functionFor_4 rfl rfl ?_
      refine J_aload_n C 0 dM_functionFor_5 rfl rfl ?_
      refine J_callV C (rest := [.int (nI (v))]) [] [((h), .inr (5, [.int (nI (0)), .int (nI (n)), .ref (m1), .int (nI (st)), .ref (m2), .ref (m3), .ref (m4), .int (nI (mn)), .ref (m5), .ref (m6), .ref (m7), .ref (m8), .ref (m9), .ref (ma), .ref (mb)]))] [] 0 (c_M_values E l h n st mn m1 m2 m3 m4 m5 m6 m7 m8 m9 ma mb (by omega) (by omega)) mmM_values msM_values lkM_59 rfl rfl (rfl) rfl rfl ⟨by decide, by decide⟩ ⟨by decide, by decide⟩ (Nat.le_of_ble_eq_true rfl) dM_functionFor_6 (fun r_c w_c hp => ?_)
      obtain ⟨rfl, rfl⟩ := hp
      refine J_norm C (st' := [.int (nI (2 ^ n)), .int (nI (v))]) (ws' := [((h), .inr (5, [.int (nI (0)), .int (nI (n)), .ref (m1), .int (nI (st)), .ref (m2), .ref (m3), .ref (m4), .int (nI (mn)), .ref (m5), .ref (m6), .ref (m7), .ref (m8), .ref (m9), .ref (ma), .ref (mb)]))]) (cs' := 0) (ss' := 0) rfl (rfl) rfl rfl ?_
      refine J_icmp_ge C 115 (nI_toInt (n := v) (by omega)) (nI_toInt (n := 2 ^ n) (by omega)) dM_functionFor_9 (by decide) (fun h9 => ?_) (fun h9 => ?_)
      · obtain rfl : 2 ^ n = v := by omega
        refine J_iload_n C 2 dM_functionFor_115 rfl rfl ?_
        exact hret _ _ _ _ _ _ dM_functionFor_116 (by decide) (by decide) (⟨by rw [fnv_pfn n (by omega) p hp], rfl⟩)
      · refine J_iconst C (v := nI (1)) dM_functionFor_12 (by decide) ?_
        refine J_istore C (lv' := [(0, .ref (h)), (1, .int (nI (p))), (2, .int (nI (fnv n p v))), (3, .int (nI (v))), (4, .int (nI (1)))]) [1, 2, 3, 4, 0] dM_functionFor_13 (by decide) rfl ?_
        refine J_iload_n C 1 dM_functionFor_15 rfl rfl ?_
        refine J_istore C (lv' := [(0, .ref (h)), (1, .int (nI (p))), (2, .int (nI (fnv n p v))), (3, .int (nI (v))), (4, .int (nI (1))), (5, .int (nI (p)))]) [1, 2, 3, 4, 5, 0] dM_functionFor_16 (by decide) rfl ?_
        refine J_iconst C (v := nI (0)) dM_functionFor_18 (by decide) ?_
        refine J_istore C (lv' := [(0, .ref (h)), (1, .int (nI (p))), (2, .int (nI (fnv n p v))), (3, .int (nI (v))), (4, .int (nI (1))), (5, .int (nI (p))), (6, .int (nI (0)))]) [1, 2, 3, 4, 5, 6, 0] dM_functionFor_19 (by decide) rfl ?_
        have lp_21 : ∀ (k_21 : Nat) (k z : Nat), (k ≤ n) → (z = (hb p v k).toNat) → (n - k) < k_21 → J 21 [(0, .ref (h)), (1, .int (nI (p))), (2, .int (nI (fnv n p v))), (3, .int (nI (v))), (4, .int (nI (z))), (5, .int (nI (p / 3 ^ k))), (6, .int (nI (k)))] [] [((h), .inr (5, [.int (nI (0)), .int (nI (n)), .ref (m1), .int (nI (st)), .ref (m2), .ref (m3), .ref (m4), .int (nI (mn)), .ref (m5), .ref (m6), .ref (m7), .ref (m8), .ref (m9), .ref (ma), .ref (mb)]))] (0) (0) := by
          intro k_21
          induction k_21 with
          | zero => intro k z hk hz hk_21; exact absurd hk_21 (Nat.not_lt_zero _)
          | succ k_21 ih_21 =>
            intro k z hk hz hk_21
            have hd := pdiv_lt (show p < 81 by omega) k
            have he := and1_le (v / 2 ^ k)
            have hd3 := Nat.mod_lt (p / 3 ^ k) (show 0 < 3 by omega)
            have hz1 : z ≤ 1 := by rw [hz]; cases hb p v k <;> decide
            refine J_iload C 6 dM_functionFor_21 rfl ?_
            refine J_aload_n C 0 dM_functionFor_23 rfl rfl ?_
            refine J_get C 0 1 hinM rfl rfl (by decide) fkM_56 rfl dM_functionFor_24 ?_
            refine J_icmp_ge C 94 (nI_toInt (n := k) (by omega)) (nI_toInt (n := n) (by omega)) dM_functionFor_27 (by decide) (fun h27 => ?_) (fun h27 => ?_)
            · obtain rfl : n = k := by omega
              refine J_iload_n C 2 dM_functionFor_94 rfl rfl ?_
              refine J_iload C 4 dM_functionFor_95 rfl ?_
              refine J_if_eq C 106 (nI_toInt (n := z) (by omega)) dM_functionFor_97 (by decide) (fun h97 => ?_) (fun h97 => ?_)
              · have hq := toNat_eq (b := hb p v n) (by omega)
                refine J_iconst C (v := nI (0)) dM_functionFor_106 (by decide) ?_
                refine J_iorN C dM_functionFor_107 ?_
                refine J_istore_n C (lv' := [(0, .ref (h)), (1, .int (nI (p))), (2, .int (nI ((fnv n p v) ||| 0))), (3, .int (nI (v))), (4, .int (nI (z))), (5, .int (nI (p / 3 ^ n))), (6, .int (nI (n)))]) [1, 2, 0, 3, 4, 5, 6] dM_functionFor_108 rfl (by decide) rfl ?_
                refine J_iinc C (lv' := [(0, .ref (h)), (1, .int (nI (p))), (2, .int (nI ((fnv n p v) ||| 0))), (3, .int (nI (v + 1))), (4, .int (nI (z))), (5, .int (nI (p / 3 ^ n))), (6, .int (nI (n)))]) 3 [1, 2, 3, 0, 4, 5, 6] dM_functionFor_109 rfl (jn_inc _) (by decide) rfl ?_
                refine J_goto C 4 dM_functionFor_112 (by decide) ?_
                rw [Nat.or_zero, ← fnv_f hq]
                refine J_lv C (lv' := [(0, .ref (h)), (1, .int (nI (p))), (2, .int (nI (fnv n p (v + 1)))), (3, .int (nI (v + 1)))]) [0, 1, 2, 3] rfl ?_
                exact ih_4 (v + 1) (by omega) (by omega)
              · have hq := toNat_ne (b := hb p v n) (by omega)
                refine J_iconst C (v := nI (1)) dM_functionFor_100 (by decide) ?_
                refine J_iload_n C 3 dM_functionFor_101 rfl rfl ?_
                refine J_ishl1 C dM_functionFor_102 (by omega) ?_
                refine J_goto C 107 dM_functionFor_103 (by decide) ?_
                refine J_iorN C dM_functionFor_107 ?_
                refine J_istore_n C (lv' := [(0, .ref (h)), (1, .int (nI (p))), (2, .int (nI ((fnv n p v) ||| (2 ^ v)))), (3, .int (nI (v))), (4, .int (nI (z))), (5, .int (nI (p / 3 ^ n))), (6, .int (nI (n)))]) [1, 2, 0, 3, 4, 5, 6] dM_functionFor_108 rfl (by decide) rfl ?_
                refine J_iinc C (lv' := [(0, .ref (h)), (1, .int (nI (p))), (2, .int (nI ((fnv n p v) ||| (2 ^ v)))), (3, .int (nI (v + 1))), (4, .int (nI (z))), (5, .int (nI (p / 3 ^ n))), (6, .int (nI (n)))]) 3 [1, 2, 3, 0, 4, 5, 6] dM_functionFor_109 rfl (jn_inc _) (by decide) rfl ?_
                refine J_goto C 4 dM_functionFor_112 (by decide) ?_
                rw [← fnv_t hq]
                refine J_lv C (lv' := [(0, .ref (h)), (1, .int (nI (p))), (2, .int (nI (fnv n p (v + 1)))), (3, .int (nI (v + 1)))]) [0, 1, 2, 3] rfl ?_
                exact ih_4 (v + 1) (by omega) (by omega)
            · refine J_iload C 5 dM_functionFor_30 rfl ?_
              refine J_iconst C (v := nI (3)) dM_functionFor_32 (by decide) ?_
              refine J_iremN C dM_functionFor_33 (by omega) (by omega) (by omega) ?_
              refine J_istore C (lv' := [(0, .ref (h)), (1, .int (nI (p))), (2, .int (nI (fnv n p v))), (3, .int (nI (v))), (4, .int (nI (z))), (5, .int (nI (p / 3 ^ k))), (6, .int (nI (k))), (7, .int (nI ((p / 3 ^ k) % 3)))]) [1, 2, 3, 4, 5, 6, 7, 0] dM_functionFor_34 (by decide) rfl ?_
              refine J_iload C 5 dM_functionFor_36 rfl ?_
              refine J_iconst C (v := nI (3)) dM_functionFor_38 (by decide) ?_
              refine J_idivN C dM_functionFor_39 (by omega) (by omega) (by omega) ?_
              refine J_topN C (n' := p / 3 ^ (k + 1)) (pdiv3 p k) ?_
              refine J_istore C (lv' := [(0, .ref (h)), (1, .int (nI (p))), (2, .int (nI (fnv n p v))), (3, .int (nI (v))), (4, .int (nI (z))), (5, .int (nI (p / 3 ^ (k + 1)))), (6, .int (nI (k))), (7, .int (nI ((p / 3 ^ k) % 3)))]) [1, 2, 3, 4, 5, 0, 6, 7] dM_functionFor_40 (by decide) rfl ?_
              refine J_iload C 4 dM_functionFor_42 rfl ?_
              refine J_if_eq C 85 (nI_toInt (n := z) (by omega)) dM_functionFor_44 (by decide) (fun h44 => ?_) (fun h44 => ?_)
              · refine J_iconst C (v := nI (0)) dM_functionFor_85 (by decide) ?_
                refine J_istore C (lv' := [(0, .ref (h)), (1, .int (nI (p))), (2, .int (nI (fnv n p v))), (3, .int (nI (v))), (4, .int (nI (0))), (5, .int (nI (p / 3 ^ (k + 1)))), (6, .int (nI (k))), (7, .int (nI ((p / 3 ^ k) % 3)))]) [1, 2, 3, 4, 0, 5, 6, 7] dM_functionFor_86 (by decide) rfl ?_
                refine J_iinc C (lv' := [(0, .ref (h)), (1, .int (nI (p))), (2, .int (nI (fnv n p v))), (3, .int (nI (v))), (4, .int (nI (0))), (5, .int (nI (p / 3 ^ (k + 1)))), (6, .int (nI (k + 1))), (7, .int (nI ((p / 3 ^ k) % 3)))]) 6 [1, 2, 3, 4, 5, 6, 0, 7] dM_functionFor_88 rfl (jn_inc _) (by decide) rfl ?_
                refine J_goto C 21 dM_functionFor_91 (by decide) ?_
                refine J_lv C (lv' := [(0, .ref (h)), (1, .int (nI (p))), (2, .int (nI (fnv n p v))), (3, .int (nI (v))), (4, .int (nI (0))), (5, .int (nI (p / 3 ^ (k + 1)))), (6, .int (nI (k + 1)))]) [0, 1, 2, 3, 4, 5, 6] rfl ?_
                exact ih_21 (k + 1) 0 (by omega) (by have q := fn_step (v := v) (p := p) (k := k) hz; omega) (by omega)
              · refine J_iload C 7 dM_functionFor_47 rfl ?_
                refine J_if_eq C 81 (nI_toInt (n := (p / 3 ^ k) % 3) (by omega)) dM_functionFor_49 (by decide) (fun h49 => ?_) (fun h49 => ?_)
                · refine J_iconst C (v := nI (1)) dM_functionFor_81 (by decide) ?_
                  refine J_goto C 86 dM_functionFor_82 (by decide) ?_
                  refine J_istore C (lv' := [(0, .ref (h)), (1, .int (nI (p))), (2, .int (nI (fnv n p v))), (3, .int (nI (v))), (4, .int (nI (1))), (5, .int (nI (p / 3 ^ (k + 1)))), (6, .int (nI (k))), (7, .int (nI ((p / 3 ^ k) % 3)))]) [1, 2, 3, 4, 0, 5, 6, 7] dM_functionFor_86 (by decide) rfl ?_
                  refine J_iinc C (lv' := [(0, .ref (h)), (1, .int (nI (p))), (2, .int (nI (fnv n p v))), (3, .int (nI (v))), (4, .int (nI (1))), (5, .int (nI (p / 3 ^ (k + 1)))), (6, .int (nI (k + 1))), (7, .int (nI ((p / 3 ^ k) % 3)))]) 6 [1, 2, 3, 4, 5, 6, 0, 7] dM_functionFor_88 rfl (jn_inc _) (by decide) rfl ?_
                  refine J_goto C 21 dM_functionFor_91 (by decide) ?_
                  refine J_lv C (lv' := [(0, .ref (h)), (1, .int (nI (p))), (2, .int (nI (fnv n p v))), (3, .int (nI (v))), (4, .int (nI (1))), (5, .int (nI (p / 3 ^ (k + 1)))), (6, .int (nI (k + 1)))]) [0, 1, 2, 3, 4, 5, 6] rfl ?_
                  exact ih_21 (k + 1) 1 (by omega) (by have q := fn_step (v := v) (p := p) (k := k) hz; omega) (by omega)
                · refine J_iload C 7 dM_functionFor_52 rfl ?_
                  refine J_iconst C (v := nI (1)) dM_functionFor_54 (by decide) ?_
                  refine J_icmp_ne C 62 (nI_toInt (n := (p / 3 ^ k) % 3) (by omega)) (nI_toInt (n := 1) (by decide)) dM_functionFor_55 (by decide) (fun h55 => ?_) (fun h55 => ?_)
                  · refine J_iconst C (v := nI (0)) dM_functionFor_62 (by decide) ?_
                    refine J_iload_n C 3 dM_functionFor_63 rfl rfl ?_
                    refine J_iload C 6 dM_functionFor_64 rfl ?_
                    refine J_ishrN C dM_functionFor_66 (by omega) (by omega) ?_
                    refine J_iconst C (v := nI (1)) dM_functionFor_67 (by decide) ?_
                    refine J_iandN C dM_functionFor_68 ?_
                    refine J_iconst C (v := nI (1)) dM_functionFor_69 (by decide) ?_
                    refine J_icmp_ne C 77 (nI_toInt (n := (v / 2 ^ k) &&& 1) (by omega)) (nI_toInt (n := 1) (by decide)) dM_functionFor_70 (by decide) (fun h70 => ?_) (fun h70 => ?_)
                    · refine J_iconst C (v := nI (0)) dM_functionFor_77 (by decide) ?_
                      refine J_icmp_ne C 85 (nI_toInt (n := 0) (by decide)) (nI_toInt (n := 0) (by decide)) dM_functionFor_78 (by decide) (fun h78 => ?_) (fun h78 => ?_)
                      · exfalso; omega
                      · refine J_iconst C (v := nI (1)) dM_functionFor_81 (by decide) ?_
                        refine J_goto C 86 dM_functionFor_82 (by decide) ?_
                        refine J_istore C (lv' := [(0, .ref (h)), (1, .int (nI (p))), (2, .int (nI (fnv n p v))), (3, .int (nI (v))), (4, .int (nI (1))), (5, .int (nI (p / 3 ^ (k + 1)))), (6, .int (nI (k))), (7, .int (nI ((p / 3 ^ k) % 3)))]) [1, 2, 3, 4, 0, 5, 6, 7] dM_functionFor_86 (by decide) rfl ?_
                        refine J_iinc C (lv' := [(0, .ref (h)), (1, .int (nI (p))), (2, .int (nI (fnv n p v))), (3, .int (nI (v))), (4, .int (nI (1))), (5, .int (nI (p / 3 ^ (k + 1)))), (6, .int (nI (k + 1))), (7, .int (nI ((p / 3 ^ k) % 3)))]) 6 [1, 2, 3, 4, 5, 6, 0, 7] dM_functionFor_88 rfl (jn_inc _) (by decide) rfl ?_
                        refine J_goto C 21 dM_functionFor_91 (by decide) ?_
                        refine J_lv C (lv' := [(0, .ref (h)), (1, .int (nI (p))), (2, .int (nI (fnv n p v))), (3, .int (nI (v))), (4, .int (nI (1))), (5, .int (nI (p / 3 ^ (k + 1)))), (6, .int (nI (k + 1)))]) [0, 1, 2, 3, 4, 5, 6] rfl ?_
                        exact ih_21 (k + 1) 1 (by omega) (by have q := fn_step (v := v) (p := p) (k := k) hz; omega) (by omega)
                    · refine J_iconst C (v := nI (1)) dM_functionFor_73 (by decide) ?_
                      refine J_goto C 78 dM_functionFor_74 (by decide) ?_
                      refine J_icmp_ne C 85 (nI_toInt (n := 0) (by decide)) (nI_toInt (n := 1) (by decide)) dM_functionFor_78 (by decide) (fun h78 => ?_) (fun h78 => ?_)
                      · refine J_iconst C (v := nI (0)) dM_functionFor_85 (by decide) ?_
                        refine J_istore C (lv' := [(0, .ref (h)), (1, .int (nI (p))), (2, .int (nI (fnv n p v))), (3, .int (nI (v))), (4, .int (nI (0))), (5, .int (nI (p / 3 ^ (k + 1)))), (6, .int (nI (k))), (7, .int (nI ((p / 3 ^ k) % 3)))]) [1, 2, 3, 4, 0, 5, 6, 7] dM_functionFor_86 (by decide) rfl ?_
                        refine J_iinc C (lv' := [(0, .ref (h)), (1, .int (nI (p))), (2, .int (nI (fnv n p v))), (3, .int (nI (v))), (4, .int (nI (0))), (5, .int (nI (p / 3 ^ (k + 1)))), (6, .int (nI (k + 1))), (7, .int (nI ((p / 3 ^ k) % 3)))]) 6 [1, 2, 3, 4, 5, 6, 0, 7] dM_functionFor_88 rfl (jn_inc _) (by decide) rfl ?_
                        refine J_goto C 21 dM_functionFor_91 (by decide) ?_
                        refine J_lv C (lv' := [(0, .ref (h)), (1, .int (nI (p))), (2, .int (nI (fnv n p v))), (3, .int (nI (v))), (4, .int (nI (0))), (5, .int (nI (p / 3 ^ (k + 1)))), (6, .int (nI (k + 1)))]) [0, 1, 2, 3, 4, 5, 6] rfl ?_
                        exact ih_21 (k + 1) 0 (by omega) (by have q := fn_step (v := v) (p := p) (k := k) hz; omega) (by omega)
                      · exfalso; omega
                  · refine J_iconst C (v := nI (1)) dM_functionFor_58 (by decide) ?_
                    refine J_goto C 63 dM_functionFor_59 (by decide) ?_
                    refine J_iload_n C 3 dM_functionFor_63 rfl rfl ?_
                    refine J_iload C 6 dM_functionFor_64 rfl ?_
                    refine J_ishrN C dM_functionFor_66 (by omega) (by omega) ?_
                    refine J_iconst C (v := nI (1)) dM_functionFor_67 (by decide) ?_
                    refine J_iandN C dM_functionFor_68 ?_
                    refine J_iconst C (v := nI (1)) dM_functionFor_69 (by decide) ?_
                    refine J_icmp_ne C 77 (nI_toInt (n := (v / 2 ^ k) &&& 1) (by omega)) (nI_toInt (n := 1) (by decide)) dM_functionFor_70 (by decide) (fun h70 => ?_) (fun h70 => ?_)
                    · refine J_iconst C (v := nI (0)) dM_functionFor_77 (by decide) ?_
                      refine J_icmp_ne C 85 (nI_toInt (n := 1) (by decide)) (nI_toInt (n := 0) (by decide)) dM_functionFor_78 (by decide) (fun h78 => ?_) (fun h78 => ?_)
                      · refine J_iconst C (v := nI (0)) dM_functionFor_85 (by decide) ?_
                        refine J_istore C (lv' := [(0, .ref (h)), (1, .int (nI (p))), (2, .int (nI (fnv n p v))), (3, .int (nI (v))), (4, .int (nI (0))), (5, .int (nI (p / 3 ^ (k + 1)))), (6, .int (nI (k))), (7, .int (nI ((p / 3 ^ k) % 3)))]) [1, 2, 3, 4, 0, 5, 6, 7] dM_functionFor_86 (by decide) rfl ?_
                        refine J_iinc C (lv' := [(0, .ref (h)), (1, .int (nI (p))), (2, .int (nI (fnv n p v))), (3, .int (nI (v))), (4, .int (nI (0))), (5, .int (nI (p / 3 ^ (k + 1)))), (6, .int (nI (k + 1))), (7, .int (nI ((p / 3 ^ k) % 3)))]) 6 [1, 2, 3, 4, 5, 6, 0, 7] dM_functionFor_88 rfl (jn_inc _) (by decide) rfl ?_
                        refine J_goto C 21 dM_functionFor_91 (by decide) ?_
                        refine J_lv C (lv' := [(0, .ref (h)), (1, .int (nI (p))), (2, .int (nI (fnv n p v))), (3, .int (nI (v))), (4, .int (nI (0))), (5, .int (nI (p / 3 ^ (k + 1)))), (6, .int (nI (k + 1)))]) [0, 1, 2, 3, 4, 5, 6] rfl ?_
                        exact ih_21 (k + 1) 0 (by omega) (by have q := fn_step (v := v) (p := p) (k := k) hz; omega) (by omega)
                      · exfalso; omega
                    · refine J_iconst C (v := nI (1)) dM_functionFor_73 (by decide) ?_
                      refine J_goto C 78 dM_functionFor_74 (by decide) ?_
                      refine J_icmp_ne C 85 (nI_toInt (n := 1) (by decide)) (nI_toInt (n := 1) (by decide)) dM_functionFor_78 (by decide) (fun h78 => ?_) (fun h78 => ?_)
                      · exfalso; omega
                      · refine J_iconst C (v := nI (1)) dM_functionFor_81 (by decide) ?_
                        refine J_goto C 86 dM_functionFor_82 (by decide) ?_
                        refine J_istore C (lv' := [(0, .ref (h)), (1, .int (nI (p))), (2, .int (nI (fnv n p v))), (3, .int (nI (v))), (4, .int (nI (1))), (5, .int (nI (p / 3 ^ (k + 1)))), (6, .int (nI (k))), (7, .int (nI ((p / 3 ^ k) % 3)))]) [1, 2, 3, 4, 0, 5, 6, 7] dM_functionFor_86 (by decide) rfl ?_
                        refine J_iinc C (lv' := [(0, .ref (h)), (1, .int (nI (p))), (2, .int (nI (fnv n p v))), (3, .int (nI (v))), (4, .int (nI (1))), (5, .int (nI (p / 3 ^ (k + 1)))), (6, .int (nI (k + 1))), (7, .int (nI ((p / 3 ^ k) % 3)))]) 6 [1, 2, 3, 4, 5, 6, 0, 7] dM_functionFor_88 rfl (jn_inc _) (by decide) rfl ?_
                        refine J_goto C 21 dM_functionFor_91 (by decide) ?_
                        refine J_lv C (lv' := [(0, .ref (h)), (1, .int (nI (p))), (2, .int (nI (fnv n p v))), (3, .int (nI (v))), (4, .int (nI (1))), (5, .int (nI (p / 3 ^ (k + 1)))), (6, .int (nI (k + 1)))]) [0, 1, 2, 3, 4, 5, 6] rfl ?_
                        exact ih_21 (k + 1) 1 (by omega) (by have q := fn_step (v := v) (p := p) (k := k) hz; omega) (by omega)
        have q_21 := lp_21 (n + 1) 0 1 (by omega) (rfl) (by omega)
        rw [show p / 3 ^ 0 = p by simp] at q_21
        exact q_21
  exact lp_4 (2 ^ n + 1) 0 (by omega) (by omega)
set_option maxHeartbeats 4000000 in
set_option maxRecDepth 100000 in
theorem c_M_product_t (E : jE) (l : Launch) (h : Nat) (n : Nat) (st : Nat) (mn : Nat) (m1 : Nat) (m2 : Nat) (m3 : Nat) (m4 : Nat) (m5 : Nat) (m6 : Nat) (m7 : Nat) (m8 : Nat) (m9 : Nat) (ma : Nat) (mb : Nat) (p : Nat) (hn1 : 1 ≤ n) (hn4 : n ≤ 4) (hp : p < 3 ^ n) : Con E l yM_product bM_product 2 (some .int) { frames := 2, cells := 0, slots := 0, locals := 47 } [.ref (h), .int (nI (p))] [((h), .inr (5, [.int (nI (0)), .int (nI (n)), .ref (m1), .int (nI (st)), .ref (m2), .ref (m3), .ref (m4), .int (nI (mn)), .ref (m5), .ref (m6), .ref (m7), .ref (m8), .ref (m9), .ref (ma), .ref (mb)]))] (fun r w => r = some (.int (nI (pfn n p))) ∧ w = [((h), .inr (5, [.int (nI (0)), .int (nI (n)), .ref (m1), .int (nI (st)), .ref (m2), .ref (m3), .ref (m4), .int (nI (mn)), .ref (m5), .ref (m6), .ref (m7), .ref (m8), .ref (m9), .ref (ma), .ref (mb)]))]) := by
  refine Con.ofI (by decide) (Nat.le_of_ble_eq_true rfl) ?_
  intro J C hret
  show J 0 [(0, .ref (h)), (1, .int (nI (p)))] [] [((h), .inr (5, [.int (nI (0)), .int (nI (n)), .ref (m1), .int (nI (st)), .ref (m2), .ref (m3), .ref (m4), .int (nI (mn)), .ref (m5), .ref (m6), .ref (m7), .ref (m8), .ref (m9), .ref (ma), .ref (mb)]))] 0 0
  have hp16 := p16 hn4
  have hp1 := p1 n
  have hp81 := p81 hn4
  refine J_aload_n C 0 dM_product_0 rfl rfl ?_
  refine J_iconst C (v := nI (0)) dM_product_1 (by decide) ?_
  refine J_put C (ws' := [((h), .inr (5, [.int (nI (0)), .int (nI (n)), .ref (m1), .int (nI (st)), .ref (m2), .ref (m3), .ref (m4), .int (nI (mn)), .ref (m5), .ref (m6), .ref (m7), .ref (m8), .ref (m9), .ref (ma), .ref (mb)]))]) 0 0 tyM hinM tyokM nmM rfl rfl (by decide) fkM_53 rfl rfl rfl (Nat.le_of_ble_eq_true rfl) dM_product_2 rfl ?_
  refine J_iload_n C 1 dM_product_5 rfl rfl ?_
  refine J_if_lt C 25 (nI_toInt (n := p) (by omega)) dM_product_6 (by decide) (fun h6 => ?_) (fun h6 => ?_)
  · exfalso; omega
  · refine J_iload_n C 1 dM_product_9 rfl rfl ?_
    refine J_aload_n C 0 dM_product_10 rfl rfl ?_
    refine J_callV C (rest := [.int (nI (p))]) [] [((h), .inr (5, [.int (nI (0)), .int (nI (n)), .ref (m1), .int (nI (st)), .ref (m2), .ref (m3), .ref (m4), .int (nI (mn)), .ref (m5), .ref (m6), .ref (m7), .ref (m8), .ref (m9), .ref (ma), .ref (mb)]))] [] 0 (c_M_products E l h n st mn m1 m2 m3 m4 m5 m6 m7 m8 m9 ma mb (by omega) (by omega)) mmM_products msM_products lkM_85 rfl rfl (rfl) rfl rfl ⟨by decide, by decide⟩ ⟨by decide, by decide⟩ (Nat.le_of_ble_eq_true rfl) dM_product_11 (fun r_c w_c hp => ?_)
    obtain ⟨rfl, rfl⟩ := hp
    refine J_norm C (st' := [.int (nI (3 ^ n)), .int (nI (p))]) (ws' := [((h), .inr (5, [.int (nI (0)), .int (nI (n)), .ref (m1), .int (nI (st)), .ref (m2), .ref (m3), .ref (m4), .int (nI (mn)), .ref (m5), .ref (m6), .ref (m7), .ref (m8), .ref (m9), .ref (ma), .ref (mb)]))]) (cs' := 0) (ss' := 0) rfl (rfl) rfl rfl ?_
    refine J_icmp_ge C 25 (nI_toInt (n := p) (by omega)) (nI_toInt (n := 3 ^ n) (by omega)) dM_product_14 (by decide) (fun h14 => ?_) (fun h14 => ?_)
    · exfalso; omega
    · refine J_aload_n C 0 dM_product_17 rfl rfl ?_
      refine J_iload_n C 1 dM_product_18 rfl rfl ?_
      refine J_callV C (rest := []) [] [((h), .inr (5, [.int (nI (0)), .int (nI (n)), .ref (m1), .int (nI (st)), .ref (m2), .ref (m3), .ref (m4), .int (nI (mn)), .ref (m5), .ref (m6), .ref (m7), .ref (m8), .ref (m9), .ref (ma), .ref (mb)]))] [] 0 (c_M_functionFor E l h n st mn m1 m2 m3 m4 m5 m6 m7 m8 m9 ma mb p (by omega) (by omega) (by omega)) mmM_functionFor msM_functionFor lkM_92 rfl rfl (rfl) rfl rfl ⟨by decide, by decide⟩ ⟨by decide, by decide⟩ (Nat.le_of_ble_eq_true rfl) dM_product_19 (fun r_c w_c hp => ?_)
      obtain ⟨rfl, rfl⟩ := hp
      refine J_norm C (st' := [.int (nI (pfn n p))]) (ws' := [((h), .inr (5, [.int (nI (0)), .int (nI (n)), .ref (m1), .int (nI (st)), .ref (m2), .ref (m3), .ref (m4), .int (nI (mn)), .ref (m5), .ref (m6), .ref (m7), .ref (m8), .ref (m9), .ref (ma), .ref (mb)]))]) (cs' := 0) (ss' := 0) rfl (rfl) rfl rfl ?_
      refine J_goto C 26 dM_product_22 (by decide) ?_
      exact hret _ _ _ _ _ _ dM_product_26 (by decide) (by decide) (⟨rfl, rfl⟩)
set_option maxHeartbeats 4000000 in
set_option maxRecDepth 100000 in
theorem c_M_product_f (E : jE) (l : Launch) (h : Nat) (n : Nat) (st : Nat) (mn : Nat) (m1 : Nat) (m2 : Nat) (m3 : Nat) (m4 : Nat) (m5 : Nat) (m6 : Nat) (m7 : Nat) (m8 : Nat) (m9 : Nat) (ma : Nat) (mb : Nat) (x : Int32) (hn1 : 1 ≤ n) (hn4 : n ≤ 4) (hx : x.toInt < 0 ∨ ((3 ^ n : Nat) : Int) ≤ x.toInt) : Con E l yM_product bM_product 2 (some .int) { frames := 1, cells := 0, slots := 0, locals := 22 } [.ref (h), .int (x)] [((h), .inr (5, [.int (nI (0)), .int (nI (n)), .ref (m1), .int (nI (st)), .ref (m2), .ref (m3), .ref (m4), .int (nI (mn)), .ref (m5), .ref (m6), .ref (m7), .ref (m8), .ref (m9), .ref (ma), .ref (mb)]))] (fun r w => r = some (.int (-1)) ∧ w = [((h), .inr (5, [.int (nI (0)), .int (nI (n)), .ref (m1), .int (nI (st)), .ref (m2), .ref (m3), .ref (m4), .int (nI (mn)), .ref (m5), .ref (m6), .ref (m7), .ref (m8), .ref (m9), .ref (ma), .ref (mb)]))]) := by
  refine Con.ofI (by decide) (Nat.le_of_ble_eq_true rfl) ?_
  intro J C hret
  show J 0 [(0, .ref (h)), (1, .int (x))] [] [((h), .inr (5, [.int (nI (0)), .int (nI (n)), .ref (m1), .int (nI (st)), .ref (m2), .ref (m3), .ref (m4), .int (nI (mn)), .ref (m5), .ref (m6), .ref (m7), .ref (m8), .ref (m9), .ref (ma), .ref (mb)]))] 0 0
  have hp16 := p16 hn4
  have hp1 := p1 n
  have hp81 := p81 hn4
  refine J_aload_n C 0 dM_product_0 rfl rfl ?_
  refine J_iconst C (v := nI (0)) dM_product_1 (by decide) ?_
  refine J_put C (ws' := [((h), .inr (5, [.int (nI (0)), .int (nI (n)), .ref (m1), .int (nI (st)), .ref (m2), .ref (m3), .ref (m4), .int (nI (mn)), .ref (m5), .ref (m6), .ref (m7), .ref (m8), .ref (m9), .ref (ma), .ref (mb)]))]) 0 0 tyM hinM tyokM nmM rfl rfl (by decide) fkM_53 rfl rfl rfl (Nat.le_of_ble_eq_true rfl) dM_product_2 rfl ?_
  refine J_iload_n C 1 dM_product_5 rfl rfl ?_
  refine J_if_lt C 25 rfl dM_product_6 (by decide) (fun h6 => ?_) (fun h6 => ?_)
  · refine J_iconst C (v := -1) dM_product_25 (by decide) ?_
    exact hret _ _ _ _ _ _ dM_product_26 (by decide) (by decide) (⟨rfl, rfl⟩)
  · refine J_iload_n C 1 dM_product_9 rfl rfl ?_
    refine J_aload_n C 0 dM_product_10 rfl rfl ?_
    refine J_callV C (rest := [.int (x)]) [] [((h), .inr (5, [.int (nI (0)), .int (nI (n)), .ref (m1), .int (nI (st)), .ref (m2), .ref (m3), .ref (m4), .int (nI (mn)), .ref (m5), .ref (m6), .ref (m7), .ref (m8), .ref (m9), .ref (ma), .ref (mb)]))] [] 0 (c_M_products E l h n st mn m1 m2 m3 m4 m5 m6 m7 m8 m9 ma mb (by omega) (by omega)) mmM_products msM_products lkM_85 rfl rfl (rfl) rfl rfl ⟨by decide, by decide⟩ ⟨by decide, by decide⟩ (Nat.le_of_ble_eq_true rfl) dM_product_11 (fun r_c w_c hp => ?_)
    obtain ⟨rfl, rfl⟩ := hp
    refine J_norm C (st' := [.int (nI (3 ^ n)), .int (x)]) (ws' := [((h), .inr (5, [.int (nI (0)), .int (nI (n)), .ref (m1), .int (nI (st)), .ref (m2), .ref (m3), .ref (m4), .int (nI (mn)), .ref (m5), .ref (m6), .ref (m7), .ref (m8), .ref (m9), .ref (ma), .ref (mb)]))]) (cs' := 0) (ss' := 0) rfl (rfl) rfl rfl ?_
    refine J_icmp_ge C 25 rfl (nI_toInt (n := 3 ^ n) (by omega)) dM_product_14 (by decide) (fun h14 => ?_) (fun h14 => ?_)
    · refine J_iconst C (v := -1) dM_product_25 (by decide) ?_
      exact hret _ _ _ _ _ _ dM_product_26 (by decide) (by decide) (⟨rfl, rfl⟩)
    · exfalso; omega
