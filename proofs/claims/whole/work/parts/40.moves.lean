set_option maxHeartbeats 4000000 in
set_option maxRecDepth 100000 in
theorem c_V_length (E : jE) (l : Launch) (h : Nat) (b : Nat) (ln : Nat) (t : Nat → Nat) : Con E l yV_length bV_length 1 (some .int) { frames := 0, cells := 0, slots := 0, locals := 0 } [.ref (h)] [((h), .inr (1, [.ref (b)])), kI E (b) (ln) (t)] (fun r w => r = some (.int (nI ln)) ∧ w = [((h), .inr (1, [.ref (b)])), kI E (b) (ln) (t)]) := by
  refine Con.ofI (by decide) (Nat.le_of_ble_eq_true rfl) ?_
  intro J C hret
  show J 0 [(0, .ref (h))] [] [((h), .inr (1, [.ref (b)])), kI E (b) (ln) (t)] 0 0
  refine J_aload_n C 0 dV_length_0 rfl rfl ?_
  refine J_get C 0 0 hinV rfl rfl (by decide) fkV_9 rfl dV_length_1 ?_
  refine J_alen C 1 0 rfl rfl dV_length_4 ?_
  exact hret _ _ _ _ _ _ dV_length_5 (by decide) (by decide) (⟨rfl, rfl⟩)
set_option maxHeartbeats 4000000 in
set_option maxRecDepth 100000 in
theorem c_V_at_t (E : jE) (l : Launch) (h : Nat) (b : Nat) (ln : Nat) (t : Nat → Nat) (k : Nat) (hln : ln ≤ 4096) (hk : k < ln) : Con E l yV_at bV_at 2 (some .int) { frames := 0, cells := 0, slots := 0, locals := 0 } [.ref (h), .int (nI (k))] [((h), .inr (1, [.ref (b)])), kI E (b) (ln) (t)] (fun r w => r = some (.int (nI (t k))) ∧ w = [((h), .inr (1, [.ref (b)])), kI E (b) (ln) (t)]) := by
  refine Con.ofI (by decide) (Nat.le_of_ble_eq_true rfl) ?_
  intro J C hret
  show J 0 [(0, .ref (h)), (1, .int (nI (k)))] [] [((h), .inr (1, [.ref (b)])), kI E (b) (ln) (t)] 0 0
  refine J_iload_n C 1 dV_at_0 rfl rfl ?_
  refine J_if_lt C 22 (nI_toInt (n := k) (by omega)) dV_at_1 (by decide) (fun h1 => ?_) (fun h1 => ?_)
  · exfalso; omega
  · refine J_iload_n C 1 dV_at_4 rfl rfl ?_
    refine J_aload_n C 0 dV_at_5 rfl rfl ?_
    refine J_get C 0 0 hinV rfl rfl (by decide) fkV_9 rfl dV_at_6 ?_
    refine J_alen C 1 0 rfl rfl dV_at_9 ?_
    refine J_icmp_ge C 22 (nI_toInt (n := k) (by omega)) (nI_toInt (n := ln) (by omega)) dV_at_10 (by decide) (fun h10 => ?_) (fun h10 => ?_)
    · exfalso; omega
    · refine J_aload_n C 0 dV_at_13 rfl rfl ?_
      refine J_get C 0 0 hinV rfl rfl (by decide) fkV_9 rfl dV_at_14 ?_
      refine J_iload_n C 1 dV_at_17 rfl rfl ?_
      refine J_iald C 1 rfl (by omega) (by omega) dV_at_18 ?_
      refine J_goto C 23 dV_at_19 (by decide) ?_
      exact hret _ _ _ _ _ _ dV_at_23 (by decide) (by decide) (⟨rfl, rfl⟩)
set_option maxHeartbeats 4000000 in
set_option maxRecDepth 100000 in
theorem c_V_at_f (E : jE) (l : Launch) (h : Nat) (b : Nat) (ln : Nat) (t : Nat → Nat) (x : Int32) (hln : ln ≤ 4096) (hx : x.toInt < 0 ∨ (ln : Int) ≤ x.toInt) : Con E l yV_at bV_at 2 (some .int) { frames := 0, cells := 0, slots := 0, locals := 0 } [.ref (h), .int (x)] [((h), .inr (1, [.ref (b)])), kI E (b) (ln) (t)] (fun r w => r = some (.int (-1)) ∧ w = [((h), .inr (1, [.ref (b)])), kI E (b) (ln) (t)]) := by
  refine Con.ofI (by decide) (Nat.le_of_ble_eq_true rfl) ?_
  intro J C hret
  show J 0 [(0, .ref (h)), (1, .int (x))] [] [((h), .inr (1, [.ref (b)])), kI E (b) (ln) (t)] 0 0
  refine J_iload_n C 1 dV_at_0 rfl rfl ?_
  refine J_if_lt C 22 rfl dV_at_1 (by decide) (fun h1 => ?_) (fun h1 => ?_)
  · refine J_iconst C (v := -1) dV_at_22 (by decide) ?_
    exact hret _ _ _ _ _ _ dV_at_23 (by decide) (by decide) (⟨rfl, rfl⟩)
  · refine J_iload_n C 1 dV_at_4 rfl rfl ?_
    refine J_aload_n C 0 dV_at_5 rfl rfl ?_
    refine J_get C 0 0 hinV rfl rfl (by decide) fkV_9 rfl dV_at_6 ?_
    refine J_alen C 1 0 rfl rfl dV_at_9 ?_
    refine J_icmp_ge C 22 rfl (nI_toInt (n := ln) (by omega)) dV_at_10 (by decide) (fun h10 => ?_) (fun h10 => ?_)
    · refine J_iconst C (v := -1) dV_at_22 (by decide) ?_
      exact hret _ _ _ _ _ _ dV_at_23 (by decide) (by decide) (⟨rfl, rfl⟩)
    · exfalso; omega
set_option maxHeartbeats 4000000 in
set_option maxRecDepth 100000 in
theorem c_V_set (E : jE) (l : Launch) (h : Nat) (b : Nat) (ln : Nat) (t : Nat → Nat) (k : Nat) (v : Nat) (hln : ln ≤ 4096) (hk : k < ln) : Con E l yV_set bV_set 3 none { frames := 0, cells := 0, slots := 0, locals := 0 } [.ref (h), .int (nI (k)), .int (nI (v))] [((h), .inr (1, [.ref (b)])), kI E (b) (ln) (t)] (fun r w => r = none ∧ w = [((h), .inr (1, [.ref (b)])), kI E (b) (ln) (upN t k v)]) := by
  refine Con.ofV (by decide) (Nat.le_of_ble_eq_true rfl) ?_
  intro J C hret
  show J 0 [(0, .ref (h)), (1, .int (nI (k))), (2, .int (nI (v)))] [] [((h), .inr (1, [.ref (b)])), kI E (b) (ln) (t)] 0 0
  refine J_iload_n C 1 dV_set_0 rfl rfl ?_
  refine J_if_lt C 20 (nI_toInt (n := k) (by omega)) dV_set_1 (by decide) (fun h1 => ?_) (fun h1 => ?_)
  · exfalso; omega
  · refine J_iload_n C 1 dV_set_4 rfl rfl ?_
    refine J_aload_n C 0 dV_set_5 rfl rfl ?_
    refine J_get C 0 0 hinV rfl rfl (by decide) fkV_9 rfl dV_set_6 ?_
    refine J_alen C 1 0 rfl rfl dV_set_9 ?_
    refine J_icmp_ge C 20 (nI_toInt (n := k) (by omega)) (nI_toInt (n := ln) (by omega)) dV_set_10 (by decide) (fun h10 => ?_) (fun h10 => ?_)
    · exfalso; omega
    · refine J_aload_n C 0 dV_set_13 rfl rfl ?_
      refine J_get C 0 0 hinV rfl rfl (by decide) fkV_9 rfl dV_set_14 ?_
      refine J_iload_n C 1 dV_set_17 rfl rfl ?_
      refine J_iload_n C 2 dV_set_18 rfl rfl ?_
      refine J_iastN C (ws' := [((h), .inr (1, [.ref (b)])), kI E (b) (ln) (upN t k v)]) 1 rfl (by omega) (by omega) dV_set_19 rfl ?_
      exact hret _ _ _ _ _ dV_set_20 (by decide) (by decide) (⟨rfl, rfl⟩)
set_option maxHeartbeats 4000000 in
set_option maxRecDepth 100000 in
theorem c_V_init (E : jE) (l : Launch) (h : Nat) (k : Nat) (hk : k ≤ 4096) : Con E l yV_init bV_init 2 none { frames := 1, cells := 1, slots := 4096, locals := 12 } [.ref (h), .int (nI (k))] [((h), .inr (1, [.null]))] (fun r w => ∃ b : Nat, r = none ∧ w = [((h), .inr (1, [.ref (b)])), kI E (b) (k) (fun _ => 0)]) := by
  refine Con.ofN rfl (by decide) (Nat.le_of_ble_eq_true rfl) ?_
  intro J C hinit hret
  show J 0 [(0, .ref (h)), (1, .int (nI (k)))] [] [((h), .inr (1, [.null]))] 0 0
  refine J_aload_n C 0 dV_init_0 rfl rfl ?_
  refine J_objInit C lkV_3 k_objI k_objC dV_init_1 (by decide) (Nat.le_of_ble_eq_true rfl) ?_
  refine J_aload_n C 0 dV_init_4 rfl rfl ?_
  refine J_iload_n C 1 dV_init_5 rfl rfl ?_
  refine J_if_ge C 13 (nI_toInt (n := k) (by omega)) dV_init_6 (by decide) (fun h6 => ?_) (fun h6 => ?_)
  · refine J_iload_n C 1 dV_init_13 rfl rfl ?_
    refine J_newaI C ar_int (by omega) (by decide) (by show 0 + k ≤ 4096; omega) dV_init_14 (fun b1 => ?_)
    refine hinit (ws' := [((h), .inr (1, [.ref (b1)])), kI E (b1) (k) (fun _ => 0)]) _ _ _ _ _ _ _ _ _ _ _ _ 0 _ 0 tyV _ hinV tyokV nmV rfl rfl (by decide) fkV_9 rfl rfl rfl rfl (Nat.le_of_ble_eq_true rfl) dV_init_16 rfl ?_
    exact hret _ _ _ _ _ dV_init_19 (by decide) (by show 0 + k ≤ 4096; omega) (⟨b1, rfl, rfl⟩)
  · exfalso; omega
set_option maxHeartbeats 4000000 in
set_option maxRecDepth 100000 in
theorem c_S_count (E : jE) (l : Launch) (h : Nat) (m : Nat) (e1 : Nat) (e2 : Nat) (e3 : Nat) (e4 : Nat) (e5 : Nat) (qd : Nat) : Con E l yS_count bS_count 1 (some .int) { frames := 0, cells := 0, slots := 0, locals := 0 } [.ref (h)] [((h), .inr (2, [.int (nI (m)), .ref (e1), .ref (e2), .ref (e3), .ref (e4), .ref (e5), .int (nI (qd))]))] (fun r w => r = some (.int (nI m)) ∧ w = [((h), .inr (2, [.int (nI (m)), .ref (e1), .ref (e2), .ref (e3), .ref (e4), .ref (e5), .int (nI (qd))]))]) := by
  refine Con.ofI (by decide) (Nat.le_of_ble_eq_true rfl) ?_
  intro J C hret
  show J 0 [(0, .ref (h))] [] [((h), .inr (2, [.int (nI (m)), .ref (e1), .ref (e2), .ref (e3), .ref (e4), .ref (e5), .int (nI (qd))]))] 0 0
  refine J_aload_n C 0 dS_count_0 rfl rfl ?_
  refine J_get C 0 0 hinS rfl rfl (by decide) fkS_9 rfl dS_count_1 ?_
  exact hret _ _ _ _ _ _ dS_count_4 (by decide) (by decide) (⟨rfl, rfl⟩)
set_option maxHeartbeats 4000000 in
set_option maxRecDepth 100000 in
theorem c_S_forget (E : jE) (l : Launch) (h : Nat) (m : Nat) (e1 : Nat) (e2 : Nat) (e3 : Nat) (e4 : Nat) (e5 : Nat) (qd : Nat) (kn : Nat → Option Nat) : Con E l yS_forget bS_forget 2 none { frames := 0, cells := 0, slots := 0, locals := 0 } [.ref (h)] [((h), .inr (2, [.int (nI (m)), .ref (e1), .ref (e2), .ref (e3), .ref (e4), .ref (e5), .int (nI (qd))])), kQ E (e2) (13) (kn)] (fun r w => r = none ∧ w = [((h), .inr (2, [.int (nI (m)), .ref (e1), .ref (e2), .ref (e3), .ref (e4), .ref (e5), .int (nI (qd))])), kQ E (e2) (13) (fun _ => none)]) := by
  refine Con.ofV (by decide) (Nat.le_of_ble_eq_true rfl) ?_
  intro J C hret
  show J 0 [(0, .ref (h))] [] [((h), .inr (2, [.int (nI (m)), .ref (e1), .ref (e2), .ref (e3), .ref (e4), .ref (e5), .int (nI (qd))])), kQ E (e2) (13) (kn)] 0 0
  refine J_iconst C (v := nI (0)) dS_forget_0 (by decide) ?_
  refine J_istore_n C (lv' := [(0, .ref (h)), (1, .int (nI (0)))]) [1, 0] dS_forget_1 rfl (by decide) rfl ?_
  have lp_2 : ∀ (k_2 : Nat) (i : Nat) (f : Nat → Option Nat), (i ≤ 13) → (∀ j, f j = if j < i then none else kn j) → (13 - i) < k_2 → J 2 [(0, .ref (h)), (1, .int (nI (i)))] [] [((h), .inr (2, [.int (nI (m)), .ref (e1), .ref (e2), .ref (e3), .ref (e4), .ref (e5), .int (nI (qd))])), kQ E (e2) (13) (f)] (0) (0) := by
    intro k_2
    induction k_2 with
    | zero => intro i f hi hf hk_2; exact absurd hk_2 (Nat.not_lt_zero _)
    | succ k_2 ih_2 =>
      intro i f hi hf hk_2
      refine J_iload_n C 1 dS_forget_2 rfl rfl ?_
      refine J_bipush C (v := nI (12)) dS_forget_3 (by decide) ?_
      refine J_icmp_gt C 21 (nI_toInt (n := i) (by omega)) (nI_toInt (n := 12) (by decide)) dS_forget_5 (by decide) (fun h5 => ?_) (fun h5 => ?_)
      · refine J_cell C (ws' := [((h), .inr (2, [.int (nI (m)), .ref (e1), .ref (e2), .ref (e3), .ref (e4), .ref (e5), .int (nI (qd))])), kQ E (e2) (13) (fun _ => none)]) 1 rfl (fun H => kQ_congr (fun j hj => by rw [hf j, if_pos (by omega)])) rfl ?_
        exact hret _ _ _ _ _ dS_forget_21 (by decide) (by decide) (⟨rfl, rfl⟩)
      · refine J_aload_n C 0 dS_forget_8 rfl rfl ?_
        refine J_get C 0 2 hinS rfl rfl (by decide) fkS_21 rfl dS_forget_9 ?_
        refine J_iload_n C 1 dS_forget_12 rfl rfl ?_
        refine J_null C dS_forget_13 ?_
        refine J_aastN C (ws' := [((h), .inr (2, [.int (nI (m)), .ref (e1), .ref (e2), .ref (e3), .ref (e4), .ref (e5), .int (nI (qd))])), kQ E (e2) (13) (va_up f i none)]) 1 rfl (by omega) (by omega) dS_forget_14 rfl ?_
        refine J_iinc C (lv' := [(0, .ref (h)), (1, .int (nI (i + 1)))]) 1 [1, 0] dS_forget_15 rfl (jn_inc _) (by decide) rfl ?_
        refine J_goto C 2 dS_forget_18 (by decide) ?_
        exact ih_2 (i + 1) (va_up f i none) (by omega) (cq_s hf) (by omega)
  exact lp_2 (14) 0 kn (by omega) (by intro j; simp) (by omega)
set_option maxHeartbeats 4000000 in
set_option maxRecDepth 100000 in
theorem c_S_start_t (E : jE) (l : Launch) (h : Nat) (m : Nat) (e1 : Nat) (e2 : Nat) (e3 : Nat) (e4 : Nat) (e5 : Nat) (qd : Nat) (nd : Nat → Nat) (kn : Nat → Option Nat) (k : Nat) (hk1 : 1 ≤ k) (hk12 : k ≤ 12) : Con E l yS_startWith bS_startWith 3 (some .boolean) { frames := 1, cells := 0, slots := 0, locals := 21 } [.ref (h), .int (nI (k))] [((h), .inr (2, [.int (nI (m)), .ref (e1), .ref (e2), .ref (e3), .ref (e4), .ref (e5), .int (nI (qd))])), kI E (e1) (12) (nd), kQ E (e2) (13) (kn)] (fun r w => r = some (.int (nI 1)) ∧ w = [((h), .inr (2, [.int (nI (k)), .ref (e1), .ref (e2), .ref (e3), .ref (e4), .ref (e5), .int (nI (qd))])), kI E (e1) (12) (fun _ => 0), kQ E (e2) (13) (fun _ => none)]) := by
  refine Con.ofZ (by decide) (Nat.le_of_ble_eq_true rfl) ?_
  intro J C hret
  show J 0 [(0, .ref (h)), (1, .int (nI (k)))] [] [((h), .inr (2, [.int (nI (m)), .ref (e1), .ref (e2), .ref (e3), .ref (e4), .ref (e5), .int (nI (qd))])), kI E (e1) (12) (nd), kQ E (e2) (13) (kn)] 0 0
  refine J_iload_n C 1 dS_startWith_0 rfl rfl ?_
  refine J_iconst C (v := nI (1)) dS_startWith_1 (by decide) ?_
  refine J_icmp_lt C 11 (nI_toInt (n := k) (by omega)) (nI_toInt (n := 1) (by decide)) dS_startWith_2 (by decide) (fun h2 => ?_) (fun h2 => ?_)
  · exfalso; omega
  · refine J_iload_n C 1 dS_startWith_5 rfl rfl ?_
    refine J_bipush C (v := nI (12)) dS_startWith_6 (by decide) ?_
    refine J_icmp_le C 13 (nI_toInt (n := k) (by omega)) (nI_toInt (n := 12) (by decide)) dS_startWith_8 (by decide) (fun h8 => ?_) (fun h8 => ?_)
    · refine J_aload_n C 0 dS_startWith_13 rfl rfl ?_
      refine J_iload_n C 1 dS_startWith_14 rfl rfl ?_
      refine J_put C (ws' := [((h), .inr (2, [.int (nI (k)), .ref (e1), .ref (e2), .ref (e3), .ref (e4), .ref (e5), .int (nI (qd))])), kI E (e1) (12) (nd), kQ E (e2) (13) (kn)]) 0 0 tyS hinS tyokS nmS rfl rfl (by decide) fkS_9 rfl rfl rfl (Nat.le_of_ble_eq_true rfl) dS_startWith_15 rfl ?_
      refine J_iconst C (v := nI (0)) dS_startWith_18 (by decide) ?_
      refine J_istore_n C (lv' := [(0, .ref (h)), (1, .int (nI (k))), (2, .int (nI (0)))]) [1, 2, 0] dS_startWith_19 rfl (by decide) rfl ?_
      have lp_20 : ∀ (k_20 : Nat) (i : Nat) (f : Nat → Nat), (i ≤ 12) → (∀ j, f j = if j < i then 0 else nd j) → (12 - i) < k_20 → J 20 [(0, .ref (h)), (1, .int (nI (k))), (2, .int (nI (i)))] [] [((h), .inr (2, [.int (nI (k)), .ref (e1), .ref (e2), .ref (e3), .ref (e4), .ref (e5), .int (nI (qd))])), kI E (e1) (12) (f), kQ E (e2) (13) (kn)] (0) (0) := by
        intro k_20
        induction k_20 with
        | zero => intro i f hi hf hk_20; exact absurd hk_20 (Nat.not_lt_zero _)
        | succ k_20 ih_20 =>
          intro i f hi hf hk_20
          refine J_iload_n C 2 dS_startWith_20 rfl rfl ?_
          refine J_bipush C (v := nI (12)) dS_startWith_21 (by decide) ?_
          refine J_icmp_ge C 39 (nI_toInt (n := i) (by omega)) (nI_toInt (n := 12) (by decide)) dS_startWith_23 (by decide) (fun h23 => ?_) (fun h23 => ?_)
          · refine J_cell C (ws' := [((h), .inr (2, [.int (nI (k)), .ref (e1), .ref (e2), .ref (e3), .ref (e4), .ref (e5), .int (nI (qd))])), kI E (e1) (12) (fun _ => 0), kQ E (e2) (13) (kn)]) 1 rfl (fun H => kI_congr (fun j hj => by rw [hf j, if_pos (by omega)])) rfl ?_
            refine J_aload_n C 0 dS_startWith_39 rfl rfl ?_
            refine J_pick C (ws' := [((h), .inr (2, [.int (nI (k)), .ref (e1), .ref (e2), .ref (e3), .ref (e4), .ref (e5), .int (nI (qd))])), kQ E (e2) (13) (kn), kI E (e1) (12) (fun _ => 0)]) [0, 2, 1] (by decide) rfl ?_
            refine J_callV C (rest := []) [] [((h), .inr (2, [.int (nI (k)), .ref (e1), .ref (e2), .ref (e3), .ref (e4), .ref (e5), .int (nI (qd))])), kQ E (e2) (13) (kn)] [kI E (e1) (12) (fun _ => 0)] 0 (c_S_forget E l h k e1 e2 e3 e4 e5 qd kn) mmS_forget msS_forget lkS_38 rfl rfl (rfl) rfl rfl ⟨by decide, by decide⟩ ⟨by decide, by decide⟩ (Nat.le_of_ble_eq_true rfl) dS_startWith_40 (fun r_c w_c hp => ?_)
            obtain ⟨rfl, rfl⟩ := hp
            refine J_norm C (st' := []) (ws' := [((h), .inr (2, [.int (nI (k)), .ref (e1), .ref (e2), .ref (e3), .ref (e4), .ref (e5), .int (nI (qd))])), kQ E (e2) (13) (fun _ => none), kI E (e1) (12) (fun _ => 0)]) (cs' := 0) (ss' := 0) rfl (rfl) rfl rfl ?_
            refine J_pick C (ws' := [((h), .inr (2, [.int (nI (k)), .ref (e1), .ref (e2), .ref (e3), .ref (e4), .ref (e5), .int (nI (qd))])), kI E (e1) (12) (fun _ => 0), kQ E (e2) (13) (fun _ => none)]) [0, 2, 1] (by decide) rfl ?_
            refine J_iconst C (v := nI (1)) dS_startWith_43 (by decide) ?_
            exact hret _ _ _ _ _ _ dS_startWith_44 (by decide) (by decide) (by decide) (⟨rfl, rfl⟩)
          · refine J_aload_n C 0 dS_startWith_26 rfl rfl ?_
            refine J_get C 0 1 hinS rfl rfl (by decide) fkS_15 rfl dS_startWith_27 ?_
            refine J_iload_n C 2 dS_startWith_30 rfl rfl ?_
            refine J_iconst C (v := nI (0)) dS_startWith_31 (by decide) ?_
            refine J_iastN C (ws' := [((h), .inr (2, [.int (nI (k)), .ref (e1), .ref (e2), .ref (e3), .ref (e4), .ref (e5), .int (nI (qd))])), kI E (e1) (12) (upN f i 0), kQ E (e2) (13) (kn)]) 1 rfl (by omega) (by omega) dS_startWith_32 rfl ?_
            refine J_iinc C (lv' := [(0, .ref (h)), (1, .int (nI (k))), (2, .int (nI (i + 1)))]) 2 [1, 2, 0] dS_startWith_33 rfl (jn_inc _) (by decide) rfl ?_
            refine J_goto C 20 dS_startWith_36 (by decide) ?_
            exact ih_20 (i + 1) (upN f i 0) (by omega) (cp_s (t := fun _ => 0) hf) (by omega)
      exact lp_20 (13) 0 nd (by omega) (by intro j; simp) (by omega)
    · exfalso; omega
set_option maxHeartbeats 4000000 in
set_option maxRecDepth 100000 in
theorem c_S_start_f (E : jE) (l : Launch) (h : Nat) (m : Nat) (e1 : Nat) (e2 : Nat) (e3 : Nat) (e4 : Nat) (e5 : Nat) (qd : Nat) (x : Int32) (hx : x.toInt < 1 ∨ 12 < x.toInt) : Con E l yS_startWith bS_startWith 3 (some .boolean) { frames := 0, cells := 0, slots := 0, locals := 0 } [.ref (h), .int (x)] [((h), .inr (2, [.int (nI (m)), .ref (e1), .ref (e2), .ref (e3), .ref (e4), .ref (e5), .int (nI (qd))]))] (fun r w => r = some (.int (nI 0)) ∧ w = [((h), .inr (2, [.int (nI (m)), .ref (e1), .ref (e2), .ref (e3), .ref (e4), .ref (e5), .int (nI (qd))]))]) := by
  refine Con.ofZ (by decide) (Nat.le_of_ble_eq_true rfl) ?_
  intro J C hret
  show J 0 [(0, .ref (h)), (1, .int (x))] [] [((h), .inr (2, [.int (nI (m)), .ref (e1), .ref (e2), .ref (e3), .ref (e4), .ref (e5), .int (nI (qd))]))] 0 0
  refine J_iload_n C 1 dS_startWith_0 rfl rfl ?_
  refine J_iconst C (v := nI (1)) dS_startWith_1 (by decide) ?_
  refine J_icmp_lt C 11 rfl (nI_toInt (n := 1) (by decide)) dS_startWith_2 (by decide) (fun h2 => ?_) (fun h2 => ?_)
  · refine J_iconst C (v := nI (0)) dS_startWith_11 (by decide) ?_
    exact hret _ _ _ _ _ _ dS_startWith_12 (by decide) (by decide) (by decide) (⟨rfl, rfl⟩)
  · refine J_iload_n C 1 dS_startWith_5 rfl rfl ?_
    refine J_bipush C (v := nI (12)) dS_startWith_6 (by decide) ?_
    refine J_icmp_le C 13 rfl (nI_toInt (n := 12) (by decide)) dS_startWith_8 (by decide) (fun h8 => ?_) (fun h8 => ?_)
    · exfalso; omega
    · refine J_iconst C (v := nI (0)) dS_startWith_11 (by decide) ?_
      exact hret _ _ _ _ _ _ dS_startWith_12 (by decide) (by decide) (by decide) (⟨rfl, rfl⟩)
set_option maxHeartbeats 4000000 in
set_option maxRecDepth 100000 in
theorem c_S_need_t (E : jE) (l : Launch) (h : Nat) (m : Nat) (e1 : Nat) (e2 : Nat) (e3 : Nat) (e4 : Nat) (e5 : Nat) (qd : Nat) (nd : Nat → Nat) (kn : Nat → Option Nat) (s : Nat) (t : Nat) (hs12 : m ≤ 12) (hs : s < m) (ht : t < 2 ^ s) : Con E l yS_setNeeds bS_setNeeds 3 (some .boolean) { frames := 1, cells := 0, slots := 0, locals := 21 } [.ref (h), .int (nI (s)), .int (nI (t))] [((h), .inr (2, [.int (nI (m)), .ref (e1), .ref (e2), .ref (e3), .ref (e4), .ref (e5), .int (nI (qd))])), kI E (e1) (12) (nd), kQ E (e2) (13) (kn)] (fun r w => r = some (.int (nI 1)) ∧ w = [((h), .inr (2, [.int (nI (m)), .ref (e1), .ref (e2), .ref (e3), .ref (e4), .ref (e5), .int (nI (qd))])), kI E (e1) (12) (upN nd s t), kQ E (e2) (13) (fun _ => none)]) := by
  refine Con.ofZ (by decide) (Nat.le_of_ble_eq_true rfl) ?_
  intro J C hret
  show J 0 [(0, .ref (h)), (1, .int (nI (s))), (2, .int (nI (t)))] [] [((h), .inr (2, [.int (nI (m)), .ref (e1), .ref (e2), .ref (e3), .ref (e4), .ref (e5), .int (nI (qd))])), kI E (e1) (12) (nd), kQ E (e2) (13) (kn)] 0 0
  have hp := p4096 (show s ≤ 12 by omega)
  refine J_iload_n C 1 dS_setNeeds_0 rfl rfl ?_
  refine J_if_lt C 23 (nI_toInt (n := s) (by omega)) dS_setNeeds_1 (by decide) (fun h1 => ?_) (fun h1 => ?_)
  · exfalso; omega
  · refine J_iload_n C 1 dS_setNeeds_4 rfl rfl ?_
    refine J_aload_n C 0 dS_setNeeds_5 rfl rfl ?_
    refine J_get C 0 0 hinS rfl rfl (by decide) fkS_9 rfl dS_setNeeds_6 ?_
    refine J_icmp_ge C 23 (nI_toInt (n := s) (by omega)) (nI_toInt (n := m) (by omega)) dS_setNeeds_9 (by decide) (fun h9 => ?_) (fun h9 => ?_)
    · exfalso; omega
    · refine J_iload_n C 2 dS_setNeeds_12 rfl rfl ?_
      refine J_if_lt C 23 (nI_toInt (n := t) (by omega)) dS_setNeeds_13 (by decide) (fun h13 => ?_) (fun h13 => ?_)
      · exfalso; omega
      · refine J_iload_n C 2 dS_setNeeds_16 rfl rfl ?_
        refine J_iconst C (v := nI (1)) dS_setNeeds_17 (by decide) ?_
        refine J_iload_n C 1 dS_setNeeds_18 rfl rfl ?_
        refine J_ishl1 C dS_setNeeds_19 (by omega) ?_
        refine J_icmp_lt C 25 (nI_toInt (n := t) (by omega)) (nI_toInt (n := 2 ^ s) (by omega)) dS_setNeeds_20 (by decide) (fun h20 => ?_) (fun h20 => ?_)
        · refine J_aload_n C 0 dS_setNeeds_25 rfl rfl ?_
          refine J_get C 0 1 hinS rfl rfl (by decide) fkS_15 rfl dS_setNeeds_26 ?_
          refine J_iload_n C 1 dS_setNeeds_29 rfl rfl ?_
          refine J_iload_n C 2 dS_setNeeds_30 rfl rfl ?_
          refine J_iastN C (ws' := [((h), .inr (2, [.int (nI (m)), .ref (e1), .ref (e2), .ref (e3), .ref (e4), .ref (e5), .int (nI (qd))])), kI E (e1) (12) (upN nd s t), kQ E (e2) (13) (kn)]) 1 rfl (by omega) (by omega) dS_setNeeds_31 rfl ?_
          refine J_aload_n C 0 dS_setNeeds_32 rfl rfl ?_
          refine J_pick C (ws' := [((h), .inr (2, [.int (nI (m)), .ref (e1), .ref (e2), .ref (e3), .ref (e4), .ref (e5), .int (nI (qd))])), kQ E (e2) (13) (kn), kI E (e1) (12) (upN nd s t)]) [0, 2, 1] (by decide) rfl ?_
          refine J_callV C (rest := []) [] [((h), .inr (2, [.int (nI (m)), .ref (e1), .ref (e2), .ref (e3), .ref (e4), .ref (e5), .int (nI (qd))])), kQ E (e2) (13) (kn)] [kI E (e1) (12) (upN nd s t)] 0 (c_S_forget E l h m e1 e2 e3 e4 e5 qd kn) mmS_forget msS_forget lkS_38 rfl rfl (rfl) rfl rfl ⟨by decide, by decide⟩ ⟨by decide, by decide⟩ (Nat.le_of_ble_eq_true rfl) dS_setNeeds_33 (fun r_c w_c hp => ?_)
          obtain ⟨rfl, rfl⟩ := hp
          refine J_norm C (st' := []) (ws' := [((h), .inr (2, [.int (nI (m)), .ref (e1), .ref (e2), .ref (e3), .ref (e4), .ref (e5), .int (nI (qd))])), kQ E (e2) (13) (fun _ => none), kI E (e1) (12) (upN nd s t)]) (cs' := 0) (ss' := 0) rfl (rfl) rfl rfl ?_
          refine J_pick C (ws' := [((h), .inr (2, [.int (nI (m)), .ref (e1), .ref (e2), .ref (e3), .ref (e4), .ref (e5), .int (nI (qd))])), kI E (e1) (12) (upN nd s t), kQ E (e2) (13) (fun _ => none)]) [0, 2, 1] (by decide) rfl ?_
          refine J_iconst C (v := nI (1)) dS_setNeeds_36 (by decide) ?_
          exact hret _ _ _ _ _ _ dS_setNeeds_37 (by decide) (by decide) (by decide) (⟨rfl, rfl⟩)
        · exfalso; omega
set_option maxHeartbeats 4000000 in
set_option maxRecDepth 100000 in
theorem c_S_need_f1 (E : jE) (l : Launch) (h : Nat) (m : Nat) (e1 : Nat) (e2 : Nat) (e3 : Nat) (e4 : Nat) (e5 : Nat) (qd : Nat) (x : Int32) (z : Int32) (hs12 : m ≤ 12) (hx : x.toInt < 0 ∨ (m : Int) ≤ x.toInt) : Con E l yS_setNeeds bS_setNeeds 3 (some .boolean) { frames := 0, cells := 0, slots := 0, locals := 0 } [.ref (h), .int (x), .int (z)] [((h), .inr (2, [.int (nI (m)), .ref (e1), .ref (e2), .ref (e3), .ref (e4), .ref (e5), .int (nI (qd))]))] (fun r w => r = some (.int (nI 0)) ∧ w = [((h), .inr (2, [.int (nI (m)), .ref (e1), .ref (e2), .ref (e3), .ref (e4), .ref (e5), .int (nI (qd))]))]) := by
  refine Con.ofZ (by decide) (Nat.le_of_ble_eq_true rfl) ?_
  intro J C hret
  show J 0 [(0, .ref (h)), (1, .int (x)), (2, .int (z))] [] [((h), .inr (2, [.int (nI (m)), .ref (e1), .ref (e2), .ref (e3), .ref (e4), .ref (e5), .int (nI (qd))]))] 0 0
  refine J_iload_n C 1 dS_setNeeds_0 rfl rfl ?_
  refine J_if_lt C 23 rfl dS_setNeeds_1 (by decide) (fun h1 => ?_) (fun h1 => ?_)
  · refine J_iconst C (v := nI (0)) dS_setNeeds_23 (by decide) ?_
    exact hret _ _ _ _ _ _ dS_setNeeds_24 (by decide) (by decide) (by decide) (⟨rfl, rfl⟩)
  · refine J_iload_n C 1 dS_setNeeds_4 rfl rfl ?_
    refine J_aload_n C 0 dS_setNeeds_5 rfl rfl ?_
    refine J_get C 0 0 hinS rfl rfl (by decide) fkS_9 rfl dS_setNeeds_6 ?_
    refine J_icmp_ge C 23 rfl (nI_toInt (n := m) (by omega)) dS_setNeeds_9 (by decide) (fun h9 => ?_) (fun h9 => ?_)
    · refine J_iconst C (v := nI (0)) dS_setNeeds_23 (by decide) ?_
      exact hret _ _ _ _ _ _ dS_setNeeds_24 (by decide) (by decide) (by decide) (⟨rfl, rfl⟩)
    · exfalso; omega
set_option maxHeartbeats 4000000 in
set_option maxRecDepth 100000 in
theorem c_S_need_f2 (E : jE) (l : Launch) (h : Nat) (m : Nat) (e1 : Nat) (e2 : Nat) (e3 : Nat) (e4 : Nat) (e5 : Nat) (qd : Nat) (s : Nat) (z : Int32) (hs12 : m ≤ 12) (hs : s < m) (hx : z.toInt < 0 ∨ ((2 ^ s : Nat) : Int) ≤ z.toInt) : Con E l yS_setNeeds bS_setNeeds 3 (some .boolean) { frames := 0, cells := 0, slots := 0, locals := 0 } [.ref (h), .int (nI (s)), .int (z)] [((h), .inr (2, [.int (nI (m)), .ref (e1), .ref (e2), .ref (e3), .ref (e4), .ref (e5), .int (nI (qd))]))] (fun r w => r = some (.int (nI 0)) ∧ w = [((h), .inr (2, [.int (nI (m)), .ref (e1), .ref (e2), .ref (e3), .ref (e4), .ref (e5), .int (nI (qd))]))]) := by
  refine Con.ofZ (by decide) (Nat.le_of_ble_eq_true rfl) ?_
  intro J C hret
  show J 0 [(0, .ref (h)), (1, .int (nI (s))), (2, .int (z))] [] [((h), .inr (2, [.int (nI (m)), .ref (e1), .ref (e2), .ref (e3), .ref (e4), .ref (e5), .int (nI (qd))]))] 0 0
  have hp := p4096 (show s ≤ 12 by omega)
  refine J_iload_n C 1 dS_setNeeds_0 rfl rfl ?_
  refine J_if_lt C 23 (nI_toInt (n := s) (by omega)) dS_setNeeds_1 (by decide) (fun h1 => ?_) (fun h1 => ?_)
  · exfalso; omega
  · refine J_iload_n C 1 dS_setNeeds_4 rfl rfl ?_
    refine J_aload_n C 0 dS_setNeeds_5 rfl rfl ?_
    refine J_get C 0 0 hinS rfl rfl (by decide) fkS_9 rfl dS_setNeeds_6 ?_
    refine J_icmp_ge C 23 (nI_toInt (n := s) (by omega)) (nI_toInt (n := m) (by omega)) dS_setNeeds_9 (by decide) (fun h9 => ?_) (fun h9 => ?_)
    · exfalso; omega
    · refine J_iload_n C 2 dS_setNeeds_12 rfl rfl ?_
      refine J_if_lt C 23 rfl dS_setNeeds_13 (by decide) (fun h13 => ?_) (fun h13 => ?_)
      · refine J_iconst C (v := nI (0)) dS_setNeeds_23 (by decide) ?_
        exact hret _ _ _ _ _ _ dS_setNeeds_24 (by decide) (by decide) (by decide) (⟨rfl, rfl⟩)
      · refine J_iload_n C 2 dS_setNeeds_16 rfl rfl ?_
        refine J_iconst C (v := nI (1)) dS_setNeeds_17 (by decide) ?_
        refine J_iload_n C 1 dS_setNeeds_18 rfl rfl ?_
        refine J_ishl1 C dS_setNeeds_19 (by omega) ?_
        refine J_icmp_lt C 25 rfl (nI_toInt (n := 2 ^ s) (by omega)) dS_setNeeds_20 (by decide) (fun h20 => ?_) (fun h20 => ?_)
        · exfalso; omega
        · refine J_iconst C (v := nI (0)) dS_setNeeds_23 (by decide) ?_
          exact hret _ _ _ _ _ _ dS_setNeeds_24 (by decide) (by decide) (by decide) (⟨rfl, rfl⟩)
set_option maxHeartbeats 4000000 in
set_option maxRecDepth 100000 in
theorem c_S_wanted (E : jE) (l : Launch) (h : Nat) (m : Nat) (e1 : Nat) (e2 : Nat) (e3 : Nat) (e4 : Nat) (e5 : Nat) (qd : Nat) (nd : Nat → Nat) (hg : mG m nd) : Con E l yS_wantedSteps bS_wantedSteps 3 (some .int) { frames := 0, cells := 0, slots := 0, locals := 0 } [.ref (h)] [((h), .inr (2, [.int (nI (m)), .ref (e1), .ref (e2), .ref (e3), .ref (e4), .ref (e5), .int (nI (qd))])), kI E (e1) (12) (nd)] (fun r w => r = some (.int (nI (mW m nd))) ∧ w = [((h), .inr (2, [.int (nI (m)), .ref (e1), .ref (e2), .ref (e3), .ref (e4), .ref (e5), .int (nI (qd))])), kI E (e1) (12) (nd)]) := by
  refine Con.ofI (by decide) (Nat.le_of_ble_eq_true rfl) ?_
  intro J C hret
  show J 0 [(0, .ref (h))] [] [((h), .inr (2, [.int (nI (m)), .ref (e1), .ref (e2), .ref (e3), .ref (e4), .ref (e5), .int (nI (qd))])), kI E (e1) (12) (nd)] 0 0
  have hm1 := hg.1
  have hm12 := hg.2.1
  have hp12 := p4096 hm12
  have hpm := Nat.two_pow_pos m
  have hpg : 2 ^ (m - 1) < 2 ^ m := Nat.pow_lt_pow_right (by omega) (by omega)
  refine J_iconst C (v := nI (1)) dS_wantedSteps_0 (by decide) ?_
  refine J_aload_n C 0 dS_wantedSteps_1 rfl rfl ?_
  refine J_get C 0 0 hinS rfl rfl (by decide) fkS_9 rfl dS_wantedSteps_2 ?_
  refine J_iconst C (v := nI (1)) dS_wantedSteps_5 (by decide) ?_
  refine J_isubN C dS_wantedSteps_6 (by omega) ?_
  refine J_ishl1 C dS_wantedSteps_7 (by omega) ?_
  refine J_istore_n C (lv' := [(0, .ref (h)), (1, .int (nI (2 ^ (m - 1))))]) [1, 0] dS_wantedSteps_8 rfl (by decide) rfl ?_
  refine J_aload_n C 0 dS_wantedSteps_9 rfl rfl ?_
  refine J_get C 0 0 hinS rfl rfl (by decide) fkS_9 rfl dS_wantedSteps_10 ?_
  refine J_iconst C (v := nI (1)) dS_wantedSteps_13 (by decide) ?_
  refine J_isubN C dS_wantedSteps_14 (by omega) ?_
  refine J_istore_n C (lv' := [(0, .ref (h)), (1, .int (nI (2 ^ (m - 1)))), (2, .int (nI (m - 1)))]) [1, 2, 0] dS_wantedSteps_15 rfl (by decide) rfl ?_
  have lp_16 : ∀ (k_16 : Nat) (k w0 : Nat), (k ≤ m) → (wst nd k w0 = mW m nd) → (w0 < 2 ^ m) → (k) < k_16 → J 16 [(0, .ref (h)), (1, .int (nI (w0))), (2, .int (mI (k)))] [] [((h), .inr (2, [.int (nI (m)), .ref (e1), .ref (e2), .ref (e3), .ref (e4), .ref (e5), .int (nI (qd))])), kI E (e1) (12) (nd)] (0) (0) := by
    intro k_16
    induction k_16 with
    | zero => intro k w0 hk hw hwl hk_16; exact absurd hk_16 (Nat.not_lt_zero _)
    | succ k_16 ih_16 =>
      intro k w0 hk hw hwl hk_16
      refine J_iload_n C 2 dS_wantedSteps_16 rfl rfl ?_
      refine J_if_lt C 44 (mI_toInt (d := k) (by omega)) dS_wantedSteps_17 (by decide) (fun h17 => ?_) (fun h17 => ?_)
      · obtain rfl : 0 = k := by omega
        have hw' : w0 = mW m nd := hw
        refine J_iload_n C 1 dS_wantedSteps_44 rfl rfl ?_
        exact hret _ _ _ _ _ _ dS_wantedSteps_45 (by decide) (by decide) (⟨by rw [hw'], rfl⟩)
      · have hk1 : 1 ≤ k := by omega
        refine J_lvE C (lv' := [(0, .ref (h)), (1, .int (nI (w0))), (2, .int (nI (k - 1)))]) (by rw [mI_pos hk1]) ?_
        refine J_iload_n C 1 dS_wantedSteps_20 rfl rfl ?_
        refine J_iload_n C 2 dS_wantedSteps_21 rfl rfl ?_
        refine J_ishrN C dS_wantedSteps_22 (by omega) (by omega) ?_
        refine J_iconst C (v := nI (1)) dS_wantedSteps_23 (by decide) ?_
        refine J_iandN C dS_wantedSteps_24 ?_
        refine J_iconst C (v := nI (1)) dS_wantedSteps_25 (by decide) ?_
        refine J_icmp_ne C 38 (nI_toInt (n := (w0 / 2 ^ (k - 1)) &&& 1) (by have := and1_le (w0 / 2 ^ (k - 1)); omega)) (nI_toInt (n := 1) (by decide)) dS_wantedSteps_26 (by decide) (fun h26 => ?_) (fun h26 => ?_)
        · have htb : ¬ w0.testBit (k - 1) = true := by intro q; rw [tb_and1, if_pos q] at h26; omega
          refine J_iinc C (lv' := [(0, .ref (h)), (1, .int (nI (w0))), (2, .int (mI (k - 1)))]) 2 [1, 2, 0] dS_wantedSteps_38 rfl (jn_decM _) (by decide) rfl ?_
          refine J_goto C 16 dS_wantedSteps_41 (by decide) ?_
          exact ih_16 (k - 1) w0 (by omega) (by have q := wst_s (nd := nd) (w := w0) (show 1 ≤ k by omega); rw [hw, if_neg htb] at q; exact q.symm) (by omega) (by omega)
        · have htb : w0.testBit (k - 1) = true := by
            cases q : w0.testBit (k - 1) with
            | true => rfl
            | false => rw [tb_and1, q] at h26; simp at h26
          refine J_iload_n C 1 dS_wantedSteps_29 rfl rfl ?_
          refine J_aload_n C 0 dS_wantedSteps_30 rfl rfl ?_
          refine J_get C 0 1 hinS rfl rfl (by decide) fkS_15 rfl dS_wantedSteps_31 ?_
          refine J_iload_n C 2 dS_wantedSteps_34 rfl rfl ?_
          refine J_iald C 1 rfl (by omega) (by omega) dS_wantedSteps_35 ?_
          refine J_iorN C dS_wantedSteps_36 ?_
          refine J_istore_n C (lv' := [(0, .ref (h)), (1, .int (nI (w0 ||| (nd (k - 1))))), (2, .int (nI (k - 1)))]) [1, 0, 2] dS_wantedSteps_37 rfl (by decide) rfl ?_
          refine J_iinc C (lv' := [(0, .ref (h)), (1, .int (nI (w0 ||| (nd (k - 1))))), (2, .int (mI (k - 1)))]) 2 [1, 2, 0] dS_wantedSteps_38 rfl (jn_decM _) (by decide) rfl ?_
          refine J_goto C 16 dS_wantedSteps_41 (by decide) ?_
          exact ih_16 (k - 1) (w0 ||| (nd (k - 1))) (by omega) (by have q := wst_s (nd := nd) (w := w0) (show 1 ≤ k by omega); rw [hw, if_pos htb] at q; exact q.symm) (Nat.or_lt_two_pow hwl (Nat.lt_of_lt_of_le (hg.2.2 (k - 1) (by omega)) (Nat.pow_le_pow_right (by omega) (by omega)))) (by omega)
  have q_16 := lp_16 (m + 1) m (2 ^ (m - 1)) (by omega) (rfl) (hpg) (by omega)
  rw [show mI m = nI (m - 1) from mI_pos hm1] at q_16
  exact q_16
set_option maxHeartbeats 4000000 in
set_option maxRecDepth 100000 in
theorem c_S_thinkable (E : jE) (l : Launch) (h : Nat) (m : Nat) (e1 : Nat) (e2 : Nat) (e3 : Nat) (e4 : Nat) (e5 : Nat) (qd : Nat) (nd : Nat → Nat) (hg : mG m nd) : Con E l yS_fewestThinkable bS_fewestThinkable 4 (some .int) { frames := 1, cells := 0, slots := 0, locals := 22 } [.ref (h)] [((h), .inr (2, [.int (nI (m)), .ref (e1), .ref (e2), .ref (e3), .ref (e4), .ref (e5), .int (nI (qd))])), kI E (e1) (12) (nd)] (fun r w => ∃ ft : Nat, r = some (.int (nI ft)) ∧ (1 ≤ ft ∧ ft ≤ 13 ∧ (ft = 1 ∨ ∃ s, s < m ∧ (mW m nd).testBit s = true ∧ ft = 1 + bc (nd s))) ∧ w = [((h), .inr (2, [.int (nI (m)), .ref (e1), .ref (e2), .ref (e3), .ref (e4), .ref (e5), .int (nI (qd))])), kI E (e1) (12) (nd)]) := by
  refine Con.ofI (by decide) (Nat.le_of_ble_eq_true rfl) ?_
  intro J C hret
  show J 0 [(0, .ref (h))] [] [((h), .inr (2, [.int (nI (m)), .ref (e1), .ref (e2), .ref (e3), .ref (e4), .ref (e5), .int (nI (qd))])), kI E (e1) (12) (nd)] 0 0
  have hm1 := hg.1
  have hm12 := hg.2.1
  have hp12 := p4096 hm12
  have hpm := Nat.two_pow_pos m
  have hpg : 2 ^ (m - 1) < 2 ^ m := Nat.pow_lt_pow_right (by omega) (by omega)
  have hwl := mW_lt hg
  refine J_aload_n C 0 dS_fewestThinkable_0 rfl rfl ?_
  refine J_callV C (rest := []) [] [((h), .inr (2, [.int (nI (m)), .ref (e1), .ref (e2), .ref (e3), .ref (e4), .ref (e5), .int (nI (qd))])), kI E (e1) (12) (nd)] [] 0 (c_S_wanted E l h m e1 e2 e3 e4 e5 qd nd (by assumption)) mmS_wantedSteps msS_wantedSteps lkS_64 rfl rfl (rfl) rfl rfl ⟨by decide, by decide⟩ ⟨by decide, by decide⟩ (Nat.le_of_ble_eq_true rfl) dS_fewestThinkable_1 (fun r_c w_c hp => ?_)
  obtain ⟨rfl, rfl⟩ := hp
  refine J_norm C (st' := [.int (nI (mW m nd))]) (ws' := [((h), .inr (2, [.int (nI (m)), .ref (e1), .ref (e2), .ref (e3), .ref (e4), .ref (e5), .int (nI (qd))])), kI E (e1) (12) (nd)]) (cs' := 0) (ss' := 0) rfl (rfl) rfl rfl ?_
  refine J_istore_n C (lv' := [(0, .ref (h)), (1, .int (nI (mW m nd)))]) [1, 0] dS_fewestThinkable_4 rfl (by decide) rfl ?_
  refine J_iconst C (v := nI (1)) dS_fewestThinkable_5 (by decide) ?_
  refine J_istore_n C (lv' := [(0, .ref (h)), (1, .int (nI (mW m nd))), (2, .int (nI (1)))]) [1, 2, 0] dS_fewestThinkable_6 rfl (by decide) rfl ?_
  refine J_iconst C (v := nI (0)) dS_fewestThinkable_7 (by decide) ?_
  refine J_istore_n C (lv' := [(0, .ref (h)), (1, .int (nI (mW m nd))), (2, .int (nI (1))), (3, .int (nI (0)))]) [1, 2, 3, 0] dS_fewestThinkable_8 rfl (by decide) rfl ?_
  have lp_9 : ∀ (k_9 : Nat) (fw s : Nat), (s ≤ m) → (1 ≤ fw ∧ fw ≤ 13 ∧ (fw = 1 ∨ ∃ s, s < m ∧ (mW m nd).testBit s = true ∧ fw = 1 + bc (nd s))) → (m - s) < k_9 → J 9 [(0, .ref (h)), (1, .int (nI (mW m nd))), (2, .int (nI (fw))), (3, .int (nI (s)))] [] [((h), .inr (2, [.int (nI (m)), .ref (e1), .ref (e2), .ref (e3), .ref (e4), .ref (e5), .int (nI (qd))])), kI E (e1) (12) (nd)] (0) (0) := by
    intro k_9
    induction k_9 with
    | zero => intro fw s hs hft hk_9; exact absurd hk_9 (Nat.not_lt_zero _)
    | succ k_9 ih_9 =>
      intro fw s hs hft hk_9
      refine J_iload_n C 3 dS_fewestThinkable_9 rfl rfl ?_
      refine J_aload_n C 0 dS_fewestThinkable_10 rfl rfl ?_
      refine J_get C 0 0 hinS rfl rfl (by decide) fkS_9 rfl dS_fewestThinkable_11 ?_
      refine J_icmp_ge C 48 (nI_toInt (n := s) (by omega)) (nI_toInt (n := m) (by omega)) dS_fewestThinkable_14 (by decide) (fun h14 => ?_) (fun h14 => ?_)
      · refine J_iload_n C 2 dS_fewestThinkable_48 rfl rfl ?_
        exact hret _ _ _ _ _ _ dS_fewestThinkable_49 (by decide) (by decide) (⟨fw, rfl, hft, rfl⟩)
      · refine J_iload_n C 1 dS_fewestThinkable_17 rfl rfl ?_
        refine J_iload_n C 3 dS_fewestThinkable_18 rfl rfl ?_
        refine J_ishrN C dS_fewestThinkable_19 (by omega) (by omega) ?_
        refine J_iconst C (v := nI (1)) dS_fewestThinkable_20 (by decide) ?_
        refine J_iandN C dS_fewestThinkable_21 ?_
        refine J_iconst C (v := nI (1)) dS_fewestThinkable_22 (by decide) ?_
        refine J_icmp_ne C 42 (nI_toInt (n := ((mW m nd) / 2 ^ s) &&& 1) (by have := and1_le (mW m nd / 2 ^ s); omega)) (nI_toInt (n := 1) (by decide)) dS_fewestThinkable_23 (by decide) (fun h23 => ?_) (fun h23 => ?_)
        · refine J_iinc C (lv' := [(0, .ref (h)), (1, .int (nI (mW m nd))), (2, .int (nI (fw))), (3, .int (nI (s + 1)))]) 3 [1, 2, 3, 0] dS_fewestThinkable_42 rfl (jn_inc _) (by decide) rfl ?_
          refine J_goto C 9 dS_fewestThinkable_45 (by decide) ?_
          exact ih_9 fw (s + 1) (by omega) (hft) (by omega)
        · have htb : (mW m nd).testBit s = true := by
            cases q : (mW m nd).testBit s with
            | true => rfl
            | false => rw [tb_and1, q] at h23; simp at h23
          refine J_iload_n C 2 dS_fewestThinkable_26 rfl rfl ?_
          refine J_iconst C (v := nI (1)) dS_fewestThinkable_27 (by decide) ?_
          refine J_aload_n C 0 dS_fewestThinkable_28 rfl rfl ?_
          refine J_get C 0 1 hinS rfl rfl (by decide) fkS_15 rfl dS_fewestThinkable_29 ?_
          refine J_iload_n C 3 dS_fewestThinkable_32 rfl rfl ?_
          refine J_iald C 1 rfl (by omega) (by omega) dS_fewestThinkable_33 ?_
          refine J_callS C (rest := [.int (nI (1)), .int (nI (fw))]) [] [] [((h), .inr (2, [.int (nI (m)), .ref (e1), .ref (e2), .ref (e3), .ref (e4), .ref (e5), .int (nI (qd))])), kI E (e1) (12) (nd)] (c_J_bitCount E l (nd s) (by have := hg.2.2 s (by omega); have := Nat.pow_lt_pow_right (show 1 < 2 by omega) (show s < m by omega); omega)) mmJ_bitCount lkS_67 (rfl) rfl rfl ⟨by decide, by decide⟩ ⟨by decide, by decide⟩ (Nat.le_of_ble_eq_true rfl) dS_fewestThinkable_34 (fun r_c w_c hp => ?_)
          obtain ⟨rfl, rfl⟩ := hp
          refine J_norm C (st' := [.int (nI (bc (nd s))), .int (nI (1)), .int (nI (fw))]) (ws' := [((h), .inr (2, [.int (nI (m)), .ref (e1), .ref (e2), .ref (e3), .ref (e4), .ref (e5), .int (nI (qd))])), kI E (e1) (12) (nd)]) (cs' := 0) (ss' := 0) rfl (rfl) rfl rfl ?_
          refine J_iaddN C dS_fewestThinkable_37 ?_
          refine J_mmax C lkS_58 k_mmaxS k_MathI k_mmaxC (by decide) (Nat.le_of_ble_eq_true rfl) (by decide) (by decide) dS_fewestThinkable_38 ?_
          refine J_topX C (x' := nI (if fw < 1 + bc (nd s) then 1 + bc (nd s) else fw)) (jn_max (by omega) (by have := bc_12 (nd s); omega)) ?_
          refine J_istore_n C (lv' := [(0, .ref (h)), (1, .int (nI (mW m nd))), (2, .int (nI (if fw < 1 + bc (nd s) then 1 + bc (nd s) else fw))), (3, .int (nI (s)))]) [1, 2, 0, 3] dS_fewestThinkable_41 rfl (by decide) rfl ?_
          refine J_iinc C (lv' := [(0, .ref (h)), (1, .int (nI (mW m nd))), (2, .int (nI (if fw < 1 + bc (nd s) then 1 + bc (nd s) else fw))), (3, .int (nI (s + 1)))]) 3 [1, 2, 3, 0] dS_fewestThinkable_42 rfl (jn_inc _) (by decide) rfl ?_
          refine J_goto C 9 dS_fewestThinkable_45 (by decide) ?_
          exact ih_9 (if fw < 1 + bc (nd s) then 1 + bc (nd s) else fw) (s + 1) (by omega) (by by_cases q : fw < 1 + bc (nd s); (rw [if_pos q]; exact ⟨by omega, by have := bc_12 (nd s); omega, Or.inr ⟨s, by omega, htb, rfl⟩⟩); (rw [if_neg q]; exact hft)) (by omega)
  exact lp_9 (m + 1) 1 0 (by omega) (⟨by omega, by omega, Or.inl rfl⟩) (by omega)
set_option maxHeartbeats 4000000 in
set_option maxRecDepth 100000 in
theorem c_S_makeRoom (E : jE) (l : Launch) (h : Nat) (m : Nat) (e1 : Nat) (e2 : Nat) (e3 : Nat) (e4 : Nat) (e5 : Nat) (qd : Nat) (ln : Nat) (lf : Nat → Nat) (qu : Nat → Nat) (hm12 : m ≤ 12) (hln : ln ≤ 4096) : Con E l yS_makeRoom bS_makeRoom 2 none { frames := 0, cells := 2, slots := 8192, locals := 0 } [.ref (h)] [((h), .inr (2, [.int (nI (m)), .ref (e1), .ref (e2), .ref (e3), .ref (e4), .ref (e5), .int (nI (qd))])), kI E (e4) (ln) (lf), kI E (e5) (ln) (qu)] (fun r w => ∃ (e6 e7 l1 : Nat) (f1 u1 : Nat → Nat), r = none ∧ 2 ^ m ≤ l1 ∧ l1 ≤ 4096 ∧ w = [((h), .inr (2, [.int (nI (m)), .ref (e1), .ref (e2), .ref (e3), .ref (e6), .ref (e7), .int (nI (qd))])), kI E (e6) (l1) (f1), kI E (e7) (l1) (u1)]) := by
  refine Con.ofV (by decide) (Nat.le_of_ble_eq_true rfl) ?_
  intro J C hret
  show J 0 [(0, .ref (h))] [] [((h), .inr (2, [.int (nI (m)), .ref (e1), .ref (e2), .ref (e3), .ref (e4), .ref (e5), .int (nI (qd))])), kI E (e4) (ln) (lf), kI E (e5) (ln) (qu)] 0 0
  have hp12 := p4096 hm12
  refine J_iconst C (v := nI (1)) dS_makeRoom_0 (by decide) ?_
  refine J_aload_n C 0 dS_makeRoom_1 rfl rfl ?_
  refine J_get C 0 0 hinS rfl rfl (by decide) fkS_9 rfl dS_makeRoom_2 ?_
  refine J_ishl1 C dS_makeRoom_5 (by omega) ?_
  refine J_istore_n C (lv' := [(0, .ref (h)), (1, .int (nI (2 ^ m)))]) [1, 0] dS_makeRoom_6 rfl (by decide) rfl ?_
  refine J_aload_n C 0 dS_makeRoom_7 rfl rfl ?_
  refine J_get C 0 4 hinS rfl rfl (by decide) fkS_32 rfl dS_makeRoom_8 ?_
  refine J_alen C 1 0 rfl rfl dS_makeRoom_11 ?_
  refine J_iload_n C 1 dS_makeRoom_12 rfl rfl ?_
  refine J_icmp_ge C 30 (nI_toInt (n := ln) (by omega)) (nI_toInt (n := 2 ^ m) (by omega)) dS_makeRoom_13 (by decide) (fun h13 => ?_) (fun h13 => ?_)
  · exact hret _ _ _ _ _ dS_makeRoom_30 (Nat.le_of_ble_eq_true rfl) (by first | exact Nat.zero_le _ | (show 0 + 2 ^ m + 2 ^ m ≤ 8192; omega)) (⟨e4, e5, ln, lf, qu, rfl, by omega, hln, rfl⟩)
  · refine J_aload_n C 0 dS_makeRoom_16 rfl rfl ?_
    refine J_iload_n C 1 dS_makeRoom_17 rfl rfl ?_
    refine J_newaI C ar_int (by omega) (by decide) (by show 0 + 2 ^ m ≤ 8192; omega) dS_makeRoom_18 (fun q_1 => ?_)
    refine J_put C (ws' := [((h), .inr (2, [.int (nI (m)), .ref (e1), .ref (e2), .ref (e3), .ref (q_1), .ref (e5), .int (nI (qd))])), kI E (e4) (ln) (lf), kI E (e5) (ln) (qu), kI E (q_1) (2 ^ m) (fun _ => 0)]) 0 4 tyS hinS tyokS nmS rfl rfl (by decide) fkS_32 rfl rfl rfl (Nat.le_of_ble_eq_true rfl) dS_makeRoom_20 rfl ?_
    refine J_aload_n C 0 dS_makeRoom_23 rfl rfl ?_
    refine J_iload_n C 1 dS_makeRoom_24 rfl rfl ?_
    refine J_newaI C ar_int (by omega) (by decide) (by show 0 + 2 ^ m + 2 ^ m ≤ 8192; omega) dS_makeRoom_25 (fun q_2 => ?_)
    refine J_put C (ws' := [((h), .inr (2, [.int (nI (m)), .ref (e1), .ref (e2), .ref (e3), .ref (q_1), .ref (q_2), .int (nI (qd))])), kI E (e4) (ln) (lf), kI E (e5) (ln) (qu), kI E (q_1) (2 ^ m) (fun _ => 0), kI E (q_2) (2 ^ m) (fun _ => 0)]) 0 5 tyS hinS tyokS nmS rfl rfl (by decide) fkS_35 rfl rfl rfl (Nat.le_of_ble_eq_true rfl) dS_makeRoom_27 rfl ?_
    refine J_pick C (ws' := [((h), .inr (2, [.int (nI (m)), .ref (e1), .ref (e2), .ref (e3), .ref (q_1), .ref (q_2), .int (nI (qd))])), kI E (q_1) (2 ^ m) (fun _ => 0), kI E (q_2) (2 ^ m) (fun _ => 0)]) [0, 3, 4] (by decide) rfl ?_
    exact hret _ _ _ _ _ dS_makeRoom_30 (Nat.le_of_ble_eq_true rfl) (by first | exact Nat.zero_le _ | (show 0 + 2 ^ m + 2 ^ m ≤ 8192; omega)) (⟨_, _, _, _, _, rfl, Nat.le_refl _, hp12, rfl⟩)
set_option maxHeartbeats 4000000 in
set_option maxRecDepth 100000 in
theorem c_S_makeRoom0 (E : jE) (l : Launch) (h : Nat) (m : Nat) (e1 : Nat) (e2 : Nat) (e3 : Nat) (e4 : Nat) (e5 : Nat) (qd : Nat) (ln : Nat) (lf : Nat → Nat) (qu : Nat → Nat) (hm12 : m ≤ 12) (hln : ln ≤ 4096) (hml : 2 ^ m ≤ ln) : Con E l yS_makeRoom bS_makeRoom 2 none { frames := 0, cells := 0, slots := 0, locals := 0 } [.ref (h)] [((h), .inr (2, [.int (nI (m)), .ref (e1), .ref (e2), .ref (e3), .ref (e4), .ref (e5), .int (nI (qd))])), kI E (e4) (ln) (lf), kI E (e5) (ln) (qu)] (fun r w => r = none ∧ w = [((h), .inr (2, [.int (nI (m)), .ref (e1), .ref (e2), .ref (e3), .ref (e4), .ref (e5), .int (nI (qd))])), kI E (e4) (ln) (lf), kI E (e5) (ln) (qu)]) := by
  refine Con.ofV (by decide) (Nat.le_of_ble_eq_true rfl) ?_
  intro J C hret
  show J 0 [(0, .ref (h))] [] [((h), .inr (2, [.int (nI (m)), .ref (e1), .ref (e2), .ref (e3), .ref (e4), .ref (e5), .int (nI (qd))])), kI E (e4) (ln) (lf), kI E (e5) (ln) (qu)] 0 0
  have hp12 := p4096 hm12
  refine J_iconst C (v := nI (1)) dS_makeRoom_0 (by decide) ?_
  refine J_aload_n C 0 dS_makeRoom_1 rfl rfl ?_
  refine J_get C 0 0 hinS rfl rfl (by decide) fkS_9 rfl dS_makeRoom_2 ?_
  refine J_ishl1 C dS_makeRoom_5 (by omega) ?_
  refine J_istore_n C (lv' := [(0, .ref (h)), (1, .int (nI (2 ^ m)))]) [1, 0] dS_makeRoom_6 rfl (by decide) rfl ?_
  refine J_aload_n C 0 dS_makeRoom_7 rfl rfl ?_
  refine J_get C 0 4 hinS rfl rfl (by decide) fkS_32 rfl dS_makeRoom_8 ?_
  refine J_alen C 1 0 rfl rfl dS_makeRoom_11 ?_
  refine J_iload_n C 1 dS_makeRoom_12 rfl rfl ?_
  refine J_icmp_ge C 30 (nI_toInt (n := ln) (by omega)) (nI_toInt (n := 2 ^ m) (by omega)) dS_makeRoom_13 (by decide) (fun h13 => ?_) (fun h13 => ?_)
  · exact hret _ _ _ _ _ dS_makeRoom_30 (by decide) (by decide) (⟨rfl, rfl⟩)
  · exfalso; omega
set_option maxHeartbeats 4000000 in
set_option maxRecDepth 100000 in
theorem c_S_enter (E : jE) (l : Launch) (h : Nat) (m : Nat) (e1 : Nat) (e2 : Nat) (e3 : Nat) (e4 : Nat) (e5 : Nat) (qd : Nat) (ln : Nat) (lf : Nat → Nat) (qu : Nat → Nat) (s : Nat) (d : Nat) (hln : ln ≤ 4096) (hq : qd < ln) (hs : s < ln) : Con E l yS_enter bS_enter 3 none { frames := 0, cells := 0, slots := 0, locals := 0 } [.ref (h), .int (nI (s)), .int (nI (d))] [((h), .inr (2, [.int (nI (m)), .ref (e1), .ref (e2), .ref (e3), .ref (e4), .ref (e5), .int (nI (qd))])), kI E (e4) (ln) (lf), kI E (e5) (ln) (qu)] (fun r w => r = none ∧ w = [((h), .inr (2, [.int (nI (m)), .ref (e1), .ref (e2), .ref (e3), .ref (e4), .ref (e5), .int (nI (qd + 1))])), kI E (e4) (ln) (upN lf s d), kI E (e5) (ln) (upN qu qd s)]) := by
  refine Con.ofV (by decide) (Nat.le_of_ble_eq_true rfl) ?_
  intro J C hret
  show J 0 [(0, .ref (h)), (1, .int (nI (s))), (2, .int (nI (d)))] [] [((h), .inr (2, [.int (nI (m)), .ref (e1), .ref (e2), .ref (e3), .ref (e4), .ref (e5), .int (nI (qd))])), kI E (e4) (ln) (lf), kI E (e5) (ln) (qu)] 0 0
  refine J_aload_n C 0 dS_enter_0 rfl rfl ?_
  refine J_get C 0 6 hinS rfl rfl (by decide) fkS_86 rfl dS_enter_1 ?_
  refine J_aload_n C 0 dS_enter_4 rfl rfl ?_
  refine J_get C 0 5 hinS rfl rfl (by decide) fkS_35 rfl dS_enter_5 ?_
  refine J_alen C 2 0 rfl rfl dS_enter_8 ?_
  refine J_icmp_ge C 39 (nI_toInt (n := qd) (by omega)) (nI_toInt (n := ln) (by omega)) dS_enter_9 (by decide) (fun h9 => ?_) (fun h9 => ?_)
  · exfalso; omega
  · refine J_aload_n C 0 dS_enter_12 rfl rfl ?_
    refine J_get C 0 4 hinS rfl rfl (by decide) fkS_32 rfl dS_enter_13 ?_
    refine J_iload_n C 1 dS_enter_16 rfl rfl ?_
    refine J_iload_n C 2 dS_enter_17 rfl rfl ?_
    refine J_iastN C (ws' := [((h), .inr (2, [.int (nI (m)), .ref (e1), .ref (e2), .ref (e3), .ref (e4), .ref (e5), .int (nI (qd))])), kI E (e4) (ln) (upN lf s d), kI E (e5) (ln) (qu)]) 1 rfl (by omega) (by omega) dS_enter_18 rfl ?_
    refine J_aload_n C 0 dS_enter_19 rfl rfl ?_
    refine J_get C 0 5 hinS rfl rfl (by decide) fkS_35 rfl dS_enter_20 ?_
    refine J_aload_n C 0 dS_enter_23 rfl rfl ?_
    refine J_get C 0 6 hinS rfl rfl (by decide) fkS_86 rfl dS_enter_24 ?_
    refine J_iload_n C 1 dS_enter_27 rfl rfl ?_
    refine J_iastN C (ws' := [((h), .inr (2, [.int (nI (m)), .ref (e1), .ref (e2), .ref (e3), .ref (e4), .ref (e5), .int (nI (qd))])), kI E (e4) (ln) (upN lf s d), kI E (e5) (ln) (upN qu qd s)]) 2 rfl (by omega) (by omega) dS_enter_28 rfl ?_
    refine J_aload_n C 0 dS_enter_29 rfl rfl ?_
    refine J_dup C dS_enter_30 rfl ?_
    refine J_get C 0 6 hinS rfl rfl (by decide) fkS_86 rfl dS_enter_31 ?_
    refine J_iconst C (v := nI (1)) dS_enter_34 (by decide) ?_
    refine J_iaddN C dS_enter_35 ?_
    refine J_put C (ws' := [((h), .inr (2, [.int (nI (m)), .ref (e1), .ref (e2), .ref (e3), .ref (e4), .ref (e5), .int (nI (qd + 1))])), kI E (e4) (ln) (upN lf s d), kI E (e5) (ln) (upN qu qd s)]) 0 6 tyS hinS tyokS nmS rfl rfl (by decide) fkS_86 rfl rfl rfl (Nat.le_of_ble_eq_true rfl) dS_enter_36 rfl ?_
    exact hret _ _ _ _ _ dS_enter_39 (by decide) (by decide) (⟨rfl, rfl⟩)
set_option maxHeartbeats 4000000 in
set_option maxRecDepth 100000 in
theorem c_S_spreadFrom (E : jE) (l : Launch) (h : Nat) (m : Nat) (e1 : Nat) (e2 : Nat) (e3 : Nat) (e4 : Nat) (e5 : Nat) (qd : Nat) (nd : Nat → Nat) (ln : Nat) (lf : Nat → Nat) (qu : Nat → Nat) (wt : Nat) (b : Nat) (k : Nat) (hg : mG m nd) (hln : ln ≤ 4096) (hml : 2 ^ m ≤ ln) (hw : wt < 2 ^ m) (hb : b ≤ 12) (hk : k < qd) (h1 : bF m nd b wt k 0 qd qu lf) : Con E l yS_spreadFrom bS_spreadFrom 9 none { frames := 1, cells := 0, slots := 0, locals := 22 } [.ref (h), .int (nI (qu k)), .int (nI (wt)), .int (nI (b))] [((h), .inr (2, [.int (nI (m)), .ref (e1), .ref (e2), .ref (e3), .ref (e4), .ref (e5), .int (nI (qd))])), kI E (e1) (12) (nd), kI E (e4) (ln) (lf), kI E (e5) (ln) (qu)] (fun r w => ∃ (n1 : Nat) (f1 u1 : Nat → Nat), r = none ∧ k < n1 ∧ bF m nd b wt k m n1 u1 f1 ∧ w = [((h), .inr (2, [.int (nI (m)), .ref (e1), .ref (e2), .ref (e3), .ref (e4), .ref (e5), .int (nI (n1))])), kI E (e1) (12) (nd), kI E (e4) (ln) (f1), kI E (e5) (ln) (u1)]) := by
  refine Con.ofV (by decide) (Nat.le_of_ble_eq_true rfl) ?_
  intro J C hret
  show J 0 [(0, .ref (h)), (1, .int (nI (qu k))), (2, .int (nI (wt))), (3, .int (nI (b)))] [] [((h), .inr (2, [.int (nI (m)), .ref (e1), .ref (e2), .ref (e3), .ref (e4), .ref (e5), .int (nI (qd))])), kI E (e1) (12) (nd), kI E (e4) (ln) (lf), kI E (e5) (ln) (qu)] 0 0
  have hm1 := hg.1
  have hm12 := hg.2.1
  have hp12 := p4096 hm12
  have hpm := Nat.two_pow_pos m
  have hpg : 2 ^ (m - 1) < 2 ^ m := Nat.pow_lt_pow_right (by omega) (by omega)
  have hqu := h1.1.2.1 k hk
  have hqf := h1.2.2 (qu k) hqu.1
  have hbq := bc_12 (qu k)
  refine J_aload_n C 0 dS_spreadFrom_0 rfl rfl ?_
  refine J_get C 0 4 hinS rfl rfl (by decide) fkS_32 rfl dS_spreadFrom_1 ?_
  refine J_iload_n C 1 dS_spreadFrom_4 rfl rfl ?_
  refine J_iald C 2 rfl (by omega) (by omega) dS_spreadFrom_5 ?_
  refine J_iconst C (v := nI (1)) dS_spreadFrom_6 (by decide) ?_
  refine J_iaddN C dS_spreadFrom_7 ?_
  refine J_istore C (lv' := [(0, .ref (h)), (1, .int (nI (qu k))), (2, .int (nI (wt))), (3, .int (nI (b))), (4, .int (nI ((lf (qu k)) + 1)))]) [1, 2, 3, 4, 0] dS_spreadFrom_8 (by decide) rfl ?_
  refine J_iload_n C 1 dS_spreadFrom_10 rfl rfl ?_
  refine J_callS C (rest := []) [] [] [((h), .inr (2, [.int (nI (m)), .ref (e1), .ref (e2), .ref (e3), .ref (e4), .ref (e5), .int (nI (qd))])), kI E (e1) (12) (nd), kI E (e4) (ln) (lf), kI E (e5) (ln) (qu)] (c_J_bitCount E l (qu k) (by omega)) mmJ_bitCount lkS_67 (rfl) rfl rfl ⟨by decide, by decide⟩ ⟨by decide, by decide⟩ (Nat.le_of_ble_eq_true rfl) dS_spreadFrom_11 (fun r_c w_c hp => ?_)
  obtain ⟨rfl, rfl⟩ := hp
  refine J_norm C (st' := [.int (nI (bc (qu k)))]) (ws' := [((h), .inr (2, [.int (nI (m)), .ref (e1), .ref (e2), .ref (e3), .ref (e4), .ref (e5), .int (nI (qd))])), kI E (e1) (12) (nd), kI E (e4) (ln) (lf), kI E (e5) (ln) (qu)]) (cs' := 0) (ss' := 0) rfl (rfl) rfl rfl ?_
  refine J_iload_n C 3 dS_spreadFrom_14 rfl rfl ?_
  refine J_icmp_ge C 22 (nI_toInt (n := bc (qu k)) (by omega)) (nI_toInt (n := b) (by omega)) dS_spreadFrom_15 (by decide) (fun h15 => ?_) (fun h15 => ?_)
  · have hmv : ∀ s, s < m → ((wt &&& qu k).testBit s = true ↔ wt.testBit s = true ∧ bc (qu k ^^^ 2 ^ s) ≤ b) := fun s hs => mv_back (by omega) (by omega) hqu.2.1
    have hmvl : wt &&& qu k < 2 ^ m := Nat.and_lt_two_pow wt hqu.1
    refine J_iload_n C 2 dS_spreadFrom_22 rfl rfl ?_
    refine J_iload_n C 1 dS_spreadFrom_23 rfl rfl ?_
    refine J_iandN C dS_spreadFrom_24 ?_
    refine J_istore C (lv' := [(0, .ref (h)), (1, .int (nI (qu k))), (2, .int (nI (wt))), (3, .int (nI (b))), (4, .int (nI ((lf (qu k)) + 1))), (5, .int (nI (wt &&& (qu k))))]) [1, 2, 3, 4, 5, 0] dS_spreadFrom_25 (by decide) rfl ?_
    refine J_iconst C (v := nI (0)) dS_spreadFrom_27 (by decide) ?_
    refine J_istore C (lv' := [(0, .ref (h)), (1, .int (nI (qu k))), (2, .int (nI (wt))), (3, .int (nI (b))), (4, .int (nI ((lf (qu k)) + 1))), (5, .int (nI (wt &&& (qu k)))), (6, .int (nI (0)))]) [1, 2, 3, 4, 5, 6, 0] dS_spreadFrom_28 (by decide) rfl ?_
    have lp_30 : ∀ (k_30 : Nat) (n2 s : Nat) (f2 q2 : Nat → Nat), (k < n2) → (s ≤ m) → (q2 k = qu k) → (f2 (qu k) = lf (qu k)) → (bF m nd b wt k s n2 q2 f2) → (m - s) < k_30 → J 30 [(0, .ref (h)), (1, .int (nI (qu k))), (2, .int (nI (wt))), (3, .int (nI (b))), (4, .int (nI ((lf (qu k)) + 1))), (5, .int (nI (wt &&& (qu k)))), (6, .int (nI (s)))] [] [((h), .inr (2, [.int (nI (m)), .ref (e1), .ref (e2), .ref (e3), .ref (e4), .ref (e5), .int (nI (n2))])), kI E (e1) (12) (nd), kI E (e4) (ln) (f2), kI E (e5) (ln) (q2)] (0) (0) := by
      intro k_30
      induction k_30 with
      | zero => intro n2 s f2 q2 hn2 hs hqk hfk h2 hk_30; exact absurd hk_30 (Nat.not_lt_zero _)
      | succ k_30 ih_30 =>
        intro n2 s f2 q2 hn2 hs hqk hfk h2 hk_30
        refine J_iload C 6 dS_spreadFrom_30 rfl ?_
        refine J_aload_n C 0 dS_spreadFrom_32 rfl rfl ?_
        refine J_get C 0 0 hinS rfl rfl (by decide) fkS_9 rfl dS_spreadFrom_33 ?_
        refine J_icmp_ge C 100 (nI_toInt (n := s) (by omega)) (nI_toInt (n := m) (by omega)) dS_spreadFrom_36 (by decide) (fun h36 => ?_) (fun h36 => ?_)
        · obtain rfl : m = s := by omega
          exact hret _ _ _ _ _ dS_spreadFrom_100 (by decide) (by decide) (⟨n2, f2, q2, rfl, hn2, h2, rfl⟩)
        · have hxl := flip_lt hqu.1 (show s < m by omega)
          have hnds := hg.2.2 s (by omega)
          have hnp := Nat.pow_lt_pow_right (show 1 < 2 by omega) (show s < m by omega)
          have hxk : qu k ≠ qu k ^^^ 2 ^ s := by
            intro q
            have q2' := congrArg (fun z => z.testBit s) q
            simp only [tb_flip] at q2'
            cases hh : (qu k).testBit s <;> simp [hh] at q2'
          refine J_iload C 5 dS_spreadFrom_39 rfl ?_
          refine J_iload C 6 dS_spreadFrom_41 rfl ?_
          refine J_ishrN C dS_spreadFrom_43 (by omega) (by omega) ?_
          refine J_iconst C (v := nI (1)) dS_spreadFrom_44 (by decide) ?_
          refine J_iandN C dS_spreadFrom_45 ?_
          refine J_iconst C (v := nI (1)) dS_spreadFrom_46 (by decide) ?_
          refine J_icmp_ne C 94 (nI_toInt (n := ((wt &&& (qu k)) / 2 ^ s) &&& 1) (Nat.lt_of_le_of_lt (and1_le _) (by decide))) (nI_toInt (n := 1) (by decide)) dS_spreadFrom_47 (by decide) (fun h47 => ?_) (fun h47 => ?_)
          · have hno : wt.testBit s = true → mok m nd b (q2 k) s → f2 (q2 k ^^^ 2 ^ s) ≠ 0 := by
              intro q1 q2'
              rw [hqk] at q2'
              have q3 := (hmv s (by omega)).mpr ⟨q1, q2'.2.2⟩
              exfalso
              rw [tb_and1, if_pos q3] at h47
              omega
            refine J_iinc C (lv' := [(0, .ref (h)), (1, .int (nI (qu k))), (2, .int (nI (wt))), (3, .int (nI (b))), (4, .int (nI ((lf (qu k)) + 1))), (5, .int (nI (wt &&& (qu k)))), (6, .int (nI (s + 1)))]) 6 [1, 2, 3, 4, 5, 6, 0] dS_spreadFrom_94 rfl (jn_inc _) (by decide) rfl ?_
            refine J_goto C 30 dS_spreadFrom_97 (by decide) ?_
            exact ih_30 n2 (s + 1) f2 q2 (hn2) (by omega) (hqk) (hfk) (bF_skip h2 hn2 hno) (by omega)
          · have hmt : (wt &&& (qu k)).testBit s = true := by
              cases q : (wt &&& (qu k)).testBit s with
              | true => rfl
              | false => rw [tb_and1, q] at h47; simp at h47
            obtain ⟨hwt, hbs⟩ := (hmv s (by omega)).mp hmt
            refine J_aload_n C 0 dS_spreadFrom_50 rfl rfl ?_
            refine J_get C 0 1 hinS rfl rfl (by decide) fkS_15 rfl dS_spreadFrom_51 ?_
            refine J_iload C 6 dS_spreadFrom_54 rfl ?_
            refine J_iald C 1 rfl (by omega) (by omega) dS_spreadFrom_56 ?_
            refine J_istore C (lv' := [(0, .ref (h)), (1, .int (nI (qu k))), (2, .int (nI (wt))), (3, .int (nI (b))), (4, .int (nI ((lf (qu k)) + 1))), (5, .int (nI (wt &&& (qu k)))), (6, .int (nI (s))), (7, .int (nI (nd s)))]) [1, 2, 3, 4, 5, 6, 7, 0] dS_spreadFrom_57 (by decide) rfl ?_
            refine J_iload_n C 1 dS_spreadFrom_59 rfl rfl ?_
            refine J_iconst C (v := nI (1)) dS_spreadFrom_60 (by decide) ?_
            refine J_iload C 6 dS_spreadFrom_61 rfl ?_
            refine J_ishl1 C dS_spreadFrom_63 (by omega) ?_
            refine J_ixorN C dS_spreadFrom_64 ?_
            refine J_istore C (lv' := [(0, .ref (h)), (1, .int (nI (qu k))), (2, .int (nI (wt))), (3, .int (nI (b))), (4, .int (nI ((lf (qu k)) + 1))), (5, .int (nI (wt &&& (qu k)))), (6, .int (nI (s))), (7, .int (nI (nd s))), (8, .int (nI ((qu k) ^^^ (2 ^ s))))]) [1, 2, 3, 4, 5, 6, 7, 8, 0] dS_spreadFrom_65 (by decide) rfl ?_
            refine J_iload_n C 1 dS_spreadFrom_67 rfl rfl ?_
            refine J_iload C 7 dS_spreadFrom_68 rfl ?_
            refine J_iandN C dS_spreadFrom_70 ?_
            refine J_iload C 7 dS_spreadFrom_71 rfl ?_
            refine J_icmp_ne C 94 (nI_toInt (n := (qu k) &&& (nd s)) (by have := Nat.and_le_left (n := qu k) (m := nd s); omega)) (nI_toInt (n := nd s) (by omega)) dS_spreadFrom_73 (by decide) (fun h73 => ?_) (fun h73 => ?_)
            · have hno : wt.testBit s = true → mok m nd b (q2 k) s → f2 (q2 k ^^^ 2 ^ s) ≠ 0 := by
                intro q1 q2'
                rw [hqk] at q2'
                exfalso
                have q3 := q2'.2.1
                rw [Nat.and_comm] at q3
                omega
              refine J_iinc C (lv' := [(0, .ref (h)), (1, .int (nI (qu k))), (2, .int (nI (wt))), (3, .int (nI (b))), (4, .int (nI ((lf (qu k)) + 1))), (5, .int (nI (wt &&& (qu k)))), (6, .int (nI (s + 1))), (7, .int (nI (nd s))), (8, .int (nI ((qu k) ^^^ (2 ^ s))))]) 6 [1, 2, 3, 4, 5, 6, 0, 7, 8] dS_spreadFrom_94 rfl (jn_inc _) (by decide) rfl ?_
              refine J_goto C 30 dS_spreadFrom_97 (by decide) ?_
              refine J_lv C (lv' := [(0, .ref (h)), (1, .int (nI (qu k))), (2, .int (nI (wt))), (3, .int (nI (b))), (4, .int (nI ((lf (qu k)) + 1))), (5, .int (nI (wt &&& (qu k)))), (6, .int (nI (s + 1)))]) [0, 1, 2, 3, 4, 5, 6] rfl ?_
              exact ih_30 n2 (s + 1) f2 q2 (hn2) (by omega) (hqk) (hfk) (bF_skip h2 hn2 hno) (by omega)
            · have hok : mok m nd b (q2 k) s := ⟨by omega, by rw [hqk, Nat.and_comm]; omega, by rw [hqk]; exact hbs⟩
              refine J_aload_n C 0 dS_spreadFrom_76 rfl rfl ?_
              refine J_get C 0 4 hinS rfl rfl (by decide) fkS_32 rfl dS_spreadFrom_77 ?_
              refine J_iload C 8 dS_spreadFrom_80 rfl ?_
              refine J_iald C 2 rfl (by omega) (by omega) dS_spreadFrom_82 ?_
              refine J_if_ne C 94 (nI_toInt (n := f2 ((qu k) ^^^ (2 ^ s))) (by have := h2.2.2 _ hxl; omega)) dS_spreadFrom_83 (by decide) (fun h83 => ?_) (fun h83 => ?_)
              · have hno : wt.testBit s = true → mok m nd b (q2 k) s → f2 (q2 k ^^^ 2 ^ s) ≠ 0 := by
                  intro _ _
                  rw [hqk]
                  omega
                refine J_iinc C (lv' := [(0, .ref (h)), (1, .int (nI (qu k))), (2, .int (nI (wt))), (3, .int (nI (b))), (4, .int (nI ((lf (qu k)) + 1))), (5, .int (nI (wt &&& (qu k)))), (6, .int (nI (s + 1))), (7, .int (nI (nd s))), (8, .int (nI ((qu k) ^^^ (2 ^ s))))]) 6 [1, 2, 3, 4, 5, 6, 0, 7, 8] dS_spreadFrom_94 rfl (jn_inc _) (by decide) rfl ?_
                refine J_goto C 30 dS_spreadFrom_97 (by decide) ?_
                refine J_lv C (lv' := [(0, .ref (h)), (1, .int (nI (qu k))), (2, .int (nI (wt))), (3, .int (nI (b))), (4, .int (nI ((lf (qu k)) + 1))), (5, .int (nI (wt &&& (qu k)))), (6, .int (nI (s + 1)))]) [0, 1, 2, 3, 4, 5, 6] rfl ?_
                exact ih_30 n2 (s + 1) f2 q2 (hn2) (by omega) (hqk) (hfk) (bF_skip h2 hn2 hno) (by omega)
              · have hz : f2 (q2 k ^^^ 2 ^ s) = 0 := by rw [hqk]; omega
                have h5 := bF_new hg h2 hn2 hwt hok hz
                have h5l := bI_le h5.1
                rw [hqk, hfk] at h5
                refine J_aload_n C 0 dS_spreadFrom_86 rfl rfl ?_
                refine J_iload C 8 dS_spreadFrom_87 rfl ?_
                refine J_iload C 4 dS_spreadFrom_89 rfl ?_
                refine J_pick C (ws' := [((h), .inr (2, [.int (nI (m)), .ref (e1), .ref (e2), .ref (e3), .ref (e4), .ref (e5), .int (nI (n2))])), kI E (e4) (ln) (f2), kI E (e5) (ln) (q2), kI E (e1) (12) (nd)]) [0, 2, 3, 1] (by decide) rfl ?_
                refine J_callV C (rest := []) [] [((h), .inr (2, [.int (nI (m)), .ref (e1), .ref (e2), .ref (e3), .ref (e4), .ref (e5), .int (nI (n2))])), kI E (e4) (ln) (f2), kI E (e5) (ln) (q2)] [kI E (e1) (12) (nd)] 0 (c_S_enter E l h m e1 e2 e3 e4 e5 n2 ln f2 q2 ((qu k) ^^^ (2 ^ s)) ((lf (qu k)) + 1) (by omega) (by omega) (by omega)) mmS_enter msS_enter lkS_89 rfl rfl (rfl) rfl rfl ⟨by decide, by decide⟩ ⟨by decide, by decide⟩ (Nat.le_of_ble_eq_true rfl) dS_spreadFrom_91 (fun r_c w_c hp => ?_)
                obtain ⟨rfl, rfl⟩ := hp
                refine J_norm C (st' := []) (ws' := [((h), .inr (2, [.int (nI (m)), .ref (e1), .ref (e2), .ref (e3), .ref (e4), .ref (e5), .int (nI (n2 + 1))])), kI E (e4) (ln) (upN f2 ((qu k) ^^^ (2 ^ s)) ((lf (qu k)) + 1)), kI E (e5) (ln) (upN q2 n2 ((qu k) ^^^ (2 ^ s))), kI E (e1) (12) (nd)]) (cs' := 0) (ss' := 0) rfl (rfl) rfl rfl ?_
                refine J_pick C (ws' := [((h), .inr (2, [.int (nI (m)), .ref (e1), .ref (e2), .ref (e3), .ref (e4), .ref (e5), .int (nI (n2 + 1))])), kI E (e1) (12) (nd), kI E (e4) (ln) (upN f2 ((qu k) ^^^ (2 ^ s)) ((lf (qu k)) + 1)), kI E (e5) (ln) (upN q2 n2 ((qu k) ^^^ (2 ^ s)))]) [0, 3, 1, 2] (by decide) rfl ?_
                refine J_iinc C (lv' := [(0, .ref (h)), (1, .int (nI (qu k))), (2, .int (nI (wt))), (3, .int (nI (b))), (4, .int (nI ((lf (qu k)) + 1))), (5, .int (nI (wt &&& (qu k)))), (6, .int (nI (s + 1))), (7, .int (nI (nd s))), (8, .int (nI ((qu k) ^^^ (2 ^ s))))]) 6 [1, 2, 3, 4, 5, 6, 0, 7, 8] dS_spreadFrom_94 rfl (jn_inc _) (by decide) rfl ?_
                refine J_goto C 30 dS_spreadFrom_97 (by decide) ?_
                refine J_lv C (lv' := [(0, .ref (h)), (1, .int (nI (qu k))), (2, .int (nI (wt))), (3, .int (nI (b))), (4, .int (nI ((lf (qu k)) + 1))), (5, .int (nI (wt &&& (qu k)))), (6, .int (nI (s + 1)))]) [0, 1, 2, 3, 4, 5, 6] rfl ?_
                exact ih_30 (n2 + 1) (s + 1) (upN f2 ((qu k) ^^^ (2 ^ s)) ((lf (qu k)) + 1)) (upN q2 n2 ((qu k) ^^^ (2 ^ s))) (by omega) (by omega) (by rw [upN_n (by omega)]; exact hqk) (by rw [upN_n hxk]; exact hfk) (h5) (by omega)
    exact lp_30 (m + 1) qd 0 lf qu (hk) (by omega) (rfl) (rfl) (h1) (by omega)
  · have hmv : ∀ s, s < m → (wt.testBit s = true ↔ wt.testBit s = true ∧ bc (qu k ^^^ 2 ^ s) ≤ b) := fun s hs => mv_all (by omega) (by omega)
    refine J_iload_n C 2 dS_spreadFrom_18 rfl rfl ?_
    refine J_goto C 25 dS_spreadFrom_19 (by decide) ?_
    refine J_istore C (lv' := [(0, .ref (h)), (1, .int (nI (qu k))), (2, .int (nI (wt))), (3, .int (nI (b))), (4, .int (nI ((lf (qu k)) + 1))), (5, .int (nI (wt)))]) [1, 2, 3, 4, 5, 0] dS_spreadFrom_25 (by decide) rfl ?_
    refine J_iconst C (v := nI (0)) dS_spreadFrom_27 (by decide) ?_
    refine J_istore C (lv' := [(0, .ref (h)), (1, .int (nI (qu k))), (2, .int (nI (wt))), (3, .int (nI (b))), (4, .int (nI ((lf (qu k)) + 1))), (5, .int (nI (wt))), (6, .int (nI (0)))]) [1, 2, 3, 4, 5, 6, 0] dS_spreadFrom_28 (by decide) rfl ?_
    have lp_30 : ∀ (k_30 : Nat) (n2 s : Nat) (f2 q2 : Nat → Nat), (k < n2) → (s ≤ m) → (q2 k = qu k) → (f2 (qu k) = lf (qu k)) → (bF m nd b wt k s n2 q2 f2) → (m - s) < k_30 → J 30 [(0, .ref (h)), (1, .int (nI (qu k))), (2, .int (nI (wt))), (3, .int (nI (b))), (4, .int (nI ((lf (qu k)) + 1))), (5, .int (nI (wt))), (6, .int (nI (s)))] [] [((h), .inr (2, [.int (nI (m)), .ref (e1), .ref (e2), .ref (e3), .ref (e4), .ref (e5), .int (nI (n2))])), kI E (e1) (12) (nd), kI E (e4) (ln) (f2), kI E (e5) (ln) (q2)] (0) (0) := by
      intro k_30
      induction k_30 with
      | zero => intro n2 s f2 q2 hn2 hs hqk hfk h2 hk_30; exact absurd hk_30 (Nat.not_lt_zero _)
      | succ k_30 ih_30 =>
        intro n2 s f2 q2 hn2 hs hqk hfk h2 hk_30
        refine J_iload C 6 dS_spreadFrom_30 rfl ?_
        refine J_aload_n C 0 dS_spreadFrom_32 rfl rfl ?_
        refine J_get C 0 0 hinS rfl rfl (by decide) fkS_9 rfl dS_spreadFrom_33 ?_
        refine J_icmp_ge C 100 (nI_toInt (n := s) (by omega)) (nI_toInt (n := m) (by omega)) dS_spreadFrom_36 (by decide) (fun h36 => ?_) (fun h36 => ?_)
        · obtain rfl : m = s := by omega
          exact hret _ _ _ _ _ dS_spreadFrom_100 (by decide) (by decide) (⟨n2, f2, q2, rfl, hn2, h2, rfl⟩)
        · have hxl := flip_lt hqu.1 (show s < m by omega)
          have hnds := hg.2.2 s (by omega)
          have hnp := Nat.pow_lt_pow_right (show 1 < 2 by omega) (show s < m by omega)
          have hxk : qu k ≠ qu k ^^^ 2 ^ s := by
            intro q
            have q2' := congrArg (fun z => z.testBit s) q
            simp only [tb_flip] at q2'
            cases hh : (qu k).testBit s <;> simp [hh] at q2'
          refine J_iload C 5 dS_spreadFrom_39 rfl ?_
          refine J_iload C 6 dS_spreadFrom_41 rfl ?_
          refine J_ishrN C dS_spreadFrom_43 (by omega) (by omega) ?_
          refine J_iconst C (v := nI (1)) dS_spreadFrom_44 (by decide) ?_
          refine J_iandN C dS_spreadFrom_45 ?_
          refine J_iconst C (v := nI (1)) dS_spreadFrom_46 (by decide) ?_
          refine J_icmp_ne C 94 (nI_toInt (n := (wt / 2 ^ s) &&& 1) (Nat.lt_of_le_of_lt (and1_le _) (by decide))) (nI_toInt (n := 1) (by decide)) dS_spreadFrom_47 (by decide) (fun h47 => ?_) (fun h47 => ?_)
          · have hno : wt.testBit s = true → mok m nd b (q2 k) s → f2 (q2 k ^^^ 2 ^ s) ≠ 0 := by
              intro q1 q2'
              rw [hqk] at q2'
              have q3 := (hmv s (by omega)).mpr ⟨q1, q2'.2.2⟩
              exfalso
              rw [tb_and1, if_pos q3] at h47
              omega
            refine J_iinc C (lv' := [(0, .ref (h)), (1, .int (nI (qu k))), (2, .int (nI (wt))), (3, .int (nI (b))), (4, .int (nI ((lf (qu k)) + 1))), (5, .int (nI (wt))), (6, .int (nI (s + 1)))]) 6 [1, 2, 3, 4, 5, 6, 0] dS_spreadFrom_94 rfl (jn_inc _) (by decide) rfl ?_
            refine J_goto C 30 dS_spreadFrom_97 (by decide) ?_
            exact ih_30 n2 (s + 1) f2 q2 (hn2) (by omega) (hqk) (hfk) (bF_skip h2 hn2 hno) (by omega)
          · have hmt : (wt).testBit s = true := by
              cases q : (wt).testBit s with
              | true => rfl
              | false => rw [tb_and1, q] at h47; simp at h47
            obtain ⟨hwt, hbs⟩ := (hmv s (by omega)).mp hmt
            refine J_aload_n C 0 dS_spreadFrom_50 rfl rfl ?_
            refine J_get C 0 1 hinS rfl rfl (by decide) fkS_15 rfl dS_spreadFrom_51 ?_
            refine J_iload C 6 dS_spreadFrom_54 rfl ?_
            refine J_iald C 1 rfl (by omega) (by omega) dS_spreadFrom_56 ?_
            refine J_istore C (lv' := [(0, .ref (h)), (1, .int (nI (qu k))), (2, .int (nI (wt))), (3, .int (nI (b))), (4, .int (nI ((lf (qu k)) + 1))), (5, .int (nI (wt))), (6, .int (nI (s))), (7, .int (nI (nd s)))]) [1, 2, 3, 4, 5, 6, 7, 0] dS_spreadFrom_57 (by decide) rfl ?_
            refine J_iload_n C 1 dS_spreadFrom_59 rfl rfl ?_
            refine J_iconst C (v := nI (1)) dS_spreadFrom_60 (by decide) ?_
            refine J_iload C 6 dS_spreadFrom_61 rfl ?_
            refine J_ishl1 C dS_spreadFrom_63 (by omega) ?_
            refine J_ixorN C dS_spreadFrom_64 ?_
            refine J_istore C (lv' := [(0, .ref (h)), (1, .int (nI (qu k))), (2, .int (nI (wt))), (3, .int (nI (b))), (4, .int (nI ((lf (qu k)) + 1))), (5, .int (nI (wt))), (6, .int (nI (s))), (7, .int (nI (nd s))), (8, .int (nI ((qu k) ^^^ (2 ^ s))))]) [1, 2, 3, 4, 5, 6, 7, 8, 0] dS_spreadFrom_65 (by decide) rfl ?_
            refine J_iload_n C 1 dS_spreadFrom_67 rfl rfl ?_
            refine J_iload C 7 dS_spreadFrom_68 rfl ?_
            refine J_iandN C dS_spreadFrom_70 ?_
            refine J_iload C 7 dS_spreadFrom_71 rfl ?_
            refine J_icmp_ne C 94 (nI_toInt (n := (qu k) &&& (nd s)) (by have := Nat.and_le_left (n := qu k) (m := nd s); omega)) (nI_toInt (n := nd s) (by omega)) dS_spreadFrom_73 (by decide) (fun h73 => ?_) (fun h73 => ?_)
            · have hno : wt.testBit s = true → mok m nd b (q2 k) s → f2 (q2 k ^^^ 2 ^ s) ≠ 0 := by
                intro q1 q2'
                rw [hqk] at q2'
                exfalso
                have q3 := q2'.2.1
                rw [Nat.and_comm] at q3
                omega
              refine J_iinc C (lv' := [(0, .ref (h)), (1, .int (nI (qu k))), (2, .int (nI (wt))), (3, .int (nI (b))), (4, .int (nI ((lf (qu k)) + 1))), (5, .int (nI (wt))), (6, .int (nI (s + 1))), (7, .int (nI (nd s))), (8, .int (nI ((qu k) ^^^ (2 ^ s))))]) 6 [1, 2, 3, 4, 5, 6, 0, 7, 8] dS_spreadFrom_94 rfl (jn_inc _) (by decide) rfl ?_
              refine J_goto C 30 dS_spreadFrom_97 (by decide) ?_
              refine J_lv C (lv' := [(0, .ref (h)), (1, .int (nI (qu k))), (2, .int (nI (wt))), (3, .int (nI (b))), (4, .int (nI ((lf (qu k)) + 1))), (5, .int (nI (wt))), (6, .int (nI (s + 1)))]) [0, 1, 2, 3, 4, 5, 6] rfl ?_
              exact ih_30 n2 (s + 1) f2 q2 (hn2) (by omega) (hqk) (hfk) (bF_skip h2 hn2 hno) (by omega)
            · have hok : mok m nd b (q2 k) s := ⟨by omega, by rw [hqk, Nat.and_comm]; omega, by rw [hqk]; exact hbs⟩
              refine J_aload_n C 0 dS_spreadFrom_76 rfl rfl ?_
              refine J_get C 0 4 hinS rfl rfl (by decide) fkS_32 rfl dS_spreadFrom_77 ?_
              refine J_iload C 8 dS_spreadFrom_80 rfl ?_
              refine J_iald C 2 rfl (by omega) (by omega) dS_spreadFrom_82 ?_
              refine J_if_ne C 94 (nI_toInt (n := f2 ((qu k) ^^^ (2 ^ s))) (by have := h2.2.2 _ hxl; omega)) dS_spreadFrom_83 (by decide) (fun h83 => ?_) (fun h83 => ?_)
              · have hno : wt.testBit s = true → mok m nd b (q2 k) s → f2 (q2 k ^^^ 2 ^ s) ≠ 0 := by
                  intro _ _
                  rw [hqk]
                  omega
                refine J_iinc C (lv' := [(0, .ref (h)), (1, .int (nI (qu k))), (2, .int (nI (wt))), (3, .int (nI (b))), (4, .int (nI ((lf (qu k)) + 1))), (5, .int (nI (wt))), (6, .int (nI (s + 1))), (7, .int (nI (nd s))), (8, .int (nI ((qu k) ^^^ (2 ^ s))))]) 6 [1, 2, 3, 4, 5, 6, 0, 7, 8] dS_spreadFrom_94 rfl (jn_inc _) (by decide) rfl ?_
                refine J_goto C 30 dS_spreadFrom_97 (by decide) ?_
                refine J_lv C (lv' := [(0, .ref (h)), (1, .int (nI (qu k))), (2, .int (nI (wt))), (3, .int (nI (b))), (4, .int (nI ((lf (qu k)) + 1))), (5, .int (nI (wt))), (6, .int (nI (s + 1)))]) [0, 1, 2, 3, 4, 5, 6] rfl ?_
                exact ih_30 n2 (s + 1) f2 q2 (hn2) (by omega) (hqk) (hfk) (bF_skip h2 hn2 hno) (by omega)
              · have hz : f2 (q2 k ^^^ 2 ^ s) = 0 := by rw [hqk]; omega
                have h5 := bF_new hg h2 hn2 hwt hok hz
                have h5l := bI_le h5.1
                rw [hqk, hfk] at h5
                refine J_aload_n C 0 dS_spreadFrom_86 rfl rfl ?_
                refine J_iload C 8 dS_spreadFrom_87 rfl ?_
                refine J_iload C 4 dS_spreadFrom_89 rfl ?_
                refine J_pick C (ws' := [((h), .inr (2, [.int (nI (m)), .ref (e1), .ref (e2), .ref (e3), .ref (e4), .ref (e5), .int (nI (n2))])), kI E (e4) (ln) (f2), kI E (e5) (ln) (q2), kI E (e1) (12) (nd)]) [0, 2, 3, 1] (by decide) rfl ?_
                refine J_callV C (rest := []) [] [((h), .inr (2, [.int (nI (m)), .ref (e1), .ref (e2), .ref (e3), .ref (e4), .ref (e5), .int (nI (n2))])), kI E (e4) (ln) (f2), kI E (e5) (ln) (q2)] [kI E (e1) (12) (nd)] 0 (c_S_enter E l h m e1 e2 e3 e4 e5 n2 ln f2 q2 ((qu k) ^^^ (2 ^ s)) ((lf (qu k)) + 1) (by omega) (by omega) (by omega)) mmS_enter msS_enter lkS_89 rfl rfl (rfl) rfl rfl ⟨by decide, by decide⟩ ⟨by decide, by decide⟩ (Nat.le_of_ble_eq_true rfl) dS_spreadFrom_91 (fun r_c w_c hp => ?_)
                obtain ⟨rfl, rfl⟩ := hp
                refine J_norm C (st' := []) (ws' := [((h), .inr (2, [.int (nI (m)), .ref (e1), .ref (e2), .ref (e3), .ref (e4), .ref (e5), .int (nI (n2 + 1))])), kI E (e4) (ln) (upN f2 ((qu k) ^^^ (2 ^ s)) ((lf (qu k)) + 1)), kI E (e5) (ln) (upN q2 n2 ((qu k) ^^^ (2 ^ s))), kI E (e1) (12) (nd)]) (cs' := 0) (ss' := 0) rfl (rfl) rfl rfl ?_
                refine J_pick C (ws' := [((h), .inr (2, [.int (nI (m)), .ref (e1), .ref (e2), .ref (e3), .ref (e4), .ref (e5), .int (nI (n2 + 1))])), kI E (e1) (12) (nd), kI E (e4) (ln) (upN f2 ((qu k) ^^^ (2 ^ s)) ((lf (qu k)) + 1)), kI E (e5) (ln) (upN q2 n2 ((qu k) ^^^ (2 ^ s)))]) [0, 3, 1, 2] (by decide) rfl ?_
                refine J_iinc C (lv' := [(0, .ref (h)), (1, .int (nI (qu k))), (2, .int (nI (wt))), (3, .int (nI (b))), (4, .int (nI ((lf (qu k)) + 1))), (5, .int (nI (wt))), (6, .int (nI (s + 1))), (7, .int (nI (nd s))), (8, .int (nI ((qu k) ^^^ (2 ^ s))))]) 6 [1, 2, 3, 4, 5, 6, 0, 7, 8] dS_spreadFrom_94 rfl (jn_inc _) (by decide) rfl ?_
                refine J_goto C 30 dS_spreadFrom_97 (by decide) ?_
                refine J_lv C (lv' := [(0, .ref (h)), (1, .int (nI (qu k))), (2, .int (nI (wt))), (3, .int (nI (b))), (4, .int (nI ((lf (qu k)) + 1))), (5, .int (nI (wt))), (6, .int (nI (s + 1)))]) [0, 1, 2, 3, 4, 5, 6] rfl ?_
                exact ih_30 (n2 + 1) (s + 1) (upN f2 ((qu k) ^^^ (2 ^ s)) ((lf (qu k)) + 1)) (upN q2 n2 ((qu k) ^^^ (2 ^ s))) (by omega) (by omega) (by rw [upN_n (by omega)]; exact hqk) (by rw [upN_n hxk]; exact hfk) (h5) (by omega)
    exact lp_30 (m + 1) qd 0 lf qu (hk) (by omega) (rfl) (rfl) (h1) (by omega)
