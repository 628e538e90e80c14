set_option maxHeartbeats 4000000 in
set_option maxRecDepth 100000 in
theorem c_R_begin_t (E : jE) (l : Launch) (ox : Nat) (hT : Nat) (hF : Nat) (hS : Nat) (n : Nat) (a1 : Nat) (a2 : Nat) (a3 : Nat) (fc : Nat) (to : Nat → Nat) (k : Nat) (hk1 : 1 ≤ k) (hk4 : k ≤ 4) : Con E l yR_begin bR_begin 2 (some .boolean) { frames := 1, cells := 0, slots := 0, locals := 22 } [.ref (ox), .int (nI (k))] [((ox), .inr (4, [.ref (hT), .ref (hF), .ref (hS)])), ((hT), .inr (3, [.int (nI (n)), .int (nI (2 ^ n)), .ref (a1), .ref (a2), .ref (a3), .int (nI (fc))])), kI E (a1) (16) (to)] (fun r w => r = some (.int (nI 1)) ∧ w = [((ox), .inr (4, [.ref (hT), .ref (hF), .ref (hS)])), ((hT), .inr (3, [.int (nI (k)), .int (nI (2 ^ k)), .ref (a1), .ref (a2), .ref (a3), .int (nI (fc))])), kI E (a1) (16) (fun j => j)]) := by
  refine Con.ofZ (by decide) (Nat.le_of_ble_eq_true rfl) ?_
  intro J C hret
  show J 0 [(0, .ref (ox)), (1, .int (nI (k)))] [] [((ox), .inr (4, [.ref (hT), .ref (hF), .ref (hS)])), ((hT), .inr (3, [.int (nI (n)), .int (nI (2 ^ n)), .ref (a1), .ref (a2), .ref (a3), .int (nI (fc))])), kI E (a1) (16) (to)] 0 0
  refine J_aload_n C 0 dR_begin_0 rfl rfl ?_
  refine J_get C 0 0 hinR rfl rfl (by decide) fkR_10 rfl dR_begin_1 ?_
  refine J_iload_n C 1 dR_begin_4 rfl rfl ?_
  refine J_pick C (ws' := [((hT), .inr (3, [.int (nI (n)), .int (nI (2 ^ n)), .ref (a1), .ref (a2), .ref (a3), .int (nI (fc))])), kI E (a1) (16) (to), ((ox), .inr (4, [.ref (hT), .ref (hF), .ref (hS)]))]) [1, 2, 0] (by decide) rfl ?_
  refine J_callV C (rest := []) [] [((hT), .inr (3, [.int (nI (n)), .int (nI (2 ^ n)), .ref (a1), .ref (a2), .ref (a3), .int (nI (fc))])), kI E (a1) (16) (to)] [((ox), .inr (4, [.ref (hT), .ref (hF), .ref (hS)]))] 0 (c_T_start_t E l hT n a1 a2 a3 fc to k (by omega) (by omega)) mmT_startWith msT_startWith lkR_30 rfl rfl (rfl) rfl rfl ⟨by decide, by decide⟩ ⟨by decide, by decide⟩ (Nat.le_of_ble_eq_true rfl) dR_begin_5 (fun r_c w_c hp => ?_)
  obtain ⟨rfl, rfl⟩ := hp
  refine J_norm C (st' := [.int (nI (1))]) (ws' := [((hT), .inr (3, [.int (nI (k)), .int (nI (2 ^ k)), .ref (a1), .ref (a2), .ref (a3), .int (nI (fc))])), kI E (a1) (16) (fun j => j), ((ox), .inr (4, [.ref (hT), .ref (hF), .ref (hS)]))]) (cs' := 0) (ss' := 0) rfl (rfl) rfl rfl ?_
  refine J_pick C (ws' := [((ox), .inr (4, [.ref (hT), .ref (hF), .ref (hS)])), ((hT), .inr (3, [.int (nI (k)), .int (nI (2 ^ k)), .ref (a1), .ref (a2), .ref (a3), .int (nI (fc))])), kI E (a1) (16) (fun j => j)]) [2, 0, 1] (by decide) rfl ?_
  exact hret _ _ _ _ _ _ dR_begin_8 (by decide) (by decide) (by decide) (⟨rfl, rfl⟩)
set_option maxHeartbeats 4000000 in
set_option maxRecDepth 100000 in
theorem c_R_begin_f (E : jE) (l : Launch) (ox : Nat) (hT : Nat) (hF : Nat) (hS : Nat) (n : Nat) (a1 : Nat) (a2 : Nat) (a3 : Nat) (fc : Nat) (to : Nat → Nat) (x : Int32) (hx : x.toInt < 1 ∨ 4 < x.toInt) : Con E l yR_begin bR_begin 2 (some .boolean) { frames := 1, cells := 0, slots := 0, locals := 22 } [.ref (ox), .int (x)] [((ox), .inr (4, [.ref (hT), .ref (hF), .ref (hS)])), ((hT), .inr (3, [.int (nI (n)), .int (nI (2 ^ n)), .ref (a1), .ref (a2), .ref (a3), .int (nI (fc))])), kI E (a1) (16) (to)] (fun r w => r = some (.int (nI 0)) ∧ w = [((ox), .inr (4, [.ref (hT), .ref (hF), .ref (hS)])), ((hT), .inr (3, [.int (nI (n)), .int (nI (2 ^ n)), .ref (a1), .ref (a2), .ref (a3), .int (nI (fc))])), kI E (a1) (16) (to)]) := by
  refine Con.ofZ (by decide) (Nat.le_of_ble_eq_true rfl) ?_
  intro J C hret
  show J 0 [(0, .ref (ox)), (1, .int (x))] [] [((ox), .inr (4, [.ref (hT), .ref (hF), .ref (hS)])), ((hT), .inr (3, [.int (nI (n)), .int (nI (2 ^ n)), .ref (a1), .ref (a2), .ref (a3), .int (nI (fc))])), kI E (a1) (16) (to)] 0 0
  refine J_aload_n C 0 dR_begin_0 rfl rfl ?_
  refine J_get C 0 0 hinR rfl rfl (by decide) fkR_10 rfl dR_begin_1 ?_
  refine J_iload_n C 1 dR_begin_4 rfl rfl ?_
  refine J_pick C (ws' := [((hT), .inr (3, [.int (nI (n)), .int (nI (2 ^ n)), .ref (a1), .ref (a2), .ref (a3), .int (nI (fc))])), kI E (a1) (16) (to), ((ox), .inr (4, [.ref (hT), .ref (hF), .ref (hS)]))]) [1, 2, 0] (by decide) rfl ?_
  refine J_callV C (rest := []) [] [((hT), .inr (3, [.int (nI (n)), .int (nI (2 ^ n)), .ref (a1), .ref (a2), .ref (a3), .int (nI (fc))])), kI E (a1) (16) (to)] [((ox), .inr (4, [.ref (hT), .ref (hF), .ref (hS)]))] 0 (c_T_start_f E l hT n a1 a2 a3 fc to x (by omega)) mmT_startWith msT_startWith lkR_30 rfl rfl (rfl) rfl rfl ⟨by decide, by decide⟩ ⟨by decide, by decide⟩ (Nat.le_of_ble_eq_true rfl) dR_begin_5 (fun r_c w_c hp => ?_)
  obtain ⟨rfl, rfl⟩ := hp
  refine J_norm C (st' := [.int (nI (0))]) (ws' := [((hT), .inr (3, [.int (nI (n)), .int (nI (2 ^ n)), .ref (a1), .ref (a2), .ref (a3), .int (nI (fc))])), kI E (a1) (16) (to), ((ox), .inr (4, [.ref (hT), .ref (hF), .ref (hS)]))]) (cs' := 0) (ss' := 0) rfl (rfl) rfl rfl ?_
  refine J_pick C (ws' := [((ox), .inr (4, [.ref (hT), .ref (hF), .ref (hS)])), ((hT), .inr (3, [.int (nI (n)), .int (nI (2 ^ n)), .ref (a1), .ref (a2), .ref (a3), .int (nI (fc))])), kI E (a1) (16) (to)]) [2, 0, 1] (by decide) rfl ?_
  exact hret _ _ _ _ _ _ dR_begin_8 (by decide) (by decide) (by decide) (⟨rfl, rfl⟩)
set_option maxHeartbeats 4000000 in
set_option maxRecDepth 100000 in
theorem c_R_put_t (E : jE) (l : Launch) (ox : Nat) (hT : Nat) (hF : Nat) (hS : Nat) (n : Nat) (a1 : Nat) (a2 : Nat) (a3 : Nat) (fc : Nat) (to : Nat → Nat) (k : Nat) (u : Nat) (hn1 : 1 ≤ n) (hn4 : n ≤ 4) (hk : k < 2 ^ n) (hu : u < 2 ^ n) : Con E l yR_put bR_put 3 (some .boolean) { frames := 2, cells := 0, slots := 0, locals := 43 } [.ref (ox), .int (nI (k)), .int (nI (u))] [((ox), .inr (4, [.ref (hT), .ref (hF), .ref (hS)])), ((hT), .inr (3, [.int (nI (n)), .int (nI (2 ^ n)), .ref (a1), .ref (a2), .ref (a3), .int (nI (fc))])), kI E (a1) (16) (to)] (fun r w => r = some (.int (nI 1)) ∧ w = [((ox), .inr (4, [.ref (hT), .ref (hF), .ref (hS)])), ((hT), .inr (3, [.int (nI (n)), .int (nI (2 ^ n)), .ref (a1), .ref (a2), .ref (a3), .int (nI (fc))])), kI E (a1) (16) (upN to k u)]) := by
  refine Con.ofZ (by decide) (Nat.le_of_ble_eq_true rfl) ?_
  intro J C hret
  show J 0 [(0, .ref (ox)), (1, .int (nI (k))), (2, .int (nI (u)))] [] [((ox), .inr (4, [.ref (hT), .ref (hF), .ref (hS)])), ((hT), .inr (3, [.int (nI (n)), .int (nI (2 ^ n)), .ref (a1), .ref (a2), .ref (a3), .int (nI (fc))])), kI E (a1) (16) (to)] 0 0
  refine J_aload_n C 0 dR_put_0 rfl rfl ?_
  refine J_get C 0 0 hinR rfl rfl (by decide) fkR_10 rfl dR_put_1 ?_
  refine J_iload_n C 1 dR_put_4 rfl rfl ?_
  refine J_iload_n C 2 dR_put_5 rfl rfl ?_
  refine J_pick C (ws' := [((hT), .inr (3, [.int (nI (n)), .int (nI (2 ^ n)), .ref (a1), .ref (a2), .ref (a3), .int (nI (fc))])), kI E (a1) (16) (to), ((ox), .inr (4, [.ref (hT), .ref (hF), .ref (hS)]))]) [1, 2, 0] (by decide) rfl ?_
  refine J_callV C (rest := []) [] [((hT), .inr (3, [.int (nI (n)), .int (nI (2 ^ n)), .ref (a1), .ref (a2), .ref (a3), .int (nI (fc))])), kI E (a1) (16) (to)] [((ox), .inr (4, [.ref (hT), .ref (hF), .ref (hS)]))] 0 (c_T_set_t E l hT n a1 a2 a3 fc to k u (by omega) (by omega) (hk) (by omega)) mmT_set msT_set lkR_34 rfl rfl (rfl) rfl rfl ⟨by decide, by decide⟩ ⟨by decide, by decide⟩ (Nat.le_of_ble_eq_true rfl) dR_put_6 (fun r_c w_c hp => ?_)
  obtain ⟨rfl, rfl⟩ := hp
  refine J_norm C (st' := [.int (nI (1))]) (ws' := [((hT), .inr (3, [.int (nI (n)), .int (nI (2 ^ n)), .ref (a1), .ref (a2), .ref (a3), .int (nI (fc))])), kI E (a1) (16) (upN to k u), ((ox), .inr (4, [.ref (hT), .ref (hF), .ref (hS)]))]) (cs' := 0) (ss' := 0) rfl (rfl) rfl rfl ?_
  refine J_pick C (ws' := [((ox), .inr (4, [.ref (hT), .ref (hF), .ref (hS)])), ((hT), .inr (3, [.int (nI (n)), .int (nI (2 ^ n)), .ref (a1), .ref (a2), .ref (a3), .int (nI (fc))])), kI E (a1) (16) (upN to k u)]) [2, 0, 1] (by decide) rfl ?_
  exact hret _ _ _ _ _ _ dR_put_9 (by decide) (by decide) (by decide) (⟨rfl, rfl⟩)
set_option maxHeartbeats 4000000 in
set_option maxRecDepth 100000 in
theorem c_R_put_f1 (E : jE) (l : Launch) (ox : Nat) (hT : Nat) (hF : Nat) (hS : Nat) (n : Nat) (a1 : Nat) (a2 : Nat) (a3 : Nat) (fc : Nat) (to : Nat → Nat) (x : Int32) (z : Int32) (hn1 : 1 ≤ n) (hn4 : n ≤ 4) (hx : x.toInt < 0 ∨ ((2 ^ n : Nat) : Int) ≤ x.toInt) : Con E l yR_put bR_put 3 (some .boolean) { frames := 2, cells := 0, slots := 0, locals := 43 } [.ref (ox), .int (x), .int (z)] [((ox), .inr (4, [.ref (hT), .ref (hF), .ref (hS)])), ((hT), .inr (3, [.int (nI (n)), .int (nI (2 ^ n)), .ref (a1), .ref (a2), .ref (a3), .int (nI (fc))])), kI E (a1) (16) (to)] (fun r w => r = some (.int (nI 0)) ∧ w = [((ox), .inr (4, [.ref (hT), .ref (hF), .ref (hS)])), ((hT), .inr (3, [.int (nI (n)), .int (nI (2 ^ n)), .ref (a1), .ref (a2), .ref (a3), .int (nI (fc))])), kI E (a1) (16) (to)]) := by
  refine Con.ofZ (by decide) (Nat.le_of_ble_eq_true rfl) ?_
  intro J C hret
  show J 0 [(0, .ref (ox)), (1, .int (x)), (2, .int (z))] [] [((ox), .inr (4, [.ref (hT), .ref (hF), .ref (hS)])), ((hT), .inr (3, [.int (nI (n)), .int (nI (2 ^ n)), .ref (a1), .ref (a2), .ref (a3), .int (nI (fc))])), kI E (a1) (16) (to)] 0 0
  refine J_aload_n C 0 dR_put_0 rfl rfl ?_
  refine J_get C 0 0 hinR rfl rfl (by decide) fkR_10 rfl dR_put_1 ?_
  refine J_iload_n C 1 dR_put_4 rfl rfl ?_
  refine J_iload_n C 2 dR_put_5 rfl rfl ?_
  refine J_pick C (ws' := [((hT), .inr (3, [.int (nI (n)), .int (nI (2 ^ n)), .ref (a1), .ref (a2), .ref (a3), .int (nI (fc))])), kI E (a1) (16) (to), ((ox), .inr (4, [.ref (hT), .ref (hF), .ref (hS)]))]) [1, 2, 0] (by decide) rfl ?_
  refine J_callV C (rest := []) [] [((hT), .inr (3, [.int (nI (n)), .int (nI (2 ^ n)), .ref (a1), .ref (a2), .ref (a3), .int (nI (fc))])), kI E (a1) (16) (to)] [((ox), .inr (4, [.ref (hT), .ref (hF), .ref (hS)]))] 0 (c_T_set_f1 E l hT n a1 a2 a3 fc to x z (by omega) (by omega) (by omega)) mmT_set msT_set lkR_34 rfl rfl (rfl) rfl rfl ⟨by decide, by decide⟩ ⟨by decide, by decide⟩ (Nat.le_of_ble_eq_true rfl) dR_put_6 (fun r_c w_c hp => ?_)
  obtain ⟨rfl, rfl⟩ := hp
  refine J_norm C (st' := [.int (nI (0))]) (ws' := [((hT), .inr (3, [.int (nI (n)), .int (nI (2 ^ n)), .ref (a1), .ref (a2), .ref (a3), .int (nI (fc))])), kI E (a1) (16) (to), ((ox), .inr (4, [.ref (hT), .ref (hF), .ref (hS)]))]) (cs' := 0) (ss' := 0) rfl (rfl) rfl rfl ?_
  refine J_pick C (ws' := [((ox), .inr (4, [.ref (hT), .ref (hF), .ref (hS)])), ((hT), .inr (3, [.int (nI (n)), .int (nI (2 ^ n)), .ref (a1), .ref (a2), .ref (a3), .int (nI (fc))])), kI E (a1) (16) (to)]) [2, 0, 1] (by decide) rfl ?_
  exact hret _ _ _ _ _ _ dR_put_9 (by decide) (by decide) (by decide) (⟨rfl, rfl⟩)
set_option maxHeartbeats 4000000 in
set_option maxRecDepth 100000 in
theorem c_R_put_f2 (E : jE) (l : Launch) (ox : Nat) (hT : Nat) (hF : Nat) (hS : Nat) (n : Nat) (a1 : Nat) (a2 : Nat) (a3 : Nat) (fc : Nat) (to : Nat → Nat) (k : Nat) (z : Int32) (hn1 : 1 ≤ n) (hn4 : n ≤ 4) (hk : k < 2 ^ n) (hx : z.toInt < 0 ∨ ((2 ^ n : Nat) : Int) ≤ z.toInt) : Con E l yR_put bR_put 3 (some .boolean) { frames := 2, cells := 0, slots := 0, locals := 43 } [.ref (ox), .int (nI (k)), .int (z)] [((ox), .inr (4, [.ref (hT), .ref (hF), .ref (hS)])), ((hT), .inr (3, [.int (nI (n)), .int (nI (2 ^ n)), .ref (a1), .ref (a2), .ref (a3), .int (nI (fc))])), kI E (a1) (16) (to)] (fun r w => r = some (.int (nI 0)) ∧ w = [((ox), .inr (4, [.ref (hT), .ref (hF), .ref (hS)])), ((hT), .inr (3, [.int (nI (n)), .int (nI (2 ^ n)), .ref (a1), .ref (a2), .ref (a3), .int (nI (fc))])), kI E (a1) (16) (to)]) := by
  refine Con.ofZ (by decide) (Nat.le_of_ble_eq_true rfl) ?_
  intro J C hret
  show J 0 [(0, .ref (ox)), (1, .int (nI (k))), (2, .int (z))] [] [((ox), .inr (4, [.ref (hT), .ref (hF), .ref (hS)])), ((hT), .inr (3, [.int (nI (n)), .int (nI (2 ^ n)), .ref (a1), .ref (a2), .ref (a3), .int (nI (fc))])), kI E (a1) (16) (to)] 0 0
  refine J_aload_n C 0 dR_put_0 rfl rfl ?_
  refine J_get C 0 0 hinR rfl rfl (by decide) fkR_10 rfl dR_put_1 ?_
  refine J_iload_n C 1 dR_put_4 rfl rfl ?_
  refine J_iload_n C 2 dR_put_5 rfl rfl ?_
  refine J_pick C (ws' := [((hT), .inr (3, [.int (nI (n)), .int (nI (2 ^ n)), .ref (a1), .ref (a2), .ref (a3), .int (nI (fc))])), kI E (a1) (16) (to), ((ox), .inr (4, [.ref (hT), .ref (hF), .ref (hS)]))]) [1, 2, 0] (by decide) rfl ?_
  refine J_callV C (rest := []) [] [((hT), .inr (3, [.int (nI (n)), .int (nI (2 ^ n)), .ref (a1), .ref (a2), .ref (a3), .int (nI (fc))])), kI E (a1) (16) (to)] [((ox), .inr (4, [.ref (hT), .ref (hF), .ref (hS)]))] 0 (c_T_set_f2 E l hT n a1 a2 a3 fc to k z (by omega) (by omega) (hk) (by omega)) mmT_set msT_set lkR_34 rfl rfl (rfl) rfl rfl ⟨by decide, by decide⟩ ⟨by decide, by decide⟩ (Nat.le_of_ble_eq_true rfl) dR_put_6 (fun r_c w_c hp => ?_)
  obtain ⟨rfl, rfl⟩ := hp
  refine J_norm C (st' := [.int (nI (0))]) (ws' := [((hT), .inr (3, [.int (nI (n)), .int (nI (2 ^ n)), .ref (a1), .ref (a2), .ref (a3), .int (nI (fc))])), kI E (a1) (16) (to), ((ox), .inr (4, [.ref (hT), .ref (hF), .ref (hS)]))]) (cs' := 0) (ss' := 0) rfl (rfl) rfl rfl ?_
  refine J_pick C (ws' := [((ox), .inr (4, [.ref (hT), .ref (hF), .ref (hS)])), ((hT), .inr (3, [.int (nI (n)), .int (nI (2 ^ n)), .ref (a1), .ref (a2), .ref (a3), .int (nI (fc))])), kI E (a1) (16) (to)]) [2, 0, 1] (by decide) rfl ?_
  exact hret _ _ _ _ _ _ dR_put_9 (by decide) (by decide) (by decide) (⟨rfl, rfl⟩)
set_option maxHeartbeats 4000000 in
set_option maxRecDepth 100000 in
theorem c_R_apply_t (E : jE) (l : Launch) (ox : Nat) (hT : Nat) (hF : Nat) (hS : Nat) (n : Nat) (a1 : Nat) (a2 : Nat) (a3 : Nat) (fc : Nat) (to : Nat → Nat) (a : Nat) (c : Nat) (hn1 : 1 ≤ n) (hn4 : n ≤ 4) (ha : a < n) (hc : c < 2 ^ n) (hb : c.testBit a = false) (ht : ∀ v, v < 2 ^ n → to v < 2 ^ n) : Con E l yR_apply bR_apply 2 (some .boolean) { frames := 2, cells := 0, slots := 0, locals := 46 } [.ref (ox), .int (nI (16 * a + c))] [((ox), .inr (4, [.ref (hT), .ref (hF), .ref (hS)])), ((hT), .inr (3, [.int (nI (n)), .int (nI (2 ^ n)), .ref (a1), .ref (a2), .ref (a3), .int (nI (fc))])), kI E (a1) (16) (to)] (fun r w => r = some (.int (nI 1)) ∧ w = [((ox), .inr (4, [.ref (hT), .ref (hF), .ref (hS)])), ((hT), .inr (3, [.int (nI (n)), .int (nI (2 ^ n)), .ref (a1), .ref (a2), .ref (a3), .int (nI (fc))])), kI E (a1) (16) (gAp n to a c)]) := by
  refine Con.ofZ (by decide) (Nat.le_of_ble_eq_true rfl) ?_
  intro J C hret
  show J 0 [(0, .ref (ox)), (1, .int (nI (16 * a + c)))] [] [((ox), .inr (4, [.ref (hT), .ref (hF), .ref (hS)])), ((hT), .inr (3, [.int (nI (n)), .int (nI (2 ^ n)), .ref (a1), .ref (a2), .ref (a3), .int (nI (fc))])), kI E (a1) (16) (to)] 0 0
  refine J_aload_n C 0 dR_apply_0 rfl rfl ?_
  refine J_get C 0 0 hinR rfl rfl (by decide) fkR_10 rfl dR_apply_1 ?_
  refine J_iload_n C 1 dR_apply_4 rfl rfl ?_
  refine J_pick C (ws' := [((hT), .inr (3, [.int (nI (n)), .int (nI (2 ^ n)), .ref (a1), .ref (a2), .ref (a3), .int (nI (fc))])), kI E (a1) (16) (to), ((ox), .inr (4, [.ref (hT), .ref (hF), .ref (hS)]))]) [1, 2, 0] (by decide) rfl ?_
  refine J_callV C (rest := []) [] [((hT), .inr (3, [.int (nI (n)), .int (nI (2 ^ n)), .ref (a1), .ref (a2), .ref (a3), .int (nI (fc))])), kI E (a1) (16) (to)] [((ox), .inr (4, [.ref (hT), .ref (hF), .ref (hS)]))] 0 (c_T_change_t E l hT n a1 a2 a3 fc to a c (by omega) (by omega) (by omega) (by omega) (hb) (ht)) mmT_change msT_change lkR_38 rfl rfl (rfl) rfl rfl ⟨by decide, by decide⟩ ⟨by decide, by decide⟩ (Nat.le_of_ble_eq_true rfl) dR_apply_5 (fun r_c w_c hp => ?_)
  obtain ⟨rfl, rfl⟩ := hp
  refine J_norm C (st' := [.int (nI (1))]) (ws' := [((hT), .inr (3, [.int (nI (n)), .int (nI (2 ^ n)), .ref (a1), .ref (a2), .ref (a3), .int (nI (fc))])), kI E (a1) (16) (gAp n to a c), ((ox), .inr (4, [.ref (hT), .ref (hF), .ref (hS)]))]) (cs' := 0) (ss' := 0) rfl (rfl) rfl rfl ?_
  refine J_pick C (ws' := [((ox), .inr (4, [.ref (hT), .ref (hF), .ref (hS)])), ((hT), .inr (3, [.int (nI (n)), .int (nI (2 ^ n)), .ref (a1), .ref (a2), .ref (a3), .int (nI (fc))])), kI E (a1) (16) (gAp n to a c)]) [2, 0, 1] (by decide) rfl ?_
  exact hret _ _ _ _ _ _ dR_apply_8 (by decide) (by decide) (by decide) (⟨rfl, rfl⟩)
set_option maxHeartbeats 4000000 in
set_option maxRecDepth 100000 in
theorem c_R_apply_n (E : jE) (l : Launch) (ox : Nat) (hT : Nat) (hF : Nat) (hS : Nat) (n : Nat) (a1 : Nat) (a2 : Nat) (a3 : Nat) (fc : Nat) (to : Nat → Nat) (x : Int32) (hn1 : 1 ≤ n) (hn4 : n ≤ 4) (hx : x.toInt < 0) : Con E l yR_apply bR_apply 2 (some .boolean) { frames := 2, cells := 0, slots := 0, locals := 44 } [.ref (ox), .int (x)] [((ox), .inr (4, [.ref (hT), .ref (hF), .ref (hS)])), ((hT), .inr (3, [.int (nI (n)), .int (nI (2 ^ n)), .ref (a1), .ref (a2), .ref (a3), .int (nI (fc))])), kI E (a1) (16) (to)] (fun r w => r = some (.int (nI 0)) ∧ w = [((ox), .inr (4, [.ref (hT), .ref (hF), .ref (hS)])), ((hT), .inr (3, [.int (nI (n)), .int (nI (2 ^ n)), .ref (a1), .ref (a2), .ref (a3), .int (nI (fc))])), kI E (a1) (16) (to)]) := by
  refine Con.ofZ (by decide) (Nat.le_of_ble_eq_true rfl) ?_
  intro J C hret
  show J 0 [(0, .ref (ox)), (1, .int (x))] [] [((ox), .inr (4, [.ref (hT), .ref (hF), .ref (hS)])), ((hT), .inr (3, [.int (nI (n)), .int (nI (2 ^ n)), .ref (a1), .ref (a2), .ref (a3), .int (nI (fc))])), kI E (a1) (16) (to)] 0 0
  refine J_aload_n C 0 dR_apply_0 rfl rfl ?_
  refine J_get C 0 0 hinR rfl rfl (by decide) fkR_10 rfl dR_apply_1 ?_
  refine J_iload_n C 1 dR_apply_4 rfl rfl ?_
  refine J_pick C (ws' := [((hT), .inr (3, [.int (nI (n)), .int (nI (2 ^ n)), .ref (a1), .ref (a2), .ref (a3), .int (nI (fc))])), kI E (a1) (16) (to), ((ox), .inr (4, [.ref (hT), .ref (hF), .ref (hS)]))]) [1, 2, 0] (by decide) rfl ?_
  refine J_callV C (rest := []) [] [((hT), .inr (3, [.int (nI (n)), .int (nI (2 ^ n)), .ref (a1), .ref (a2), .ref (a3), .int (nI (fc))])), kI E (a1) (16) (to)] [((ox), .inr (4, [.ref (hT), .ref (hF), .ref (hS)]))] 0 (c_T_change_n E l hT n a1 a2 a3 fc to x (by omega) (by omega) (by omega)) mmT_change msT_change lkR_38 rfl rfl (rfl) rfl rfl ⟨by decide, by decide⟩ ⟨by decide, by decide⟩ (Nat.le_of_ble_eq_true rfl) dR_apply_5 (fun r_c w_c hp => ?_)
  obtain ⟨rfl, rfl⟩ := hp
  refine J_norm C (st' := [.int (nI (0))]) (ws' := [((hT), .inr (3, [.int (nI (n)), .int (nI (2 ^ n)), .ref (a1), .ref (a2), .ref (a3), .int (nI (fc))])), kI E (a1) (16) (to), ((ox), .inr (4, [.ref (hT), .ref (hF), .ref (hS)]))]) (cs' := 0) (ss' := 0) rfl (rfl) rfl rfl ?_
  refine J_pick C (ws' := [((ox), .inr (4, [.ref (hT), .ref (hF), .ref (hS)])), ((hT), .inr (3, [.int (nI (n)), .int (nI (2 ^ n)), .ref (a1), .ref (a2), .ref (a3), .int (nI (fc))])), kI E (a1) (16) (to)]) [2, 0, 1] (by decide) rfl ?_
  exact hret _ _ _ _ _ _ dR_apply_8 (by decide) (by decide) (by decide) (⟨rfl, rfl⟩)
set_option maxHeartbeats 4000000 in
set_option maxRecDepth 100000 in
theorem c_R_apply_f (E : jE) (l : Launch) (ox : Nat) (hT : Nat) (hF : Nat) (hS : Nat) (n : Nat) (a1 : Nat) (a2 : Nat) (a3 : Nat) (fc : Nat) (to : Nat → Nat) (g : Nat) (hn1 : 1 ≤ n) (hn4 : n ≤ 4) (hg : g < 2 ^ 31) (hx : ¬ (g / 16 < n ∧ g % 16 < 2 ^ n ∧ (g % 16).testBit (g / 16) = false)) : Con E l yR_apply bR_apply 2 (some .boolean) { frames := 2, cells := 0, slots := 0, locals := 44 } [.ref (ox), .int (nI (g))] [((ox), .inr (4, [.ref (hT), .ref (hF), .ref (hS)])), ((hT), .inr (3, [.int (nI (n)), .int (nI (2 ^ n)), .ref (a1), .ref (a2), .ref (a3), .int (nI (fc))])), kI E (a1) (16) (to)] (fun r w => r = some (.int (nI 0)) ∧ w = [((ox), .inr (4, [.ref (hT), .ref (hF), .ref (hS)])), ((hT), .inr (3, [.int (nI (n)), .int (nI (2 ^ n)), .ref (a1), .ref (a2), .ref (a3), .int (nI (fc))])), kI E (a1) (16) (to)]) := by
  refine Con.ofZ (by decide) (Nat.le_of_ble_eq_true rfl) ?_
  intro J C hret
  show J 0 [(0, .ref (ox)), (1, .int (nI (g)))] [] [((ox), .inr (4, [.ref (hT), .ref (hF), .ref (hS)])), ((hT), .inr (3, [.int (nI (n)), .int (nI (2 ^ n)), .ref (a1), .ref (a2), .ref (a3), .int (nI (fc))])), kI E (a1) (16) (to)] 0 0
  refine J_aload_n C 0 dR_apply_0 rfl rfl ?_
  refine J_get C 0 0 hinR rfl rfl (by decide) fkR_10 rfl dR_apply_1 ?_
  refine J_iload_n C 1 dR_apply_4 rfl rfl ?_
  refine J_pick C (ws' := [((hT), .inr (3, [.int (nI (n)), .int (nI (2 ^ n)), .ref (a1), .ref (a2), .ref (a3), .int (nI (fc))])), kI E (a1) (16) (to), ((ox), .inr (4, [.ref (hT), .ref (hF), .ref (hS)]))]) [1, 2, 0] (by decide) rfl ?_
  refine J_callV C (rest := []) [] [((hT), .inr (3, [.int (nI (n)), .int (nI (2 ^ n)), .ref (a1), .ref (a2), .ref (a3), .int (nI (fc))])), kI E (a1) (16) (to)] [((ox), .inr (4, [.ref (hT), .ref (hF), .ref (hS)]))] 0 (c_T_change_f E l hT n a1 a2 a3 fc to g (by omega) (by omega) (by omega) (hx)) mmT_change msT_change lkR_38 rfl rfl (rfl) rfl rfl ⟨by decide, by decide⟩ ⟨by decide, by decide⟩ (Nat.le_of_ble_eq_true rfl) dR_apply_5 (fun r_c w_c hp => ?_)
  obtain ⟨rfl, rfl⟩ := hp
  refine J_norm C (st' := [.int (nI (0))]) (ws' := [((hT), .inr (3, [.int (nI (n)), .int (nI (2 ^ n)), .ref (a1), .ref (a2), .ref (a3), .int (nI (fc))])), kI E (a1) (16) (to), ((ox), .inr (4, [.ref (hT), .ref (hF), .ref (hS)]))]) (cs' := 0) (ss' := 0) rfl (rfl) rfl rfl ?_
  refine J_pick C (ws' := [((ox), .inr (4, [.ref (hT), .ref (hF), .ref (hS)])), ((hT), .inr (3, [.int (nI (n)), .int (nI (2 ^ n)), .ref (a1), .ref (a2), .ref (a3), .int (nI (fc))])), kI E (a1) (16) (to)]) [2, 0, 1] (by decide) rfl ?_
  exact hret _ _ _ _ _ _ dR_apply_8 (by decide) (by decide) (by decide) (⟨rfl, rfl⟩)
set_option maxHeartbeats 4000000 in
set_option maxRecDepth 100000 in
theorem c_R_look_t (E : jE) (l : Launch) (ox : Nat) (hT : Nat) (hF : Nat) (hS : Nat) (n : Nat) (a1 : Nat) (a2 : Nat) (a3 : Nat) (fc : Nat) (to : Nat → Nat) (k : Nat) (hn1 : 1 ≤ n) (hn4 : n ≤ 4) (hk : k < 2 ^ n) : Con E l yR_look bR_look 2 (some .int) { frames := 2, cells := 0, slots := 0, locals := 42 } [.ref (ox), .int (nI (k))] [((ox), .inr (4, [.ref (hT), .ref (hF), .ref (hS)])), ((hT), .inr (3, [.int (nI (n)), .int (nI (2 ^ n)), .ref (a1), .ref (a2), .ref (a3), .int (nI (fc))])), kI E (a1) (16) (to)] (fun r w => r = some (.int (nI (to k))) ∧ w = [((ox), .inr (4, [.ref (hT), .ref (hF), .ref (hS)])), ((hT), .inr (3, [.int (nI (n)), .int (nI (2 ^ n)), .ref (a1), .ref (a2), .ref (a3), .int (nI (fc))])), kI E (a1) (16) (to)]) := by
  refine Con.ofI (by decide) (Nat.le_of_ble_eq_true rfl) ?_
  intro J C hret
  show J 0 [(0, .ref (ox)), (1, .int (nI (k)))] [] [((ox), .inr (4, [.ref (hT), .ref (hF), .ref (hS)])), ((hT), .inr (3, [.int (nI (n)), .int (nI (2 ^ n)), .ref (a1), .ref (a2), .ref (a3), .int (nI (fc))])), kI E (a1) (16) (to)] 0 0
  refine J_aload_n C 0 dR_look_0 rfl rfl ?_
  refine J_get C 0 0 hinR rfl rfl (by decide) fkR_10 rfl dR_look_1 ?_
  refine J_iload_n C 1 dR_look_4 rfl rfl ?_
  refine J_pick C (ws' := [((hT), .inr (3, [.int (nI (n)), .int (nI (2 ^ n)), .ref (a1), .ref (a2), .ref (a3), .int (nI (fc))])), kI E (a1) (16) (to), ((ox), .inr (4, [.ref (hT), .ref (hF), .ref (hS)]))]) [1, 2, 0] (by decide) rfl ?_
  refine J_callV C (rest := []) [] [((hT), .inr (3, [.int (nI (n)), .int (nI (2 ^ n)), .ref (a1), .ref (a2), .ref (a3), .int (nI (fc))])), kI E (a1) (16) (to)] [((ox), .inr (4, [.ref (hT), .ref (hF), .ref (hS)]))] 0 (c_T_get_t E l hT n a1 a2 a3 fc to k (by omega) (by omega) (hk)) mmT_get msT_get lkR_53 rfl rfl (rfl) rfl rfl ⟨by decide, by decide⟩ ⟨by decide, by decide⟩ (Nat.le_of_ble_eq_true rfl) dR_look_5 (fun r_c w_c hp => ?_)
  obtain ⟨rfl, rfl⟩ := hp
  refine J_norm C (st' := [.int (nI (to k))]) (ws' := [((hT), .inr (3, [.int (nI (n)), .int (nI (2 ^ n)), .ref (a1), .ref (a2), .ref (a3), .int (nI (fc))])), kI E (a1) (16) (to), ((ox), .inr (4, [.ref (hT), .ref (hF), .ref (hS)]))]) (cs' := 0) (ss' := 0) rfl (rfl) rfl rfl ?_
  refine J_pick C (ws' := [((ox), .inr (4, [.ref (hT), .ref (hF), .ref (hS)])), ((hT), .inr (3, [.int (nI (n)), .int (nI (2 ^ n)), .ref (a1), .ref (a2), .ref (a3), .int (nI (fc))])), kI E (a1) (16) (to)]) [2, 0, 1] (by decide) rfl ?_
  exact hret _ _ _ _ _ _ dR_look_8 (by decide) (by decide) (⟨rfl, rfl⟩)
set_option maxHeartbeats 4000000 in
set_option maxRecDepth 100000 in
theorem c_R_look_f (E : jE) (l : Launch) (ox : Nat) (hT : Nat) (hF : Nat) (hS : Nat) (n : Nat) (a1 : Nat) (a2 : Nat) (a3 : Nat) (fc : Nat) (to : Nat → Nat) (x : Int32) (hn1 : 1 ≤ n) (hn4 : n ≤ 4) (hx : x.toInt < 0 ∨ ((2 ^ n : Nat) : Int) ≤ x.toInt) : Con E l yR_look bR_look 2 (some .int) { frames := 2, cells := 0, slots := 0, locals := 42 } [.ref (ox), .int (x)] [((ox), .inr (4, [.ref (hT), .ref (hF), .ref (hS)])), ((hT), .inr (3, [.int (nI (n)), .int (nI (2 ^ n)), .ref (a1), .ref (a2), .ref (a3), .int (nI (fc))])), kI E (a1) (16) (to)] (fun r w => r = some (.int (-1)) ∧ w = [((ox), .inr (4, [.ref (hT), .ref (hF), .ref (hS)])), ((hT), .inr (3, [.int (nI (n)), .int (nI (2 ^ n)), .ref (a1), .ref (a2), .ref (a3), .int (nI (fc))])), kI E (a1) (16) (to)]) := by
  refine Con.ofI (by decide) (Nat.le_of_ble_eq_true rfl) ?_
  intro J C hret
  show J 0 [(0, .ref (ox)), (1, .int (x))] [] [((ox), .inr (4, [.ref (hT), .ref (hF), .ref (hS)])), ((hT), .inr (3, [.int (nI (n)), .int (nI (2 ^ n)), .ref (a1), .ref (a2), .ref (a3), .int (nI (fc))])), kI E (a1) (16) (to)] 0 0
  refine J_aload_n C 0 dR_look_0 rfl rfl ?_
  refine J_get C 0 0 hinR rfl rfl (by decide) fkR_10 rfl dR_look_1 ?_
  refine J_iload_n C 1 dR_look_4 rfl rfl ?_
  refine J_pick C (ws' := [((hT), .inr (3, [.int (nI (n)), .int (nI (2 ^ n)), .ref (a1), .ref (a2), .ref (a3), .int (nI (fc))])), kI E (a1) (16) (to), ((ox), .inr (4, [.ref (hT), .ref (hF), .ref (hS)]))]) [1, 2, 0] (by decide) rfl ?_
  refine J_callV C (rest := []) [] [((hT), .inr (3, [.int (nI (n)), .int (nI (2 ^ n)), .ref (a1), .ref (a2), .ref (a3), .int (nI (fc))])), kI E (a1) (16) (to)] [((ox), .inr (4, [.ref (hT), .ref (hF), .ref (hS)]))] 0 (c_T_get_f E l hT n a1 a2 a3 fc to x (by omega) (by omega) (by omega)) mmT_get msT_get lkR_53 rfl rfl (rfl) rfl rfl ⟨by decide, by decide⟩ ⟨by decide, by decide⟩ (Nat.le_of_ble_eq_true rfl) dR_look_5 (fun r_c w_c hp => ?_)
  obtain ⟨rfl, rfl⟩ := hp
  refine J_norm C (st' := [.int (-1)]) (ws' := [((hT), .inr (3, [.int (nI (n)), .int (nI (2 ^ n)), .ref (a1), .ref (a2), .ref (a3), .int (nI (fc))])), kI E (a1) (16) (to), ((ox), .inr (4, [.ref (hT), .ref (hF), .ref (hS)]))]) (cs' := 0) (ss' := 0) rfl (rfl) rfl rfl ?_
  refine J_pick C (ws' := [((ox), .inr (4, [.ref (hT), .ref (hF), .ref (hS)])), ((hT), .inr (3, [.int (nI (n)), .int (nI (2 ^ n)), .ref (a1), .ref (a2), .ref (a3), .int (nI (fc))])), kI E (a1) (16) (to)]) [2, 0, 1] (by decide) rfl ?_
  exact hret _ _ _ _ _ _ dR_look_8 (by decide) (by decide) (⟨rfl, rfl⟩)
set_option maxHeartbeats 4000000 in
set_option maxRecDepth 100000 in
theorem c_R_gate_f (E : jE) (l : Launch) (ox : Nat) (hT : Nat) (hF : Nat) (hS : Nat) (n : Nat) (a1 : Nat) (a2 : Nat) (a3 : Nat) (fc : Nat) (to : Nat → Nat) (x : Int32) (hn1 : 1 ≤ n) (hn4 : n ≤ 4) (ht : ∀ v, v < 2 ^ n → to v < 2 ^ n) (hq : sn to (2 ^ n) ≠ 2 ^ 2 ^ n - 1) : Con E l yR_gate bR_gate 3 (some .int) { frames := 1, cells := 0, slots := 0, locals := 22 } [.ref (ox), .int (x)] [((ox), .inr (4, [.ref (hT), .ref (hF), .ref (hS)])), ((hT), .inr (3, [.int (nI (n)), .int (nI (2 ^ n)), .ref (a1), .ref (a2), .ref (a3), .int (nI (fc))])), kI E (a1) (16) (to)] (fun r w => r = some (.int (-1)) ∧ w = [((ox), .inr (4, [.ref (hT), .ref (hF), .ref (hS)])), ((hT), .inr (3, [.int (nI (n)), .int (nI (2 ^ n)), .ref (a1), .ref (a2), .ref (a3), .int (nI (fc))])), kI E (a1) (16) (to)]) := by
  refine Con.ofI (by decide) (Nat.le_of_ble_eq_true rfl) ?_
  intro J C hret
  show J 0 [(0, .ref (ox)), (1, .int (x))] [] [((ox), .inr (4, [.ref (hT), .ref (hF), .ref (hS)])), ((hT), .inr (3, [.int (nI (n)), .int (nI (2 ^ n)), .ref (a1), .ref (a2), .ref (a3), .int (nI (fc))])), kI E (a1) (16) (to)] 0 0
  have hp16 := p16 hn4
  have hp1 := p1 n
  refine J_aload_n C 0 dR_gate_0 rfl rfl ?_
  refine J_get C 0 0 hinR rfl rfl (by decide) fkR_10 rfl dR_gate_1 ?_
  refine J_pick C (ws' := [((hT), .inr (3, [.int (nI (n)), .int (nI (2 ^ n)), .ref (a1), .ref (a2), .ref (a3), .int (nI (fc))])), kI E (a1) (16) (to), ((ox), .inr (4, [.ref (hT), .ref (hF), .ref (hS)]))]) [1, 2, 0] (by decide) rfl ?_
  refine J_callV C (rest := []) [] [((hT), .inr (3, [.int (nI (n)), .int (nI (2 ^ n)), .ref (a1), .ref (a2), .ref (a3), .int (nI (fc))])), kI E (a1) (16) (to)] [((ox), .inr (4, [.ref (hT), .ref (hF), .ref (hS)]))] 0 (c_T_isPerm_f E l hT n a1 a2 a3 fc to (by omega) (by omega) (by assumption) (by assumption)) mmT_isPermutation msT_isPermutation lkR_41 rfl rfl (rfl) rfl rfl ⟨by decide, by decide⟩ ⟨by decide, by decide⟩ (Nat.le_of_ble_eq_true rfl) dR_gate_4 (fun r_c w_c hp => ?_)
  obtain ⟨rfl, rfl⟩ := hp
  refine J_norm C (st' := [.int (nI (0))]) (ws' := [((hT), .inr (3, [.int (nI (n)), .int (nI (2 ^ n)), .ref (a1), .ref (a2), .ref (a3), .int (nI (fc))])), kI E (a1) (16) (to), ((ox), .inr (4, [.ref (hT), .ref (hF), .ref (hS)]))]) (cs' := 0) (ss' := 0) rfl (rfl) rfl rfl ?_
  refine J_pick C (ws' := [((ox), .inr (4, [.ref (hT), .ref (hF), .ref (hS)])), ((hT), .inr (3, [.int (nI (n)), .int (nI (2 ^ n)), .ref (a1), .ref (a2), .ref (a3), .int (nI (fc))])), kI E (a1) (16) (to)]) [2, 0, 1] (by decide) rfl ?_
  refine J_if_ne C 12 (nI_toInt (n := 0) (by decide)) dR_gate_7 (by decide) (fun h7 => ?_) (fun h7 => ?_)
  · exfalso; omega
  · refine J_iconst C (v := -1) dR_gate_10 (by decide) ?_
    exact hret _ _ _ _ _ _ dR_gate_11 (by decide) (by decide) (⟨rfl, rfl⟩)
set_option maxHeartbeats 4000000 in
set_option maxRecDepth 100000 in
theorem c_R_gate_m (E : jE) (l : Launch) (ox : Nat) (hT : Nat) (hF : Nat) (hS : Nat) (n : Nat) (a1 : Nat) (a2 : Nat) (a3 : Nat) (fc : Nat) (to : Nat → Nat) (rs : Nat → Nat) (fd : Nat → Nat) (hn1 : 1 ≤ n) (hn4 : n ≤ 4) (ht : ∀ v, v < 2 ^ n → to v < 2 ^ n) (hq : sn to (2 ^ n) = 2 ^ 2 ^ n - 1) : Con E l yR_gate bR_gate 3 (some .int) { frames := 4, cells := 0, slots := 0, locals := 89 } [.ref (ox), .int (-1)] [((ox), .inr (4, [.ref (hT), .ref (hF), .ref (hS)])), ((hT), .inr (3, [.int (nI (n)), .int (nI (2 ^ n)), .ref (a1), .ref (a2), .ref (a3), .int (nI (fc))])), kI E (a1) (16) (to), kI E (a2) (16) (rs), kI E (a3) (64) (fd)] (fun r w => ∃ f1 F1 : Nat → Nat, r = some (.int (nI (gts n to).length)) ∧ w = [((ox), .inr (4, [.ref (hT), .ref (hF), .ref (hS)])), ((hT), .inr (3, [.int (nI (n)), .int (nI (2 ^ n)), .ref (a1), .ref (a2), .ref (a3), .int (nI ((gts n to).length))])), kI E (a1) (16) (to), kI E (a2) (16) (f1), kI E (a3) (64) (F1)]) := by
  refine Con.ofI (by decide) (Nat.le_of_ble_eq_true rfl) ?_
  intro J C hret
  show J 0 [(0, .ref (ox)), (1, .int (-1))] [] [((ox), .inr (4, [.ref (hT), .ref (hF), .ref (hS)])), ((hT), .inr (3, [.int (nI (n)), .int (nI (2 ^ n)), .ref (a1), .ref (a2), .ref (a3), .int (nI (fc))])), kI E (a1) (16) (to), kI E (a2) (16) (rs), kI E (a3) (64) (fd)] 0 0
  have hp16 := p16 hn4
  have hp1 := p1 n
  have gl := gts_len hn4 to
  refine J_aload_n C 0 dR_gate_0 rfl rfl ?_
  refine J_get C 0 0 hinR rfl rfl (by decide) fkR_10 rfl dR_gate_1 ?_
  refine J_pick C (ws' := [((hT), .inr (3, [.int (nI (n)), .int (nI (2 ^ n)), .ref (a1), .ref (a2), .ref (a3), .int (nI (fc))])), kI E (a1) (16) (to), ((ox), .inr (4, [.ref (hT), .ref (hF), .ref (hS)])), kI E (a2) (16) (rs), kI E (a3) (64) (fd)]) [1, 2, 0, 3, 4] (by decide) rfl ?_
  refine J_callV C (rest := []) [] [((hT), .inr (3, [.int (nI (n)), .int (nI (2 ^ n)), .ref (a1), .ref (a2), .ref (a3), .int (nI (fc))])), kI E (a1) (16) (to)] [((ox), .inr (4, [.ref (hT), .ref (hF), .ref (hS)])), kI E (a2) (16) (rs), kI E (a3) (64) (fd)] 0 (c_T_isPerm_t E l hT n a1 a2 a3 fc to (by omega) (by omega) (by assumption) (by assumption)) mmT_isPermutation msT_isPermutation lkR_41 rfl rfl (rfl) rfl rfl ⟨by decide, by decide⟩ ⟨by decide, by decide⟩ (Nat.le_of_ble_eq_true rfl) dR_gate_4 (fun r_c w_c hp => ?_)
  obtain ⟨rfl, rfl⟩ := hp
  refine J_norm C (st' := [.int (nI (1))]) (ws' := [((hT), .inr (3, [.int (nI (n)), .int (nI (2 ^ n)), .ref (a1), .ref (a2), .ref (a3), .int (nI (fc))])), kI E (a1) (16) (to), ((ox), .inr (4, [.ref (hT), .ref (hF), .ref (hS)])), kI E (a2) (16) (rs), kI E (a3) (64) (fd)]) (cs' := 0) (ss' := 0) rfl (rfl) rfl rfl ?_
  refine J_pick C (ws' := [((ox), .inr (4, [.ref (hT), .ref (hF), .ref (hS)])), ((hT), .inr (3, [.int (nI (n)), .int (nI (2 ^ n)), .ref (a1), .ref (a2), .ref (a3), .int (nI (fc))])), kI E (a1) (16) (to), kI E (a2) (16) (rs), kI E (a3) (64) (fd)]) [2, 0, 1, 3, 4] (by decide) rfl ?_
  refine J_if_ne C 12 (nI_toInt (n := 1) (by decide)) dR_gate_7 (by decide) (fun h7 => ?_) (fun h7 => ?_)
  · refine J_aload_n C 0 dR_gate_12 rfl rfl ?_
    refine J_get C 0 0 hinR rfl rfl (by decide) fkR_10 rfl dR_gate_13 ?_
    refine J_pick C (ws' := [((hT), .inr (3, [.int (nI (n)), .int (nI (2 ^ n)), .ref (a1), .ref (a2), .ref (a3), .int (nI (fc))])), kI E (a1) (16) (to), kI E (a2) (16) (rs), kI E (a3) (64) (fd), ((ox), .inr (4, [.ref (hT), .ref (hF), .ref (hS)]))]) [1, 2, 3, 4, 0] (by decide) rfl ?_
    refine J_callV C (rest := []) [] [((hT), .inr (3, [.int (nI (n)), .int (nI (2 ^ n)), .ref (a1), .ref (a2), .ref (a3), .int (nI (fc))])), kI E (a1) (16) (to), kI E (a2) (16) (rs), kI E (a3) (64) (fd)] [((ox), .inr (4, [.ref (hT), .ref (hF), .ref (hS)]))] 0 (c_T_findGates E l hT n a1 a2 a3 fc to rs fd (by omega) (by omega) (by assumption)) mmT_findGates msT_findGates lkR_45 rfl rfl (rfl) rfl rfl ⟨by decide, by decide⟩ ⟨by decide, by decide⟩ (Nat.le_of_ble_eq_true rfl) dR_gate_16 (fun r_c w_c hp => ?_)
    obtain ⟨f1, F1, rfl, hF1, rfl⟩ := hp
    refine J_norm C (st' := [.int (nI ((gts n to).length))]) (ws' := [((hT), .inr (3, [.int (nI (n)), .int (nI (2 ^ n)), .ref (a1), .ref (a2), .ref (a3), .int (nI ((gts n to).length))])), kI E (a1) (16) (to), kI E (a2) (16) (f1), kI E (a3) (64) (F1), ((ox), .inr (4, [.ref (hT), .ref (hF), .ref (hS)]))]) (cs' := 0) (ss' := 0) rfl (rfl) rfl rfl ?_
    refine J_pick C (ws' := [((ox), .inr (4, [.ref (hT), .ref (hF), .ref (hS)])), ((hT), .inr (3, [.int (nI (n)), .int (nI (2 ^ n)), .ref (a1), .ref (a2), .ref (a3), .int (nI ((gts n to).length))])), kI E (a1) (16) (to), kI E (a2) (16) (f1), kI E (a3) (64) (F1)]) [4, 0, 1, 2, 3] (by decide) rfl ?_
    refine J_istore_n C (lv' := [(0, .ref (ox)), (1, .int (-1)), (2, .int (nI ((gts n to).length)))]) [1, 2, 0] dR_gate_19 rfl (by decide) rfl ?_
    refine J_iload_n C 1 dR_gate_20 rfl rfl ?_
    refine J_iconst C (v := -1) dR_gate_21 (by decide) ?_
    refine J_icmp_ne C 29 j_m1 j_m1 dR_gate_22 (by decide) (fun h22 => ?_) (fun h22 => ?_)
    · exfalso; omega
    · refine J_iload_n C 2 dR_gate_25 rfl rfl ?_
      refine J_goto C 37 dR_gate_26 (by decide) ?_
      exact hret _ _ _ _ _ _ dR_gate_37 (by decide) (by decide) (⟨f1, F1, rfl, rfl⟩)
  · exfalso; omega
set_option maxHeartbeats 4000000 in
set_option maxRecDepth 100000 in
theorem c_R_gate_k (E : jE) (l : Launch) (ox : Nat) (hT : Nat) (hF : Nat) (hS : Nat) (n : Nat) (a1 : Nat) (a2 : Nat) (a3 : Nat) (fc : Nat) (to : Nat → Nat) (rs : Nat → Nat) (fd : Nat → Nat) (k : Nat) (hn1 : 1 ≤ n) (hn4 : n ≤ 4) (ht : ∀ v, v < 2 ^ n → to v < 2 ^ n) (hq : sn to (2 ^ n) = 2 ^ 2 ^ n - 1) (hk : k < (gts n to).length) : Con E l yR_gate bR_gate 3 (some .int) { frames := 4, cells := 0, slots := 0, locals := 89 } [.ref (ox), .int (nI (k))] [((ox), .inr (4, [.ref (hT), .ref (hF), .ref (hS)])), ((hT), .inr (3, [.int (nI (n)), .int (nI (2 ^ n)), .ref (a1), .ref (a2), .ref (a3), .int (nI (fc))])), kI E (a1) (16) (to), kI E (a2) (16) (rs), kI E (a3) (64) (fd)] (fun r w => ∃ f1 F1 : Nat → Nat, r = some (.int (nI ((gts n to).getD ((gts n to).length - 1 - k) 0))) ∧ w = [((ox), .inr (4, [.ref (hT), .ref (hF), .ref (hS)])), ((hT), .inr (3, [.int (nI (n)), .int (nI (2 ^ n)), .ref (a1), .ref (a2), .ref (a3), .int (nI ((gts n to).length))])), kI E (a1) (16) (to), kI E (a2) (16) (f1), kI E (a3) (64) (F1)]) := by
  refine Con.ofI (by decide) (Nat.le_of_ble_eq_true rfl) ?_
  intro J C hret
  show J 0 [(0, .ref (ox)), (1, .int (nI (k)))] [] [((ox), .inr (4, [.ref (hT), .ref (hF), .ref (hS)])), ((hT), .inr (3, [.int (nI (n)), .int (nI (2 ^ n)), .ref (a1), .ref (a2), .ref (a3), .int (nI (fc))])), kI E (a1) (16) (to), kI E (a2) (16) (rs), kI E (a3) (64) (fd)] 0 0
  have hp16 := p16 hn4
  have hp1 := p1 n
  have gl := gts_len hn4 to
  refine J_aload_n C 0 dR_gate_0 rfl rfl ?_
  refine J_get C 0 0 hinR rfl rfl (by decide) fkR_10 rfl dR_gate_1 ?_
  refine J_pick C (ws' := [((hT), .inr (3, [.int (nI (n)), .int (nI (2 ^ n)), .ref (a1), .ref (a2), .ref (a3), .int (nI (fc))])), kI E (a1) (16) (to), ((ox), .inr (4, [.ref (hT), .ref (hF), .ref (hS)])), kI E (a2) (16) (rs), kI E (a3) (64) (fd)]) [1, 2, 0, 3, 4] (by decide) rfl ?_
  refine J_callV C (rest := []) [] [((hT), .inr (3, [.int (nI (n)), .int (nI (2 ^ n)), .ref (a1), .ref (a2), .ref (a3), .int (nI (fc))])), kI E (a1) (16) (to)] [((ox), .inr (4, [.ref (hT), .ref (hF), .ref (hS)])), kI E (a2) (16) (rs), kI E (a3) (64) (fd)] 0 (c_T_isPerm_t E l hT n a1 a2 a3 fc to (by omega) (by omega) (by assumption) (by assumption)) mmT_isPermutation msT_isPermutation lkR_41 rfl rfl (rfl) rfl rfl ⟨by decide, by decide⟩ ⟨by decide, by decide⟩ (Nat.le_of_ble_eq_true rfl) dR_gate_4 (fun r_c w_c hp => ?_)
  obtain ⟨rfl, rfl⟩ := hp
  refine J_norm C (st' := [.int (nI (1))]) (ws' := [((hT), .inr (3, [.int (nI (n)), .int (nI (2 ^ n)), .ref (a1), .ref (a2), .ref (a3), .int (nI (fc))])), kI E (a1) (16) (to), ((ox), .inr (4, [.ref (hT), .ref (hF), .ref (hS)])), kI E (a2) (16) (rs), kI E (a3) (64) (fd)]) (cs' := 0) (ss' := 0) rfl (rfl) rfl rfl ?_
  refine J_pick C (ws' := [((ox), .inr (4, [.ref (hT), .ref (hF), .ref (hS)])), ((hT), .inr (3, [.int (nI (n)), .int (nI (2 ^ n)), .ref (a1), .ref (a2), .ref (a3), .int (nI (fc))])), kI E (a1) (16) (to), kI E (a2) (16) (rs), kI E (a3) (64) (fd)]) [2, 0, 1, 3, 4] (by decide) rfl ?_
  refine J_if_ne C 12 (nI_toInt (n := 1) (by decide)) dR_gate_7 (by decide) (fun h7 => ?_) (fun h7 => ?_)
  · refine J_aload_n C 0 dR_gate_12 rfl rfl ?_
    refine J_get C 0 0 hinR rfl rfl (by decide) fkR_10 rfl dR_gate_13 ?_
    refine J_pick C (ws' := [((hT), .inr (3, [.int (nI (n)), .int (nI (2 ^ n)), .ref (a1), .ref (a2), .ref (a3), .int (nI (fc))])), kI E (a1) (16) (to), kI E (a2) (16) (rs), kI E (a3) (64) (fd), ((ox), .inr (4, [.ref (hT), .ref (hF), .ref (hS)]))]) [1, 2, 3, 4, 0] (by decide) rfl ?_
    refine J_callV C (rest := []) [] [((hT), .inr (3, [.int (nI (n)), .int (nI (2 ^ n)), .ref (a1), .ref (a2), .ref (a3), .int (nI (fc))])), kI E (a1) (16) (to), kI E (a2) (16) (rs), kI E (a3) (64) (fd)] [((ox), .inr (4, [.ref (hT), .ref (hF), .ref (hS)]))] 0 (c_T_findGates E l hT n a1 a2 a3 fc to rs fd (by omega) (by omega) (by assumption)) mmT_findGates msT_findGates lkR_45 rfl rfl (rfl) rfl rfl ⟨by decide, by decide⟩ ⟨by decide, by decide⟩ (Nat.le_of_ble_eq_true rfl) dR_gate_16 (fun r_c w_c hp => ?_)
    obtain ⟨f1, F1, rfl, hF1, rfl⟩ := hp
    refine J_norm C (st' := [.int (nI ((gts n to).length))]) (ws' := [((hT), .inr (3, [.int (nI (n)), .int (nI (2 ^ n)), .ref (a1), .ref (a2), .ref (a3), .int (nI ((gts n to).length))])), kI E (a1) (16) (to), kI E (a2) (16) (f1), kI E (a3) (64) (F1), ((ox), .inr (4, [.ref (hT), .ref (hF), .ref (hS)]))]) (cs' := 0) (ss' := 0) rfl (rfl) rfl rfl ?_
    refine J_pick C (ws' := [((ox), .inr (4, [.ref (hT), .ref (hF), .ref (hS)])), ((hT), .inr (3, [.int (nI (n)), .int (nI (2 ^ n)), .ref (a1), .ref (a2), .ref (a3), .int (nI ((gts n to).length))])), kI E (a1) (16) (to), kI E (a2) (16) (f1), kI E (a3) (64) (F1)]) [4, 0, 1, 2, 3] (by decide) rfl ?_
    refine J_istore_n C (lv' := [(0, .ref (ox)), (1, .int (nI (k))), (2, .int (nI ((gts n to).length)))]) [1, 2, 0] dR_gate_19 rfl (by decide) rfl ?_
    refine J_iload_n C 1 dR_gate_20 rfl rfl ?_
    refine J_iconst C (v := -1) dR_gate_21 (by decide) ?_
    refine J_icmp_ne C 29 (nI_toInt (n := k) (by omega)) j_m1 dR_gate_22 (by decide) (fun h22 => ?_) (fun h22 => ?_)
    · refine J_aload_n C 0 dR_gate_29 rfl rfl ?_
      refine J_get C 0 0 hinR rfl rfl (by decide) fkR_10 rfl dR_gate_30 ?_
      refine J_iload_n C 1 dR_gate_33 rfl rfl ?_
      refine J_pick C (ws' := [((hT), .inr (3, [.int (nI (n)), .int (nI (2 ^ n)), .ref (a1), .ref (a2), .ref (a3), .int (nI ((gts n to).length))])), kI E (a3) (64) (F1), ((ox), .inr (4, [.ref (hT), .ref (hF), .ref (hS)])), kI E (a1) (16) (to), kI E (a2) (16) (f1)]) [1, 4, 0, 2, 3] (by decide) rfl ?_
      refine J_callV C (rest := []) [] [((hT), .inr (3, [.int (nI (n)), .int (nI (2 ^ n)), .ref (a1), .ref (a2), .ref (a3), .int (nI ((gts n to).length))])), kI E (a3) (64) (F1)] [((ox), .inr (4, [.ref (hT), .ref (hF), .ref (hS)])), kI E (a1) (16) (to), kI E (a2) (16) (f1)] 0 (c_T_ffl_t E l hT n a1 a2 a3 ((gts n to).length) F1 k (by omega) (hk)) mmT_foundFromLast msT_foundFromLast lkR_49 rfl rfl (rfl) rfl rfl ⟨by decide, by decide⟩ ⟨by decide, by decide⟩ (Nat.le_of_ble_eq_true rfl) dR_gate_34 (fun r_c w_c hp => ?_)
      obtain ⟨rfl, rfl⟩ := hp
      refine J_norm C (st' := [.int (nI (F1 (((gts n to).length) - 1 - k)))]) (ws' := [((hT), .inr (3, [.int (nI (n)), .int (nI (2 ^ n)), .ref (a1), .ref (a2), .ref (a3), .int (nI (((gts n to).length)))])), kI E (a3) (64) (F1), ((ox), .inr (4, [.ref (hT), .ref (hF), .ref (hS)])), kI E (a1) (16) (to), kI E (a2) (16) (f1)]) (cs' := 0) (ss' := 0) rfl (rfl) rfl rfl ?_
      refine J_pick C (ws' := [((ox), .inr (4, [.ref (hT), .ref (hF), .ref (hS)])), ((hT), .inr (3, [.int (nI (n)), .int (nI (2 ^ n)), .ref (a1), .ref (a2), .ref (a3), .int (nI (((gts n to).length)))])), kI E (a1) (16) (to), kI E (a2) (16) (f1), kI E (a3) (64) (F1)]) [2, 0, 3, 4, 1] (by decide) rfl ?_
      exact hret _ _ _ _ _ _ dR_gate_37 (by decide) (by decide) (⟨f1, F1, by rw [hF1 _ (by omega)], rfl⟩)
    · exfalso; omega
  · exfalso; omega
set_option maxHeartbeats 4000000 in
set_option maxRecDepth 100000 in
theorem c_R_gate_x (E : jE) (l : Launch) (ox : Nat) (hT : Nat) (hF : Nat) (hS : Nat) (n : Nat) (a1 : Nat) (a2 : Nat) (a3 : Nat) (fc : Nat) (to : Nat → Nat) (rs : Nat → Nat) (fd : Nat → Nat) (x : Int32) (hn1 : 1 ≤ n) (hn4 : n ≤ 4) (ht : ∀ v, v < 2 ^ n → to v < 2 ^ n) (hq : sn to (2 ^ n) = 2 ^ 2 ^ n - 1) (hx : x.toInt < -1 ∨ ((gts n to).length : Int) ≤ x.toInt) : Con E l yR_gate bR_gate 3 (some .int) { frames := 4, cells := 0, slots := 0, locals := 89 } [.ref (ox), .int (x)] [((ox), .inr (4, [.ref (hT), .ref (hF), .ref (hS)])), ((hT), .inr (3, [.int (nI (n)), .int (nI (2 ^ n)), .ref (a1), .ref (a2), .ref (a3), .int (nI (fc))])), kI E (a1) (16) (to), kI E (a2) (16) (rs), kI E (a3) (64) (fd)] (fun r w => ∃ f1 F1 : Nat → Nat, r = some (.int (-1)) ∧ w = [((ox), .inr (4, [.ref (hT), .ref (hF), .ref (hS)])), ((hT), .inr (3, [.int (nI (n)), .int (nI (2 ^ n)), .ref (a1), .ref (a2), .ref (a3), .int (nI ((gts n to).length))])), kI E (a1) (16) (to), kI E (a2) (16) (f1), kI E (a3) (64) (F1)]) := by
  refine Con.ofI (by decide) (Nat.le_of_ble_eq_true rfl) ?_
  intro J C hret
  show J 0 [(0, .ref (ox)), (1, .int (x))] [] [((ox), .inr (4, [.ref (hT), .ref (hF), .ref (hS)])), ((hT), .inr (3, [.int (nI (n)), .int (nI (2 ^ n)), .ref (a1), .ref (a2), .ref (a3), .int (nI (fc))])), kI E (a1) (16) (to), kI E (a2) (16) (rs), kI E (a3) (64) (fd)] 0 0
  have hp16 := p16 hn4
  have hp1 := p1 n
  have gl := gts_len hn4 to
  refine J_aload_n C 0 dR_gate_0 rfl rfl ?_
  refine J_get C 0 0 hinR rfl rfl (by decide) fkR_10 rfl dR_gate_1 ?_
  refine J_pick C (ws' := [((hT), .inr (3, [.int (nI (n)), .int (nI (2 ^ n)), .ref (a1), .ref (a2), .ref (a3), .int (nI (fc))])), kI E (a1) (16) (to), ((ox), .inr (4, [.ref (hT), .ref (hF), .ref (hS)])), kI E (a2) (16) (rs), kI E (a3) (64) (fd)]) [1, 2, 0, 3, 4] (by decide) rfl ?_
  refine J_callV C (rest := []) [] [((hT), .inr (3, [.int (nI (n)), .int (nI (2 ^ n)), .ref (a1), .ref (a2), .ref (a3), .int (nI (fc))])), kI E (a1) (16) (to)] [((ox), .inr (4, [.ref (hT), .ref (hF), .ref (hS)])), kI E (a2) (16) (rs), kI E (a3) (64) (fd)] 0 (c_T_isPerm_t E l hT n a1 a2 a3 fc to (by omega) (by omega) (by assumption) (by assumption)) mmT_isPermutation msT_isPermutation lkR_41 rfl rfl (rfl) rfl rfl ⟨by decide, by decide⟩ ⟨by decide, by decide⟩ (Nat.le_of_ble_eq_true rfl) dR_gate_4 (fun r_c w_c hp => ?_)
  obtain ⟨rfl, rfl⟩ := hp
  refine J_norm C (st' := [.int (nI (1))]) (ws' := [((hT), .inr (3, [.int (nI (n)), .int (nI (2 ^ n)), .ref (a1), .ref (a2), .ref (a3), .int (nI (fc))])), kI E (a1) (16) (to), ((ox), .inr (4, [.ref (hT), .ref (hF), .ref (hS)])), kI E (a2) (16) (rs), kI E (a3) (64) (fd)]) (cs' := 0) (ss' := 0) rfl (rfl) rfl rfl ?_
  refine J_pick C (ws' := [((ox), .inr (4, [.ref (hT), .ref (hF), .ref (hS)])), ((hT), .inr (3, [.int (nI (n)), .int (nI (2 ^ n)), .ref (a1), .ref (a2), .ref (a3), .int (nI (fc))])), kI E (a1) (16) (to), kI E (a2) (16) (rs), kI E (a3) (64) (fd)]) [2, 0, 1, 3, 4] (by decide) rfl ?_
  refine J_if_ne C 12 (nI_toInt (n := 1) (by decide)) dR_gate_7 (by decide) (fun h7 => ?_) (fun h7 => ?_)
  · refine J_aload_n C 0 dR_gate_12 rfl rfl ?_
    refine J_get C 0 0 hinR rfl rfl (by decide) fkR_10 rfl dR_gate_13 ?_
    refine J_pick C (ws' := [((hT), .inr (3, [.int (nI (n)), .int (nI (2 ^ n)), .ref (a1), .ref (a2), .ref (a3), .int (nI (fc))])), kI E (a1) (16) (to), kI E (a2) (16) (rs), kI E (a3) (64) (fd), ((ox), .inr (4, [.ref (hT), .ref (hF), .ref (hS)]))]) [1, 2, 3, 4, 0] (by decide) rfl ?_
    refine J_callV C (rest := []) [] [((hT), .inr (3, [.int (nI (n)), .int (nI (2 ^ n)), .ref (a1), .ref (a2), .ref (a3), .int (nI (fc))])), kI E (a1) (16) (to), kI E (a2) (16) (rs), kI E (a3) (64) (fd)] [((ox), .inr (4, [.ref (hT), .ref (hF), .ref (hS)]))] 0 (c_T_findGates E l hT n a1 a2 a3 fc to rs fd (by omega) (by omega) (by assumption)) mmT_findGates msT_findGates lkR_45 rfl rfl (rfl) rfl rfl ⟨by decide, by decide⟩ ⟨by decide, by decide⟩ (Nat.le_of_ble_eq_true rfl) dR_gate_16 (fun r_c w_c hp => ?_)
    obtain ⟨f1, F1, rfl, hF1, rfl⟩ := hp
    refine J_norm C (st' := [.int (nI ((gts n to).length))]) (ws' := [((hT), .inr (3, [.int (nI (n)), .int (nI (2 ^ n)), .ref (a1), .ref (a2), .ref (a3), .int (nI ((gts n to).length))])), kI E (a1) (16) (to), kI E (a2) (16) (f1), kI E (a3) (64) (F1), ((ox), .inr (4, [.ref (hT), .ref (hF), .ref (hS)]))]) (cs' := 0) (ss' := 0) rfl (rfl) rfl rfl ?_
    refine J_pick C (ws' := [((ox), .inr (4, [.ref (hT), .ref (hF), .ref (hS)])), ((hT), .inr (3, [.int (nI (n)), .int (nI (2 ^ n)), .ref (a1), .ref (a2), .ref (a3), .int (nI ((gts n to).length))])), kI E (a1) (16) (to), kI E (a2) (16) (f1), kI E (a3) (64) (F1)]) [4, 0, 1, 2, 3] (by decide) rfl ?_
    refine J_istore_n C (lv' := [(0, .ref (ox)), (1, .int (x)), (2, .int (nI ((gts n to).length)))]) [1, 2, 0] dR_gate_19 rfl (by decide) rfl ?_
    refine J_iload_n C 1 dR_gate_20 rfl rfl ?_
    refine J_iconst C (v := -1) dR_gate_21 (by decide) ?_
    refine J_icmp_ne C 29 rfl j_m1 dR_gate_22 (by decide) (fun h22 => ?_) (fun h22 => ?_)
    · refine J_aload_n C 0 dR_gate_29 rfl rfl ?_
      refine J_get C 0 0 hinR rfl rfl (by decide) fkR_10 rfl dR_gate_30 ?_
      refine J_iload_n C 1 dR_gate_33 rfl rfl ?_
      refine J_pick C (ws' := [((hT), .inr (3, [.int (nI (n)), .int (nI (2 ^ n)), .ref (a1), .ref (a2), .ref (a3), .int (nI ((gts n to).length))])), kI E (a3) (64) (F1), ((ox), .inr (4, [.ref (hT), .ref (hF), .ref (hS)])), kI E (a1) (16) (to), kI E (a2) (16) (f1)]) [1, 4, 0, 2, 3] (by decide) rfl ?_
      refine J_callV C (rest := []) [] [((hT), .inr (3, [.int (nI (n)), .int (nI (2 ^ n)), .ref (a1), .ref (a2), .ref (a3), .int (nI ((gts n to).length))])), kI E (a3) (64) (F1)] [((ox), .inr (4, [.ref (hT), .ref (hF), .ref (hS)])), kI E (a1) (16) (to), kI E (a2) (16) (f1)] 0 (c_T_ffl_f E l hT n a1 a2 a3 ((gts n to).length) F1 x (by omega) (by omega)) mmT_foundFromLast msT_foundFromLast lkR_49 rfl rfl (rfl) rfl rfl ⟨by decide, by decide⟩ ⟨by decide, by decide⟩ (Nat.le_of_ble_eq_true rfl) dR_gate_34 (fun r_c w_c hp => ?_)
      obtain ⟨rfl, rfl⟩ := hp
      refine J_norm C (st' := [.int (-1)]) (ws' := [((hT), .inr (3, [.int (nI (n)), .int (nI (2 ^ n)), .ref (a1), .ref (a2), .ref (a3), .int (nI (((gts n to).length)))])), kI E (a3) (64) (F1), ((ox), .inr (4, [.ref (hT), .ref (hF), .ref (hS)])), kI E (a1) (16) (to), kI E (a2) (16) (f1)]) (cs' := 0) (ss' := 0) rfl (rfl) rfl rfl ?_
      refine J_pick C (ws' := [((ox), .inr (4, [.ref (hT), .ref (hF), .ref (hS)])), ((hT), .inr (3, [.int (nI (n)), .int (nI (2 ^ n)), .ref (a1), .ref (a2), .ref (a3), .int (nI (((gts n to).length)))])), kI E (a1) (16) (to), kI E (a2) (16) (f1), kI E (a3) (64) (F1)]) [2, 0, 3, 4, 1] (by decide) rfl ?_
      exact hret _ _ _ _ _ _ dR_gate_37 (by decide) (by decide) (⟨f1, F1, rfl, rfl⟩)
    · exfalso; omega
  · exfalso; omega
set_option maxHeartbeats 4000000 in
set_option maxRecDepth 100000 in
theorem c_R_form_f (E : jE) (l : Launch) (ox : Nat) (hT : Nat) (hF : Nat) (hS : Nat) (n : Nat) (a1 : Nat) (a2 : Nat) (a3 : Nat) (fc : Nat) (x : Int32) (z : Int32) (hn1 : 1 ≤ n) (hn4 : n ≤ 4) (hx : x.toInt < 0 ∨ ((2 ^ 2 ^ n : Nat) : Int) ≤ x.toInt) : Con E l yR_form bR_form 6 (some .int) { frames := 1, cells := 0, slots := 0, locals := 20 } [.ref (ox), .int (x), .int (z)] [((ox), .inr (4, [.ref (hT), .ref (hF), .ref (hS)])), ((hT), .inr (3, [.int (nI (n)), .int (nI (2 ^ n)), .ref (a1), .ref (a2), .ref (a3), .int (nI (fc))]))] (fun r w => r = some (.int (-1)) ∧ w = [((ox), .inr (4, [.ref (hT), .ref (hF), .ref (hS)])), ((hT), .inr (3, [.int (nI (n)), .int (nI (2 ^ n)), .ref (a1), .ref (a2), .ref (a3), .int (nI (fc))]))]) := by
  refine Con.ofI (by decide) (Nat.le_of_ble_eq_true rfl) ?_
  intro J C hret
  show J 0 [(0, .ref (ox)), (1, .int (x)), (2, .int (z))] [] [((ox), .inr (4, [.ref (hT), .ref (hF), .ref (hS)])), ((hT), .inr (3, [.int (nI (n)), .int (nI (2 ^ n)), .ref (a1), .ref (a2), .ref (a3), .int (nI (fc))]))] 0 0
  have hp16 := p16 hn4
  have hp1 := p1 n
  have hFx := p65 hn4
  have hF0 := p1 (2 ^ n)
  refine J_aload_n C 0 dR_form_0 rfl rfl ?_
  refine J_get C 0 0 hinR rfl rfl (by decide) fkR_10 rfl dR_form_1 ?_
  refine J_pick C (ws' := [((hT), .inr (3, [.int (nI (n)), .int (nI (2 ^ n)), .ref (a1), .ref (a2), .ref (a3), .int (nI (fc))])), ((ox), .inr (4, [.ref (hT), .ref (hF), .ref (hS)]))]) [1, 0] (by decide) rfl ?_
  refine J_callV C (rest := []) [] [((hT), .inr (3, [.int (nI (n)), .int (nI (2 ^ n)), .ref (a1), .ref (a2), .ref (a3), .int (nI (fc))]))] [((ox), .inr (4, [.ref (hT), .ref (hF), .ref (hS)]))] 0 (c_T_bitCount E l hT n a1 a2 a3 fc) mmT_bitCount msT_bitCount lkR_56 rfl rfl (rfl) rfl rfl ⟨by decide, by decide⟩ ⟨by decide, by decide⟩ (Nat.le_of_ble_eq_true rfl) dR_form_4 (fun r_c w_c hp => ?_)
  obtain ⟨rfl, rfl⟩ := hp
  refine J_norm C (st' := [.int (nI (n))]) (ws' := [((hT), .inr (3, [.int (nI (n)), .int (nI (2 ^ n)), .ref (a1), .ref (a2), .ref (a3), .int (nI (fc))])), ((ox), .inr (4, [.ref (hT), .ref (hF), .ref (hS)]))]) (cs' := 0) (ss' := 0) rfl (rfl) rfl rfl ?_
  refine J_pick C (ws' := [((ox), .inr (4, [.ref (hT), .ref (hF), .ref (hS)])), ((hT), .inr (3, [.int (nI (n)), .int (nI (2 ^ n)), .ref (a1), .ref (a2), .ref (a3), .int (nI (fc))]))]) [1, 0] (by decide) rfl ?_
  refine J_istore_n C (lv' := [(0, .ref (ox)), (1, .int (x)), (2, .int (z)), (3, .int (nI (n)))]) [1, 2, 3, 0] dR_form_7 rfl (by decide) rfl ?_
  refine J_iload_n C 1 dR_form_8 rfl rfl ?_
  refine J_if_lt C 21 rfl dR_form_9 (by decide) (fun h9 => ?_) (fun h9 => ?_)
  · refine J_iconst C (v := -1) dR_form_21 (by decide) ?_
    exact hret _ _ _ _ _ _ dR_form_22 (by decide) (by decide) (⟨rfl, rfl⟩)
  · refine J_iload_n C 1 dR_form_12 rfl rfl ?_
    refine J_iconst C (v := nI (1)) dR_form_13 (by decide) ?_
    refine J_iconst C (v := nI (1)) dR_form_14 (by decide) ?_
    refine J_iload_n C 3 dR_form_15 rfl rfl ?_
    refine J_ishl1 C dR_form_16 (by omega) ?_
    refine J_ishl1 C dR_form_17 (by omega) ?_
    refine J_icmp_lt C 23 rfl (nI_toInt (n := 2 ^ (2 ^ n)) (by omega)) dR_form_18 (by decide) (fun h18 => ?_) (fun h18 => ?_)
    · exfalso; omega
    · refine J_iconst C (v := -1) dR_form_21 (by decide) ?_
      exact hret _ _ _ _ _ _ dR_form_22 (by decide) (by decide) (⟨rfl, rfl⟩)
set_option maxHeartbeats 4000000 in
set_option maxRecDepth 100000 in
theorem c_R_form_m (E : jE) (l : Launch) (ox : Nat) (hT : Nat) (hF : Nat) (hS : Nat) (n : Nat) (a1 : Nat) (a2 : Nat) (a3 : Nat) (fc : Nat) (fb : Nat) (u0 : Nat) (rw : Nat → Int64) (f : Nat) (hn1 : 1 ≤ n) (hn4 : n ≤ 4) (hfn : f < 2 ^ 2 ^ n) (hu0 : u0 ≤ 3) (hr : fRow (u0 + 1) rw) : Con E l yR_form bR_form 6 (some .int) { frames := 5, cells := 0, slots := 0, locals := 136 } [.ref (ox), .int (nI (f)), .int (-1)] [((ox), .inr (4, [.ref (hT), .ref (hF), .ref (hS)])), ((hT), .inr (3, [.int (nI (n)), .int (nI (2 ^ n)), .ref (a1), .ref (a2), .ref (a3), .int (nI (fc))])), ((hF), .inr (0, [.ref (fb), .int (nI (u0 + 1))])), kL E (fb) (278) (rw)] (fun r w => ∃ (u1 : Nat) (rw1 : Nat → Int64), r = some (.int (nI (pF n f).length)) ∧ u1 ≤ 3 ∧ fRow (u1 + 1) rw1 ∧ w = [((ox), .inr (4, [.ref (hT), .ref (hF), .ref (hS)])), ((hT), .inr (3, [.int (nI (n)), .int (nI (2 ^ n)), .ref (a1), .ref (a2), .ref (a3), .int (nI (fc))])), ((hF), .inr (0, [.ref (fb), .int (nI (u1 + 1))])), kL E (fb) (278) (rw1)]) := by
  refine Con.ofI (by decide) (Nat.le_of_ble_eq_true rfl) ?_
  intro J C hret
  show J 0 [(0, .ref (ox)), (1, .int (nI (f))), (2, .int (-1))] [] [((ox), .inr (4, [.ref (hT), .ref (hF), .ref (hS)])), ((hT), .inr (3, [.int (nI (n)), .int (nI (2 ^ n)), .ref (a1), .ref (a2), .ref (a3), .int (nI (fc))])), ((hF), .inr (0, [.ref (fb), .int (nI (u0 + 1))])), kL E (fb) (278) (rw)] 0 0
  have hp16 := p16 hn4
  have hp1 := p1 n
  have hFx := p65 hn4
  have hF0 := p1 (2 ^ n)
  have l6 := pF_6 hn4 hfn
  have l128 := pF_128 hn4 hfn
  obtain ⟨k0, rfl⟩ : ∃ k0, n = k0 + 1 := ⟨n - 1, by omega⟩
  refine J_aload_n C 0 dR_form_0 rfl rfl ?_
  refine J_get C 0 0 hinR rfl rfl (by decide) fkR_10 rfl dR_form_1 ?_
  refine J_pick C (ws' := [((hT), .inr (3, [.int (nI ((k0 + 1))), .int (nI (2 ^ (k0 + 1))), .ref (a1), .ref (a2), .ref (a3), .int (nI (fc))])), ((ox), .inr (4, [.ref (hT), .ref (hF), .ref (hS)])), ((hF), .inr (0, [.ref (fb), .int (nI (u0 + 1))])), kL E (fb) (278) (rw)]) [1, 0, 2, 3] (by decide) rfl ?_
  refine J_callV C (rest := []) [] [((hT), .inr (3, [.int (nI ((k0 + 1))), .int (nI (2 ^ (k0 + 1))), .ref (a1), .ref (a2), .ref (a3), .int (nI (fc))]))] [((ox), .inr (4, [.ref (hT), .ref (hF), .ref (hS)])), ((hF), .inr (0, [.ref (fb), .int (nI (u0 + 1))])), kL E (fb) (278) (rw)] 0 (c_T_bitCount E l hT (k0 + 1) a1 a2 a3 fc) mmT_bitCount msT_bitCount lkR_56 rfl rfl (rfl) rfl rfl ⟨by decide, by decide⟩ ⟨by decide, by decide⟩ (Nat.le_of_ble_eq_true rfl) dR_form_4 (fun r_c w_c hp => ?_)
  obtain ⟨rfl, rfl⟩ := hp
  refine J_norm C (st' := [.int (nI ((k0 + 1)))]) (ws' := [((hT), .inr (3, [.int (nI ((k0 + 1))), .int (nI (2 ^ (k0 + 1))), .ref (a1), .ref (a2), .ref (a3), .int (nI (fc))])), ((ox), .inr (4, [.ref (hT), .ref (hF), .ref (hS)])), ((hF), .inr (0, [.ref (fb), .int (nI (u0 + 1))])), kL E (fb) (278) (rw)]) (cs' := 0) (ss' := 0) rfl (rfl) rfl rfl ?_
  refine J_pick C (ws' := [((ox), .inr (4, [.ref (hT), .ref (hF), .ref (hS)])), ((hT), .inr (3, [.int (nI ((k0 + 1))), .int (nI (2 ^ (k0 + 1))), .ref (a1), .ref (a2), .ref (a3), .int (nI (fc))])), ((hF), .inr (0, [.ref (fb), .int (nI (u0 + 1))])), kL E (fb) (278) (rw)]) [1, 0, 2, 3] (by decide) rfl ?_
  refine J_istore_n C (lv' := [(0, .ref (ox)), (1, .int (nI (f))), (2, .int (-1)), (3, .int (nI ((k0 + 1))))]) [1, 2, 3, 0] dR_form_7 rfl (by decide) rfl ?_
  refine J_iload_n C 1 dR_form_8 rfl rfl ?_
  refine J_if_lt C 21 (nI_toInt (n := f) (by omega)) dR_form_9 (by decide) (fun h9 => ?_) (fun h9 => ?_)
  · exfalso; omega
  · refine J_iload_n C 1 dR_form_12 rfl rfl ?_
    refine J_iconst C (v := nI (1)) dR_form_13 (by decide) ?_
    refine J_iconst C (v := nI (1)) dR_form_14 (by decide) ?_
    refine J_iload_n C 3 dR_form_15 rfl rfl ?_
    refine J_ishl1 C dR_form_16 (by omega) ?_
    refine J_ishl1 C dR_form_17 (by omega) ?_
    refine J_icmp_lt C 23 (nI_toInt (n := f) (by omega)) (nI_toInt (n := 2 ^ (2 ^ (k0 + 1))) (by omega)) dR_form_18 (by decide) (fun h18 => ?_) (fun h18 => ?_)
    · refine J_aload_n C 0 dR_form_23 rfl rfl ?_
      refine J_get C 0 1 hinR rfl rfl (by decide) fkR_19 rfl dR_form_24 ?_
      refine J_iload_n C 3 dR_form_27 rfl rfl ?_
      refine J_iload_n C 1 dR_form_28 rfl rfl ?_
      refine J_pick C (ws' := [((hF), .inr (0, [.ref (fb), .int (nI (u0 + 1))])), kL E (fb) (278) (rw), ((ox), .inr (4, [.ref (hT), .ref (hF), .ref (hS)])), ((hT), .inr (3, [.int (nI ((k0 + 1))), .int (nI (2 ^ (k0 + 1))), .ref (a1), .ref (a2), .ref (a3), .int (nI (fc))]))]) [2, 3, 0, 1] (by decide) rfl ?_
      refine J_callV C (rest := []) [] [((hF), .inr (0, [.ref (fb), .int (nI (u0 + 1))])), kL E (fb) (278) (rw)] [((ox), .inr (4, [.ref (hT), .ref (hF), .ref (hS)])), ((hT), .inr (3, [.int (nI ((k0 + 1))), .int (nI (2 ^ (k0 + 1))), .ref (a1), .ref (a2), .ref (a3), .int (nI (fc))]))] 0 (c_F_least E l hF fb rw u0 k0 f (by omega) (by omega) (hfn) (hr)) mmF_least msF_least lkR_59 rfl rfl (rfl) rfl rfl ⟨by decide, by decide⟩ ⟨by decide, by decide⟩ (Nat.le_of_ble_eq_true rfl) dR_form_29 (fun r_c w_c hp => ?_)
      obtain ⟨u1, rw1, rfl, hu1, hrw1, rfl⟩ := hp
      refine J_norm C (st' := [.long (lN (fcode (pF (k0 + 1) f)))]) (ws' := [((hF), .inr (0, [.ref (fb), .int (nI (u1 + 1))])), kL E (fb) (278) (rw1), ((ox), .inr (4, [.ref (hT), .ref (hF), .ref (hS)])), ((hT), .inr (3, [.int (nI ((k0 + 1))), .int (nI (2 ^ (k0 + 1))), .ref (a1), .ref (a2), .ref (a3), .int (nI (fc))]))]) (cs' := 0) (ss' := 0) rfl (rfl) rfl rfl ?_
      refine J_pick C (ws' := [((ox), .inr (4, [.ref (hT), .ref (hF), .ref (hS)])), ((hT), .inr (3, [.int (nI ((k0 + 1))), .int (nI (2 ^ (k0 + 1))), .ref (a1), .ref (a2), .ref (a3), .int (nI (fc))])), ((hF), .inr (0, [.ref (fb), .int (nI (u1 + 1))])), kL E (fb) (278) (rw1)]) [2, 3, 0, 1] (by decide) rfl ?_
      refine J_lstore C (lv' := [(0, .ref (ox)), (1, .int (nI (f))), (2, .int (-1)), (3, .int (nI ((k0 + 1)))), (4, .long (lN (fcode (pF (k0 + 1) f))))]) [1, 2, 3, 4, 0] dR_form_32 (by decide) rfl ?_
      refine J_iload_n C 2 dR_form_34 rfl rfl ?_
      refine J_iconst C (v := -1) dR_form_35 (by decide) ?_
      refine J_icmp_ne C 47 j_m1 j_m1 dR_form_36 (by decide) (fun h36 => ?_) (fun h36 => ?_)
      · exfalso; omega
      · refine J_lload C 4 dR_form_39 rfl ?_
        refine J_callS C (rest := []) [] [] [((ox), .inr (4, [.ref (hT), .ref (hF), .ref (hS)])), ((hT), .inr (3, [.int (nI ((k0 + 1))), .int (nI (2 ^ (k0 + 1))), .ref (a1), .ref (a2), .ref (a3), .int (nI (fc))])), ((hF), .inr (0, [.ref (fb), .int (nI (u1 + 1))])), kL E (fb) (278) (rw1)] (c_F_sizeOf E l (fcode (pF (k0 + 1) f)) (by have := fcode_lt l6 l128; omega)) mmF_sizeOf lkR_63 (rfl) rfl rfl ⟨by decide, by decide⟩ ⟨by decide, by decide⟩ (Nat.le_of_ble_eq_true rfl) dR_form_41 (fun r_c w_c hp => ?_)
        obtain ⟨rfl, rfl⟩ := hp
        refine J_norm C (st' := [.int (nI ((fcode (pF (k0 + 1) f)) / 2 ^ 48))]) (ws' := [((ox), .inr (4, [.ref (hT), .ref (hF), .ref (hS)])), ((hT), .inr (3, [.int (nI ((k0 + 1))), .int (nI (2 ^ (k0 + 1))), .ref (a1), .ref (a2), .ref (a3), .int (nI (fc))])), ((hF), .inr (0, [.ref (fb), .int (nI (u1 + 1))])), kL E (fb) (278) (rw1)]) (cs' := 0) (ss' := 0) rfl (rfl) rfl rfl ?_
        refine J_topN C (n' := (pF (k0 + 1) f).length) (fcode_size l6 l128) ?_
        refine J_goto C 53 dR_form_44 (by decide) ?_
        exact hret _ _ _ _ _ _ dR_form_53 (by decide) (by decide) (⟨u1, rw1, rfl, hu1, hrw1, rfl⟩)
    · exfalso; omega
set_option maxHeartbeats 4000000 in
set_option maxRecDepth 100000 in
theorem c_R_form_k (E : jE) (l : Launch) (ox : Nat) (hT : Nat) (hF : Nat) (hS : Nat) (n : Nat) (a1 : Nat) (a2 : Nat) (a3 : Nat) (fc : Nat) (fb : Nat) (u0 : Nat) (rw : Nat → Int64) (f : Nat) (k : Nat) (hn1 : 1 ≤ n) (hn4 : n ≤ 4) (hfn : f < 2 ^ 2 ^ n) (hu0 : u0 ≤ 3) (hr : fRow (u0 + 1) rw) (hk : k < (pF n f).length) : Con E l yR_form bR_form 6 (some .int) { frames := 5, cells := 0, slots := 0, locals := 136 } [.ref (ox), .int (nI (f)), .int (nI (k))] [((ox), .inr (4, [.ref (hT), .ref (hF), .ref (hS)])), ((hT), .inr (3, [.int (nI (n)), .int (nI (2 ^ n)), .ref (a1), .ref (a2), .ref (a3), .int (nI (fc))])), ((hF), .inr (0, [.ref (fb), .int (nI (u0 + 1))])), kL E (fb) (278) (rw)] (fun r w => ∃ (u1 : Nat) (rw1 : Nat → Int64), r = some (.int (nI ((pF n f).getD k 0))) ∧ u1 ≤ 3 ∧ fRow (u1 + 1) rw1 ∧ w = [((ox), .inr (4, [.ref (hT), .ref (hF), .ref (hS)])), ((hT), .inr (3, [.int (nI (n)), .int (nI (2 ^ n)), .ref (a1), .ref (a2), .ref (a3), .int (nI (fc))])), ((hF), .inr (0, [.ref (fb), .int (nI (u1 + 1))])), kL E (fb) (278) (rw1)]) := by
  refine Con.ofI (by decide) (Nat.le_of_ble_eq_true rfl) ?_
  intro J C hret
  show J 0 [(0, .ref (ox)), (1, .int (nI (f))), (2, .int (nI (k)))] [] [((ox), .inr (4, [.ref (hT), .ref (hF), .ref (hS)])), ((hT), .inr (3, [.int (nI (n)), .int (nI (2 ^ n)), .ref (a1), .ref (a2), .ref (a3), .int (nI (fc))])), ((hF), .inr (0, [.ref (fb), .int (nI (u0 + 1))])), kL E (fb) (278) (rw)] 0 0
  have hp16 := p16 hn4
  have hp1 := p1 n
  have hFx := p65 hn4
  have hF0 := p1 (2 ^ n)
  have l6 := pF_6 hn4 hfn
  have l128 := pF_128 hn4 hfn
  obtain ⟨k0, rfl⟩ : ∃ k0, n = k0 + 1 := ⟨n - 1, by omega⟩
  refine J_aload_n C 0 dR_form_0 rfl rfl ?_
  refine J_get C 0 0 hinR rfl rfl (by decide) fkR_10 rfl dR_form_1 ?_
  refine J_pick C (ws' := [((hT), .inr (3, [.int (nI ((k0 + 1))), .int (nI (2 ^ (k0 + 1))), .ref (a1), .ref (a2), .ref (a3), .int (nI (fc))])), ((ox), .inr (4, [.ref (hT), .ref (hF), .ref (hS)])), ((hF), .inr (0, [.ref (fb), .int (nI (u0 + 1))])), kL E (fb) (278) (rw)]) [1, 0, 2, 3] (by decide) rfl ?_
  refine J_callV C (rest := []) [] [((hT), .inr (3, [.int (nI ((k0 + 1))), .int (nI (2 ^ (k0 + 1))), .ref (a1), .ref (a2), .ref (a3), .int (nI (fc))]))] [((ox), .inr (4, [.ref (hT), .ref (hF), .ref (hS)])), ((hF), .inr (0, [.ref (fb), .int (nI (u0 + 1))])), kL E (fb) (278) (rw)] 0 (c_T_bitCount E l hT (k0 + 1) a1 a2 a3 fc) mmT_bitCount msT_bitCount lkR_56 rfl rfl (rfl) rfl rfl ⟨by decide, by decide⟩ ⟨by decide, by decide⟩ (Nat.le_of_ble_eq_true rfl) dR_form_4 (fun r_c w_c hp => ?_)
  obtain ⟨rfl, rfl⟩ := hp
  refine J_norm C (st' := [.int (nI ((k0 + 1)))]) (ws' := [((hT), .inr (3, [.int (nI ((k0 + 1))), .int (nI (2 ^ (k0 + 1))), .ref (a1), .ref (a2), .ref (a3), .int (nI (fc))])), ((ox), .inr (4, [.ref (hT), .ref (hF), .ref (hS)])), ((hF), .inr (0, [.ref (fb), .int (nI (u0 + 1))])), kL E (fb) (278) (rw)]) (cs' := 0) (ss' := 0) rfl (rfl) rfl rfl ?_
  refine J_pick C (ws' := [((ox), .inr (4, [.ref (hT), .ref (hF), .ref (hS)])), ((hT), .inr (3, [.int (nI ((k0 + 1))), .int (nI (2 ^ (k0 + 1))), .ref (a1), .ref (a2), .ref (a3), .int (nI (fc))])), ((hF), .inr (0, [.ref (fb), .int (nI (u0 + 1))])), kL E (fb) (278) (rw)]) [1, 0, 2, 3] (by decide) rfl ?_
  refine J_istore_n C (lv' := [(0, .ref (ox)), (1, .int (nI (f))), (2, .int (nI (k))), (3, .int (nI ((k0 + 1))))]) [1, 2, 3, 0] dR_form_7 rfl (by decide) rfl ?_
  refine J_iload_n C 1 dR_form_8 rfl rfl ?_
  refine J_if_lt C 21 (nI_toInt (n := f) (by omega)) dR_form_9 (by decide) (fun h9 => ?_) (fun h9 => ?_)
  · exfalso; omega
  · refine J_iload_n C 1 dR_form_12 rfl rfl ?_
    refine J_iconst C (v := nI (1)) dR_form_13 (by decide) ?_
    refine J_iconst C (v := nI (1)) dR_form_14 (by decide) ?_
    refine J_iload_n C 3 dR_form_15 rfl rfl ?_
    refine J_ishl1 C dR_form_16 (by omega) ?_
    refine J_ishl1 C dR_form_17 (by omega) ?_
    refine J_icmp_lt C 23 (nI_toInt (n := f) (by omega)) (nI_toInt (n := 2 ^ (2 ^ (k0 + 1))) (by omega)) dR_form_18 (by decide) (fun h18 => ?_) (fun h18 => ?_)
    · refine J_aload_n C 0 dR_form_23 rfl rfl ?_
      refine J_get C 0 1 hinR rfl rfl (by decide) fkR_19 rfl dR_form_24 ?_
      refine J_iload_n C 3 dR_form_27 rfl rfl ?_
      refine J_iload_n C 1 dR_form_28 rfl rfl ?_
      refine J_pick C (ws' := [((hF), .inr (0, [.ref (fb), .int (nI (u0 + 1))])), kL E (fb) (278) (rw), ((ox), .inr (4, [.ref (hT), .ref (hF), .ref (hS)])), ((hT), .inr (3, [.int (nI ((k0 + 1))), .int (nI (2 ^ (k0 + 1))), .ref (a1), .ref (a2), .ref (a3), .int (nI (fc))]))]) [2, 3, 0, 1] (by decide) rfl ?_
      refine J_callV C (rest := []) [] [((hF), .inr (0, [.ref (fb), .int (nI (u0 + 1))])), kL E (fb) (278) (rw)] [((ox), .inr (4, [.ref (hT), .ref (hF), .ref (hS)])), ((hT), .inr (3, [.int (nI ((k0 + 1))), .int (nI (2 ^ (k0 + 1))), .ref (a1), .ref (a2), .ref (a3), .int (nI (fc))]))] 0 (c_F_least E l hF fb rw u0 k0 f (by omega) (by omega) (hfn) (hr)) mmF_least msF_least lkR_59 rfl rfl (rfl) rfl rfl ⟨by decide, by decide⟩ ⟨by decide, by decide⟩ (Nat.le_of_ble_eq_true rfl) dR_form_29 (fun r_c w_c hp => ?_)
      obtain ⟨u1, rw1, rfl, hu1, hrw1, rfl⟩ := hp
      refine J_norm C (st' := [.long (lN (fcode (pF (k0 + 1) f)))]) (ws' := [((hF), .inr (0, [.ref (fb), .int (nI (u1 + 1))])), kL E (fb) (278) (rw1), ((ox), .inr (4, [.ref (hT), .ref (hF), .ref (hS)])), ((hT), .inr (3, [.int (nI ((k0 + 1))), .int (nI (2 ^ (k0 + 1))), .ref (a1), .ref (a2), .ref (a3), .int (nI (fc))]))]) (cs' := 0) (ss' := 0) rfl (rfl) rfl rfl ?_
      refine J_pick C (ws' := [((ox), .inr (4, [.ref (hT), .ref (hF), .ref (hS)])), ((hT), .inr (3, [.int (nI ((k0 + 1))), .int (nI (2 ^ (k0 + 1))), .ref (a1), .ref (a2), .ref (a3), .int (nI (fc))])), ((hF), .inr (0, [.ref (fb), .int (nI (u1 + 1))])), kL E (fb) (278) (rw1)]) [2, 3, 0, 1] (by decide) rfl ?_
      refine J_lstore C (lv' := [(0, .ref (ox)), (1, .int (nI (f))), (2, .int (nI (k))), (3, .int (nI ((k0 + 1)))), (4, .long (lN (fcode (pF (k0 + 1) f))))]) [1, 2, 3, 4, 0] dR_form_32 (by decide) rfl ?_
      refine J_iload_n C 2 dR_form_34 rfl rfl ?_
      refine J_iconst C (v := -1) dR_form_35 (by decide) ?_
      refine J_icmp_ne C 47 (nI_toInt (n := k) (by omega)) j_m1 dR_form_36 (by decide) (fun h36 => ?_) (fun h36 => ?_)
      · refine J_lload C 4 dR_form_47 rfl ?_
        refine J_iload_n C 2 dR_form_49 rfl rfl ?_
        refine J_callS C (rest := []) [] [] [((ox), .inr (4, [.ref (hT), .ref (hF), .ref (hS)])), ((hT), .inr (3, [.int (nI ((k0 + 1))), .int (nI (2 ^ (k0 + 1))), .ref (a1), .ref (a2), .ref (a3), .int (nI (fc))])), ((hF), .inr (0, [.ref (fb), .int (nI (u1 + 1))])), kL E (fb) (278) (rw1)] (c_F_numberAt_t E l (pF (k0 + 1) f) k (l6) (l128) (hk)) mmF_numberAt lkR_67 (rfl) rfl rfl ⟨by decide, by decide⟩ ⟨by decide, by decide⟩ (Nat.le_of_ble_eq_true rfl) dR_form_50 (fun r_c w_c hp => ?_)
        obtain ⟨rfl, rfl⟩ := hp
        refine J_norm C (st' := [.int (nI ((pF (k0 + 1) f).getD k 0))]) (ws' := [((ox), .inr (4, [.ref (hT), .ref (hF), .ref (hS)])), ((hT), .inr (3, [.int (nI ((k0 + 1))), .int (nI (2 ^ (k0 + 1))), .ref (a1), .ref (a2), .ref (a3), .int (nI (fc))])), ((hF), .inr (0, [.ref (fb), .int (nI (u1 + 1))])), kL E (fb) (278) (rw1)]) (cs' := 0) (ss' := 0) rfl (rfl) rfl rfl ?_
        exact hret _ _ _ _ _ _ dR_form_53 (by decide) (by decide) (⟨u1, rw1, rfl, hu1, hrw1, rfl⟩)
      · exfalso; omega
    · exfalso; omega
set_option maxHeartbeats 4000000 in
set_option maxRecDepth 100000 in
theorem c_R_form_x (E : jE) (l : Launch) (ox : Nat) (hT : Nat) (hF : Nat) (hS : Nat) (n : Nat) (a1 : Nat) (a2 : Nat) (a3 : Nat) (fc : Nat) (fb : Nat) (u0 : Nat) (rw : Nat → Int64) (f : Nat) (x : Int32) (hn1 : 1 ≤ n) (hn4 : n ≤ 4) (hfn : f < 2 ^ 2 ^ n) (hu0 : u0 ≤ 3) (hr : fRow (u0 + 1) rw) (hx : x.toInt < -1 ∨ ((pF n f).length : Int) ≤ x.toInt) : Con E l yR_form bR_form 6 (some .int) { frames := 5, cells := 0, slots := 0, locals := 136 } [.ref (ox), .int (nI (f)), .int (x)] [((ox), .inr (4, [.ref (hT), .ref (hF), .ref (hS)])), ((hT), .inr (3, [.int (nI (n)), .int (nI (2 ^ n)), .ref (a1), .ref (a2), .ref (a3), .int (nI (fc))])), ((hF), .inr (0, [.ref (fb), .int (nI (u0 + 1))])), kL E (fb) (278) (rw)] (fun r w => ∃ (u1 : Nat) (rw1 : Nat → Int64), r = some (.int (-1)) ∧ u1 ≤ 3 ∧ fRow (u1 + 1) rw1 ∧ w = [((ox), .inr (4, [.ref (hT), .ref (hF), .ref (hS)])), ((hT), .inr (3, [.int (nI (n)), .int (nI (2 ^ n)), .ref (a1), .ref (a2), .ref (a3), .int (nI (fc))])), ((hF), .inr (0, [.ref (fb), .int (nI (u1 + 1))])), kL E (fb) (278) (rw1)]) := by
  refine Con.ofI (by decide) (Nat.le_of_ble_eq_true rfl) ?_
  intro J C hret
  show J 0 [(0, .ref (ox)), (1, .int (nI (f))), (2, .int (x))] [] [((ox), .inr (4, [.ref (hT), .ref (hF), .ref (hS)])), ((hT), .inr (3, [.int (nI (n)), .int (nI (2 ^ n)), .ref (a1), .ref (a2), .ref (a3), .int (nI (fc))])), ((hF), .inr (0, [.ref (fb), .int (nI (u0 + 1))])), kL E (fb) (278) (rw)] 0 0
  have hp16 := p16 hn4
  have hp1 := p1 n
  have hFx := p65 hn4
  have hF0 := p1 (2 ^ n)
  have l6 := pF_6 hn4 hfn
  have l128 := pF_128 hn4 hfn
  obtain ⟨k0, rfl⟩ : ∃ k0, n = k0 + 1 := ⟨n - 1, by omega⟩
  refine J_aload_n C 0 dR_form_0 rfl rfl ?_
  refine J_get C 0 0 hinR rfl rfl (by decide) fkR_10 rfl dR_form_1 ?_
  refine J_pick C (ws' := [((hT), .inr (3, [.int (nI ((k0 + 1))), .int (nI (2 ^ (k0 + 1))), .ref (a1), .ref (a2), .ref (a3), .int (nI (fc))])), ((ox), .inr (4, [.ref (hT), .ref (hF), .ref (hS)])), ((hF), .inr (0, [.ref (fb), .int (nI (u0 + 1))])), kL E (fb) (278) (rw)]) [1, 0, 2, 3] (by decide) rfl ?_
  refine J_callV C (rest := []) [] [((hT), .inr (3, [.int (nI ((k0 + 1))), .int (nI (2 ^ (k0 + 1))), .ref (a1), .ref (a2), .ref (a3), .int (nI (fc))]))] [((ox), .inr (4, [.ref (hT), .ref (hF), .ref (hS)])), ((hF), .inr (0, [.ref (fb), .int (nI (u0 + 1))])), kL E (fb) (278) (rw)] 0 (c_T_bitCount E l hT (k0 + 1) a1 a2 a3 fc) mmT_bitCount msT_bitCount lkR_56 rfl rfl (rfl) rfl rfl ⟨by decide, by decide⟩ ⟨by decide, by decide⟩ (Nat.le_of_ble_eq_true rfl) dR_form_4 (fun r_c w_c hp => ?_)
  obtain ⟨rfl, rfl⟩ := hp
  refine J_norm C (st' := [.int (nI ((k0 + 1)))]) (ws' := [((hT), .inr (3, [.int (nI ((k0 + 1))), .int (nI (2 ^ (k0 + 1))), .ref (a1), .ref (a2), .ref (a3), .int (nI (fc))])), ((ox), .inr (4, [.ref (hT), .ref (hF), .ref (hS)])), ((hF), .inr (0, [.ref (fb), .int (nI (u0 + 1))])), kL E (fb) (278) (rw)]) (cs' := 0) (ss' := 0) rfl (rfl) rfl rfl ?_
  refine J_pick C (ws' := [((ox), .inr (4, [.ref (hT), .ref (hF), .ref (hS)])), ((hT), .inr (3, [.int (nI ((k0 + 1))), .int (nI (2 ^ (k0 + 1))), .ref (a1), .ref (a2), .ref (a3), .int (nI (fc))])), ((hF), .inr (0, [.ref (fb), .int (nI (u0 + 1))])), kL E (fb) (278) (rw)]) [1, 0, 2, 3] (by decide) rfl ?_
  refine J_istore_n C (lv' := [(0, .ref (ox)), (1, .int (nI (f))), (2, .int (x)), (3, .int (nI ((k0 + 1))))]) [1, 2, 3, 0] dR_form_7 rfl (by decide) rfl ?_
  refine J_iload_n C 1 dR_form_8 rfl rfl ?_
  refine J_if_lt C 21 (nI_toInt (n := f) (by omega)) dR_form_9 (by decide) (fun h9 => ?_) (fun h9 => ?_)
  · exfalso; omega
  · refine J_iload_n C 1 dR_form_12 rfl rfl ?_
    refine J_iconst C (v := nI (1)) dR_form_13 (by decide) ?_
    refine J_iconst C (v := nI (1)) dR_form_14 (by decide) ?_
    refine J_iload_n C 3 dR_form_15 rfl rfl ?_
    refine J_ishl1 C dR_form_16 (by omega) ?_
    refine J_ishl1 C dR_form_17 (by omega) ?_
    refine J_icmp_lt C 23 (nI_toInt (n := f) (by omega)) (nI_toInt (n := 2 ^ (2 ^ (k0 + 1))) (by omega)) dR_form_18 (by decide) (fun h18 => ?_) (fun h18 => ?_)
    · refine J_aload_n C 0 dR_form_23 rfl rfl ?_
      refine J_get C 0 1 hinR rfl rfl (by decide) fkR_19 rfl dR_form_24 ?_
      refine J_iload_n C 3 dR_form_27 rfl rfl ?_
      refine J_iload_n C 1 dR_form_28 rfl rfl ?_
      refine J_pick C (ws' := [((hF), .inr (0, [.ref (fb), .int (nI (u0 + 1))])), kL E (fb) (278) (rw), ((ox), .inr (4, [.ref (hT), .ref (hF), .ref (hS)])), ((hT), .inr (3, [.int (nI ((k0 + 1))), .int (nI (2 ^ (k0 + 1))), .ref (a1), .ref (a2), .ref (a3), .int (nI (fc))]))]) [2, 3, 0, 1] (by decide) rfl ?_
      refine J_callV C (rest := []) [] [((hF), .inr (0, [.ref (fb), .int (nI (u0 + 1))])), kL E (fb) (278) (rw)] [((ox), .inr (4, [.ref (hT), .ref (hF), .ref (hS)])), ((hT), .inr (3, [.int (nI ((k0 + 1))), .int (nI (2 ^ (k0 + 1))), .ref (a1), .ref (a2), .ref (a3), .int (nI (fc))]))] 0 (c_F_least E l hF fb rw u0 k0 f (by omega) (by omega) (hfn) (hr)) mmF_least msF_least lkR_59 rfl rfl (rfl) rfl rfl ⟨by decide, by decide⟩ ⟨by decide, by decide⟩ (Nat.le_of_ble_eq_true rfl) dR_form_29 (fun r_c w_c hp => ?_)
      obtain ⟨u1, rw1, rfl, hu1, hrw1, rfl⟩ := hp
      refine J_norm C (st' := [.long (lN (fcode (pF (k0 + 1) f)))]) (ws' := [((hF), .inr (0, [.ref (fb), .int (nI (u1 + 1))])), kL E (fb) (278) (rw1), ((ox), .inr (4, [.ref (hT), .ref (hF), .ref (hS)])), ((hT), .inr (3, [.int (nI ((k0 + 1))), .int (nI (2 ^ (k0 + 1))), .ref (a1), .ref (a2), .ref (a3), .int (nI (fc))]))]) (cs' := 0) (ss' := 0) rfl (rfl) rfl rfl ?_
      refine J_pick C (ws' := [((ox), .inr (4, [.ref (hT), .ref (hF), .ref (hS)])), ((hT), .inr (3, [.int (nI ((k0 + 1))), .int (nI (2 ^ (k0 + 1))), .ref (a1), .ref (a2), .ref (a3), .int (nI (fc))])), ((hF), .inr (0, [.ref (fb), .int (nI (u1 + 1))])), kL E (fb) (278) (rw1)]) [2, 3, 0, 1] (by decide) rfl ?_
      refine J_lstore C (lv' := [(0, .ref (ox)), (1, .int (nI (f))), (2, .int (x)), (3, .int (nI ((k0 + 1)))), (4, .long (lN (fcode (pF (k0 + 1) f))))]) [1, 2, 3, 4, 0] dR_form_32 (by decide) rfl ?_
      refine J_iload_n C 2 dR_form_34 rfl rfl ?_
      refine J_iconst C (v := -1) dR_form_35 (by decide) ?_
      refine J_icmp_ne C 47 rfl j_m1 dR_form_36 (by decide) (fun h36 => ?_) (fun h36 => ?_)
      · refine J_lload C 4 dR_form_47 rfl ?_
        refine J_iload_n C 2 dR_form_49 rfl rfl ?_
        refine J_callS C (rest := []) [] [] [((ox), .inr (4, [.ref (hT), .ref (hF), .ref (hS)])), ((hT), .inr (3, [.int (nI ((k0 + 1))), .int (nI (2 ^ (k0 + 1))), .ref (a1), .ref (a2), .ref (a3), .int (nI (fc))])), ((hF), .inr (0, [.ref (fb), .int (nI (u1 + 1))])), kL E (fb) (278) (rw1)] (c_F_numberAt_f E l (pF (k0 + 1) f) x (l6) (l128) (by omega)) mmF_numberAt lkR_67 (rfl) rfl rfl ⟨by decide, by decide⟩ ⟨by decide, by decide⟩ (Nat.le_of_ble_eq_true rfl) dR_form_50 (fun r_c w_c hp => ?_)
        obtain ⟨rfl, rfl⟩ := hp
        refine J_norm C (st' := [.int (-1)]) (ws' := [((ox), .inr (4, [.ref (hT), .ref (hF), .ref (hS)])), ((hT), .inr (3, [.int (nI ((k0 + 1))), .int (nI (2 ^ (k0 + 1))), .ref (a1), .ref (a2), .ref (a3), .int (nI (fc))])), ((hF), .inr (0, [.ref (fb), .int (nI (u1 + 1))])), kL E (fb) (278) (rw1)]) (cs' := 0) (ss' := 0) rfl (rfl) rfl rfl ?_
        exact hret _ _ _ _ _ _ dR_form_53 (by decide) (by decide) (⟨u1, rw1, rfl, hu1, hrw1, rfl⟩)
      · exfalso; omega
    · exfalso; omega
set_option maxHeartbeats 4000000 in
set_option maxRecDepth 100000 in
theorem c_R_product_t (E : jE) (l : Launch) (ox : Nat) (hT : Nat) (hF : Nat) (hS : Nat) (n : Nat) (a1 : Nat) (a2 : Nat) (a3 : Nat) (fc : Nat) (p : Nat) (hn1 : 1 ≤ n) (hn4 : n ≤ 4) (hp : p < 3 ^ n) : Con E l yR_product bR_product 3 (some .int) { frames := 2, cells := 0, slots := 0, locals := 49 } [.ref (ox), .int (nI (p))] [((ox), .inr (4, [.ref (hT), .ref (hF), .ref (hS)])), ((hT), .inr (3, [.int (nI (n)), .int (nI (2 ^ n)), .ref (a1), .ref (a2), .ref (a3), .int (nI (fc))]))] (fun r w => r = some (.int (nI (pfn n p))) ∧ w = [((ox), .inr (4, [.ref (hT), .ref (hF), .ref (hS)])), ((hT), .inr (3, [.int (nI (n)), .int (nI (2 ^ n)), .ref (a1), .ref (a2), .ref (a3), .int (nI (fc))]))]) := by
  refine Con.ofI (by decide) (Nat.le_of_ble_eq_true rfl) ?_
  intro J C hret
  show J 0 [(0, .ref (ox)), (1, .int (nI (p)))] [] [((ox), .inr (4, [.ref (hT), .ref (hF), .ref (hS)])), ((hT), .inr (3, [.int (nI (n)), .int (nI (2 ^ n)), .ref (a1), .ref (a2), .ref (a3), .int (nI (fc))]))] 0 0
  have h81 := p81 hn4
  refine J_aload_n C 0 dR_product_0 rfl rfl ?_
  refine J_get C 0 0 hinR rfl rfl (by decide) fkR_10 rfl dR_product_1 ?_
  refine J_pick C (ws' := [((hT), .inr (3, [.int (nI (n)), .int (nI (2 ^ n)), .ref (a1), .ref (a2), .ref (a3), .int (nI (fc))])), ((ox), .inr (4, [.ref (hT), .ref (hF), .ref (hS)]))]) [1, 0] (by decide) rfl ?_
  refine J_callV C (rest := []) [] [((hT), .inr (3, [.int (nI (n)), .int (nI (2 ^ n)), .ref (a1), .ref (a2), .ref (a3), .int (nI (fc))]))] [((ox), .inr (4, [.ref (hT), .ref (hF), .ref (hS)]))] 0 (c_T_bitCount E l hT n a1 a2 a3 fc) mmT_bitCount msT_bitCount lkR_56 rfl rfl (rfl) rfl rfl ⟨by decide, by decide⟩ ⟨by decide, by decide⟩ (Nat.le_of_ble_eq_true rfl) dR_product_4 (fun r_c w_c hp => ?_)
  obtain ⟨rfl, rfl⟩ := hp
  refine J_norm C (st' := [.int (nI (n))]) (ws' := [((hT), .inr (3, [.int (nI (n)), .int (nI (2 ^ n)), .ref (a1), .ref (a2), .ref (a3), .int (nI (fc))])), ((ox), .inr (4, [.ref (hT), .ref (hF), .ref (hS)]))]) (cs' := 0) (ss' := 0) rfl (rfl) rfl rfl ?_
  refine J_pick C (ws' := [((ox), .inr (4, [.ref (hT), .ref (hF), .ref (hS)])), ((hT), .inr (3, [.int (nI (n)), .int (nI (2 ^ n)), .ref (a1), .ref (a2), .ref (a3), .int (nI (fc))]))]) [1, 0] (by decide) rfl ?_
  refine J_istore_n C (lv' := [(0, .ref (ox)), (1, .int (nI (p))), (2, .int (nI (n)))]) [1, 2, 0] dR_product_7 rfl (by decide) rfl ?_
  refine J_iload_n C 1 dR_product_8 rfl rfl ?_
  refine J_if_lt C 20 (nI_toInt (n := p) (by omega)) dR_product_9 (by decide) (fun h9 => ?_) (fun h9 => ?_)
  · exfalso; omega
  · refine J_iload_n C 1 dR_product_12 rfl rfl ?_
    refine J_iload_n C 2 dR_product_13 rfl rfl ?_
    refine J_callS C (rest := [.int (nI (p))]) [] [] [((ox), .inr (4, [.ref (hT), .ref (hF), .ref (hS)])), ((hT), .inr (3, [.int (nI (n)), .int (nI (2 ^ n)), .ref (a1), .ref (a2), .ref (a3), .int (nI (fc))]))] (c_P_count E l n (by omega)) mmP_count lkR_71 (rfl) rfl rfl ⟨by decide, by decide⟩ ⟨by decide, by decide⟩ (Nat.le_of_ble_eq_true rfl) dR_product_14 (fun r_c w_c hp => ?_)
    obtain ⟨rfl, rfl⟩ := hp
    refine J_norm C (st' := [.int (nI (3 ^ n)), .int (nI (p))]) (ws' := [((ox), .inr (4, [.ref (hT), .ref (hF), .ref (hS)])), ((hT), .inr (3, [.int (nI (n)), .int (nI (2 ^ n)), .ref (a1), .ref (a2), .ref (a3), .int (nI (fc))]))]) (cs' := 0) (ss' := 0) rfl (rfl) rfl rfl ?_
    refine J_icmp_lt C 22 (nI_toInt (n := p) (by omega)) (nI_toInt (n := 3 ^ n) (by omega)) dR_product_17 (by decide) (fun h17 => ?_) (fun h17 => ?_)
    · refine J_iload_n C 2 dR_product_22 rfl rfl ?_
      refine J_iload_n C 1 dR_product_23 rfl rfl ?_
      refine J_callS C (rest := []) [] [] [((ox), .inr (4, [.ref (hT), .ref (hF), .ref (hS)])), ((hT), .inr (3, [.int (nI (n)), .int (nI (2 ^ n)), .ref (a1), .ref (a2), .ref (a3), .int (nI (fc))]))] (c_P_function E l n p (by omega) (by omega)) mmP_function lkR_76 (rfl) rfl rfl ⟨by decide, by decide⟩ ⟨by decide, by decide⟩ (Nat.le_of_ble_eq_true rfl) dR_product_24 (fun r_c w_c hp => ?_)
      obtain ⟨rfl, rfl⟩ := hp
      refine J_norm C (st' := [.int (nI (pfn n p))]) (ws' := [((ox), .inr (4, [.ref (hT), .ref (hF), .ref (hS)])), ((hT), .inr (3, [.int (nI (n)), .int (nI (2 ^ n)), .ref (a1), .ref (a2), .ref (a3), .int (nI (fc))]))]) (cs' := 0) (ss' := 0) rfl (rfl) rfl rfl ?_
      exact hret _ _ _ _ _ _ dR_product_27 (by decide) (by decide) (⟨rfl, rfl⟩)
    · exfalso; omega
set_option maxHeartbeats 4000000 in
set_option maxRecDepth 100000 in
theorem c_R_product_f (E : jE) (l : Launch) (ox : Nat) (hT : Nat) (hF : Nat) (hS : Nat) (n : Nat) (a1 : Nat) (a2 : Nat) (a3 : Nat) (fc : Nat) (x : Int32) (hn1 : 1 ≤ n) (hn4 : n ≤ 4) (hx : x.toInt < 0 ∨ ((3 ^ n : Nat) : Int) ≤ x.toInt) : Con E l yR_product bR_product 3 (some .int) { frames := 1, cells := 0, slots := 0, locals := 22 } [.ref (ox), .int (x)] [((ox), .inr (4, [.ref (hT), .ref (hF), .ref (hS)])), ((hT), .inr (3, [.int (nI (n)), .int (nI (2 ^ n)), .ref (a1), .ref (a2), .ref (a3), .int (nI (fc))]))] (fun r w => r = some (.int (-1)) ∧ w = [((ox), .inr (4, [.ref (hT), .ref (hF), .ref (hS)])), ((hT), .inr (3, [.int (nI (n)), .int (nI (2 ^ n)), .ref (a1), .ref (a2), .ref (a3), .int (nI (fc))]))]) := by
  refine Con.ofI (by decide) (Nat.le_of_ble_eq_true rfl) ?_
  intro J C hret
  show J 0 [(0, .ref (ox)), (1, .int (x))] [] [((ox), .inr (4, [.ref (hT), .ref (hF), .ref (hS)])), ((hT), .inr (3, [.int (nI (n)), .int (nI (2 ^ n)), .ref (a1), .ref (a2), .ref (a3), .int (nI (fc))]))] 0 0
  have h81 := p81 hn4
  refine J_aload_n C 0 dR_product_0 rfl rfl ?_
  refine J_get C 0 0 hinR rfl rfl (by decide) fkR_10 rfl dR_product_1 ?_
  refine J_pick C (ws' := [((hT), .inr (3, [.int (nI (n)), .int (nI (2 ^ n)), .ref (a1), .ref (a2), .ref (a3), .int (nI (fc))])), ((ox), .inr (4, [.ref (hT), .ref (hF), .ref (hS)]))]) [1, 0] (by decide) rfl ?_
  refine J_callV C (rest := []) [] [((hT), .inr (3, [.int (nI (n)), .int (nI (2 ^ n)), .ref (a1), .ref (a2), .ref (a3), .int (nI (fc))]))] [((ox), .inr (4, [.ref (hT), .ref (hF), .ref (hS)]))] 0 (c_T_bitCount E l hT n a1 a2 a3 fc) mmT_bitCount msT_bitCount lkR_56 rfl rfl (rfl) rfl rfl ⟨by decide, by decide⟩ ⟨by decide, by decide⟩ (Nat.le_of_ble_eq_true rfl) dR_product_4 (fun r_c w_c hp => ?_)
  obtain ⟨rfl, rfl⟩ := hp
  refine J_norm C (st' := [.int (nI (n))]) (ws' := [((hT), .inr (3, [.int (nI (n)), .int (nI (2 ^ n)), .ref (a1), .ref (a2), .ref (a3), .int (nI (fc))])), ((ox), .inr (4, [.ref (hT), .ref (hF), .ref (hS)]))]) (cs' := 0) (ss' := 0) rfl (rfl) rfl rfl ?_
  refine J_pick C (ws' := [((ox), .inr (4, [.ref (hT), .ref (hF), .ref (hS)])), ((hT), .inr (3, [.int (nI (n)), .int (nI (2 ^ n)), .ref (a1), .ref (a2), .ref (a3), .int (nI (fc))]))]) [1, 0] (by decide) rfl ?_
  refine J_istore_n C (lv' := [(0, .ref (ox)), (1, .int (x)), (2, .int (nI (n)))]) [1, 2, 0] dR_product_7 rfl (by decide) rfl ?_
  refine J_iload_n C 1 dR_product_8 rfl rfl ?_
  refine J_if_lt C 20 rfl dR_product_9 (by decide) (fun h9 => ?_) (fun h9 => ?_)
  · refine J_iconst C (v := -1) dR_product_20 (by decide) ?_
    exact hret _ _ _ _ _ _ dR_product_21 (by decide) (by decide) (⟨rfl, rfl⟩)
  · refine J_iload_n C 1 dR_product_12 rfl rfl ?_
    refine J_iload_n C 2 dR_product_13 rfl rfl ?_
    refine J_callS C (rest := [.int (x)]) [] [] [((ox), .inr (4, [.ref (hT), .ref (hF), .ref (hS)])), ((hT), .inr (3, [.int (nI (n)), .int (nI (2 ^ n)), .ref (a1), .ref (a2), .ref (a3), .int (nI (fc))]))] (c_P_count E l n (by omega)) mmP_count lkR_71 (rfl) rfl rfl ⟨by decide, by decide⟩ ⟨by decide, by decide⟩ (Nat.le_of_ble_eq_true rfl) dR_product_14 (fun r_c w_c hp => ?_)
    obtain ⟨rfl, rfl⟩ := hp
    refine J_norm C (st' := [.int (nI (3 ^ n)), .int (x)]) (ws' := [((ox), .inr (4, [.ref (hT), .ref (hF), .ref (hS)])), ((hT), .inr (3, [.int (nI (n)), .int (nI (2 ^ n)), .ref (a1), .ref (a2), .ref (a3), .int (nI (fc))]))]) (cs' := 0) (ss' := 0) rfl (rfl) rfl rfl ?_
    refine J_icmp_lt C 22 rfl (nI_toInt (n := 3 ^ n) (by omega)) dR_product_17 (by decide) (fun h17 => ?_) (fun h17 => ?_)
    · exfalso; omega
    · refine J_iconst C (v := -1) dR_product_20 (by decide) ?_
      exact hret _ _ _ _ _ _ dR_product_21 (by decide) (by decide) (⟨rfl, rfl⟩)
set_option maxHeartbeats 4000000 in
set_option maxRecDepth 100000 in
theorem c_R_program_t (E : jE) (l : Launch) (ox : Nat) (hT : Nat) (hF : Nat) (hS : Nat) (m : Nat) (e1 : Nat) (e2 : Nat) (e3 : Nat) (e4 : Nat) (e5 : Nat) (qd : Nat) (nd : Nat → Nat) (kn : Nat → Option Nat) (k : Nat) (hk1 : 1 ≤ k) (hk12 : k ≤ 12) : Con E l yR_program bR_program 2 (some .boolean) { frames := 2, cells := 0, slots := 0, locals := 43 } [.ref (ox), .int (nI (k))] [((ox), .inr (4, [.ref (hT), .ref (hF), .ref (hS)])), ((hS), .inr (2, [.int (nI (m)), .ref (e1), .ref (e2), .ref (e3), .ref (e4), .ref (e5), .int (nI (qd))])), kI E (e1) (12) (nd), kQ E (e2) (13) (kn)] (fun r w => r = some (.int (nI 1)) ∧ w = [((ox), .inr (4, [.ref (hT), .ref (hF), .ref (hS)])), ((hS), .inr (2, [.int (nI (k)), .ref (e1), .ref (e2), .ref (e3), .ref (e4), .ref (e5), .int (nI (qd))])), kI E (e1) (12) (fun _ => 0), kQ E (e2) (13) (fun _ => none)]) := by
  refine Con.ofZ (by decide) (Nat.le_of_ble_eq_true rfl) ?_
  intro J C hret
  show J 0 [(0, .ref (ox)), (1, .int (nI (k)))] [] [((ox), .inr (4, [.ref (hT), .ref (hF), .ref (hS)])), ((hS), .inr (2, [.int (nI (m)), .ref (e1), .ref (e2), .ref (e3), .ref (e4), .ref (e5), .int (nI (qd))])), kI E (e1) (12) (nd), kQ E (e2) (13) (kn)] 0 0
  refine J_aload_n C 0 dR_program_0 rfl rfl ?_
  refine J_get C 0 2 hinR rfl rfl (by decide) fkR_26 rfl dR_program_1 ?_
  refine J_iload_n C 1 dR_program_4 rfl rfl ?_
  refine J_pick C (ws' := [((hS), .inr (2, [.int (nI (m)), .ref (e1), .ref (e2), .ref (e3), .ref (e4), .ref (e5), .int (nI (qd))])), kI E (e1) (12) (nd), kQ E (e2) (13) (kn), ((ox), .inr (4, [.ref (hT), .ref (hF), .ref (hS)]))]) [1, 2, 3, 0] (by decide) rfl ?_
  refine J_callV C (rest := []) [] [((hS), .inr (2, [.int (nI (m)), .ref (e1), .ref (e2), .ref (e3), .ref (e4), .ref (e5), .int (nI (qd))])), kI E (e1) (12) (nd), kQ E (e2) (13) (kn)] [((ox), .inr (4, [.ref (hT), .ref (hF), .ref (hS)]))] 0 (c_S_start_t E l hS m e1 e2 e3 e4 e5 qd nd kn k (by omega) (by omega)) mmS_startWith msS_startWith lkR_80 rfl rfl (rfl) rfl rfl ⟨by decide, by decide⟩ ⟨by decide, by decide⟩ (Nat.le_of_ble_eq_true rfl) dR_program_5 (fun r_c w_c hp => ?_)
  obtain ⟨rfl, rfl⟩ := hp
  refine J_norm C (st' := [.int (nI (1))]) (ws' := [((hS), .inr (2, [.int (nI (k)), .ref (e1), .ref (e2), .ref (e3), .ref (e4), .ref (e5), .int (nI (qd))])), kI E (e1) (12) (fun _ => 0), kQ E (e2) (13) (fun _ => none), ((ox), .inr (4, [.ref (hT), .ref (hF), .ref (hS)]))]) (cs' := 0) (ss' := 0) rfl (rfl) rfl rfl ?_
  refine J_pick C (ws' := [((ox), .inr (4, [.ref (hT), .ref (hF), .ref (hS)])), ((hS), .inr (2, [.int (nI (k)), .ref (e1), .ref (e2), .ref (e3), .ref (e4), .ref (e5), .int (nI (qd))])), kI E (e1) (12) (fun _ => 0), kQ E (e2) (13) (fun _ => none)]) [3, 0, 1, 2] (by decide) rfl ?_
  exact hret _ _ _ _ _ _ dR_program_8 (by decide) (by decide) (by decide) (⟨rfl, rfl⟩)
set_option maxHeartbeats 4000000 in
set_option maxRecDepth 100000 in
theorem c_R_program_f (E : jE) (l : Launch) (ox : Nat) (hT : Nat) (hF : Nat) (hS : Nat) (m : Nat) (e1 : Nat) (e2 : Nat) (e3 : Nat) (e4 : Nat) (e5 : Nat) (qd : Nat) (x : Int32) (hx : x.toInt < 1 ∨ 12 < x.toInt) : Con E l yR_program bR_program 2 (some .boolean) { frames := 1, cells := 0, slots := 0, locals := 22 } [.ref (ox), .int (x)] [((ox), .inr (4, [.ref (hT), .ref (hF), .ref (hS)])), ((hS), .inr (2, [.int (nI (m)), .ref (e1), .ref (e2), .ref (e3), .ref (e4), .ref (e5), .int (nI (qd))]))] (fun r w => r = some (.int (nI 0)) ∧ w = [((ox), .inr (4, [.ref (hT), .ref (hF), .ref (hS)])), ((hS), .inr (2, [.int (nI (m)), .ref (e1), .ref (e2), .ref (e3), .ref (e4), .ref (e5), .int (nI (qd))]))]) := by
  refine Con.ofZ (by decide) (Nat.le_of_ble_eq_true rfl) ?_
  intro J C hret
  show J 0 [(0, .ref (ox)), (1, .int (x))] [] [((ox), .inr (4, [.ref (hT), .ref (hF), .ref (hS)])), ((hS), .inr (2, [.int (nI (m)), .ref (e1), .ref (e2), .ref (e3), .ref (e4), .ref (e5), .int (nI (qd))]))] 0 0
  refine J_aload_n C 0 dR_program_0 rfl rfl ?_
  refine J_get C 0 2 hinR rfl rfl (by decide) fkR_26 rfl dR_program_1 ?_
  refine J_iload_n C 1 dR_program_4 rfl rfl ?_
  refine J_pick C (ws' := [((hS), .inr (2, [.int (nI (m)), .ref (e1), .ref (e2), .ref (e3), .ref (e4), .ref (e5), .int (nI (qd))])), ((ox), .inr (4, [.ref (hT), .ref (hF), .ref (hS)]))]) [1, 0] (by decide) rfl ?_
  refine J_callV C (rest := []) [] [((hS), .inr (2, [.int (nI (m)), .ref (e1), .ref (e2), .ref (e3), .ref (e4), .ref (e5), .int (nI (qd))]))] [((ox), .inr (4, [.ref (hT), .ref (hF), .ref (hS)]))] 0 (c_S_start_f E l hS m e1 e2 e3 e4 e5 qd x (by omega)) mmS_startWith msS_startWith lkR_80 rfl rfl (rfl) rfl rfl ⟨by decide, by decide⟩ ⟨by decide, by decide⟩ (Nat.le_of_ble_eq_true rfl) dR_program_5 (fun r_c w_c hp => ?_)
  obtain ⟨rfl, rfl⟩ := hp
  refine J_norm C (st' := [.int (nI (0))]) (ws' := [((hS), .inr (2, [.int (nI (m)), .ref (e1), .ref (e2), .ref (e3), .ref (e4), .ref (e5), .int (nI (qd))])), ((ox), .inr (4, [.ref (hT), .ref (hF), .ref (hS)]))]) (cs' := 0) (ss' := 0) rfl (rfl) rfl rfl ?_
  refine J_pick C (ws' := [((ox), .inr (4, [.ref (hT), .ref (hF), .ref (hS)])), ((hS), .inr (2, [.int (nI (m)), .ref (e1), .ref (e2), .ref (e3), .ref (e4), .ref (e5), .int (nI (qd))]))]) [1, 0] (by decide) rfl ?_
  exact hret _ _ _ _ _ _ dR_program_8 (by decide) (by decide) (by decide) (⟨rfl, rfl⟩)
set_option maxHeartbeats 4000000 in
set_option maxRecDepth 100000 in
theorem c_R_need_t (E : jE) (l : Launch) (ox : Nat) (hT : Nat) (hF : Nat) (hS : Nat) (m : Nat) (e1 : Nat) (e2 : Nat) (e3 : Nat) (e4 : Nat) (e5 : Nat) (qd : Nat) (nd : Nat → Nat) (kn : Nat → Option Nat) (s : Nat) (t : Nat) (hs12 : m ≤ 12) (hs : s < m) (ht : t < 2 ^ s) : Con E l yR_need bR_need 3 (some .boolean) { frames := 2, cells := 0, slots := 0, locals := 43 } [.ref (ox), .int (nI (s)), .int (nI (t))] [((ox), .inr (4, [.ref (hT), .ref (hF), .ref (hS)])), ((hS), .inr (2, [.int (nI (m)), .ref (e1), .ref (e2), .ref (e3), .ref (e4), .ref (e5), .int (nI (qd))])), kI E (e1) (12) (nd), kQ E (e2) (13) (kn)] (fun r w => r = some (.int (nI 1)) ∧ w = [((ox), .inr (4, [.ref (hT), .ref (hF), .ref (hS)])), ((hS), .inr (2, [.int (nI (m)), .ref (e1), .ref (e2), .ref (e3), .ref (e4), .ref (e5), .int (nI (qd))])), kI E (e1) (12) (upN nd s t), kQ E (e2) (13) (fun _ => none)]) := by
  refine Con.ofZ (by decide) (Nat.le_of_ble_eq_true rfl) ?_
  intro J C hret
  show J 0 [(0, .ref (ox)), (1, .int (nI (s))), (2, .int (nI (t)))] [] [((ox), .inr (4, [.ref (hT), .ref (hF), .ref (hS)])), ((hS), .inr (2, [.int (nI (m)), .ref (e1), .ref (e2), .ref (e3), .ref (e4), .ref (e5), .int (nI (qd))])), kI E (e1) (12) (nd), kQ E (e2) (13) (kn)] 0 0
  refine J_aload_n C 0 dR_need_0 rfl rfl ?_
  refine J_get C 0 2 hinR rfl rfl (by decide) fkR_26 rfl dR_need_1 ?_
  refine J_iload_n C 1 dR_need_4 rfl rfl ?_
  refine J_iload_n C 2 dR_need_5 rfl rfl ?_
  refine J_pick C (ws' := [((hS), .inr (2, [.int (nI (m)), .ref (e1), .ref (e2), .ref (e3), .ref (e4), .ref (e5), .int (nI (qd))])), kI E (e1) (12) (nd), kQ E (e2) (13) (kn), ((ox), .inr (4, [.ref (hT), .ref (hF), .ref (hS)]))]) [1, 2, 3, 0] (by decide) rfl ?_
  refine J_callV C (rest := []) [] [((hS), .inr (2, [.int (nI (m)), .ref (e1), .ref (e2), .ref (e3), .ref (e4), .ref (e5), .int (nI (qd))])), kI E (e1) (12) (nd), kQ E (e2) (13) (kn)] [((ox), .inr (4, [.ref (hT), .ref (hF), .ref (hS)]))] 0 (c_S_need_t E l hS m e1 e2 e3 e4 e5 qd nd kn s t (by omega) (by omega) (ht)) mmS_setNeeds msS_setNeeds lkR_81 rfl rfl (rfl) rfl rfl ⟨by decide, by decide⟩ ⟨by decide, by decide⟩ (Nat.le_of_ble_eq_true rfl) dR_need_6 (fun r_c w_c hp => ?_)
  obtain ⟨rfl, rfl⟩ := hp
  refine J_norm C (st' := [.int (nI (1))]) (ws' := [((hS), .inr (2, [.int (nI (m)), .ref (e1), .ref (e2), .ref (e3), .ref (e4), .ref (e5), .int (nI (qd))])), kI E (e1) (12) (upN nd s t), kQ E (e2) (13) (fun _ => none), ((ox), .inr (4, [.ref (hT), .ref (hF), .ref (hS)]))]) (cs' := 0) (ss' := 0) rfl (rfl) rfl rfl ?_
  refine J_pick C (ws' := [((ox), .inr (4, [.ref (hT), .ref (hF), .ref (hS)])), ((hS), .inr (2, [.int (nI (m)), .ref (e1), .ref (e2), .ref (e3), .ref (e4), .ref (e5), .int (nI (qd))])), kI E (e1) (12) (upN nd s t), kQ E (e2) (13) (fun _ => none)]) [3, 0, 1, 2] (by decide) rfl ?_
  exact hret _ _ _ _ _ _ dR_need_9 (by decide) (by decide) (by decide) (⟨rfl, rfl⟩)
set_option maxHeartbeats 4000000 in
set_option maxRecDepth 100000 in
theorem c_R_need_f1 (E : jE) (l : Launch) (ox : Nat) (hT : Nat) (hF : Nat) (hS : Nat) (m : Nat) (e1 : Nat) (e2 : Nat) (e3 : Nat) (e4 : Nat) (e5 : Nat) (qd : Nat) (x : Int32) (z : Int32) (hs12 : m ≤ 12) (hx : x.toInt < 0 ∨ (m : Int) ≤ x.toInt) : Con E l yR_need bR_need 3 (some .boolean) { frames := 1, cells := 0, slots := 0, locals := 22 } [.ref (ox), .int (x), .int (z)] [((ox), .inr (4, [.ref (hT), .ref (hF), .ref (hS)])), ((hS), .inr (2, [.int (nI (m)), .ref (e1), .ref (e2), .ref (e3), .ref (e4), .ref (e5), .int (nI (qd))]))] (fun r w => r = some (.int (nI 0)) ∧ w = [((ox), .inr (4, [.ref (hT), .ref (hF), .ref (hS)])), ((hS), .inr (2, [.int (nI (m)), .ref (e1), .ref (e2), .ref (e3), .ref (e4), .ref (e5), .int (nI (qd))]))]) := by
  refine Con.ofZ (by decide) (Nat.le_of_ble_eq_true rfl) ?_
  intro J C hret
  show J 0 [(0, .ref (ox)), (1, .int (x)), (2, .int (z))] [] [((ox), .inr (4, [.ref (hT), .ref (hF), .ref (hS)])), ((hS), .inr (2, [.int (nI (m)), .ref (e1), .ref (e2), .ref (e3), .ref (e4), .ref (e5), .int (nI (qd))]))] 0 0
  refine J_aload_n C 0 dR_need_0 rfl rfl ?_
  refine J_get C 0 2 hinR rfl rfl (by decide) fkR_26 rfl dR_need_1 ?_
  refine J_iload_n C 1 dR_need_4 rfl rfl ?_
  refine J_iload_n C 2 dR_need_5 rfl rfl ?_
  refine J_pick C (ws' := [((hS), .inr (2, [.int (nI (m)), .ref (e1), .ref (e2), .ref (e3), .ref (e4), .ref (e5), .int (nI (qd))])), ((ox), .inr (4, [.ref (hT), .ref (hF), .ref (hS)]))]) [1, 0] (by decide) rfl ?_
  refine J_callV C (rest := []) [] [((hS), .inr (2, [.int (nI (m)), .ref (e1), .ref (e2), .ref (e3), .ref (e4), .ref (e5), .int (nI (qd))]))] [((ox), .inr (4, [.ref (hT), .ref (hF), .ref (hS)]))] 0 (c_S_need_f1 E l hS m e1 e2 e3 e4 e5 qd x z (by omega) (by omega)) mmS_setNeeds msS_setNeeds lkR_81 rfl rfl (rfl) rfl rfl ⟨by decide, by decide⟩ ⟨by decide, by decide⟩ (Nat.le_of_ble_eq_true rfl) dR_need_6 (fun r_c w_c hp => ?_)
  obtain ⟨rfl, rfl⟩ := hp
  refine J_norm C (st' := [.int (nI (0))]) (ws' := [((hS), .inr (2, [.int (nI (m)), .ref (e1), .ref (e2), .ref (e3), .ref (e4), .ref (e5), .int (nI (qd))])), ((ox), .inr (4, [.ref (hT), .ref (hF), .ref (hS)]))]) (cs' := 0) (ss' := 0) rfl (rfl) rfl rfl ?_
  refine J_pick C (ws' := [((ox), .inr (4, [.ref (hT), .ref (hF), .ref (hS)])), ((hS), .inr (2, [.int (nI (m)), .ref (e1), .ref (e2), .ref (e3), .ref (e4), .ref (e5), .int (nI (qd))]))]) [1, 0] (by decide) rfl ?_
  exact hret _ _ _ _ _ _ dR_need_9 (by decide) (by decide) (by decide) (⟨rfl, rfl⟩)
set_option maxHeartbeats 4000000 in
set_option maxRecDepth 100000 in
theorem c_R_need_f2 (E : jE) (l : Launch) (ox : Nat) (hT : Nat) (hF : Nat) (hS : Nat) (m : Nat) (e1 : Nat) (e2 : Nat) (e3 : Nat) (e4 : Nat) (e5 : Nat) (qd : Nat) (s : Nat) (z : Int32) (hs12 : m ≤ 12) (hs : s < m) (hx : z.toInt < 0 ∨ ((2 ^ s : Nat) : Int) ≤ z.toInt) : Con E l yR_need bR_need 3 (some .boolean) { frames := 1, cells := 0, slots := 0, locals := 22 } [.ref (ox), .int (nI (s)), .int (z)] [((ox), .inr (4, [.ref (hT), .ref (hF), .ref (hS)])), ((hS), .inr (2, [.int (nI (m)), .ref (e1), .ref (e2), .ref (e3), .ref (e4), .ref (e5), .int (nI (qd))]))] (fun r w => r = some (.int (nI 0)) ∧ w = [((ox), .inr (4, [.ref (hT), .ref (hF), .ref (hS)])), ((hS), .inr (2, [.int (nI (m)), .ref (e1), .ref (e2), .ref (e3), .ref (e4), .ref (e5), .int (nI (qd))]))]) := by
  refine Con.ofZ (by decide) (Nat.le_of_ble_eq_true rfl) ?_
  intro J C hret
  show J 0 [(0, .ref (ox)), (1, .int (nI (s))), (2, .int (z))] [] [((ox), .inr (4, [.ref (hT), .ref (hF), .ref (hS)])), ((hS), .inr (2, [.int (nI (m)), .ref (e1), .ref (e2), .ref (e3), .ref (e4), .ref (e5), .int (nI (qd))]))] 0 0
  refine J_aload_n C 0 dR_need_0 rfl rfl ?_
  refine J_get C 0 2 hinR rfl rfl (by decide) fkR_26 rfl dR_need_1 ?_
  refine J_iload_n C 1 dR_need_4 rfl rfl ?_
  refine J_iload_n C 2 dR_need_5 rfl rfl ?_
  refine J_pick C (ws' := [((hS), .inr (2, [.int (nI (m)), .ref (e1), .ref (e2), .ref (e3), .ref (e4), .ref (e5), .int (nI (qd))])), ((ox), .inr (4, [.ref (hT), .ref (hF), .ref (hS)]))]) [1, 0] (by decide) rfl ?_
  refine J_callV C (rest := []) [] [((hS), .inr (2, [.int (nI (m)), .ref (e1), .ref (e2), .ref (e3), .ref (e4), .ref (e5), .int (nI (qd))]))] [((ox), .inr (4, [.ref (hT), .ref (hF), .ref (hS)]))] 0 (c_S_need_f2 E l hS m e1 e2 e3 e4 e5 qd s z (by omega) (by omega) (hx)) mmS_setNeeds msS_setNeeds lkR_81 rfl rfl (rfl) rfl rfl ⟨by decide, by decide⟩ ⟨by decide, by decide⟩ (Nat.le_of_ble_eq_true rfl) dR_need_6 (fun r_c w_c hp => ?_)
  obtain ⟨rfl, rfl⟩ := hp
  refine J_norm C (st' := [.int (nI (0))]) (ws' := [((hS), .inr (2, [.int (nI (m)), .ref (e1), .ref (e2), .ref (e3), .ref (e4), .ref (e5), .int (nI (qd))])), ((ox), .inr (4, [.ref (hT), .ref (hF), .ref (hS)]))]) (cs' := 0) (ss' := 0) rfl (rfl) rfl rfl ?_
  refine J_pick C (ws' := [((ox), .inr (4, [.ref (hT), .ref (hF), .ref (hS)])), ((hS), .inr (2, [.int (nI (m)), .ref (e1), .ref (e2), .ref (e3), .ref (e4), .ref (e5), .int (nI (qd))]))]) [1, 0] (by decide) rfl ?_
  exact hret _ _ _ _ _ _ dR_need_9 (by decide) (by decide) (by decide) (⟨rfl, rfl⟩)
set_option maxHeartbeats 4000000 in
set_option maxRecDepth 100000 in
theorem c_R_marks (E : jE) (l : Launch) (ox : Nat) (hT : Nat) (hF : Nat) (hS : Nat) (m : Nat) (e1 : Nat) (e2 : Nat) (e3 : Nat) (e4 : Nat) (e5 : Nat) (qd : Nat) (e8 : Nat) (nd : Nat → Nat) (kn : Nat → Option Nat) (zz : Nat → Nat) (ln : Nat) (lf : Nat → Nat) (qu : Nat → Nat) (pool : va_W) (b0 : Nat) (ps : List Nat) (hg : mG m nd) (hln : ln ≤ 4096) (hk : kOK E m nd kn e3 pool) (hb01 : 1 ≤ b0) (hb0m : b0 ≤ m) (hsp : mSP m nd b0 ps) (hmin : ∀ b', 1 ≤ b' → b' < b0 → ∀ qs, ¬ mP m nd b' 0 qs (2 ^ (m - 1))) : Con E l yR_marks bR_marks 1 (some .int) { frames := 6, cells := 4, slots := 12289, locals := 143 } [.ref (ox)] ([((ox), .inr (4, [.ref (hT), .ref (hF), .ref (hS)])), ((hS), .inr (2, [.int (nI (m)), .ref (e1), .ref (e2), .ref (e3), .ref (e4), .ref (e5), .int (nI (qd))])), kI E (e1) (12) (nd), kQ E (e2) (13) (kn), ((e3), .inr (1, [.ref (e8)])), kI E (e8) (0) (zz), kI E (e4) (ln) (lf), kI E (e5) (ln) (qu)] ++ pool) (fun r w => ∃ (kn1 : Nat → Option Nat) (e41 e51 l1 n1 : Nat) (f1 u1 : Nat → Nat) (pool1 : va_W), r = some (.int (nI b0)) ∧ l1 ≤ 4096 ∧ kOK E m nd kn1 e3 pool1 ∧ w = ([((ox), .inr (4, [.ref (hT), .ref (hF), .ref (hS)])), ((hS), .inr (2, [.int (nI (m)), .ref (e1), .ref (e2), .ref (e3), .ref (e41), .ref (e51), .int (nI (n1))])), kI E (e1) (12) (nd), kQ E (e2) (13) (kn1), ((e3), .inr (1, [.ref (e8)])), kI E (e8) (0) (zz), kI E (e41) (l1) (f1), kI E (e51) (l1) (u1)] ++ pool1)) := by
  refine Con.ofI (by decide) (Nat.le_of_ble_eq_true rfl) ?_
  intro J C hret
  show J 0 [(0, .ref (ox))] [] ([((ox), .inr (4, [.ref (hT), .ref (hF), .ref (hS)])), ((hS), .inr (2, [.int (nI (m)), .ref (e1), .ref (e2), .ref (e3), .ref (e4), .ref (e5), .int (nI (qd))])), kI E (e1) (12) (nd), kQ E (e2) (13) (kn), ((e3), .inr (1, [.ref (e8)])), kI E (e8) (0) (zz), kI E (e4) (ln) (lf), kI E (e5) (ln) (qu)] ++ pool) 0 0
  refine J_aload_n C 0 dR_marks_0 rfl rfl ?_
  refine J_get C 0 2 hinR rfl rfl (by decide) fkR_26 rfl dR_marks_1 ?_
  refine J_callV C (rest := []) [((ox), .inr (4, [.ref (hT), .ref (hF), .ref (hS)]))] ([((hS), .inr (2, [.int (nI (m)), .ref (e1), .ref (e2), .ref (e3), .ref (e4), .ref (e5), .int (nI (qd))])), kI E (e1) (12) (nd), kQ E (e2) (13) (kn), ((e3), .inr (1, [.ref (e8)])), kI E (e8) (0) (zz), kI E (e4) (ln) (lf), kI E (e5) (ln) (qu)] ++ pool) [] 0 (c_S_marks E l hS m e1 e2 e3 e4 e5 qd e8 nd kn zz ln lf qu pool b0 ps (by assumption) (by omega) (by assumption) (by omega) (by omega) (by assumption) (by assumption)) mmS_fewestMarks msS_fewestMarks lkR_96 rfl rfl (by simp) rfl rfl ⟨by decide, by decide⟩ ⟨by decide, by decide⟩ (Nat.le_of_ble_eq_true rfl) dR_marks_4 (fun r_c w_c hp => ?_)
  obtain ⟨kn1, e41, e51, l1, n1, f1, u1, pool1, rfl, hl1, hk1, rfl⟩ := hp
  refine J_norm C (st' := [.int (nI (b0))]) (ws' := ([((ox), .inr (4, [.ref (hT), .ref (hF), .ref (hS)])), ((hS), .inr (2, [.int (nI (m)), .ref (e1), .ref (e2), .ref (e3), .ref (e41), .ref (e51), .int (nI (n1))])), kI E (e1) (12) (nd), kQ E (e2) (13) (kn1), ((e3), .inr (1, [.ref (e8)])), kI E (e8) (0) (zz), kI E (e41) (l1) (f1), kI E (e51) (l1) (u1)] ++ pool1)) (cs' := 4) (ss' := 12289) rfl (by simp) rfl rfl ?_
  exact hret _ _ _ _ _ _ dR_marks_7 (by decide) (by decide) (⟨_, _, _, _, _, _, _, _, rfl, hl1, hk1, rfl⟩)
set_option maxHeartbeats 4000000 in
set_option maxRecDepth 100000 in
theorem c_R_move_f (E : jE) (l : Launch) (ox : Nat) (hT : Nat) (hF : Nat) (hS : Nat) (x : Int32) (z : Int32) (hx : x.toInt < 1) : Con E l yR_move bR_move 4 (some .int) { frames := 0, cells := 0, slots := 0, locals := 0 } [.ref (ox), .int (x), .int (z)] [((ox), .inr (4, [.ref (hT), .ref (hF), .ref (hS)]))] (fun r w => r = some (.int (-1)) ∧ w = [((ox), .inr (4, [.ref (hT), .ref (hF), .ref (hS)]))]) := by
  refine Con.ofI (by decide) (Nat.le_of_ble_eq_true rfl) ?_
  intro J C hret
  show J 0 [(0, .ref (ox)), (1, .int (x)), (2, .int (z))] [] [((ox), .inr (4, [.ref (hT), .ref (hF), .ref (hS)]))] 0 0
  refine J_iload_n C 1 dR_move_0 rfl rfl ?_
  refine J_iconst C (v := nI (1)) dR_move_1 (by decide) ?_
  refine J_icmp_ge C 7 rfl (nI_toInt (n := 1) (by decide)) dR_move_2 (by decide) (fun h2 => ?_) (fun h2 => ?_)
  · exfalso; omega
  · refine J_iconst C (v := -1) dR_move_5 (by decide) ?_
    exact hret _ _ _ _ _ _ dR_move_6 (by decide) (by decide) (⟨rfl, rfl⟩)
set_option maxHeartbeats 4000000 in
set_option maxRecDepth 100000 in
theorem c_R_move_n (E : jE) (l : Launch) (ox : Nat) (hT : Nat) (hF : Nat) (hS : Nat) (m : Nat) (e1 : Nat) (e2 : Nat) (e3 : Nat) (e4 : Nat) (e5 : Nat) (qd : Nat) (e8 : Nat) (nd : Nat → Nat) (kn : Nat → Option Nat) (zz : Nat → Nat) (ln : Nat) (lf : Nat → Nat) (qu : Nat → Nat) (pool : va_W) (b : Nat) (z : Int32) (hg : mG m nd) (hln : ln ≤ 4096) (hk : kOK E m nd kn e3 pool) (hb1 : 1 ≤ b) (hb31 : b < 2 ^ 31) (hno : ∀ qs, ¬ mP m nd b 0 qs (2 ^ (m - 1))) : Con E l yR_move bR_move 4 (some .int) { frames := 5, cells := 4, slots := 12289, locals := 122 } [.ref (ox), .int (nI (b)), .int (z)] ([((ox), .inr (4, [.ref (hT), .ref (hF), .ref (hS)])), ((hS), .inr (2, [.int (nI (m)), .ref (e1), .ref (e2), .ref (e3), .ref (e4), .ref (e5), .int (nI (qd))])), kI E (e1) (12) (nd), kQ E (e2) (13) (kn), ((e3), .inr (1, [.ref (e8)])), kI E (e8) (0) (zz), kI E (e4) (ln) (lf), kI E (e5) (ln) (qu)] ++ pool) (fun r w => ∃ (kn1 : Nat → Option Nat) (e41 e51 l1 n1 : Nat) (f1 u1 : Nat → Nat) (pool1 : va_W), r = some (.int (-1)) ∧ l1 ≤ 4096 ∧ kOK E m nd kn1 e3 pool1 ∧ w = ([((ox), .inr (4, [.ref (hT), .ref (hF), .ref (hS)])), ((hS), .inr (2, [.int (nI (m)), .ref (e1), .ref (e2), .ref (e3), .ref (e41), .ref (e51), .int (nI (n1))])), kI E (e1) (12) (nd), kQ E (e2) (13) (kn1), ((e3), .inr (1, [.ref (e8)])), kI E (e8) (0) (zz), kI E (e41) (l1) (f1), kI E (e51) (l1) (u1)] ++ pool1)) := by
  refine Con.ofI (by decide) (Nat.le_of_ble_eq_true rfl) ?_
  intro J C hret
  show J 0 [(0, .ref (ox)), (1, .int (nI (b))), (2, .int (z))] [] ([((ox), .inr (4, [.ref (hT), .ref (hF), .ref (hS)])), ((hS), .inr (2, [.int (nI (m)), .ref (e1), .ref (e2), .ref (e3), .ref (e4), .ref (e5), .int (nI (qd))])), kI E (e1) (12) (nd), kQ E (e2) (13) (kn), ((e3), .inr (1, [.ref (e8)])), kI E (e8) (0) (zz), kI E (e4) (ln) (lf), kI E (e5) (ln) (qu)] ++ pool) 0 0
  refine J_iload_n C 1 dR_move_0 rfl rfl ?_
  refine J_iconst C (v := nI (1)) dR_move_1 (by decide) ?_
  refine J_icmp_ge C 7 (nI_toInt (n := b) (by omega)) (nI_toInt (n := 1) (by decide)) dR_move_2 (by decide) (fun h2 => ?_) (fun h2 => ?_)
  · refine J_aload_n C 0 dR_move_7 rfl rfl ?_
    refine J_get C 0 2 hinR rfl rfl (by decide) fkR_26 rfl dR_move_8 ?_
    refine J_iload_n C 1 dR_move_11 rfl rfl ?_
    have hnb : ∀ qs, ¬ mP m nd (min b m) 0 qs (2 ^ (m - 1)) := fun qs q => hno qs (mP_more (Nat.min_le_left b m) qs 0 _ q)
    cases hkn : kn (min b m) with
    | none =>
      refine J_callV C (rest := []) [((ox), .inr (4, [.ref (hT), .ref (hF), .ref (hS)]))] ([((hS), .inr (2, [.int (nI (m)), .ref (e1), .ref (e2), .ref (e3), .ref (e4), .ref (e5), .int (nI (qd))])), kI E (e1) (12) (nd), kQ E (e2) (13) (kn), ((e3), .inr (1, [.ref (e8)])), kI E (e8) (0) (zz), kI E (e4) (ln) (lf), kI E (e5) (ln) (qu)] ++ pool) [] 0 (c_S_mw_ng E l hS m e1 e2 e3 e4 e5 qd e8 nd kn zz ln lf qu pool b (by assumption) (hln) (by omega) (by omega) (hk) (hkn) (hnb)) mmS_movesWithin msS_movesWithin lkR_84 rfl rfl (by simp) rfl rfl ⟨by decide, by decide⟩ ⟨by decide, by decide⟩ (Nat.le_of_ble_eq_true rfl) dR_move_12 (fun r_c w_c hp => ?_)
      obtain ⟨kn1, e41, e51, l1, n1, f1, u1, rfl, hl1, hml1, hk1, rfl⟩ := hp
      refine J_norm C (st' := [.ref (e3)]) (ws' := ([((ox), .inr (4, [.ref (hT), .ref (hF), .ref (hS)])), ((hS), .inr (2, [.int (nI (m)), .ref (e1), .ref (e2), .ref (e3), .ref (e41), .ref (e51), .int (nI (n1))])), kI E (e1) (12) (nd), kQ E (e2) (13) (kn1), ((e3), .inr (1, [.ref (e8)])), kI E (e8) (0) (zz), kI E (e41) (l1) (f1), kI E (e51) (l1) (u1)] ++ pool)) (cs' := 2) (ss' := 8192) rfl (by simp) rfl rfl ?_
      refine J_astore_n C (lv' := [(0, .ref (ox)), (1, .int (nI (b))), (2, .int (z)), (3, .ref (e3))]) [1, 2, 3, 0] dR_move_15 rfl (by decide) rfl ?_
      refine J_aload_n C 3 dR_move_16 rfl rfl ?_
      refine J_pickR C (cx := [((e3), .inr (1, [.ref (e8)])), kI E (e8) (0) (zz), ((ox), .inr (4, [.ref (hT), .ref (hF), .ref (hS)])), ((hS), .inr (2, [.int (nI (m)), .ref (e1), .ref (e2), .ref (e3), .ref (e41), .ref (e51), .int (nI (n1))])), kI E (e1) (12) (nd), kQ E (e2) (13) (kn1), kI E (e41) (l1) (f1), kI E (e51) (l1) (u1)]) [4, 5, 0, 1, 2, 3, 6, 7] (by decide) rfl ?_
      refine J_callV C (rest := []) [] [((e3), .inr (1, [.ref (e8)])), kI E (e8) (0) (zz)] ([((ox), .inr (4, [.ref (hT), .ref (hF), .ref (hS)])), ((hS), .inr (2, [.int (nI (m)), .ref (e1), .ref (e2), .ref (e3), .ref (e41), .ref (e51), .int (nI (n1))])), kI E (e1) (12) (nd), kQ E (e2) (13) (kn1), kI E (e41) (l1) (f1), kI E (e51) (l1) (u1)] ++ pool) 0 (c_V_length E l e3 e8 0 zz) mmV_length msV_length lkR_88 rfl rfl (rfl) rfl rfl ⟨by decide, by decide⟩ ⟨by decide, by decide⟩ (Nat.le_of_ble_eq_true rfl) dR_move_17 (fun r_c w_c hp => ?_)
      obtain ⟨rfl, rfl⟩ := hp
      refine J_norm C (st' := [.int (nI (0))]) (ws' := ([((e3), .inr (1, [.ref (e8)])), kI E (e8) (0) (zz), ((ox), .inr (4, [.ref (hT), .ref (hF), .ref (hS)])), ((hS), .inr (2, [.int (nI (m)), .ref (e1), .ref (e2), .ref (e3), .ref (e41), .ref (e51), .int (nI (n1))])), kI E (e1) (12) (nd), kQ E (e2) (13) (kn1), kI E (e41) (l1) (f1), kI E (e51) (l1) (u1)] ++ pool)) (cs' := 2) (ss' := 8192) rfl (rfl) rfl rfl ?_
      refine J_pickR C (cx := [((ox), .inr (4, [.ref (hT), .ref (hF), .ref (hS)])), ((hS), .inr (2, [.int (nI (m)), .ref (e1), .ref (e2), .ref (e3), .ref (e41), .ref (e51), .int (nI (n1))])), kI E (e1) (12) (nd), kQ E (e2) (13) (kn1), ((e3), .inr (1, [.ref (e8)])), kI E (e8) (0) (zz), kI E (e41) (l1) (f1), kI E (e51) (l1) (u1)]) [2, 3, 4, 5, 0, 1, 6, 7] (by decide) rfl ?_
      refine J_if_ne C 25 (nI_toInt (n := 0) (by decide)) dR_move_20 (by decide) (fun h20 => ?_) (fun h20 => ?_)
      · exfalso; omega
      · refine J_iconst C (v := -1) dR_move_23 (by decide) ?_
        exact hret _ _ _ _ _ _ dR_move_24 (by decide) (by decide) (⟨_, _, _, _, _, _, _, _, rfl, hl1, hk1, rfl⟩)
    | some a =>
      refine J_callV C (rest := []) [((ox), .inr (4, [.ref (hT), .ref (hF), .ref (hS)]))] ([((hS), .inr (2, [.int (nI (m)), .ref (e1), .ref (e2), .ref (e3), .ref (e4), .ref (e5), .int (nI (qd))])), kI E (e1) (12) (nd), kQ E (e2) (13) (kn), ((e3), .inr (1, [.ref (e8)])), kI E (e8) (0) (zz), kI E (e4) (ln) (lf), kI E (e5) (ln) (qu)] ++ pool) [] 0 (c_S_mw_sn E l hS m e1 e2 e3 e4 e5 qd e8 nd kn zz ln lf qu pool b a (by assumption) (hln) (by omega) (by omega) (hk) (hkn) (hnb)) mmS_movesWithin msS_movesWithin lkR_84 rfl rfl (by simp) rfl rfl ⟨by decide, by decide⟩ ⟨by decide, by decide⟩ (Nat.le_of_ble_eq_true rfl) dR_move_12 (fun r_c w_c hp => ?_)
      obtain ⟨rfl, rfl⟩ := hp
      refine J_norm C (st' := [.ref (e3)]) (ws' := ([((ox), .inr (4, [.ref (hT), .ref (hF), .ref (hS)])), ((hS), .inr (2, [.int (nI (m)), .ref (e1), .ref (e2), .ref (e3), .ref (e4), .ref (e5), .int (nI (qd))])), kI E (e1) (12) (nd), kQ E (e2) (13) (kn), ((e3), .inr (1, [.ref (e8)])), kI E (e8) (0) (zz), kI E (e4) (ln) (lf), kI E (e5) (ln) (qu)] ++ pool)) (cs' := 0) (ss' := 0) rfl (by simp) rfl rfl ?_
      refine J_astore_n C (lv' := [(0, .ref (ox)), (1, .int (nI (b))), (2, .int (z)), (3, .ref (e3))]) [1, 2, 3, 0] dR_move_15 rfl (by decide) rfl ?_
      refine J_aload_n C 3 dR_move_16 rfl rfl ?_
      refine J_pickR C (cx := [((e3), .inr (1, [.ref (e8)])), kI E (e8) (0) (zz), ((ox), .inr (4, [.ref (hT), .ref (hF), .ref (hS)])), ((hS), .inr (2, [.int (nI (m)), .ref (e1), .ref (e2), .ref (e3), .ref (e4), .ref (e5), .int (nI (qd))])), kI E (e1) (12) (nd), kQ E (e2) (13) (kn), kI E (e4) (ln) (lf), kI E (e5) (ln) (qu)]) [4, 5, 0, 1, 2, 3, 6, 7] (by decide) rfl ?_
      refine J_callV C (rest := []) [] [((e3), .inr (1, [.ref (e8)])), kI E (e8) (0) (zz)] ([((ox), .inr (4, [.ref (hT), .ref (hF), .ref (hS)])), ((hS), .inr (2, [.int (nI (m)), .ref (e1), .ref (e2), .ref (e3), .ref (e4), .ref (e5), .int (nI (qd))])), kI E (e1) (12) (nd), kQ E (e2) (13) (kn), kI E (e4) (ln) (lf), kI E (e5) (ln) (qu)] ++ pool) 0 (c_V_length E l e3 e8 0 zz) mmV_length msV_length lkR_88 rfl rfl (rfl) rfl rfl ⟨by decide, by decide⟩ ⟨by decide, by decide⟩ (Nat.le_of_ble_eq_true rfl) dR_move_17 (fun r_c w_c hp => ?_)
      obtain ⟨rfl, rfl⟩ := hp
      refine J_norm C (st' := [.int (nI (0))]) (ws' := ([((e3), .inr (1, [.ref (e8)])), kI E (e8) (0) (zz), ((ox), .inr (4, [.ref (hT), .ref (hF), .ref (hS)])), ((hS), .inr (2, [.int (nI (m)), .ref (e1), .ref (e2), .ref (e3), .ref (e4), .ref (e5), .int (nI (qd))])), kI E (e1) (12) (nd), kQ E (e2) (13) (kn), kI E (e4) (ln) (lf), kI E (e5) (ln) (qu)] ++ pool)) (cs' := 0) (ss' := 0) rfl (rfl) rfl rfl ?_
      refine J_pickR C (cx := [((ox), .inr (4, [.ref (hT), .ref (hF), .ref (hS)])), ((hS), .inr (2, [.int (nI (m)), .ref (e1), .ref (e2), .ref (e3), .ref (e4), .ref (e5), .int (nI (qd))])), kI E (e1) (12) (nd), kQ E (e2) (13) (kn), ((e3), .inr (1, [.ref (e8)])), kI E (e8) (0) (zz), kI E (e4) (ln) (lf), kI E (e5) (ln) (qu)]) [2, 3, 4, 5, 0, 1, 6, 7] (by decide) rfl ?_
      refine J_if_ne C 25 (nI_toInt (n := 0) (by decide)) dR_move_20 (by decide) (fun h20 => ?_) (fun h20 => ?_)
      · exfalso; omega
      · refine J_iconst C (v := -1) dR_move_23 (by decide) ?_
        exact hret _ _ _ _ _ _ dR_move_24 (by decide) (by decide) (⟨_, _, _, _, _, _, _, _, rfl, hln, hk, rfl⟩)
  · exfalso; omega
set_option maxHeartbeats 4000000 in
set_option maxRecDepth 100000 in
theorem c_R_move_m (E : jE) (l : Launch) (ox : Nat) (hT : Nat) (hF : Nat) (hS : Nat) (m : Nat) (e1 : Nat) (e2 : Nat) (e3 : Nat) (e4 : Nat) (e5 : Nat) (qd : Nat) (e8 : Nat) (nd : Nat → Nat) (kn : Nat → Option Nat) (zz : Nat → Nat) (ln : Nat) (lf : Nat → Nat) (qu : Nat → Nat) (pool : va_W) (b : Nat) (ps : List Nat) (hg : mG m nd) (hln : ln ≤ 4096) (hk : kOK E m nd kn e3 pool) (hb1 : 1 ≤ b) (hb31 : b < 2 ^ 31) (hsp : mSP m nd b ps) : Con E l yR_move bR_move 4 (some .int) { frames := 5, cells := 4, slots := 12289, locals := 122 } [.ref (ox), .int (nI (b)), .int (-1)] ([((ox), .inr (4, [.ref (hT), .ref (hF), .ref (hS)])), ((hS), .inr (2, [.int (nI (m)), .ref (e1), .ref (e2), .ref (e3), .ref (e4), .ref (e5), .int (nI (qd))])), kI E (e1) (12) (nd), kQ E (e2) (13) (kn), ((e3), .inr (1, [.ref (e8)])), kI E (e8) (0) (zz), kI E (e4) (ln) (lf), kI E (e5) (ln) (qu)] ++ pool) (fun r w => ∃ (kn1 : Nat → Option Nat) (e41 e51 l1 n1 : Nat) (f1 u1 : Nat → Nat) (pool1 : va_W), r = some (.int (nI ps.length)) ∧ l1 ≤ 4096 ∧ kOK E m nd kn1 e3 pool1 ∧ w = ([((ox), .inr (4, [.ref (hT), .ref (hF), .ref (hS)])), ((hS), .inr (2, [.int (nI (m)), .ref (e1), .ref (e2), .ref (e3), .ref (e41), .ref (e51), .int (nI (n1))])), kI E (e1) (12) (nd), kQ E (e2) (13) (kn1), ((e3), .inr (1, [.ref (e8)])), kI E (e8) (0) (zz), kI E (e41) (l1) (f1), kI E (e51) (l1) (u1)] ++ pool1)) := by
  refine Con.ofI (by decide) (Nat.le_of_ble_eq_true rfl) ?_
  intro J C hret
  show J 0 [(0, .ref (ox)), (1, .int (nI (b))), (2, .int (-1))] [] ([((ox), .inr (4, [.ref (hT), .ref (hF), .ref (hS)])), ((hS), .inr (2, [.int (nI (m)), .ref (e1), .ref (e2), .ref (e3), .ref (e4), .ref (e5), .int (nI (qd))])), kI E (e1) (12) (nd), kQ E (e2) (13) (kn), ((e3), .inr (1, [.ref (e8)])), kI E (e8) (0) (zz), kI E (e4) (ln) (lf), kI E (e5) (ln) (qu)] ++ pool) 0 0
  have hpos := mSP_pos hsp
  refine J_iload_n C 1 dR_move_0 rfl rfl ?_
  refine J_iconst C (v := nI (1)) dR_move_1 (by decide) ?_
  refine J_icmp_ge C 7 (nI_toInt (n := b) (by omega)) (nI_toInt (n := 1) (by decide)) dR_move_2 (by decide) (fun h2 => ?_) (fun h2 => ?_)
  · refine J_aload_n C 0 dR_move_7 rfl rfl ?_
    refine J_get C 0 2 hinR rfl rfl (by decide) fkR_26 rfl dR_move_8 ?_
    refine J_iload_n C 1 dR_move_11 rfl rfl ?_
    have hsb : mSP m nd (min b m) ps := (mSP_min hg.2.1 ps).mp hsp
    cases hkn : kn (min b m) with
    | none =>
      refine J_callV C (rest := []) [((ox), .inr (4, [.ref (hT), .ref (hF), .ref (hS)]))] ([((hS), .inr (2, [.int (nI (m)), .ref (e1), .ref (e2), .ref (e3), .ref (e4), .ref (e5), .int (nI (qd))])), kI E (e1) (12) (nd), kQ E (e2) (13) (kn), ((e3), .inr (1, [.ref (e8)])), kI E (e8) (0) (zz), kI E (e4) (ln) (lf), kI E (e5) (ln) (qu)] ++ pool) [] 0 (c_S_mw_pg E l hS m e1 e2 e3 e4 e5 qd e8 nd kn zz ln lf qu pool b ps (by assumption) (hln) (by omega) (by omega) (hk) (hkn) (hsb)) mmS_movesWithin msS_movesWithin lkR_84 rfl rfl (by simp) rfl rfl ⟨by decide, by decide⟩ ⟨by decide, by decide⟩ (Nat.le_of_ble_eq_true rfl) dR_move_12 (fun r_c w_c hp => ?_)
      obtain ⟨kn1, e41, e51, l1, n1, f1, u1, q1, r1, t1, rfl, hl1, hml1, hpl1, hgl1, hk1, rfl⟩ := hp
      refine J_norm C (st' := [.ref (q1)]) (ws' := ([((ox), .inr (4, [.ref (hT), .ref (hF), .ref (hS)])), ((hS), .inr (2, [.int (nI (m)), .ref (e1), .ref (e2), .ref (e3), .ref (e41), .ref (e51), .int (nI (n1))])), kI E (e1) (12) (nd), kQ E (e2) (13) (kn1), ((e3), .inr (1, [.ref (e8)])), kI E (e8) (0) (zz), kI E (e41) (l1) (f1), kI E (e51) (l1) (u1)] ++ ([] ++ ((q1), .inr (1, [.ref (r1)])) :: kI E (r1) (ps.length) (t1) :: pool))) (cs' := 4) (ss' := 12289) rfl (by simp) rfl rfl ?_
      refine J_perm C (ws' := ([((ox), .inr (4, [.ref (hT), .ref (hF), .ref (hS)])), ((hS), .inr (2, [.int (nI (m)), .ref (e1), .ref (e2), .ref (e3), .ref (e41), .ref (e51), .int (nI (n1))])), kI E (e1) (12) (nd), kQ E (e2) (13) (kn1), ((e3), .inr (1, [.ref (e8)])), kI E (e8) (0) (zz), kI E (e41) (l1) (f1), kI E (e51) (l1) (u1), ((q1), .inr (1, [.ref (r1)])), kI E (r1) (ps.length) (t1)] ++ ([] ++ pool))) (perm_in [((ox), .inr (4, [.ref (hT), .ref (hF), .ref (hS)])), ((hS), .inr (2, [.int (nI (m)), .ref (e1), .ref (e2), .ref (e3), .ref (e41), .ref (e51), .int (nI (n1))])), kI E (e1) (12) (nd), kQ E (e2) (13) (kn1), ((e3), .inr (1, [.ref (e8)])), kI E (e8) (0) (zz), kI E (e41) (l1) (f1), kI E (e51) (l1) (u1)] [] pool ((q1), .inr (1, [.ref (r1)])) (kI E (r1) (ps.length) (t1))) ?_
      refine J_astore_n C (lv' := [(0, .ref (ox)), (1, .int (nI (b))), (2, .int (-1)), (3, .ref (q1))]) [1, 2, 3, 0] dR_move_15 rfl (by decide) rfl ?_
      refine J_aload_n C 3 dR_move_16 rfl rfl ?_
      refine J_pickR C (cx := [((q1), .inr (1, [.ref (r1)])), kI E (r1) (ps.length) (t1), ((ox), .inr (4, [.ref (hT), .ref (hF), .ref (hS)])), ((hS), .inr (2, [.int (nI (m)), .ref (e1), .ref (e2), .ref (e3), .ref (e41), .ref (e51), .int (nI (n1))])), kI E (e1) (12) (nd), kQ E (e2) (13) (kn1), ((e3), .inr (1, [.ref (e8)])), kI E (e8) (0) (zz), kI E (e41) (l1) (f1), kI E (e51) (l1) (u1)]) [8, 9, 0, 1, 2, 3, 4, 5, 6, 7] (by decide) rfl ?_
      refine J_callV C (rest := []) [] [((q1), .inr (1, [.ref (r1)])), kI E (r1) (ps.length) (t1)] ([((ox), .inr (4, [.ref (hT), .ref (hF), .ref (hS)])), ((hS), .inr (2, [.int (nI (m)), .ref (e1), .ref (e2), .ref (e3), .ref (e41), .ref (e51), .int (nI (n1))])), kI E (e1) (12) (nd), kQ E (e2) (13) (kn1), ((e3), .inr (1, [.ref (e8)])), kI E (e8) (0) (zz), kI E (e41) (l1) (f1), kI E (e51) (l1) (u1)] ++ ([] ++ pool)) 0 (c_V_length E l q1 r1 ps.length t1) mmV_length msV_length lkR_88 rfl rfl (rfl) rfl rfl ⟨by decide, by decide⟩ ⟨by decide, by decide⟩ (Nat.le_of_ble_eq_true rfl) dR_move_17 (fun r_c w_c hp => ?_)
      obtain ⟨rfl, rfl⟩ := hp
      refine J_norm C (st' := [.int (nI (ps.length))]) (ws' := ([((q1), .inr (1, [.ref (r1)])), kI E (r1) (ps.length) (t1), ((ox), .inr (4, [.ref (hT), .ref (hF), .ref (hS)])), ((hS), .inr (2, [.int (nI (m)), .ref (e1), .ref (e2), .ref (e3), .ref (e41), .ref (e51), .int (nI (n1))])), kI E (e1) (12) (nd), kQ E (e2) (13) (kn1), ((e3), .inr (1, [.ref (e8)])), kI E (e8) (0) (zz), kI E (e41) (l1) (f1), kI E (e51) (l1) (u1)] ++ ([] ++ pool))) (cs' := 4) (ss' := 12289) rfl (rfl) rfl rfl ?_
      refine J_pickR C (cx := [((ox), .inr (4, [.ref (hT), .ref (hF), .ref (hS)])), ((hS), .inr (2, [.int (nI (m)), .ref (e1), .ref (e2), .ref (e3), .ref (e41), .ref (e51), .int (nI (n1))])), kI E (e1) (12) (nd), kQ E (e2) (13) (kn1), ((e3), .inr (1, [.ref (e8)])), kI E (e8) (0) (zz), kI E (e41) (l1) (f1), kI E (e51) (l1) (u1), ((q1), .inr (1, [.ref (r1)])), kI E (r1) (ps.length) (t1)]) [2, 3, 4, 5, 6, 7, 8, 9, 0, 1] (by decide) rfl ?_
      refine J_if_ne C 25 (nI_toInt (n := ps.length) (by omega)) dR_move_20 (by decide) (fun h20 => ?_) (fun h20 => ?_)
      · refine J_iload_n C 2 dR_move_25 rfl rfl ?_
        refine J_iconst C (v := -1) dR_move_26 (by decide) ?_
        refine J_icmp_ne C 37 j_m1 j_m1 dR_move_27 (by decide) (fun h27 => ?_) (fun h27 => ?_)
        · exfalso; omega
        · refine J_aload_n C 3 dR_move_30 rfl rfl ?_
          refine J_pickR C (cx := [((q1), .inr (1, [.ref (r1)])), kI E (r1) (ps.length) (t1), ((ox), .inr (4, [.ref (hT), .ref (hF), .ref (hS)])), ((hS), .inr (2, [.int (nI (m)), .ref (e1), .ref (e2), .ref (e3), .ref (e41), .ref (e51), .int (nI (n1))])), kI E (e1) (12) (nd), kQ E (e2) (13) (kn1), ((e3), .inr (1, [.ref (e8)])), kI E (e8) (0) (zz), kI E (e41) (l1) (f1), kI E (e51) (l1) (u1)]) [8, 9, 0, 1, 2, 3, 4, 5, 6, 7] (by decide) rfl ?_
          refine J_callV C (rest := []) [] [((q1), .inr (1, [.ref (r1)])), kI E (r1) (ps.length) (t1)] ([((ox), .inr (4, [.ref (hT), .ref (hF), .ref (hS)])), ((hS), .inr (2, [.int (nI (m)), .ref (e1), .ref (e2), .ref (e3), .ref (e41), .ref (e51), .int (nI (n1))])), kI E (e1) (12) (nd), kQ E (e2) (13) (kn1), ((e3), .inr (1, [.ref (e8)])), kI E (e8) (0) (zz), kI E (e41) (l1) (f1), kI E (e51) (l1) (u1)] ++ ([] ++ pool)) 0 (c_V_length E l q1 r1 ps.length t1) mmV_length msV_length lkR_88 rfl rfl (rfl) rfl rfl ⟨by decide, by decide⟩ ⟨by decide, by decide⟩ (Nat.le_of_ble_eq_true rfl) dR_move_31 (fun r_c w_c hp => ?_)
          obtain ⟨rfl, rfl⟩ := hp
          refine J_norm C (st' := [.int (nI (ps.length))]) (ws' := ([((q1), .inr (1, [.ref (r1)])), kI E (r1) (ps.length) (t1), ((ox), .inr (4, [.ref (hT), .ref (hF), .ref (hS)])), ((hS), .inr (2, [.int (nI (m)), .ref (e1), .ref (e2), .ref (e3), .ref (e41), .ref (e51), .int (nI (n1))])), kI E (e1) (12) (nd), kQ E (e2) (13) (kn1), ((e3), .inr (1, [.ref (e8)])), kI E (e8) (0) (zz), kI E (e41) (l1) (f1), kI E (e51) (l1) (u1)] ++ ([] ++ pool))) (cs' := 4) (ss' := 12289) rfl (rfl) rfl rfl ?_
          refine J_pickR C (cx := [((ox), .inr (4, [.ref (hT), .ref (hF), .ref (hS)])), ((hS), .inr (2, [.int (nI (m)), .ref (e1), .ref (e2), .ref (e3), .ref (e41), .ref (e51), .int (nI (n1))])), kI E (e1) (12) (nd), kQ E (e2) (13) (kn1), ((e3), .inr (1, [.ref (e8)])), kI E (e8) (0) (zz), kI E (e41) (l1) (f1), kI E (e51) (l1) (u1), ((q1), .inr (1, [.ref (r1)])), kI E (r1) (ps.length) (t1)]) [2, 3, 4, 5, 6, 7, 8, 9, 0, 1] (by decide) rfl ?_
          refine J_goto C 42 dR_move_34 (by decide) ?_
          refine J_perm C (ws' := ([((ox), .inr (4, [.ref (hT), .ref (hF), .ref (hS)])), ((hS), .inr (2, [.int (nI (m)), .ref (e1), .ref (e2), .ref (e3), .ref (e41), .ref (e51), .int (nI (n1))])), kI E (e1) (12) (nd), kQ E (e2) (13) (kn1), ((e3), .inr (1, [.ref (e8)])), kI E (e8) (0) (zz), kI E (e41) (l1) (f1), kI E (e51) (l1) (u1)] ++ ([] ++ ((q1), .inr (1, [.ref (r1)])) :: kI E (r1) (ps.length) (t1) :: pool))) (perm_out [((ox), .inr (4, [.ref (hT), .ref (hF), .ref (hS)])), ((hS), .inr (2, [.int (nI (m)), .ref (e1), .ref (e2), .ref (e3), .ref (e41), .ref (e51), .int (nI (n1))])), kI E (e1) (12) (nd), kQ E (e2) (13) (kn1), ((e3), .inr (1, [.ref (e8)])), kI E (e8) (0) (zz), kI E (e41) (l1) (f1), kI E (e51) (l1) (u1)] [] pool ((q1), .inr (1, [.ref (r1)])) (kI E (r1) (ps.length) (t1))) ?_
          exact hret _ _ _ _ _ _ dR_move_42 (by decide) (by decide) (⟨_, _, _, _, _, _, _, _, rfl, hl1, hk1, rfl⟩)
      · exfalso; omega
    | some a =>
      refine J_callV C (rest := []) [((ox), .inr (4, [.ref (hT), .ref (hF), .ref (hS)]))] ([((hS), .inr (2, [.int (nI (m)), .ref (e1), .ref (e2), .ref (e3), .ref (e4), .ref (e5), .int (nI (qd))])), kI E (e1) (12) (nd), kQ E (e2) (13) (kn), ((e3), .inr (1, [.ref (e8)])), kI E (e8) (0) (zz), kI E (e4) (ln) (lf), kI E (e5) (ln) (qu)] ++ pool) [] 0 (c_S_mw_sp E l hS m e1 e2 e3 e4 e5 qd e8 nd kn zz ln lf qu pool b a ps (by assumption) (hln) (by omega) (by omega) (hk) (hkn) (hsb)) mmS_movesWithin msS_movesWithin lkR_84 rfl rfl (by simp) rfl rfl ⟨by decide, by decide⟩ ⟨by decide, by decide⟩ (Nat.le_of_ble_eq_true rfl) dR_move_12 (fun r_c w_c hp => ?_)
      obtain ⟨P1, P2, r1, t1, rfl, hpool1, hpl1, hgl1, rfl⟩ := hp
      refine J_norm C (st' := [.ref (a)]) (ws' := ([((ox), .inr (4, [.ref (hT), .ref (hF), .ref (hS)])), ((hS), .inr (2, [.int (nI (m)), .ref (e1), .ref (e2), .ref (e3), .ref (e4), .ref (e5), .int (nI (qd))])), kI E (e1) (12) (nd), kQ E (e2) (13) (kn), ((e3), .inr (1, [.ref (e8)])), kI E (e8) (0) (zz), kI E (e4) (ln) (lf), kI E (e5) (ln) (qu)] ++ pool)) (cs' := 0) (ss' := 0) rfl (by simp) rfl rfl ?_
      subst hpool1
      refine J_perm C (ws' := ([((ox), .inr (4, [.ref (hT), .ref (hF), .ref (hS)])), ((hS), .inr (2, [.int (nI (m)), .ref (e1), .ref (e2), .ref (e3), .ref (e4), .ref (e5), .int (nI (qd))])), kI E (e1) (12) (nd), kQ E (e2) (13) (kn), ((e3), .inr (1, [.ref (e8)])), kI E (e8) (0) (zz), kI E (e4) (ln) (lf), kI E (e5) (ln) (qu), ((a), .inr (1, [.ref (r1)])), kI E (r1) (ps.length) (t1)] ++ (P1 ++ P2))) (perm_in [((ox), .inr (4, [.ref (hT), .ref (hF), .ref (hS)])), ((hS), .inr (2, [.int (nI (m)), .ref (e1), .ref (e2), .ref (e3), .ref (e4), .ref (e5), .int (nI (qd))])), kI E (e1) (12) (nd), kQ E (e2) (13) (kn), ((e3), .inr (1, [.ref (e8)])), kI E (e8) (0) (zz), kI E (e4) (ln) (lf), kI E (e5) (ln) (qu)] P1 P2 ((a), .inr (1, [.ref (r1)])) (kI E (r1) (ps.length) (t1))) ?_
      refine J_astore_n C (lv' := [(0, .ref (ox)), (1, .int (nI (b))), (2, .int (-1)), (3, .ref (a))]) [1, 2, 3, 0] dR_move_15 rfl (by decide) rfl ?_
      refine J_aload_n C 3 dR_move_16 rfl rfl ?_
      refine J_pickR C (cx := [((a), .inr (1, [.ref (r1)])), kI E (r1) (ps.length) (t1), ((ox), .inr (4, [.ref (hT), .ref (hF), .ref (hS)])), ((hS), .inr (2, [.int (nI (m)), .ref (e1), .ref (e2), .ref (e3), .ref (e4), .ref (e5), .int (nI (qd))])), kI E (e1) (12) (nd), kQ E (e2) (13) (kn), ((e3), .inr (1, [.ref (e8)])), kI E (e8) (0) (zz), kI E (e4) (ln) (lf), kI E (e5) (ln) (qu)]) [8, 9, 0, 1, 2, 3, 4, 5, 6, 7] (by decide) rfl ?_
      refine J_callV C (rest := []) [] [((a), .inr (1, [.ref (r1)])), kI E (r1) (ps.length) (t1)] ([((ox), .inr (4, [.ref (hT), .ref (hF), .ref (hS)])), ((hS), .inr (2, [.int (nI (m)), .ref (e1), .ref (e2), .ref (e3), .ref (e4), .ref (e5), .int (nI (qd))])), kI E (e1) (12) (nd), kQ E (e2) (13) (kn), ((e3), .inr (1, [.ref (e8)])), kI E (e8) (0) (zz), kI E (e4) (ln) (lf), kI E (e5) (ln) (qu)] ++ (P1 ++ P2)) 0 (c_V_length E l a r1 ps.length t1) mmV_length msV_length lkR_88 rfl rfl (rfl) rfl rfl ⟨by decide, by decide⟩ ⟨by decide, by decide⟩ (Nat.le_of_ble_eq_true rfl) dR_move_17 (fun r_c w_c hp => ?_)
      obtain ⟨rfl, rfl⟩ := hp
      refine J_norm C (st' := [.int (nI (ps.length))]) (ws' := ([((a), .inr (1, [.ref (r1)])), kI E (r1) (ps.length) (t1), ((ox), .inr (4, [.ref (hT), .ref (hF), .ref (hS)])), ((hS), .inr (2, [.int (nI (m)), .ref (e1), .ref (e2), .ref (e3), .ref (e4), .ref (e5), .int (nI (qd))])), kI E (e1) (12) (nd), kQ E (e2) (13) (kn), ((e3), .inr (1, [.ref (e8)])), kI E (e8) (0) (zz), kI E (e4) (ln) (lf), kI E (e5) (ln) (qu)] ++ (P1 ++ P2))) (cs' := 0) (ss' := 0) rfl (rfl) rfl rfl ?_
      refine J_pickR C (cx := [((ox), .inr (4, [.ref (hT), .ref (hF), .ref (hS)])), ((hS), .inr (2, [.int (nI (m)), .ref (e1), .ref (e2), .ref (e3), .ref (e4), .ref (e5), .int (nI (qd))])), kI E (e1) (12) (nd), kQ E (e2) (13) (kn), ((e3), .inr (1, [.ref (e8)])), kI E (e8) (0) (zz), kI E (e4) (ln) (lf), kI E (e5) (ln) (qu), ((a), .inr (1, [.ref (r1)])), kI E (r1) (ps.length) (t1)]) [2, 3, 4, 5, 6, 7, 8, 9, 0, 1] (by decide) rfl ?_
      refine J_if_ne C 25 (nI_toInt (n := ps.length) (by omega)) dR_move_20 (by decide) (fun h20 => ?_) (fun h20 => ?_)
      · refine J_iload_n C 2 dR_move_25 rfl rfl ?_
        refine J_iconst C (v := -1) dR_move_26 (by decide) ?_
        refine J_icmp_ne C 37 j_m1 j_m1 dR_move_27 (by decide) (fun h27 => ?_) (fun h27 => ?_)
        · exfalso; omega
        · refine J_aload_n C 3 dR_move_30 rfl rfl ?_
          refine J_pickR C (cx := [((a), .inr (1, [.ref (r1)])), kI E (r1) (ps.length) (t1), ((ox), .inr (4, [.ref (hT), .ref (hF), .ref (hS)])), ((hS), .inr (2, [.int (nI (m)), .ref (e1), .ref (e2), .ref (e3), .ref (e4), .ref (e5), .int (nI (qd))])), kI E (e1) (12) (nd), kQ E (e2) (13) (kn), ((e3), .inr (1, [.ref (e8)])), kI E (e8) (0) (zz), kI E (e4) (ln) (lf), kI E (e5) (ln) (qu)]) [8, 9, 0, 1, 2, 3, 4, 5, 6, 7] (by decide) rfl ?_
          refine J_callV C (rest := []) [] [((a), .inr (1, [.ref (r1)])), kI E (r1) (ps.length) (t1)] ([((ox), .inr (4, [.ref (hT), .ref (hF), .ref (hS)])), ((hS), .inr (2, [.int (nI (m)), .ref (e1), .ref (e2), .ref (e3), .ref (e4), .ref (e5), .int (nI (qd))])), kI E (e1) (12) (nd), kQ E (e2) (13) (kn), ((e3), .inr (1, [.ref (e8)])), kI E (e8) (0) (zz), kI E (e4) (ln) (lf), kI E (e5) (ln) (qu)] ++ (P1 ++ P2)) 0 (c_V_length E l a r1 ps.length t1) mmV_length msV_length lkR_88 rfl rfl (rfl) rfl rfl ⟨by decide, by decide⟩ ⟨by decide, by decide⟩ (Nat.le_of_ble_eq_true rfl) dR_move_31 (fun r_c w_c hp => ?_)
          obtain ⟨rfl, rfl⟩ := hp
          refine J_norm C (st' := [.int (nI (ps.length))]) (ws' := ([((a), .inr (1, [.ref (r1)])), kI E (r1) (ps.length) (t1), ((ox), .inr (4, [.ref (hT), .ref (hF), .ref (hS)])), ((hS), .inr (2, [.int (nI (m)), .ref (e1), .ref (e2), .ref (e3), .ref (e4), .ref (e5), .int (nI (qd))])), kI E (e1) (12) (nd), kQ E (e2) (13) (kn), ((e3), .inr (1, [.ref (e8)])), kI E (e8) (0) (zz), kI E (e4) (ln) (lf), kI E (e5) (ln) (qu)] ++ (P1 ++ P2))) (cs' := 0) (ss' := 0) rfl (rfl) rfl rfl ?_
          refine J_pickR C (cx := [((ox), .inr (4, [.ref (hT), .ref (hF), .ref (hS)])), ((hS), .inr (2, [.int (nI (m)), .ref (e1), .ref (e2), .ref (e3), .ref (e4), .ref (e5), .int (nI (qd))])), kI E (e1) (12) (nd), kQ E (e2) (13) (kn), ((e3), .inr (1, [.ref (e8)])), kI E (e8) (0) (zz), kI E (e4) (ln) (lf), kI E (e5) (ln) (qu), ((a), .inr (1, [.ref (r1)])), kI E (r1) (ps.length) (t1)]) [2, 3, 4, 5, 6, 7, 8, 9, 0, 1] (by decide) rfl ?_
          refine J_goto C 42 dR_move_34 (by decide) ?_
          refine J_perm C (ws' := ([((ox), .inr (4, [.ref (hT), .ref (hF), .ref (hS)])), ((hS), .inr (2, [.int (nI (m)), .ref (e1), .ref (e2), .ref (e3), .ref (e4), .ref (e5), .int (nI (qd))])), kI E (e1) (12) (nd), kQ E (e2) (13) (kn), ((e3), .inr (1, [.ref (e8)])), kI E (e8) (0) (zz), kI E (e4) (ln) (lf), kI E (e5) (ln) (qu)] ++ (P1 ++ ((a), .inr (1, [.ref (r1)])) :: kI E (r1) (ps.length) (t1) :: P2))) (perm_out [((ox), .inr (4, [.ref (hT), .ref (hF), .ref (hS)])), ((hS), .inr (2, [.int (nI (m)), .ref (e1), .ref (e2), .ref (e3), .ref (e4), .ref (e5), .int (nI (qd))])), kI E (e1) (12) (nd), kQ E (e2) (13) (kn), ((e3), .inr (1, [.ref (e8)])), kI E (e8) (0) (zz), kI E (e4) (ln) (lf), kI E (e5) (ln) (qu)] P1 P2 ((a), .inr (1, [.ref (r1)])) (kI E (r1) (ps.length) (t1))) ?_
          exact hret _ _ _ _ _ _ dR_move_42 (by decide) (by decide) (⟨_, _, _, _, _, _, _, _, rfl, hln, hk, rfl⟩)
      · exfalso; omega
  · exfalso; omega
set_option maxHeartbeats 4000000 in
set_option maxRecDepth 100000 in
theorem c_R_move_k (E : jE) (l : Launch) (ox : Nat) (hT : Nat) (hF : Nat) (hS : Nat) (m : Nat) (e1 : Nat) (e2 : Nat) (e3 : Nat) (e4 : Nat) (e5 : Nat) (qd : Nat) (e8 : Nat) (nd : Nat → Nat) (kn : Nat → Option Nat) (zz : Nat → Nat) (ln : Nat) (lf : Nat → Nat) (qu : Nat → Nat) (pool : va_W) (b : Nat) (ps : List Nat) (k : Nat) (hg : mG m nd) (hln : ln ≤ 4096) (hk : kOK E m nd kn e3 pool) (hb1 : 1 ≤ b) (hb31 : b < 2 ^ 31) (hsp : mSP m nd b ps) (hkl : k < ps.length) : Con E l yR_move bR_move 4 (some .int) { frames := 5, cells := 4, slots := 12289, locals := 122 } [.ref (ox), .int (nI (b)), .int (nI (k))] ([((ox), .inr (4, [.ref (hT), .ref (hF), .ref (hS)])), ((hS), .inr (2, [.int (nI (m)), .ref (e1), .ref (e2), .ref (e3), .ref (e4), .ref (e5), .int (nI (qd))])), kI E (e1) (12) (nd), kQ E (e2) (13) (kn), ((e3), .inr (1, [.ref (e8)])), kI E (e8) (0) (zz), kI E (e4) (ln) (lf), kI E (e5) (ln) (qu)] ++ pool) (fun r w => ∃ (kn1 : Nat → Option Nat) (e41 e51 l1 n1 : Nat) (f1 u1 : Nat → Nat) (pool1 : va_W), r = some (.int (nI (ps.getD k 0))) ∧ l1 ≤ 4096 ∧ kOK E m nd kn1 e3 pool1 ∧ w = ([((ox), .inr (4, [.ref (hT), .ref (hF), .ref (hS)])), ((hS), .inr (2, [.int (nI (m)), .ref (e1), .ref (e2), .ref (e3), .ref (e41), .ref (e51), .int (nI (n1))])), kI E (e1) (12) (nd), kQ E (e2) (13) (kn1), ((e3), .inr (1, [.ref (e8)])), kI E (e8) (0) (zz), kI E (e41) (l1) (f1), kI E (e51) (l1) (u1)] ++ pool1)) := by
  refine Con.ofI (by decide) (Nat.le_of_ble_eq_true rfl) ?_
  intro J C hret
  show J 0 [(0, .ref (ox)), (1, .int (nI (b))), (2, .int (nI (k)))] [] ([((ox), .inr (4, [.ref (hT), .ref (hF), .ref (hS)])), ((hS), .inr (2, [.int (nI (m)), .ref (e1), .ref (e2), .ref (e3), .ref (e4), .ref (e5), .int (nI (qd))])), kI E (e1) (12) (nd), kQ E (e2) (13) (kn), ((e3), .inr (1, [.ref (e8)])), kI E (e8) (0) (zz), kI E (e4) (ln) (lf), kI E (e5) (ln) (qu)] ++ pool) 0 0
  have hpos := mSP_pos hsp
  refine J_iload_n C 1 dR_move_0 rfl rfl ?_
  refine J_iconst C (v := nI (1)) dR_move_1 (by decide) ?_
  refine J_icmp_ge C 7 (nI_toInt (n := b) (by omega)) (nI_toInt (n := 1) (by decide)) dR_move_2 (by decide) (fun h2 => ?_) (fun h2 => ?_)
  · refine J_aload_n C 0 dR_move_7 rfl rfl ?_
    refine J_get C 0 2 hinR rfl rfl (by decide) fkR_26 rfl dR_move_8 ?_
    refine J_iload_n C 1 dR_move_11 rfl rfl ?_
    have hsb : mSP m nd (min b m) ps := (mSP_min hg.2.1 ps).mp hsp
    cases hkn : kn (min b m) with
    | none =>
      refine J_callV C (rest := []) [((ox), .inr (4, [.ref (hT), .ref (hF), .ref (hS)]))] ([((hS), .inr (2, [.int (nI (m)), .ref (e1), .ref (e2), .ref (e3), .ref (e4), .ref (e5), .int (nI (qd))])), kI E (e1) (12) (nd), kQ E (e2) (13) (kn), ((e3), .inr (1, [.ref (e8)])), kI E (e8) (0) (zz), kI E (e4) (ln) (lf), kI E (e5) (ln) (qu)] ++ pool) [] 0 (c_S_mw_pg E l hS m e1 e2 e3 e4 e5 qd e8 nd kn zz ln lf qu pool b ps (by assumption) (hln) (by omega) (by omega) (hk) (hkn) (hsb)) mmS_movesWithin msS_movesWithin lkR_84 rfl rfl (by simp) rfl rfl ⟨by decide, by decide⟩ ⟨by decide, by decide⟩ (Nat.le_of_ble_eq_true rfl) dR_move_12 (fun r_c w_c hp => ?_)
      obtain ⟨kn1, e41, e51, l1, n1, f1, u1, q1, r1, t1, rfl, hl1, hml1, hpl1, hgl1, hk1, rfl⟩ := hp
      refine J_norm C (st' := [.ref (q1)]) (ws' := ([((ox), .inr (4, [.ref (hT), .ref (hF), .ref (hS)])), ((hS), .inr (2, [.int (nI (m)), .ref (e1), .ref (e2), .ref (e3), .ref (e41), .ref (e51), .int (nI (n1))])), kI E (e1) (12) (nd), kQ E (e2) (13) (kn1), ((e3), .inr (1, [.ref (e8)])), kI E (e8) (0) (zz), kI E (e41) (l1) (f1), kI E (e51) (l1) (u1)] ++ ([] ++ ((q1), .inr (1, [.ref (r1)])) :: kI E (r1) (ps.length) (t1) :: pool))) (cs' := 4) (ss' := 12289) rfl (by simp) rfl rfl ?_
      refine J_perm C (ws' := ([((ox), .inr (4, [.ref (hT), .ref (hF), .ref (hS)])), ((hS), .inr (2, [.int (nI (m)), .ref (e1), .ref (e2), .ref (e3), .ref (e41), .ref (e51), .int (nI (n1))])), kI E (e1) (12) (nd), kQ E (e2) (13) (kn1), ((e3), .inr (1, [.ref (e8)])), kI E (e8) (0) (zz), kI E (e41) (l1) (f1), kI E (e51) (l1) (u1), ((q1), .inr (1, [.ref (r1)])), kI E (r1) (ps.length) (t1)] ++ ([] ++ pool))) (perm_in [((ox), .inr (4, [.ref (hT), .ref (hF), .ref (hS)])), ((hS), .inr (2, [.int (nI (m)), .ref (e1), .ref (e2), .ref (e3), .ref (e41), .ref (e51), .int (nI (n1))])), kI E (e1) (12) (nd), kQ E (e2) (13) (kn1), ((e3), .inr (1, [.ref (e8)])), kI E (e8) (0) (zz), kI E (e41) (l1) (f1), kI E (e51) (l1) (u1)] [] pool ((q1), .inr (1, [.ref (r1)])) (kI E (r1) (ps.length) (t1))) ?_
      refine J_astore_n C (lv' := [(0, .ref (ox)), (1, .int (nI (b))), (2, .int (nI (k))), (3, .ref (q1))]) [1, 2, 3, 0] dR_move_15 rfl (by decide) rfl ?_
      refine J_aload_n C 3 dR_move_16 rfl rfl ?_
      refine J_pickR C (cx := [((q1), .inr (1, [.ref (r1)])), kI E (r1) (ps.length) (t1), ((ox), .inr (4, [.ref (hT), .ref (hF), .ref (hS)])), ((hS), .inr (2, [.int (nI (m)), .ref (e1), .ref (e2), .ref (e3), .ref (e41), .ref (e51), .int (nI (n1))])), kI E (e1) (12) (nd), kQ E (e2) (13) (kn1), ((e3), .inr (1, [.ref (e8)])), kI E (e8) (0) (zz), kI E (e41) (l1) (f1), kI E (e51) (l1) (u1)]) [8, 9, 0, 1, 2, 3, 4, 5, 6, 7] (by decide) rfl ?_
      refine J_callV C (rest := []) [] [((q1), .inr (1, [.ref (r1)])), kI E (r1) (ps.length) (t1)] ([((ox), .inr (4, [.ref (hT), .ref (hF), .ref (hS)])), ((hS), .inr (2, [.int (nI (m)), .ref (e1), .ref (e2), .ref (e3), .ref (e41), .ref (e51), .int (nI (n1))])), kI E (e1) (12) (nd), kQ E (e2) (13) (kn1), ((e3), .inr (1, [.ref (e8)])), kI E (e8) (0) (zz), kI E (e41) (l1) (f1), kI E (e51) (l1) (u1)] ++ ([] ++ pool)) 0 (c_V_length E l q1 r1 ps.length t1) mmV_length msV_length lkR_88 rfl rfl (rfl) rfl rfl ⟨by decide, by decide⟩ ⟨by decide, by decide⟩ (Nat.le_of_ble_eq_true rfl) dR_move_17 (fun r_c w_c hp => ?_)
      obtain ⟨rfl, rfl⟩ := hp
      refine J_norm C (st' := [.int (nI (ps.length))]) (ws' := ([((q1), .inr (1, [.ref (r1)])), kI E (r1) (ps.length) (t1), ((ox), .inr (4, [.ref (hT), .ref (hF), .ref (hS)])), ((hS), .inr (2, [.int (nI (m)), .ref (e1), .ref (e2), .ref (e3), .ref (e41), .ref (e51), .int (nI (n1))])), kI E (e1) (12) (nd), kQ E (e2) (13) (kn1), ((e3), .inr (1, [.ref (e8)])), kI E (e8) (0) (zz), kI E (e41) (l1) (f1), kI E (e51) (l1) (u1)] ++ ([] ++ pool))) (cs' := 4) (ss' := 12289) rfl (rfl) rfl rfl ?_
      refine J_pickR C (cx := [((ox), .inr (4, [.ref (hT), .ref (hF), .ref (hS)])), ((hS), .inr (2, [.int (nI (m)), .ref (e1), .ref (e2), .ref (e3), .ref (e41), .ref (e51), .int (nI (n1))])), kI E (e1) (12) (nd), kQ E (e2) (13) (kn1), ((e3), .inr (1, [.ref (e8)])), kI E (e8) (0) (zz), kI E (e41) (l1) (f1), kI E (e51) (l1) (u1), ((q1), .inr (1, [.ref (r1)])), kI E (r1) (ps.length) (t1)]) [2, 3, 4, 5, 6, 7, 8, 9, 0, 1] (by decide) rfl ?_
      refine J_if_ne C 25 (nI_toInt (n := ps.length) (by omega)) dR_move_20 (by decide) (fun h20 => ?_) (fun h20 => ?_)
      · refine J_iload_n C 2 dR_move_25 rfl rfl ?_
        refine J_iconst C (v := -1) dR_move_26 (by decide) ?_
        refine J_icmp_ne C 37 (nI_toInt (n := k) (by omega)) j_m1 dR_move_27 (by decide) (fun h27 => ?_) (fun h27 => ?_)
        · refine J_aload_n C 3 dR_move_37 rfl rfl ?_
          refine J_iload_n C 2 dR_move_38 rfl rfl ?_
          refine J_pickR C (cx := [((q1), .inr (1, [.ref (r1)])), kI E (r1) (ps.length) (t1), ((ox), .inr (4, [.ref (hT), .ref (hF), .ref (hS)])), ((hS), .inr (2, [.int (nI (m)), .ref (e1), .ref (e2), .ref (e3), .ref (e41), .ref (e51), .int (nI (n1))])), kI E (e1) (12) (nd), kQ E (e2) (13) (kn1), ((e3), .inr (1, [.ref (e8)])), kI E (e8) (0) (zz), kI E (e41) (l1) (f1), kI E (e51) (l1) (u1)]) [8, 9, 0, 1, 2, 3, 4, 5, 6, 7] (by decide) rfl ?_
          refine J_callV C (rest := []) [] [((q1), .inr (1, [.ref (r1)])), kI E (r1) (ps.length) (t1)] ([((ox), .inr (4, [.ref (hT), .ref (hF), .ref (hS)])), ((hS), .inr (2, [.int (nI (m)), .ref (e1), .ref (e2), .ref (e3), .ref (e41), .ref (e51), .int (nI (n1))])), kI E (e1) (12) (nd), kQ E (e2) (13) (kn1), ((e3), .inr (1, [.ref (e8)])), kI E (e8) (0) (zz), kI E (e41) (l1) (f1), kI E (e51) (l1) (u1)] ++ ([] ++ pool)) 0 (c_V_at_t E l q1 r1 ps.length t1 k (hpl1) (hkl)) mmV_at msV_at lkR_93 rfl rfl (rfl) rfl rfl ⟨by decide, by decide⟩ ⟨by decide, by decide⟩ (Nat.le_of_ble_eq_true rfl) dR_move_39 (fun r_c w_c hp => ?_)
          obtain ⟨rfl, rfl⟩ := hp
          refine J_norm C (st' := [.int (nI (t1 k))]) (ws' := ([((q1), .inr (1, [.ref (r1)])), kI E (r1) (ps.length) (t1), ((ox), .inr (4, [.ref (hT), .ref (hF), .ref (hS)])), ((hS), .inr (2, [.int (nI (m)), .ref (e1), .ref (e2), .ref (e3), .ref (e41), .ref (e51), .int (nI (n1))])), kI E (e1) (12) (nd), kQ E (e2) (13) (kn1), ((e3), .inr (1, [.ref (e8)])), kI E (e8) (0) (zz), kI E (e41) (l1) (f1), kI E (e51) (l1) (u1)] ++ ([] ++ pool))) (cs' := 4) (ss' := 12289) rfl (rfl) rfl rfl ?_
          refine J_pickR C (cx := [((ox), .inr (4, [.ref (hT), .ref (hF), .ref (hS)])), ((hS), .inr (2, [.int (nI (m)), .ref (e1), .ref (e2), .ref (e3), .ref (e41), .ref (e51), .int (nI (n1))])), kI E (e1) (12) (nd), kQ E (e2) (13) (kn1), ((e3), .inr (1, [.ref (e8)])), kI E (e8) (0) (zz), kI E (e41) (l1) (f1), kI E (e51) (l1) (u1), ((q1), .inr (1, [.ref (r1)])), kI E (r1) (ps.length) (t1)]) [2, 3, 4, 5, 6, 7, 8, 9, 0, 1] (by decide) rfl ?_
          refine J_perm C (ws' := ([((ox), .inr (4, [.ref (hT), .ref (hF), .ref (hS)])), ((hS), .inr (2, [.int (nI (m)), .ref (e1), .ref (e2), .ref (e3), .ref (e41), .ref (e51), .int (nI (n1))])), kI E (e1) (12) (nd), kQ E (e2) (13) (kn1), ((e3), .inr (1, [.ref (e8)])), kI E (e8) (0) (zz), kI E (e41) (l1) (f1), kI E (e51) (l1) (u1)] ++ ([] ++ ((q1), .inr (1, [.ref (r1)])) :: kI E (r1) (ps.length) (t1) :: pool))) (perm_out [((ox), .inr (4, [.ref (hT), .ref (hF), .ref (hS)])), ((hS), .inr (2, [.int (nI (m)), .ref (e1), .ref (e2), .ref (e3), .ref (e41), .ref (e51), .int (nI (n1))])), kI E (e1) (12) (nd), kQ E (e2) (13) (kn1), ((e3), .inr (1, [.ref (e8)])), kI E (e8) (0) (zz), kI E (e41) (l1) (f1), kI E (e51) (l1) (u1)] [] pool ((q1), .inr (1, [.ref (r1)])) (kI E (r1) (ps.length) (t1))) ?_
          exact hret _ _ _ _ _ _ dR_move_42 (by decide) (by decide) (⟨_, _, _, _, _, _, _, _, by rw [hgl1 k hkl], hl1, hk1, rfl⟩)
        · exfalso; omega
      · exfalso; omega
    | some a =>
      refine J_callV C (rest := []) [((ox), .inr (4, [.ref (hT), .ref (hF), .ref (hS)]))] ([((hS), .inr (2, [.int (nI (m)), .ref (e1), .ref (e2), .ref (e3), .ref (e4), .ref (e5), .int (nI (qd))])), kI E (e1) (12) (nd), kQ E (e2) (13) (kn), ((e3), .inr (1, [.ref (e8)])), kI E (e8) (0) (zz), kI E (e4) (ln) (lf), kI E (e5) (ln) (qu)] ++ pool) [] 0 (c_S_mw_sp E l hS m e1 e2 e3 e4 e5 qd e8 nd kn zz ln lf qu pool b a ps (by assumption) (hln) (by omega) (by omega) (hk) (hkn) (hsb)) mmS_movesWithin msS_movesWithin lkR_84 rfl rfl (by simp) rfl rfl ⟨by decide, by decide⟩ ⟨by decide, by decide⟩ (Nat.le_of_ble_eq_true rfl) dR_move_12 (fun r_c w_c hp => ?_)
      obtain ⟨P1, P2, r1, t1, rfl, hpool1, hpl1, hgl1, rfl⟩ := hp
      refine J_norm C (st' := [.ref (a)]) (ws' := ([((ox), .inr (4, [.ref (hT), .ref (hF), .ref (hS)])), ((hS), .inr (2, [.int (nI (m)), .ref (e1), .ref (e2), .ref (e3), .ref (e4), .ref (e5), .int (nI (qd))])), kI E (e1) (12) (nd), kQ E (e2) (13) (kn), ((e3), .inr (1, [.ref (e8)])), kI E (e8) (0) (zz), kI E (e4) (ln) (lf), kI E (e5) (ln) (qu)] ++ pool)) (cs' := 0) (ss' := 0) rfl (by simp) rfl rfl ?_
      subst hpool1
      refine J_perm C (ws' := ([((ox), .inr (4, [.ref (hT), .ref (hF), .ref (hS)])), ((hS), .inr (2, [.int (nI (m)), .ref (e1), .ref (e2), .ref (e3), .ref (e4), .ref (e5), .int (nI (qd))])), kI E (e1) (12) (nd), kQ E (e2) (13) (kn), ((e3), .inr (1, [.ref (e8)])), kI E (e8) (0) (zz), kI E (e4) (ln) (lf), kI E (e5) (ln) (qu), ((a), .inr (1, [.ref (r1)])), kI E (r1) (ps.length) (t1)] ++ (P1 ++ P2))) (perm_in [((ox), .inr (4, [.ref (hT), .ref (hF), .ref (hS)])), ((hS), .inr (2, [.int (nI (m)), .ref (e1), .ref (e2), .ref (e3), .ref (e4), .ref (e5), .int (nI (qd))])), kI E (e1) (12) (nd), kQ E (e2) (13) (kn), ((e3), .inr (1, [.ref (e8)])), kI E (e8) (0) (zz), kI E (e4) (ln) (lf), kI E (e5) (ln) (qu)] P1 P2 ((a), .inr (1, [.ref (r1)])) (kI E (r1) (ps.length) (t1))) ?_
      refine J_astore_n C (lv' := [(0, .ref (ox)), (1, .int (nI (b))), (2, .int (nI (k))), (3, .ref (a))]) [1, 2, 3, 0] dR_move_15 rfl (by decide) rfl ?_
      refine J_aload_n C 3 dR_move_16 rfl rfl ?_
      refine J_pickR C (cx := [((a), .inr (1, [.ref (r1)])), kI E (r1) (ps.length) (t1), ((ox), .inr (4, [.ref (hT), .ref (hF), .ref (hS)])), ((hS), .inr (2, [.int (nI (m)), .ref (e1), .ref (e2), .ref (e3), .ref (e4), .ref (e5), .int (nI (qd))])), kI E (e1) (12) (nd), kQ E (e2) (13) (kn), ((e3), .inr (1, [.ref (e8)])), kI E (e8) (0) (zz), kI E (e4) (ln) (lf), kI E (e5) (ln) (qu)]) [8, 9, 0, 1, 2, 3, 4, 5, 6, 7] (by decide) rfl ?_
      refine J_callV C (rest := []) [] [((a), .inr (1, [.ref (r1)])), kI E (r1) (ps.length) (t1)] ([((ox), .inr (4, [.ref (hT), .ref (hF), .ref (hS)])), ((hS), .inr (2, [.int (nI (m)), .ref (e1), .ref (e2), .ref (e3), .ref (e4), .ref (e5), .int (nI (qd))])), kI E (e1) (12) (nd), kQ E (e2) (13) (kn), ((e3), .inr (1, [.ref (e8)])), kI E (e8) (0) (zz), kI E (e4) (ln) (lf), kI E (e5) (ln) (qu)] ++ (P1 ++ P2)) 0 (c_V_length E l a r1 ps.length t1) mmV_length msV_length lkR_88 rfl rfl (rfl) rfl rfl ⟨by decide, by decide⟩ ⟨by decide, by decide⟩ (Nat.le_of_ble_eq_true rfl) dR_move_17 (fun r_c w_c hp => ?_)
      obtain ⟨rfl, rfl⟩ := hp
      refine J_norm C (st' := [.int (nI (ps.length))]) (ws' := ([((a), .inr (1, [.ref (r1)])), kI E (r1) (ps.length) (t1), ((ox), .inr (4, [.ref (hT), .ref (hF), .ref (hS)])), ((hS), .inr (2, [.int (nI (m)), .ref (e1), .ref (e2), .ref (e3), .ref (e4), .ref (e5), .int (nI (qd))])), kI E (e1) (12) (nd), kQ E (e2) (13) (kn), ((e3), .inr (1, [.ref (e8)])), kI E (e8) (0) (zz), kI E (e4) (ln) (lf), kI E (e5) (ln) (qu)] ++ (P1 ++ P2))) (cs' := 0) (ss' := 0) rfl (rfl) rfl rfl ?_
      refine J_pickR C (cx := [((ox), .inr (4, [.ref (hT), .ref (hF), .ref (hS)])), ((hS), .inr (2, [.int (nI (m)), .ref (e1), .ref (e2), .ref (e3), .ref (e4), .ref (e5), .int (nI (qd))])), kI E (e1) (12) (nd), kQ E (e2) (13) (kn), ((e3), .inr (1, [.ref (e8)])), kI E (e8) (0) (zz), kI E (e4) (ln) (lf), kI E (e5) (ln) (qu), ((a), .inr (1, [.ref (r1)])), kI E (r1) (ps.length) (t1)]) [2, 3, 4, 5, 6, 7, 8, 9, 0, 1] (by decide) rfl ?_
      refine J_if_ne C 25 (nI_toInt (n := ps.length) (by omega)) dR_move_20 (by decide) (fun h20 => ?_) (fun h20 => ?_)
      · refine J_iload_n C 2 dR_move_25 rfl rfl ?_
        refine J_iconst C (v := -1) dR_move_26 (by decide) ?_
        refine J_icmp_ne C 37 (nI_toInt (n := k) (by omega)) j_m1 dR_move_27 (by decide) (fun h27 => ?_) (fun h27 => ?_)
        · refine J_aload_n C 3 dR_move_37 rfl rfl ?_
          refine J_iload_n C 2 dR_move_38 rfl rfl ?_
          refine J_pickR C (cx := [((a), .inr (1, [.ref (r1)])), kI E (r1) (ps.length) (t1), ((ox), .inr (4, [.ref (hT), .ref (hF), .ref (hS)])), ((hS), .inr (2, [.int (nI (m)), .ref (e1), .ref (e2), .ref (e3), .ref (e4), .ref (e5), .int (nI (qd))])), kI E (e1) (12) (nd), kQ E (e2) (13) (kn), ((e3), .inr (1, [.ref (e8)])), kI E (e8) (0) (zz), kI E (e4) (ln) (lf), kI E (e5) (ln) (qu)]) [8, 9, 0, 1, 2, 3, 4, 5, 6, 7] (by decide) rfl ?_
          refine J_callV C (rest := []) [] [((a), .inr (1, [.ref (r1)])), kI E (r1) (ps.length) (t1)] ([((ox), .inr (4, [.ref (hT), .ref (hF), .ref (hS)])), ((hS), .inr (2, [.int (nI (m)), .ref (e1), .ref (e2), .ref (e3), .ref (e4), .ref (e5), .int (nI (qd))])), kI E (e1) (12) (nd), kQ E (e2) (13) (kn), ((e3), .inr (1, [.ref (e8)])), kI E (e8) (0) (zz), kI E (e4) (ln) (lf), kI E (e5) (ln) (qu)] ++ (P1 ++ P2)) 0 (c_V_at_t E l a r1 ps.length t1 k (hpl1) (hkl)) mmV_at msV_at lkR_93 rfl rfl (rfl) rfl rfl ⟨by decide, by decide⟩ ⟨by decide, by decide⟩ (Nat.le_of_ble_eq_true rfl) dR_move_39 (fun r_c w_c hp => ?_)
          obtain ⟨rfl, rfl⟩ := hp
          refine J_norm C (st' := [.int (nI (t1 k))]) (ws' := ([((a), .inr (1, [.ref (r1)])), kI E (r1) (ps.length) (t1), ((ox), .inr (4, [.ref (hT), .ref (hF), .ref (hS)])), ((hS), .inr (2, [.int (nI (m)), .ref (e1), .ref (e2), .ref (e3), .ref (e4), .ref (e5), .int (nI (qd))])), kI E (e1) (12) (nd), kQ E (e2) (13) (kn), ((e3), .inr (1, [.ref (e8)])), kI E (e8) (0) (zz), kI E (e4) (ln) (lf), kI E (e5) (ln) (qu)] ++ (P1 ++ P2))) (cs' := 0) (ss' := 0) rfl (rfl) rfl rfl ?_
          refine J_pickR C (cx := [((ox), .inr (4, [.ref (hT), .ref (hF), .ref (hS)])), ((hS), .inr (2, [.int (nI (m)), .ref (e1), .ref (e2), .ref (e3), .ref (e4), .ref (e5), .int (nI (qd))])), kI E (e1) (12) (nd), kQ E (e2) (13) (kn), ((e3), .inr (1, [.ref (e8)])), kI E (e8) (0) (zz), kI E (e4) (ln) (lf), kI E (e5) (ln) (qu), ((a), .inr (1, [.ref (r1)])), kI E (r1) (ps.length) (t1)]) [2, 3, 4, 5, 6, 7, 8, 9, 0, 1] (by decide) rfl ?_
          refine J_perm C (ws' := ([((ox), .inr (4, [.ref (hT), .ref (hF), .ref (hS)])), ((hS), .inr (2, [.int (nI (m)), .ref (e1), .ref (e2), .ref (e3), .ref (e4), .ref (e5), .int (nI (qd))])), kI E (e1) (12) (nd), kQ E (e2) (13) (kn), ((e3), .inr (1, [.ref (e8)])), kI E (e8) (0) (zz), kI E (e4) (ln) (lf), kI E (e5) (ln) (qu)] ++ (P1 ++ ((a), .inr (1, [.ref (r1)])) :: kI E (r1) (ps.length) (t1) :: P2))) (perm_out [((ox), .inr (4, [.ref (hT), .ref (hF), .ref (hS)])), ((hS), .inr (2, [.int (nI (m)), .ref (e1), .ref (e2), .ref (e3), .ref (e4), .ref (e5), .int (nI (qd))])), kI E (e1) (12) (nd), kQ E (e2) (13) (kn), ((e3), .inr (1, [.ref (e8)])), kI E (e8) (0) (zz), kI E (e4) (ln) (lf), kI E (e5) (ln) (qu)] P1 P2 ((a), .inr (1, [.ref (r1)])) (kI E (r1) (ps.length) (t1))) ?_
          exact hret _ _ _ _ _ _ dR_move_42 (by decide) (by decide) (⟨_, _, _, _, _, _, _, _, by rw [hgl1 k hkl], hln, hk, rfl⟩)
        · exfalso; omega
      · exfalso; omega
  · exfalso; omega
set_option maxHeartbeats 4000000 in
set_option maxRecDepth 100000 in
theorem c_R_move_x (E : jE) (l : Launch) (ox : Nat) (hT : Nat) (hF : Nat) (hS : Nat) (m : Nat) (e1 : Nat) (e2 : Nat) (e3 : Nat) (e4 : Nat) (e5 : Nat) (qd : Nat) (e8 : Nat) (nd : Nat → Nat) (kn : Nat → Option Nat) (zz : Nat → Nat) (ln : Nat) (lf : Nat → Nat) (qu : Nat → Nat) (pool : va_W) (b : Nat) (ps : List Nat) (x : Int32) (hg : mG m nd) (hln : ln ≤ 4096) (hk : kOK E m nd kn e3 pool) (hb1 : 1 ≤ b) (hb31 : b < 2 ^ 31) (hsp : mSP m nd b ps) (hx : x.toInt < -1 ∨ (ps.length : Int) ≤ x.toInt) : Con E l yR_move bR_move 4 (some .int) { frames := 5, cells := 4, slots := 12289, locals := 122 } [.ref (ox), .int (nI (b)), .int (x)] ([((ox), .inr (4, [.ref (hT), .ref (hF), .ref (hS)])), ((hS), .inr (2, [.int (nI (m)), .ref (e1), .ref (e2), .ref (e3), .ref (e4), .ref (e5), .int (nI (qd))])), kI E (e1) (12) (nd), kQ E (e2) (13) (kn), ((e3), .inr (1, [.ref (e8)])), kI E (e8) (0) (zz), kI E (e4) (ln) (lf), kI E (e5) (ln) (qu)] ++ pool) (fun r w => ∃ (kn1 : Nat → Option Nat) (e41 e51 l1 n1 : Nat) (f1 u1 : Nat → Nat) (pool1 : va_W), r = some (.int (-1)) ∧ l1 ≤ 4096 ∧ kOK E m nd kn1 e3 pool1 ∧ w = ([((ox), .inr (4, [.ref (hT), .ref (hF), .ref (hS)])), ((hS), .inr (2, [.int (nI (m)), .ref (e1), .ref (e2), .ref (e3), .ref (e41), .ref (e51), .int (nI (n1))])), kI E (e1) (12) (nd), kQ E (e2) (13) (kn1), ((e3), .inr (1, [.ref (e8)])), kI E (e8) (0) (zz), kI E (e41) (l1) (f1), kI E (e51) (l1) (u1)] ++ pool1)) := by
  refine Con.ofI (by decide) (Nat.le_of_ble_eq_true rfl) ?_
  intro J C hret
  show J 0 [(0, .ref (ox)), (1, .int (nI (b))), (2, .int (x))] [] ([((ox), .inr (4, [.ref (hT), .ref (hF), .ref (hS)])), ((hS), .inr (2, [.int (nI (m)), .ref (e1), .ref (e2), .ref (e3), .ref (e4), .ref (e5), .int (nI (qd))])), kI E (e1) (12) (nd), kQ E (e2) (13) (kn), ((e3), .inr (1, [.ref (e8)])), kI E (e8) (0) (zz), kI E (e4) (ln) (lf), kI E (e5) (ln) (qu)] ++ pool) 0 0
  have hpos := mSP_pos hsp
  refine J_iload_n C 1 dR_move_0 rfl rfl ?_
  refine J_iconst C (v := nI (1)) dR_move_1 (by decide) ?_
  refine J_icmp_ge C 7 (nI_toInt (n := b) (by omega)) (nI_toInt (n := 1) (by decide)) dR_move_2 (by decide) (fun h2 => ?_) (fun h2 => ?_)
  · refine J_aload_n C 0 dR_move_7 rfl rfl ?_
    refine J_get C 0 2 hinR rfl rfl (by decide) fkR_26 rfl dR_move_8 ?_
    refine J_iload_n C 1 dR_move_11 rfl rfl ?_
    have hsb : mSP m nd (min b m) ps := (mSP_min hg.2.1 ps).mp hsp
    cases hkn : kn (min b m) with
    | none =>
      refine J_callV C (rest := []) [((ox), .inr (4, [.ref (hT), .ref (hF), .ref (hS)]))] ([((hS), .inr (2, [.int (nI (m)), .ref (e1), .ref (e2), .ref (e3), .ref (e4), .ref (e5), .int (nI (qd))])), kI E (e1) (12) (nd), kQ E (e2) (13) (kn), ((e3), .inr (1, [.ref (e8)])), kI E (e8) (0) (zz), kI E (e4) (ln) (lf), kI E (e5) (ln) (qu)] ++ pool) [] 0 (c_S_mw_pg E l hS m e1 e2 e3 e4 e5 qd e8 nd kn zz ln lf qu pool b ps (by assumption) (hln) (by omega) (by omega) (hk) (hkn) (hsb)) mmS_movesWithin msS_movesWithin lkR_84 rfl rfl (by simp) rfl rfl ⟨by decide, by decide⟩ ⟨by decide, by decide⟩ (Nat.le_of_ble_eq_true rfl) dR_move_12 (fun r_c w_c hp => ?_)
      obtain ⟨kn1, e41, e51, l1, n1, f1, u1, q1, r1, t1, rfl, hl1, hml1, hpl1, hgl1, hk1, rfl⟩ := hp
      refine J_norm C (st' := [.ref (q1)]) (ws' := ([((ox), .inr (4, [.ref (hT), .ref (hF), .ref (hS)])), ((hS), .inr (2, [.int (nI (m)), .ref (e1), .ref (e2), .ref (e3), .ref (e41), .ref (e51), .int (nI (n1))])), kI E (e1) (12) (nd), kQ E (e2) (13) (kn1), ((e3), .inr (1, [.ref (e8)])), kI E (e8) (0) (zz), kI E (e41) (l1) (f1), kI E (e51) (l1) (u1)] ++ ([] ++ ((q1), .inr (1, [.ref (r1)])) :: kI E (r1) (ps.length) (t1) :: pool))) (cs' := 4) (ss' := 12289) rfl (by simp) rfl rfl ?_
      refine J_perm C (ws' := ([((ox), .inr (4, [.ref (hT), .ref (hF), .ref (hS)])), ((hS), .inr (2, [.int (nI (m)), .ref (e1), .ref (e2), .ref (e3), .ref (e41), .ref (e51), .int (nI (n1))])), kI E (e1) (12) (nd), kQ E (e2) (13) (kn1), ((e3), .inr (1, [.ref (e8)])), kI E (e8) (0) (zz), kI E (e41) (l1) (f1), kI E (e51) (l1) (u1), ((q1), .inr (1, [.ref (r1)])), kI E (r1) (ps.length) (t1)] ++ ([] ++ pool))) (perm_in [((ox), .inr (4, [.ref (hT), .ref (hF), .ref (hS)])), ((hS), .inr (2, [.int (nI (m)), .ref (e1), .ref (e2), .ref (e3), .ref (e41), .ref (e51), .int (nI (n1))])), kI E (e1) (12) (nd), kQ E (e2) (13) (kn1), ((e3), .inr (1, [.ref (e8)])), kI E (e8) (0) (zz), kI E (e41) (l1) (f1), kI E (e51) (l1) (u1)] [] pool ((q1), .inr (1, [.ref (r1)])) (kI E (r1) (ps.length) (t1))) ?_
      refine J_astore_n C (lv' := [(0, .ref (ox)), (1, .int (nI (b))), (2, .int (x)), (3, .ref (q1))]) [1, 2, 3, 0] dR_move_15 rfl (by decide) rfl ?_
      refine J_aload_n C 3 dR_move_16 rfl rfl ?_
      refine J_pickR C (cx := [((q1), .inr (1, [.ref (r1)])), kI E (r1) (ps.length) (t1), ((ox), .inr (4, [.ref (hT), .ref (hF), .ref (hS)])), ((hS), .inr (2, [.int (nI (m)), .ref (e1), .ref (e2), .ref (e3), .ref (e41), .ref (e51), .int (nI (n1))])), kI E (e1) (12) (nd), kQ E (e2) (13) (kn1), ((e3), .inr (1, [.ref (e8)])), kI E (e8) (0) (zz), kI E (e41) (l1) (f1), kI E (e51) (l1) (u1)]) [8, 9, 0, 1, 2, 3, 4, 5, 6, 7] (by decide) rfl ?_
      refine J_callV C (rest := []) [] [((q1), .inr (1, [.ref (r1)])), kI E (r1) (ps.length) (t1)] ([((ox), .inr (4, [.ref (hT), .ref (hF), .ref (hS)])), ((hS), .inr (2, [.int (nI (m)), .ref (e1), .ref (e2), .ref (e3), .ref (e41), .ref (e51), .int (nI (n1))])), kI E (e1) (12) (nd), kQ E (e2) (13) (kn1), ((e3), .inr (1, [.ref (e8)])), kI E (e8) (0) (zz), kI E (e41) (l1) (f1), kI E (e51) (l1) (u1)] ++ ([] ++ pool)) 0 (c_V_length E l q1 r1 ps.length t1) mmV_length msV_length lkR_88 rfl rfl (rfl) rfl rfl ⟨by decide, by decide⟩ ⟨by decide, by decide⟩ (Nat.le_of_ble_eq_true rfl) dR_move_17 (fun r_c w_c hp => ?_)
      obtain ⟨rfl, rfl⟩ := hp
      refine J_norm C (st' := [.int (nI (ps.length))]) (ws' := ([((q1), .inr (1, [.ref (r1)])), kI E (r1) (ps.length) (t1), ((ox), .inr (4, [.ref (hT), .ref (hF), .ref (hS)])), ((hS), .inr (2, [.int (nI (m)), .ref (e1), .ref (e2), .ref (e3), .ref (e41), .ref (e51), .int (nI (n1))])), kI E (e1) (12) (nd), kQ E (e2) (13) (kn1), ((e3), .inr (1, [.ref (e8)])), kI E (e8) (0) (zz), kI E (e41) (l1) (f1), kI E (e51) (l1) (u1)] ++ ([] ++ pool))) (cs' := 4) (ss' := 12289) rfl (rfl) rfl rfl ?_
      refine J_pickR C (cx := [((ox), .inr (4, [.ref (hT), .ref (hF), .ref (hS)])), ((hS), .inr (2, [.int (nI (m)), .ref (e1), .ref (e2), .ref (e3), .ref (e41), .ref (e51), .int (nI (n1))])), kI E (e1) (12) (nd), kQ E (e2) (13) (kn1), ((e3), .inr (1, [.ref (e8)])), kI E (e8) (0) (zz), kI E (e41) (l1) (f1), kI E (e51) (l1) (u1), ((q1), .inr (1, [.ref (r1)])), kI E (r1) (ps.length) (t1)]) [2, 3, 4, 5, 6, 7, 8, 9, 0, 1] (by decide) rfl ?_
      refine J_if_ne C 25 (nI_toInt (n := ps.length) (by omega)) dR_move_20 (by decide) (fun h20 => ?_) (fun h20 => ?_)
      · refine J_iload_n C 2 dR_move_25 rfl rfl ?_
        refine J_iconst C (v := -1) dR_move_26 (by decide) ?_
        refine J_icmp_ne C 37 rfl j_m1 dR_move_27 (by decide) (fun h27 => ?_) (fun h27 => ?_)
        · refine J_aload_n C 3 dR_move_37 rfl rfl ?_
          refine J_iload_n C 2 dR_move_38 rfl rfl ?_
          refine J_pickR C (cx := [((q1), .inr (1, [.ref (r1)])), kI E (r1) (ps.length) (t1), ((ox), .inr (4, [.ref (hT), .ref (hF), .ref (hS)])), ((hS), .inr (2, [.int (nI (m)), .ref (e1), .ref (e2), .ref (e3), .ref (e41), .ref (e51), .int (nI (n1))])), kI E (e1) (12) (nd), kQ E (e2) (13) (kn1), ((e3), .inr (1, [.ref (e8)])), kI E (e8) (0) (zz), kI E (e41) (l1) (f1), kI E (e51) (l1) (u1)]) [8, 9, 0, 1, 2, 3, 4, 5, 6, 7] (by decide) rfl ?_
          refine J_callV C (rest := []) [] [((q1), .inr (1, [.ref (r1)])), kI E (r1) (ps.length) (t1)] ([((ox), .inr (4, [.ref (hT), .ref (hF), .ref (hS)])), ((hS), .inr (2, [.int (nI (m)), .ref (e1), .ref (e2), .ref (e3), .ref (e41), .ref (e51), .int (nI (n1))])), kI E (e1) (12) (nd), kQ E (e2) (13) (kn1), ((e3), .inr (1, [.ref (e8)])), kI E (e8) (0) (zz), kI E (e41) (l1) (f1), kI E (e51) (l1) (u1)] ++ ([] ++ pool)) 0 (c_V_at_f E l q1 r1 ps.length t1 x (hpl1) (by omega)) mmV_at msV_at lkR_93 rfl rfl (rfl) rfl rfl ⟨by decide, by decide⟩ ⟨by decide, by decide⟩ (Nat.le_of_ble_eq_true rfl) dR_move_39 (fun r_c w_c hp => ?_)
          obtain ⟨rfl, rfl⟩ := hp
          refine J_norm C (st' := [.int (-1)]) (ws' := ([((q1), .inr (1, [.ref (r1)])), kI E (r1) (ps.length) (t1), ((ox), .inr (4, [.ref (hT), .ref (hF), .ref (hS)])), ((hS), .inr (2, [.int (nI (m)), .ref (e1), .ref (e2), .ref (e3), .ref (e41), .ref (e51), .int (nI (n1))])), kI E (e1) (12) (nd), kQ E (e2) (13) (kn1), ((e3), .inr (1, [.ref (e8)])), kI E (e8) (0) (zz), kI E (e41) (l1) (f1), kI E (e51) (l1) (u1)] ++ ([] ++ pool))) (cs' := 4) (ss' := 12289) rfl (rfl) rfl rfl ?_
          refine J_pickR C (cx := [((ox), .inr (4, [.ref (hT), .ref (hF), .ref (hS)])), ((hS), .inr (2, [.int (nI (m)), .ref (e1), .ref (e2), .ref (e3), .ref (e41), .ref (e51), .int (nI (n1))])), kI E (e1) (12) (nd), kQ E (e2) (13) (kn1), ((e3), .inr (1, [.ref (e8)])), kI E (e8) (0) (zz), kI E (e41) (l1) (f1), kI E (e51) (l1) (u1), ((q1), .inr (1, [.ref (r1)])), kI E (r1) (ps.length) (t1)]) [2, 3, 4, 5, 6, 7, 8, 9, 0, 1] (by decide) rfl ?_
          refine J_perm C (ws' := ([((ox), .inr (4, [.ref (hT), .ref (hF), .ref (hS)])), ((hS), .inr (2, [.int (nI (m)), .ref (e1), .ref (e2), .ref (e3), .ref (e41), .ref (e51), .int (nI (n1))])), kI E (e1) (12) (nd), kQ E (e2) (13) (kn1), ((e3), .inr (1, [.ref (e8)])), kI E (e8) (0) (zz), kI E (e41) (l1) (f1), kI E (e51) (l1) (u1)] ++ ([] ++ ((q1), .inr (1, [.ref (r1)])) :: kI E (r1) (ps.length) (t1) :: pool))) (perm_out [((ox), .inr (4, [.ref (hT), .ref (hF), .ref (hS)])), ((hS), .inr (2, [.int (nI (m)), .ref (e1), .ref (e2), .ref (e3), .ref (e41), .ref (e51), .int (nI (n1))])), kI E (e1) (12) (nd), kQ E (e2) (13) (kn1), ((e3), .inr (1, [.ref (e8)])), kI E (e8) (0) (zz), kI E (e41) (l1) (f1), kI E (e51) (l1) (u1)] [] pool ((q1), .inr (1, [.ref (r1)])) (kI E (r1) (ps.length) (t1))) ?_
          exact hret _ _ _ _ _ _ dR_move_42 (by decide) (by decide) (⟨_, _, _, _, _, _, _, _, rfl, hl1, hk1, rfl⟩)
        · exfalso; omega
      · exfalso; omega
    | some a =>
      refine J_callV C (rest := []) [((ox), .inr (4, [.ref (hT), .ref (hF), .ref (hS)]))] ([((hS), .inr (2, [.int (nI (m)), .ref (e1), .ref (e2), .ref (e3), .ref (e4), .ref (e5), .int (nI (qd))])), kI E (e1) (12) (nd), kQ E (e2) (13) (kn), ((e3), .inr (1, [.ref (e8)])), kI E (e8) (0) (zz), kI E (e4) (ln) (lf), kI E (e5) (ln) (qu)] ++ pool) [] 0 (c_S_mw_sp E l hS m e1 e2 e3 e4 e5 qd e8 nd kn zz ln lf qu pool b a ps (by assumption) (hln) (by omega) (by omega) (hk) (hkn) (hsb)) mmS_movesWithin msS_movesWithin lkR_84 rfl rfl (by simp) rfl rfl ⟨by decide, by decide⟩ ⟨by decide, by decide⟩ (Nat.le_of_ble_eq_true rfl) dR_move_12 (fun r_c w_c hp => ?_)
      obtain ⟨P1, P2, r1, t1, rfl, hpool1, hpl1, hgl1, rfl⟩ := hp
      refine J_norm C (st' := [.ref (a)]) (ws' := ([((ox), .inr (4, [.ref (hT), .ref (hF), .ref (hS)])), ((hS), .inr (2, [.int (nI (m)), .ref (e1), .ref (e2), .ref (e3), .ref (e4), .ref (e5), .int (nI (qd))])), kI E (e1) (12) (nd), kQ E (e2) (13) (kn), ((e3), .inr (1, [.ref (e8)])), kI E (e8) (0) (zz), kI E (e4) (ln) (lf), kI E (e5) (ln) (qu)] ++ pool)) (cs' := 0) (ss' := 0) rfl (by simp) rfl rfl ?_
      subst hpool1
      refine J_perm C (ws' := ([((ox), .inr (4, [.ref (hT), .ref (hF), .ref (hS)])), ((hS), .inr (2, [.int (nI (m)), .ref (e1), .ref (e2), .ref (e3), .ref (e4), .ref (e5), .int (nI (qd))])), kI E (e1) (12) (nd), kQ E (e2) (13) (kn), ((e3), .inr (1, [.ref (e8)])), kI E (e8) (0) (zz), kI E (e4) (ln) (lf), kI E (e5) (ln) (qu), ((a), .inr (1, [.ref (r1)])), kI E (r1) (ps.length) (t1)] ++ (P1 ++ P2))) (perm_in [((ox), .inr (4, [.ref (hT), .ref (hF), .ref (hS)])), ((hS), .inr (2, [.int (nI (m)), .ref (e1), .ref (e2), .ref (e3), .ref (e4), .ref (e5), .int (nI (qd))])), kI E (e1) (12) (nd), kQ E (e2) (13) (kn), ((e3), .inr (1, [.ref (e8)])), kI E (e8) (0) (zz), kI E (e4) (ln) (lf), kI E (e5) (ln) (qu)] P1 P2 ((a), .inr (1, [.ref (r1)])) (kI E (r1) (ps.length) (t1))) ?_
      refine J_astore_n C (lv' := [(0, .ref (ox)), (1, .int (nI (b))), (2, .int (x)), (3, .ref (a))]) [1, 2, 3, 0] dR_move_15 rfl (by decide) rfl ?_
      refine J_aload_n C 3 dR_move_16 rfl rfl ?_
      refine J_pickR C (cx := [((a), .inr (1, [.ref (r1)])), kI E (r1) (ps.length) (t1), ((ox), .inr (4, [.ref (hT), .ref (hF), .ref (hS)])), ((hS), .inr (2, [.int (nI (m)), .ref (e1), .ref (e2), .ref (e3), .ref (e4), .ref (e5), .int (nI (qd))])), kI E (e1) (12) (nd), kQ E (e2) (13) (kn), ((e3), .inr (1, [.ref (e8)])), kI E (e8) (0) (zz), kI E (e4) (ln) (lf), kI E (e5) (ln) (qu)]) [8, 9, 0, 1, 2, 3, 4, 5, 6, 7] (by decide) rfl ?_
      refine J_callV C (rest := []) [] [((a), .inr (1, [.ref (r1)])), kI E (r1) (ps.length) (t1)] ([((ox), .inr (4, [.ref (hT), .ref (hF), .ref (hS)])), ((hS), .inr (2, [.int (nI (m)), .ref (e1), .ref (e2), .ref (e3), .ref (e4), .ref (e5), .int (nI (qd))])), kI E (e1) (12) (nd), kQ E (e2) (13) (kn), ((e3), .inr (1, [.ref (e8)])), kI E (e8) (0) (zz), kI E (e4) (ln) (lf), kI E (e5) (ln) (qu)] ++ (P1 ++ P2)) 0 (c_V_length E l a r1 ps.length t1) mmV_length msV_length lkR_88 rfl rfl (rfl) rfl rfl ⟨by decide, by decide⟩ ⟨by decide, by decide⟩ (Nat.le_of_ble_eq_true rfl) dR_move_17 (fun r_c w_c hp => ?_)
      obtain ⟨rfl, rfl⟩ := hp
      refine J_norm C (st' := [.int (nI (ps.length))]) (ws' := ([((a), .inr (1, [.ref (r1)])), kI E (r1) (ps.length) (t1), ((ox), .inr (4, [.ref (hT), .ref (hF), .ref (hS)])), ((hS), .inr (2, [.int (nI (m)), .ref (e1), .ref (e2), .ref (e3), .ref (e4), .ref (e5), .int (nI (qd))])), kI E (e1) (12) (nd), kQ E (e2) (13) (kn), ((e3), .inr (1, [.ref (e8)])), kI E (e8) (0) (zz), kI E (e4) (ln) (lf), kI E (e5) (ln) (qu)] ++ (P1 ++ P2))) (cs' := 0) (ss' := 0) rfl (rfl) rfl rfl ?_
      refine J_pickR C (cx := [((ox), .inr (4, [.ref (hT), .ref (hF), .ref (hS)])), ((hS), .inr (2, [.int (nI (m)), .ref (e1), .ref (e2), .ref (e3), .ref (e4), .ref (e5), .int (nI (qd))])), kI E (e1) (12) (nd), kQ E (e2) (13) (kn), ((e3), .inr (1, [.ref (e8)])), kI E (e8) (0) (zz), kI E (e4) (ln) (lf), kI E (e5) (ln) (qu), ((a), .inr (1, [.ref (r1)])), kI E (r1) (ps.length) (t1)]) [2, 3, 4, 5, 6, 7, 8, 9, 0, 1] (by decide) rfl ?_
      refine J_if_ne C 25 (nI_toInt (n := ps.length) (by omega)) dR_move_20 (by decide) (fun h20 => ?_) (fun h20 => ?_)
      · refine J_iload_n C 2 dR_move_25 rfl rfl ?_
        refine J_iconst C (v := -1) dR_move_26 (by decide) ?_
        refine J_icmp_ne C 37 rfl j_m1 dR_move_27 (by decide) (fun h27 => ?_) (fun h27 => ?_)
        · refine J_aload_n C 3 dR_move_37 rfl rfl ?_
          refine J_iload_n C 2 dR_move_38 rfl rfl ?_
          refine J_pickR C (cx := [((a), .inr (1, [.ref (r1)])), kI E (r1) (ps.length) (t1), ((ox), .inr (4, [.ref (hT), .ref (hF), .ref (hS)])), ((hS), .inr (2, [.int (nI (m)), .ref (e1), .ref (e2), .ref (e3), .ref (e4), .ref (e5), .int (nI (qd))])), kI E (e1) (12) (nd), kQ E (e2) (13) (kn), ((e3), .inr (1, [.ref (e8)])), kI E (e8) (0) (zz), kI E (e4) (ln) (lf), kI E (e5) (ln) (qu)]) [8, 9, 0, 1, 2, 3, 4, 5, 6, 7] (by decide) rfl ?_
          refine J_callV C (rest := []) [] [((a), .inr (1, [.ref (r1)])), kI E (r1) (ps.length) (t1)] ([((ox), .inr (4, [.ref (hT), .ref (hF), .ref (hS)])), ((hS), .inr (2, [.int (nI (m)), .ref (e1), .ref (e2), .ref (e3), .ref (e4), .ref (e5), .int (nI (qd))])), kI E (e1) (12) (nd), kQ E (e2) (13) (kn), ((e3), .inr (1, [.ref (e8)])), kI E (e8) (0) (zz), kI E (e4) (ln) (lf), kI E (e5) (ln) (qu)] ++ (P1 ++ P2)) 0 (c_V_at_f E l a r1 ps.length t1 x (hpl1) (by omega)) mmV_at msV_at lkR_93 rfl rfl (rfl) rfl rfl ⟨by decide, by decide⟩ ⟨by decide, by decide⟩ (Nat.le_of_ble_eq_true rfl) dR_move_39 (fun r_c w_c hp => ?_)
          obtain ⟨rfl, rfl⟩ := hp
          refine J_norm C (st' := [.int (-1)]) (ws' := ([((a), .inr (1, [.ref (r1)])), kI E (r1) (ps.length) (t1), ((ox), .inr (4, [.ref (hT), .ref (hF), .ref (hS)])), ((hS), .inr (2, [.int (nI (m)), .ref (e1), .ref (e2), .ref (e3), .ref (e4), .ref (e5), .int (nI (qd))])), kI E (e1) (12) (nd), kQ E (e2) (13) (kn), ((e3), .inr (1, [.ref (e8)])), kI E (e8) (0) (zz), kI E (e4) (ln) (lf), kI E (e5) (ln) (qu)] ++ (P1 ++ P2))) (cs' := 0) (ss' := 0) rfl (rfl) rfl rfl ?_
          refine J_pickR C (cx := [((ox), .inr (4, [.ref (hT), .ref (hF), .ref (hS)])), ((hS), .inr (2, [.int (nI (m)), .ref (e1), .ref (e2), .ref (e3), .ref (e4), .ref (e5), .int (nI (qd))])), kI E (e1) (12) (nd), kQ E (e2) (13) (kn), ((e3), .inr (1, [.ref (e8)])), kI E (e8) (0) (zz), kI E (e4) (ln) (lf), kI E (e5) (ln) (qu), ((a), .inr (1, [.ref (r1)])), kI E (r1) (ps.length) (t1)]) [2, 3, 4, 5, 6, 7, 8, 9, 0, 1] (by decide) rfl ?_
          refine J_perm C (ws' := ([((ox), .inr (4, [.ref (hT), .ref (hF), .ref (hS)])), ((hS), .inr (2, [.int (nI (m)), .ref (e1), .ref (e2), .ref (e3), .ref (e4), .ref (e5), .int (nI (qd))])), kI E (e1) (12) (nd), kQ E (e2) (13) (kn), ((e3), .inr (1, [.ref (e8)])), kI E (e8) (0) (zz), kI E (e4) (ln) (lf), kI E (e5) (ln) (qu)] ++ (P1 ++ ((a), .inr (1, [.ref (r1)])) :: kI E (r1) (ps.length) (t1) :: P2))) (perm_out [((ox), .inr (4, [.ref (hT), .ref (hF), .ref (hS)])), ((hS), .inr (2, [.int (nI (m)), .ref (e1), .ref (e2), .ref (e3), .ref (e4), .ref (e5), .int (nI (qd))])), kI E (e1) (12) (nd), kQ E (e2) (13) (kn), ((e3), .inr (1, [.ref (e8)])), kI E (e8) (0) (zz), kI E (e4) (ln) (lf), kI E (e5) (ln) (qu)] P1 P2 ((a), .inr (1, [.ref (r1)])) (kI E (r1) (ps.length) (t1))) ?_
          exact hret _ _ _ _ _ _ dR_move_42 (by decide) (by decide) (⟨_, _, _, _, _, _, _, _, rfl, hln, hk, rfl⟩)
        · exfalso; omega
      · exfalso; omega
  · exfalso; omega
set_option maxHeartbeats 4000000 in
set_option maxRecDepth 100000 in
theorem c_R_total_0 (E : jE) (l : Launch) (ox : Nat) (hT : Nat) (hF : Nat) (hS : Nat) (n : Nat) (a1 : Nat) (a2 : Nat) (a3 : Nat) (fc : Nat) : Con E l yR_total bR_total 2 (some .int) { frames := 1, cells := 0, slots := 0, locals := 20 } [.ref (ox), .int (nI (0))] [((ox), .inr (4, [.ref (hT), .ref (hF), .ref (hS)])), ((hT), .inr (3, [.int (nI (n)), .int (nI (2 ^ n)), .ref (a1), .ref (a2), .ref (a3), .int (nI (fc))]))] (fun r w => r = some (.int (nI n)) ∧ w = [((ox), .inr (4, [.ref (hT), .ref (hF), .ref (hS)])), ((hT), .inr (3, [.int (nI (n)), .int (nI (2 ^ n)), .ref (a1), .ref (a2), .ref (a3), .int (nI (fc))]))]) := by
  refine Con.ofI (by decide) (Nat.le_of_ble_eq_true rfl) ?_
  intro J C hret
  show J 0 [(0, .ref (ox)), (1, .int (nI (0)))] [] [((ox), .inr (4, [.ref (hT), .ref (hF), .ref (hS)])), ((hT), .inr (3, [.int (nI (n)), .int (nI (2 ^ n)), .ref (a1), .ref (a2), .ref (a3), .int (nI (fc))]))] 0 0
  refine J_iload_n C 1 dR_total_0 rfl rfl ?_
  refine J_tswIn C (off := 35) 36 dR_total_1 (by decide) (by decide) (by decide) (by decide) ?_
  refine J_aload_n C 0 dR_total_36 rfl rfl ?_
  refine J_get C 0 0 hinR rfl rfl (by decide) fkR_10 rfl dR_total_37 ?_
  refine J_pick C (ws' := [((hT), .inr (3, [.int (nI (n)), .int (nI (2 ^ n)), .ref (a1), .ref (a2), .ref (a3), .int (nI (fc))])), ((ox), .inr (4, [.ref (hT), .ref (hF), .ref (hS)]))]) [1, 0] (by decide) rfl ?_
  refine J_callV C (rest := []) [] [((hT), .inr (3, [.int (nI (n)), .int (nI (2 ^ n)), .ref (a1), .ref (a2), .ref (a3), .int (nI (fc))]))] [((ox), .inr (4, [.ref (hT), .ref (hF), .ref (hS)]))] 0 (c_T_bitCount E l hT n a1 a2 a3 fc) mmT_bitCount msT_bitCount lkR_56 rfl rfl (rfl) rfl rfl ⟨by decide, by decide⟩ ⟨by decide, by decide⟩ (Nat.le_of_ble_eq_true rfl) dR_total_40 (fun r_c w_c hp => ?_)
  obtain ⟨rfl, rfl⟩ := hp
  refine J_norm C (st' := [.int (nI (n))]) (ws' := [((hT), .inr (3, [.int (nI (n)), .int (nI (2 ^ n)), .ref (a1), .ref (a2), .ref (a3), .int (nI (fc))])), ((ox), .inr (4, [.ref (hT), .ref (hF), .ref (hS)]))]) (cs' := 0) (ss' := 0) rfl (rfl) rfl rfl ?_
  refine J_pick C (ws' := [((ox), .inr (4, [.ref (hT), .ref (hF), .ref (hS)])), ((hT), .inr (3, [.int (nI (n)), .int (nI (2 ^ n)), .ref (a1), .ref (a2), .ref (a3), .int (nI (fc))]))]) [1, 0] (by decide) rfl ?_
  exact hret _ _ _ _ _ _ dR_total_43 (by decide) (by decide) (⟨rfl, rfl⟩)
set_option maxHeartbeats 4000000 in
set_option maxRecDepth 100000 in
theorem c_R_total_1 (E : jE) (l : Launch) (ox : Nat) (hT : Nat) (hF : Nat) (hS : Nat) (m : Nat) (e1 : Nat) (e2 : Nat) (e3 : Nat) (e4 : Nat) (e5 : Nat) (qd : Nat) : Con E l yR_total bR_total 2 (some .int) { frames := 1, cells := 0, slots := 0, locals := 20 } [.ref (ox), .int (nI (1))] [((ox), .inr (4, [.ref (hT), .ref (hF), .ref (hS)])), ((hS), .inr (2, [.int (nI (m)), .ref (e1), .ref (e2), .ref (e3), .ref (e4), .ref (e5), .int (nI (qd))]))] (fun r w => r = some (.int (nI m)) ∧ w = [((ox), .inr (4, [.ref (hT), .ref (hF), .ref (hS)])), ((hS), .inr (2, [.int (nI (m)), .ref (e1), .ref (e2), .ref (e3), .ref (e4), .ref (e5), .int (nI (qd))]))]) := by
  refine Con.ofI (by decide) (Nat.le_of_ble_eq_true rfl) ?_
  intro J C hret
  show J 0 [(0, .ref (ox)), (1, .int (nI (1)))] [] [((ox), .inr (4, [.ref (hT), .ref (hF), .ref (hS)])), ((hS), .inr (2, [.int (nI (m)), .ref (e1), .ref (e2), .ref (e3), .ref (e4), .ref (e5), .int (nI (qd))]))] 0 0
  refine J_iload_n C 1 dR_total_0 rfl rfl ?_
  refine J_tswIn C (off := 43) 44 dR_total_1 (by decide) (by decide) (by decide) (by decide) ?_
  refine J_aload_n C 0 dR_total_44 rfl rfl ?_
  refine J_get C 0 2 hinR rfl rfl (by decide) fkR_26 rfl dR_total_45 ?_
  refine J_pick C (ws' := [((hS), .inr (2, [.int (nI (m)), .ref (e1), .ref (e2), .ref (e3), .ref (e4), .ref (e5), .int (nI (qd))])), ((ox), .inr (4, [.ref (hT), .ref (hF), .ref (hS)]))]) [1, 0] (by decide) rfl ?_
  refine J_callV C (rest := []) [] [((hS), .inr (2, [.int (nI (m)), .ref (e1), .ref (e2), .ref (e3), .ref (e4), .ref (e5), .int (nI (qd))]))] [((ox), .inr (4, [.ref (hT), .ref (hF), .ref (hS)]))] 0 (c_S_count E l hS m e1 e2 e3 e4 e5 qd) mmS_count msS_count lkR_99 rfl rfl (rfl) rfl rfl ⟨by decide, by decide⟩ ⟨by decide, by decide⟩ (Nat.le_of_ble_eq_true rfl) dR_total_48 (fun r_c w_c hp => ?_)
  obtain ⟨rfl, rfl⟩ := hp
  refine J_norm C (st' := [.int (nI (m))]) (ws' := [((hS), .inr (2, [.int (nI (m)), .ref (e1), .ref (e2), .ref (e3), .ref (e4), .ref (e5), .int (nI (qd))])), ((ox), .inr (4, [.ref (hT), .ref (hF), .ref (hS)]))]) (cs' := 0) (ss' := 0) rfl (rfl) rfl rfl ?_
  refine J_pick C (ws' := [((ox), .inr (4, [.ref (hT), .ref (hF), .ref (hS)])), ((hS), .inr (2, [.int (nI (m)), .ref (e1), .ref (e2), .ref (e3), .ref (e4), .ref (e5), .int (nI (qd))]))]) [1, 0] (by decide) rfl ?_
  exact hret _ _ _ _ _ _ dR_total_51 (by decide) (by decide) (⟨rfl, rfl⟩)
set_option maxHeartbeats 4000000 in
set_option maxRecDepth 100000 in
theorem c_R_total_2t (E : jE) (l : Launch) (ox : Nat) (hT : Nat) (hF : Nat) (hS : Nat) (n : Nat) (a1 : Nat) (a2 : Nat) (a3 : Nat) (fc : Nat) (to : Nat → Nat) (hn1 : 1 ≤ n) (hn4 : n ≤ 4) (ht : ∀ v, v < 2 ^ n → to v < 2 ^ n) (hq : sn to (2 ^ n) = 2 ^ 2 ^ n - 1) : Con E l yR_total bR_total 2 (some .int) { frames := 1, cells := 0, slots := 0, locals := 22 } [.ref (ox), .int (nI (2))] [((ox), .inr (4, [.ref (hT), .ref (hF), .ref (hS)])), ((hT), .inr (3, [.int (nI (n)), .int (nI (2 ^ n)), .ref (a1), .ref (a2), .ref (a3), .int (nI (fc))])), kI E (a1) (16) (to)] (fun r w => r = some (.int (nI 1)) ∧ w = [((ox), .inr (4, [.ref (hT), .ref (hF), .ref (hS)])), ((hT), .inr (3, [.int (nI (n)), .int (nI (2 ^ n)), .ref (a1), .ref (a2), .ref (a3), .int (nI (fc))])), kI E (a1) (16) (to)]) := by
  refine Con.ofI (by decide) (Nat.le_of_ble_eq_true rfl) ?_
  intro J C hret
  show J 0 [(0, .ref (ox)), (1, .int (nI (2)))] [] [((ox), .inr (4, [.ref (hT), .ref (hF), .ref (hS)])), ((hT), .inr (3, [.int (nI (n)), .int (nI (2 ^ n)), .ref (a1), .ref (a2), .ref (a3), .int (nI (fc))])), kI E (a1) (16) (to)] 0 0
  refine J_iload_n C 1 dR_total_0 rfl rfl ?_
  refine J_tswIn C (off := 51) 52 dR_total_1 (by decide) (by decide) (by decide) (by decide) ?_
  refine J_aload_n C 0 dR_total_52 rfl rfl ?_
  refine J_get C 0 0 hinR rfl rfl (by decide) fkR_10 rfl dR_total_53 ?_
  refine J_pick C (ws' := [((hT), .inr (3, [.int (nI (n)), .int (nI (2 ^ n)), .ref (a1), .ref (a2), .ref (a3), .int (nI (fc))])), kI E (a1) (16) (to), ((ox), .inr (4, [.ref (hT), .ref (hF), .ref (hS)]))]) [1, 2, 0] (by decide) rfl ?_
  refine J_callV C (rest := []) [] [((hT), .inr (3, [.int (nI (n)), .int (nI (2 ^ n)), .ref (a1), .ref (a2), .ref (a3), .int (nI (fc))])), kI E (a1) (16) (to)] [((ox), .inr (4, [.ref (hT), .ref (hF), .ref (hS)]))] 0 (c_T_isPerm_t E l hT n a1 a2 a3 fc to (by omega) (by omega) (by assumption) (by assumption)) mmT_isPermutation msT_isPermutation lkR_41 rfl rfl (rfl) rfl rfl ⟨by decide, by decide⟩ ⟨by decide, by decide⟩ (Nat.le_of_ble_eq_true rfl) dR_total_56 (fun r_c w_c hp => ?_)
  obtain ⟨rfl, rfl⟩ := hp
  refine J_norm C (st' := [.int (nI (1))]) (ws' := [((hT), .inr (3, [.int (nI (n)), .int (nI (2 ^ n)), .ref (a1), .ref (a2), .ref (a3), .int (nI (fc))])), kI E (a1) (16) (to), ((ox), .inr (4, [.ref (hT), .ref (hF), .ref (hS)]))]) (cs' := 0) (ss' := 0) rfl (rfl) rfl rfl ?_
  refine J_pick C (ws' := [((ox), .inr (4, [.ref (hT), .ref (hF), .ref (hS)])), ((hT), .inr (3, [.int (nI (n)), .int (nI (2 ^ n)), .ref (a1), .ref (a2), .ref (a3), .int (nI (fc))])), kI E (a1) (16) (to)]) [2, 0, 1] (by decide) rfl ?_
  refine J_if_eq C 66 (nI_toInt (n := 1) (by decide)) dR_total_59 (by decide) (fun h59 => ?_) (fun h59 => ?_)
  · exfalso; omega
  · refine J_iconst C (v := nI (1)) dR_total_62 (by decide) ?_
    refine J_goto C 67 dR_total_63 (by decide) ?_
    exact hret _ _ _ _ _ _ dR_total_67 (by decide) (by decide) (⟨rfl, rfl⟩)
set_option maxHeartbeats 4000000 in
set_option maxRecDepth 100000 in
theorem c_R_total_2f (E : jE) (l : Launch) (ox : Nat) (hT : Nat) (hF : Nat) (hS : Nat) (n : Nat) (a1 : Nat) (a2 : Nat) (a3 : Nat) (fc : Nat) (to : Nat → Nat) (hn1 : 1 ≤ n) (hn4 : n ≤ 4) (ht : ∀ v, v < 2 ^ n → to v < 2 ^ n) (hq : sn to (2 ^ n) ≠ 2 ^ 2 ^ n - 1) : Con E l yR_total bR_total 2 (some .int) { frames := 1, cells := 0, slots := 0, locals := 22 } [.ref (ox), .int (nI (2))] [((ox), .inr (4, [.ref (hT), .ref (hF), .ref (hS)])), ((hT), .inr (3, [.int (nI (n)), .int (nI (2 ^ n)), .ref (a1), .ref (a2), .ref (a3), .int (nI (fc))])), kI E (a1) (16) (to)] (fun r w => r = some (.int (nI 0)) ∧ w = [((ox), .inr (4, [.ref (hT), .ref (hF), .ref (hS)])), ((hT), .inr (3, [.int (nI (n)), .int (nI (2 ^ n)), .ref (a1), .ref (a2), .ref (a3), .int (nI (fc))])), kI E (a1) (16) (to)]) := by
  refine Con.ofI (by decide) (Nat.le_of_ble_eq_true rfl) ?_
  intro J C hret
  show J 0 [(0, .ref (ox)), (1, .int (nI (2)))] [] [((ox), .inr (4, [.ref (hT), .ref (hF), .ref (hS)])), ((hT), .inr (3, [.int (nI (n)), .int (nI (2 ^ n)), .ref (a1), .ref (a2), .ref (a3), .int (nI (fc))])), kI E (a1) (16) (to)] 0 0
  refine J_iload_n C 1 dR_total_0 rfl rfl ?_
  refine J_tswIn C (off := 51) 52 dR_total_1 (by decide) (by decide) (by decide) (by decide) ?_
  refine J_aload_n C 0 dR_total_52 rfl rfl ?_
  refine J_get C 0 0 hinR rfl rfl (by decide) fkR_10 rfl dR_total_53 ?_
  refine J_pick C (ws' := [((hT), .inr (3, [.int (nI (n)), .int (nI (2 ^ n)), .ref (a1), .ref (a2), .ref (a3), .int (nI (fc))])), kI E (a1) (16) (to), ((ox), .inr (4, [.ref (hT), .ref (hF), .ref (hS)]))]) [1, 2, 0] (by decide) rfl ?_
  refine J_callV C (rest := []) [] [((hT), .inr (3, [.int (nI (n)), .int (nI (2 ^ n)), .ref (a1), .ref (a2), .ref (a3), .int (nI (fc))])), kI E (a1) (16) (to)] [((ox), .inr (4, [.ref (hT), .ref (hF), .ref (hS)]))] 0 (c_T_isPerm_f E l hT n a1 a2 a3 fc to (by omega) (by omega) (by assumption) (by assumption)) mmT_isPermutation msT_isPermutation lkR_41 rfl rfl (rfl) rfl rfl ⟨by decide, by decide⟩ ⟨by decide, by decide⟩ (Nat.le_of_ble_eq_true rfl) dR_total_56 (fun r_c w_c hp => ?_)
  obtain ⟨rfl, rfl⟩ := hp
  refine J_norm C (st' := [.int (nI (0))]) (ws' := [((hT), .inr (3, [.int (nI (n)), .int (nI (2 ^ n)), .ref (a1), .ref (a2), .ref (a3), .int (nI (fc))])), kI E (a1) (16) (to), ((ox), .inr (4, [.ref (hT), .ref (hF), .ref (hS)]))]) (cs' := 0) (ss' := 0) rfl (rfl) rfl rfl ?_
  refine J_pick C (ws' := [((ox), .inr (4, [.ref (hT), .ref (hF), .ref (hS)])), ((hT), .inr (3, [.int (nI (n)), .int (nI (2 ^ n)), .ref (a1), .ref (a2), .ref (a3), .int (nI (fc))])), kI E (a1) (16) (to)]) [2, 0, 1] (by decide) rfl ?_
  refine J_if_eq C 66 (nI_toInt (n := 0) (by decide)) dR_total_59 (by decide) (fun h59 => ?_) (fun h59 => ?_)
  · refine J_iconst C (v := nI (0)) dR_total_66 (by decide) ?_
    exact hret _ _ _ _ _ _ dR_total_67 (by decide) (by decide) (⟨rfl, rfl⟩)
  · exfalso; omega
set_option maxHeartbeats 4000000 in
set_option maxRecDepth 100000 in
theorem c_R_total_3 (E : jE) (l : Launch) (ox : Nat) (hT : Nat) (hF : Nat) (hS : Nat) (n : Nat) (a1 : Nat) (a2 : Nat) (a3 : Nat) (fc : Nat) (hn1 : 1 ≤ n) (hn4 : n ≤ 4) : Con E l yR_total bR_total 2 (some .int) { frames := 1, cells := 0, slots := 0, locals := 20 } [.ref (ox), .int (nI (3))] [((ox), .inr (4, [.ref (hT), .ref (hF), .ref (hS)])), ((hT), .inr (3, [.int (nI (n)), .int (nI (2 ^ n)), .ref (a1), .ref (a2), .ref (a3), .int (nI (fc))]))] (fun r w => r = some (.int (nI (n * 2 ^ (n - 1)))) ∧ w = [((ox), .inr (4, [.ref (hT), .ref (hF), .ref (hS)])), ((hT), .inr (3, [.int (nI (n)), .int (nI (2 ^ n)), .ref (a1), .ref (a2), .ref (a3), .int (nI (fc))]))]) := by
  refine Con.ofI (by decide) (Nat.le_of_ble_eq_true rfl) ?_
  intro J C hret
  show J 0 [(0, .ref (ox)), (1, .int (nI (3)))] [] [((ox), .inr (4, [.ref (hT), .ref (hF), .ref (hS)])), ((hT), .inr (3, [.int (nI (n)), .int (nI (2 ^ n)), .ref (a1), .ref (a2), .ref (a3), .int (nI (fc))]))] 0 0
  refine J_iload_n C 1 dR_total_0 rfl rfl ?_
  refine J_tswIn C (off := 67) 68 dR_total_1 (by decide) (by decide) (by decide) (by decide) ?_
  refine J_aload_n C 0 dR_total_68 rfl rfl ?_
  refine J_get C 0 0 hinR rfl rfl (by decide) fkR_10 rfl dR_total_69 ?_
  refine J_pick C (ws' := [((hT), .inr (3, [.int (nI (n)), .int (nI (2 ^ n)), .ref (a1), .ref (a2), .ref (a3), .int (nI (fc))])), ((ox), .inr (4, [.ref (hT), .ref (hF), .ref (hS)]))]) [1, 0] (by decide) rfl ?_
  refine J_callV C (rest := []) [] [((hT), .inr (3, [.int (nI (n)), .int (nI (2 ^ n)), .ref (a1), .ref (a2), .ref (a3), .int (nI (fc))]))] [((ox), .inr (4, [.ref (hT), .ref (hF), .ref (hS)]))] 0 (c_T_bitCount E l hT n a1 a2 a3 fc) mmT_bitCount msT_bitCount lkR_56 rfl rfl (rfl) rfl rfl ⟨by decide, by decide⟩ ⟨by decide, by decide⟩ (Nat.le_of_ble_eq_true rfl) dR_total_72 (fun r_c w_c hp => ?_)
  obtain ⟨rfl, rfl⟩ := hp
  refine J_norm C (st' := [.int (nI (n))]) (ws' := [((hT), .inr (3, [.int (nI (n)), .int (nI (2 ^ n)), .ref (a1), .ref (a2), .ref (a3), .int (nI (fc))])), ((ox), .inr (4, [.ref (hT), .ref (hF), .ref (hS)]))]) (cs' := 0) (ss' := 0) rfl (rfl) rfl rfl ?_
  refine J_pick C (ws' := [((ox), .inr (4, [.ref (hT), .ref (hF), .ref (hS)])), ((hT), .inr (3, [.int (nI (n)), .int (nI (2 ^ n)), .ref (a1), .ref (a2), .ref (a3), .int (nI (fc))]))]) [1, 0] (by decide) rfl ?_
  refine J_aload_n C 0 dR_total_75 rfl rfl ?_
  refine J_get C 0 0 hinR rfl rfl (by decide) fkR_10 rfl dR_total_76 ?_
  refine J_pick C (ws' := [((hT), .inr (3, [.int (nI (n)), .int (nI (2 ^ n)), .ref (a1), .ref (a2), .ref (a3), .int (nI (fc))])), ((ox), .inr (4, [.ref (hT), .ref (hF), .ref (hS)]))]) [1, 0] (by decide) rfl ?_
  refine J_callV C (rest := [.int (nI (n))]) [] [((hT), .inr (3, [.int (nI (n)), .int (nI (2 ^ n)), .ref (a1), .ref (a2), .ref (a3), .int (nI (fc))]))] [((ox), .inr (4, [.ref (hT), .ref (hF), .ref (hS)]))] 0 (c_T_bitCount E l hT n a1 a2 a3 fc) mmT_bitCount msT_bitCount lkR_56 rfl rfl (rfl) rfl rfl ⟨by decide, by decide⟩ ⟨by decide, by decide⟩ (Nat.le_of_ble_eq_true rfl) dR_total_79 (fun r_c w_c hp => ?_)
  obtain ⟨rfl, rfl⟩ := hp
  refine J_norm C (st' := [.int (nI (n)), .int (nI (n))]) (ws' := [((hT), .inr (3, [.int (nI (n)), .int (nI (2 ^ n)), .ref (a1), .ref (a2), .ref (a3), .int (nI (fc))])), ((ox), .inr (4, [.ref (hT), .ref (hF), .ref (hS)]))]) (cs' := 0) (ss' := 0) rfl (rfl) rfl rfl ?_
  refine J_pick C (ws' := [((ox), .inr (4, [.ref (hT), .ref (hF), .ref (hS)])), ((hT), .inr (3, [.int (nI (n)), .int (nI (2 ^ n)), .ref (a1), .ref (a2), .ref (a3), .int (nI (fc))]))]) [1, 0] (by decide) rfl ?_
  refine J_iconst C (v := nI (1)) dR_total_82 (by decide) ?_
  refine J_isubN C dR_total_83 (by omega) ?_
  refine J_ishlN C dR_total_84 (by omega) ?_
  exact hret _ _ _ _ _ _ dR_total_85 (by decide) (by decide) (⟨rfl, rfl⟩)
set_option maxHeartbeats 4000000 in
set_option maxRecDepth 100000 in
theorem c_R_total_4 (E : jE) (l : Launch) (ox : Nat) (hT : Nat) (hF : Nat) (hS : Nat) (n : Nat) (a1 : Nat) (a2 : Nat) (a3 : Nat) (fc : Nat) (hn1 : 1 ≤ n) (hn4 : n ≤ 4) : Con E l yR_total bR_total 2 (some .int) { frames := 1, cells := 0, slots := 0, locals := 22 } [.ref (ox), .int (nI (4))] [((ox), .inr (4, [.ref (hT), .ref (hF), .ref (hS)])), ((hT), .inr (3, [.int (nI (n)), .int (nI (2 ^ n)), .ref (a1), .ref (a2), .ref (a3), .int (nI (fc))]))] (fun r w => r = some (.int (nI (3 ^ n))) ∧ w = [((ox), .inr (4, [.ref (hT), .ref (hF), .ref (hS)])), ((hT), .inr (3, [.int (nI (n)), .int (nI (2 ^ n)), .ref (a1), .ref (a2), .ref (a3), .int (nI (fc))]))]) := by
  refine Con.ofI (by decide) (Nat.le_of_ble_eq_true rfl) ?_
  intro J C hret
  show J 0 [(0, .ref (ox)), (1, .int (nI (4)))] [] [((ox), .inr (4, [.ref (hT), .ref (hF), .ref (hS)])), ((hT), .inr (3, [.int (nI (n)), .int (nI (2 ^ n)), .ref (a1), .ref (a2), .ref (a3), .int (nI (fc))]))] 0 0
  refine J_iload_n C 1 dR_total_0 rfl rfl ?_
  refine J_tswIn C (off := 85) 86 dR_total_1 (by decide) (by decide) (by decide) (by decide) ?_
  refine J_aload_n C 0 dR_total_86 rfl rfl ?_
  refine J_get C 0 0 hinR rfl rfl (by decide) fkR_10 rfl dR_total_87 ?_
  refine J_pick C (ws' := [((hT), .inr (3, [.int (nI (n)), .int (nI (2 ^ n)), .ref (a1), .ref (a2), .ref (a3), .int (nI (fc))])), ((ox), .inr (4, [.ref (hT), .ref (hF), .ref (hS)]))]) [1, 0] (by decide) rfl ?_
  refine J_callV C (rest := []) [] [((hT), .inr (3, [.int (nI (n)), .int (nI (2 ^ n)), .ref (a1), .ref (a2), .ref (a3), .int (nI (fc))]))] [((ox), .inr (4, [.ref (hT), .ref (hF), .ref (hS)]))] 0 (c_T_bitCount E l hT n a1 a2 a3 fc) mmT_bitCount msT_bitCount lkR_56 rfl rfl (rfl) rfl rfl ⟨by decide, by decide⟩ ⟨by decide, by decide⟩ (Nat.le_of_ble_eq_true rfl) dR_total_90 (fun r_c w_c hp => ?_)
  obtain ⟨rfl, rfl⟩ := hp
  refine J_norm C (st' := [.int (nI (n))]) (ws' := [((hT), .inr (3, [.int (nI (n)), .int (nI (2 ^ n)), .ref (a1), .ref (a2), .ref (a3), .int (nI (fc))])), ((ox), .inr (4, [.ref (hT), .ref (hF), .ref (hS)]))]) (cs' := 0) (ss' := 0) rfl (rfl) rfl rfl ?_
  refine J_pick C (ws' := [((ox), .inr (4, [.ref (hT), .ref (hF), .ref (hS)])), ((hT), .inr (3, [.int (nI (n)), .int (nI (2 ^ n)), .ref (a1), .ref (a2), .ref (a3), .int (nI (fc))]))]) [1, 0] (by decide) rfl ?_
  refine J_callS C (rest := []) [] [] [((ox), .inr (4, [.ref (hT), .ref (hF), .ref (hS)])), ((hT), .inr (3, [.int (nI (n)), .int (nI (2 ^ n)), .ref (a1), .ref (a2), .ref (a3), .int (nI (fc))]))] (c_P_count E l n (by omega)) mmP_count lkR_71 (rfl) rfl rfl ⟨by decide, by decide⟩ ⟨by decide, by decide⟩ (Nat.le_of_ble_eq_true rfl) dR_total_93 (fun r_c w_c hp => ?_)
  obtain ⟨rfl, rfl⟩ := hp
  refine J_norm C (st' := [.int (nI (3 ^ n))]) (ws' := [((ox), .inr (4, [.ref (hT), .ref (hF), .ref (hS)])), ((hT), .inr (3, [.int (nI (n)), .int (nI (2 ^ n)), .ref (a1), .ref (a2), .ref (a3), .int (nI (fc))]))]) (cs' := 0) (ss' := 0) rfl (rfl) rfl rfl ?_
  exact hret _ _ _ _ _ _ dR_total_96 (by decide) (by decide) (⟨rfl, rfl⟩)
set_option maxHeartbeats 4000000 in
set_option maxRecDepth 100000 in
theorem c_R_total_x (E : jE) (l : Launch) (ox : Nat) (hT : Nat) (hF : Nat) (hS : Nat) (x : Int32) (hx : x.toInt < 0 ∨ 4 < x.toInt) : Con E l yR_total bR_total 2 (some .int) { frames := 0, cells := 0, slots := 0, locals := 0 } [.ref (ox), .int (x)] [((ox), .inr (4, [.ref (hT), .ref (hF), .ref (hS)]))] (fun r w => r = some (.int (-1)) ∧ w = [((ox), .inr (4, [.ref (hT), .ref (hF), .ref (hS)]))]) := by
  refine Con.ofI (by decide) (Nat.le_of_ble_eq_true rfl) ?_
  intro J C hret
  show J 0 [(0, .ref (ox)), (1, .int (x))] [] [((ox), .inr (4, [.ref (hT), .ref (hF), .ref (hS)]))] 0 0
  refine J_iload_n C 1 dR_total_0 rfl rfl ?_
  refine J_tswOut C 97 dR_total_1 (by omega) (by decide) ?_
  refine J_iconst C (v := -1) dR_total_97 (by decide) ?_
  exact hret _ _ _ _ _ _ dR_total_98 (by decide) (by decide) (⟨rfl, rfl⟩)
set_option maxHeartbeats 4000000 in
set_option maxRecDepth 100000 in
theorem c_S_init (E : jE) (l : Launch) (h : Nat) : Con E l yS_init bS_init 1 none { frames := 2, cells := 6, slots := 4122, locals := 33 } [.ref (h)] [((h), .inr (2, [.int (nI (0)), .null, .null, .null, .null, .null, .int (nI (0))]))] (fun r w => ∃ e1 e2 e3 e8 e4 e5 : Nat, r = none ∧ w = [((h), .inr (2, [.int (nI (1)), .ref (e1), .ref (e2), .ref (e3), .ref (e4), .ref (e5), .int (nI (0))])), kI E (e1) (12) (fun _ => 0), kQ E (e2) (13) (fun _ => none), ((e3), .inr (1, [.ref (e8)])), kI E (e8) (0) (fun _ => 0), kI E (e4) (0) (fun _ => 0), kI E (e5) (0) (fun _ => 0)]) := by
  refine Con.ofN rfl (by decide) (Nat.le_of_ble_eq_true rfl) ?_
  intro J C hinit hret
  show J 0 [(0, .ref (h))] [] [((h), .inr (2, [.int (nI (0)), .null, .null, .null, .null, .null, .int (nI (0))]))] 0 0
  refine J_aload_n C 0 dS_init_0 rfl rfl ?_
  refine J_objInit C lkS_3 k_objI k_objC dS_init_1 (by decide) (Nat.le_of_ble_eq_true rfl) ?_
  refine J_aload_n C 0 dS_init_4 rfl rfl ?_
  refine J_iconst C (v := nI (1)) dS_init_5 (by decide) ?_
  refine J_put C (ws' := [((h), .inr (2, [.int (nI (1)), .null, .null, .null, .null, .null, .int (nI (0))]))]) 0 0 tyS hinS tyokS nmS rfl rfl (by decide) fkS_9 rfl rfl rfl (Nat.le_of_ble_eq_true rfl) dS_init_6 rfl ?_
  refine J_aload_n C 0 dS_init_9 rfl rfl ?_
  refine J_bipush C (v := nI (12)) dS_init_10 (by decide) ?_
  refine J_newaI C ar_int (by omega) (by decide) (by decide) dS_init_12 (fun d1 => ?_)
  refine hinit (ws' := [((h), .inr (2, [.int (nI (1)), .ref (d1), .null, .null, .null, .null, .int (nI (0))])), kI E (d1) (12) (fun _ => 0)]) _ _ _ _ _ _ _ _ _ _ _ _ 0 _ 1 tyS _ hinS tyokS nmS rfl rfl (by decide) fkS_15 rfl rfl rfl rfl (Nat.le_of_ble_eq_true rfl) dS_init_14 rfl ?_
  refine J_aload_n C 0 dS_init_17 rfl rfl ?_
  refine J_bipush C (v := nI (13)) dS_init_18 (by decide) ?_
  refine J_newaM C ckS_19 (by omega) (by decide) (by decide) dS_init_20 (fun d2 => ?_)
  refine hinit (ws' := [((h), .inr (2, [.int (nI (1)), .ref (d1), .ref (d2), .null, .null, .null, .int (nI (0))])), kI E (d1) (12) (fun _ => 0), kQ E (d2) (13) (fun _ => none)]) _ _ _ _ _ _ _ _ _ _ _ _ 0 _ 2 tyS _ hinS tyokS nmS rfl rfl (by decide) fkS_21 rfl rfl rfl rfl (Nat.le_of_ble_eq_true rfl) dS_init_23 rfl ?_
  refine J_aload_n C 0 dS_init_26 rfl rfl ?_
  refine J_new C (ci := 1) (fs := [.null]) tyV hinV tyokV ckS_19 inV itV rfl (by decide +kernel) (by decide) (by decide) dS_init_27 (fun d3 => ?_)
  refine J_dup C dS_init_30 rfl ?_
  refine J_iconst C (v := nI (0)) dS_init_31 (by decide) ?_
  refine J_pick C (ws' := [((d3), .inr (1, [.null])), ((h), .inr (2, [.int (nI (1)), .ref (d1), .ref (d2), .null, .null, .null, .int (nI (0))])), kI E (d1) (12) (fun _ => 0), kQ E (d2) (13) (fun _ => none)]) [3, 0, 1, 2] (by decide) rfl ?_
  refine J_callI C (rest := [.ref (d3), .ref (h)]) [] [((d3), .inr (1, [.null]))] [((h), .inr (2, [.int (nI (1)), .ref (d1), .ref (d2), .null, .null, .null, .int (nI (0))])), kI E (d1) (12) (fun _ => 0), kQ E (d2) (13) (fun _ => none)] (c_V_init E l d3 0 (by omega)) mmV_init rfl lkS_25 (rfl) rfl rfl ⟨by decide, by decide⟩ ⟨by decide, by decide⟩ (Nat.le_of_ble_eq_true rfl) dS_init_32 (fun r_c w_c hp => ?_)
  obtain ⟨d8, rfl, rfl⟩ := hp
  refine J_norm C (st' := [.ref (d3), .ref (h)]) (ws' := [((d3), .inr (1, [.ref (d8)])), kI E (d8) (0) (fun _ => 0), ((h), .inr (2, [.int (nI (1)), .ref (d1), .ref (d2), .null, .null, .null, .int (nI (0))])), kI E (d1) (12) (fun _ => 0), kQ E (d2) (13) (fun _ => none)]) (cs' := 4) (ss' := 4122) rfl (rfl) rfl rfl ?_
  refine J_pick C (ws' := [((h), .inr (2, [.int (nI (1)), .ref (d1), .ref (d2), .null, .null, .null, .int (nI (0))])), kI E (d1) (12) (fun _ => 0), kQ E (d2) (13) (fun _ => none), ((d3), .inr (1, [.ref (d8)])), kI E (d8) (0) (fun _ => 0)]) [2, 3, 4, 0, 1] (by decide) rfl ?_
  refine hinit (ws' := [((h), .inr (2, [.int (nI (1)), .ref (d1), .ref (d2), .ref (d3), .null, .null, .int (nI (0))])), kI E (d1) (12) (fun _ => 0), kQ E (d2) (13) (fun _ => none), ((d3), .inr (1, [.ref (d8)])), kI E (d8) (0) (fun _ => 0)]) _ _ _ _ _ _ _ _ _ _ _ _ 0 _ 3 tyS _ hinS tyokS nmS rfl rfl (by decide) fkS_28 rfl rfl rfl rfl (Nat.le_of_ble_eq_true rfl) dS_init_35 rfl ?_
  refine J_aload_n C 0 dS_init_38 rfl rfl ?_
  refine J_iconst C (v := nI (0)) dS_init_39 (by decide) ?_
  refine J_newaI C ar_int (by omega) (by decide) (by decide) dS_init_40 (fun d4 => ?_)
  refine J_put C (ws' := [((h), .inr (2, [.int (nI (1)), .ref (d1), .ref (d2), .ref (d3), .ref (d4), .null, .int (nI (0))])), kI E (d1) (12) (fun _ => 0), kQ E (d2) (13) (fun _ => none), ((d3), .inr (1, [.ref (d8)])), kI E (d8) (0) (fun _ => 0), kI E (d4) (0) (fun _ => 0)]) 0 4 tyS hinS tyokS nmS rfl rfl (by decide) fkS_32 rfl rfl rfl (Nat.le_of_ble_eq_true rfl) dS_init_42 rfl ?_
  refine J_aload_n C 0 dS_init_45 rfl rfl ?_
  refine J_iconst C (v := nI (0)) dS_init_46 (by decide) ?_
  refine J_newaI C ar_int (by omega) (by decide) (by decide) dS_init_47 (fun d5 => ?_)
  refine J_put C (ws' := [((h), .inr (2, [.int (nI (1)), .ref (d1), .ref (d2), .ref (d3), .ref (d4), .ref (d5), .int (nI (0))])), kI E (d1) (12) (fun _ => 0), kQ E (d2) (13) (fun _ => none), ((d3), .inr (1, [.ref (d8)])), kI E (d8) (0) (fun _ => 0), kI E (d4) (0) (fun _ => 0), kI E (d5) (0) (fun _ => 0)]) 0 5 tyS hinS tyokS nmS rfl rfl (by decide) fkS_35 rfl rfl rfl (Nat.le_of_ble_eq_true rfl) dS_init_49 rfl ?_
  exact hret _ _ _ _ _ dS_init_52 (by decide) (by decide) (⟨d1, d2, d3, d8, d4, d5, rfl, rfl⟩)
set_option maxHeartbeats 4000000 in
set_option maxRecDepth 100000 in
theorem c_R_init (E : jE) (l : Launch) (ox : Nat) : Con E l yR_init bR_init 1 none { frames := 3, cells := 13, slots := 4511, locals := 53 } [.ref (ox)] [((ox), .inr (4, [.null, .null, .null]))] (fun r w => ∃ (hT a1 a2 a3 hF fb : Nat) (rw1 : Nat → Int64) (hS e1 e2 e3 e8 e4 e5 : Nat), r = none ∧ fRow (0 + 1) rw1 ∧ w = [((ox), .inr (4, [.ref (hT), .ref (hF), .ref (hS)])), ((hT), .inr (3, [.int (nI (1)), .int (nI (2 ^ 1)), .ref (a1), .ref (a2), .ref (a3), .int (nI (0))])), kI E (a1) (16) (fun j => j), kI E (a2) (16) (fun _ => 0), kI E (a3) (64) (fun _ => 0), ((hF), .inr (0, [.ref (fb), .int (nI (0 + 1))])), kL E (fb) (278) (rw1), ((hS), .inr (2, [.int (nI (1)), .ref (e1), .ref (e2), .ref (e3), .ref (e4), .ref (e5), .int (nI (0))])), kI E (e1) (12) (fun _ => 0), kQ E (e2) (13) (fun _ => none), ((e3), .inr (1, [.ref (e8)])), kI E (e8) (0) (fun _ => 0), kI E (e4) (0) (fun _ => 0), kI E (e5) (0) (fun _ => 0)]) := by
  refine Con.ofN rfl (by decide) (Nat.le_of_ble_eq_true rfl) ?_
  intro J C hinit hret
  show J 0 [(0, .ref (ox))] [] [((ox), .inr (4, [.null, .null, .null]))] 0 0
  refine J_aload_n C 0 dR_init_0 rfl rfl ?_
  refine J_objInit C lkR_1 k_objI k_objC dR_init_1 (by decide) (Nat.le_of_ble_eq_true rfl) ?_
  refine J_aload_n C 0 dR_init_4 rfl rfl ?_
  refine J_new C (ci := 3) (fs := [.int (nI (0)), .int (nI (0)), .null, .null, .null, .int (nI (0))]) tyT hinT tyokT ckR_7 inT itT rfl (by decide +kernel) (by decide) (by decide) dR_init_5 (fun hTa => ?_)
  refine J_dup C dR_init_8 rfl ?_
  refine J_pick C (ws' := [((hTa), .inr (3, [.int (nI (0)), .int (nI (0)), .null, .null, .null, .int (nI (0))])), ((ox), .inr (4, [.null, .null, .null]))]) [1, 0] (by decide) rfl ?_
  refine J_callI C (rest := [.ref (hTa), .ref (ox)]) [] [((hTa), .inr (3, [.int (nI (0)), .int (nI (0)), .null, .null, .null, .int (nI (0))]))] [((ox), .inr (4, [.null, .null, .null]))] (c_T_init E l hTa) mmT_init rfl lkR_9 (rfl) rfl rfl ⟨by decide, by decide⟩ ⟨by decide, by decide⟩ (Nat.le_of_ble_eq_true rfl) dR_init_9 (fun r_c w_c hp => ?_)
  obtain ⟨a1x, a2x, a3x, rfl, rfl⟩ := hp
  refine J_norm C (st' := [.ref (hTa), .ref (ox)]) (ws' := [((hTa), .inr (3, [.int (nI (1)), .int (nI (2 ^ 1)), .ref (a1x), .ref (a2x), .ref (a3x), .int (nI (0))])), kI E (a1x) (16) (fun j => j), kI E (a2x) (16) (fun _ => 0), kI E (a3x) (64) (fun _ => 0), ((ox), .inr (4, [.null, .null, .null]))]) (cs' := 4) (ss' := 102) rfl (rfl) rfl rfl ?_
  refine J_pick C (ws' := [((ox), .inr (4, [.null, .null, .null])), ((hTa), .inr (3, [.int (nI (1)), .int (nI (2 ^ 1)), .ref (a1x), .ref (a2x), .ref (a3x), .int (nI (0))])), kI E (a1x) (16) (fun j => j), kI E (a2x) (16) (fun _ => 0), kI E (a3x) (64) (fun _ => 0)]) [4, 0, 1, 2, 3] (by decide) rfl ?_
  refine hinit (ws' := [((ox), .inr (4, [.ref (hTa), .null, .null])), ((hTa), .inr (3, [.int (nI (1)), .int (nI (2 ^ 1)), .ref (a1x), .ref (a2x), .ref (a3x), .int (nI (0))])), kI E (a1x) (16) (fun j => j), kI E (a2x) (16) (fun _ => 0), kI E (a3x) (64) (fun _ => 0)]) _ _ _ _ _ _ _ _ _ _ _ _ 0 _ 0 tyR _ hinR tyokR nmR rfl rfl (by decide) fkR_10 rfl rfl rfl rfl (Nat.le_of_ble_eq_true rfl) dR_init_12 rfl ?_
  refine J_aload_n C 0 dR_init_15 rfl rfl ?_
  refine J_new C (ci := 0) (fs := [.null, .int (nI (0))]) tyF hinF tyokF ckR_16 inF itF rfl (by decide +kernel) (by decide) (by decide) dR_init_16 (fun hFa => ?_)
  refine J_dup C dR_init_19 rfl ?_
  refine J_pick C (ws' := [((hFa), .inr (0, [.null, .int (nI (0))])), ((ox), .inr (4, [.ref (hTa), .null, .null])), ((hTa), .inr (3, [.int (nI (1)), .int (nI (2 ^ 1)), .ref (a1x), .ref (a2x), .ref (a3x), .int (nI (0))])), kI E (a1x) (16) (fun j => j), kI E (a2x) (16) (fun _ => 0), kI E (a3x) (64) (fun _ => 0)]) [5, 0, 1, 2, 3, 4] (by decide) rfl ?_
  refine J_callI C (rest := [.ref (hFa), .ref (ox)]) [] [((hFa), .inr (0, [.null, .int (nI (0))]))] [((ox), .inr (4, [.ref (hTa), .null, .null])), ((hTa), .inr (3, [.int (nI (1)), .int (nI (2 ^ 1)), .ref (a1x), .ref (a2x), .ref (a3x), .int (nI (0))])), kI E (a1x) (16) (fun j => j), kI E (a2x) (16) (fun _ => 0), kI E (a3x) (64) (fun _ => 0)] (c_F_init E l hFa) mmF_init rfl lkR_18 (rfl) rfl rfl ⟨by decide, by decide⟩ ⟨by decide, by decide⟩ (Nat.le_of_ble_eq_true rfl) dR_init_20 (fun r_c w_c hp => ?_)
  obtain ⟨bx, rw1x, rfl, hrw1x, rfl⟩ := hp
  refine J_norm C (st' := [.ref (hFa), .ref (ox)]) (ws' := [((hFa), .inr (0, [.ref (bx), .int (nI (0 + 1))])), kL E (bx) (278) (rw1x), ((ox), .inr (4, [.ref (hTa), .null, .null])), ((hTa), .inr (3, [.int (nI (1)), .int (nI (2 ^ 1)), .ref (a1x), .ref (a2x), .ref (a3x), .int (nI (0))])), kI E (a1x) (16) (fun j => j), kI E (a2x) (16) (fun _ => 0), kI E (a3x) (64) (fun _ => 0)]) (cs' := 6) (ss' := 382) rfl (rfl) rfl rfl ?_
  refine J_pick C (ws' := [((ox), .inr (4, [.ref (hTa), .null, .null])), ((hTa), .inr (3, [.int (nI (1)), .int (nI (2 ^ 1)), .ref (a1x), .ref (a2x), .ref (a3x), .int (nI (0))])), kI E (a1x) (16) (fun j => j), kI E (a2x) (16) (fun _ => 0), kI E (a3x) (64) (fun _ => 0), ((hFa), .inr (0, [.ref (bx), .int (nI (0 + 1))])), kL E (bx) (278) (rw1x)]) [2, 3, 4, 5, 6, 0, 1] (by decide) rfl ?_
  refine hinit (ws' := [((ox), .inr (4, [.ref (hTa), .ref (hFa), .null])), ((hTa), .inr (3, [.int (nI (1)), .int (nI (2 ^ 1)), .ref (a1x), .ref (a2x), .ref (a3x), .int (nI (0))])), kI E (a1x) (16) (fun j => j), kI E (a2x) (16) (fun _ => 0), kI E (a3x) (64) (fun _ => 0), ((hFa), .inr (0, [.ref (bx), .int (nI (0 + 1))])), kL E (bx) (278) (rw1x)]) _ _ _ _ _ _ _ _ _ _ _ _ 0 _ 1 tyR _ hinR tyokR nmR rfl rfl (by decide) fkR_19 rfl rfl rfl rfl (Nat.le_of_ble_eq_true rfl) dR_init_23 rfl ?_
  refine J_aload_n C 0 dR_init_26 rfl rfl ?_
  refine J_new C (ci := 2) (fs := [.int (nI (0)), .null, .null, .null, .null, .null, .int (nI (0))]) tyS hinS tyokS ckR_23 inS itS rfl (by decide +kernel) (by decide) (by decide) dR_init_27 (fun hSa => ?_)
  refine J_dup C dR_init_30 rfl ?_
  refine J_pick C (ws' := [((hSa), .inr (2, [.int (nI (0)), .null, .null, .null, .null, .null, .int (nI (0))])), ((ox), .inr (4, [.ref (hTa), .ref (hFa), .null])), ((hTa), .inr (3, [.int (nI (1)), .int (nI (2 ^ 1)), .ref (a1x), .ref (a2x), .ref (a3x), .int (nI (0))])), kI E (a1x) (16) (fun j => j), kI E (a2x) (16) (fun _ => 0), kI E (a3x) (64) (fun _ => 0), ((hFa), .inr (0, [.ref (bx), .int (nI (0 + 1))])), kL E (bx) (278) (rw1x)]) [7, 0, 1, 2, 3, 4, 5, 6] (by decide) rfl ?_
  refine J_callI C (rest := [.ref (hSa), .ref (ox)]) [] [((hSa), .inr (2, [.int (nI (0)), .null, .null, .null, .null, .null, .int (nI (0))]))] [((ox), .inr (4, [.ref (hTa), .ref (hFa), .null])), ((hTa), .inr (3, [.int (nI (1)), .int (nI (2 ^ 1)), .ref (a1x), .ref (a2x), .ref (a3x), .int (nI (0))])), kI E (a1x) (16) (fun j => j), kI E (a2x) (16) (fun _ => 0), kI E (a3x) (64) (fun _ => 0), ((hFa), .inr (0, [.ref (bx), .int (nI (0 + 1))])), kL E (bx) (278) (rw1x)] (c_S_init E l hSa) mmS_init rfl lkR_25 (rfl) rfl rfl ⟨by decide, by decide⟩ ⟨by decide, by decide⟩ (Nat.le_of_ble_eq_true rfl) dR_init_31 (fun r_c w_c hp => ?_)
  obtain ⟨e1x, e2x, e3x, e8x, e4x, e5x, rfl, rfl⟩ := hp
  refine J_norm C (st' := [.ref (hSa), .ref (ox)]) (ws' := [((hSa), .inr (2, [.int (nI (1)), .ref (e1x), .ref (e2x), .ref (e3x), .ref (e4x), .ref (e5x), .int (nI (0))])), kI E (e1x) (12) (fun _ => 0), kQ E (e2x) (13) (fun _ => none), ((e3x), .inr (1, [.ref (e8x)])), kI E (e8x) (0) (fun _ => 0), kI E (e4x) (0) (fun _ => 0), kI E (e5x) (0) (fun _ => 0), ((ox), .inr (4, [.ref (hTa), .ref (hFa), .null])), ((hTa), .inr (3, [.int (nI (1)), .int (nI (2 ^ 1)), .ref (a1x), .ref (a2x), .ref (a3x), .int (nI (0))])), kI E (a1x) (16) (fun j => j), kI E (a2x) (16) (fun _ => 0), kI E (a3x) (64) (fun _ => 0), ((hFa), .inr (0, [.ref (bx), .int (nI (0 + 1))])), kL E (bx) (278) (rw1x)]) (cs' := 13) (ss' := 4511) rfl (rfl) rfl rfl ?_
  refine J_pick C (ws' := [((ox), .inr (4, [.ref (hTa), .ref (hFa), .null])), ((hTa), .inr (3, [.int (nI (1)), .int (nI (2 ^ 1)), .ref (a1x), .ref (a2x), .ref (a3x), .int (nI (0))])), kI E (a1x) (16) (fun j => j), kI E (a2x) (16) (fun _ => 0), kI E (a3x) (64) (fun _ => 0), ((hFa), .inr (0, [.ref (bx), .int (nI (0 + 1))])), kL E (bx) (278) (rw1x), ((hSa), .inr (2, [.int (nI (1)), .ref (e1x), .ref (e2x), .ref (e3x), .ref (e4x), .ref (e5x), .int (nI (0))])), kI E (e1x) (12) (fun _ => 0), kQ E (e2x) (13) (fun _ => none), ((e3x), .inr (1, [.ref (e8x)])), kI E (e8x) (0) (fun _ => 0), kI E (e4x) (0) (fun _ => 0), kI E (e5x) (0) (fun _ => 0)]) [7, 8, 9, 10, 11, 12, 13, 0, 1, 2, 3, 4, 5, 6] (by decide) rfl ?_
  refine hinit (ws' := [((ox), .inr (4, [.ref (hTa), .ref (hFa), .ref (hSa)])), ((hTa), .inr (3, [.int (nI (1)), .int (nI (2 ^ 1)), .ref (a1x), .ref (a2x), .ref (a3x), .int (nI (0))])), kI E (a1x) (16) (fun j => j), kI E (a2x) (16) (fun _ => 0), kI E (a3x) (64) (fun _ => 0), ((hFa), .inr (0, [.ref (bx), .int (nI (0 + 1))])), kL E (bx) (278) (rw1x), ((hSa), .inr (2, [.int (nI (1)), .ref (e1x), .ref (e2x), .ref (e3x), .ref (e4x), .ref (e5x), .int (nI (0))])), kI E (e1x) (12) (fun _ => 0), kQ E (e2x) (13) (fun _ => none), ((e3x), .inr (1, [.ref (e8x)])), kI E (e8x) (0) (fun _ => 0), kI E (e4x) (0) (fun _ => 0), kI E (e5x) (0) (fun _ => 0)]) _ _ _ _ _ _ _ _ _ _ _ _ 0 _ 2 tyR _ hinR tyokR nmR rfl rfl (by decide) fkR_26 rfl rfl rfl rfl (Nat.le_of_ble_eq_true rfl) dR_init_34 rfl ?_
  exact hret _ _ _ _ _ dR_init_37 (by decide) (by decide) (⟨_, _, _, _, _, _, _, _, _, _, _, _, _, _, rfl, hrw1x, rfl⟩)
set_option maxHeartbeats 4000000 in
set_option maxRecDepth 100000 in
theorem c_M_init (E : jE) (l : Launch) (h : Nat) : Con E l yM_init bM_init 1 none { frames := 1, cells := 11, slots := 82429, locals := 22 } [.ref (h)] [((h), .inr (5, [.int (nI (0)), .int (nI (0)), .null, .int (nI (0)), .null, .null, .null, .int (nI (0)), .null, .null, .null, .null, .null, .null, .null]))] (fun r w => ∃ m1 m2 m3 m4 m5 m6 m7 m8 m9 ma mb : Nat, r = none ∧ w = [((h), .inr (5, [.int (nI (0)), .int (nI (1)), .ref (m1), .int (nI (1)), .ref (m2), .ref (m3), .ref (m4), .int (nI (0)), .ref (m5), .ref (m6), .ref (m7), .ref (m8), .ref (m9), .ref (ma), .ref (mb)])), kI E (m1) (16) (fun j => j), kI E (m2) (12) (fun _ => 0), kI E (m3) (16) (fun _ => 0), kI E (m4) (64) (fun _ => 0), kB E (m5) (5) (fun _ => 0), kM E (m6) (65812) (fun _ => 1), kI E (m7) (120) (fun _ => 0), kB E (m8) (4096) (fun _ => 0), kI E (m9) (4096) (fun _ => 0), kM E (ma) (4096) (fun _ => 1), kI E (mb) (4096) (fun _ => 0)]) := by
  refine Con.ofN rfl (by decide) (Nat.le_of_ble_eq_true rfl) ?_
  intro J C hinit hret
  show J 0 [(0, .ref (h))] [] [((h), .inr (5, [.int (nI (0)), .int (nI (0)), .null, .int (nI (0)), .null, .null, .null, .int (nI (0)), .null, .null, .null, .null, .null, .null, .null]))] 0 0
  refine J_aload_n C 0 dM_init_0 rfl rfl ?_
  refine J_objInit C lkM_1 k_objI k_objC dM_init_1 (by decide) (Nat.le_of_ble_eq_true rfl) ?_
  refine J_aload_n C 0 dM_init_4 rfl rfl ?_
  refine J_bipush C (v := nI (16)) dM_init_5 (by decide) ?_
  refine J_newaI C ar_int (by omega) (by decide) (by decide) dM_init_7 (fun zm1 => ?_)
  refine hinit (ws' := [((h), .inr (5, [.int (nI (0)), .int (nI (0)), .ref (zm1), .int (nI (0)), .null, .null, .null, .int (nI (0)), .null, .null, .null, .null, .null, .null, .null])), kI E (zm1) (16) (fun _ => 0)]) _ _ _ _ _ _ _ _ _ _ _ _ 0 _ 2 tyM _ hinM tyokM nmM rfl rfl (by decide) fkM_7 rfl rfl rfl rfl (Nat.le_of_ble_eq_true rfl) dM_init_9 rfl ?_
  refine J_aload_n C 0 dM_init_12 rfl rfl ?_
  refine J_bipush C (v := nI (12)) dM_init_13 (by decide) ?_
  refine J_newaI C ar_int (by omega) (by decide) (by decide) dM_init_15 (fun zm2 => ?_)
  refine hinit (ws' := [((h), .inr (5, [.int (nI (0)), .int (nI (0)), .ref (zm1), .int (nI (0)), .ref (zm2), .null, .null, .int (nI (0)), .null, .null, .null, .null, .null, .null, .null])), kI E (zm1) (16) (fun _ => 0), kI E (zm2) (12) (fun _ => 0)]) _ _ _ _ _ _ _ _ _ _ _ _ 0 _ 4 tyM _ hinM tyokM nmM rfl rfl (by decide) fkM_13 rfl rfl rfl rfl (Nat.le_of_ble_eq_true rfl) dM_init_17 rfl ?_
  refine J_aload_n C 0 dM_init_20 rfl rfl ?_
  refine J_bipush C (v := nI (16)) dM_init_21 (by decide) ?_
  refine J_newaI C ar_int (by omega) (by decide) (by decide) dM_init_23 (fun zm3 => ?_)
  refine hinit (ws' := [((h), .inr (5, [.int (nI (0)), .int (nI (0)), .ref (zm1), .int (nI (0)), .ref (zm2), .ref (zm3), .null, .int (nI (0)), .null, .null, .null, .null, .null, .null, .null])), kI E (zm1) (16) (fun _ => 0), kI E (zm2) (12) (fun _ => 0), kI E (zm3) (16) (fun _ => 0)]) _ _ _ _ _ _ _ _ _ _ _ _ 0 _ 5 tyM _ hinM tyokM nmM rfl rfl (by decide) fkM_16 rfl rfl rfl rfl (Nat.le_of_ble_eq_true rfl) dM_init_25 rfl ?_
  refine J_aload_n C 0 dM_init_28 rfl rfl ?_
  refine J_bipush C (v := nI (64)) dM_init_29 (by decide) ?_
  refine J_newaI C ar_int (by omega) (by decide) (by decide) dM_init_31 (fun zm4 => ?_)
  refine hinit (ws' := [((h), .inr (5, [.int (nI (0)), .int (nI (0)), .ref (zm1), .int (nI (0)), .ref (zm2), .ref (zm3), .ref (zm4), .int (nI (0)), .null, .null, .null, .null, .null, .null, .null])), kI E (zm1) (16) (fun _ => 0), kI E (zm2) (12) (fun _ => 0), kI E (zm3) (16) (fun _ => 0), kI E (zm4) (64) (fun _ => 0)]) _ _ _ _ _ _ _ _ _ _ _ _ 0 _ 6 tyM _ hinM tyokM nmM rfl rfl (by decide) fkM_19 rfl rfl rfl rfl (Nat.le_of_ble_eq_true rfl) dM_init_33 rfl ?_
  refine J_aload_n C 0 dM_init_36 rfl rfl ?_
  refine J_iconst C (v := nI (5)) dM_init_37 (by decide) ?_
  refine J_newaZ C ar_boolean (by omega) (by decide) (by decide) dM_init_38 (fun zm5 => ?_)
  refine hinit (ws' := [((h), .inr (5, [.int (nI (0)), .int (nI (0)), .ref (zm1), .int (nI (0)), .ref (zm2), .ref (zm3), .ref (zm4), .int (nI (0)), .ref (zm5), .null, .null, .null, .null, .null, .null])), kI E (zm1) (16) (fun _ => 0), kI E (zm2) (12) (fun _ => 0), kI E (zm3) (16) (fun _ => 0), kI E (zm4) (64) (fun _ => 0), kZ E (zm5) (5) (fun _ => 0)]) _ _ _ _ _ _ _ _ _ _ _ _ 0 _ 8 tyM _ hinM tyokM nmM rfl rfl (by decide) fkM_22 rfl rfl rfl rfl (Nat.le_of_ble_eq_true rfl) dM_init_40 rfl ?_
  refine J_aload_n C 0 dM_init_43 rfl rfl ?_
  refine J_ldc C (v := nI (65812)) kkM_26 dM_init_44 ?_
  refine J_newaI C ar_int (by omega) (by decide) (by decide) dM_init_46 (fun zm6 => ?_)
  refine hinit (ws' := [((h), .inr (5, [.int (nI (0)), .int (nI (0)), .ref (zm1), .int (nI (0)), .ref (zm2), .ref (zm3), .ref (zm4), .int (nI (0)), .ref (zm5), .ref (zm6), .null, .null, .null, .null, .null])), kI E (zm1) (16) (fun _ => 0), kI E (zm2) (12) (fun _ => 0), kI E (zm3) (16) (fun _ => 0), kI E (zm4) (64) (fun _ => 0), kZ E (zm5) (5) (fun _ => 0), kI E (zm6) (65812) (fun _ => 0)]) _ _ _ _ _ _ _ _ _ _ _ _ 0 _ 9 tyM _ hinM tyokM nmM rfl rfl (by decide) fkM_27 rfl rfl rfl rfl (Nat.le_of_ble_eq_true rfl) dM_init_48 rfl ?_
  refine J_aload_n C 0 dM_init_51 rfl rfl ?_
  refine J_bipush C (v := nI (120)) dM_init_52 (by decide) ?_
  refine J_newaI C ar_int (by omega) (by decide) (by decide) dM_init_54 (fun zm7 => ?_)
  refine hinit (ws' := [((h), .inr (5, [.int (nI (0)), .int (nI (0)), .ref (zm1), .int (nI (0)), .ref (zm2), .ref (zm3), .ref (zm4), .int (nI (0)), .ref (zm5), .ref (zm6), .ref (zm7), .null, .null, .null, .null])), kI E (zm1) (16) (fun _ => 0), kI E (zm2) (12) (fun _ => 0), kI E (zm3) (16) (fun _ => 0), kI E (zm4) (64) (fun _ => 0), kZ E (zm5) (5) (fun _ => 0), kI E (zm6) (65812) (fun _ => 0), kI E (zm7) (120) (fun _ => 0)]) _ _ _ _ _ _ _ _ _ _ _ _ 0 _ 10 tyM _ hinM tyokM nmM rfl rfl (by decide) fkM_30 rfl rfl rfl rfl (Nat.le_of_ble_eq_true rfl) dM_init_56 rfl ?_
  refine J_aload_n C 0 dM_init_59 rfl rfl ?_
  refine J_sipush C (v := nI (4096)) dM_init_60 (by decide) ?_
  refine J_newaZ C ar_boolean (by omega) (by decide) (by decide) dM_init_63 (fun zm8 => ?_)
  refine hinit (ws' := [((h), .inr (5, [.int (nI (0)), .int (nI (0)), .ref (zm1), .int (nI (0)), .ref (zm2), .ref (zm3), .ref (zm4), .int (nI (0)), .ref (zm5), .ref (zm6), .ref (zm7), .ref (zm8), .null, .null, .null])), kI E (zm1) (16) (fun _ => 0), kI E (zm2) (12) (fun _ => 0), kI E (zm3) (16) (fun _ => 0), kI E (zm4) (64) (fun _ => 0), kZ E (zm5) (5) (fun _ => 0), kI E (zm6) (65812) (fun _ => 0), kI E (zm7) (120) (fun _ => 0), kZ E (zm8) (4096) (fun _ => 0)]) _ _ _ _ _ _ _ _ _ _ _ _ 0 _ 11 tyM _ hinM tyokM nmM rfl rfl (by decide) fkM_33 rfl rfl rfl rfl (Nat.le_of_ble_eq_true rfl) dM_init_65 rfl ?_
  refine J_aload_n C 0 dM_init_68 rfl rfl ?_
  refine J_sipush C (v := nI (4096)) dM_init_69 (by decide) ?_
  refine J_newaI C ar_int (by omega) (by decide) (by decide) dM_init_72 (fun zm9 => ?_)
  refine hinit (ws' := [((h), .inr (5, [.int (nI (0)), .int (nI (0)), .ref (zm1), .int (nI (0)), .ref (zm2), .ref (zm3), .ref (zm4), .int (nI (0)), .ref (zm5), .ref (zm6), .ref (zm7), .ref (zm8), .ref (zm9), .null, .null])), kI E (zm1) (16) (fun _ => 0), kI E (zm2) (12) (fun _ => 0), kI E (zm3) (16) (fun _ => 0), kI E (zm4) (64) (fun _ => 0), kZ E (zm5) (5) (fun _ => 0), kI E (zm6) (65812) (fun _ => 0), kI E (zm7) (120) (fun _ => 0), kZ E (zm8) (4096) (fun _ => 0), kI E (zm9) (4096) (fun _ => 0)]) _ _ _ _ _ _ _ _ _ _ _ _ 0 _ 12 tyM _ hinM tyokM nmM rfl rfl (by decide) fkM_36 rfl rfl rfl rfl (Nat.le_of_ble_eq_true rfl) dM_init_74 rfl ?_
  refine J_aload_n C 0 dM_init_77 rfl rfl ?_
  refine J_sipush C (v := nI (4096)) dM_init_78 (by decide) ?_
  refine J_newaI C ar_int (by omega) (by decide) (by decide) dM_init_81 (fun zma => ?_)
  refine hinit (ws' := [((h), .inr (5, [.int (nI (0)), .int (nI (0)), .ref (zm1), .int (nI (0)), .ref (zm2), .ref (zm3), .ref (zm4), .int (nI (0)), .ref (zm5), .ref (zm6), .ref (zm7), .ref (zm8), .ref (zm9), .ref (zma), .null])), kI E (zm1) (16) (fun _ => 0), kI E (zm2) (12) (fun _ => 0), kI E (zm3) (16) (fun _ => 0), kI E (zm4) (64) (fun _ => 0), kZ E (zm5) (5) (fun _ => 0), kI E (zm6) (65812) (fun _ => 0), kI E (zm7) (120) (fun _ => 0), kZ E (zm8) (4096) (fun _ => 0), kI E (zm9) (4096) (fun _ => 0), kI E (zma) (4096) (fun _ => 0)]) _ _ _ _ _ _ _ _ _ _ _ _ 0 _ 13 tyM _ hinM tyokM nmM rfl rfl (by decide) fkM_39 rfl rfl rfl rfl (Nat.le_of_ble_eq_true rfl) dM_init_83 rfl ?_
  refine J_aload_n C 0 dM_init_86 rfl rfl ?_
  refine J_sipush C (v := nI (4096)) dM_init_87 (by decide) ?_
  refine J_newaI C ar_int (by omega) (by decide) (by decide) dM_init_90 (fun zmb => ?_)
  refine hinit (ws' := [((h), .inr (5, [.int (nI (0)), .int (nI (0)), .ref (zm1), .int (nI (0)), .ref (zm2), .ref (zm3), .ref (zm4), .int (nI (0)), .ref (zm5), .ref (zm6), .ref (zm7), .ref (zm8), .ref (zm9), .ref (zma), .ref (zmb)])), kI E (zm1) (16) (fun _ => 0), kI E (zm2) (12) (fun _ => 0), kI E (zm3) (16) (fun _ => 0), kI E (zm4) (64) (fun _ => 0), kZ E (zm5) (5) (fun _ => 0), kI E (zm6) (65812) (fun _ => 0), kI E (zm7) (120) (fun _ => 0), kZ E (zm8) (4096) (fun _ => 0), kI E (zm9) (4096) (fun _ => 0), kI E (zma) (4096) (fun _ => 0), kI E (zmb) (4096) (fun _ => 0)]) _ _ _ _ _ _ _ _ _ _ _ _ 0 _ 14 tyM _ hinM tyokM nmM rfl rfl (by decide) fkM_42 rfl rfl rfl rfl (Nat.le_of_ble_eq_true rfl) dM_init_92 rfl ?_
  refine J_aload_n C 0 dM_init_95 rfl rfl ?_
  refine J_iconst C (v := nI (1)) dM_init_96 (by decide) ?_
  refine J_callV C (rest := []) [] [((h), .inr (5, [.int (nI (0)), .int (nI (0)), .ref (zm1), .int (nI (0)), .ref (zm2), .ref (zm3), .ref (zm4), .int (nI (0)), .ref (zm5), .ref (zm6), .ref (zm7), .ref (zm8), .ref (zm9), .ref (zma), .ref (zmb)])), kI E (zm1) (16) (fun _ => 0)] [kI E (zm2) (12) (fun _ => 0), kI E (zm3) (16) (fun _ => 0), kI E (zm4) (64) (fun _ => 0), kZ E (zm5) (5) (fun _ => 0), kI E (zm6) (65812) (fun _ => 0), kI E (zm7) (120) (fun _ => 0), kZ E (zm8) (4096) (fun _ => 0), kI E (zm9) (4096) (fun _ => 0), kI E (zma) (4096) (fun _ => 0), kI E (zmb) (4096) (fun _ => 0)] 0 (c_M_start E l h 0 0 0 zm1 zm2 zm3 zm4 zm5 zm6 zm7 zm8 zm9 zma zmb (fun _ => 0) 1) mmM_start msM_start lkM_45 rfl rfl (rfl) rfl rfl ⟨by decide, by decide⟩ ⟨by decide, by decide⟩ (Nat.le_of_ble_eq_true rfl) dM_init_97 (fun r_c w_c hp => ?_)
  obtain ⟨rfl, rfl⟩ := hp
  refine J_norm C (st' := []) (ws' := [((h), .inr (5, [.int (nI (0)), .int (nI (1)), .ref (zm1), .int (nI (0)), .ref (zm2), .ref (zm3), .ref (zm4), .int (nI (0)), .ref (zm5), .ref (zm6), .ref (zm7), .ref (zm8), .ref (zm9), .ref (zma), .ref (zmb)])), kI E (zm1) (16) (fun j => j), kI E (zm2) (12) (fun _ => 0), kI E (zm3) (16) (fun _ => 0), kI E (zm4) (64) (fun _ => 0), kZ E (zm5) (5) (fun _ => 0), kI E (zm6) (65812) (fun _ => 0), kI E (zm7) (120) (fun _ => 0), kZ E (zm8) (4096) (fun _ => 0), kI E (zm9) (4096) (fun _ => 0), kI E (zma) (4096) (fun _ => 0), kI E (zmb) (4096) (fun _ => 0)]) (cs' := 11) (ss' := 82429) rfl (rfl) rfl rfl ?_
  refine J_aload_n C 0 dM_init_100 rfl rfl ?_
  refine J_iconst C (v := nI (1)) dM_init_101 (by decide) ?_
  refine J_put C (ws' := [((h), .inr (5, [.int (nI (0)), .int (nI (1)), .ref (zm1), .int (nI (1)), .ref (zm2), .ref (zm3), .ref (zm4), .int (nI (0)), .ref (zm5), .ref (zm6), .ref (zm7), .ref (zm8), .ref (zm9), .ref (zma), .ref (zmb)])), kI E (zm1) (16) (fun j => j), kI E (zm2) (12) (fun _ => 0), kI E (zm3) (16) (fun _ => 0), kI E (zm4) (64) (fun _ => 0), kZ E (zm5) (5) (fun _ => 0), kI E (zm6) (65812) (fun _ => 0), kI E (zm7) (120) (fun _ => 0), kZ E (zm8) (4096) (fun _ => 0), kI E (zm9) (4096) (fun _ => 0), kI E (zma) (4096) (fun _ => 0), kI E (zmb) (4096) (fun _ => 0)]) 0 3 tyM hinM tyokM nmM rfl rfl (by decide) fkM_49 rfl rfl rfl (Nat.le_of_ble_eq_true rfl) dM_init_102 rfl ?_
  refine J_cell C (ws' := [((h), .inr (5, [.int (nI (0)), .int (nI (1)), .ref (zm1), .int (nI (1)), .ref (zm2), .ref (zm3), .ref (zm4), .int (nI (0)), .ref (zm5), .ref (zm6), .ref (zm7), .ref (zm8), .ref (zm9), .ref (zma), .ref (zmb)])), kI E (zm1) (16) (fun j => j), kI E (zm2) (12) (fun _ => 0), kI E (zm3) (16) (fun _ => 0), kI E (zm4) (64) (fun _ => 0), kB E (zm5) (5) (fun _ => 0), kI E (zm6) (65812) (fun _ => 0), kI E (zm7) (120) (fun _ => 0), kZ E (zm8) (4096) (fun _ => 0), kI E (zm9) (4096) (fun _ => 0), kI E (zma) (4096) (fun _ => 0), kI E (zmb) (4096) (fun _ => 0)]) 5 rfl (fun H q => q) rfl ?_
  refine J_cell C (ws' := [((h), .inr (5, [.int (nI (0)), .int (nI (1)), .ref (zm1), .int (nI (1)), .ref (zm2), .ref (zm3), .ref (zm4), .int (nI (0)), .ref (zm5), .ref (zm6), .ref (zm7), .ref (zm8), .ref (zm9), .ref (zma), .ref (zmb)])), kI E (zm1) (16) (fun j => j), kI E (zm2) (12) (fun _ => 0), kI E (zm3) (16) (fun _ => 0), kI E (zm4) (64) (fun _ => 0), kB E (zm5) (5) (fun _ => 0), kM E (zm6) (65812) (fun _ => 1), kI E (zm7) (120) (fun _ => 0), kZ E (zm8) (4096) (fun _ => 0), kI E (zm9) (4096) (fun _ => 0), kI E (zma) (4096) (fun _ => 0), kI E (zmb) (4096) (fun _ => 0)]) 6 rfl (fun H => kR_congr (E := E) (f := fun _ => nI 0) (g := fun _ => mI 1) (fun _ _ => (mI_s 0).symm)) rfl ?_
  refine J_cell C (ws' := [((h), .inr (5, [.int (nI (0)), .int (nI (1)), .ref (zm1), .int (nI (1)), .ref (zm2), .ref (zm3), .ref (zm4), .int (nI (0)), .ref (zm5), .ref (zm6), .ref (zm7), .ref (zm8), .ref (zm9), .ref (zma), .ref (zmb)])), kI E (zm1) (16) (fun j => j), kI E (zm2) (12) (fun _ => 0), kI E (zm3) (16) (fun _ => 0), kI E (zm4) (64) (fun _ => 0), kB E (zm5) (5) (fun _ => 0), kM E (zm6) (65812) (fun _ => 1), kI E (zm7) (120) (fun _ => 0), kB E (zm8) (4096) (fun _ => 0), kI E (zm9) (4096) (fun _ => 0), kI E (zma) (4096) (fun _ => 0), kI E (zmb) (4096) (fun _ => 0)]) 8 rfl (fun H q => q) rfl ?_
  refine J_cell C (ws' := [((h), .inr (5, [.int (nI (0)), .int (nI (1)), .ref (zm1), .int (nI (1)), .ref (zm2), .ref (zm3), .ref (zm4), .int (nI (0)), .ref (zm5), .ref (zm6), .ref (zm7), .ref (zm8), .ref (zm9), .ref (zma), .ref (zmb)])), kI E (zm1) (16) (fun j => j), kI E (zm2) (12) (fun _ => 0), kI E (zm3) (16) (fun _ => 0), kI E (zm4) (64) (fun _ => 0), kB E (zm5) (5) (fun _ => 0), kM E (zm6) (65812) (fun _ => 1), kI E (zm7) (120) (fun _ => 0), kB E (zm8) (4096) (fun _ => 0), kI E (zm9) (4096) (fun _ => 0), kM E (zma) (4096) (fun _ => 1), kI E (zmb) (4096) (fun _ => 0)]) 10 rfl (fun H => kR_congr (E := E) (f := fun _ => nI 0) (g := fun _ => mI 1) (fun _ _ => (mI_s 0).symm)) rfl ?_
  exact hret _ _ _ _ _ dM_init_105 (by decide) (by decide) (⟨zm1, zm2, zm3, zm4, zm5, zm6, zm7, zm8, zm9, zma, zmb, rfl, rfl⟩)
