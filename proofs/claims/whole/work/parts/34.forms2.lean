set_option maxHeartbeats 4000000 in
set_option maxRecDepth 100000 in
theorem c_F_fillLevel (E : jE) (l : Launch) (h : Nat) (b : Nat) (rw : Nat → Int64) (n : Nat) (hn2 : n ≤ 2) (hr : fRow (n + 1) rw) : Con E l yF_fillLevel bF_fillLevel 4 none { frames := 3, cells := 0, slots := 0, locals := 90 } [.ref (h), .int (nI (n + 1))] [((h), .inr (0, [.ref (b), .int (nI (n + 1))])), kL E (b) (278) (rw)] (fun r w => ∃ rw' : Nat → Int64, r = none ∧ fRow (n + 2) rw' ∧ w = [((h), .inr (0, [.ref (b), .int (nI (n + 2))])), kL E (b) (278) (rw')]) := by
  refine Con.ofV (by decide) (Nat.le_of_ble_eq_true rfl) ?_
  intro J C hret
  show J 0 [(0, .ref (h)), (1, .int (nI (n + 1)))] [] [((h), .inr (0, [.ref (b), .int (nI (n + 1))])), kL E (b) (278) (rw)] 0 0
  have hp8 : 2 ^ (n + 1) ≤ 8 := Nat.pow_le_pow_right (n := 2) (by omega) (show n + 1 ≤ 3 by omega)
  have hF : 2 ^ 2 ^ (n + 1) ≤ 256 := Nat.pow_le_pow_right (n := 2) (by omega) hp8
  have hF0 := p1 (2 ^ (n + 1))
  have hs := jsT_fit (show n + 1 ≤ 3 by omega)
  refine J_iconst C (v := nI (1)) dF_fillLevel_0 (by decide) ?_
  refine J_iconst C (v := nI (1)) dF_fillLevel_1 (by decide) ?_
  refine J_iload_n C 1 dF_fillLevel_2 rfl rfl ?_
  refine J_ishl1 C dF_fillLevel_3 (by omega) ?_
  refine J_ishl1 C dF_fillLevel_4 (by omega) ?_
  refine J_istore_n C (lv' := [(0, .ref (h)), (1, .int (nI (n + 1))), (2, .int (nI (2 ^ (2 ^ (n + 1)))))]) [1, 2, 0] dF_fillLevel_5 rfl (by decide) rfl ?_
  refine J_iconst C (v := nI (0)) dF_fillLevel_6 (by decide) ?_
  refine J_istore_n C (lv' := [(0, .ref (h)), (1, .int (nI (n + 1))), (2, .int (nI (2 ^ (2 ^ (n + 1))))), (3, .int (nI (0)))]) [1, 2, 3, 0] dF_fillLevel_7 rfl (by decide) rfl ?_
  have lp_8 : ∀ (k_8 : Nat) (f : Nat) (r2 : Nat → Int64), (f ≤ 2 ^ 2 ^ (n + 1)) → (fRow (n + 1) r2) → (∀ f', f' < f → r2 (jsT (n + 1) + f') = lN (fcode (pF (n + 1) f'))) → (2 ^ 2 ^ (n + 1) - f) < k_8 → J 8 [(0, .ref (h)), (1, .int (nI (n + 1))), (2, .int (nI (2 ^ (2 ^ (n + 1))))), (3, .int (nI (f)))] [] [((h), .inr (0, [.ref (b), .int (nI (n + 1))])), kL E (b) (278) (r2)] (0) (0) := by
    intro k_8
    induction k_8 with
    | zero => intro f r2 hf h1 h2 hk_8; exact absurd hk_8 (Nat.not_lt_zero _)
    | succ k_8 ih_8 =>
      intro f r2 hf h1 h2 hk_8
      refine J_iload_n C 3 dF_fillLevel_8 rfl rfl ?_
      refine J_iload_n C 2 dF_fillLevel_9 rfl rfl ?_
      refine J_icmp_ge C 37 (nI_toInt (n := f) (by omega)) (nI_toInt (n := 2 ^ (2 ^ (n + 1))) (by omega)) dF_fillLevel_10 (by decide) (fun h10 => ?_) (fun h10 => ?_)
      · obtain rfl : 2 ^ 2 ^ (n + 1) = f := by omega
        refine J_aload_n C 0 dF_fillLevel_37 rfl rfl ?_
        refine J_iload_n C 1 dF_fillLevel_38 rfl rfl ?_
        refine J_iconst C (v := nI (1)) dF_fillLevel_39 (by decide) ?_
        refine J_iaddN C dF_fillLevel_40 ?_
        refine J_put C (ws' := [((h), .inr (0, [.ref (b), .int (nI ((n + 1) + 1))])), kL E (b) (278) (r2)]) 0 1 tyF hinF tyokF nmF rfl rfl (by decide) fkF_17 rfl rfl rfl (Nat.le_of_ble_eq_true rfl) dF_fillLevel_41 rfl ?_
        exact hret _ _ _ _ _ dF_fillLevel_44 (by decide) (by decide) (⟨r2, rfl, fr_done h1 h2, rfl⟩)
      · refine J_aload_n C 0 dF_fillLevel_13 rfl rfl ?_
        refine J_get C 0 0 hinF rfl rfl (by decide) fkF_11 rfl dF_fillLevel_14 ?_
        refine J_gets C fkF_33 dF_fillLevel_17 ?_
        refine J_iload_n C 1 dF_fillLevel_20 rfl rfl ?_
        refine J_tald C (by omega) dF_fillLevel_21 ?_
        refine J_iload_n C 3 dF_fillLevel_22 rfl rfl ?_
        refine J_iaddN C dF_fillLevel_23 ?_
        refine J_aload_n C 0 dF_fillLevel_24 rfl rfl ?_
        refine J_iload_n C 1 dF_fillLevel_25 rfl rfl ?_
        refine J_iload_n C 3 dF_fillLevel_26 rfl rfl ?_
        refine J_callV C (rest := [.int (nI ((jsT (n + 1)) + f)), .ref (b)]) [] [((h), .inr (0, [.ref (b), .int (nI (n + 1))])), kL E (b) (278) (r2)] [] 0 (c_F_leastFrom E l h b (n + 1) r2 n f (by omega) (by omega) (by omega) (h1)) mmF_leastFrom msF_leastFrom lkF_29 rfl rfl (rfl) rfl rfl ⟨by decide, by decide⟩ ⟨by decide, by decide⟩ (Nat.le_of_ble_eq_true rfl) dF_fillLevel_27 (fun r_c w_c hp => ?_)
        obtain ⟨rfl, rfl⟩ := hp
        refine J_norm C (st' := [.long (lN (fcode (pF (n + 1) f))), .int (nI ((jsT (n + 1)) + f)), .ref (b)]) (ws' := [((h), .inr (0, [.ref (b), .int (nI ((n + 1)))])), kL E (b) (278) (r2)]) (cs' := 0) (ss' := 0) rfl (rfl) rfl rfl ?_
        refine J_last C (ws' := [((h), .inr (0, [.ref (b), .int (nI ((n + 1)))])), kL E (b) (278) (vp_updL r2 ((jsT (n + 1)) + f) (lN (fcode (pF (n + 1) f))))]) 1 rfl (by omega) (by omega) dF_fillLevel_30 rfl ?_
        refine J_iinc C (lv' := [(0, .ref (h)), (1, .int (nI (n + 1))), (2, .int (nI (2 ^ (2 ^ (n + 1))))), (3, .int (nI (f + 1)))]) 3 [1, 2, 3, 0] dF_fillLevel_31 rfl (jn_inc _) (by decide) rfl ?_
        refine J_goto C 8 dF_fillLevel_34 (by decide) ?_
        exact ih_8 (f + 1) (vp_updL r2 ((jsT (n + 1)) + f) (lN (fcode (pF (n + 1) f)))) (by omega) (fr_keep (by omega) h1) (fr_add h2) (by omega)
  exact lp_8 (2 ^ 2 ^ (n + 1) + 1) 0 rw (by omega) (hr) (fun f' q => by omega) (by omega)
set_option maxHeartbeats 4000000 in
set_option maxRecDepth 100000 in
theorem c_F_least (E : jE) (l : Launch) (h : Nat) (b : Nat) (rw : Nat → Int64) (u0 : Nat) (k : Nat) (f : Nat) (hk3 : k ≤ 3) (hu3 : u0 ≤ 3) (hf : f < 2 ^ 2 ^ (k + 1)) (hr : fRow (u0 + 1) rw) : Con E l yF_least bF_least 4 (some .long) { frames := 4, cells := 0, slots := 0, locals := 113 } [.ref (h), .int (nI (k + 1)), .int (nI (f))] [((h), .inr (0, [.ref (b), .int (nI (u0 + 1))])), kL E (b) (278) (rw)] (fun r w => ∃ (u1 : Nat) (rw' : Nat → Int64), r = some (.long (lN (fcode (pF (k + 1) f)))) ∧ u1 ≤ 3 ∧ fRow (u1 + 1) rw' ∧ w = [((h), .inr (0, [.ref (b), .int (nI (u1 + 1))])), kL E (b) (278) (rw')]) := by
  refine Con.ofL (by decide) (Nat.le_of_ble_eq_true rfl) ?_
  intro J C hret
  show J 0 [(0, .ref (h)), (1, .int (nI (k + 1))), (2, .int (nI (f)))] [] [((h), .inr (0, [.ref (b), .int (nI (u0 + 1))])), kL E (b) (278) (rw)] 0 0
  refine J_aload_n C 0 dF_least_0 rfl rfl ?_
  refine J_get C 0 1 hinF rfl rfl (by decide) fkF_17 rfl dF_least_1 ?_
  refine J_istore_n C (lv' := [(0, .ref (h)), (1, .int (nI (k + 1))), (2, .int (nI (f))), (3, .int (nI (u0 + 1)))]) [1, 2, 3, 0] dF_least_4 rfl (by decide) rfl ?_
  have lp_5 : ∀ (k_5 : Nat) (u : Nat) (r2 : Nat → Int64), (u ≤ 3) → (fRow (u + 1) r2) → (4 - u) < k_5 → J 5 [(0, .ref (h)), (1, .int (nI (k + 1))), (2, .int (nI (f))), (3, .int (nI (u + 1)))] [] [((h), .inr (0, [.ref (b), .int (nI (u + 1))])), kL E (b) (278) (r2)] (0) (0) := by
    intro k_5
    induction k_5 with
    | zero => intro u r2 hu h1 hk_5; exact absurd hk_5 (Nat.not_lt_zero _)
    | succ k_5 ih_5 =>
      intro u r2 hu h1 hk_5
      refine J_iload_n C 3 dF_least_5 rfl rfl ?_
      refine J_iload_n C 1 dF_least_6 rfl rfl ?_
      refine J_icmp_ge C 21 (nI_toInt (n := u + 1) (by omega)) (nI_toInt (n := k + 1) (by omega)) dF_least_7 (by decide) (fun h7 => ?_) (fun h7 => ?_)
      · refine J_aload_n C 0 dF_least_21 rfl rfl ?_
        refine J_iload_n C 1 dF_least_22 rfl rfl ?_
        refine J_iload_n C 2 dF_least_23 rfl rfl ?_
        refine J_callV C (rest := []) [] [((h), .inr (0, [.ref (b), .int (nI (u + 1))])), kL E (b) (278) (r2)] [] 0 (c_F_leastFrom E l h b (u + 1) r2 k f (by omega) (hf) (by omega) (h1)) mmF_leastFrom msF_leastFrom lkF_29 rfl rfl (rfl) rfl rfl ⟨by decide, by decide⟩ ⟨by decide, by decide⟩ (Nat.le_of_ble_eq_true rfl) dF_least_24 (fun r_c w_c hp => ?_)
        obtain ⟨rfl, rfl⟩ := hp
        refine J_norm C (st' := [.long (lN (fcode (pF (k + 1) f)))]) (ws' := [((h), .inr (0, [.ref (b), .int (nI ((u + 1)))])), kL E (b) (278) (r2)]) (cs' := 0) (ss' := 0) rfl (rfl) rfl rfl ?_
        exact hret _ _ _ _ _ _ dF_least_27 (by decide) (by decide) (⟨u, r2, rfl, hu, h1, rfl⟩)
      · refine J_aload_n C 0 dF_least_10 rfl rfl ?_
        refine J_iload_n C 3 dF_least_11 rfl rfl ?_
        refine J_callV C (rest := []) [] [((h), .inr (0, [.ref (b), .int (nI (u + 1))])), kL E (b) (278) (r2)] [] 0 (c_F_fillLevel E l h b r2 u (by omega) (h1)) mmF_fillLevel msF_fillLevel lkF_25 rfl rfl (rfl) rfl rfl ⟨by decide, by decide⟩ ⟨by decide, by decide⟩ (Nat.le_of_ble_eq_true rfl) dF_least_12 (fun r_c w_c hp => ?_)
        obtain ⟨rw1_1, rfl, hrw1, rfl⟩ := hp
        refine J_norm C (st' := []) (ws' := [((h), .inr (0, [.ref (b), .int (nI (u + 2))])), kL E (b) (278) (rw1_1)]) (cs' := 0) (ss' := 0) rfl (rfl) rfl rfl ?_
        refine J_iinc C (lv' := [(0, .ref (h)), (1, .int (nI (k + 1))), (2, .int (nI (f))), (3, .int (nI (u + 1 + 1)))]) 3 [1, 2, 3, 0] dF_least_15 rfl (jn_inc _) (by decide) rfl ?_
        refine J_goto C 5 dF_least_18 (by decide) ?_
        exact ih_5 (u + 1) rw1_1 (by omega) (hrw1) (by omega)
  exact lp_5 (5) u0 rw (hu3) (hr) (by omega)
set_option maxHeartbeats 4000000 in
set_option maxRecDepth 100000 in
theorem c_F_init (E : jE) (l : Launch) (h : Nat) : Con E l yF_init bF_init 1 none { frames := 1, cells := 1, slots := 278, locals := 12 } [.ref (h)] [((h), .inr (0, [.null, .int (nI (0))]))] (fun r w => ∃ (b : Nat) (rw : Nat → Int64), r = none ∧ fRow (0 + 1) rw ∧ w = [((h), .inr (0, [.ref (b), .int (nI (0 + 1))])), kL E (b) (278) (rw)]) := by
  refine Con.ofN rfl (by decide) (Nat.le_of_ble_eq_true rfl) ?_
  intro J C hinit hret
  show J 0 [(0, .ref (h))] [] [((h), .inr (0, [.null, .int (nI (0))]))] 0 0
  refine J_aload_n C 0 dF_init_0 rfl rfl ?_
  refine J_objInit C lkF_5 k_objI k_objC dF_init_1 (by decide) (Nat.le_of_ble_eq_true rfl) ?_
  refine J_aload_n C 0 dF_init_4 rfl rfl ?_
  refine J_sipush C (v := nI (278)) dF_init_5 (by decide) ?_
  refine J_newaL C ar_long (by omega) (by decide) (by decide) dF_init_8 (fun b1 => ?_)
  refine hinit (ws' := [((h), .inr (0, [.ref (b1), .int (nI (0))])), kL E (b1) (278) (fun _ => 0)]) _ _ _ _ _ _ _ _ _ _ _ _ 0 _ 0 tyF _ hinF tyokF nmF rfl rfl (by decide) fkF_11 rfl rfl rfl rfl (Nat.le_of_ble_eq_true rfl) dF_init_10 rfl ?_
  refine J_aload_n C 0 dF_init_13 rfl rfl ?_
  refine J_get C 0 0 hinF rfl rfl (by decide) fkF_11 rfl dF_init_14 ?_
  refine J_iconst C (v := nI (1)) dF_init_17 (by decide) ?_
  refine J_ldc2 C (v := lN (281474976710656)) kkF_15 dF_init_18 ?_
  refine J_last C (ws' := [((h), .inr (0, [.ref (b1), .int (nI (0))])), kL E (b1) (278) (vp_updL (fun _ => 0) 1 (lN (281474976710656)))]) 1 rfl (by omega) (by omega) dF_init_21 rfl ?_
  refine J_aload_n C 0 dF_init_22 rfl rfl ?_
  refine J_iconst C (v := nI (1)) dF_init_23 (by decide) ?_
  refine J_put C (ws' := [((h), .inr (0, [.ref (b1), .int (nI (1))])), kL E (b1) (278) (vp_updL (fun _ => 0) 1 (lN (281474976710656)))]) 0 1 tyF hinF tyokF nmF rfl rfl (by decide) fkF_17 rfl rfl rfl (Nat.le_of_ble_eq_true rfl) dF_init_24 rfl ?_
  exact hret _ _ _ _ _ dF_init_27 (by decide) (by decide) (⟨b1, _, rfl, fr_init, rfl⟩)
