set_option maxHeartbeats 4000000 in
set_option maxRecDepth 100000 in
theorem c_S_goal (E : jE) (l : Launch) (h : Nat) (m : Nat) (e1 : Nat) (e2 : Nat) (e3 : Nat) (e4 : Nat) (e5 : Nat) (qd : Nat) (nd : Nat → Nat) (ln : Nat) (lf : Nat → Nat) (qu : Nat → Nat) (b : Nat) (hg : mG m nd) (hln : ln ≤ 4096) (hml : 2 ^ m ≤ ln) (hb1 : 1 ≤ b) (hb : b ≤ 12) : Con E l yS_spreadFromGoal bS_spreadFromGoal 4 none { frames := 2, cells := 0, slots := 0, locals := 50 } [.ref (h), .int (nI (mW m nd)), .int (nI (b))] [((h), .inr (2, [.int (nI (m)), .ref (e1), .ref (e2), .ref (e3), .ref (e4), .ref (e5), .int (nI (qd))])), kI E (e1) (12) (nd), kI E (e4) (ln) (lf), kI E (e5) (ln) (qu)] (fun r w => ∃ (n1 : Nat) (f1 u1 : Nat → Nat), r = none ∧ bX m nd b f1 ∧ w = [((h), .inr (2, [.int (nI (m)), .ref (e1), .ref (e2), .ref (e3), .ref (e4), .ref (e5), .int (nI (n1))])), kI E (e1) (12) (nd), kI E (e4) (ln) (f1), kI E (e5) (ln) (u1)]) := by
  refine Con.ofV (by decide) (Nat.le_of_ble_eq_true rfl) ?_
  intro J C hret
  show J 0 [(0, .ref (h)), (1, .int (nI (mW m nd))), (2, .int (nI (b)))] [] [((h), .inr (2, [.int (nI (m)), .ref (e1), .ref (e2), .ref (e3), .ref (e4), .ref (e5), .int (nI (qd))])), kI E (e1) (12) (nd), kI E (e4) (ln) (lf), kI E (e5) (ln) (qu)] 0 0
  have hm1 := hg.1
  have hm12 := hg.2.1
  have hp12 := p4096 hm12
  have hpm := Nat.two_pow_pos m
  have hpg : 2 ^ (m - 1) < 2 ^ m := Nat.pow_lt_pow_right (by omega) (by omega)
  refine J_iconst C (v := nI (0)) dS_spreadFromGoal_0 (by decide) ?_
  refine J_istore_n C (lv' := [(0, .ref (h)), (1, .int (nI (mW m nd))), (2, .int (nI (b))), (3, .int (nI (0)))]) [1, 2, 3, 0] dS_spreadFromGoal_1 rfl (by decide) rfl ?_
  have lp_2 : ∀ (k_2 : Nat) (i : Nat) (f : Nat → Nat), (i ≤ 2 ^ m) → (∀ j, f j = if j < i then 0 else lf j) → (2 ^ m - i) < k_2 → J 2 [(0, .ref (h)), (1, .int (nI (mW m nd))), (2, .int (nI (b))), (3, .int (nI (i)))] [] [((h), .inr (2, [.int (nI (m)), .ref (e1), .ref (e2), .ref (e3), .ref (e4), .ref (e5), .int (nI (qd))])), kI E (e1) (12) (nd), kI E (e4) (ln) (f), kI E (e5) (ln) (qu)] (0) (0) := by
    intro k_2
    induction k_2 with
    | zero => intro i f hi hf hk_2; exact absurd hk_2 (Nat.not_lt_zero _)
    | succ k_2 ih_2 =>
      intro i f hi hf hk_2
      refine J_iload_n C 3 dS_spreadFromGoal_2 rfl rfl ?_
      refine J_iconst C (v := nI (1)) dS_spreadFromGoal_3 (by decide) ?_
      refine J_aload_n C 0 dS_spreadFromGoal_4 rfl rfl ?_
      refine J_get C 0 0 hinS rfl rfl (by decide) fkS_9 rfl dS_spreadFromGoal_5 ?_
      refine J_ishl1 C dS_spreadFromGoal_8 (by omega) ?_
      refine J_icmp_ge C 25 (nI_toInt (n := i) (by omega)) (nI_toInt (n := 2 ^ m) (by omega)) dS_spreadFromGoal_9 (by decide) (fun h9 => ?_) (fun h9 => ?_)
      · obtain rfl : 2 ^ m = i := by omega
        refine J_aload_n C 0 dS_spreadFromGoal_25 rfl rfl ?_
        refine J_iconst C (v := nI (0)) dS_spreadFromGoal_26 (by decide) ?_
        refine J_put C (ws' := [((h), .inr (2, [.int (nI (m)), .ref (e1), .ref (e2), .ref (e3), .ref (e4), .ref (e5), .int (nI (0))])), kI E (e1) (12) (nd), kI E (e4) (ln) (f), kI E (e5) (ln) (qu)]) 0 6 tyS hinS tyokS nmS rfl rfl (by decide) fkS_86 rfl rfl rfl (Nat.le_of_ble_eq_true rfl) dS_spreadFromGoal_27 rfl ?_
        refine J_aload_n C 0 dS_spreadFromGoal_30 rfl rfl ?_
        refine J_iconst C (v := nI (1)) dS_spreadFromGoal_31 (by decide) ?_
        refine J_aload_n C 0 dS_spreadFromGoal_32 rfl rfl ?_
        refine J_get C 0 0 hinS rfl rfl (by decide) fkS_9 rfl dS_spreadFromGoal_33 ?_
        refine J_iconst C (v := nI (1)) dS_spreadFromGoal_36 (by decide) ?_
        refine J_isubN C dS_spreadFromGoal_37 (by omega) ?_
        refine J_ishl1 C dS_spreadFromGoal_38 (by omega) ?_
        refine J_iconst C (v := nI (1)) dS_spreadFromGoal_39 (by decide) ?_
        refine J_pick C (ws' := [((h), .inr (2, [.int (nI (m)), .ref (e1), .ref (e2), .ref (e3), .ref (e4), .ref (e5), .int (nI (0))])), kI E (e4) (ln) (f), kI E (e5) (ln) (qu), kI E (e1) (12) (nd)]) [0, 2, 3, 1] (by decide) rfl ?_
        refine J_callV C (rest := []) [] [((h), .inr (2, [.int (nI (m)), .ref (e1), .ref (e2), .ref (e3), .ref (e4), .ref (e5), .int (nI (0))])), kI E (e4) (ln) (f), kI E (e5) (ln) (qu)] [kI E (e1) (12) (nd)] 0 (c_S_enter E l h m e1 e2 e3 e4 e5 0 ln f qu (2 ^ (m - 1)) 1 (by omega) (by omega) (by omega)) mmS_enter msS_enter lkS_89 rfl rfl (rfl) rfl rfl ⟨by decide, by decide⟩ ⟨by decide, by decide⟩ (Nat.le_of_ble_eq_true rfl) dS_spreadFromGoal_40 (fun r_c w_c hp => ?_)
        obtain ⟨rfl, rfl⟩ := hp
        refine J_norm C (st' := []) (ws' := [((h), .inr (2, [.int (nI (m)), .ref (e1), .ref (e2), .ref (e3), .ref (e4), .ref (e5), .int (nI (0 + 1))])), kI E (e4) (ln) (upN f (2 ^ (m - 1)) 1), kI E (e5) (ln) (upN qu 0 (2 ^ (m - 1))), kI E (e1) (12) (nd)]) (cs' := 0) (ss' := 0) rfl (rfl) rfl rfl ?_
        refine J_pick C (ws' := [((h), .inr (2, [.int (nI (m)), .ref (e1), .ref (e2), .ref (e3), .ref (e4), .ref (e5), .int (nI (0 + 1))])), kI E (e1) (12) (nd), kI E (e4) (ln) (upN f (2 ^ (m - 1)) 1), kI E (e5) (ln) (upN qu 0 (2 ^ (m - 1)))]) [0, 3, 1, 2] (by decide) rfl ?_
        refine J_iconst C (v := nI (0)) dS_spreadFromGoal_43 (by decide) ?_
        refine J_istore_n C (lv' := [(0, .ref (h)), (1, .int (nI (mW m nd))), (2, .int (nI (b))), (3, .int (nI (0)))]) [1, 2, 3, 0] dS_spreadFromGoal_44 rfl (by decide) rfl ?_
        have lp_45 : ∀ (k_45 : Nat) (k n2 : Nat) (f2 q2 : Nat → Nat), (k ≤ n2) → (bF m nd b (mW m nd) k 0 n2 q2 f2) → (4097 - k) < k_45 → J 45 [(0, .ref (h)), (1, .int (nI (mW m nd))), (2, .int (nI (b))), (3, .int (nI (k)))] [] [((h), .inr (2, [.int (nI (m)), .ref (e1), .ref (e2), .ref (e3), .ref (e4), .ref (e5), .int (nI (n2))])), kI E (e1) (12) (nd), kI E (e4) (ln) (f2), kI E (e5) (ln) (q2)] (0) (0) := by
          intro k_45
          induction k_45 with
          | zero => intro k n2 f2 q2 hkn h2 hk_45; exact absurd hk_45 (Nat.not_lt_zero _)
          | succ k_45 ih_45 =>
            intro k n2 f2 q2 hkn h2 hk_45
            have hn2 := bI_le h2.1
            refine J_iload_n C 3 dS_spreadFromGoal_45 rfl rfl ?_
            refine J_sipush C (v := nI (4096)) dS_spreadFromGoal_46 (by decide) ?_
            refine J_icmp_ge C 87 (nI_toInt (n := k) (by omega)) (nI_toInt (n := 4096) (by decide)) dS_spreadFromGoal_49 (by decide) (fun h49 => ?_) (fun h49 => ?_)
            · have hx : n2 ≤ k ∨ f2 0 ≠ 0 := Or.inl (by omega)
              exact hret _ _ _ _ _ dS_spreadFromGoal_87 (by decide) (by decide) (⟨n2, f2, q2, rfl, bX_of hg h2 hx, rfl⟩)
            · refine J_iload_n C 3 dS_spreadFromGoal_52 rfl rfl ?_
              refine J_aload_n C 0 dS_spreadFromGoal_53 rfl rfl ?_
              refine J_get C 0 6 hinS rfl rfl (by decide) fkS_86 rfl dS_spreadFromGoal_54 ?_
              refine J_icmp_ge C 87 (nI_toInt (n := k) (by omega)) (nI_toInt (n := n2) (by omega)) dS_spreadFromGoal_57 (by decide) (fun h57 => ?_) (fun h57 => ?_)
              · have hx : n2 ≤ k ∨ f2 0 ≠ 0 := Or.inl (by omega)
                exact hret _ _ _ _ _ dS_spreadFromGoal_87 (by decide) (by decide) (⟨n2, f2, q2, rfl, bX_of hg h2 hx, rfl⟩)
              · refine J_aload_n C 0 dS_spreadFromGoal_60 rfl rfl ?_
                refine J_get C 0 4 hinS rfl rfl (by decide) fkS_32 rfl dS_spreadFromGoal_61 ?_
                refine J_iconst C (v := nI (0)) dS_spreadFromGoal_64 (by decide) ?_
                refine J_iald C 2 rfl (by omega) (by omega) dS_spreadFromGoal_65 ?_
                refine J_if_ne C 87 (nI_toInt (n := f2 0) (by have := h2.2.2 0 hpm; omega)) dS_spreadFromGoal_66 (by decide) (fun h66 => ?_) (fun h66 => ?_)
                · have hx : n2 ≤ k ∨ f2 0 ≠ 0 := Or.inr (by omega)
                  exact hret _ _ _ _ _ dS_spreadFromGoal_87 (by decide) (by decide) (⟨n2, f2, q2, rfl, bX_of hg h2 hx, rfl⟩)
                · refine J_aload_n C 0 dS_spreadFromGoal_69 rfl rfl ?_
                  refine J_aload_n C 0 dS_spreadFromGoal_70 rfl rfl ?_
                  refine J_get C 0 5 hinS rfl rfl (by decide) fkS_35 rfl dS_spreadFromGoal_71 ?_
                  refine J_iload_n C 3 dS_spreadFromGoal_74 rfl rfl ?_
                  refine J_iald C 3 rfl (by omega) (by omega) dS_spreadFromGoal_75 ?_
                  refine J_iload_n C 1 dS_spreadFromGoal_76 rfl rfl ?_
                  refine J_iload_n C 2 dS_spreadFromGoal_77 rfl rfl ?_
                  refine J_callV C (rest := []) [] [((h), .inr (2, [.int (nI (m)), .ref (e1), .ref (e2), .ref (e3), .ref (e4), .ref (e5), .int (nI (n2))])), kI E (e1) (12) (nd), kI E (e4) (ln) (f2), kI E (e5) (ln) (q2)] [] 0 (c_S_spreadFrom E l h m e1 e2 e3 e4 e5 n2 nd ln f2 q2 (mW m nd) b k (by assumption) (by omega) (by omega) (mW_lt hg) (by omega) (by omega) (h2)) mmS_spreadFrom msS_spreadFrom lkS_92 rfl rfl (rfl) rfl rfl ⟨by decide, by decide⟩ ⟨by decide, by decide⟩ (Nat.le_of_ble_eq_true rfl) dS_spreadFromGoal_78 (fun r_c w_c hp => ?_)
                  obtain ⟨n1_1, f1_2, u1_3, rfl, hn1, hF1, rfl⟩ := hp
                  refine J_norm C (st' := []) (ws' := [((h), .inr (2, [.int (nI (m)), .ref (e1), .ref (e2), .ref (e3), .ref (e4), .ref (e5), .int (nI (n1_1))])), kI E (e1) (12) (nd), kI E (e4) (ln) (f1_2), kI E (e5) (ln) (u1_3)]) (cs' := 0) (ss' := 0) rfl (rfl) rfl rfl ?_
                  refine J_iinc C (lv' := [(0, .ref (h)), (1, .int (nI (mW m nd))), (2, .int (nI (b))), (3, .int (nI (k + 1)))]) 3 [1, 2, 3, 0] dS_spreadFromGoal_81 rfl (jn_inc _) (by decide) rfl ?_
                  refine J_goto C 45 dS_spreadFromGoal_84 (by decide) ?_
                  exact ih_45 (k + 1) n1_1 f1_2 u1_3 (hn1) (bF_next (mW_lt hg) hF1 hn1) (by omega)
        exact lp_45 (4098) 0 1 (upN f (2 ^ (m - 1)) 1) (upN qu 0 (2 ^ (m - 1))) (by omega) (bF_0 hg hb1 upN_s (lf_goal hf)) (by omega)
      · refine J_aload_n C 0 dS_spreadFromGoal_12 rfl rfl ?_
        refine J_get C 0 4 hinS rfl rfl (by decide) fkS_32 rfl dS_spreadFromGoal_13 ?_
        refine J_iload_n C 3 dS_spreadFromGoal_16 rfl rfl ?_
        refine J_iconst C (v := nI (0)) dS_spreadFromGoal_17 (by decide) ?_
        refine J_iastN C (ws' := [((h), .inr (2, [.int (nI (m)), .ref (e1), .ref (e2), .ref (e3), .ref (e4), .ref (e5), .int (nI (qd))])), kI E (e1) (12) (nd), kI E (e4) (ln) (upN f i 0), kI E (e5) (ln) (qu)]) 2 rfl (by omega) (by omega) dS_spreadFromGoal_18 rfl ?_
        refine J_iinc C (lv' := [(0, .ref (h)), (1, .int (nI (mW m nd))), (2, .int (nI (b))), (3, .int (nI (i + 1)))]) 3 [1, 2, 3, 0] dS_spreadFromGoal_19 rfl (jn_inc _) (by decide) rfl ?_
        refine J_goto C 2 dS_spreadFromGoal_22 (by decide) ?_
        exact ih_2 (i + 1) (upN f i 0) (by omega) (cp_s (t := fun _ => 0) hf) (by omega)
  exact lp_2 (2 ^ m + 1) 0 lf (by omega) (by intro j; simp) (by omega)
set_option maxHeartbeats 4000000 in
set_option maxRecDepth 100000 in
theorem c_S_nearer (E : jE) (l : Launch) (h : Nat) (m : Nat) (e1 : Nat) (e2 : Nat) (e3 : Nat) (e4 : Nat) (e5 : Nat) (qd : Nat) (nd : Nat → Nat) (ln : Nat) (lf : Nat → Nat) (b : Nat) (k : Nat) (n : Nat) (Q : Nat → Nat) (S : Nat) (hg : mG m nd) (hln : ln ≤ 4096) (hml : 2 ^ m ≤ ln) (hbe : bE m nd b k n Q lf) (hfar : ∀ S, S < 2 ^ m → lf S ≤ 4096) (hS : S < 2 ^ m) (h2 : 2 ≤ lf S) (hle : lf S ≤ lf 0) : Con E l yS_firstStepNearer bS_firstStepNearer 5 (some .int) { frames := 0, cells := 0, slots := 0, locals := 0 } [.ref (h), .int (nI (S))] [((h), .inr (2, [.int (nI (m)), .ref (e1), .ref (e2), .ref (e3), .ref (e4), .ref (e5), .int (nI (qd))])), kI E (e1) (12) (nd), kI E (e4) (ln) (lf)] (fun r w => ∃ p : Nat, r = some (.int (nI p)) ∧ gst m nd lf S p ∧ w = [((h), .inr (2, [.int (nI (m)), .ref (e1), .ref (e2), .ref (e3), .ref (e4), .ref (e5), .int (nI (qd))])), kI E (e1) (12) (nd), kI E (e4) (ln) (lf)]) := by
  refine Con.ofI (by decide) (Nat.le_of_ble_eq_true rfl) ?_
  intro J C hret
  show J 0 [(0, .ref (h)), (1, .int (nI (S)))] [] [((h), .inr (2, [.int (nI (m)), .ref (e1), .ref (e2), .ref (e3), .ref (e4), .ref (e5), .int (nI (qd))])), kI E (e1) (12) (nd), kI E (e4) (ln) (lf)] 0 0
  have hm1 := hg.1
  have hm12 := hg.2.1
  have hp12 := p4096 hm12
  have hpm := Nat.two_pow_pos m
  have hpg : 2 ^ (m - 1) < 2 ^ m := Nat.pow_lt_pow_right (by omega) (by omega)
  have hfS := hfar S hS
  refine J_aload_n C 0 dS_firstStepNearer_0 rfl rfl ?_
  refine J_get C 0 4 hinS rfl rfl (by decide) fkS_32 rfl dS_firstStepNearer_1 ?_
  refine J_iload_n C 1 dS_firstStepNearer_4 rfl rfl ?_
  refine J_iald C 2 rfl (by omega) (by omega) dS_firstStepNearer_5 ?_
  refine J_iconst C (v := nI (1)) dS_firstStepNearer_6 (by decide) ?_
  refine J_isubN C dS_firstStepNearer_7 (by omega) ?_
  refine J_istore_n C (lv' := [(0, .ref (h)), (1, .int (nI (S))), (2, .int (nI ((lf S) - 1)))]) [1, 2, 0] dS_firstStepNearer_8 rfl (by decide) rfl ?_
  refine J_iconst C (v := nI (0)) dS_firstStepNearer_9 (by decide) ?_
  refine J_istore_n C (lv' := [(0, .ref (h)), (1, .int (nI (S))), (2, .int (nI ((lf S) - 1))), (3, .int (nI (0)))]) [1, 2, 3, 0] dS_firstStepNearer_10 rfl (by decide) rfl ?_
  have lp_11 : ∀ (k_11 : Nat) (s : Nat), (s ≤ m) → (∀ t, t < s → ¬ (nd t &&& S = nd t ∧ lf (S ^^^ 2 ^ t) + 1 = lf S)) → (m - s) < k_11 → J 11 [(0, .ref (h)), (1, .int (nI (S))), (2, .int (nI ((lf S) - 1))), (3, .int (nI (s)))] [] [((h), .inr (2, [.int (nI (m)), .ref (e1), .ref (e2), .ref (e3), .ref (e4), .ref (e5), .int (nI (qd))])), kI E (e1) (12) (nd), kI E (e4) (ln) (lf)] (0) (0) := by
    intro k_11
    induction k_11 with
    | zero => intro s hs hno hk_11; exact absurd hk_11 (Nat.not_lt_zero _)
    | succ k_11 ih_11 =>
      intro s hs hno hk_11
      refine J_iload_n C 3 dS_firstStepNearer_11 rfl rfl ?_
      refine J_aload_n C 0 dS_firstStepNearer_12 rfl rfl ?_
      refine J_get C 0 0 hinS rfl rfl (by decide) fkS_9 rfl dS_firstStepNearer_13 ?_
      refine J_icmp_ge C 58 (nI_toInt (n := s) (by omega)) (nI_toInt (n := m) (by omega)) dS_firstStepNearer_16 (by decide) (fun h16 => ?_) (fun h16 => ?_)
      · refine J_iconst C (v := nI (0)) dS_firstStepNearer_58 (by decide) ?_
        exfalso
        obtain ⟨p, hp1, hp2⟩ := bE_step hg hbe hS h2 hle
        exact hno p (by omega) hp2
      · have hxl := flip_lt hS (show s < m by omega)
        have hnds := hg.2.2 s (by omega)
        have hnp := Nat.pow_lt_pow_right (show 1 < 2 by omega) (show s < m by omega)
        refine J_aload_n C 0 dS_firstStepNearer_19 rfl rfl ?_
        refine J_get C 0 1 hinS rfl rfl (by decide) fkS_15 rfl dS_firstStepNearer_20 ?_
        refine J_iload_n C 3 dS_firstStepNearer_23 rfl rfl ?_
        refine J_iald C 1 rfl (by omega) (by omega) dS_firstStepNearer_24 ?_
        refine J_istore C (lv' := [(0, .ref (h)), (1, .int (nI (S))), (2, .int (nI ((lf S) - 1))), (3, .int (nI (s))), (4, .int (nI (nd s)))]) [1, 2, 3, 4, 0] dS_firstStepNearer_25 (by decide) rfl ?_
        refine J_iload_n C 1 dS_firstStepNearer_27 rfl rfl ?_
        refine J_iload C 4 dS_firstStepNearer_28 rfl ?_
        refine J_iandN C dS_firstStepNearer_30 ?_
        refine J_iload C 4 dS_firstStepNearer_31 rfl ?_
        refine J_icmp_ne C 52 (nI_toInt (n := S &&& (nd s)) (by have := Nat.and_le_left (n := S) (m := nd s); omega)) (nI_toInt (n := nd s) (by omega)) dS_firstStepNearer_33 (by decide) (fun h33 => ?_) (fun h33 => ?_)
        · have hns : ¬ (nd s &&& S = nd s ∧ lf (S ^^^ 2 ^ s) + 1 = lf S) := by
            rintro ⟨q, -⟩
            rw [Nat.and_comm] at q
            omega
          refine J_iinc C (lv' := [(0, .ref (h)), (1, .int (nI (S))), (2, .int (nI ((lf S) - 1))), (3, .int (nI (s + 1))), (4, .int (nI (nd s)))]) 3 [1, 2, 3, 0, 4] dS_firstStepNearer_52 rfl (jn_inc _) (by decide) rfl ?_
          refine J_goto C 11 dS_firstStepNearer_55 (by decide) ?_
          refine J_lv C (lv' := [(0, .ref (h)), (1, .int (nI (S))), (2, .int (nI ((lf S) - 1))), (3, .int (nI (s + 1)))]) [0, 1, 2, 3] rfl ?_
          exact ih_11 (s + 1) (by omega) (fun t q => by by_cases e : t = s; (rw [e]; exact hns); exact hno t (by omega)) (by omega)
        · have hnd : nd s &&& S = nd s := by rw [Nat.and_comm]; omega
          refine J_aload_n C 0 dS_firstStepNearer_36 rfl rfl ?_
          refine J_get C 0 4 hinS rfl rfl (by decide) fkS_32 rfl dS_firstStepNearer_37 ?_
          refine J_iload_n C 1 dS_firstStepNearer_40 rfl rfl ?_
          refine J_iconst C (v := nI (1)) dS_firstStepNearer_41 (by decide) ?_
          refine J_iload_n C 3 dS_firstStepNearer_42 rfl rfl ?_
          refine J_ishl1 C dS_firstStepNearer_43 (by omega) ?_
          refine J_ixorN C dS_firstStepNearer_44 ?_
          refine J_iald C 2 rfl (by omega) (by omega) dS_firstStepNearer_45 ?_
          refine J_iload_n C 2 dS_firstStepNearer_46 rfl rfl ?_
          refine J_icmp_ne C 52 (nI_toInt (n := lf (S ^^^ (2 ^ s))) (by have := hfar _ hxl; omega)) (nI_toInt (n := (lf S) - 1) (by omega)) dS_firstStepNearer_47 (by decide) (fun h47 => ?_) (fun h47 => ?_)
          · have hns : ¬ (nd s &&& S = nd s ∧ lf (S ^^^ 2 ^ s) + 1 = lf S) := by
              rintro ⟨-, q⟩
              omega
            refine J_iinc C (lv' := [(0, .ref (h)), (1, .int (nI (S))), (2, .int (nI ((lf S) - 1))), (3, .int (nI (s + 1))), (4, .int (nI (nd s)))]) 3 [1, 2, 3, 0, 4] dS_firstStepNearer_52 rfl (jn_inc _) (by decide) rfl ?_
            refine J_goto C 11 dS_firstStepNearer_55 (by decide) ?_
            refine J_lv C (lv' := [(0, .ref (h)), (1, .int (nI (S))), (2, .int (nI ((lf S) - 1))), (3, .int (nI (s + 1)))]) [0, 1, 2, 3] rfl ?_
            exact ih_11 (s + 1) (by omega) (fun t q => by by_cases e : t = s; (rw [e]; exact hns); exact hno t (by omega)) (by omega)
          · refine J_iload_n C 3 dS_firstStepNearer_50 rfl rfl ?_
            exact hret _ _ _ _ _ _ dS_firstStepNearer_51 (by decide) (by decide) (⟨s, rfl, ⟨by omega, hnd, by omega, hno⟩, rfl⟩)
  exact lp_11 (m + 1) 0 (by omega) (fun t q => by omega) (by omega)
set_option maxHeartbeats 4000000 in
set_option maxRecDepth 100000 in
theorem c_S_search_ng (E : jE) (l : Launch) (h : Nat) (m : Nat) (e1 : Nat) (e2 : Nat) (e3 : Nat) (e4 : Nat) (e5 : Nat) (qd : Nat) (nd : Nat → Nat) (ln : Nat) (lf : Nat → Nat) (qu : Nat → Nat) (b : Nat) (hg : mG m nd) (hln : ln ≤ 4096) (hb1 : 1 ≤ b) (hb : b ≤ m) (hno : ∀ qs, ¬ mP m nd b 0 qs (2 ^ (m - 1))) : Con E l yS_search bS_search 7 (some (.object "ReversibleParts$Moves")) { frames := 3, cells := 2, slots := 8192, locals := 73 } [.ref (h), .int (nI (b))] [((h), .inr (2, [.int (nI (m)), .ref (e1), .ref (e2), .ref (e3), .ref (e4), .ref (e5), .int (nI (qd))])), kI E (e1) (12) (nd), kI E (e4) (ln) (lf), kI E (e5) (ln) (qu)] (fun r w => ∃ (e41 e51 l1 n1 : Nat) (f1 u1 : Nat → Nat), r = some (.ref e3) ∧ l1 ≤ 4096 ∧ 2 ^ m ≤ l1 ∧ w = [((h), .inr (2, [.int (nI (m)), .ref (e1), .ref (e2), .ref (e3), .ref (e41), .ref (e51), .int (nI (n1))])), kI E (e1) (12) (nd), kI E (e41) (l1) (f1), kI E (e51) (l1) (u1)]) := by
  refine Con.ofA (by decide) (Nat.le_of_ble_eq_true rfl) ?_
  intro J C hret
  show J 0 [(0, .ref (h)), (1, .int (nI (b)))] [] [((h), .inr (2, [.int (nI (m)), .ref (e1), .ref (e2), .ref (e3), .ref (e4), .ref (e5), .int (nI (qd))])), kI E (e1) (12) (nd), kI E (e4) (ln) (lf), kI E (e5) (ln) (qu)] 0 0
  have hm1 := hg.1
  have hm12 := hg.2.1
  have hp12 := p4096 hm12
  have hpm := Nat.two_pow_pos m
  have hpg : 2 ^ (m - 1) < 2 ^ m := Nat.pow_lt_pow_right (by omega) (by omega)
  refine J_aload_n C 0 dS_search_0 rfl rfl ?_
  refine J_pick C (ws' := [((h), .inr (2, [.int (nI (m)), .ref (e1), .ref (e2), .ref (e3), .ref (e4), .ref (e5), .int (nI (qd))])), kI E (e4) (ln) (lf), kI E (e5) (ln) (qu), kI E (e1) (12) (nd)]) [0, 2, 3, 1] (by decide) rfl ?_
  refine J_callV C (rest := []) [] [((h), .inr (2, [.int (nI (m)), .ref (e1), .ref (e2), .ref (e3), .ref (e4), .ref (e5), .int (nI (qd))])), kI E (e4) (ln) (lf), kI E (e5) (ln) (qu)] [kI E (e1) (12) (nd)] 0 (c_S_makeRoom E l h m e1 e2 e3 e4 e5 qd ln lf qu (by omega) (by omega)) mmS_makeRoom msS_makeRoom lkS_73 rfl rfl (rfl) rfl rfl ⟨by decide, by decide⟩ ⟨by decide, by decide⟩ (Nat.le_of_ble_eq_true rfl) dS_search_1 (fun r_c w_c hp => ?_)
  obtain ⟨e6a, e7a, l1a, f1a, u1a, rfl, hl1a, hl1ua, rfl⟩ := hp
  refine J_norm C (st' := []) (ws' := [((h), .inr (2, [.int (nI (m)), .ref (e1), .ref (e2), .ref (e3), .ref (e6a), .ref (e7a), .int (nI (qd))])), kI E (e6a) (l1a) (f1a), kI E (e7a) (l1a) (u1a), kI E (e1) (12) (nd)]) (cs' := 2) (ss' := 8192) rfl (rfl) rfl rfl ?_
  refine J_pick C (ws' := [((h), .inr (2, [.int (nI (m)), .ref (e1), .ref (e2), .ref (e3), .ref (e6a), .ref (e7a), .int (nI (qd))])), kI E (e1) (12) (nd), kI E (e6a) (l1a) (f1a), kI E (e7a) (l1a) (u1a)]) [0, 3, 1, 2] (by decide) rfl ?_
  refine J_aload_n C 0 dS_search_4 rfl rfl ?_
  refine J_callV C (rest := []) [] [((h), .inr (2, [.int (nI (m)), .ref (e1), .ref (e2), .ref (e3), .ref (e6a), .ref (e7a), .int (nI (qd))])), kI E (e1) (12) (nd)] [kI E (e6a) (l1a) (f1a), kI E (e7a) (l1a) (u1a)] 0 (c_S_wanted E l h m e1 e2 e3 e6a e7a qd nd (by assumption)) mmS_wantedSteps msS_wantedSteps lkS_64 rfl rfl (rfl) rfl rfl ⟨by decide, by decide⟩ ⟨by decide, by decide⟩ (Nat.le_of_ble_eq_true rfl) dS_search_5 (fun r_c w_c hp => ?_)
  obtain ⟨rfl, rfl⟩ := hp
  refine J_norm C (st' := [.int (nI (mW m nd))]) (ws' := [((h), .inr (2, [.int (nI (m)), .ref (e1), .ref (e2), .ref (e3), .ref (e6a), .ref (e7a), .int (nI (qd))])), kI E (e1) (12) (nd), kI E (e6a) (l1a) (f1a), kI E (e7a) (l1a) (u1a)]) (cs' := 2) (ss' := 8192) rfl (rfl) rfl rfl ?_
  refine J_istore_n C (lv' := [(0, .ref (h)), (1, .int (nI (b))), (2, .int (nI (mW m nd)))]) [1, 2, 0] dS_search_8 rfl (by decide) rfl ?_
  refine J_aload_n C 0 dS_search_9 rfl rfl ?_
  refine J_iload_n C 2 dS_search_10 rfl rfl ?_
  refine J_iload_n C 1 dS_search_11 rfl rfl ?_
  refine J_callV C (rest := []) [] [((h), .inr (2, [.int (nI (m)), .ref (e1), .ref (e2), .ref (e3), .ref (e6a), .ref (e7a), .int (nI (qd))])), kI E (e1) (12) (nd), kI E (e6a) (l1a) (f1a), kI E (e7a) (l1a) (u1a)] [] 0 (c_S_goal E l h m e1 e2 e3 e6a e7a qd nd l1a f1a u1a b (by assumption) (hl1ua) (hl1a) (by omega) (by omega)) mmS_spreadFromGoal msS_spreadFromGoal lkS_76 rfl rfl (rfl) rfl rfl ⟨by decide, by decide⟩ ⟨by decide, by decide⟩ (Nat.le_of_ble_eq_true rfl) dS_search_12 (fun r_c w_c hp => ?_)
  obtain ⟨n1b, f1b, u1b, rfl, hX1b, rfl⟩ := hp
  refine J_norm C (st' := []) (ws' := [((h), .inr (2, [.int (nI (m)), .ref (e1), .ref (e2), .ref (e3), .ref (e6a), .ref (e7a), .int (nI (n1b))])), kI E (e1) (12) (nd), kI E (e6a) (l1a) (f1b), kI E (e7a) (l1a) (u1b)]) (cs' := 2) (ss' := 8192) rfl (rfl) rfl rfl ?_
  refine J_aload_n C 0 dS_search_15 rfl rfl ?_
  refine J_get C 0 4 hinS rfl rfl (by decide) fkS_32 rfl dS_search_16 ?_
  refine J_iconst C (v := nI (0)) dS_search_19 (by decide) ?_
  refine J_iald C 2 rfl (by omega) (by omega) dS_search_20 ?_
  refine J_if_ne C 29 (nI_toInt (n := f1b 0) (by have := hX1b.1 0 hpm; omega)) dS_search_21 (by decide) (fun h21 => ?_) (fun h21 => ?_)
  · have hz := bX_no hX1b hno
    exact absurd h21 (fun q => q (by omega))
  · refine J_aload_n C 0 dS_search_24 rfl rfl ?_
    refine J_get C 0 3 hinS rfl rfl (by decide) fkS_28 rfl dS_search_25 ?_
    exact hret _ _ _ _ _ _ dS_search_28 (by decide) (by decide) (⟨_, _, _, _, _, _, rfl, hl1ua, hl1a, rfl⟩)
set_option maxHeartbeats 4000000 in
set_option maxRecDepth 100000 in
theorem c_S_search_pg (E : jE) (l : Launch) (h : Nat) (m : Nat) (e1 : Nat) (e2 : Nat) (e3 : Nat) (e4 : Nat) (e5 : Nat) (qd : Nat) (nd : Nat → Nat) (ln : Nat) (lf : Nat → Nat) (qu : Nat → Nat) (b : Nat) (ps : List Nat) (hg : mG m nd) (hln : ln ≤ 4096) (hb1 : 1 ≤ b) (hb : b ≤ m) (hsp : mSP m nd b ps) : Con E l yS_search bS_search 7 (some (.object "ReversibleParts$Moves")) { frames := 3, cells := 4, slots := 12289, locals := 73 } [.ref (h), .int (nI (b))] [((h), .inr (2, [.int (nI (m)), .ref (e1), .ref (e2), .ref (e3), .ref (e4), .ref (e5), .int (nI (qd))])), kI E (e1) (12) (nd), kI E (e4) (ln) (lf), kI E (e5) (ln) (qu)] (fun r w => ∃ (e41 e51 l1 n1 : Nat) (f1 u1 : Nat → Nat) (q1 r1 : Nat) (t1 : Nat → Nat), r = some (.ref q1) ∧ l1 ≤ 4096 ∧ 2 ^ m ≤ l1 ∧ ps.length ≤ 4096 ∧ gL t1 ps ∧ w = [((h), .inr (2, [.int (nI (m)), .ref (e1), .ref (e2), .ref (e3), .ref (e41), .ref (e51), .int (nI (n1))])), kI E (e1) (12) (nd), kI E (e41) (l1) (f1), kI E (e51) (l1) (u1), ((q1), .inr (1, [.ref (r1)])), kI E (r1) (ps.length) (t1)]) := by
  refine Con.ofA (by decide) (Nat.le_of_ble_eq_true rfl) ?_
  intro J C hret
  show J 0 [(0, .ref (h)), (1, .int (nI (b)))] [] [((h), .inr (2, [.int (nI (m)), .ref (e1), .ref (e2), .ref (e3), .ref (e4), .ref (e5), .int (nI (qd))])), kI E (e1) (12) (nd), kI E (e4) (ln) (lf), kI E (e5) (ln) (qu)] 0 0
  have hm1 := hg.1
  have hm12 := hg.2.1
  have hp12 := p4096 hm12
  have hpm := Nat.two_pow_pos m
  have hpg : 2 ^ (m - 1) < 2 ^ m := Nat.pow_lt_pow_right (by omega) (by omega)
  refine J_aload_n C 0 dS_search_0 rfl rfl ?_
  refine J_pick C (ws' := [((h), .inr (2, [.int (nI (m)), .ref (e1), .ref (e2), .ref (e3), .ref (e4), .ref (e5), .int (nI (qd))])), kI E (e4) (ln) (lf), kI E (e5) (ln) (qu), kI E (e1) (12) (nd)]) [0, 2, 3, 1] (by decide) rfl ?_
  refine J_callV C (rest := []) [] [((h), .inr (2, [.int (nI (m)), .ref (e1), .ref (e2), .ref (e3), .ref (e4), .ref (e5), .int (nI (qd))])), kI E (e4) (ln) (lf), kI E (e5) (ln) (qu)] [kI E (e1) (12) (nd)] 0 (c_S_makeRoom E l h m e1 e2 e3 e4 e5 qd ln lf qu (by omega) (by omega)) mmS_makeRoom msS_makeRoom lkS_73 rfl rfl (rfl) rfl rfl ⟨by decide, by decide⟩ ⟨by decide, by decide⟩ (Nat.le_of_ble_eq_true rfl) dS_search_1 (fun r_c w_c hp => ?_)
  obtain ⟨e6a, e7a, l1a, f1a, u1a, rfl, hl1a, hl1ua, rfl⟩ := hp
  refine J_norm C (st' := []) (ws' := [((h), .inr (2, [.int (nI (m)), .ref (e1), .ref (e2), .ref (e3), .ref (e6a), .ref (e7a), .int (nI (qd))])), kI E (e6a) (l1a) (f1a), kI E (e7a) (l1a) (u1a), kI E (e1) (12) (nd)]) (cs' := 2) (ss' := 8192) rfl (rfl) rfl rfl ?_
  refine J_pick C (ws' := [((h), .inr (2, [.int (nI (m)), .ref (e1), .ref (e2), .ref (e3), .ref (e6a), .ref (e7a), .int (nI (qd))])), kI E (e1) (12) (nd), kI E (e6a) (l1a) (f1a), kI E (e7a) (l1a) (u1a)]) [0, 3, 1, 2] (by decide) rfl ?_
  refine J_aload_n C 0 dS_search_4 rfl rfl ?_
  refine J_callV C (rest := []) [] [((h), .inr (2, [.int (nI (m)), .ref (e1), .ref (e2), .ref (e3), .ref (e6a), .ref (e7a), .int (nI (qd))])), kI E (e1) (12) (nd)] [kI E (e6a) (l1a) (f1a), kI E (e7a) (l1a) (u1a)] 0 (c_S_wanted E l h m e1 e2 e3 e6a e7a qd nd (by assumption)) mmS_wantedSteps msS_wantedSteps lkS_64 rfl rfl (rfl) rfl rfl ⟨by decide, by decide⟩ ⟨by decide, by decide⟩ (Nat.le_of_ble_eq_true rfl) dS_search_5 (fun r_c w_c hp => ?_)
  obtain ⟨rfl, rfl⟩ := hp
  refine J_norm C (st' := [.int (nI (mW m nd))]) (ws' := [((h), .inr (2, [.int (nI (m)), .ref (e1), .ref (e2), .ref (e3), .ref (e6a), .ref (e7a), .int (nI (qd))])), kI E (e1) (12) (nd), kI E (e6a) (l1a) (f1a), kI E (e7a) (l1a) (u1a)]) (cs' := 2) (ss' := 8192) rfl (rfl) rfl rfl ?_
  refine J_istore_n C (lv' := [(0, .ref (h)), (1, .int (nI (b))), (2, .int (nI (mW m nd)))]) [1, 2, 0] dS_search_8 rfl (by decide) rfl ?_
  refine J_aload_n C 0 dS_search_9 rfl rfl ?_
  refine J_iload_n C 2 dS_search_10 rfl rfl ?_
  refine J_iload_n C 1 dS_search_11 rfl rfl ?_
  refine J_callV C (rest := []) [] [((h), .inr (2, [.int (nI (m)), .ref (e1), .ref (e2), .ref (e3), .ref (e6a), .ref (e7a), .int (nI (qd))])), kI E (e1) (12) (nd), kI E (e6a) (l1a) (f1a), kI E (e7a) (l1a) (u1a)] [] 0 (c_S_goal E l h m e1 e2 e3 e6a e7a qd nd l1a f1a u1a b (by assumption) (hl1ua) (hl1a) (by omega) (by omega)) mmS_spreadFromGoal msS_spreadFromGoal lkS_76 rfl rfl (rfl) rfl rfl ⟨by decide, by decide⟩ ⟨by decide, by decide⟩ (Nat.le_of_ble_eq_true rfl) dS_search_12 (fun r_c w_c hp => ?_)
  obtain ⟨n1b, f1b, u1b, rfl, hX1b, rfl⟩ := hp
  refine J_norm C (st' := []) (ws' := [((h), .inr (2, [.int (nI (m)), .ref (e1), .ref (e2), .ref (e3), .ref (e6a), .ref (e7a), .int (nI (n1b))])), kI E (e1) (12) (nd), kI E (e6a) (l1a) (f1b), kI E (e7a) (l1a) (u1b)]) (cs' := 2) (ss' := 8192) rfl (rfl) rfl rfl ?_
  refine J_aload_n C 0 dS_search_15 rfl rfl ?_
  refine J_get C 0 4 hinS rfl rfl (by decide) fkS_32 rfl dS_search_16 ?_
  refine J_iconst C (v := nI (0)) dS_search_19 (by decide) ?_
  refine J_iald C 2 rfl (by omega) (by omega) dS_search_20 ?_
  refine J_if_ne C 29 (nI_toInt (n := f1b 0) (by have := hX1b.1 0 hpm; omega)) dS_search_21 (by decide) (fun h21 => ?_) (fun h21 => ?_)
  · obtain ⟨k0, n0, Q0, hE⟩ := bX_yes hX1b hsp
    have hE0 := hE.2
    refine J_new C (ci := 1) (fs := [.null]) tyV hinV tyokV ckS_19 inV itV rfl (by decide +kernel) (by decide) (by decide) dS_search_29 (fun qa => ?_)
    refine J_dup C dS_search_32 rfl ?_
    refine J_aload_n C 0 dS_search_33 rfl rfl ?_
    refine J_get C 0 4 hinS rfl rfl (by decide) fkS_32 rfl dS_search_34 ?_
    refine J_iconst C (v := nI (0)) dS_search_37 (by decide) ?_
    refine J_iald C 2 rfl (by omega) (by omega) dS_search_38 ?_
    refine J_iconst C (v := nI (1)) dS_search_39 (by decide) ?_
    refine J_isubN C dS_search_40 (by omega) ?_
    refine J_pick C (ws' := [((qa), .inr (1, [.null])), ((h), .inr (2, [.int (nI (m)), .ref (e1), .ref (e2), .ref (e3), .ref (e6a), .ref (e7a), .int (nI (n1b))])), kI E (e1) (12) (nd), kI E (e6a) (l1a) (f1b), kI E (e7a) (l1a) (u1b)]) [4, 0, 1, 2, 3] (by decide) rfl ?_
    refine J_callI C (rest := [.ref (qa)]) [] [((qa), .inr (1, [.null]))] [((h), .inr (2, [.int (nI (m)), .ref (e1), .ref (e2), .ref (e3), .ref (e6a), .ref (e7a), .int (nI (n1b))])), kI E (e1) (12) (nd), kI E (e6a) (l1a) (f1b), kI E (e7a) (l1a) (u1b)] (c_V_init E l qa ((f1b 0) - 1) (by have := hX1b.1 0 hpm; omega)) mmV_init rfl lkS_25 (rfl) rfl rfl ⟨by decide, by decide⟩ ⟨by decide, by decide⟩ (Nat.le_of_ble_eq_true rfl) dS_search_41 (fun r_c w_c hp => ?_)
    obtain ⟨ra, rfl, rfl⟩ := hp
    refine J_norm C (st' := [.ref (qa)]) (ws' := [((qa), .inr (1, [.ref (ra)])), kI E (ra) (((f1b 0) - 1)) (fun _ => 0), ((h), .inr (2, [.int (nI (m)), .ref (e1), .ref (e2), .ref (e3), .ref (e6a), .ref (e7a), .int (nI (n1b))])), kI E (e1) (12) (nd), kI E (e6a) (l1a) (f1b), kI E (e7a) (l1a) (u1b)]) (cs' := 4) (ss' := 12289) rfl (rfl) rfl rfl ?_
    refine J_pick C (ws' := [((h), .inr (2, [.int (nI (m)), .ref (e1), .ref (e2), .ref (e3), .ref (e6a), .ref (e7a), .int (nI (n1b))])), kI E (e1) (12) (nd), kI E (e6a) (l1a) (f1b), kI E (e7a) (l1a) (u1b), ((qa), .inr (1, [.ref (ra)])), kI E (ra) (((f1b 0) - 1)) (fun _ => 0)]) [2, 3, 4, 5, 0, 1] (by decide) rfl ?_
    refine J_astore_n C (lv' := [(0, .ref (h)), (1, .int (nI (b))), (2, .int (nI (mW m nd))), (3, .ref (qa))]) [1, 2, 3, 0] dS_search_44 rfl (by decide) rfl ?_
    refine J_iconst C (v := nI (0)) dS_search_45 (by decide) ?_
    refine J_istore C (lv' := [(0, .ref (h)), (1, .int (nI (b))), (2, .int (nI (mW m nd))), (3, .ref (qa)), (4, .int (nI (0)))]) [1, 2, 3, 4, 0] dS_search_46 (by decide) rfl ?_
    refine J_iconst C (v := nI (0)) dS_search_48 (by decide) ?_
    refine J_istore C (lv' := [(0, .ref (h)), (1, .int (nI (b))), (2, .int (nI (mW m nd))), (3, .ref (qa)), (4, .int (nI (0))), (5, .int (nI (0)))]) [1, 2, 3, 4, 5, 0] dS_search_49 (by decide) rfl ?_
    have lp_51 : ∀ (k_51 : Nat) (i : Nat) (t : Nat → Nat), (i ≤ f1b 0 - 1) → (∀ j, j < i → gst m nd f1b (runT t j) (t j)) → (f1b 0 - 1 - i) < k_51 → J 51 [(0, .ref (h)), (1, .int (nI (b))), (2, .int (nI (mW m nd))), (3, .ref (qa)), (4, .int (nI (runT t i))), (5, .int (nI (i)))] [] [((h), .inr (2, [.int (nI (m)), .ref (e1), .ref (e2), .ref (e3), .ref (e6a), .ref (e7a), .int (nI (n1b))])), kI E (e1) (12) (nd), kI E (e6a) (l1a) (f1b), kI E (e7a) (l1a) (u1b), ((qa), .inr (1, [.ref (ra)])), kI E (ra) (f1b 0 - 1) (t)] (4) (12289) := by
      intro k_51
      induction k_51 with
      | zero => intro i t hi hst hk_51; exact absurd hk_51 (Nat.not_lt_zero _)
      | succ k_51 ih_51 =>
        intro i t hi hst hk_51
        have gst_le := gst_list' (n := f1b 0 - 1) (show f1b 0 = (f1b 0 - 1) + 1 by omega) hst
        refine J_iload C 5 dS_search_51 rfl ?_
        refine J_aload_n C 3 dS_search_53 rfl rfl ?_
        refine J_pick C (ws' := [((qa), .inr (1, [.ref (ra)])), kI E (ra) (f1b 0 - 1) (t), ((h), .inr (2, [.int (nI (m)), .ref (e1), .ref (e2), .ref (e3), .ref (e6a), .ref (e7a), .int (nI (n1b))])), kI E (e1) (12) (nd), kI E (e6a) (l1a) (f1b), kI E (e7a) (l1a) (u1b)]) [4, 5, 0, 1, 2, 3] (by decide) rfl ?_
        refine J_callV C (rest := [.int (nI (i))]) [] [((qa), .inr (1, [.ref (ra)])), kI E (ra) (f1b 0 - 1) (t)] [((h), .inr (2, [.int (nI (m)), .ref (e1), .ref (e2), .ref (e3), .ref (e6a), .ref (e7a), .int (nI (n1b))])), kI E (e1) (12) (nd), kI E (e6a) (l1a) (f1b), kI E (e7a) (l1a) (u1b)] 0 (c_V_length E l qa ra (f1b 0 - 1) t) mmV_length msV_length lkS_49 rfl rfl (rfl) rfl rfl ⟨by decide, by decide⟩ ⟨by decide, by decide⟩ (Nat.le_of_ble_eq_true rfl) dS_search_54 (fun r_c w_c hp => ?_)
        obtain ⟨rfl, rfl⟩ := hp
        refine J_norm C (st' := [.int (nI ((f1b 0 - 1))), .int (nI (i))]) (ws' := [((qa), .inr (1, [.ref (ra)])), kI E (ra) ((f1b 0 - 1)) (t), ((h), .inr (2, [.int (nI (m)), .ref (e1), .ref (e2), .ref (e3), .ref (e6a), .ref (e7a), .int (nI (n1b))])), kI E (e1) (12) (nd), kI E (e6a) (l1a) (f1b), kI E (e7a) (l1a) (u1b)]) (cs' := 4) (ss' := 12289) rfl (rfl) rfl rfl ?_
        refine J_pick C (ws' := [((h), .inr (2, [.int (nI (m)), .ref (e1), .ref (e2), .ref (e3), .ref (e6a), .ref (e7a), .int (nI (n1b))])), kI E (e1) (12) (nd), kI E (e6a) (l1a) (f1b), kI E (e7a) (l1a) (u1b), ((qa), .inr (1, [.ref (ra)])), kI E (ra) ((f1b 0 - 1)) (t)]) [2, 3, 4, 5, 0, 1] (by decide) rfl ?_
        refine J_icmp_ge C 91 (nI_toInt (n := i) (by have := hX1b.1 0 hpm; omega)) (nI_toInt (n := (f1b 0 - 1)) (by have := hX1b.1 0 hpm; omega)) dS_search_57 (by decide) (fun h57 => ?_) (fun h57 => ?_)
        · obtain rfl : f1b 0 - 1 = i := by omega
          refine J_aload_n C 3 dS_search_91 rfl rfl ?_
          have eps := mSP_one hg (rowL_mSP hg hE (show f1b 0 = (f1b 0 - 1) + 1 by omega) hst) hsp
          have el : f1b 0 - 1 = ps.length := by rw [← eps, rowL_len]
          have hgl : gL t ps := by rw [← eps]; exact rowL_gL t _
          have hpl : ps.length ≤ 4096 := by have := hX1b.1 0 hpm; omega
          rw [el]
          exact hret _ _ _ _ _ _ dS_search_92 (by decide) (by decide) (⟨_, _, _, _, _, _, qa, ra, t, rfl, hl1ua, hl1a, hpl, hgl, rfl⟩)
        · refine J_aload_n C 0 dS_search_60 rfl rfl ?_
          refine J_iload C 4 dS_search_61 rfl ?_
          refine J_callV C (rest := []) [] [((h), .inr (2, [.int (nI (m)), .ref (e1), .ref (e2), .ref (e3), .ref (e6a), .ref (e7a), .int (nI (n1b))])), kI E (e1) (12) (nd), kI E (e6a) (l1a) (f1b)] [kI E (e7a) (l1a) (u1b), ((qa), .inr (1, [.ref (ra)])), kI E (ra) ((f1b 0 - 1)) (t)] 0 (c_S_nearer E l h m e1 e2 e3 e6a e7a n1b nd l1a f1b b k0 n0 Q0 (runT t i) (by assumption) (hl1ua) (hl1a) (hE) (hX1b.1) (gst_lt hst i (by omega)) (by have := gst_le; omega) (by omega)) mmS_firstStepNearer msS_firstStepNearer lkS_80 rfl rfl (rfl) rfl rfl ⟨by decide, by decide⟩ ⟨by decide, by decide⟩ (Nat.le_of_ble_eq_true rfl) dS_search_63 (fun r_c w_c hp => ?_)
          obtain ⟨p1, rfl, hgs1, rfl⟩ := hp
          refine J_norm C (st' := [.int (nI (p1))]) (ws' := [((h), .inr (2, [.int (nI (m)), .ref (e1), .ref (e2), .ref (e3), .ref (e6a), .ref (e7a), .int (nI (n1b))])), kI E (e1) (12) (nd), kI E (e6a) (l1a) (f1b), kI E (e7a) (l1a) (u1b), ((qa), .inr (1, [.ref (ra)])), kI E (ra) ((f1b 0 - 1)) (t)]) (cs' := 4) (ss' := 12289) rfl (rfl) rfl rfl ?_
          refine J_istore C (lv' := [(0, .ref (h)), (1, .int (nI (b))), (2, .int (nI (mW m nd))), (3, .ref (qa)), (4, .int (nI (runT t i))), (5, .int (nI (i))), (6, .int (nI (p1)))]) [1, 2, 3, 4, 5, 6, 0] dS_search_66 (by decide) rfl ?_
          refine J_aload_n C 3 dS_search_68 rfl rfl ?_
          refine J_iload C 5 dS_search_69 rfl ?_
          refine J_iload C 6 dS_search_71 rfl ?_
          refine J_pick C (ws' := [((qa), .inr (1, [.ref (ra)])), kI E (ra) ((f1b 0 - 1)) (t), ((h), .inr (2, [.int (nI (m)), .ref (e1), .ref (e2), .ref (e3), .ref (e6a), .ref (e7a), .int (nI (n1b))])), kI E (e1) (12) (nd), kI E (e6a) (l1a) (f1b), kI E (e7a) (l1a) (u1b)]) [4, 5, 0, 1, 2, 3] (by decide) rfl ?_
          refine J_callV C (rest := []) [] [((qa), .inr (1, [.ref (ra)])), kI E (ra) ((f1b 0 - 1)) (t)] [((h), .inr (2, [.int (nI (m)), .ref (e1), .ref (e2), .ref (e3), .ref (e6a), .ref (e7a), .int (nI (n1b))])), kI E (e1) (12) (nd), kI E (e6a) (l1a) (f1b), kI E (e7a) (l1a) (u1b)] 0 (c_V_set E l qa ra (f1b 0 - 1) t i p1 (by have := hX1b.1 0 hpm; omega) (by omega)) mmV_set msV_set lkS_83 rfl rfl (rfl) rfl rfl ⟨by decide, by decide⟩ ⟨by decide, by decide⟩ (Nat.le_of_ble_eq_true rfl) dS_search_73 (fun r_c w_c hp => ?_)
          obtain ⟨rfl, rfl⟩ := hp
          refine J_norm C (st' := []) (ws' := [((qa), .inr (1, [.ref (ra)])), kI E (ra) ((f1b 0 - 1)) (upN t i p1), ((h), .inr (2, [.int (nI (m)), .ref (e1), .ref (e2), .ref (e3), .ref (e6a), .ref (e7a), .int (nI (n1b))])), kI E (e1) (12) (nd), kI E (e6a) (l1a) (f1b), kI E (e7a) (l1a) (u1b)]) (cs' := 4) (ss' := 12289) rfl (rfl) rfl rfl ?_
          refine J_pick C (ws' := [((h), .inr (2, [.int (nI (m)), .ref (e1), .ref (e2), .ref (e3), .ref (e6a), .ref (e7a), .int (nI (n1b))])), kI E (e1) (12) (nd), kI E (e6a) (l1a) (f1b), kI E (e7a) (l1a) (u1b), ((qa), .inr (1, [.ref (ra)])), kI E (ra) ((f1b 0 - 1)) (upN t i p1)]) [2, 3, 4, 5, 0, 1] (by decide) rfl ?_
          refine J_iload C 4 dS_search_76 rfl ?_
          refine J_iconst C (v := nI (1)) dS_search_78 (by decide) ?_
          refine J_iload C 6 dS_search_79 rfl ?_
          refine J_ishl1 C dS_search_81 (by have := hgs1.1; omega) ?_
          refine J_ixorN C dS_search_82 ?_
          refine J_istore C (lv' := [(0, .ref (h)), (1, .int (nI (b))), (2, .int (nI (mW m nd))), (3, .ref (qa)), (4, .int (nI ((runT t i) ^^^ (2 ^ p1)))), (5, .int (nI (i))), (6, .int (nI (p1)))]) [1, 2, 3, 4, 0, 5, 6] dS_search_83 (by decide) rfl ?_
          refine J_iinc C (lv' := [(0, .ref (h)), (1, .int (nI (b))), (2, .int (nI (mW m nd))), (3, .ref (qa)), (4, .int (nI ((runT t i) ^^^ (2 ^ p1)))), (5, .int (nI (i + 1))), (6, .int (nI (p1)))]) 5 [1, 2, 3, 4, 5, 0, 6] dS_search_85 rfl (jn_inc _) (by decide) rfl ?_
          refine J_goto C 51 dS_search_88 (by decide) ?_
          rw [runT_s (t := t) (i := i) (p := p1)]
          refine J_lv C (lv' := [(0, .ref (h)), (1, .int (nI (b))), (2, .int (nI (mW m nd))), (3, .ref (qa)), (4, .int (nI (runT (upN t i p1) (i + 1)))), (5, .int (nI (i + 1)))]) [0, 1, 2, 3, 4, 5] rfl ?_
          exact ih_51 (i + 1) (upN t i p1) (by omega) (gst_s hst hgs1) (by omega)
    exact lp_51 (f1b 0) 0 (fun _ => 0) (by omega) (fun j q => by omega) (by omega)
  · obtain ⟨k0, n0, Q0, hE⟩ := bX_yes hX1b hsp
    exact absurd h21 (fun q => hE.2 (by omega))
set_option maxHeartbeats 4000000 in
set_option maxRecDepth 100000 in
theorem c_S_search_n0 (E : jE) (l : Launch) (h : Nat) (m : Nat) (e1 : Nat) (e2 : Nat) (e3 : Nat) (e4 : Nat) (e5 : Nat) (qd : Nat) (nd : Nat → Nat) (ln : Nat) (lf : Nat → Nat) (qu : Nat → Nat) (b : Nat) (hg : mG m nd) (hln : ln ≤ 4096) (hb1 : 1 ≤ b) (hb : b ≤ m) (hml : 2 ^ m ≤ ln) (hno : ∀ qs, ¬ mP m nd b 0 qs (2 ^ (m - 1))) : Con E l yS_search bS_search 7 (some (.object "ReversibleParts$Moves")) { frames := 3, cells := 0, slots := 0, locals := 73 } [.ref (h), .int (nI (b))] [((h), .inr (2, [.int (nI (m)), .ref (e1), .ref (e2), .ref (e3), .ref (e4), .ref (e5), .int (nI (qd))])), kI E (e1) (12) (nd), kI E (e4) (ln) (lf), kI E (e5) (ln) (qu)] (fun r w => ∃ (e41 e51 l1 n1 : Nat) (f1 u1 : Nat → Nat), r = some (.ref e3) ∧ l1 ≤ 4096 ∧ 2 ^ m ≤ l1 ∧ w = [((h), .inr (2, [.int (nI (m)), .ref (e1), .ref (e2), .ref (e3), .ref (e41), .ref (e51), .int (nI (n1))])), kI E (e1) (12) (nd), kI E (e41) (l1) (f1), kI E (e51) (l1) (u1)]) := by
  refine Con.ofA (by decide) (Nat.le_of_ble_eq_true rfl) ?_
  intro J C hret
  show J 0 [(0, .ref (h)), (1, .int (nI (b)))] [] [((h), .inr (2, [.int (nI (m)), .ref (e1), .ref (e2), .ref (e3), .ref (e4), .ref (e5), .int (nI (qd))])), kI E (e1) (12) (nd), kI E (e4) (ln) (lf), kI E (e5) (ln) (qu)] 0 0
  have hm1 := hg.1
  have hm12 := hg.2.1
  have hp12 := p4096 hm12
  have hpm := Nat.two_pow_pos m
  have hpg : 2 ^ (m - 1) < 2 ^ m := Nat.pow_lt_pow_right (by omega) (by omega)
  refine J_aload_n C 0 dS_search_0 rfl rfl ?_
  refine J_pick C (ws' := [((h), .inr (2, [.int (nI (m)), .ref (e1), .ref (e2), .ref (e3), .ref (e4), .ref (e5), .int (nI (qd))])), kI E (e4) (ln) (lf), kI E (e5) (ln) (qu), kI E (e1) (12) (nd)]) [0, 2, 3, 1] (by decide) rfl ?_
  refine J_callV C (rest := []) [] [((h), .inr (2, [.int (nI (m)), .ref (e1), .ref (e2), .ref (e3), .ref (e4), .ref (e5), .int (nI (qd))])), kI E (e4) (ln) (lf), kI E (e5) (ln) (qu)] [kI E (e1) (12) (nd)] 0 (c_S_makeRoom0 E l h m e1 e2 e3 e4 e5 qd ln lf qu (by omega) (by omega) (by omega)) mmS_makeRoom msS_makeRoom lkS_73 rfl rfl (rfl) rfl rfl ⟨by decide, by decide⟩ ⟨by decide, by decide⟩ (Nat.le_of_ble_eq_true rfl) dS_search_1 (fun r_c w_c hp => ?_)
  obtain ⟨rfl, rfl⟩ := hp
  refine J_norm C (st' := []) (ws' := [((h), .inr (2, [.int (nI (m)), .ref (e1), .ref (e2), .ref (e3), .ref (e4), .ref (e5), .int (nI (qd))])), kI E (e4) (ln) (lf), kI E (e5) (ln) (qu), kI E (e1) (12) (nd)]) (cs' := 0) (ss' := 0) rfl (rfl) rfl rfl ?_
  refine J_pick C (ws' := [((h), .inr (2, [.int (nI (m)), .ref (e1), .ref (e2), .ref (e3), .ref (e4), .ref (e5), .int (nI (qd))])), kI E (e1) (12) (nd), kI E (e4) (ln) (lf), kI E (e5) (ln) (qu)]) [0, 3, 1, 2] (by decide) rfl ?_
  have hl1a := hml
  have hl1ua := hln
  refine J_aload_n C 0 dS_search_4 rfl rfl ?_
  refine J_callV C (rest := []) [] [((h), .inr (2, [.int (nI (m)), .ref (e1), .ref (e2), .ref (e3), .ref (e4), .ref (e5), .int (nI (qd))])), kI E (e1) (12) (nd)] [kI E (e4) (ln) (lf), kI E (e5) (ln) (qu)] 0 (c_S_wanted E l h m e1 e2 e3 e4 e5 qd nd (by assumption)) mmS_wantedSteps msS_wantedSteps lkS_64 rfl rfl (rfl) rfl rfl ⟨by decide, by decide⟩ ⟨by decide, by decide⟩ (Nat.le_of_ble_eq_true rfl) dS_search_5 (fun r_c w_c hp => ?_)
  obtain ⟨rfl, rfl⟩ := hp
  refine J_norm C (st' := [.int (nI (mW m nd))]) (ws' := [((h), .inr (2, [.int (nI (m)), .ref (e1), .ref (e2), .ref (e3), .ref (e4), .ref (e5), .int (nI (qd))])), kI E (e1) (12) (nd), kI E (e4) (ln) (lf), kI E (e5) (ln) (qu)]) (cs' := 0) (ss' := 0) rfl (rfl) rfl rfl ?_
  refine J_istore_n C (lv' := [(0, .ref (h)), (1, .int (nI (b))), (2, .int (nI (mW m nd)))]) [1, 2, 0] dS_search_8 rfl (by decide) rfl ?_
  refine J_aload_n C 0 dS_search_9 rfl rfl ?_
  refine J_iload_n C 2 dS_search_10 rfl rfl ?_
  refine J_iload_n C 1 dS_search_11 rfl rfl ?_
  refine J_callV C (rest := []) [] [((h), .inr (2, [.int (nI (m)), .ref (e1), .ref (e2), .ref (e3), .ref (e4), .ref (e5), .int (nI (qd))])), kI E (e1) (12) (nd), kI E (e4) (ln) (lf), kI E (e5) (ln) (qu)] [] 0 (c_S_goal E l h m e1 e2 e3 e4 e5 qd nd ln lf qu b (by assumption) (hl1ua) (hl1a) (by omega) (by omega)) mmS_spreadFromGoal msS_spreadFromGoal lkS_76 rfl rfl (rfl) rfl rfl ⟨by decide, by decide⟩ ⟨by decide, by decide⟩ (Nat.le_of_ble_eq_true rfl) dS_search_12 (fun r_c w_c hp => ?_)
  obtain ⟨n1b, f1b, u1b, rfl, hX1b, rfl⟩ := hp
  refine J_norm C (st' := []) (ws' := [((h), .inr (2, [.int (nI (m)), .ref (e1), .ref (e2), .ref (e3), .ref (e4), .ref (e5), .int (nI (n1b))])), kI E (e1) (12) (nd), kI E (e4) (ln) (f1b), kI E (e5) (ln) (u1b)]) (cs' := 0) (ss' := 0) rfl (rfl) rfl rfl ?_
  refine J_aload_n C 0 dS_search_15 rfl rfl ?_
  refine J_get C 0 4 hinS rfl rfl (by decide) fkS_32 rfl dS_search_16 ?_
  refine J_iconst C (v := nI (0)) dS_search_19 (by decide) ?_
  refine J_iald C 2 rfl (by omega) (by omega) dS_search_20 ?_
  refine J_if_ne C 29 (nI_toInt (n := f1b 0) (by have := hX1b.1 0 hpm; omega)) dS_search_21 (by decide) (fun h21 => ?_) (fun h21 => ?_)
  · have hz := bX_no hX1b hno
    exact absurd h21 (fun q => q (by omega))
  · refine J_aload_n C 0 dS_search_24 rfl rfl ?_
    refine J_get C 0 3 hinS rfl rfl (by decide) fkS_28 rfl dS_search_25 ?_
    exact hret _ _ _ _ _ _ dS_search_28 (by decide) (by decide) (⟨_, _, _, _, _, _, rfl, hl1ua, hl1a, rfl⟩)
set_option maxHeartbeats 4000000 in
set_option maxRecDepth 100000 in
theorem c_S_search_p0 (E : jE) (l : Launch) (h : Nat) (m : Nat) (e1 : Nat) (e2 : Nat) (e3 : Nat) (e4 : Nat) (e5 : Nat) (qd : Nat) (nd : Nat → Nat) (ln : Nat) (lf : Nat → Nat) (qu : Nat → Nat) (b : Nat) (ps : List Nat) (hg : mG m nd) (hln : ln ≤ 4096) (hb1 : 1 ≤ b) (hb : b ≤ m) (hml : 2 ^ m ≤ ln) (hsp : mSP m nd b ps) : Con E l yS_search bS_search 7 (some (.object "ReversibleParts$Moves")) { frames := 3, cells := 2, slots := 4097, locals := 73 } [.ref (h), .int (nI (b))] [((h), .inr (2, [.int (nI (m)), .ref (e1), .ref (e2), .ref (e3), .ref (e4), .ref (e5), .int (nI (qd))])), kI E (e1) (12) (nd), kI E (e4) (ln) (lf), kI E (e5) (ln) (qu)] (fun r w => ∃ (e41 e51 l1 n1 : Nat) (f1 u1 : Nat → Nat) (q1 r1 : Nat) (t1 : Nat → Nat), r = some (.ref q1) ∧ l1 ≤ 4096 ∧ 2 ^ m ≤ l1 ∧ ps.length ≤ 4096 ∧ gL t1 ps ∧ w = [((h), .inr (2, [.int (nI (m)), .ref (e1), .ref (e2), .ref (e3), .ref (e41), .ref (e51), .int (nI (n1))])), kI E (e1) (12) (nd), kI E (e41) (l1) (f1), kI E (e51) (l1) (u1), ((q1), .inr (1, [.ref (r1)])), kI E (r1) (ps.length) (t1)]) := by
  refine Con.ofA (by decide) (Nat.le_of_ble_eq_true rfl) ?_
  intro J C hret
  show J 0 [(0, .ref (h)), (1, .int (nI (b)))] [] [((h), .inr (2, [.int (nI (m)), .ref (e1), .ref (e2), .ref (e3), .ref (e4), .ref (e5), .int (nI (qd))])), kI E (e1) (12) (nd), kI E (e4) (ln) (lf), kI E (e5) (ln) (qu)] 0 0
  have hm1 := hg.1
  have hm12 := hg.2.1
  have hp12 := p4096 hm12
  have hpm := Nat.two_pow_pos m
  have hpg : 2 ^ (m - 1) < 2 ^ m := Nat.pow_lt_pow_right (by omega) (by omega)
  refine J_aload_n C 0 dS_search_0 rfl rfl ?_
  refine J_pick C (ws' := [((h), .inr (2, [.int (nI (m)), .ref (e1), .ref (e2), .ref (e3), .ref (e4), .ref (e5), .int (nI (qd))])), kI E (e4) (ln) (lf), kI E (e5) (ln) (qu), kI E (e1) (12) (nd)]) [0, 2, 3, 1] (by decide) rfl ?_
  refine J_callV C (rest := []) [] [((h), .inr (2, [.int (nI (m)), .ref (e1), .ref (e2), .ref (e3), .ref (e4), .ref (e5), .int (nI (qd))])), kI E (e4) (ln) (lf), kI E (e5) (ln) (qu)] [kI E (e1) (12) (nd)] 0 (c_S_makeRoom0 E l h m e1 e2 e3 e4 e5 qd ln lf qu (by omega) (by omega) (by omega)) mmS_makeRoom msS_makeRoom lkS_73 rfl rfl (rfl) rfl rfl ⟨by decide, by decide⟩ ⟨by decide, by decide⟩ (Nat.le_of_ble_eq_true rfl) dS_search_1 (fun r_c w_c hp => ?_)
  obtain ⟨rfl, rfl⟩ := hp
  refine J_norm C (st' := []) (ws' := [((h), .inr (2, [.int (nI (m)), .ref (e1), .ref (e2), .ref (e3), .ref (e4), .ref (e5), .int (nI (qd))])), kI E (e4) (ln) (lf), kI E (e5) (ln) (qu), kI E (e1) (12) (nd)]) (cs' := 0) (ss' := 0) rfl (rfl) rfl rfl ?_
  refine J_pick C (ws' := [((h), .inr (2, [.int (nI (m)), .ref (e1), .ref (e2), .ref (e3), .ref (e4), .ref (e5), .int (nI (qd))])), kI E (e1) (12) (nd), kI E (e4) (ln) (lf), kI E (e5) (ln) (qu)]) [0, 3, 1, 2] (by decide) rfl ?_
  have hl1a := hml
  have hl1ua := hln
  refine J_aload_n C 0 dS_search_4 rfl rfl ?_
  refine J_callV C (rest := []) [] [((h), .inr (2, [.int (nI (m)), .ref (e1), .ref (e2), .ref (e3), .ref (e4), .ref (e5), .int (nI (qd))])), kI E (e1) (12) (nd)] [kI E (e4) (ln) (lf), kI E (e5) (ln) (qu)] 0 (c_S_wanted E l h m e1 e2 e3 e4 e5 qd nd (by assumption)) mmS_wantedSteps msS_wantedSteps lkS_64 rfl rfl (rfl) rfl rfl ⟨by decide, by decide⟩ ⟨by decide, by decide⟩ (Nat.le_of_ble_eq_true rfl) dS_search_5 (fun r_c w_c hp => ?_)
  obtain ⟨rfl, rfl⟩ := hp
  refine J_norm C (st' := [.int (nI (mW m nd))]) (ws' := [((h), .inr (2, [.int (nI (m)), .ref (e1), .ref (e2), .ref (e3), .ref (e4), .ref (e5), .int (nI (qd))])), kI E (e1) (12) (nd), kI E (e4) (ln) (lf), kI E (e5) (ln) (qu)]) (cs' := 0) (ss' := 0) rfl (rfl) rfl rfl ?_
  refine J_istore_n C (lv' := [(0, .ref (h)), (1, .int (nI (b))), (2, .int (nI (mW m nd)))]) [1, 2, 0] dS_search_8 rfl (by decide) rfl ?_
  refine J_aload_n C 0 dS_search_9 rfl rfl ?_
  refine J_iload_n C 2 dS_search_10 rfl rfl ?_
  refine J_iload_n C 1 dS_search_11 rfl rfl ?_
  refine J_callV C (rest := []) [] [((h), .inr (2, [.int (nI (m)), .ref (e1), .ref (e2), .ref (e3), .ref (e4), .ref (e5), .int (nI (qd))])), kI E (e1) (12) (nd), kI E (e4) (ln) (lf), kI E (e5) (ln) (qu)] [] 0 (c_S_goal E l h m e1 e2 e3 e4 e5 qd nd ln lf qu b (by assumption) (hl1ua) (hl1a) (by omega) (by omega)) mmS_spreadFromGoal msS_spreadFromGoal lkS_76 rfl rfl (rfl) rfl rfl ⟨by decide, by decide⟩ ⟨by decide, by decide⟩ (Nat.le_of_ble_eq_true rfl) dS_search_12 (fun r_c w_c hp => ?_)
  obtain ⟨n1b, f1b, u1b, rfl, hX1b, rfl⟩ := hp
  refine J_norm C (st' := []) (ws' := [((h), .inr (2, [.int (nI (m)), .ref (e1), .ref (e2), .ref (e3), .ref (e4), .ref (e5), .int (nI (n1b))])), kI E (e1) (12) (nd), kI E (e4) (ln) (f1b), kI E (e5) (ln) (u1b)]) (cs' := 0) (ss' := 0) rfl (rfl) rfl rfl ?_
  refine J_aload_n C 0 dS_search_15 rfl rfl ?_
  refine J_get C 0 4 hinS rfl rfl (by decide) fkS_32 rfl dS_search_16 ?_
  refine J_iconst C (v := nI (0)) dS_search_19 (by decide) ?_
  refine J_iald C 2 rfl (by omega) (by omega) dS_search_20 ?_
  refine J_if_ne C 29 (nI_toInt (n := f1b 0) (by have := hX1b.1 0 hpm; omega)) dS_search_21 (by decide) (fun h21 => ?_) (fun h21 => ?_)
  · obtain ⟨k0, n0, Q0, hE⟩ := bX_yes hX1b hsp
    have hE0 := hE.2
    refine J_new C (ci := 1) (fs := [.null]) tyV hinV tyokV ckS_19 inV itV rfl (by decide +kernel) (by decide) (by decide) dS_search_29 (fun qa => ?_)
    refine J_dup C dS_search_32 rfl ?_
    refine J_aload_n C 0 dS_search_33 rfl rfl ?_
    refine J_get C 0 4 hinS rfl rfl (by decide) fkS_32 rfl dS_search_34 ?_
    refine J_iconst C (v := nI (0)) dS_search_37 (by decide) ?_
    refine J_iald C 2 rfl (by omega) (by omega) dS_search_38 ?_
    refine J_iconst C (v := nI (1)) dS_search_39 (by decide) ?_
    refine J_isubN C dS_search_40 (by omega) ?_
    refine J_pick C (ws' := [((qa), .inr (1, [.null])), ((h), .inr (2, [.int (nI (m)), .ref (e1), .ref (e2), .ref (e3), .ref (e4), .ref (e5), .int (nI (n1b))])), kI E (e1) (12) (nd), kI E (e4) (ln) (f1b), kI E (e5) (ln) (u1b)]) [4, 0, 1, 2, 3] (by decide) rfl ?_
    refine J_callI C (rest := [.ref (qa)]) [] [((qa), .inr (1, [.null]))] [((h), .inr (2, [.int (nI (m)), .ref (e1), .ref (e2), .ref (e3), .ref (e4), .ref (e5), .int (nI (n1b))])), kI E (e1) (12) (nd), kI E (e4) (ln) (f1b), kI E (e5) (ln) (u1b)] (c_V_init E l qa ((f1b 0) - 1) (by have := hX1b.1 0 hpm; omega)) mmV_init rfl lkS_25 (rfl) rfl rfl ⟨by decide, by decide⟩ ⟨by decide, by decide⟩ (Nat.le_of_ble_eq_true rfl) dS_search_41 (fun r_c w_c hp => ?_)
    obtain ⟨ra, rfl, rfl⟩ := hp
    refine J_norm C (st' := [.ref (qa)]) (ws' := [((qa), .inr (1, [.ref (ra)])), kI E (ra) (((f1b 0) - 1)) (fun _ => 0), ((h), .inr (2, [.int (nI (m)), .ref (e1), .ref (e2), .ref (e3), .ref (e4), .ref (e5), .int (nI (n1b))])), kI E (e1) (12) (nd), kI E (e4) (ln) (f1b), kI E (e5) (ln) (u1b)]) (cs' := 2) (ss' := 4097) rfl (rfl) rfl rfl ?_
    refine J_pick C (ws' := [((h), .inr (2, [.int (nI (m)), .ref (e1), .ref (e2), .ref (e3), .ref (e4), .ref (e5), .int (nI (n1b))])), kI E (e1) (12) (nd), kI E (e4) (ln) (f1b), kI E (e5) (ln) (u1b), ((qa), .inr (1, [.ref (ra)])), kI E (ra) (((f1b 0) - 1)) (fun _ => 0)]) [2, 3, 4, 5, 0, 1] (by decide) rfl ?_
    refine J_astore_n C (lv' := [(0, .ref (h)), (1, .int (nI (b))), (2, .int (nI (mW m nd))), (3, .ref (qa))]) [1, 2, 3, 0] dS_search_44 rfl (by decide) rfl ?_
    refine J_iconst C (v := nI (0)) dS_search_45 (by decide) ?_
    refine J_istore C (lv' := [(0, .ref (h)), (1, .int (nI (b))), (2, .int (nI (mW m nd))), (3, .ref (qa)), (4, .int (nI (0)))]) [1, 2, 3, 4, 0] dS_search_46 (by decide) rfl ?_
    refine J_iconst C (v := nI (0)) dS_search_48 (by decide) ?_
    refine J_istore C (lv' := [(0, .ref (h)), (1, .int (nI (b))), (2, .int (nI (mW m nd))), (3, .ref (qa)), (4, .int (nI (0))), (5, .int (nI (0)))]) [1, 2, 3, 4, 5, 0] dS_search_49 (by decide) rfl ?_
    have lp_51 : ∀ (k_51 : Nat) (i : Nat) (t : Nat → Nat), (i ≤ f1b 0 - 1) → (∀ j, j < i → gst m nd f1b (runT t j) (t j)) → (f1b 0 - 1 - i) < k_51 → J 51 [(0, .ref (h)), (1, .int (nI (b))), (2, .int (nI (mW m nd))), (3, .ref (qa)), (4, .int (nI (runT t i))), (5, .int (nI (i)))] [] [((h), .inr (2, [.int (nI (m)), .ref (e1), .ref (e2), .ref (e3), .ref (e4), .ref (e5), .int (nI (n1b))])), kI E (e1) (12) (nd), kI E (e4) (ln) (f1b), kI E (e5) (ln) (u1b), ((qa), .inr (1, [.ref (ra)])), kI E (ra) (f1b 0 - 1) (t)] (2) (4097) := by
      intro k_51
      induction k_51 with
      | zero => intro i t hi hst hk_51; exact absurd hk_51 (Nat.not_lt_zero _)
      | succ k_51 ih_51 =>
        intro i t hi hst hk_51
        have gst_le := gst_list' (n := f1b 0 - 1) (show f1b 0 = (f1b 0 - 1) + 1 by omega) hst
        refine J_iload C 5 dS_search_51 rfl ?_
        refine J_aload_n C 3 dS_search_53 rfl rfl ?_
        refine J_pick C (ws' := [((qa), .inr (1, [.ref (ra)])), kI E (ra) (f1b 0 - 1) (t), ((h), .inr (2, [.int (nI (m)), .ref (e1), .ref (e2), .ref (e3), .ref (e4), .ref (e5), .int (nI (n1b))])), kI E (e1) (12) (nd), kI E (e4) (ln) (f1b), kI E (e5) (ln) (u1b)]) [4, 5, 0, 1, 2, 3] (by decide) rfl ?_
        refine J_callV C (rest := [.int (nI (i))]) [] [((qa), .inr (1, [.ref (ra)])), kI E (ra) (f1b 0 - 1) (t)] [((h), .inr (2, [.int (nI (m)), .ref (e1), .ref (e2), .ref (e3), .ref (e4), .ref (e5), .int (nI (n1b))])), kI E (e1) (12) (nd), kI E (e4) (ln) (f1b), kI E (e5) (ln) (u1b)] 0 (c_V_length E l qa ra (f1b 0 - 1) t) mmV_length msV_length lkS_49 rfl rfl (rfl) rfl rfl ⟨by decide, by decide⟩ ⟨by decide, by decide⟩ (Nat.le_of_ble_eq_true rfl) dS_search_54 (fun r_c w_c hp => ?_)
        obtain ⟨rfl, rfl⟩ := hp
        refine J_norm C (st' := [.int (nI ((f1b 0 - 1))), .int (nI (i))]) (ws' := [((qa), .inr (1, [.ref (ra)])), kI E (ra) ((f1b 0 - 1)) (t), ((h), .inr (2, [.int (nI (m)), .ref (e1), .ref (e2), .ref (e3), .ref (e4), .ref (e5), .int (nI (n1b))])), kI E (e1) (12) (nd), kI E (e4) (ln) (f1b), kI E (e5) (ln) (u1b)]) (cs' := 2) (ss' := 4097) rfl (rfl) rfl rfl ?_
        refine J_pick C (ws' := [((h), .inr (2, [.int (nI (m)), .ref (e1), .ref (e2), .ref (e3), .ref (e4), .ref (e5), .int (nI (n1b))])), kI E (e1) (12) (nd), kI E (e4) (ln) (f1b), kI E (e5) (ln) (u1b), ((qa), .inr (1, [.ref (ra)])), kI E (ra) ((f1b 0 - 1)) (t)]) [2, 3, 4, 5, 0, 1] (by decide) rfl ?_
        refine J_icmp_ge C 91 (nI_toInt (n := i) (by have := hX1b.1 0 hpm; omega)) (nI_toInt (n := (f1b 0 - 1)) (by have := hX1b.1 0 hpm; omega)) dS_search_57 (by decide) (fun h57 => ?_) (fun h57 => ?_)
        · obtain rfl : f1b 0 - 1 = i := by omega
          refine J_aload_n C 3 dS_search_91 rfl rfl ?_
          have eps := mSP_one hg (rowL_mSP hg hE (show f1b 0 = (f1b 0 - 1) + 1 by omega) hst) hsp
          have el : f1b 0 - 1 = ps.length := by rw [← eps, rowL_len]
          have hgl : gL t ps := by rw [← eps]; exact rowL_gL t _
          have hpl : ps.length ≤ 4096 := by have := hX1b.1 0 hpm; omega
          rw [el]
          exact hret _ _ _ _ _ _ dS_search_92 (by decide) (by decide) (⟨_, _, _, _, _, _, qa, ra, t, rfl, hl1ua, hl1a, hpl, hgl, rfl⟩)
        · refine J_aload_n C 0 dS_search_60 rfl rfl ?_
          refine J_iload C 4 dS_search_61 rfl ?_
          refine J_callV C (rest := []) [] [((h), .inr (2, [.int (nI (m)), .ref (e1), .ref (e2), .ref (e3), .ref (e4), .ref (e5), .int (nI (n1b))])), kI E (e1) (12) (nd), kI E (e4) (ln) (f1b)] [kI E (e5) (ln) (u1b), ((qa), .inr (1, [.ref (ra)])), kI E (ra) ((f1b 0 - 1)) (t)] 0 (c_S_nearer E l h m e1 e2 e3 e4 e5 n1b nd ln f1b b k0 n0 Q0 (runT t i) (by assumption) (hl1ua) (hl1a) (hE) (hX1b.1) (gst_lt hst i (by omega)) (by have := gst_le; omega) (by omega)) mmS_firstStepNearer msS_firstStepNearer lkS_80 rfl rfl (rfl) rfl rfl ⟨by decide, by decide⟩ ⟨by decide, by decide⟩ (Nat.le_of_ble_eq_true rfl) dS_search_63 (fun r_c w_c hp => ?_)
          obtain ⟨p1, rfl, hgs1, rfl⟩ := hp
          refine J_norm C (st' := [.int (nI (p1))]) (ws' := [((h), .inr (2, [.int (nI (m)), .ref (e1), .ref (e2), .ref (e3), .ref (e4), .ref (e5), .int (nI (n1b))])), kI E (e1) (12) (nd), kI E (e4) (ln) (f1b), kI E (e5) (ln) (u1b), ((qa), .inr (1, [.ref (ra)])), kI E (ra) ((f1b 0 - 1)) (t)]) (cs' := 2) (ss' := 4097) rfl (rfl) rfl rfl ?_
          refine J_istore C (lv' := [(0, .ref (h)), (1, .int (nI (b))), (2, .int (nI (mW m nd))), (3, .ref (qa)), (4, .int (nI (runT t i))), (5, .int (nI (i))), (6, .int (nI (p1)))]) [1, 2, 3, 4, 5, 6, 0] dS_search_66 (by decide) rfl ?_
          refine J_aload_n C 3 dS_search_68 rfl rfl ?_
          refine J_iload C 5 dS_search_69 rfl ?_
          refine J_iload C 6 dS_search_71 rfl ?_
          refine J_pick C (ws' := [((qa), .inr (1, [.ref (ra)])), kI E (ra) ((f1b 0 - 1)) (t), ((h), .inr (2, [.int (nI (m)), .ref (e1), .ref (e2), .ref (e3), .ref (e4), .ref (e5), .int (nI (n1b))])), kI E (e1) (12) (nd), kI E (e4) (ln) (f1b), kI E (e5) (ln) (u1b)]) [4, 5, 0, 1, 2, 3] (by decide) rfl ?_
          refine J_callV C (rest := []) [] [((qa), .inr (1, [.ref (ra)])), kI E (ra) ((f1b 0 - 1)) (t)] [((h), .inr (2, [.int (nI (m)), .ref (e1), .ref (e2), .ref (e3), .ref (e4), .ref (e5), .int (nI (n1b))])), kI E (e1) (12) (nd), kI E (e4) (ln) (f1b), kI E (e5) (ln) (u1b)] 0 (c_V_set E l qa ra (f1b 0 - 1) t i p1 (by have := hX1b.1 0 hpm; omega) (by omega)) mmV_set msV_set lkS_83 rfl rfl (rfl) rfl rfl ⟨by decide, by decide⟩ ⟨by decide, by decide⟩ (Nat.le_of_ble_eq_true rfl) dS_search_73 (fun r_c w_c hp => ?_)
          obtain ⟨rfl, rfl⟩ := hp
          refine J_norm C (st' := []) (ws' := [((qa), .inr (1, [.ref (ra)])), kI E (ra) ((f1b 0 - 1)) (upN t i p1), ((h), .inr (2, [.int (nI (m)), .ref (e1), .ref (e2), .ref (e3), .ref (e4), .ref (e5), .int (nI (n1b))])), kI E (e1) (12) (nd), kI E (e4) (ln) (f1b), kI E (e5) (ln) (u1b)]) (cs' := 2) (ss' := 4097) rfl (rfl) rfl rfl ?_
          refine J_pick C (ws' := [((h), .inr (2, [.int (nI (m)), .ref (e1), .ref (e2), .ref (e3), .ref (e4), .ref (e5), .int (nI (n1b))])), kI E (e1) (12) (nd), kI E (e4) (ln) (f1b), kI E (e5) (ln) (u1b), ((qa), .inr (1, [.ref (ra)])), kI E (ra) ((f1b 0 - 1)) (upN t i p1)]) [2, 3, 4, 5, 0, 1] (by decide) rfl ?_
          refine J_iload C 4 dS_search_76 rfl ?_
          refine J_iconst C (v := nI (1)) dS_search_78 (by decide) ?_
          refine J_iload C 6 dS_search_79 rfl ?_
          refine J_ishl1 C dS_search_81 (by have := hgs1.1; omega) ?_
          refine J_ixorN C dS_search_82 ?_
          refine J_istore C (lv' := [(0, .ref (h)), (1, .int (nI (b))), (2, .int (nI (mW m nd))), (3, .ref (qa)), (4, .int (nI ((runT t i) ^^^ (2 ^ p1)))), (5, .int (nI (i))), (6, .int (nI (p1)))]) [1, 2, 3, 4, 0, 5, 6] dS_search_83 (by decide) rfl ?_
          refine J_iinc C (lv' := [(0, .ref (h)), (1, .int (nI (b))), (2, .int (nI (mW m nd))), (3, .ref (qa)), (4, .int (nI ((runT t i) ^^^ (2 ^ p1)))), (5, .int (nI (i + 1))), (6, .int (nI (p1)))]) 5 [1, 2, 3, 4, 5, 0, 6] dS_search_85 rfl (jn_inc _) (by decide) rfl ?_
          refine J_goto C 51 dS_search_88 (by decide) ?_
          rw [runT_s (t := t) (i := i) (p := p1)]
          refine J_lv C (lv' := [(0, .ref (h)), (1, .int (nI (b))), (2, .int (nI (mW m nd))), (3, .ref (qa)), (4, .int (nI (runT (upN t i p1) (i + 1)))), (5, .int (nI (i + 1)))]) [0, 1, 2, 3, 4, 5] rfl ?_
          exact ih_51 (i + 1) (upN t i p1) (by omega) (gst_s hst hgs1) (by omega)
    exact lp_51 (f1b 0) 0 (fun _ => 0) (by omega) (fun j q => by omega) (by omega)
  · obtain ⟨k0, n0, Q0, hE⟩ := bX_yes hX1b hsp
    exact absurd h21 (fun q => hE.2 (by omega))
