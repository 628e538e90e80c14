set_option maxHeartbeats 4000000 in
set_option maxRecDepth 100000 in
theorem c_M_findCosts (E : jE) (l : Launch) (h : Nat) (n : Nat) (st : Nat) (mn : Nat) (m1 : Nat) (m2 : Nat) (m3 : Nat) (m4 : Nat) (m5 : Nat) (m6 : Nat) (m7 : Nat) (m8 : Nat) (m9 : Nat) (ma : Nat) (mb : Nat) (kn : Nat → Nat) (d : Nat → Nat) (fo : Nat → Nat) (hn1 : 1 ≤ n) (hn4 : n ≤ 4) (hk1 : ∀ j, kn j ≤ 1) (hC : mC kn d fo) : Con E l yM_findCosts bM_findCosts 6 none { frames := 2, cells := 0, slots := 0, locals := 47 } [.ref (h)] [((h), .inr (5, [.int (nI (0)), .int (nI (n)), .ref (m1), .int (nI (st)), .ref (m2), .ref (m3), .ref (m4), .int (nI (mn)), .ref (m5), .ref (m6), .ref (m7), .ref (m8), .ref (m9), .ref (ma), .ref (mb)])), kB E (m5) (5) (kn), kM E (m6) (65812) (d), kI E (m7) (120) (fo)] (fun r w => ∃ kn' d' fo' : Nat → Nat, r = none ∧ (∀ j, kn' j ≤ 1) ∧ mC kn' d' fo' ∧ kn' n ≠ 0 ∧ w = [((h), .inr (5, [.int (nI (0)), .int (nI (n)), .ref (m1), .int (nI (st)), .ref (m2), .ref (m3), .ref (m4), .int (nI (mn)), .ref (m5), .ref (m6), .ref (m7), .ref (m8), .ref (m9), .ref (ma), .ref (mb)])), kB E (m5) (5) (kn'), kM E (m6) (65812) (d'), kI E (m7) (120) (fo')]) := by
  refine Con.ofV (by decide) (Nat.le_of_ble_eq_true rfl) ?_
  intro J C hret
  show J 0 [(0, .ref (h))] [] [((h), .inr (5, [.int (nI (0)), .int (nI (n)), .ref (m1), .int (nI (st)), .ref (m2), .ref (m3), .ref (m4), .int (nI (mn)), .ref (m5), .ref (m6), .ref (m7), .ref (m8), .ref (m9), .ref (ma), .ref (mb)])), kB E (m5) (5) (kn), kM E (m6) (65812) (d), kI E (m7) (120) (fo)] 0 0
  have hp16 := p16 hn4
  have hp1 := p1 n
  have hF := p65 hn4
  have hF0 := p1 (2 ^ n)
  have h81 := p81 hn4
  have hc := coff_fit hn1 hn4
  have hq := poff_fit hn1 hn4
  have h30 := p3_pos n
  refine J_aload_n C 0 dM_findCosts_0 rfl rfl ?_
  refine J_get C 0 8 hinM rfl rfl (by decide) fkM_22 rfl dM_findCosts_1 ?_
  refine J_aload_n C 0 dM_findCosts_4 rfl rfl ?_
  refine J_get C 0 1 hinM rfl rfl (by decide) fkM_56 rfl dM_findCosts_5 ?_
  refine J_zald C 1 rfl (by omega) (by omega) dM_findCosts_8 ?_
  refine J_if_eq C 13 (nI_toInt (n := kn n) (by have := hk1 n; omega)) dM_findCosts_9 (by decide) (fun h9 => ?_) (fun h9 => ?_)
  · refine J_aload_n C 0 dM_findCosts_13 rfl rfl ?_
    refine J_get C 0 8 hinM rfl rfl (by decide) fkM_22 rfl dM_findCosts_14 ?_
    refine J_aload_n C 0 dM_findCosts_17 rfl rfl ?_
    refine J_get C 0 1 hinM rfl rfl (by decide) fkM_56 rfl dM_findCosts_18 ?_
    refine J_iconst C (v := nI (1)) dM_findCosts_21 (by decide) ?_
    refine J_zastN C (ws' := [((h), .inr (5, [.int (nI (0)), .int (nI (n)), .ref (m1), .int (nI (st)), .ref (m2), .ref (m3), .ref (m4), .int (nI (mn)), .ref (m5), .ref (m6), .ref (m7), .ref (m8), .ref (m9), .ref (ma), .ref (mb)])), kB E (m5) (5) (upN kn n 1), kM E (m6) (65812) (d), kI E (m7) (120) (fo)]) 1 rfl (by omega) (by omega) dM_findCosts_22 (by decide) rfl ?_
    refine J_iconst C (v := nI (0)) dM_findCosts_23 (by decide) ?_
    refine J_istore_n C (lv' := [(0, .ref (h)), (1, .int (nI (0)))]) [1, 0] dM_findCosts_24 rfl (by decide) rfl ?_
    have lp_25 : ∀ (k_25 : Nat) (p : Nat) (fo1 : Nat → Nat), (p ≤ 3 ^ n) → (mF n p fo1 fo) → (3 ^ n - p) < k_25 → J 25 [(0, .ref (h)), (1, .int (nI (p)))] [] [((h), .inr (5, [.int (nI (0)), .int (nI (n)), .ref (m1), .int (nI (st)), .ref (m2), .ref (m3), .ref (m4), .int (nI (mn)), .ref (m5), .ref (m6), .ref (m7), .ref (m8), .ref (m9), .ref (ma), .ref (mb)])), kB E (m5) (5) (upN kn n 1), kM E (m6) (65812) (d), kI E (m7) (120) (fo1)] (0) (0) := by
      intro k_25
      induction k_25 with
      | zero => intro p fo1 hp hf1 hk_25; exact absurd hk_25 (Nat.not_lt_zero _)
      | succ k_25 ih_25 =>
        intro p fo1 hp hf1 hk_25
        refine J_iload_n C 1 dM_findCosts_25 rfl rfl ?_
        refine J_aload_n C 0 dM_findCosts_26 rfl rfl ?_
        refine J_callV C (rest := [.int (nI (p))]) [] [((h), .inr (5, [.int (nI (0)), .int (nI (n)), .ref (m1), .int (nI (st)), .ref (m2), .ref (m3), .ref (m4), .int (nI (mn)), .ref (m5), .ref (m6), .ref (m7), .ref (m8), .ref (m9), .ref (ma), .ref (mb)]))] [kB E (m5) (5) (upN kn n 1), kM E (m6) (65812) (d), kI E (m7) (120) (fo1)] 0 (c_M_products E l h n st mn m1 m2 m3 m4 m5 m6 m7 m8 m9 ma mb (by omega) (by omega)) mmM_products msM_products lkM_85 rfl rfl (rfl) rfl rfl ⟨by decide, by decide⟩ ⟨by decide, by decide⟩ (Nat.le_of_ble_eq_true rfl) dM_findCosts_27 (fun r_c w_c hp => ?_)
        obtain ⟨rfl, rfl⟩ := hp
        refine J_norm C (st' := [.int (nI (3 ^ n)), .int (nI (p))]) (ws' := [((h), .inr (5, [.int (nI (0)), .int (nI (n)), .ref (m1), .int (nI (st)), .ref (m2), .ref (m3), .ref (m4), .int (nI (mn)), .ref (m5), .ref (m6), .ref (m7), .ref (m8), .ref (m9), .ref (ma), .ref (mb)])), kB E (m5) (5) (upN kn n 1), kM E (m6) (65812) (d), kI E (m7) (120) (fo1)]) (cs' := 0) (ss' := 0) rfl (rfl) rfl rfl ?_
        refine J_icmp_ge C 54 (nI_toInt (n := p) (by omega)) (nI_toInt (n := 3 ^ n) (by omega)) dM_findCosts_30 (by decide) (fun h30 => ?_) (fun h30 => ?_)
        · obtain rfl : 3 ^ n = p := by omega
          refine J_iconst C (v := nI (0)) dM_findCosts_54 (by decide) ?_
          refine J_istore_n C (lv' := [(0, .ref (h)), (1, .int (nI (0)))]) [1, 0] dM_findCosts_55 rfl (by decide) rfl ?_
          have lp_56 : ∀ (k_56 : Nat) (f : Nat) (d1 : Nat → Nat), (f ≤ 2 ^ 2 ^ n) → (mZ n f d1 d) → (2 ^ 2 ^ n - f) < k_56 → J 56 [(0, .ref (h)), (1, .int (nI (f)))] [] [((h), .inr (5, [.int (nI (0)), .int (nI (n)), .ref (m1), .int (nI (st)), .ref (m2), .ref (m3), .ref (m4), .int (nI (mn)), .ref (m5), .ref (m6), .ref (m7), .ref (m8), .ref (m9), .ref (ma), .ref (mb)])), kB E (m5) (5) (upN kn n 1), kM E (m6) (65812) (d1), kI E (m7) (120) (fo1)] (0) (0) := by
            intro k_56
            induction k_56 with
            | zero => intro f d1 hf hd1 hk_56; exact absurd hk_56 (Nat.not_lt_zero _)
            | succ k_56 ih_56 =>
              intro f d1 hf hd1 hk_56
              refine J_iload_n C 1 dM_findCosts_56 rfl rfl ?_
              refine J_aload_n C 0 dM_findCosts_57 rfl rfl ?_
              refine J_callV C (rest := [.int (nI (f))]) [] [((h), .inr (5, [.int (nI (0)), .int (nI (n)), .ref (m1), .int (nI (st)), .ref (m2), .ref (m3), .ref (m4), .int (nI (mn)), .ref (m5), .ref (m6), .ref (m7), .ref (m8), .ref (m9), .ref (ma), .ref (mb)]))] [kB E (m5) (5) (upN kn n 1), kM E (m6) (65812) (d1), kI E (m7) (120) (fo1)] 0 (c_M_functions E l h n st mn m1 m2 m3 m4 m5 m6 m7 m8 m9 ma mb (by omega) (by omega)) mmM_functions msM_functions lkM_95 rfl rfl (rfl) rfl rfl ⟨by decide, by decide⟩ ⟨by decide, by decide⟩ (Nat.le_of_ble_eq_true rfl) dM_findCosts_58 (fun r_c w_c hp => ?_)
              obtain ⟨rfl, rfl⟩ := hp
              refine J_norm C (st' := [.int (nI (2 ^ 2 ^ n)), .int (nI (f))]) (ws' := [((h), .inr (5, [.int (nI (0)), .int (nI (n)), .ref (m1), .int (nI (st)), .ref (m2), .ref (m3), .ref (m4), .int (nI (mn)), .ref (m5), .ref (m6), .ref (m7), .ref (m8), .ref (m9), .ref (ma), .ref (mb)])), kB E (m5) (5) (upN kn n 1), kM E (m6) (65812) (d1), kI E (m7) (120) (fo1)]) (cs' := 0) (ss' := 0) rfl (rfl) rfl rfl ?_
              refine J_icmp_ge C 81 (nI_toInt (n := f) (by omega)) (nI_toInt (n := 2 ^ 2 ^ n) (by omega)) dM_findCosts_61 (by decide) (fun h61 => ?_) (fun h61 => ?_)
              · obtain rfl : 2 ^ 2 ^ n = f := by omega
                refine J_aload_n C 0 dM_findCosts_81 rfl rfl ?_
                refine J_get C 0 9 hinM rfl rfl (by decide) fkM_27 rfl dM_findCosts_82 ?_
                refine J_aload_n C 0 dM_findCosts_85 rfl rfl ?_
                refine J_iconst C (v := nI (0)) dM_findCosts_86 (by decide) ?_
                refine J_callV C (rest := [.ref (m6)]) [] [((h), .inr (5, [.int (nI (0)), .int (nI (n)), .ref (m1), .int (nI (st)), .ref (m2), .ref (m3), .ref (m4), .int (nI (mn)), .ref (m5), .ref (m6), .ref (m7), .ref (m8), .ref (m9), .ref (ma), .ref (mb)]))] [kB E (m5) (5) (upN kn n 1), kM E (m6) (65812) (d1), kI E (m7) (120) (fo1)] 0 (c_M_costAt E l h n st mn m1 m2 m3 m4 m5 m6 m7 m8 m9 ma mb 0 (by omega) (by omega)) mmM_costAt msM_costAt lkM_98 rfl rfl (rfl) rfl rfl ⟨by decide, by decide⟩ ⟨by decide, by decide⟩ (Nat.le_of_ble_eq_true rfl) dM_findCosts_87 (fun r_c w_c hp => ?_)
                obtain ⟨rfl, rfl⟩ := hp
                refine J_norm C (st' := [.int (nI (0 + coff n)), .ref (m6)]) (ws' := [((h), .inr (5, [.int (nI (0)), .int (nI (n)), .ref (m1), .int (nI (st)), .ref (m2), .ref (m3), .ref (m4), .int (nI (mn)), .ref (m5), .ref (m6), .ref (m7), .ref (m8), .ref (m9), .ref (ma), .ref (mb)])), kB E (m5) (5) (upN kn n 1), kM E (m6) (65812) (d1), kI E (m7) (120) (fo1)]) (cs' := 0) (ss' := 0) rfl (rfl) rfl rfl ?_
                refine J_iconst C (v := nI (0)) dM_findCosts_90 (by decide) ?_
                refine J_iastM C (ws' := [((h), .inr (5, [.int (nI (0)), .int (nI (n)), .ref (m1), .int (nI (st)), .ref (m2), .ref (m3), .ref (m4), .int (nI (mn)), .ref (m5), .ref (m6), .ref (m7), .ref (m8), .ref (m9), .ref (ma), .ref (mb)])), kB E (m5) (5) (upN kn n 1), kM E (m6) (65812) (upN d1 (0 + coff n) (0 + 1)), kI E (m7) (120) (fo1)]) 2 rfl (by omega) (by omega) ((mI_s 0).symm) dM_findCosts_91 rfl ?_
                refine J_iconst C (v := nI (1)) dM_findCosts_92 (by decide) ?_
                refine J_istore_n C (lv' := [(0, .ref (h)), (1, .int (nI (1)))]) [1, 0] dM_findCosts_93 rfl (by decide) rfl ?_
                refine J_iconst C (v := nI (0)) dM_findCosts_94 (by decide) ?_
                refine J_istore_n C (lv' := [(0, .ref (h)), (1, .int (nI (1))), (2, .int (nI (0)))]) [1, 2, 0] dM_findCosts_95 rfl (by decide) rfl ?_
                have lp_96 : ∀ (k_96 : Nat) (mo rr : Nat) (d3 : Nat → Nat), (cH n rr mo d3 d) → (8 - rr) < k_96 → J 96 [(0, .ref (h)), (1, .int (nI (mo))), (2, .int (nI (rr)))] [] [((h), .inr (5, [.int (nI (0)), .int (nI (n)), .ref (m1), .int (nI (st)), .ref (m2), .ref (m3), .ref (m4), .int (nI (mn)), .ref (m5), .ref (m6), .ref (m7), .ref (m8), .ref (m9), .ref (ma), .ref (mb)])), kB E (m5) (5) (upN kn n 1), kM E (m6) (65812) (d3), kI E (m7) (120) (fo1)] (0) (0) := by
                  intro k_96
                  induction k_96 with
                  | zero => intro mo rr d3 h3 hk_96; exact absurd hk_96 (Nat.not_lt_zero _)
                  | succ k_96 ih_96 =>
                    intro mo rr d3 h3 hk_96
                    refine J_iload_n C 1 dM_findCosts_96 rfl rfl ?_
                    refine J_if_eq C 204 (nI_toInt (n := mo) (by have := h3.1; omega)) dM_findCosts_97 (by decide) (fun h97 => ?_) (fun h97 => ?_)
                    · obtain rfl : 0 = mo := by omega
                      exact hret _ _ _ _ _ dM_findCosts_204 (by decide) (by decide) (⟨_, d3, fo1, rfl, fun j => by unfold upN; split; omega; exact hk1 j, mC_new hn1 hn4 hC (Or.inr ⟨rr, h3⟩) hf1, by rw [upN_s]; omega, rfl⟩)
                    · obtain ⟨hr6, hcb⟩ := h3.2.2.1 (by omega)
                      refine J_iconst C (v := nI (0)) dM_findCosts_100 (by decide) ?_
                      refine J_istore_n C (lv' := [(0, .ref (h)), (1, .int (nI (0))), (2, .int (nI (rr)))]) [1, 0, 2] dM_findCosts_101 rfl (by decide) rfl ?_
                      refine J_iconst C (v := nI (0)) dM_findCosts_102 (by decide) ?_
                      refine J_istore_n C (lv' := [(0, .ref (h)), (1, .int (nI (0))), (2, .int (nI (rr))), (3, .int (nI (0)))]) [1, 2, 3, 0] dM_findCosts_103 rfl (by decide) rfl ?_
                      have lp_104 : ∀ (k_104 : Nat) (f mo2 : Nat) (d4 : Nat → Nat), (f ≤ 2 ^ 2 ^ n) → (mo2 ≤ 1) → (cR n rr f 0 mo2 d4 d) → (2 ^ 2 ^ n - f) < k_104 → J 104 [(0, .ref (h)), (1, .int (nI (mo2))), (2, .int (nI (rr))), (3, .int (nI (f)))] [] [((h), .inr (5, [.int (nI (0)), .int (nI (n)), .ref (m1), .int (nI (st)), .ref (m2), .ref (m3), .ref (m4), .int (nI (mn)), .ref (m5), .ref (m6), .ref (m7), .ref (m8), .ref (m9), .ref (ma), .ref (mb)])), kB E (m5) (5) (upN kn n 1), kM E (m6) (65812) (d4), kI E (m7) (120) (fo1)] (0) (0) := by
                        intro k_104
                        induction k_104 with
                        | zero => intro f mo2 d4 hf hmo2 h4 hk_104; exact absurd hk_104 (Nat.not_lt_zero _)
                        | succ k_104 ih_104 =>
                          intro f mo2 d4 hf hmo2 h4 hk_104
                          refine J_iload_n C 3 dM_findCosts_104 rfl rfl ?_
                          refine J_aload_n C 0 dM_findCosts_105 rfl rfl ?_
                          refine J_callV C (rest := [.int (nI (f))]) [] [((h), .inr (5, [.int (nI (0)), .int (nI (n)), .ref (m1), .int (nI (st)), .ref (m2), .ref (m3), .ref (m4), .int (nI (mn)), .ref (m5), .ref (m6), .ref (m7), .ref (m8), .ref (m9), .ref (ma), .ref (mb)]))] [kB E (m5) (5) (upN kn n 1), kM E (m6) (65812) (d4), kI E (m7) (120) (fo1)] 0 (c_M_functions E l h n st mn m1 m2 m3 m4 m5 m6 m7 m8 m9 ma mb (by omega) (by omega)) mmM_functions msM_functions lkM_95 rfl rfl (rfl) rfl rfl ⟨by decide, by decide⟩ ⟨by decide, by decide⟩ (Nat.le_of_ble_eq_true rfl) dM_findCosts_106 (fun r_c w_c hp => ?_)
                          obtain ⟨rfl, rfl⟩ := hp
                          refine J_norm C (st' := [.int (nI (2 ^ 2 ^ n)), .int (nI (f))]) (ws' := [((h), .inr (5, [.int (nI (0)), .int (nI (n)), .ref (m1), .int (nI (st)), .ref (m2), .ref (m3), .ref (m4), .int (nI (mn)), .ref (m5), .ref (m6), .ref (m7), .ref (m8), .ref (m9), .ref (ma), .ref (mb)])), kB E (m5) (5) (upN kn n 1), kM E (m6) (65812) (d4), kI E (m7) (120) (fo1)]) (cs' := 0) (ss' := 0) rfl (rfl) rfl rfl ?_
                          refine J_icmp_ge C 198 (nI_toInt (n := f) (by omega)) (nI_toInt (n := 2 ^ 2 ^ n) (by omega)) dM_findCosts_109 (by decide) (fun h109 => ?_) (fun h109 => ?_)
                          · obtain rfl : 2 ^ 2 ^ n = f := by omega
                            refine J_iinc C (lv' := [(0, .ref (h)), (1, .int (nI (mo2))), (2, .int (nI (rr + 1))), (3, .int (nI ((2 ^ 2 ^ n))))]) 2 [1, 2, 0, 3] dM_findCosts_198 rfl (jn_inc _) (by decide) rfl ?_
                            refine J_goto C 96 dM_findCosts_201 (by decide) ?_
                            refine J_lv C (lv' := [(0, .ref (h)), (1, .int (nI (mo2))), (2, .int (nI (rr + 1)))]) [0, 1, 2] rfl ?_
                            exact ih_96 mo2 (rr + 1) d4 (cH_next hn4 hmo2 hr6 h4) (by have := h3.2.1; omega)
                          · refine J_aload_n C 0 dM_findCosts_112 rfl rfl ?_
                            refine J_get C 0 9 hinM rfl rfl (by decide) fkM_27 rfl dM_findCosts_113 ?_
                            refine J_aload_n C 0 dM_findCosts_116 rfl rfl ?_
                            refine J_iload_n C 3 dM_findCosts_117 rfl rfl ?_
                            refine J_callV C (rest := [.ref (m6)]) [] [((h), .inr (5, [.int (nI (0)), .int (nI (n)), .ref (m1), .int (nI (st)), .ref (m2), .ref (m3), .ref (m4), .int (nI (mn)), .ref (m5), .ref (m6), .ref (m7), .ref (m8), .ref (m9), .ref (ma), .ref (mb)]))] [kB E (m5) (5) (upN kn n 1), kM E (m6) (65812) (d4), kI E (m7) (120) (fo1)] 0 (c_M_costAt E l h n st mn m1 m2 m3 m4 m5 m6 m7 m8 m9 ma mb f (by omega) (by omega)) mmM_costAt msM_costAt lkM_98 rfl rfl (rfl) rfl rfl ⟨by decide, by decide⟩ ⟨by decide, by decide⟩ (Nat.le_of_ble_eq_true rfl) dM_findCosts_118 (fun r_c w_c hp => ?_)
                            obtain ⟨rfl, rfl⟩ := hp
                            refine J_norm C (st' := [.int (nI (f + coff n)), .ref (m6)]) (ws' := [((h), .inr (5, [.int (nI (0)), .int (nI (n)), .ref (m1), .int (nI (st)), .ref (m2), .ref (m3), .ref (m4), .int (nI (mn)), .ref (m5), .ref (m6), .ref (m7), .ref (m8), .ref (m9), .ref (ma), .ref (mb)])), kB E (m5) (5) (upN kn n 1), kM E (m6) (65812) (d4), kI E (m7) (120) (fo1)]) (cs' := 0) (ss' := 0) rfl (rfl) rfl rfl ?_
                            refine J_iald C 2 rfl (by omega) (by omega) dM_findCosts_121 ?_
                            refine J_iload_n C 2 dM_findCosts_122 rfl rfl ?_
                            refine J_icmp_eq C 129 (mI_toInt (d := d4 (f + coff n)) (by have := cR_le h4 (show f < 2 ^ 2 ^ n by omega); omega)) (nI_toInt (n := rr) (by omega)) dM_findCosts_123 (by decide) (fun h123 => ?_) (fun h123 => ?_)
                            · have hpr := (cR_at h4 (show f < 2 ^ 2 ^ n by omega)).mp (by omega)
                              refine J_iconst C (v := nI (0)) dM_findCosts_129 (by decide) ?_
                              refine J_istore C (lv' := [(0, .ref (h)), (1, .int (nI (mo2))), (2, .int (nI (rr))), (3, .int (nI (f))), (4, .int (nI (0)))]) [1, 2, 3, 4, 0] dM_findCosts_130 (by decide) rfl ?_
                              have lp_132 : ∀ (k_132 : Nat) (p mo3 : Nat) (d5 : Nat → Nat), (p ≤ 3 ^ n) → (mo3 ≤ 1) → (cR n rr f p mo3 d5 d) → (3 ^ n - p) < k_132 → J 132 [(0, .ref (h)), (1, .int (nI (mo3))), (2, .int (nI (rr))), (3, .int (nI (f))), (4, .int (nI (p)))] [] [((h), .inr (5, [.int (nI (0)), .int (nI (n)), .ref (m1), .int (nI (st)), .ref (m2), .ref (m3), .ref (m4), .int (nI (mn)), .ref (m5), .ref (m6), .ref (m7), .ref (m8), .ref (m9), .ref (ma), .ref (mb)])), kB E (m5) (5) (upN kn n 1), kM E (m6) (65812) (d5), kI E (m7) (120) (fo1)] (0) (0) := by
                                intro k_132
                                induction k_132 with
                                | zero => intro p mo3 d5 hp hmo3 h5 hk_132; exact absurd hk_132 (Nat.not_lt_zero _)
                                | succ k_132 ih_132 =>
                                  intro p mo3 d5 hp hmo3 h5 hk_132
                                  refine J_iload C 4 dM_findCosts_132 rfl ?_
                                  refine J_aload_n C 0 dM_findCosts_134 rfl rfl ?_
                                  refine J_callV C (rest := [.int (nI (p))]) [] [((h), .inr (5, [.int (nI (0)), .int (nI (n)), .ref (m1), .int (nI (st)), .ref (m2), .ref (m3), .ref (m4), .int (nI (mn)), .ref (m5), .ref (m6), .ref (m7), .ref (m8), .ref (m9), .ref (ma), .ref (mb)]))] [kB E (m5) (5) (upN kn n 1), kM E (m6) (65812) (d5), kI E (m7) (120) (fo1)] 0 (c_M_products E l h n st mn m1 m2 m3 m4 m5 m6 m7 m8 m9 ma mb (by omega) (by omega)) mmM_products msM_products lkM_85 rfl rfl (rfl) rfl rfl ⟨by decide, by decide⟩ ⟨by decide, by decide⟩ (Nat.le_of_ble_eq_true rfl) dM_findCosts_135 (fun r_c w_c hp => ?_)
                                  obtain ⟨rfl, rfl⟩ := hp
                                  refine J_norm C (st' := [.int (nI (3 ^ n)), .int (nI (p))]) (ws' := [((h), .inr (5, [.int (nI (0)), .int (nI (n)), .ref (m1), .int (nI (st)), .ref (m2), .ref (m3), .ref (m4), .int (nI (mn)), .ref (m5), .ref (m6), .ref (m7), .ref (m8), .ref (m9), .ref (ma), .ref (mb)])), kB E (m5) (5) (upN kn n 1), kM E (m6) (65812) (d5), kI E (m7) (120) (fo1)]) (cs' := 0) (ss' := 0) rfl (rfl) rfl rfl ?_
                                  refine J_icmp_ge C 192 (nI_toInt (n := p) (by omega)) (nI_toInt (n := 3 ^ n) (by omega)) dM_findCosts_138 (by decide) (fun h138 => ?_) (fun h138 => ?_)
                                  · obtain rfl : 3 ^ n = p := by omega
                                    refine J_iinc C (lv' := [(0, .ref (h)), (1, .int (nI (mo3))), (2, .int (nI (rr))), (3, .int (nI (f + 1))), (4, .int (nI ((3 ^ n))))]) 3 [1, 2, 3, 0, 4] dM_findCosts_192 rfl (jn_inc _) (by decide) rfl ?_
                                    refine J_goto C 104 dM_findCosts_195 (by decide) ?_
                                    refine J_lv C (lv' := [(0, .ref (h)), (1, .int (nI (mo3))), (2, .int (nI (rr))), (3, .int (nI (f + 1)))]) [0, 1, 2, 3] rfl ?_
                                    exact ih_104 (f + 1) mo3 d5 (by omega) (hmo3) (cR_nextF h5) (by omega)
                                  · have xg := Nat.xor_lt_two_pow (show f < 2 ^ 2 ^ n by omega) (pfn_lt n p)
                                    refine J_aload_n C 0 dM_findCosts_141 rfl rfl ?_
                                    refine J_iload_n C 3 dM_findCosts_142 rfl rfl ?_
                                    refine J_aload_n C 0 dM_findCosts_143 rfl rfl ?_
                                    refine J_get C 0 10 hinM rfl rfl (by decide) fkM_30 rfl dM_findCosts_144 ?_
                                    refine J_aload_n C 0 dM_findCosts_147 rfl rfl ?_
                                    refine J_iload C 4 dM_findCosts_148 rfl ?_
                                    refine J_callV C (rest := [.ref (m7), .int (nI (f)), .ref (h)]) [] [((h), .inr (5, [.int (nI (0)), .int (nI (n)), .ref (m1), .int (nI (st)), .ref (m2), .ref (m3), .ref (m4), .int (nI (mn)), .ref (m5), .ref (m6), .ref (m7), .ref (m8), .ref (m9), .ref (ma), .ref (mb)]))] [kB E (m5) (5) (upN kn n 1), kM E (m6) (65812) (d5), kI E (m7) (120) (fo1)] 0 (c_M_productAt E l h n st mn m1 m2 m3 m4 m5 m6 m7 m8 m9 ma mb p (by omega) (by omega)) mmM_productAt msM_productAt lkM_88 rfl rfl (rfl) rfl rfl ⟨by decide, by decide⟩ ⟨by decide, by decide⟩ (Nat.le_of_ble_eq_true rfl) dM_findCosts_150 (fun r_c w_c hp => ?_)
                                    obtain ⟨rfl, rfl⟩ := hp
                                    refine J_norm C (st' := [.int (nI (p + poff n)), .ref (m7), .int (nI (f)), .ref (h)]) (ws' := [((h), .inr (5, [.int (nI (0)), .int (nI (n)), .ref (m1), .int (nI (st)), .ref (m2), .ref (m3), .ref (m4), .int (nI (mn)), .ref (m5), .ref (m6), .ref (m7), .ref (m8), .ref (m9), .ref (ma), .ref (mb)])), kB E (m5) (5) (upN kn n 1), kM E (m6) (65812) (d5), kI E (m7) (120) (fo1)]) (cs' := 0) (ss' := 0) rfl (rfl) rfl rfl ?_
                                    refine J_iald C 3 rfl (by omega) (by omega) dM_findCosts_153 ?_
                                    refine J_topN C (n' := pfn n p) (hf1.2 p (by omega)) ?_
                                    refine J_ixorN C dM_findCosts_154 ?_
                                    refine J_callV C (rest := []) [] [((h), .inr (5, [.int (nI (0)), .int (nI (n)), .ref (m1), .int (nI (st)), .ref (m2), .ref (m3), .ref (m4), .int (nI (mn)), .ref (m5), .ref (m6), .ref (m7), .ref (m8), .ref (m9), .ref (ma), .ref (mb)]))] [kB E (m5) (5) (upN kn n 1), kM E (m6) (65812) (d5), kI E (m7) (120) (fo1)] 0 (c_M_costAt E l h n st mn m1 m2 m3 m4 m5 m6 m7 m8 m9 ma mb (f ^^^ (pfn n p)) (by omega) (by omega)) mmM_costAt msM_costAt lkM_98 rfl rfl (rfl) rfl rfl ⟨by decide, by decide⟩ ⟨by decide, by decide⟩ (Nat.le_of_ble_eq_true rfl) dM_findCosts_155 (fun r_c w_c hp => ?_)
                                    obtain ⟨rfl, rfl⟩ := hp
                                    refine J_norm C (st' := [.int (nI ((f ^^^ (pfn n p)) + coff n))]) (ws' := [((h), .inr (5, [.int (nI (0)), .int (nI (n)), .ref (m1), .int (nI (st)), .ref (m2), .ref (m3), .ref (m4), .int (nI (mn)), .ref (m5), .ref (m6), .ref (m7), .ref (m8), .ref (m9), .ref (ma), .ref (mb)])), kB E (m5) (5) (upN kn n 1), kM E (m6) (65812) (d5), kI E (m7) (120) (fo1)]) (cs' := 0) (ss' := 0) rfl (rfl) rfl rfl ?_
                                    refine J_istore C (lv' := [(0, .ref (h)), (1, .int (nI (mo3))), (2, .int (nI (rr))), (3, .int (nI (f))), (4, .int (nI (p))), (5, .int (nI ((f ^^^ (pfn n p)) + coff n)))]) [1, 2, 3, 4, 5, 0] dM_findCosts_158 (by decide) rfl ?_
                                    refine J_aload_n C 0 dM_findCosts_160 rfl rfl ?_
                                    refine J_get C 0 9 hinM rfl rfl (by decide) fkM_27 rfl dM_findCosts_161 ?_
                                    refine J_iload C 5 dM_findCosts_164 rfl ?_
                                    refine J_iald C 2 rfl (by omega) (by omega) dM_findCosts_166 ?_
                                    refine J_iconst C (v := -1) dM_findCosts_167 (by decide) ?_
                                    refine J_icmp_eq C 174 (mI_toInt (d := d5 ((f ^^^ (pfn n p)) + coff n)) (by have := cR_le h5 xg; omega)) j_m1 dM_findCosts_168 (by decide) (fun h168 => ?_) (fun h168 => ?_)
                                    · refine J_aload_n C 0 dM_findCosts_174 rfl rfl ?_
                                      refine J_get C 0 9 hinM rfl rfl (by decide) fkM_27 rfl dM_findCosts_175 ?_
                                      refine J_iload C 5 dM_findCosts_178 rfl ?_
                                      refine J_iload_n C 2 dM_findCosts_180 rfl rfl ?_
                                      refine J_iconst C (v := nI (1)) dM_findCosts_181 (by decide) ?_
                                      refine J_iaddN C dM_findCosts_182 ?_
                                      refine J_iastM C (ws' := [((h), .inr (5, [.int (nI (0)), .int (nI (n)), .ref (m1), .int (nI (st)), .ref (m2), .ref (m3), .ref (m4), .int (nI (mn)), .ref (m5), .ref (m6), .ref (m7), .ref (m8), .ref (m9), .ref (ma), .ref (mb)])), kB E (m5) (5) (upN kn n 1), kM E (m6) (65812) (upN d5 ((f ^^^ (pfn n p)) + coff n) ((rr + 1) + 1)), kI E (m7) (120) (fo1)]) 2 rfl (by omega) (by omega) ((mI_s (rr + 1)).symm) dM_findCosts_183 rfl ?_
                                      refine J_iconst C (v := nI (1)) dM_findCosts_184 (by decide) ?_
                                      refine J_istore_n C (lv' := [(0, .ref (h)), (1, .int (nI (1))), (2, .int (nI (rr))), (3, .int (nI (f))), (4, .int (nI (p))), (5, .int (nI ((f ^^^ (pfn n p)) + coff n)))]) [1, 0, 2, 3, 4, 5] dM_findCosts_185 rfl (by decide) rfl ?_
                                      refine J_iinc C (lv' := [(0, .ref (h)), (1, .int (nI (1))), (2, .int (nI (rr))), (3, .int (nI (f))), (4, .int (nI (p + 1))), (5, .int (nI ((f ^^^ (pfn n p)) + coff n)))]) 4 [1, 2, 3, 4, 0, 5] dM_findCosts_186 rfl (jn_inc _) (by decide) rfl ?_
                                      refine J_goto C 132 dM_findCosts_189 (by decide) ?_
                                      refine J_lv C (lv' := [(0, .ref (h)), (1, .int (nI (1))), (2, .int (nI (rr))), (3, .int (nI (f))), (4, .int (nI (p + 1)))]) [0, 1, 2, 3, 4] rfl ?_
                                      exact ih_132 (p + 1) 1 (upN d5 ((f ^^^ (pfn n p)) + coff n) ((rr + 1) + 1)) (by omega) (by omega) (cR_new h5 (by omega) (by omega) hpr (by omega)) (by omega)
                                    · refine J_goto C 186 dM_findCosts_171 (by decide) ?_
                                      refine J_iinc C (lv' := [(0, .ref (h)), (1, .int (nI (mo3))), (2, .int (nI (rr))), (3, .int (nI (f))), (4, .int (nI (p + 1))), (5, .int (nI ((f ^^^ (pfn n p)) + coff n)))]) 4 [1, 2, 3, 4, 0, 5] dM_findCosts_186 rfl (jn_inc _) (by decide) rfl ?_
                                      refine J_goto C 132 dM_findCosts_189 (by decide) ?_
                                      refine J_lv C (lv' := [(0, .ref (h)), (1, .int (nI (mo3))), (2, .int (nI (rr))), (3, .int (nI (f))), (4, .int (nI (p + 1)))]) [0, 1, 2, 3, 4] rfl ?_
                                      exact ih_132 (p + 1) mo3 d5 (by omega) (hmo3) (cR_skipP h5 (by omega)) (by omega)
                              exact lp_132 (3 ^ n + 1) 0 mo2 d4 (by omega) (hmo2) (h4) (by omega)
                            · refine J_goto C 192 dM_findCosts_126 (by decide) ?_
                              refine J_iinc C (lv' := [(0, .ref (h)), (1, .int (nI (mo2))), (2, .int (nI (rr))), (3, .int (nI (f + 1)))]) 3 [1, 2, 3, 0] dM_findCosts_192 rfl (jn_inc _) (by decide) rfl ?_
                              refine J_goto C 104 dM_findCosts_195 (by decide) ?_
                              exact ih_104 (f + 1) mo2 d4 (by omega) (hmo2) (cR_skipF h4 (fun q => by have := (cR_at h4 (by omega)).mpr q; omega)) (by omega)
                      exact lp_104 (2 ^ 2 ^ n + 1) 0 0 d3 (by omega) (by omega) (cR_0 hcb) (by omega)
                exact lp_96 (9) 1 0 (upN d1 (0 + coff n) (0 + 1)) (⟨by omega, by omega, fun _ => ⟨by omega, cB_0 hd1⟩, fun q => by omega⟩) (by omega)
              · refine J_aload_n C 0 dM_findCosts_64 rfl rfl ?_
                refine J_get C 0 9 hinM rfl rfl (by decide) fkM_27 rfl dM_findCosts_65 ?_
                refine J_aload_n C 0 dM_findCosts_68 rfl rfl ?_
                refine J_iload_n C 1 dM_findCosts_69 rfl rfl ?_
                refine J_callV C (rest := [.ref (m6)]) [] [((h), .inr (5, [.int (nI (0)), .int (nI (n)), .ref (m1), .int (nI (st)), .ref (m2), .ref (m3), .ref (m4), .int (nI (mn)), .ref (m5), .ref (m6), .ref (m7), .ref (m8), .ref (m9), .ref (ma), .ref (mb)]))] [kB E (m5) (5) (upN kn n 1), kM E (m6) (65812) (d1), kI E (m7) (120) (fo1)] 0 (c_M_costAt E l h n st mn m1 m2 m3 m4 m5 m6 m7 m8 m9 ma mb f (by omega) (by omega)) mmM_costAt msM_costAt lkM_98 rfl rfl (rfl) rfl rfl ⟨by decide, by decide⟩ ⟨by decide, by decide⟩ (Nat.le_of_ble_eq_true rfl) dM_findCosts_70 (fun r_c w_c hp => ?_)
                obtain ⟨rfl, rfl⟩ := hp
                refine J_norm C (st' := [.int (nI (f + coff n)), .ref (m6)]) (ws' := [((h), .inr (5, [.int (nI (0)), .int (nI (n)), .ref (m1), .int (nI (st)), .ref (m2), .ref (m3), .ref (m4), .int (nI (mn)), .ref (m5), .ref (m6), .ref (m7), .ref (m8), .ref (m9), .ref (ma), .ref (mb)])), kB E (m5) (5) (upN kn n 1), kM E (m6) (65812) (d1), kI E (m7) (120) (fo1)]) (cs' := 0) (ss' := 0) rfl (rfl) rfl rfl ?_
                refine J_iconst C (v := -1) dM_findCosts_73 (by decide) ?_
                refine J_iastM C (ws' := [((h), .inr (5, [.int (nI (0)), .int (nI (n)), .ref (m1), .int (nI (st)), .ref (m2), .ref (m3), .ref (m4), .int (nI (mn)), .ref (m5), .ref (m6), .ref (m7), .ref (m8), .ref (m9), .ref (ma), .ref (mb)])), kB E (m5) (5) (upN kn n 1), kM E (m6) (65812) (upN d1 (f + coff n) 0), kI E (m7) (120) (fo1)]) 2 rfl (by omega) (by omega) (mI_0.symm) dM_findCosts_74 rfl ?_
                refine J_iinc C (lv' := [(0, .ref (h)), (1, .int (nI (f + 1)))]) 1 [1, 0] dM_findCosts_75 rfl (jn_inc _) (by decide) rfl ?_
                refine J_goto C 56 dM_findCosts_78 (by decide) ?_
                exact ih_56 (f + 1) (upN d1 (f + coff n) 0) (by omega) (mZ_s hd1 (by omega)) (by omega)
          exact lp_56 (2 ^ 2 ^ n + 1) 0 d (by omega) (⟨fun _ _ => rfl, fun p' q => by omega⟩) (by omega)
        · refine J_aload_n C 0 dM_findCosts_33 rfl rfl ?_
          refine J_get C 0 10 hinM rfl rfl (by decide) fkM_30 rfl dM_findCosts_34 ?_
          refine J_aload_n C 0 dM_findCosts_37 rfl rfl ?_
          refine J_iload_n C 1 dM_findCosts_38 rfl rfl ?_
          refine J_callV C (rest := [.ref (m7)]) [] [((h), .inr (5, [.int (nI (0)), .int (nI (n)), .ref (m1), .int (nI (st)), .ref (m2), .ref (m3), .ref (m4), .int (nI (mn)), .ref (m5), .ref (m6), .ref (m7), .ref (m8), .ref (m9), .ref (ma), .ref (mb)]))] [kB E (m5) (5) (upN kn n 1), kM E (m6) (65812) (d), kI E (m7) (120) (fo1)] 0 (c_M_productAt E l h n st mn m1 m2 m3 m4 m5 m6 m7 m8 m9 ma mb p (by omega) (by omega)) mmM_productAt msM_productAt lkM_88 rfl rfl (rfl) rfl rfl ⟨by decide, by decide⟩ ⟨by decide, by decide⟩ (Nat.le_of_ble_eq_true rfl) dM_findCosts_39 (fun r_c w_c hp => ?_)
          obtain ⟨rfl, rfl⟩ := hp
          refine J_norm C (st' := [.int (nI (p + poff n)), .ref (m7)]) (ws' := [((h), .inr (5, [.int (nI (0)), .int (nI (n)), .ref (m1), .int (nI (st)), .ref (m2), .ref (m3), .ref (m4), .int (nI (mn)), .ref (m5), .ref (m6), .ref (m7), .ref (m8), .ref (m9), .ref (ma), .ref (mb)])), kB E (m5) (5) (upN kn n 1), kM E (m6) (65812) (d), kI E (m7) (120) (fo1)]) (cs' := 0) (ss' := 0) rfl (rfl) rfl rfl ?_
          refine J_aload_n C 0 dM_findCosts_42 rfl rfl ?_
          refine J_iload_n C 1 dM_findCosts_43 rfl rfl ?_
          refine J_callV C (rest := [.int (nI (p + poff n)), .ref (m7)]) [] [((h), .inr (5, [.int (nI (0)), .int (nI (n)), .ref (m1), .int (nI (st)), .ref (m2), .ref (m3), .ref (m4), .int (nI (mn)), .ref (m5), .ref (m6), .ref (m7), .ref (m8), .ref (m9), .ref (ma), .ref (mb)]))] [kB E (m5) (5) (upN kn n 1), kM E (m6) (65812) (d), kI E (m7) (120) (fo1)] 0 (c_M_functionFor E l h n st mn m1 m2 m3 m4 m5 m6 m7 m8 m9 ma mb p (by omega) (by omega) (by omega)) mmM_functionFor msM_functionFor lkM_92 rfl rfl (rfl) rfl rfl ⟨by decide, by decide⟩ ⟨by decide, by decide⟩ (Nat.le_of_ble_eq_true rfl) dM_findCosts_44 (fun r_c w_c hp => ?_)
          obtain ⟨rfl, rfl⟩ := hp
          refine J_norm C (st' := [.int (nI (pfn n p)), .int (nI (p + poff n)), .ref (m7)]) (ws' := [((h), .inr (5, [.int (nI (0)), .int (nI (n)), .ref (m1), .int (nI (st)), .ref (m2), .ref (m3), .ref (m4), .int (nI (mn)), .ref (m5), .ref (m6), .ref (m7), .ref (m8), .ref (m9), .ref (ma), .ref (mb)])), kB E (m5) (5) (upN kn n 1), kM E (m6) (65812) (d), kI E (m7) (120) (fo1)]) (cs' := 0) (ss' := 0) rfl (rfl) rfl rfl ?_
          refine J_iastN C (ws' := [((h), .inr (5, [.int (nI (0)), .int (nI (n)), .ref (m1), .int (nI (st)), .ref (m2), .ref (m3), .ref (m4), .int (nI (mn)), .ref (m5), .ref (m6), .ref (m7), .ref (m8), .ref (m9), .ref (ma), .ref (mb)])), kB E (m5) (5) (upN kn n 1), kM E (m6) (65812) (d), kI E (m7) (120) (upN fo1 (p + poff n) (pfn n p))]) 3 rfl (by omega) (by omega) dM_findCosts_47 rfl ?_
          refine J_iinc C (lv' := [(0, .ref (h)), (1, .int (nI (p + 1)))]) 1 [1, 0] dM_findCosts_48 rfl (jn_inc _) (by decide) rfl ?_
          refine J_goto C 25 dM_findCosts_51 (by decide) ?_
          exact ih_25 (p + 1) (upN fo1 (p + poff n) (pfn n p)) (by omega) (mF_s hf1 (by omega)) (by omega)
    exact lp_25 (3 ^ n + 1) 0 fo (by omega) (⟨fun _ _ => rfl, fun p' q => by omega⟩) (by omega)
  · have hkz : kn n ≠ 0 := by omega
    exact hret _ _ _ _ _ dM_findCosts_12 (by decide) (by decide) (⟨kn, d, fo, rfl, hk1, hC, hkz, rfl⟩)
set_option maxHeartbeats 4000000 in
set_option maxRecDepth 100000 in
theorem c_M_form_f (E : jE) (l : Launch) (h : Nat) (n : Nat) (st : Nat) (mn : Nat) (m1 : Nat) (m2 : Nat) (m3 : Nat) (m4 : Nat) (m5 : Nat) (m6 : Nat) (m7 : Nat) (m8 : Nat) (m9 : Nat) (ma : Nat) (mb : Nat) (x : Int32) (z : Int32) (hn1 : 1 ≤ n) (hn4 : n ≤ 4) (hx : x.toInt < 0 ∨ ((2 ^ 2 ^ n : Nat) : Int) ≤ x.toInt ∨ z.toInt < -1) : Con E l yM_form bM_form 6 (some .int) { frames := 2, cells := 0, slots := 0, locals := 40 } [.ref (h), .int (x), .int (z)] [((h), .inr (5, [.int (nI (0)), .int (nI (n)), .ref (m1), .int (nI (st)), .ref (m2), .ref (m3), .ref (m4), .int (nI (mn)), .ref (m5), .ref (m6), .ref (m7), .ref (m8), .ref (m9), .ref (ma), .ref (mb)]))] (fun r w => r = some (.int (-1)) ∧ w = [((h), .inr (5, [.int (nI (0)), .int (nI (n)), .ref (m1), .int (nI (st)), .ref (m2), .ref (m3), .ref (m4), .int (nI (mn)), .ref (m5), .ref (m6), .ref (m7), .ref (m8), .ref (m9), .ref (ma), .ref (mb)]))]) := by
  refine Con.ofI (by decide) (Nat.le_of_ble_eq_true rfl) ?_
  intro J C hret
  show J 0 [(0, .ref (h)), (1, .int (x)), (2, .int (z))] [] [((h), .inr (5, [.int (nI (0)), .int (nI (n)), .ref (m1), .int (nI (st)), .ref (m2), .ref (m3), .ref (m4), .int (nI (mn)), .ref (m5), .ref (m6), .ref (m7), .ref (m8), .ref (m9), .ref (ma), .ref (mb)]))] 0 0
  have hp16 := p16 hn4
  have hp1 := p1 n
  have hF := p65 hn4
  have hF0 := p1 (2 ^ n)
  have h81 := p81 hn4
  have hc := coff_fit hn1 hn4
  have hq := poff_fit hn1 hn4
  have h30 := p3_pos n
  refine J_aload_n C 0 dM_form_0 rfl rfl ?_
  refine J_iconst C (v := nI (0)) dM_form_1 (by decide) ?_
  refine J_put C (ws' := [((h), .inr (5, [.int (nI (0)), .int (nI (n)), .ref (m1), .int (nI (st)), .ref (m2), .ref (m3), .ref (m4), .int (nI (mn)), .ref (m5), .ref (m6), .ref (m7), .ref (m8), .ref (m9), .ref (ma), .ref (mb)]))]) 0 0 tyM hinM tyokM nmM rfl rfl (by decide) fkM_53 rfl rfl rfl (Nat.le_of_ble_eq_true rfl) dM_form_2 rfl ?_
  refine J_iload_n C 1 dM_form_5 rfl rfl ?_
  refine J_if_lt C 22 rfl dM_form_6 (by decide) (fun h6 => ?_) (fun h6 => ?_)
  · refine J_iconst C (v := -1) dM_form_22 (by decide) ?_
    exact hret _ _ _ _ _ _ dM_form_23 (by decide) (by decide) (⟨rfl, rfl⟩)
  · refine J_iload_n C 1 dM_form_9 rfl rfl ?_
    refine J_aload_n C 0 dM_form_10 rfl rfl ?_
    refine J_callV C (rest := [.int (x)]) [] [((h), .inr (5, [.int (nI (0)), .int (nI (n)), .ref (m1), .int (nI (st)), .ref (m2), .ref (m3), .ref (m4), .int (nI (mn)), .ref (m5), .ref (m6), .ref (m7), .ref (m8), .ref (m9), .ref (ma), .ref (mb)]))] [] 0 (c_M_functions E l h n st mn m1 m2 m3 m4 m5 m6 m7 m8 m9 ma mb (by omega) (by omega)) mmM_functions msM_functions lkM_95 rfl rfl (rfl) rfl rfl ⟨by decide, by decide⟩ ⟨by decide, by decide⟩ (Nat.le_of_ble_eq_true rfl) dM_form_11 (fun r_c w_c hp => ?_)
    obtain ⟨rfl, rfl⟩ := hp
    refine J_norm C (st' := [.int (nI (2 ^ 2 ^ n)), .int (x)]) (ws' := [((h), .inr (5, [.int (nI (0)), .int (nI (n)), .ref (m1), .int (nI (st)), .ref (m2), .ref (m3), .ref (m4), .int (nI (mn)), .ref (m5), .ref (m6), .ref (m7), .ref (m8), .ref (m9), .ref (ma), .ref (mb)]))]) (cs' := 0) (ss' := 0) rfl (rfl) rfl rfl ?_
    refine J_icmp_ge C 22 rfl (nI_toInt (n := 2 ^ 2 ^ n) (by omega)) dM_form_14 (by decide) (fun h14 => ?_) (fun h14 => ?_)
    · refine J_iconst C (v := -1) dM_form_22 (by decide) ?_
      exact hret _ _ _ _ _ _ dM_form_23 (by decide) (by decide) (⟨rfl, rfl⟩)
    · refine J_iload_n C 2 dM_form_17 rfl rfl ?_
      refine J_iconst C (v := -1) dM_form_18 (by decide) ?_
      refine J_icmp_ge C 24 rfl j_m1 dM_form_19 (by decide) (fun h19 => ?_) (fun h19 => ?_)
      · exfalso; omega
      · refine J_iconst C (v := -1) dM_form_22 (by decide) ?_
        exact hret _ _ _ _ _ _ dM_form_23 (by decide) (by decide) (⟨rfl, rfl⟩)
set_option maxHeartbeats 4000000 in
set_option maxRecDepth 100000 in
theorem c_M_form_m (E : jE) (l : Launch) (h : Nat) (n : Nat) (st : Nat) (mn : Nat) (m1 : Nat) (m2 : Nat) (m3 : Nat) (m4 : Nat) (m5 : Nat) (m6 : Nat) (m7 : Nat) (m8 : Nat) (m9 : Nat) (ma : Nat) (mb : Nat) (kn : Nat → Nat) (d : Nat → Nat) (fo : Nat → Nat) (f : Nat) (hn1 : 1 ≤ n) (hn4 : n ≤ 4) (hfn : f < 2 ^ 2 ^ n) (hk1 : ∀ j, kn j ≤ 1) (hC : mC kn d fo) : Con E l yM_form bM_form 6 (some .int) { frames := 3, cells := 0, slots := 0, locals := 72 } [.ref (h), .int (nI (f)), .int (-1)] [((h), .inr (5, [.int (nI (0)), .int (nI (n)), .ref (m1), .int (nI (st)), .ref (m2), .ref (m3), .ref (m4), .int (nI (mn)), .ref (m5), .ref (m6), .ref (m7), .ref (m8), .ref (m9), .ref (ma), .ref (mb)])), kB E (m5) (5) (kn), kM E (m6) (65812) (d), kI E (m7) (120) (fo)] (fun r w => ∃ kn1 d1 fo1 : Nat → Nat, r = some (.int (nI (pF n f).length)) ∧ (∀ j, kn1 j ≤ 1) ∧ mC kn1 d1 fo1 ∧ w = [((h), .inr (5, [.int (nI (0)), .int (nI (n)), .ref (m1), .int (nI (st)), .ref (m2), .ref (m3), .ref (m4), .int (nI (mn)), .ref (m5), .ref (m6), .ref (m7), .ref (m8), .ref (m9), .ref (ma), .ref (mb)])), kB E (m5) (5) (kn1), kM E (m6) (65812) (d1), kI E (m7) (120) (fo1)]) := by
  refine Con.ofI (by decide) (Nat.le_of_ble_eq_true rfl) ?_
  intro J C hret
  show J 0 [(0, .ref (h)), (1, .int (nI (f))), (2, .int (-1))] [] [((h), .inr (5, [.int (nI (0)), .int (nI (n)), .ref (m1), .int (nI (st)), .ref (m2), .ref (m3), .ref (m4), .int (nI (mn)), .ref (m5), .ref (m6), .ref (m7), .ref (m8), .ref (m9), .ref (ma), .ref (mb)])), kB E (m5) (5) (kn), kM E (m6) (65812) (d), kI E (m7) (120) (fo)] 0 0
  have hp16 := p16 hn4
  have hp1 := p1 n
  have hF := p65 hn4
  have hF0 := p1 (2 ^ n)
  have h81 := p81 hn4
  have hc := coff_fit hn1 hn4
  have hq := poff_fit hn1 hn4
  have h30 := p3_pos n
  have l6 := pF_6 hn4 hfn
  refine J_aload_n C 0 dM_form_0 rfl rfl ?_
  refine J_iconst C (v := nI (0)) dM_form_1 (by decide) ?_
  refine J_put C (ws' := [((h), .inr (5, [.int (nI (0)), .int (nI (n)), .ref (m1), .int (nI (st)), .ref (m2), .ref (m3), .ref (m4), .int (nI (mn)), .ref (m5), .ref (m6), .ref (m7), .ref (m8), .ref (m9), .ref (ma), .ref (mb)])), kB E (m5) (5) (kn), kM E (m6) (65812) (d), kI E (m7) (120) (fo)]) 0 0 tyM hinM tyokM nmM rfl rfl (by decide) fkM_53 rfl rfl rfl (Nat.le_of_ble_eq_true rfl) dM_form_2 rfl ?_
  refine J_iload_n C 1 dM_form_5 rfl rfl ?_
  refine J_if_lt C 22 (nI_toInt (n := f) (by omega)) dM_form_6 (by decide) (fun h6 => ?_) (fun h6 => ?_)
  · exfalso; omega
  · refine J_iload_n C 1 dM_form_9 rfl rfl ?_
    refine J_aload_n C 0 dM_form_10 rfl rfl ?_
    refine J_callV C (rest := [.int (nI (f))]) [] [((h), .inr (5, [.int (nI (0)), .int (nI (n)), .ref (m1), .int (nI (st)), .ref (m2), .ref (m3), .ref (m4), .int (nI (mn)), .ref (m5), .ref (m6), .ref (m7), .ref (m8), .ref (m9), .ref (ma), .ref (mb)]))] [kB E (m5) (5) (kn), kM E (m6) (65812) (d), kI E (m7) (120) (fo)] 0 (c_M_functions E l h n st mn m1 m2 m3 m4 m5 m6 m7 m8 m9 ma mb (by omega) (by omega)) mmM_functions msM_functions lkM_95 rfl rfl (rfl) rfl rfl ⟨by decide, by decide⟩ ⟨by decide, by decide⟩ (Nat.le_of_ble_eq_true rfl) dM_form_11 (fun r_c w_c hp => ?_)
    obtain ⟨rfl, rfl⟩ := hp
    refine J_norm C (st' := [.int (nI (2 ^ 2 ^ n)), .int (nI (f))]) (ws' := [((h), .inr (5, [.int (nI (0)), .int (nI (n)), .ref (m1), .int (nI (st)), .ref (m2), .ref (m3), .ref (m4), .int (nI (mn)), .ref (m5), .ref (m6), .ref (m7), .ref (m8), .ref (m9), .ref (ma), .ref (mb)])), kB E (m5) (5) (kn), kM E (m6) (65812) (d), kI E (m7) (120) (fo)]) (cs' := 0) (ss' := 0) rfl (rfl) rfl rfl ?_
    refine J_icmp_ge C 22 (nI_toInt (n := f) (by omega)) (nI_toInt (n := 2 ^ 2 ^ n) (by omega)) dM_form_14 (by decide) (fun h14 => ?_) (fun h14 => ?_)
    · exfalso; omega
    · refine J_iload_n C 2 dM_form_17 rfl rfl ?_
      refine J_iconst C (v := -1) dM_form_18 (by decide) ?_
      refine J_icmp_ge C 24 j_m1 j_m1 dM_form_19 (by decide) (fun h19 => ?_) (fun h19 => ?_)
      · refine J_aload_n C 0 dM_form_24 rfl rfl ?_
        refine J_callV C (rest := []) [] [((h), .inr (5, [.int (nI (0)), .int (nI (n)), .ref (m1), .int (nI (st)), .ref (m2), .ref (m3), .ref (m4), .int (nI (mn)), .ref (m5), .ref (m6), .ref (m7), .ref (m8), .ref (m9), .ref (ma), .ref (mb)])), kB E (m5) (5) (kn), kM E (m6) (65812) (d), kI E (m7) (120) (fo)] [] 0 (c_M_findCosts E l h n st mn m1 m2 m3 m4 m5 m6 m7 m8 m9 ma mb kn d fo (by omega) (by omega) (by assumption) (by assumption)) mmM_findCosts msM_findCosts lkM_101 rfl rfl (rfl) rfl rfl ⟨by decide, by decide⟩ ⟨by decide, by decide⟩ (Nat.le_of_ble_eq_true rfl) dM_form_25 (fun r_c w_c hp => ?_)
        obtain ⟨kn1, d1, fo1, rfl, hkn1, hC1, hkz1, rfl⟩ := hp
        refine J_norm C (st' := []) (ws' := [((h), .inr (5, [.int (nI (0)), .int (nI (n)), .ref (m1), .int (nI (st)), .ref (m2), .ref (m3), .ref (m4), .int (nI (mn)), .ref (m5), .ref (m6), .ref (m7), .ref (m8), .ref (m9), .ref (ma), .ref (mb)])), kB E (m5) (5) (kn1), kM E (m6) (65812) (d1), kI E (m7) (120) (fo1)]) (cs' := 0) (ss' := 0) rfl (rfl) rfl rfl ?_
        obtain ⟨hcs, hfs⟩ := hC1 n hn1 hn4 hkz1
        refine J_iload_n C 2 dM_form_28 rfl rfl ?_
        refine J_iconst C (v := -1) dM_form_29 (by decide) ?_
        refine J_icmp_ne C 44 j_m1 j_m1 dM_form_30 (by decide) (fun h30 => ?_) (fun h30 => ?_)
        · exfalso; omega
        · refine J_aload_n C 0 dM_form_33 rfl rfl ?_
          refine J_get C 0 9 hinM rfl rfl (by decide) fkM_27 rfl dM_form_34 ?_
          refine J_aload_n C 0 dM_form_37 rfl rfl ?_
          refine J_iload_n C 1 dM_form_38 rfl rfl ?_
          refine J_callV C (rest := [.ref (m6)]) [] [((h), .inr (5, [.int (nI (0)), .int (nI (n)), .ref (m1), .int (nI (st)), .ref (m2), .ref (m3), .ref (m4), .int (nI (mn)), .ref (m5), .ref (m6), .ref (m7), .ref (m8), .ref (m9), .ref (ma), .ref (mb)]))] [kB E (m5) (5) (kn1), kM E (m6) (65812) (d1), kI E (m7) (120) (fo1)] 0 (c_M_costAt E l h n st mn m1 m2 m3 m4 m5 m6 m7 m8 m9 ma mb f (by omega) (by omega)) mmM_costAt msM_costAt lkM_98 rfl rfl (rfl) rfl rfl ⟨by decide, by decide⟩ ⟨by decide, by decide⟩ (Nat.le_of_ble_eq_true rfl) dM_form_39 (fun r_c w_c hp => ?_)
          obtain ⟨rfl, rfl⟩ := hp
          refine J_norm C (st' := [.int (nI (f + coff n)), .ref (m6)]) (ws' := [((h), .inr (5, [.int (nI (0)), .int (nI (n)), .ref (m1), .int (nI (st)), .ref (m2), .ref (m3), .ref (m4), .int (nI (mn)), .ref (m5), .ref (m6), .ref (m7), .ref (m8), .ref (m9), .ref (ma), .ref (mb)])), kB E (m5) (5) (kn1), kM E (m6) (65812) (d1), kI E (m7) (120) (fo1)]) (cs' := 0) (ss' := 0) rfl (rfl) rfl rfl ?_
          refine J_iald C 2 rfl (by omega) (by omega) dM_form_42 ?_
          refine J_topX C (x' := nI ((pF n f).length)) (by rw [hcs f hfn, mI_s]; rfl) ?_
          exact hret _ _ _ _ _ _ dM_form_43 (by decide) (by decide) (⟨_, _, _, rfl, hkn1, hC1, rfl⟩)
      · exfalso; omega
set_option maxHeartbeats 4000000 in
set_option maxRecDepth 100000 in
theorem c_M_form_k (E : jE) (l : Launch) (h : Nat) (n : Nat) (st : Nat) (mn : Nat) (m1 : Nat) (m2 : Nat) (m3 : Nat) (m4 : Nat) (m5 : Nat) (m6 : Nat) (m7 : Nat) (m8 : Nat) (m9 : Nat) (ma : Nat) (mb : Nat) (kn : Nat → Nat) (d : Nat → Nat) (fo : Nat → Nat) (f : Nat) (k : Nat) (hn1 : 1 ≤ n) (hn4 : n ≤ 4) (hfn : f < 2 ^ 2 ^ n) (hk1 : ∀ j, kn j ≤ 1) (hC : mC kn d fo) (hk : k < (pF n f).length) : Con E l yM_form bM_form 6 (some .int) { frames := 3, cells := 0, slots := 0, locals := 72 } [.ref (h), .int (nI (f)), .int (nI (k))] [((h), .inr (5, [.int (nI (0)), .int (nI (n)), .ref (m1), .int (nI (st)), .ref (m2), .ref (m3), .ref (m4), .int (nI (mn)), .ref (m5), .ref (m6), .ref (m7), .ref (m8), .ref (m9), .ref (ma), .ref (mb)])), kB E (m5) (5) (kn), kM E (m6) (65812) (d), kI E (m7) (120) (fo)] (fun r w => ∃ kn1 d1 fo1 : Nat → Nat, r = some (.int (nI ((pF n f).getD k 0))) ∧ (∀ j, kn1 j ≤ 1) ∧ mC kn1 d1 fo1 ∧ w = [((h), .inr (5, [.int (nI (0)), .int (nI (n)), .ref (m1), .int (nI (st)), .ref (m2), .ref (m3), .ref (m4), .int (nI (mn)), .ref (m5), .ref (m6), .ref (m7), .ref (m8), .ref (m9), .ref (ma), .ref (mb)])), kB E (m5) (5) (kn1), kM E (m6) (65812) (d1), kI E (m7) (120) (fo1)]) := by
  refine Con.ofI (by decide) (Nat.le_of_ble_eq_true rfl) ?_
  intro J C hret
  show J 0 [(0, .ref (h)), (1, .int (nI (f))), (2, .int (nI (k)))] [] [((h), .inr (5, [.int (nI (0)), .int (nI (n)), .ref (m1), .int (nI (st)), .ref (m2), .ref (m3), .ref (m4), .int (nI (mn)), .ref (m5), .ref (m6), .ref (m7), .ref (m8), .ref (m9), .ref (ma), .ref (mb)])), kB E (m5) (5) (kn), kM E (m6) (65812) (d), kI E (m7) (120) (fo)] 0 0
  have hp16 := p16 hn4
  have hp1 := p1 n
  have hF := p65 hn4
  have hF0 := p1 (2 ^ n)
  have h81 := p81 hn4
  have hc := coff_fit hn1 hn4
  have hq := poff_fit hn1 hn4
  have h30 := p3_pos n
  have l6 := pF_6 hn4 hfn
  refine J_aload_n C 0 dM_form_0 rfl rfl ?_
  refine J_iconst C (v := nI (0)) dM_form_1 (by decide) ?_
  refine J_put C (ws' := [((h), .inr (5, [.int (nI (0)), .int (nI (n)), .ref (m1), .int (nI (st)), .ref (m2), .ref (m3), .ref (m4), .int (nI (mn)), .ref (m5), .ref (m6), .ref (m7), .ref (m8), .ref (m9), .ref (ma), .ref (mb)])), kB E (m5) (5) (kn), kM E (m6) (65812) (d), kI E (m7) (120) (fo)]) 0 0 tyM hinM tyokM nmM rfl rfl (by decide) fkM_53 rfl rfl rfl (Nat.le_of_ble_eq_true rfl) dM_form_2 rfl ?_
  refine J_iload_n C 1 dM_form_5 rfl rfl ?_
  refine J_if_lt C 22 (nI_toInt (n := f) (by omega)) dM_form_6 (by decide) (fun h6 => ?_) (fun h6 => ?_)
  · exfalso; omega
  · refine J_iload_n C 1 dM_form_9 rfl rfl ?_
    refine J_aload_n C 0 dM_form_10 rfl rfl ?_
    refine J_callV C (rest := [.int (nI (f))]) [] [((h), .inr (5, [.int (nI (0)), .int (nI (n)), .ref (m1), .int (nI (st)), .ref (m2), .ref (m3), .ref (m4), .int (nI (mn)), .ref (m5), .ref (m6), .ref (m7), .ref (m8), .ref (m9), .ref (ma), .ref (mb)]))] [kB E (m5) (5) (kn), kM E (m6) (65812) (d), kI E (m7) (120) (fo)] 0 (c_M_functions E l h n st mn m1 m2 m3 m4 m5 m6 m7 m8 m9 ma mb (by omega) (by omega)) mmM_functions msM_functions lkM_95 rfl rfl (rfl) rfl rfl ⟨by decide, by decide⟩ ⟨by decide, by decide⟩ (Nat.le_of_ble_eq_true rfl) dM_form_11 (fun r_c w_c hp => ?_)
    obtain ⟨rfl, rfl⟩ := hp
    refine J_norm C (st' := [.int (nI (2 ^ 2 ^ n)), .int (nI (f))]) (ws' := [((h), .inr (5, [.int (nI (0)), .int (nI (n)), .ref (m1), .int (nI (st)), .ref (m2), .ref (m3), .ref (m4), .int (nI (mn)), .ref (m5), .ref (m6), .ref (m7), .ref (m8), .ref (m9), .ref (ma), .ref (mb)])), kB E (m5) (5) (kn), kM E (m6) (65812) (d), kI E (m7) (120) (fo)]) (cs' := 0) (ss' := 0) rfl (rfl) rfl rfl ?_
    refine J_icmp_ge C 22 (nI_toInt (n := f) (by omega)) (nI_toInt (n := 2 ^ 2 ^ n) (by omega)) dM_form_14 (by decide) (fun h14 => ?_) (fun h14 => ?_)
    · exfalso; omega
    · refine J_iload_n C 2 dM_form_17 rfl rfl ?_
      refine J_iconst C (v := -1) dM_form_18 (by decide) ?_
      refine J_icmp_ge C 24 (nI_toInt (n := k) (by omega)) j_m1 dM_form_19 (by decide) (fun h19 => ?_) (fun h19 => ?_)
      · refine J_aload_n C 0 dM_form_24 rfl rfl ?_
        refine J_callV C (rest := []) [] [((h), .inr (5, [.int (nI (0)), .int (nI (n)), .ref (m1), .int (nI (st)), .ref (m2), .ref (m3), .ref (m4), .int (nI (mn)), .ref (m5), .ref (m6), .ref (m7), .ref (m8), .ref (m9), .ref (ma), .ref (mb)])), kB E (m5) (5) (kn), kM E (m6) (65812) (d), kI E (m7) (120) (fo)] [] 0 (c_M_findCosts E l h n st mn m1 m2 m3 m4 m5 m6 m7 m8 m9 ma mb kn d fo (by omega) (by omega) (by assumption) (by assumption)) mmM_findCosts msM_findCosts lkM_101 rfl rfl (rfl) rfl rfl ⟨by decide, by decide⟩ ⟨by decide, by decide⟩ (Nat.le_of_ble_eq_true rfl) dM_form_25 (fun r_c w_c hp => ?_)
        obtain ⟨kn1, d1, fo1, rfl, hkn1, hC1, hkz1, rfl⟩ := hp
        refine J_norm C (st' := []) (ws' := [((h), .inr (5, [.int (nI (0)), .int (nI (n)), .ref (m1), .int (nI (st)), .ref (m2), .ref (m3), .ref (m4), .int (nI (mn)), .ref (m5), .ref (m6), .ref (m7), .ref (m8), .ref (m9), .ref (ma), .ref (mb)])), kB E (m5) (5) (kn1), kM E (m6) (65812) (d1), kI E (m7) (120) (fo1)]) (cs' := 0) (ss' := 0) rfl (rfl) rfl rfl ?_
        obtain ⟨hcs, hfs⟩ := hC1 n hn1 hn4 hkz1
        refine J_iload_n C 2 dM_form_28 rfl rfl ?_
        refine J_iconst C (v := -1) dM_form_29 (by decide) ?_
        refine J_icmp_ne C 44 (nI_toInt (n := k) (by omega)) j_m1 dM_form_30 (by decide) (fun h30 => ?_) (fun h30 => ?_)
        · refine J_iload_n C 1 dM_form_44 rfl rfl ?_
          refine J_istore_n C (lv' := [(0, .ref (h)), (1, .int (nI (f))), (2, .int (nI (k))), (3, .int (nI (f)))]) [1, 2, 3, 0] dM_form_45 rfl (by decide) rfl ?_
          refine J_iconst C (v := -1) dM_form_46 (by decide) ?_
          refine J_istore C (lv' := [(0, .ref (h)), (1, .int (nI (f))), (2, .int (nI (k))), (3, .int (nI (f))), (4, .int (-1))]) [1, 2, 3, 4, 0] dM_form_47 (by decide) rfl ?_
          refine J_iconst C (v := nI (0)) dM_form_49 (by decide) ?_
          refine J_istore C (lv' := [(0, .ref (h)), (1, .int (nI (f))), (2, .int (nI (k))), (3, .int (nI (f))), (4, .int (-1)), (5, .int (nI (0)))]) [1, 2, 3, 4, 5, 0] dM_form_50 (by decide) rfl ?_
          have lp_52 : ∀ (k_52 : Nat) (g : Nat) (tl : Int32) (j : Nat), (j ≤ k + 1) → (g < 2 ^ 2 ^ n) → (pF n g = (pF n f).drop j) → (j = 0 ∨ tl = nI ((pF n f).getD (j - 1) 0)) → (k + 1 - j) < k_52 → J 52 [(0, .ref (h)), (1, .int (nI (f))), (2, .int (nI (k))), (3, .int (nI (g))), (4, .int (tl)), (5, .int (nI (j)))] [] [((h), .inr (5, [.int (nI (0)), .int (nI (n)), .ref (m1), .int (nI (st)), .ref (m2), .ref (m3), .ref (m4), .int (nI (mn)), .ref (m5), .ref (m6), .ref (m7), .ref (m8), .ref (m9), .ref (ma), .ref (mb)])), kB E (m5) (5) (kn1), kM E (m6) (65812) (d1), kI E (m7) (120) (fo1)] (0) (0) := by
            intro k_52
            induction k_52 with
            | zero => intro g tl j hj hg hdr htl hk_52; exact absurd hk_52 (Nat.not_lt_zero _)
            | succ k_52 ih_52 =>
              intro g tl j hj hg hdr htl hk_52
              refine J_iload C 5 dM_form_52 rfl ?_
              refine J_iload_n C 2 dM_form_54 rfl rfl ?_
              refine J_icmp_gt C 130 (nI_toInt (n := j) (by omega)) (nI_toInt (n := k) (by omega)) dM_form_55 (by decide) (fun h55 => ?_) (fun h55 => ?_)
              · have hjk : j = k + 1 := by omega
                refine J_iload C 4 dM_form_130 rfl ?_
                exact hret _ _ _ _ _ _ dM_form_132 (by decide) (by decide) (⟨_, _, _, by rcases htl with q | q; (exact absurd q (by omega)); (rw [q, show j - 1 = k by omega]), hkn1, hC1, rfl⟩)
              · refine J_iload_n C 3 dM_form_58 rfl rfl ?_
                refine J_if_ne C 64 (nI_toInt (n := g) (by omega)) dM_form_59 (by decide) (fun h59 => ?_) (fun h59 => ?_)
                · have hne : g ≠ 0 := by omega
                  have hjl : j < (pF n f).length := by
                    rcases Nat.lt_or_ge j (pF n f).length with q | q
                    · exact q
                    · rw [List.drop_eq_nil_of_le q] at hdr
                      exact absurd (pc_eq0 hg (by unfold pc; rw [hdr]; rfl)) hne
                  rw [drop_cons hjl] at hdr
                  obtain ⟨hp3, hpc, hps, hpl⟩ := pF_cons hn4 hg hdr
                  have hpos : 1 ≤ pc n g := by omega
                  refine J_iconst C (v := nI (0)) dM_form_64 (by decide) ?_
                  refine J_istore C (lv' := [(0, .ref (h)), (1, .int (nI (f))), (2, .int (nI (k))), (3, .int (nI (g))), (4, .int (nI (0))), (5, .int (nI (j)))]) [1, 2, 3, 4, 0, 5] dM_form_65 (by decide) rfl ?_
                  have lp_67 : ∀ (k_67 : Nat) (t : Nat), (t ≤ (pF n f).getD j 0) → (∀ q, q < t → pc n (g ^^^ pfn n q) + 1 ≠ pc n g) → ((pF n f).getD j 0 - t) < k_67 → J 67 [(0, .ref (h)), (1, .int (nI (f))), (2, .int (nI (k))), (3, .int (nI (g))), (4, .int (nI (t))), (5, .int (nI (j)))] [] [((h), .inr (5, [.int (nI (0)), .int (nI (n)), .ref (m1), .int (nI (st)), .ref (m2), .ref (m3), .ref (m4), .int (nI (mn)), .ref (m5), .ref (m6), .ref (m7), .ref (m8), .ref (m9), .ref (ma), .ref (mb)])), kB E (m5) (5) (kn1), kM E (m6) (65812) (d1), kI E (m7) (120) (fo1)] (0) (0) := by
                    intro k_67
                    induction k_67 with
                    | zero => intro t ht hno hk_67; exact absurd hk_67 (Nat.not_lt_zero _)
                    | succ k_67 ih_67 =>
                      intro t ht hno hk_67
                      have ht3 : t < 3 ^ n := by omega
                      have xt := Nat.xor_lt_two_pow hg (pfn_lt n t)
                      refine J_aload_n C 0 dM_form_67 rfl rfl ?_
                      refine J_get C 0 9 hinM rfl rfl (by decide) fkM_27 rfl dM_form_68 ?_
                      refine J_aload_n C 0 dM_form_71 rfl rfl ?_
                      refine J_iload_n C 3 dM_form_72 rfl rfl ?_
                      refine J_aload_n C 0 dM_form_73 rfl rfl ?_
                      refine J_get C 0 10 hinM rfl rfl (by decide) fkM_30 rfl dM_form_74 ?_
                      refine J_aload_n C 0 dM_form_77 rfl rfl ?_
                      refine J_iload C 4 dM_form_78 rfl ?_
                      refine J_callV C (rest := [.ref (m7), .int (nI (g)), .ref (h), .ref (m6)]) [] [((h), .inr (5, [.int (nI (0)), .int (nI (n)), .ref (m1), .int (nI (st)), .ref (m2), .ref (m3), .ref (m4), .int (nI (mn)), .ref (m5), .ref (m6), .ref (m7), .ref (m8), .ref (m9), .ref (ma), .ref (mb)]))] [kB E (m5) (5) (kn1), kM E (m6) (65812) (d1), kI E (m7) (120) (fo1)] 0 (c_M_productAt E l h n st mn m1 m2 m3 m4 m5 m6 m7 m8 m9 ma mb t (by omega) (by omega)) mmM_productAt msM_productAt lkM_88 rfl rfl (rfl) rfl rfl ⟨by decide, by decide⟩ ⟨by decide, by decide⟩ (Nat.le_of_ble_eq_true rfl) dM_form_80 (fun r_c w_c hp => ?_)
                      obtain ⟨rfl, rfl⟩ := hp
                      refine J_norm C (st' := [.int (nI (t + poff n)), .ref (m7), .int (nI (g)), .ref (h), .ref (m6)]) (ws' := [((h), .inr (5, [.int (nI (0)), .int (nI (n)), .ref (m1), .int (nI (st)), .ref (m2), .ref (m3), .ref (m4), .int (nI (mn)), .ref (m5), .ref (m6), .ref (m7), .ref (m8), .ref (m9), .ref (ma), .ref (mb)])), kB E (m5) (5) (kn1), kM E (m6) (65812) (d1), kI E (m7) (120) (fo1)]) (cs' := 0) (ss' := 0) rfl (rfl) rfl rfl ?_
                      refine J_iald C 3 rfl (by omega) (by omega) dM_form_83 ?_
                      refine J_topN C (n' := pfn n t) (hfs t (by omega)) ?_
                      refine J_ixorN C dM_form_84 ?_
                      refine J_callV C (rest := [.ref (m6)]) [] [((h), .inr (5, [.int (nI (0)), .int (nI (n)), .ref (m1), .int (nI (st)), .ref (m2), .ref (m3), .ref (m4), .int (nI (mn)), .ref (m5), .ref (m6), .ref (m7), .ref (m8), .ref (m9), .ref (ma), .ref (mb)]))] [kB E (m5) (5) (kn1), kM E (m6) (65812) (d1), kI E (m7) (120) (fo1)] 0 (c_M_costAt E l h n st mn m1 m2 m3 m4 m5 m6 m7 m8 m9 ma mb (g ^^^ (pfn n t)) (by omega) (by omega)) mmM_costAt msM_costAt lkM_98 rfl rfl (rfl) rfl rfl ⟨by decide, by decide⟩ ⟨by decide, by decide⟩ (Nat.le_of_ble_eq_true rfl) dM_form_85 (fun r_c w_c hp => ?_)
                      obtain ⟨rfl, rfl⟩ := hp
                      refine J_norm C (st' := [.int (nI ((g ^^^ (pfn n t)) + coff n)), .ref (m6)]) (ws' := [((h), .inr (5, [.int (nI (0)), .int (nI (n)), .ref (m1), .int (nI (st)), .ref (m2), .ref (m3), .ref (m4), .int (nI (mn)), .ref (m5), .ref (m6), .ref (m7), .ref (m8), .ref (m9), .ref (ma), .ref (mb)])), kB E (m5) (5) (kn1), kM E (m6) (65812) (d1), kI E (m7) (120) (fo1)]) (cs' := 0) (ss' := 0) rfl (rfl) rfl rfl ?_
                      refine J_iald C 2 rfl (by omega) (by omega) dM_form_88 ?_
                      refine J_topX C (x' := nI (pc n (g ^^^ pfn n t))) (by rw [hcs _ xt, mI_s]) ?_
                      refine J_aload_n C 0 dM_form_89 rfl rfl ?_
                      refine J_get C 0 9 hinM rfl rfl (by decide) fkM_27 rfl dM_form_90 ?_
                      refine J_aload_n C 0 dM_form_93 rfl rfl ?_
                      refine J_iload_n C 3 dM_form_94 rfl rfl ?_
                      refine J_callV C (rest := [.ref (m6), .int (nI (pc n (g ^^^ pfn n t)))]) [] [((h), .inr (5, [.int (nI (0)), .int (nI (n)), .ref (m1), .int (nI (st)), .ref (m2), .ref (m3), .ref (m4), .int (nI (mn)), .ref (m5), .ref (m6), .ref (m7), .ref (m8), .ref (m9), .ref (ma), .ref (mb)]))] [kB E (m5) (5) (kn1), kM E (m6) (65812) (d1), kI E (m7) (120) (fo1)] 0 (c_M_costAt E l h n st mn m1 m2 m3 m4 m5 m6 m7 m8 m9 ma mb g (by omega) (by omega)) mmM_costAt msM_costAt lkM_98 rfl rfl (rfl) rfl rfl ⟨by decide, by decide⟩ ⟨by decide, by decide⟩ (Nat.le_of_ble_eq_true rfl) dM_form_95 (fun r_c w_c hp => ?_)
                      obtain ⟨rfl, rfl⟩ := hp
                      refine J_norm C (st' := [.int (nI (g + coff n)), .ref (m6), .int (nI (pc n (g ^^^ pfn n t)))]) (ws' := [((h), .inr (5, [.int (nI (0)), .int (nI (n)), .ref (m1), .int (nI (st)), .ref (m2), .ref (m3), .ref (m4), .int (nI (mn)), .ref (m5), .ref (m6), .ref (m7), .ref (m8), .ref (m9), .ref (ma), .ref (mb)])), kB E (m5) (5) (kn1), kM E (m6) (65812) (d1), kI E (m7) (120) (fo1)]) (cs' := 0) (ss' := 0) rfl (rfl) rfl rfl ?_
                      refine J_iald C 2 rfl (by omega) (by omega) dM_form_98 ?_
                      refine J_topX C (x' := nI (pc n g)) (by rw [hcs g hg, mI_s]) ?_
                      refine J_iconst C (v := nI (1)) dM_form_99 (by decide) ?_
                      refine J_isubN C dM_form_100 (by omega) ?_
                      refine J_icmp_eq C 110 (nI_toInt (n := pc n (g ^^^ pfn n t)) (by have := pc_le6 hn4 xt; omega)) (nI_toInt (n := (pc n g) - 1) (by have := pc_le6 hn4 hg; omega)) dM_form_101 (by decide) (fun h101 => ?_) (fun h101 => ?_)
                      · have htp : t = (pF n f).getD j 0 := by
                          rcases Nat.lt_or_ge t ((pF n f).getD j 0) with q | q
                          · exact absurd (by omega) (hpl t q)
                          · omega
                        have hdr2 : pF n (g ^^^ pfn n t) = (pF n f).drop (j + 1) := by rw [hps, htp]
                        refine J_iload_n C 3 dM_form_110 rfl rfl ?_
                        refine J_aload_n C 0 dM_form_111 rfl rfl ?_
                        refine J_get C 0 10 hinM rfl rfl (by decide) fkM_30 rfl dM_form_112 ?_
                        refine J_aload_n C 0 dM_form_115 rfl rfl ?_
                        refine J_iload C 4 dM_form_116 rfl ?_
                        refine J_callV C (rest := [.ref (m7), .int (nI (g))]) [] [((h), .inr (5, [.int (nI (0)), .int (nI (n)), .ref (m1), .int (nI (st)), .ref (m2), .ref (m3), .ref (m4), .int (nI (mn)), .ref (m5), .ref (m6), .ref (m7), .ref (m8), .ref (m9), .ref (ma), .ref (mb)]))] [kB E (m5) (5) (kn1), kM E (m6) (65812) (d1), kI E (m7) (120) (fo1)] 0 (c_M_productAt E l h n st mn m1 m2 m3 m4 m5 m6 m7 m8 m9 ma mb t (by omega) (by omega)) mmM_productAt msM_productAt lkM_88 rfl rfl (rfl) rfl rfl ⟨by decide, by decide⟩ ⟨by decide, by decide⟩ (Nat.le_of_ble_eq_true rfl) dM_form_118 (fun r_c w_c hp => ?_)
                        obtain ⟨rfl, rfl⟩ := hp
                        refine J_norm C (st' := [.int (nI (t + poff n)), .ref (m7), .int (nI (g))]) (ws' := [((h), .inr (5, [.int (nI (0)), .int (nI (n)), .ref (m1), .int (nI (st)), .ref (m2), .ref (m3), .ref (m4), .int (nI (mn)), .ref (m5), .ref (m6), .ref (m7), .ref (m8), .ref (m9), .ref (ma), .ref (mb)])), kB E (m5) (5) (kn1), kM E (m6) (65812) (d1), kI E (m7) (120) (fo1)]) (cs' := 0) (ss' := 0) rfl (rfl) rfl rfl ?_
                        refine J_iald C 3 rfl (by omega) (by omega) dM_form_121 ?_
                        refine J_topN C (n' := pfn n t) (hfs t (by omega)) ?_
                        refine J_ixorN C dM_form_122 ?_
                        refine J_istore_n C (lv' := [(0, .ref (h)), (1, .int (nI (f))), (2, .int (nI (k))), (3, .int (nI (g ^^^ (pfn n t)))), (4, .int (nI (t))), (5, .int (nI (j)))]) [1, 2, 3, 0, 4, 5] dM_form_123 rfl (by decide) rfl ?_
                        refine J_iinc C (lv' := [(0, .ref (h)), (1, .int (nI (f))), (2, .int (nI (k))), (3, .int (nI (g ^^^ (pfn n t)))), (4, .int (nI (t))), (5, .int (nI (j + 1)))]) 5 [1, 2, 3, 4, 5, 0] dM_form_124 rfl (jn_inc _) (by decide) rfl ?_
                        refine J_goto C 52 dM_form_127 (by decide) ?_
                        exact ih_52 (g ^^^ (pfn n t)) (nI (t)) (j + 1) (by omega) (Nat.xor_lt_two_pow hg (pfn_lt n t)) (hdr2) (Or.inr (by rw [show j + 1 - 1 = j by omega, ← htp])) (by omega)
                      · have htn : t ≠ (pF n f).getD j 0 := by
                          intro q
                          rw [← q] at hpc
                          omega
                        refine J_iinc C (lv' := [(0, .ref (h)), (1, .int (nI (f))), (2, .int (nI (k))), (3, .int (nI (g))), (4, .int (nI (t + 1))), (5, .int (nI (j)))]) 4 [1, 2, 3, 4, 0, 5] dM_form_104 rfl (jn_inc _) (by decide) rfl ?_
                        refine J_goto C 67 dM_form_107 (by decide) ?_
                        exact ih_67 (t + 1) (by omega) (fun q hq => by by_cases e : q = t; (rw [e]; omega); exact hno q (by omega)) (by omega)
                  exact lp_67 ((pF n f).getD j 0 + 1) 0 (by omega) (fun q hq => by omega) (by omega)
                · exfalso
                  obtain rfl : 0 = g := by omega
                  rw [pF_0] at hdr
                  have := congrArg List.length hdr
                  simp at this
                  omega
          exact lp_52 (k + 1 + 1) f (-1) 0 (by omega) (hfn) (rfl) (Or.inl rfl) (by omega)
        · exfalso; omega
      · exfalso; omega
set_option maxHeartbeats 4000000 in
set_option maxRecDepth 100000 in
theorem c_M_form_x (E : jE) (l : Launch) (h : Nat) (n : Nat) (st : Nat) (mn : Nat) (m1 : Nat) (m2 : Nat) (m3 : Nat) (m4 : Nat) (m5 : Nat) (m6 : Nat) (m7 : Nat) (m8 : Nat) (m9 : Nat) (ma : Nat) (mb : Nat) (kn : Nat → Nat) (d : Nat → Nat) (fo : Nat → Nat) (f : Nat) (x : Int32) (hn1 : 1 ≤ n) (hn4 : n ≤ 4) (hfn : f < 2 ^ 2 ^ n) (hk1 : ∀ j, kn j ≤ 1) (hC : mC kn d fo) (hx : ((pF n f).length : Int) ≤ x.toInt) : Con E l yM_form bM_form 6 (some .int) { frames := 3, cells := 0, slots := 0, locals := 72 } [.ref (h), .int (nI (f)), .int (x)] [((h), .inr (5, [.int (nI (0)), .int (nI (n)), .ref (m1), .int (nI (st)), .ref (m2), .ref (m3), .ref (m4), .int (nI (mn)), .ref (m5), .ref (m6), .ref (m7), .ref (m8), .ref (m9), .ref (ma), .ref (mb)])), kB E (m5) (5) (kn), kM E (m6) (65812) (d), kI E (m7) (120) (fo)] (fun r w => ∃ kn1 d1 fo1 : Nat → Nat, r = some (.int (-1)) ∧ (∀ j, kn1 j ≤ 1) ∧ mC kn1 d1 fo1 ∧ w = [((h), .inr (5, [.int (nI (0)), .int (nI (n)), .ref (m1), .int (nI (st)), .ref (m2), .ref (m3), .ref (m4), .int (nI (mn)), .ref (m5), .ref (m6), .ref (m7), .ref (m8), .ref (m9), .ref (ma), .ref (mb)])), kB E (m5) (5) (kn1), kM E (m6) (65812) (d1), kI E (m7) (120) (fo1)]) := by
  refine Con.ofI (by decide) (Nat.le_of_ble_eq_true rfl) ?_
  intro J C hret
  show J 0 [(0, .ref (h)), (1, .int (nI (f))), (2, .int (x))] [] [((h), .inr (5, [.int (nI (0)), .int (nI (n)), .ref (m1), .int (nI (st)), .ref (m2), .ref (m3), .ref (m4), .int (nI (mn)), .ref (m5), .ref (m6), .ref (m7), .ref (m8), .ref (m9), .ref (ma), .ref (mb)])), kB E (m5) (5) (kn), kM E (m6) (65812) (d), kI E (m7) (120) (fo)] 0 0
  have hp16 := p16 hn4
  have hp1 := p1 n
  have hF := p65 hn4
  have hF0 := p1 (2 ^ n)
  have h81 := p81 hn4
  have hc := coff_fit hn1 hn4
  have hq := poff_fit hn1 hn4
  have h30 := p3_pos n
  have l6 := pF_6 hn4 hfn
  refine J_aload_n C 0 dM_form_0 rfl rfl ?_
  refine J_iconst C (v := nI (0)) dM_form_1 (by decide) ?_
  refine J_put C (ws' := [((h), .inr (5, [.int (nI (0)), .int (nI (n)), .ref (m1), .int (nI (st)), .ref (m2), .ref (m3), .ref (m4), .int (nI (mn)), .ref (m5), .ref (m6), .ref (m7), .ref (m8), .ref (m9), .ref (ma), .ref (mb)])), kB E (m5) (5) (kn), kM E (m6) (65812) (d), kI E (m7) (120) (fo)]) 0 0 tyM hinM tyokM nmM rfl rfl (by decide) fkM_53 rfl rfl rfl (Nat.le_of_ble_eq_true rfl) dM_form_2 rfl ?_
  refine J_iload_n C 1 dM_form_5 rfl rfl ?_
  refine J_if_lt C 22 (nI_toInt (n := f) (by omega)) dM_form_6 (by decide) (fun h6 => ?_) (fun h6 => ?_)
  · exfalso; omega
  · refine J_iload_n C 1 dM_form_9 rfl rfl ?_
    refine J_aload_n C 0 dM_form_10 rfl rfl ?_
    refine J_callV C (rest := [.int (nI (f))]) [] [((h), .inr (5, [.int (nI (0)), .int (nI (n)), .ref (m1), .int (nI (st)), .ref (m2), .ref (m3), .ref (m4), .int (nI (mn)), .ref (m5), .ref (m6), .ref (m7), .ref (m8), .ref (m9), .ref (ma), .ref (mb)]))] [kB E (m5) (5) (kn), kM E (m6) (65812) (d), kI E (m7) (120) (fo)] 0 (c_M_functions E l h n st mn m1 m2 m3 m4 m5 m6 m7 m8 m9 ma mb (by omega) (by omega)) mmM_functions msM_functions lkM_95 rfl rfl (rfl) rfl rfl ⟨by decide, by decide⟩ ⟨by decide, by decide⟩ (Nat.le_of_ble_eq_true rfl) dM_form_11 (fun r_c w_c hp => ?_)
    obtain ⟨rfl, rfl⟩ := hp
    refine J_norm C (st' := [.int (nI (2 ^ 2 ^ n)), .int (nI (f))]) (ws' := [((h), .inr (5, [.int (nI (0)), .int (nI (n)), .ref (m1), .int (nI (st)), .ref (m2), .ref (m3), .ref (m4), .int (nI (mn)), .ref (m5), .ref (m6), .ref (m7), .ref (m8), .ref (m9), .ref (ma), .ref (mb)])), kB E (m5) (5) (kn), kM E (m6) (65812) (d), kI E (m7) (120) (fo)]) (cs' := 0) (ss' := 0) rfl (rfl) rfl rfl ?_
    refine J_icmp_ge C 22 (nI_toInt (n := f) (by omega)) (nI_toInt (n := 2 ^ 2 ^ n) (by omega)) dM_form_14 (by decide) (fun h14 => ?_) (fun h14 => ?_)
    · exfalso; omega
    · refine J_iload_n C 2 dM_form_17 rfl rfl ?_
      refine J_iconst C (v := -1) dM_form_18 (by decide) ?_
      refine J_icmp_ge C 24 rfl j_m1 dM_form_19 (by decide) (fun h19 => ?_) (fun h19 => ?_)
      · refine J_aload_n C 0 dM_form_24 rfl rfl ?_
        refine J_callV C (rest := []) [] [((h), .inr (5, [.int (nI (0)), .int (nI (n)), .ref (m1), .int (nI (st)), .ref (m2), .ref (m3), .ref (m4), .int (nI (mn)), .ref (m5), .ref (m6), .ref (m7), .ref (m8), .ref (m9), .ref (ma), .ref (mb)])), kB E (m5) (5) (kn), kM E (m6) (65812) (d), kI E (m7) (120) (fo)] [] 0 (c_M_findCosts E l h n st mn m1 m2 m3 m4 m5 m6 m7 m8 m9 ma mb kn d fo (by omega) (by omega) (by assumption) (by assumption)) mmM_findCosts msM_findCosts lkM_101 rfl rfl (rfl) rfl rfl ⟨by decide, by decide⟩ ⟨by decide, by decide⟩ (Nat.le_of_ble_eq_true rfl) dM_form_25 (fun r_c w_c hp => ?_)
        obtain ⟨kn1, d1, fo1, rfl, hkn1, hC1, hkz1, rfl⟩ := hp
        refine J_norm C (st' := []) (ws' := [((h), .inr (5, [.int (nI (0)), .int (nI (n)), .ref (m1), .int (nI (st)), .ref (m2), .ref (m3), .ref (m4), .int (nI (mn)), .ref (m5), .ref (m6), .ref (m7), .ref (m8), .ref (m9), .ref (ma), .ref (mb)])), kB E (m5) (5) (kn1), kM E (m6) (65812) (d1), kI E (m7) (120) (fo1)]) (cs' := 0) (ss' := 0) rfl (rfl) rfl rfl ?_
        obtain ⟨hcs, hfs⟩ := hC1 n hn1 hn4 hkz1
        refine J_iload_n C 2 dM_form_28 rfl rfl ?_
        refine J_iconst C (v := -1) dM_form_29 (by decide) ?_
        refine J_icmp_ne C 44 rfl j_m1 dM_form_30 (by decide) (fun h30 => ?_) (fun h30 => ?_)
        · refine J_iload_n C 1 dM_form_44 rfl rfl ?_
          refine J_istore_n C (lv' := [(0, .ref (h)), (1, .int (nI (f))), (2, .int (x)), (3, .int (nI (f)))]) [1, 2, 3, 0] dM_form_45 rfl (by decide) rfl ?_
          refine J_iconst C (v := -1) dM_form_46 (by decide) ?_
          refine J_istore C (lv' := [(0, .ref (h)), (1, .int (nI (f))), (2, .int (x)), (3, .int (nI (f))), (4, .int (-1))]) [1, 2, 3, 4, 0] dM_form_47 (by decide) rfl ?_
          refine J_iconst C (v := nI (0)) dM_form_49 (by decide) ?_
          refine J_istore C (lv' := [(0, .ref (h)), (1, .int (nI (f))), (2, .int (x)), (3, .int (nI (f))), (4, .int (-1)), (5, .int (nI (0)))]) [1, 2, 3, 4, 5, 0] dM_form_50 (by decide) rfl ?_
          have lp_52 : ∀ (k_52 : Nat) (g : Nat) (tl : Int32) (j : Nat), (j ≤ (pF n f).length) → (g < 2 ^ 2 ^ n) → (pF n g = (pF n f).drop j) → (j = 0 ∨ tl = nI ((pF n f).getD (j - 1) 0)) → ((pF n f).length - j) < k_52 → J 52 [(0, .ref (h)), (1, .int (nI (f))), (2, .int (x)), (3, .int (nI (g))), (4, .int (tl)), (5, .int (nI (j)))] [] [((h), .inr (5, [.int (nI (0)), .int (nI (n)), .ref (m1), .int (nI (st)), .ref (m2), .ref (m3), .ref (m4), .int (nI (mn)), .ref (m5), .ref (m6), .ref (m7), .ref (m8), .ref (m9), .ref (ma), .ref (mb)])), kB E (m5) (5) (kn1), kM E (m6) (65812) (d1), kI E (m7) (120) (fo1)] (0) (0) := by
            intro k_52
            induction k_52 with
            | zero => intro g tl j hj hg hdr htl hk_52; exact absurd hk_52 (Nat.not_lt_zero _)
            | succ k_52 ih_52 =>
              intro g tl j hj hg hdr htl hk_52
              refine J_iload C 5 dM_form_52 rfl ?_
              refine J_iload_n C 2 dM_form_54 rfl rfl ?_
              refine J_icmp_gt C 130 (nI_toInt (n := j) (by omega)) rfl dM_form_55 (by decide) (fun h55 => ?_) (fun h55 => ?_)
              · exfalso; omega
              · refine J_iload_n C 3 dM_form_58 rfl rfl ?_
                refine J_if_ne C 64 (nI_toInt (n := g) (by omega)) dM_form_59 (by decide) (fun h59 => ?_) (fun h59 => ?_)
                · have hne : g ≠ 0 := by omega
                  have hjl : j < (pF n f).length := by
                    rcases Nat.lt_or_ge j (pF n f).length with q | q
                    · exact q
                    · rw [List.drop_eq_nil_of_le q] at hdr
                      exact absurd (pc_eq0 hg (by unfold pc; rw [hdr]; rfl)) hne
                  rw [drop_cons hjl] at hdr
                  obtain ⟨hp3, hpc, hps, hpl⟩ := pF_cons hn4 hg hdr
                  have hpos : 1 ≤ pc n g := by omega
                  refine J_iconst C (v := nI (0)) dM_form_64 (by decide) ?_
                  refine J_istore C (lv' := [(0, .ref (h)), (1, .int (nI (f))), (2, .int (x)), (3, .int (nI (g))), (4, .int (nI (0))), (5, .int (nI (j)))]) [1, 2, 3, 4, 0, 5] dM_form_65 (by decide) rfl ?_
                  have lp_67 : ∀ (k_67 : Nat) (t : Nat), (t ≤ (pF n f).getD j 0) → (∀ q, q < t → pc n (g ^^^ pfn n q) + 1 ≠ pc n g) → ((pF n f).getD j 0 - t) < k_67 → J 67 [(0, .ref (h)), (1, .int (nI (f))), (2, .int (x)), (3, .int (nI (g))), (4, .int (nI (t))), (5, .int (nI (j)))] [] [((h), .inr (5, [.int (nI (0)), .int (nI (n)), .ref (m1), .int (nI (st)), .ref (m2), .ref (m3), .ref (m4), .int (nI (mn)), .ref (m5), .ref (m6), .ref (m7), .ref (m8), .ref (m9), .ref (ma), .ref (mb)])), kB E (m5) (5) (kn1), kM E (m6) (65812) (d1), kI E (m7) (120) (fo1)] (0) (0) := by
                    intro k_67
                    induction k_67 with
                    | zero => intro t ht hno hk_67; exact absurd hk_67 (Nat.not_lt_zero _)
                    | succ k_67 ih_67 =>
                      intro t ht hno hk_67
                      have ht3 : t < 3 ^ n := by omega
                      have xt := Nat.xor_lt_two_pow hg (pfn_lt n t)
                      refine J_aload_n C 0 dM_form_67 rfl rfl ?_
                      refine J_get C 0 9 hinM rfl rfl (by decide) fkM_27 rfl dM_form_68 ?_
                      refine J_aload_n C 0 dM_form_71 rfl rfl ?_
                      refine J_iload_n C 3 dM_form_72 rfl rfl ?_
                      refine J_aload_n C 0 dM_form_73 rfl rfl ?_
                      refine J_get C 0 10 hinM rfl rfl (by decide) fkM_30 rfl dM_form_74 ?_
                      refine J_aload_n C 0 dM_form_77 rfl rfl ?_
                      refine J_iload C 4 dM_form_78 rfl ?_
                      refine J_callV C (rest := [.ref (m7), .int (nI (g)), .ref (h), .ref (m6)]) [] [((h), .inr (5, [.int (nI (0)), .int (nI (n)), .ref (m1), .int (nI (st)), .ref (m2), .ref (m3), .ref (m4), .int (nI (mn)), .ref (m5), .ref (m6), .ref (m7), .ref (m8), .ref (m9), .ref (ma), .ref (mb)]))] [kB E (m5) (5) (kn1), kM E (m6) (65812) (d1), kI E (m7) (120) (fo1)] 0 (c_M_productAt E l h n st mn m1 m2 m3 m4 m5 m6 m7 m8 m9 ma mb t (by omega) (by omega)) mmM_productAt msM_productAt lkM_88 rfl rfl (rfl) rfl rfl ⟨by decide, by decide⟩ ⟨by decide, by decide⟩ (Nat.le_of_ble_eq_true rfl) dM_form_80 (fun r_c w_c hp => ?_)
                      obtain ⟨rfl, rfl⟩ := hp
                      refine J_norm C (st' := [.int (nI (t + poff n)), .ref (m7), .int (nI (g)), .ref (h), .ref (m6)]) (ws' := [((h), .inr (5, [.int (nI (0)), .int (nI (n)), .ref (m1), .int (nI (st)), .ref (m2), .ref (m3), .ref (m4), .int (nI (mn)), .ref (m5), .ref (m6), .ref (m7), .ref (m8), .ref (m9), .ref (ma), .ref (mb)])), kB E (m5) (5) (kn1), kM E (m6) (65812) (d1), kI E (m7) (120) (fo1)]) (cs' := 0) (ss' := 0) rfl (rfl) rfl rfl ?_
                      refine J_iald C 3 rfl (by omega) (by omega) dM_form_83 ?_
                      refine J_topN C (n' := pfn n t) (hfs t (by omega)) ?_
                      refine J_ixorN C dM_form_84 ?_
                      refine J_callV C (rest := [.ref (m6)]) [] [((h), .inr (5, [.int (nI (0)), .int (nI (n)), .ref (m1), .int (nI (st)), .ref (m2), .ref (m3), .ref (m4), .int (nI (mn)), .ref (m5), .ref (m6), .ref (m7), .ref (m8), .ref (m9), .ref (ma), .ref (mb)]))] [kB E (m5) (5) (kn1), kM E (m6) (65812) (d1), kI E (m7) (120) (fo1)] 0 (c_M_costAt E l h n st mn m1 m2 m3 m4 m5 m6 m7 m8 m9 ma mb (g ^^^ (pfn n t)) (by omega) (by omega)) mmM_costAt msM_costAt lkM_98 rfl rfl (rfl) rfl rfl ⟨by decide, by decide⟩ ⟨by decide, by decide⟩ (Nat.le_of_ble_eq_true rfl) dM_form_85 (fun r_c w_c hp => ?_)
                      obtain ⟨rfl, rfl⟩ := hp
                      refine J_norm C (st' := [.int (nI ((g ^^^ (pfn n t)) + coff n)), .ref (m6)]) (ws' := [((h), .inr (5, [.int (nI (0)), .int (nI (n)), .ref (m1), .int (nI (st)), .ref (m2), .ref (m3), .ref (m4), .int (nI (mn)), .ref (m5), .ref (m6), .ref (m7), .ref (m8), .ref (m9), .ref (ma), .ref (mb)])), kB E (m5) (5) (kn1), kM E (m6) (65812) (d1), kI E (m7) (120) (fo1)]) (cs' := 0) (ss' := 0) rfl (rfl) rfl rfl ?_
                      refine J_iald C 2 rfl (by omega) (by omega) dM_form_88 ?_
                      refine J_topX C (x' := nI (pc n (g ^^^ pfn n t))) (by rw [hcs _ xt, mI_s]) ?_
                      refine J_aload_n C 0 dM_form_89 rfl rfl ?_
                      refine J_get C 0 9 hinM rfl rfl (by decide) fkM_27 rfl dM_form_90 ?_
                      refine J_aload_n C 0 dM_form_93 rfl rfl ?_
                      refine J_iload_n C 3 dM_form_94 rfl rfl ?_
                      refine J_callV C (rest := [.ref (m6), .int (nI (pc n (g ^^^ pfn n t)))]) [] [((h), .inr (5, [.int (nI (0)), .int (nI (n)), .ref (m1), .int (nI (st)), .ref (m2), .ref (m3), .ref (m4), .int (nI (mn)), .ref (m5), .ref (m6), .ref (m7), .ref (m8), .ref (m9), .ref (ma), .ref (mb)]))] [kB E (m5) (5) (kn1), kM E (m6) (65812) (d1), kI E (m7) (120) (fo1)] 0 (c_M_costAt E l h n st mn m1 m2 m3 m4 m5 m6 m7 m8 m9 ma mb g (by omega) (by omega)) mmM_costAt msM_costAt lkM_98 rfl rfl (rfl) rfl rfl ⟨by decide, by decide⟩ ⟨by decide, by decide⟩ (Nat.le_of_ble_eq_true rfl) dM_form_95 (fun r_c w_c hp => ?_)
                      obtain ⟨rfl, rfl⟩ := hp
                      refine J_norm C (st' := [.int (nI (g + coff n)), .ref (m6), .int (nI (pc n (g ^^^ pfn n t)))]) (ws' := [((h), .inr (5, [.int (nI (0)), .int (nI (n)), .ref (m1), .int (nI (st)), .ref (m2), .ref (m3), .ref (m4), .int (nI (mn)), .ref (m5), .ref (m6), .ref (m7), .ref (m8), .ref (m9), .ref (ma), .ref (mb)])), kB E (m5) (5) (kn1), kM E (m6) (65812) (d1), kI E (m7) (120) (fo1)]) (cs' := 0) (ss' := 0) rfl (rfl) rfl rfl ?_
                      refine J_iald C 2 rfl (by omega) (by omega) dM_form_98 ?_
                      refine J_topX C (x' := nI (pc n g)) (by rw [hcs g hg, mI_s]) ?_
                      refine J_iconst C (v := nI (1)) dM_form_99 (by decide) ?_
                      refine J_isubN C dM_form_100 (by omega) ?_
                      refine J_icmp_eq C 110 (nI_toInt (n := pc n (g ^^^ pfn n t)) (by have := pc_le6 hn4 xt; omega)) (nI_toInt (n := (pc n g) - 1) (by have := pc_le6 hn4 hg; omega)) dM_form_101 (by decide) (fun h101 => ?_) (fun h101 => ?_)
                      · have htp : t = (pF n f).getD j 0 := by
                          rcases Nat.lt_or_ge t ((pF n f).getD j 0) with q | q
                          · exact absurd (by omega) (hpl t q)
                          · omega
                        have hdr2 : pF n (g ^^^ pfn n t) = (pF n f).drop (j + 1) := by rw [hps, htp]
                        refine J_iload_n C 3 dM_form_110 rfl rfl ?_
                        refine J_aload_n C 0 dM_form_111 rfl rfl ?_
                        refine J_get C 0 10 hinM rfl rfl (by decide) fkM_30 rfl dM_form_112 ?_
                        refine J_aload_n C 0 dM_form_115 rfl rfl ?_
                        refine J_iload C 4 dM_form_116 rfl ?_
                        refine J_callV C (rest := [.ref (m7), .int (nI (g))]) [] [((h), .inr (5, [.int (nI (0)), .int (nI (n)), .ref (m1), .int (nI (st)), .ref (m2), .ref (m3), .ref (m4), .int (nI (mn)), .ref (m5), .ref (m6), .ref (m7), .ref (m8), .ref (m9), .ref (ma), .ref (mb)]))] [kB E (m5) (5) (kn1), kM E (m6) (65812) (d1), kI E (m7) (120) (fo1)] 0 (c_M_productAt E l h n st mn m1 m2 m3 m4 m5 m6 m7 m8 m9 ma mb t (by omega) (by omega)) mmM_productAt msM_productAt lkM_88 rfl rfl (rfl) rfl rfl ⟨by decide, by decide⟩ ⟨by decide, by decide⟩ (Nat.le_of_ble_eq_true rfl) dM_form_118 (fun r_c w_c hp => ?_)
                        obtain ⟨rfl, rfl⟩ := hp
                        refine J_norm C (st' := [.int (nI (t + poff n)), .ref (m7), .int (nI (g))]) (ws' := [((h), .inr (5, [.int (nI (0)), .int (nI (n)), .ref (m1), .int (nI (st)), .ref (m2), .ref (m3), .ref (m4), .int (nI (mn)), .ref (m5), .ref (m6), .ref (m7), .ref (m8), .ref (m9), .ref (ma), .ref (mb)])), kB E (m5) (5) (kn1), kM E (m6) (65812) (d1), kI E (m7) (120) (fo1)]) (cs' := 0) (ss' := 0) rfl (rfl) rfl rfl ?_
                        refine J_iald C 3 rfl (by omega) (by omega) dM_form_121 ?_
                        refine J_topN C (n' := pfn n t) (hfs t (by omega)) ?_
                        refine J_ixorN C dM_form_122 ?_
                        refine J_istore_n C (lv' := [(0, .ref (h)), (1, .int (nI (f))), (2, .int (x)), (3, .int (nI (g ^^^ (pfn n t)))), (4, .int (nI (t))), (5, .int (nI (j)))]) [1, 2, 3, 0, 4, 5] dM_form_123 rfl (by decide) rfl ?_
                        refine J_iinc C (lv' := [(0, .ref (h)), (1, .int (nI (f))), (2, .int (x)), (3, .int (nI (g ^^^ (pfn n t)))), (4, .int (nI (t))), (5, .int (nI (j + 1)))]) 5 [1, 2, 3, 4, 5, 0] dM_form_124 rfl (jn_inc _) (by decide) rfl ?_
                        refine J_goto C 52 dM_form_127 (by decide) ?_
                        exact ih_52 (g ^^^ (pfn n t)) (nI (t)) (j + 1) (by omega) (Nat.xor_lt_two_pow hg (pfn_lt n t)) (hdr2) (Or.inr (by rw [show j + 1 - 1 = j by omega, ← htp])) (by omega)
                      · have htn : t ≠ (pF n f).getD j 0 := by
                          intro q
                          rw [← q] at hpc
                          omega
                        refine J_iinc C (lv' := [(0, .ref (h)), (1, .int (nI (f))), (2, .int (x)), (3, .int (nI (g))), (4, .int (nI (t + 1))), (5, .int (nI (j)))]) 4 [1, 2, 3, 4, 0, 5] dM_form_104 rfl (jn_inc _) (by decide) rfl ?_
                        refine J_goto C 67 dM_form_107 (by decide) ?_
                        exact ih_67 (t + 1) (by omega) (fun q hq => by by_cases e : q = t; (rw [e]; omega); exact hno q (by omega)) (by omega)
                  exact lp_67 ((pF n f).getD j 0 + 1) 0 (by omega) (fun q hq => by omega) (by omega)
                · refine J_iconst C (v := -1) dM_form_62 (by decide) ?_
                  exact hret _ _ _ _ _ _ dM_form_63 (by decide) (by decide) (⟨_, _, _, rfl, hkn1, hC1, rfl⟩)
          exact lp_52 ((pF n f).length + 1) f (-1) 0 (by omega) (hfn) (rfl) (Or.inl rfl) (by omega)
        · exfalso; omega
      · exfalso; omega
