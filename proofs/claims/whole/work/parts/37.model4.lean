set_option maxHeartbeats 4000000 in
set_option maxRecDepth 100000 in
theorem c_M_lengthTo (E : jE) (l : Launch) (h : Nat) (n : Nat) (st : Nat) (mn : Nat) (m1 : Nat) (m2 : Nat) (m3 : Nat) (m4 : Nat) (m5 : Nat) (m6 : Nat) (m7 : Nat) (m8 : Nat) (m9 : Nat) (ma : Nat) (mb : Nat) (s1 : Nat → Nat) (nd : Nat → Nat) (b : Nat) (kk : Nat) (ss : Nat) (fd : Nat) (c1 : Nat → Nat) (q1 : Nat → Nat) (b1 : Nat → Nat) (π : Nat → List Nat) (e : Nat) (hs12 : st ≤ 12) (hfs : fS st nd b kk ss fd c1 q1 s1 b1 π) (he : e < fd) : Con E l yM_lengthTo bM_lengthTo 4 (some .int) { frames := 0, cells := 0, slots := 0, locals := 0 } [.ref (h), .int (nI (e))] [((h), .inr (5, [.int (nI (0)), .int (nI (n)), .ref (m1), .int (nI (st)), .ref (m2), .ref (m3), .ref (m4), .int (nI (mn)), .ref (m5), .ref (m6), .ref (m7), .ref (m8), .ref (m9), .ref (ma), .ref (mb)])), kM E (ma) (4096) (s1)] (fun r w => r = some (.int (nI (π e).length)) ∧ w = [((h), .inr (5, [.int (nI (0)), .int (nI (n)), .ref (m1), .int (nI (st)), .ref (m2), .ref (m3), .ref (m4), .int (nI (mn)), .ref (m5), .ref (m6), .ref (m7), .ref (m8), .ref (m9), .ref (ma), .ref (mb)])), kM E (ma) (4096) (s1)]) := by
  refine Con.ofI (by decide) (Nat.le_of_ble_eq_true rfl) ?_
  intro J C hret
  show J 0 [(0, .ref (h)), (1, .int (nI (e)))] [] [((h), .inr (5, [.int (nI (0)), .int (nI (n)), .ref (m1), .int (nI (st)), .ref (m2), .ref (m3), .ref (m4), .int (nI (mn)), .ref (m5), .ref (m6), .ref (m7), .ref (m8), .ref (m9), .ref (ma), .ref (mb)])), kM E (ma) (4096) (s1)] 0 0
  have hfd := fS_found hs12 hfs
  refine J_iconst C (v := nI (0)) dM_lengthTo_0 (by decide) ?_
  refine J_istore_n C (lv' := [(0, .ref (h)), (1, .int (nI (e))), (2, .int (nI (0)))]) [1, 2, 0] dM_lengthTo_1 rfl (by decide) rfl ?_
  refine J_iload_n C 1 dM_lengthTo_2 rfl rfl ?_
  refine J_istore_n C (lv' := [(0, .ref (h)), (1, .int (nI (e))), (2, .int (nI (0))), (3, .int (nI (e)))]) [1, 2, 3, 0] dM_lengthTo_3 rfl (by decide) rfl ?_
  have lp_4 : ∀ (k_4 : Nat) (nn ta : Nat), (ta < fd) → ((π e).length = nn + (π ta).length) → (ta) < k_4 → J 4 [(0, .ref (h)), (1, .int (nI (e))), (2, .int (nI (nn))), (3, .int (nI (ta)))] [] [((h), .inr (5, [.int (nI (0)), .int (nI (n)), .ref (m1), .int (nI (st)), .ref (m2), .ref (m3), .ref (m4), .int (nI (mn)), .ref (m5), .ref (m6), .ref (m7), .ref (m8), .ref (m9), .ref (ma), .ref (mb)])), kM E (ma) (4096) (s1)] (0) (0) := by
    intro k_4
    induction k_4 with
    | zero => intro nn ta hat hlen hk_4; exact absurd hk_4 (Nat.not_lt_zero _)
    | succ k_4 ih_4 =>
      intro nn ta hat hlen hk_4
      have hw := fS_way hfs hat
      have hsl : s1 ta ≤ 4096 := by
        rcases Nat.eq_zero_or_pos (s1 ta) with q | q
        · omega
        · have := (hw.2 (by omega)).1; omega
      refine J_aload_n C 0 dM_lengthTo_4 rfl rfl ?_
      refine J_get C 0 13 hinM rfl rfl (by decide) fkM_39 rfl dM_lengthTo_5 ?_
      refine J_iload_n C 3 dM_lengthTo_8 rfl rfl ?_
      refine J_iald C 1 rfl (by omega) (by omega) dM_lengthTo_9 ?_
      refine J_iconst C (v := -1) dM_lengthTo_10 (by decide) ?_
      refine J_icmp_eq C 27 (mI_toInt (d := s1 ta) (by omega)) j_m1 dM_lengthTo_11 (by decide) (fun h11 => ?_) (fun h11 => ?_)
      · have hz := (hw.1 (by omega)).2
        rw [hz] at hlen
        simp only [List.length_nil, Nat.add_zero] at hlen
        refine J_iload_n C 2 dM_lengthTo_27 rfl rfl ?_
        exact hret _ _ _ _ _ _ dM_lengthTo_28 (by decide) (by decide) (⟨by rw [hlen], rfl⟩)
      · obtain ⟨hlt, hbm, hpi⟩ := hw.2 (by omega)
        have hpl := congrArg List.length hpi
        simp only [List.length_append, List.length_cons, List.length_nil] at hpl
        refine J_iinc C (lv' := [(0, .ref (h)), (1, .int (nI (e))), (2, .int (nI (nn + 1))), (3, .int (nI (ta)))]) 2 [1, 2, 0, 3] dM_lengthTo_14 rfl (jn_inc _) (by decide) rfl ?_
        refine J_aload_n C 0 dM_lengthTo_17 rfl rfl ?_
        refine J_get C 0 13 hinM rfl rfl (by decide) fkM_39 rfl dM_lengthTo_18 ?_
        refine J_iload_n C 3 dM_lengthTo_21 rfl rfl ?_
        refine J_iald C 1 rfl (by omega) (by omega) dM_lengthTo_22 ?_
        refine J_topX C (x' := nI (s1 ta - 1)) (mI_pos (by omega)) ?_
        refine J_istore_n C (lv' := [(0, .ref (h)), (1, .int (nI (e))), (2, .int (nI (nn + 1))), (3, .int (nI (s1 ta - 1)))]) [1, 2, 3, 0] dM_lengthTo_23 rfl (by decide) rfl ?_
        refine J_goto C 4 dM_lengthTo_24 (by decide) ?_
        exact ih_4 (nn + 1) (s1 ta - 1) (by omega) (by omega) (by omega)
  exact lp_4 (e + 1) 0 e (he) (by omega) (by omega)
set_option maxHeartbeats 4000000 in
set_option maxRecDepth 100000 in
theorem c_M_move_f (E : jE) (l : Launch) (h : Nat) (n : Nat) (st : Nat) (mn : Nat) (m1 : Nat) (m2 : Nat) (m3 : Nat) (m4 : Nat) (m5 : Nat) (m6 : Nat) (m7 : Nat) (m8 : Nat) (m9 : Nat) (ma : Nat) (mb : Nat) (x : Int32) (z : Int32) (hx : x.toInt < 1 ∨ z.toInt < -1) : Con E l yM_move bM_move 7 (some .int) { frames := 0, cells := 0, slots := 0, locals := 0 } [.ref (h), .int (x), .int (z)] [((h), .inr (5, [.int (nI (0)), .int (nI (n)), .ref (m1), .int (nI (st)), .ref (m2), .ref (m3), .ref (m4), .int (nI (mn)), .ref (m5), .ref (m6), .ref (m7), .ref (m8), .ref (m9), .ref (ma), .ref (mb)]))] (fun r w => r = some (.int (-1)) ∧ w = [((h), .inr (5, [.int (nI (0)), .int (nI (n)), .ref (m1), .int (nI (st)), .ref (m2), .ref (m3), .ref (m4), .int (nI (mn)), .ref (m5), .ref (m6), .ref (m7), .ref (m8), .ref (m9), .ref (ma), .ref (mb)]))]) := by
  refine Con.ofI (by decide) (Nat.le_of_ble_eq_true rfl) ?_
  intro J C hret
  show J 0 [(0, .ref (h)), (1, .int (x)), (2, .int (z))] [] [((h), .inr (5, [.int (nI (0)), .int (nI (n)), .ref (m1), .int (nI (st)), .ref (m2), .ref (m3), .ref (m4), .int (nI (mn)), .ref (m5), .ref (m6), .ref (m7), .ref (m8), .ref (m9), .ref (ma), .ref (mb)]))] 0 0
  refine J_aload_n C 0 dM_move_0 rfl rfl ?_
  refine J_iconst C (v := nI (0)) dM_move_1 (by decide) ?_
  refine J_put C (ws' := [((h), .inr (5, [.int (nI (0)), .int (nI (n)), .ref (m1), .int (nI (st)), .ref (m2), .ref (m3), .ref (m4), .int (nI (mn)), .ref (m5), .ref (m6), .ref (m7), .ref (m8), .ref (m9), .ref (ma), .ref (mb)]))]) 0 0 tyM hinM tyokM nmM rfl rfl (by decide) fkM_53 rfl rfl rfl (Nat.le_of_ble_eq_true rfl) dM_move_2 rfl ?_
  refine J_iload_n C 1 dM_move_5 rfl rfl ?_
  refine J_iconst C (v := nI (1)) dM_move_6 (by decide) ?_
  refine J_icmp_lt C 15 rfl (nI_toInt (n := 1) (by decide)) dM_move_7 (by decide) (fun h7 => ?_) (fun h7 => ?_)
  · refine J_iconst C (v := -1) dM_move_15 (by decide) ?_
    exact hret _ _ _ _ _ _ dM_move_16 (by decide) (by decide) (⟨rfl, rfl⟩)
  · refine J_iload_n C 2 dM_move_10 rfl rfl ?_
    refine J_iconst C (v := -1) dM_move_11 (by decide) ?_
    refine J_icmp_ge C 17 rfl j_m1 dM_move_12 (by decide) (fun h12 => ?_) (fun h12 => ?_)
    · exfalso; omega
    · refine J_iconst C (v := -1) dM_move_15 (by decide) ?_
      exact hret _ _ _ _ _ _ dM_move_16 (by decide) (by decide) (⟨rfl, rfl⟩)
set_option maxHeartbeats 4000000 in
set_option maxRecDepth 100000 in
theorem c_M_move_n (E : jE) (l : Launch) (h : Nat) (n : Nat) (st : Nat) (mn : Nat) (m1 : Nat) (m2 : Nat) (m3 : Nat) (m4 : Nat) (m5 : Nat) (m6 : Nat) (m7 : Nat) (m8 : Nat) (m9 : Nat) (ma : Nat) (mb : Nat) (nd : Nat → Nat) (co : Nat → Nat) (qq : Nat → Nat) (sr : Nat → Nat) (bw : Nat → Nat) (b : Nat) (z : Int32) (hg : mG st nd) (hb : b < 2 ^ 31) (hco : ∀ j, co j ≤ 1) (hb1 : 1 ≤ b) (hno0 : ∀ qs, ¬ mP st nd b 0 qs (2 ^ (st - 1))) (hz : -1 ≤ z.toInt) : Con E l yM_move bM_move 7 (some .int) { frames := 2, cells := 0, slots := 0, locals := 48 } [.ref (h), .int (nI (b)), .int (z)] [((h), .inr (5, [.int (nI (0)), .int (nI (n)), .ref (m1), .int (nI (st)), .ref (m2), .ref (m3), .ref (m4), .int (nI (mn)), .ref (m5), .ref (m6), .ref (m7), .ref (m8), .ref (m9), .ref (ma), .ref (mb)])), kI E (m2) (12) (nd), kB E (m8) (4096) (co), kI E (m9) (4096) (qq), kM E (ma) (4096) (sr), kI E (mb) (4096) (bw)] (fun r w => ∃ c1 q1 s1 b1 : Nat → Nat, r = some (.int (-1)) ∧ (∀ j, c1 j ≤ 1) ∧ w = [((h), .inr (5, [.int (nI (0)), .int (nI (n)), .ref (m1), .int (nI (st)), .ref (m2), .ref (m3), .ref (m4), .int (nI (mn)), .ref (m5), .ref (m6), .ref (m7), .ref (m8), .ref (m9), .ref (ma), .ref (mb)])), kI E (m2) (12) (nd), kB E (m8) (4096) (c1), kI E (m9) (4096) (q1), kM E (ma) (4096) (s1), kI E (mb) (4096) (b1)]) := by
  refine Con.ofI (by decide) (Nat.le_of_ble_eq_true rfl) ?_
  intro J C hret
  show J 0 [(0, .ref (h)), (1, .int (nI (b))), (2, .int (z))] [] [((h), .inr (5, [.int (nI (0)), .int (nI (n)), .ref (m1), .int (nI (st)), .ref (m2), .ref (m3), .ref (m4), .int (nI (mn)), .ref (m5), .ref (m6), .ref (m7), .ref (m8), .ref (m9), .ref (ma), .ref (mb)])), kI E (m2) (12) (nd), kB E (m8) (4096) (co), kI E (m9) (4096) (qq), kM E (ma) (4096) (sr), kI E (mb) (4096) (bw)] 0 0
  refine J_aload_n C 0 dM_move_0 rfl rfl ?_
  refine J_iconst C (v := nI (0)) dM_move_1 (by decide) ?_
  refine J_put C (ws' := [((h), .inr (5, [.int (nI (0)), .int (nI (n)), .ref (m1), .int (nI (st)), .ref (m2), .ref (m3), .ref (m4), .int (nI (mn)), .ref (m5), .ref (m6), .ref (m7), .ref (m8), .ref (m9), .ref (ma), .ref (mb)])), kI E (m2) (12) (nd), kB E (m8) (4096) (co), kI E (m9) (4096) (qq), kM E (ma) (4096) (sr), kI E (mb) (4096) (bw)]) 0 0 tyM hinM tyokM nmM rfl rfl (by decide) fkM_53 rfl rfl rfl (Nat.le_of_ble_eq_true rfl) dM_move_2 rfl ?_
  refine J_iload_n C 1 dM_move_5 rfl rfl ?_
  refine J_iconst C (v := nI (1)) dM_move_6 (by decide) ?_
  refine J_icmp_lt C 15 (nI_toInt (n := b) (by omega)) (nI_toInt (n := 1) (by decide)) dM_move_7 (by decide) (fun h7 => ?_) (fun h7 => ?_)
  · exfalso; omega
  · refine J_iload_n C 2 dM_move_10 rfl rfl ?_
    refine J_iconst C (v := -1) dM_move_11 (by decide) ?_
    refine J_icmp_ge C 17 rfl j_m1 dM_move_12 (by decide) (fun h12 => ?_) (fun h12 => ?_)
    · refine J_aload_n C 0 dM_move_17 rfl rfl ?_
      refine J_iload_n C 1 dM_move_18 rfl rfl ?_
      refine J_callV C (rest := []) [] [((h), .inr (5, [.int (nI (0)), .int (nI (n)), .ref (m1), .int (nI (st)), .ref (m2), .ref (m3), .ref (m4), .int (nI (mn)), .ref (m5), .ref (m6), .ref (m7), .ref (m8), .ref (m9), .ref (ma), .ref (mb)])), kI E (m2) (12) (nd), kB E (m8) (4096) (co), kI E (m9) (4096) (qq), kM E (ma) (4096) (sr), kI E (mb) (4096) (bw)] [] 0 (c_M_findEnd_n E l h n st mn m1 m2 m3 m4 m5 m6 m7 m8 m9 ma mb nd co qq sr bw b (by assumption) (by omega) (by assumption) (by assumption)) mmM_findEnd msM_findEnd lkM_107 rfl rfl (rfl) rfl rfl ⟨by decide, by decide⟩ ⟨by decide, by decide⟩ (Nat.le_of_ble_eq_true rfl) dM_move_19 (fun r_c w_c hp => ?_)
      obtain ⟨c1, q1, s1, b1, rfl, hc1, rfl⟩ := hp
      refine J_norm C (st' := [.int (-1)]) (ws' := [((h), .inr (5, [.int (nI (0)), .int (nI (n)), .ref (m1), .int (nI (st)), .ref (m2), .ref (m3), .ref (m4), .int (nI (mn)), .ref (m5), .ref (m6), .ref (m7), .ref (m8), .ref (m9), .ref (ma), .ref (mb)])), kI E (m2) (12) (nd), kB E (m8) (4096) (c1), kI E (m9) (4096) (q1), kM E (ma) (4096) (s1), kI E (mb) (4096) (b1)]) (cs' := 0) (ss' := 0) rfl (rfl) rfl rfl ?_
      refine J_istore_n C (lv' := [(0, .ref (h)), (1, .int (nI (b))), (2, .int (z)), (3, .int (-1))]) [1, 2, 3, 0] dM_move_22 rfl (by decide) rfl ?_
      refine J_iload_n C 3 dM_move_23 rfl rfl ?_
      refine J_iconst C (v := -1) dM_move_24 (by decide) ?_
      refine J_icmp_ne C 30 j_m1 j_m1 dM_move_25 (by decide) (fun h25 => ?_) (fun h25 => ?_)
      · exfalso; omega
      · refine J_iconst C (v := -1) dM_move_28 (by decide) ?_
        exact hret _ _ _ _ _ _ dM_move_29 (by decide) (by decide) (⟨_, _, _, _, rfl, hc1, rfl⟩)
    · exfalso; omega
set_option maxHeartbeats 4000000 in
set_option maxRecDepth 100000 in
theorem c_M_move_m (E : jE) (l : Launch) (h : Nat) (n : Nat) (st : Nat) (mn : Nat) (m1 : Nat) (m2 : Nat) (m3 : Nat) (m4 : Nat) (m5 : Nat) (m6 : Nat) (m7 : Nat) (m8 : Nat) (m9 : Nat) (ma : Nat) (mb : Nat) (nd : Nat → Nat) (co : Nat → Nat) (qq : Nat → Nat) (sr : Nat → Nat) (bw : Nat → Nat) (b : Nat) (ps : List Nat) (hg : mG st nd) (hb : b < 2 ^ 31) (hco : ∀ j, co j ≤ 1) (hb1 : 1 ≤ b) (hsp : mSP st nd b ps) : Con E l yM_move bM_move 7 (some .int) { frames := 2, cells := 0, slots := 0, locals := 48 } [.ref (h), .int (nI (b)), .int (-1)] [((h), .inr (5, [.int (nI (0)), .int (nI (n)), .ref (m1), .int (nI (st)), .ref (m2), .ref (m3), .ref (m4), .int (nI (mn)), .ref (m5), .ref (m6), .ref (m7), .ref (m8), .ref (m9), .ref (ma), .ref (mb)])), kI E (m2) (12) (nd), kB E (m8) (4096) (co), kI E (m9) (4096) (qq), kM E (ma) (4096) (sr), kI E (mb) (4096) (bw)] (fun r w => ∃ c1 q1 s1 b1 : Nat → Nat, r = some (.int (nI ps.length)) ∧ (∀ j, c1 j ≤ 1) ∧ w = [((h), .inr (5, [.int (nI (0)), .int (nI (n)), .ref (m1), .int (nI (st)), .ref (m2), .ref (m3), .ref (m4), .int (nI (mn)), .ref (m5), .ref (m6), .ref (m7), .ref (m8), .ref (m9), .ref (ma), .ref (mb)])), kI E (m2) (12) (nd), kB E (m8) (4096) (c1), kI E (m9) (4096) (q1), kM E (ma) (4096) (s1), kI E (mb) (4096) (b1)]) := by
  refine Con.ofI (by decide) (Nat.le_of_ble_eq_true rfl) ?_
  intro J C hret
  show J 0 [(0, .ref (h)), (1, .int (nI (b))), (2, .int (-1))] [] [((h), .inr (5, [.int (nI (0)), .int (nI (n)), .ref (m1), .int (nI (st)), .ref (m2), .ref (m3), .ref (m4), .int (nI (mn)), .ref (m5), .ref (m6), .ref (m7), .ref (m8), .ref (m9), .ref (ma), .ref (mb)])), kI E (m2) (12) (nd), kB E (m8) (4096) (co), kI E (m9) (4096) (qq), kM E (ma) (4096) (sr), kI E (mb) (4096) (bw)] 0 0
  refine J_aload_n C 0 dM_move_0 rfl rfl ?_
  refine J_iconst C (v := nI (0)) dM_move_1 (by decide) ?_
  refine J_put C (ws' := [((h), .inr (5, [.int (nI (0)), .int (nI (n)), .ref (m1), .int (nI (st)), .ref (m2), .ref (m3), .ref (m4), .int (nI (mn)), .ref (m5), .ref (m6), .ref (m7), .ref (m8), .ref (m9), .ref (ma), .ref (mb)])), kI E (m2) (12) (nd), kB E (m8) (4096) (co), kI E (m9) (4096) (qq), kM E (ma) (4096) (sr), kI E (mb) (4096) (bw)]) 0 0 tyM hinM tyokM nmM rfl rfl (by decide) fkM_53 rfl rfl rfl (Nat.le_of_ble_eq_true rfl) dM_move_2 rfl ?_
  refine J_iload_n C 1 dM_move_5 rfl rfl ?_
  refine J_iconst C (v := nI (1)) dM_move_6 (by decide) ?_
  refine J_icmp_lt C 15 (nI_toInt (n := b) (by omega)) (nI_toInt (n := 1) (by decide)) dM_move_7 (by decide) (fun h7 => ?_) (fun h7 => ?_)
  · exfalso; omega
  · refine J_iload_n C 2 dM_move_10 rfl rfl ?_
    refine J_iconst C (v := -1) dM_move_11 (by decide) ?_
    refine J_icmp_ge C 17 j_m1 j_m1 dM_move_12 (by decide) (fun h12 => ?_) (fun h12 => ?_)
    · refine J_aload_n C 0 dM_move_17 rfl rfl ?_
      refine J_iload_n C 1 dM_move_18 rfl rfl ?_
      refine J_callV C (rest := []) [] [((h), .inr (5, [.int (nI (0)), .int (nI (n)), .ref (m1), .int (nI (st)), .ref (m2), .ref (m3), .ref (m4), .int (nI (mn)), .ref (m5), .ref (m6), .ref (m7), .ref (m8), .ref (m9), .ref (ma), .ref (mb)])), kI E (m2) (12) (nd), kB E (m8) (4096) (co), kI E (m9) (4096) (qq), kM E (ma) (4096) (sr), kI E (mb) (4096) (bw)] [] 0 (c_M_findEnd_p E l h n st mn m1 m2 m3 m4 m5 m6 m7 m8 m9 ma mb nd co qq sr bw b (by assumption) (by omega) (by assumption) (⟨ps, hsp.1⟩)) mmM_findEnd msM_findEnd lkM_107 rfl rfl (rfl) rfl rfl ⟨by decide, by decide⟩ ⟨by decide, by decide⟩ (Nat.le_of_ble_eq_true rfl) dM_move_19 (fun r_c w_c hp => ?_)
      obtain ⟨c1, q1, s1, b1, k1, fd1, π1, rfl, hfe1, rfl⟩ := hp
      refine J_norm C (st' := [.int (nI (k1))]) (ws' := [((h), .inr (5, [.int (nI (0)), .int (nI (n)), .ref (m1), .int (nI (st)), .ref (m2), .ref (m3), .ref (m4), .int (nI (mn)), .ref (m5), .ref (m6), .ref (m7), .ref (m8), .ref (m9), .ref (ma), .ref (mb)])), kI E (m2) (12) (nd), kB E (m8) (4096) (c1), kI E (m9) (4096) (q1), kM E (ma) (4096) (s1), kI E (mb) (4096) (b1)]) (cs' := 0) (ss' := 0) rfl (rfl) rfl rfl ?_
      obtain ⟨hf1, hk1, hqk1⟩ := hfe1
      have eps : π1 k1 = ps := mSP_one hg (fI_found hf1.1 hk1 hqk1) hsp
      have hfdl := fS_found hg.2.1 hf1
      have hps := fS_len hf1 k1 hk1
      rw [eps] at hps
      refine J_istore_n C (lv' := [(0, .ref (h)), (1, .int (nI (b))), (2, .int (-1)), (3, .int (nI (k1)))]) [1, 2, 3, 0] dM_move_22 rfl (by decide) rfl ?_
      refine J_iload_n C 3 dM_move_23 rfl rfl ?_
      refine J_iconst C (v := -1) dM_move_24 (by decide) ?_
      refine J_icmp_ne C 30 (nI_toInt (n := k1) (by omega)) j_m1 dM_move_25 (by decide) (fun h25 => ?_) (fun h25 => ?_)
      · refine J_aload_n C 0 dM_move_30 rfl rfl ?_
        refine J_iload_n C 3 dM_move_31 rfl rfl ?_
        refine J_pick C (ws' := [((h), .inr (5, [.int (nI (0)), .int (nI (n)), .ref (m1), .int (nI (st)), .ref (m2), .ref (m3), .ref (m4), .int (nI (mn)), .ref (m5), .ref (m6), .ref (m7), .ref (m8), .ref (m9), .ref (ma), .ref (mb)])), kM E (ma) (4096) (s1), kI E (m2) (12) (nd), kB E (m8) (4096) (c1), kI E (m9) (4096) (q1), kI E (mb) (4096) (b1)]) [0, 4, 1, 2, 3, 5] (by decide) rfl ?_
        refine J_callV C (rest := []) [] [((h), .inr (5, [.int (nI (0)), .int (nI (n)), .ref (m1), .int (nI (st)), .ref (m2), .ref (m3), .ref (m4), .int (nI (mn)), .ref (m5), .ref (m6), .ref (m7), .ref (m8), .ref (m9), .ref (ma), .ref (mb)])), kM E (ma) (4096) (s1)] [kI E (m2) (12) (nd), kB E (m8) (4096) (c1), kI E (m9) (4096) (q1), kI E (mb) (4096) (b1)] 0 (c_M_lengthTo E l h n st mn m1 m2 m3 m4 m5 m6 m7 m8 m9 ma mb s1 nd b k1 0 fd1 c1 q1 b1 π1 k1 (hg.2.1) (hf1) (by omega)) mmM_lengthTo msM_lengthTo lkM_110 rfl rfl (rfl) rfl rfl ⟨by decide, by decide⟩ ⟨by decide, by decide⟩ (Nat.le_of_ble_eq_true rfl) dM_move_32 (fun r_c w_c hp => ?_)
        obtain ⟨rfl, rfl⟩ := hp
        refine J_norm C (st' := [.int (nI ((π1 k1).length))]) (ws' := [((h), .inr (5, [.int (nI (0)), .int (nI (n)), .ref (m1), .int (nI (st)), .ref (m2), .ref (m3), .ref (m4), .int (nI (mn)), .ref (m5), .ref (m6), .ref (m7), .ref (m8), .ref (m9), .ref (ma), .ref (mb)])), kM E (ma) (4096) (s1), kI E (m2) (12) (nd), kB E (m8) (4096) (c1), kI E (m9) (4096) (q1), kI E (mb) (4096) (b1)]) (cs' := 0) (ss' := 0) rfl (rfl) rfl rfl ?_
        refine J_pick C (ws' := [((h), .inr (5, [.int (nI (0)), .int (nI (n)), .ref (m1), .int (nI (st)), .ref (m2), .ref (m3), .ref (m4), .int (nI (mn)), .ref (m5), .ref (m6), .ref (m7), .ref (m8), .ref (m9), .ref (ma), .ref (mb)])), kI E (m2) (12) (nd), kB E (m8) (4096) (c1), kI E (m9) (4096) (q1), kM E (ma) (4096) (s1), kI E (mb) (4096) (b1)]) [0, 2, 3, 4, 1, 5] (by decide) rfl ?_
        refine J_topN C (n' := ps.length) (by rw [eps]) ?_
        refine J_istore C (lv' := [(0, .ref (h)), (1, .int (nI (b))), (2, .int (-1)), (3, .int (nI (k1))), (4, .int (nI (ps.length)))]) [1, 2, 3, 4, 0] dM_move_35 (by decide) rfl ?_
        refine J_iload_n C 2 dM_move_37 rfl rfl ?_
        refine J_iconst C (v := -1) dM_move_38 (by decide) ?_
        refine J_icmp_ne C 45 j_m1 j_m1 dM_move_39 (by decide) (fun h39 => ?_) (fun h39 => ?_)
        · exfalso; omega
        · refine J_iload C 4 dM_move_42 rfl ?_
          exact hret _ _ _ _ _ _ dM_move_44 (by decide) (by decide) (⟨_, _, _, _, rfl, hf1.2.2.2.2, rfl⟩)
      · exfalso; omega
    · exfalso; omega
set_option maxHeartbeats 4000000 in
set_option maxRecDepth 100000 in
theorem c_M_move_x (E : jE) (l : Launch) (h : Nat) (n : Nat) (st : Nat) (mn : Nat) (m1 : Nat) (m2 : Nat) (m3 : Nat) (m4 : Nat) (m5 : Nat) (m6 : Nat) (m7 : Nat) (m8 : Nat) (m9 : Nat) (ma : Nat) (mb : Nat) (nd : Nat → Nat) (co : Nat → Nat) (qq : Nat → Nat) (sr : Nat → Nat) (bw : Nat → Nat) (b : Nat) (ps : List Nat) (x : Int32) (hg : mG st nd) (hb : b < 2 ^ 31) (hco : ∀ j, co j ≤ 1) (hb1 : 1 ≤ b) (hsp : mSP st nd b ps) (hx : (ps.length : Int) ≤ x.toInt) : Con E l yM_move bM_move 7 (some .int) { frames := 2, cells := 0, slots := 0, locals := 48 } [.ref (h), .int (nI (b)), .int (x)] [((h), .inr (5, [.int (nI (0)), .int (nI (n)), .ref (m1), .int (nI (st)), .ref (m2), .ref (m3), .ref (m4), .int (nI (mn)), .ref (m5), .ref (m6), .ref (m7), .ref (m8), .ref (m9), .ref (ma), .ref (mb)])), kI E (m2) (12) (nd), kB E (m8) (4096) (co), kI E (m9) (4096) (qq), kM E (ma) (4096) (sr), kI E (mb) (4096) (bw)] (fun r w => ∃ c1 q1 s1 b1 : Nat → Nat, r = some (.int (-1)) ∧ (∀ j, c1 j ≤ 1) ∧ w = [((h), .inr (5, [.int (nI (0)), .int (nI (n)), .ref (m1), .int (nI (st)), .ref (m2), .ref (m3), .ref (m4), .int (nI (mn)), .ref (m5), .ref (m6), .ref (m7), .ref (m8), .ref (m9), .ref (ma), .ref (mb)])), kI E (m2) (12) (nd), kB E (m8) (4096) (c1), kI E (m9) (4096) (q1), kM E (ma) (4096) (s1), kI E (mb) (4096) (b1)]) := by
  refine Con.ofI (by decide) (Nat.le_of_ble_eq_true rfl) ?_
  intro J C hret
  show J 0 [(0, .ref (h)), (1, .int (nI (b))), (2, .int (x))] [] [((h), .inr (5, [.int (nI (0)), .int (nI (n)), .ref (m1), .int (nI (st)), .ref (m2), .ref (m3), .ref (m4), .int (nI (mn)), .ref (m5), .ref (m6), .ref (m7), .ref (m8), .ref (m9), .ref (ma), .ref (mb)])), kI E (m2) (12) (nd), kB E (m8) (4096) (co), kI E (m9) (4096) (qq), kM E (ma) (4096) (sr), kI E (mb) (4096) (bw)] 0 0
  refine J_aload_n C 0 dM_move_0 rfl rfl ?_
  refine J_iconst C (v := nI (0)) dM_move_1 (by decide) ?_
  refine J_put C (ws' := [((h), .inr (5, [.int (nI (0)), .int (nI (n)), .ref (m1), .int (nI (st)), .ref (m2), .ref (m3), .ref (m4), .int (nI (mn)), .ref (m5), .ref (m6), .ref (m7), .ref (m8), .ref (m9), .ref (ma), .ref (mb)])), kI E (m2) (12) (nd), kB E (m8) (4096) (co), kI E (m9) (4096) (qq), kM E (ma) (4096) (sr), kI E (mb) (4096) (bw)]) 0 0 tyM hinM tyokM nmM rfl rfl (by decide) fkM_53 rfl rfl rfl (Nat.le_of_ble_eq_true rfl) dM_move_2 rfl ?_
  refine J_iload_n C 1 dM_move_5 rfl rfl ?_
  refine J_iconst C (v := nI (1)) dM_move_6 (by decide) ?_
  refine J_icmp_lt C 15 (nI_toInt (n := b) (by omega)) (nI_toInt (n := 1) (by decide)) dM_move_7 (by decide) (fun h7 => ?_) (fun h7 => ?_)
  · exfalso; omega
  · refine J_iload_n C 2 dM_move_10 rfl rfl ?_
    refine J_iconst C (v := -1) dM_move_11 (by decide) ?_
    refine J_icmp_ge C 17 rfl j_m1 dM_move_12 (by decide) (fun h12 => ?_) (fun h12 => ?_)
    · refine J_aload_n C 0 dM_move_17 rfl rfl ?_
      refine J_iload_n C 1 dM_move_18 rfl rfl ?_
      refine J_callV C (rest := []) [] [((h), .inr (5, [.int (nI (0)), .int (nI (n)), .ref (m1), .int (nI (st)), .ref (m2), .ref (m3), .ref (m4), .int (nI (mn)), .ref (m5), .ref (m6), .ref (m7), .ref (m8), .ref (m9), .ref (ma), .ref (mb)])), kI E (m2) (12) (nd), kB E (m8) (4096) (co), kI E (m9) (4096) (qq), kM E (ma) (4096) (sr), kI E (mb) (4096) (bw)] [] 0 (c_M_findEnd_p E l h n st mn m1 m2 m3 m4 m5 m6 m7 m8 m9 ma mb nd co qq sr bw b (by assumption) (by omega) (by assumption) (⟨ps, hsp.1⟩)) mmM_findEnd msM_findEnd lkM_107 rfl rfl (rfl) rfl rfl ⟨by decide, by decide⟩ ⟨by decide, by decide⟩ (Nat.le_of_ble_eq_true rfl) dM_move_19 (fun r_c w_c hp => ?_)
      obtain ⟨c1, q1, s1, b1, k1, fd1, π1, rfl, hfe1, rfl⟩ := hp
      refine J_norm C (st' := [.int (nI (k1))]) (ws' := [((h), .inr (5, [.int (nI (0)), .int (nI (n)), .ref (m1), .int (nI (st)), .ref (m2), .ref (m3), .ref (m4), .int (nI (mn)), .ref (m5), .ref (m6), .ref (m7), .ref (m8), .ref (m9), .ref (ma), .ref (mb)])), kI E (m2) (12) (nd), kB E (m8) (4096) (c1), kI E (m9) (4096) (q1), kM E (ma) (4096) (s1), kI E (mb) (4096) (b1)]) (cs' := 0) (ss' := 0) rfl (rfl) rfl rfl ?_
      obtain ⟨hf1, hk1, hqk1⟩ := hfe1
      have eps : π1 k1 = ps := mSP_one hg (fI_found hf1.1 hk1 hqk1) hsp
      have hfdl := fS_found hg.2.1 hf1
      have hps := fS_len hf1 k1 hk1
      rw [eps] at hps
      refine J_istore_n C (lv' := [(0, .ref (h)), (1, .int (nI (b))), (2, .int (x)), (3, .int (nI (k1)))]) [1, 2, 3, 0] dM_move_22 rfl (by decide) rfl ?_
      refine J_iload_n C 3 dM_move_23 rfl rfl ?_
      refine J_iconst C (v := -1) dM_move_24 (by decide) ?_
      refine J_icmp_ne C 30 (nI_toInt (n := k1) (by omega)) j_m1 dM_move_25 (by decide) (fun h25 => ?_) (fun h25 => ?_)
      · refine J_aload_n C 0 dM_move_30 rfl rfl ?_
        refine J_iload_n C 3 dM_move_31 rfl rfl ?_
        refine J_pick C (ws' := [((h), .inr (5, [.int (nI (0)), .int (nI (n)), .ref (m1), .int (nI (st)), .ref (m2), .ref (m3), .ref (m4), .int (nI (mn)), .ref (m5), .ref (m6), .ref (m7), .ref (m8), .ref (m9), .ref (ma), .ref (mb)])), kM E (ma) (4096) (s1), kI E (m2) (12) (nd), kB E (m8) (4096) (c1), kI E (m9) (4096) (q1), kI E (mb) (4096) (b1)]) [0, 4, 1, 2, 3, 5] (by decide) rfl ?_
        refine J_callV C (rest := []) [] [((h), .inr (5, [.int (nI (0)), .int (nI (n)), .ref (m1), .int (nI (st)), .ref (m2), .ref (m3), .ref (m4), .int (nI (mn)), .ref (m5), .ref (m6), .ref (m7), .ref (m8), .ref (m9), .ref (ma), .ref (mb)])), kM E (ma) (4096) (s1)] [kI E (m2) (12) (nd), kB E (m8) (4096) (c1), kI E (m9) (4096) (q1), kI E (mb) (4096) (b1)] 0 (c_M_lengthTo E l h n st mn m1 m2 m3 m4 m5 m6 m7 m8 m9 ma mb s1 nd b k1 0 fd1 c1 q1 b1 π1 k1 (hg.2.1) (hf1) (by omega)) mmM_lengthTo msM_lengthTo lkM_110 rfl rfl (rfl) rfl rfl ⟨by decide, by decide⟩ ⟨by decide, by decide⟩ (Nat.le_of_ble_eq_true rfl) dM_move_32 (fun r_c w_c hp => ?_)
        obtain ⟨rfl, rfl⟩ := hp
        refine J_norm C (st' := [.int (nI ((π1 k1).length))]) (ws' := [((h), .inr (5, [.int (nI (0)), .int (nI (n)), .ref (m1), .int (nI (st)), .ref (m2), .ref (m3), .ref (m4), .int (nI (mn)), .ref (m5), .ref (m6), .ref (m7), .ref (m8), .ref (m9), .ref (ma), .ref (mb)])), kM E (ma) (4096) (s1), kI E (m2) (12) (nd), kB E (m8) (4096) (c1), kI E (m9) (4096) (q1), kI E (mb) (4096) (b1)]) (cs' := 0) (ss' := 0) rfl (rfl) rfl rfl ?_
        refine J_pick C (ws' := [((h), .inr (5, [.int (nI (0)), .int (nI (n)), .ref (m1), .int (nI (st)), .ref (m2), .ref (m3), .ref (m4), .int (nI (mn)), .ref (m5), .ref (m6), .ref (m7), .ref (m8), .ref (m9), .ref (ma), .ref (mb)])), kI E (m2) (12) (nd), kB E (m8) (4096) (c1), kI E (m9) (4096) (q1), kM E (ma) (4096) (s1), kI E (mb) (4096) (b1)]) [0, 2, 3, 4, 1, 5] (by decide) rfl ?_
        refine J_topN C (n' := ps.length) (by rw [eps]) ?_
        refine J_istore C (lv' := [(0, .ref (h)), (1, .int (nI (b))), (2, .int (x)), (3, .int (nI (k1))), (4, .int (nI (ps.length)))]) [1, 2, 3, 4, 0] dM_move_35 (by decide) rfl ?_
        refine J_iload_n C 2 dM_move_37 rfl rfl ?_
        refine J_iconst C (v := -1) dM_move_38 (by decide) ?_
        refine J_icmp_ne C 45 rfl j_m1 dM_move_39 (by decide) (fun h39 => ?_) (fun h39 => ?_)
        · refine J_iload_n C 2 dM_move_45 rfl rfl ?_
          refine J_iload C 4 dM_move_46 rfl ?_
          refine J_icmp_lt C 53 rfl (nI_toInt (n := ps.length) (by omega)) dM_move_48 (by decide) (fun h48 => ?_) (fun h48 => ?_)
          · exfalso; omega
          · refine J_iconst C (v := -1) dM_move_51 (by decide) ?_
            exact hret _ _ _ _ _ _ dM_move_52 (by decide) (by decide) (⟨_, _, _, _, rfl, hf1.2.2.2.2, rfl⟩)
        · exfalso; omega
      · exfalso; omega
    · exfalso; omega
set_option maxHeartbeats 4000000 in
set_option maxRecDepth 100000 in
theorem c_M_move_k (E : jE) (l : Launch) (h : Nat) (n : Nat) (st : Nat) (mn : Nat) (m1 : Nat) (m2 : Nat) (m3 : Nat) (m4 : Nat) (m5 : Nat) (m6 : Nat) (m7 : Nat) (m8 : Nat) (m9 : Nat) (ma : Nat) (mb : Nat) (nd : Nat → Nat) (co : Nat → Nat) (qq : Nat → Nat) (sr : Nat → Nat) (bw : Nat → Nat) (b : Nat) (ps : List Nat) (k : Nat) (hg : mG st nd) (hb : b < 2 ^ 31) (hco : ∀ j, co j ≤ 1) (hb1 : 1 ≤ b) (hsp : mSP st nd b ps) (hk31 : k < 2 ^ 31) (hk : k < ps.length) : Con E l yM_move bM_move 7 (some .int) { frames := 2, cells := 0, slots := 0, locals := 48 } [.ref (h), .int (nI (b)), .int (nI (k))] [((h), .inr (5, [.int (nI (0)), .int (nI (n)), .ref (m1), .int (nI (st)), .ref (m2), .ref (m3), .ref (m4), .int (nI (mn)), .ref (m5), .ref (m6), .ref (m7), .ref (m8), .ref (m9), .ref (ma), .ref (mb)])), kI E (m2) (12) (nd), kB E (m8) (4096) (co), kI E (m9) (4096) (qq), kM E (ma) (4096) (sr), kI E (mb) (4096) (bw)] (fun r w => ∃ c1 q1 s1 b1 : Nat → Nat, r = some (.int (nI (ps.getD k 0))) ∧ (∀ j, c1 j ≤ 1) ∧ w = [((h), .inr (5, [.int (nI (0)), .int (nI (n)), .ref (m1), .int (nI (st)), .ref (m2), .ref (m3), .ref (m4), .int (nI (mn)), .ref (m5), .ref (m6), .ref (m7), .ref (m8), .ref (m9), .ref (ma), .ref (mb)])), kI E (m2) (12) (nd), kB E (m8) (4096) (c1), kI E (m9) (4096) (q1), kM E (ma) (4096) (s1), kI E (mb) (4096) (b1)]) := by
  refine Con.ofI (by decide) (Nat.le_of_ble_eq_true rfl) ?_
  intro J C hret
  show J 0 [(0, .ref (h)), (1, .int (nI (b))), (2, .int (nI (k)))] [] [((h), .inr (5, [.int (nI (0)), .int (nI (n)), .ref (m1), .int (nI (st)), .ref (m2), .ref (m3), .ref (m4), .int (nI (mn)), .ref (m5), .ref (m6), .ref (m7), .ref (m8), .ref (m9), .ref (ma), .ref (mb)])), kI E (m2) (12) (nd), kB E (m8) (4096) (co), kI E (m9) (4096) (qq), kM E (ma) (4096) (sr), kI E (mb) (4096) (bw)] 0 0
  refine J_aload_n C 0 dM_move_0 rfl rfl ?_
  refine J_iconst C (v := nI (0)) dM_move_1 (by decide) ?_
  refine J_put C (ws' := [((h), .inr (5, [.int (nI (0)), .int (nI (n)), .ref (m1), .int (nI (st)), .ref (m2), .ref (m3), .ref (m4), .int (nI (mn)), .ref (m5), .ref (m6), .ref (m7), .ref (m8), .ref (m9), .ref (ma), .ref (mb)])), kI E (m2) (12) (nd), kB E (m8) (4096) (co), kI E (m9) (4096) (qq), kM E (ma) (4096) (sr), kI E (mb) (4096) (bw)]) 0 0 tyM hinM tyokM nmM rfl rfl (by decide) fkM_53 rfl rfl rfl (Nat.le_of_ble_eq_true rfl) dM_move_2 rfl ?_
  refine J_iload_n C 1 dM_move_5 rfl rfl ?_
  refine J_iconst C (v := nI (1)) dM_move_6 (by decide) ?_
  refine J_icmp_lt C 15 (nI_toInt (n := b) (by omega)) (nI_toInt (n := 1) (by decide)) dM_move_7 (by decide) (fun h7 => ?_) (fun h7 => ?_)
  · exfalso; omega
  · refine J_iload_n C 2 dM_move_10 rfl rfl ?_
    refine J_iconst C (v := -1) dM_move_11 (by decide) ?_
    refine J_icmp_ge C 17 (nI_toInt (n := k) (by omega)) j_m1 dM_move_12 (by decide) (fun h12 => ?_) (fun h12 => ?_)
    · refine J_aload_n C 0 dM_move_17 rfl rfl ?_
      refine J_iload_n C 1 dM_move_18 rfl rfl ?_
      refine J_callV C (rest := []) [] [((h), .inr (5, [.int (nI (0)), .int (nI (n)), .ref (m1), .int (nI (st)), .ref (m2), .ref (m3), .ref (m4), .int (nI (mn)), .ref (m5), .ref (m6), .ref (m7), .ref (m8), .ref (m9), .ref (ma), .ref (mb)])), kI E (m2) (12) (nd), kB E (m8) (4096) (co), kI E (m9) (4096) (qq), kM E (ma) (4096) (sr), kI E (mb) (4096) (bw)] [] 0 (c_M_findEnd_p E l h n st mn m1 m2 m3 m4 m5 m6 m7 m8 m9 ma mb nd co qq sr bw b (by assumption) (by omega) (by assumption) (⟨ps, hsp.1⟩)) mmM_findEnd msM_findEnd lkM_107 rfl rfl (rfl) rfl rfl ⟨by decide, by decide⟩ ⟨by decide, by decide⟩ (Nat.le_of_ble_eq_true rfl) dM_move_19 (fun r_c w_c hp => ?_)
      obtain ⟨c1, q1, s1, b1, k1, fd1, π1, rfl, hfe1, rfl⟩ := hp
      refine J_norm C (st' := [.int (nI (k1))]) (ws' := [((h), .inr (5, [.int (nI (0)), .int (nI (n)), .ref (m1), .int (nI (st)), .ref (m2), .ref (m3), .ref (m4), .int (nI (mn)), .ref (m5), .ref (m6), .ref (m7), .ref (m8), .ref (m9), .ref (ma), .ref (mb)])), kI E (m2) (12) (nd), kB E (m8) (4096) (c1), kI E (m9) (4096) (q1), kM E (ma) (4096) (s1), kI E (mb) (4096) (b1)]) (cs' := 0) (ss' := 0) rfl (rfl) rfl rfl ?_
      obtain ⟨hf1, hk1, hqk1⟩ := hfe1
      have eps : π1 k1 = ps := mSP_one hg (fI_found hf1.1 hk1 hqk1) hsp
      have hfdl := fS_found hg.2.1 hf1
      have hps := fS_len hf1 k1 hk1
      rw [eps] at hps
      refine J_istore_n C (lv' := [(0, .ref (h)), (1, .int (nI (b))), (2, .int (nI (k))), (3, .int (nI (k1)))]) [1, 2, 3, 0] dM_move_22 rfl (by decide) rfl ?_
      refine J_iload_n C 3 dM_move_23 rfl rfl ?_
      refine J_iconst C (v := -1) dM_move_24 (by decide) ?_
      refine J_icmp_ne C 30 (nI_toInt (n := k1) (by omega)) j_m1 dM_move_25 (by decide) (fun h25 => ?_) (fun h25 => ?_)
      · refine J_aload_n C 0 dM_move_30 rfl rfl ?_
        refine J_iload_n C 3 dM_move_31 rfl rfl ?_
        refine J_pick C (ws' := [((h), .inr (5, [.int (nI (0)), .int (nI (n)), .ref (m1), .int (nI (st)), .ref (m2), .ref (m3), .ref (m4), .int (nI (mn)), .ref (m5), .ref (m6), .ref (m7), .ref (m8), .ref (m9), .ref (ma), .ref (mb)])), kM E (ma) (4096) (s1), kI E (m2) (12) (nd), kB E (m8) (4096) (c1), kI E (m9) (4096) (q1), kI E (mb) (4096) (b1)]) [0, 4, 1, 2, 3, 5] (by decide) rfl ?_
        refine J_callV C (rest := []) [] [((h), .inr (5, [.int (nI (0)), .int (nI (n)), .ref (m1), .int (nI (st)), .ref (m2), .ref (m3), .ref (m4), .int (nI (mn)), .ref (m5), .ref (m6), .ref (m7), .ref (m8), .ref (m9), .ref (ma), .ref (mb)])), kM E (ma) (4096) (s1)] [kI E (m2) (12) (nd), kB E (m8) (4096) (c1), kI E (m9) (4096) (q1), kI E (mb) (4096) (b1)] 0 (c_M_lengthTo E l h n st mn m1 m2 m3 m4 m5 m6 m7 m8 m9 ma mb s1 nd b k1 0 fd1 c1 q1 b1 π1 k1 (hg.2.1) (hf1) (by omega)) mmM_lengthTo msM_lengthTo lkM_110 rfl rfl (rfl) rfl rfl ⟨by decide, by decide⟩ ⟨by decide, by decide⟩ (Nat.le_of_ble_eq_true rfl) dM_move_32 (fun r_c w_c hp => ?_)
        obtain ⟨rfl, rfl⟩ := hp
        refine J_norm C (st' := [.int (nI ((π1 k1).length))]) (ws' := [((h), .inr (5, [.int (nI (0)), .int (nI (n)), .ref (m1), .int (nI (st)), .ref (m2), .ref (m3), .ref (m4), .int (nI (mn)), .ref (m5), .ref (m6), .ref (m7), .ref (m8), .ref (m9), .ref (ma), .ref (mb)])), kM E (ma) (4096) (s1), kI E (m2) (12) (nd), kB E (m8) (4096) (c1), kI E (m9) (4096) (q1), kI E (mb) (4096) (b1)]) (cs' := 0) (ss' := 0) rfl (rfl) rfl rfl ?_
        refine J_pick C (ws' := [((h), .inr (5, [.int (nI (0)), .int (nI (n)), .ref (m1), .int (nI (st)), .ref (m2), .ref (m3), .ref (m4), .int (nI (mn)), .ref (m5), .ref (m6), .ref (m7), .ref (m8), .ref (m9), .ref (ma), .ref (mb)])), kI E (m2) (12) (nd), kB E (m8) (4096) (c1), kI E (m9) (4096) (q1), kM E (ma) (4096) (s1), kI E (mb) (4096) (b1)]) [0, 2, 3, 4, 1, 5] (by decide) rfl ?_
        refine J_topN C (n' := ps.length) (by rw [eps]) ?_
        refine J_istore C (lv' := [(0, .ref (h)), (1, .int (nI (b))), (2, .int (nI (k))), (3, .int (nI (k1))), (4, .int (nI (ps.length)))]) [1, 2, 3, 4, 0] dM_move_35 (by decide) rfl ?_
        refine J_iload_n C 2 dM_move_37 rfl rfl ?_
        refine J_iconst C (v := -1) dM_move_38 (by decide) ?_
        refine J_icmp_ne C 45 (nI_toInt (n := k) (by omega)) j_m1 dM_move_39 (by decide) (fun h39 => ?_) (fun h39 => ?_)
        · refine J_iload_n C 2 dM_move_45 rfl rfl ?_
          refine J_iload C 4 dM_move_46 rfl ?_
          refine J_icmp_lt C 53 (nI_toInt (n := k) (by omega)) (nI_toInt (n := ps.length) (by omega)) dM_move_48 (by decide) (fun h48 => ?_) (fun h48 => ?_)
          · refine J_iload_n C 3 dM_move_53 rfl rfl ?_
            refine J_istore C (lv' := [(0, .ref (h)), (1, .int (nI (b))), (2, .int (nI (k))), (3, .int (nI (k1))), (4, .int (nI (ps.length))), (5, .int (nI (k1)))]) [1, 2, 3, 4, 5, 0] dM_move_54 (by decide) rfl ?_
            refine J_iload C 4 dM_move_56 rfl ?_
            refine J_iconst C (v := nI (1)) dM_move_58 (by decide) ?_
            refine J_isubN C dM_move_59 (by omega) ?_
            refine J_istore C (lv' := [(0, .ref (h)), (1, .int (nI (b))), (2, .int (nI (k))), (3, .int (nI (k1))), (4, .int (nI (ps.length))), (5, .int (nI (k1))), (6, .int (nI (ps.length - 1)))]) [1, 2, 3, 4, 5, 6, 0] dM_move_60 (by decide) rfl ?_
            have lp_62 : ∀ (k_62 : Nat) (ta j : Nat), (ta < fd1) → (k ≤ j) → (j < ps.length) → (π1 ta = ps.take (j + 1)) → (j) < k_62 → J 62 [(0, .ref (h)), (1, .int (nI (b))), (2, .int (nI (k))), (3, .int (nI (k1))), (4, .int (nI (ps.length))), (5, .int (nI (ta))), (6, .int (nI (j)))] [] [((h), .inr (5, [.int (nI (0)), .int (nI (n)), .ref (m1), .int (nI (st)), .ref (m2), .ref (m3), .ref (m4), .int (nI (mn)), .ref (m5), .ref (m6), .ref (m7), .ref (m8), .ref (m9), .ref (ma), .ref (mb)])), kI E (m2) (12) (nd), kB E (m8) (4096) (c1), kI E (m9) (4096) (q1), kM E (ma) (4096) (s1), kI E (mb) (4096) (b1)] (0) (0) := by
              intro k_62
              induction k_62 with
              | zero => intro ta j hat hkj hjl htk hk_62; exact absurd hk_62 (Nat.not_lt_zero _)
              | succ k_62 ih_62 =>
                intro ta j hat hkj hjl htk hk_62
                have hw := fS_way hf1 hat
                have hnz : s1 ta ≠ 0 := by
                  intro q
                  have := congrArg List.length htk
                  rw [(hw.1 q).2] at this
                  simp only [List.length_nil, List.length_take] at this
                  omega
                obtain ⟨hlt, hbm, hpi⟩ := hw.2 hnz
                have hst := take_step (hpi.symm.trans htk) hjl
                refine J_iload C 6 dM_move_62 rfl ?_
                refine J_iload_n C 2 dM_move_64 rfl rfl ?_
                refine J_icmp_le C 83 (nI_toInt (n := j) (by omega)) (nI_toInt (n := k) (by omega)) dM_move_65 (by decide) (fun h65 => ?_) (fun h65 => ?_)
                · have hjk : j = k := by omega
                  refine J_aload_n C 0 dM_move_83 rfl rfl ?_
                  refine J_get C 0 14 hinM rfl rfl (by decide) fkM_42 rfl dM_move_84 ?_
                  refine J_iload C 5 dM_move_87 rfl ?_
                  refine J_iald C 5 rfl (by omega) (by omega) dM_move_89 ?_
                  exact hret _ _ _ _ _ _ dM_move_90 (by decide) (by decide) (⟨_, _, _, _, by rw [hst.2, hjk], hf1.2.2.2.2, rfl⟩)
                · refine J_aload_n C 0 dM_move_68 rfl rfl ?_
                  refine J_get C 0 13 hinM rfl rfl (by decide) fkM_39 rfl dM_move_69 ?_
                  refine J_iload C 5 dM_move_72 rfl ?_
                  refine J_iald C 4 rfl (by omega) (by omega) dM_move_74 ?_
                  refine J_topX C (x' := nI (s1 ta - 1)) (mI_pos (by omega)) ?_
                  refine J_istore C (lv' := [(0, .ref (h)), (1, .int (nI (b))), (2, .int (nI (k))), (3, .int (nI (k1))), (4, .int (nI (ps.length))), (5, .int (nI (s1 ta - 1))), (6, .int (nI (j)))]) [1, 2, 3, 4, 5, 0, 6] dM_move_75 (by decide) rfl ?_
                  refine J_iinc C (lv' := [(0, .ref (h)), (1, .int (nI (b))), (2, .int (nI (k))), (3, .int (nI (k1))), (4, .int (nI (ps.length))), (5, .int (nI (s1 ta - 1))), (6, .int (nI (j - 1)))]) 6 [1, 2, 3, 4, 5, 6, 0] dM_move_77 rfl (jn_dec (by omega)) (by decide) rfl ?_
                  refine J_goto C 62 dM_move_80 (by decide) ?_
                  exact ih_62 (s1 ta - 1) (j - 1) (by omega) (by omega) (by omega) (by rw [show j - 1 + 1 = j by omega]; exact hst.1) (by omega)
            exact lp_62 (ps.length) k1 (ps.length - 1) (hk1) (by omega) (by omega) (by rw [eps, List.take_of_length_le (by omega)]) (by omega)
          · exfalso; omega
        · exfalso; omega
      · exfalso; omega
    · exfalso; omega
set_option maxHeartbeats 4000000 in
set_option maxRecDepth 100000 in
theorem c_M_marks (E : jE) (l : Launch) (h : Nat) (n : Nat) (st : Nat) (mn : Nat) (m1 : Nat) (m2 : Nat) (m3 : Nat) (m4 : Nat) (m5 : Nat) (m6 : Nat) (m7 : Nat) (m8 : Nat) (m9 : Nat) (ma : Nat) (mb : Nat) (nd : Nat → Nat) (co : Nat → Nat) (qq : Nat → Nat) (sr : Nat → Nat) (bw : Nat → Nat) (b0 : Nat) (hg : mG st nd) (hco : ∀ j, co j ≤ 1) (hb01 : 1 ≤ b0) (hb0m : b0 ≤ st) (hex : ∃ qs, mP st nd b0 0 qs (2 ^ (st - 1))) (hmin : ∀ b', 1 ≤ b' → b' < b0 → ∀ qs, ¬ mP st nd b' 0 qs (2 ^ (st - 1))) : Con E l yM_marks bM_marks 2 (some .int) { frames := 2, cells := 0, slots := 0, locals := 48 } [.ref (h)] [((h), .inr (5, [.int (nI (0)), .int (nI (n)), .ref (m1), .int (nI (st)), .ref (m2), .ref (m3), .ref (m4), .int (nI (mn)), .ref (m5), .ref (m6), .ref (m7), .ref (m8), .ref (m9), .ref (ma), .ref (mb)])), kI E (m2) (12) (nd), kB E (m8) (4096) (co), kI E (m9) (4096) (qq), kM E (ma) (4096) (sr), kI E (mb) (4096) (bw)] (fun r w => ∃ c1 q1 s1 b1 : Nat → Nat, r = some (.int (nI b0)) ∧ (∀ j, c1 j ≤ 1) ∧ w = [((h), .inr (5, [.int (nI (0)), .int (nI (n)), .ref (m1), .int (nI (st)), .ref (m2), .ref (m3), .ref (m4), .int (nI (mn)), .ref (m5), .ref (m6), .ref (m7), .ref (m8), .ref (m9), .ref (ma), .ref (mb)])), kI E (m2) (12) (nd), kB E (m8) (4096) (c1), kI E (m9) (4096) (q1), kM E (ma) (4096) (s1), kI E (mb) (4096) (b1)]) := by
  refine Con.ofI (by decide) (Nat.le_of_ble_eq_true rfl) ?_
  intro J C hret
  show J 0 [(0, .ref (h))] [] [((h), .inr (5, [.int (nI (0)), .int (nI (n)), .ref (m1), .int (nI (st)), .ref (m2), .ref (m3), .ref (m4), .int (nI (mn)), .ref (m5), .ref (m6), .ref (m7), .ref (m8), .ref (m9), .ref (ma), .ref (mb)])), kI E (m2) (12) (nd), kB E (m8) (4096) (co), kI E (m9) (4096) (qq), kM E (ma) (4096) (sr), kI E (mb) (4096) (bw)] 0 0
  have hm12 := hg.2.1
  refine J_aload_n C 0 dM_marks_0 rfl rfl ?_
  refine J_iconst C (v := nI (0)) dM_marks_1 (by decide) ?_
  refine J_put C (ws' := [((h), .inr (5, [.int (nI (0)), .int (nI (n)), .ref (m1), .int (nI (st)), .ref (m2), .ref (m3), .ref (m4), .int (nI (mn)), .ref (m5), .ref (m6), .ref (m7), .ref (m8), .ref (m9), .ref (ma), .ref (mb)])), kI E (m2) (12) (nd), kB E (m8) (4096) (co), kI E (m9) (4096) (qq), kM E (ma) (4096) (sr), kI E (mb) (4096) (bw)]) 0 0 tyM hinM tyokM nmM rfl rfl (by decide) fkM_53 rfl rfl rfl (Nat.le_of_ble_eq_true rfl) dM_marks_2 rfl ?_
  refine J_iconst C (v := nI (1)) dM_marks_5 (by decide) ?_
  refine J_istore_n C (lv' := [(0, .ref (h)), (1, .int (nI (1)))]) [1, 0] dM_marks_6 rfl (by decide) rfl ?_
  have lp_7 : ∀ (k_7 : Nat) (b : Nat) (c2 q2 s2 b2 : Nat → Nat), (1 ≤ b) → (b ≤ b0) → (∀ j, c2 j ≤ 1) → (b0 - b) < k_7 → J 7 [(0, .ref (h)), (1, .int (nI (b)))] [] [((h), .inr (5, [.int (nI (0)), .int (nI (n)), .ref (m1), .int (nI (st)), .ref (m2), .ref (m3), .ref (m4), .int (nI (mn)), .ref (m5), .ref (m6), .ref (m7), .ref (m8), .ref (m9), .ref (ma), .ref (mb)])), kI E (m2) (12) (nd), kB E (m8) (4096) (c2), kI E (m9) (4096) (q2), kM E (ma) (4096) (s2), kI E (mb) (4096) (b2)] (0) (0) := by
    intro k_7
    induction k_7 with
    | zero => intro b c2 q2 s2 b2 hb1 hbb hc2 hk_7; exact absurd hk_7 (Nat.not_lt_zero _)
    | succ k_7 ih_7 =>
      intro b c2 q2 s2 b2 hb1 hbb hc2 hk_7
      refine J_aload_n C 0 dM_marks_7 rfl rfl ?_
      refine J_iload_n C 1 dM_marks_8 rfl rfl ?_
      rcases Nat.lt_or_ge b b0 with hlt | hge
      · refine J_callV C (rest := []) [] [((h), .inr (5, [.int (nI (0)), .int (nI (n)), .ref (m1), .int (nI (st)), .ref (m2), .ref (m3), .ref (m4), .int (nI (mn)), .ref (m5), .ref (m6), .ref (m7), .ref (m8), .ref (m9), .ref (ma), .ref (mb)])), kI E (m2) (12) (nd), kB E (m8) (4096) (c2), kI E (m9) (4096) (q2), kM E (ma) (4096) (s2), kI E (mb) (4096) (b2)] [] 0 (c_M_findEnd_n E l h n st mn m1 m2 m3 m4 m5 m6 m7 m8 m9 ma mb nd c2 q2 s2 b2 b (by assumption) (by omega) (hc2) (hmin b hb1 hlt)) mmM_findEnd msM_findEnd lkM_107 rfl rfl (rfl) rfl rfl ⟨by decide, by decide⟩ ⟨by decide, by decide⟩ (Nat.le_of_ble_eq_true rfl) dM_marks_9 (fun r_c w_c hp => ?_)
        obtain ⟨c1, q1, s1, b1, rfl, hc1, rfl⟩ := hp
        refine J_norm C (st' := [.int (-1)]) (ws' := [((h), .inr (5, [.int (nI (0)), .int (nI (n)), .ref (m1), .int (nI (st)), .ref (m2), .ref (m3), .ref (m4), .int (nI (mn)), .ref (m5), .ref (m6), .ref (m7), .ref (m8), .ref (m9), .ref (ma), .ref (mb)])), kI E (m2) (12) (nd), kB E (m8) (4096) (c1), kI E (m9) (4096) (q1), kM E (ma) (4096) (s1), kI E (mb) (4096) (b1)]) (cs' := 0) (ss' := 0) rfl (rfl) rfl rfl ?_
        refine J_iconst C (v := -1) dM_marks_12 (by decide) ?_
        refine J_icmp_ne C 22 j_m1 j_m1 dM_marks_13 (by decide) (fun h13 => ?_) (fun h13 => ?_)
        · exfalso; omega
        · refine J_iinc C (lv' := [(0, .ref (h)), (1, .int (nI (b + 1)))]) 1 [1, 0] dM_marks_16 rfl (jn_inc _) (by decide) rfl ?_
          refine J_goto C 7 dM_marks_19 (by decide) ?_
          exact ih_7 (b + 1) c1 q1 s1 b1 (by omega) (by omega) (hc1) (by omega)
      · obtain rfl : b0 = b := by omega
        refine J_callV C (rest := []) [] [((h), .inr (5, [.int (nI (0)), .int (nI (n)), .ref (m1), .int (nI (st)), .ref (m2), .ref (m3), .ref (m4), .int (nI (mn)), .ref (m5), .ref (m6), .ref (m7), .ref (m8), .ref (m9), .ref (ma), .ref (mb)])), kI E (m2) (12) (nd), kB E (m8) (4096) (c2), kI E (m9) (4096) (q2), kM E (ma) (4096) (s2), kI E (mb) (4096) (b2)] [] 0 (c_M_findEnd_p E l h n st mn m1 m2 m3 m4 m5 m6 m7 m8 m9 ma mb nd c2 q2 s2 b2 b0 (by assumption) (by omega) (hc2) (hex)) mmM_findEnd msM_findEnd lkM_107 rfl rfl (rfl) rfl rfl ⟨by decide, by decide⟩ ⟨by decide, by decide⟩ (Nat.le_of_ble_eq_true rfl) dM_marks_9 (fun r_c w_c hp => ?_)
        obtain ⟨c1, q1, s1, b1, k1, fd1, π1, rfl, hfe1, rfl⟩ := hp
        refine J_norm C (st' := [.int (nI (k1))]) (ws' := [((h), .inr (5, [.int (nI (0)), .int (nI (n)), .ref (m1), .int (nI (st)), .ref (m2), .ref (m3), .ref (m4), .int (nI (mn)), .ref (m5), .ref (m6), .ref (m7), .ref (m8), .ref (m9), .ref (ma), .ref (mb)])), kI E (m2) (12) (nd), kB E (m8) (4096) (c1), kI E (m9) (4096) (q1), kM E (ma) (4096) (s1), kI E (mb) (4096) (b1)]) (cs' := 0) (ss' := 0) rfl (rfl) rfl rfl ?_
        have hfdl := fS_found hg.2.1 hfe1.1
        have hk1 := hfe1.2.1
        refine J_iconst C (v := -1) dM_marks_12 (by decide) ?_
        refine J_icmp_ne C 22 (nI_toInt (n := k1) (by omega)) j_m1 dM_marks_13 (by decide) (fun h13 => ?_) (fun h13 => ?_)
        · refine J_iload_n C 1 dM_marks_22 rfl rfl ?_
          exact hret _ _ _ _ _ _ dM_marks_23 (by decide) (by decide) (⟨_, _, _, _, rfl, hfe1.1.2.2.2.2, rfl⟩)
        · exfalso; omega
  exact lp_7 (b0 + 1) 1 co qq sr bw (by omega) (by omega) (hco) (by omega)
set_option maxHeartbeats 4000000 in
set_option maxRecDepth 100000 in
theorem c_M_total_0 (E : jE) (l : Launch) (h : Nat) (n : Nat) (st : Nat) (mn : Nat) (m1 : Nat) (m2 : Nat) (m3 : Nat) (m4 : Nat) (m5 : Nat) (m6 : Nat) (m7 : Nat) (m8 : Nat) (m9 : Nat) (ma : Nat) (mb : Nat) : Con E l yM_total bM_total 2 (some .int) { frames := 0, cells := 0, slots := 0, locals := 0 } [.ref (h), .int (nI (0))] [((h), .inr (5, [.int (nI (0)), .int (nI (n)), .ref (m1), .int (nI (st)), .ref (m2), .ref (m3), .ref (m4), .int (nI (mn)), .ref (m5), .ref (m6), .ref (m7), .ref (m8), .ref (m9), .ref (ma), .ref (mb)]))] (fun r w => r = some (.int (nI n)) ∧ w = [((h), .inr (5, [.int (nI (0)), .int (nI (n)), .ref (m1), .int (nI (st)), .ref (m2), .ref (m3), .ref (m4), .int (nI (mn)), .ref (m5), .ref (m6), .ref (m7), .ref (m8), .ref (m9), .ref (ma), .ref (mb)]))]) := by
  refine Con.ofI (by decide) (Nat.le_of_ble_eq_true rfl) ?_
  intro J C hret
  show J 0 [(0, .ref (h)), (1, .int (nI (0)))] [] [((h), .inr (5, [.int (nI (0)), .int (nI (n)), .ref (m1), .int (nI (st)), .ref (m2), .ref (m3), .ref (m4), .int (nI (mn)), .ref (m5), .ref (m6), .ref (m7), .ref (m8), .ref (m9), .ref (ma), .ref (mb)]))] 0 0
  refine J_aload_n C 0 dM_total_0 rfl rfl ?_
  refine J_iconst C (v := nI (0)) dM_total_1 (by decide) ?_
  refine J_put C (ws' := [((h), .inr (5, [.int (nI (0)), .int (nI (n)), .ref (m1), .int (nI (st)), .ref (m2), .ref (m3), .ref (m4), .int (nI (mn)), .ref (m5), .ref (m6), .ref (m7), .ref (m8), .ref (m9), .ref (ma), .ref (mb)]))]) 0 0 tyM hinM tyokM nmM rfl rfl (by decide) fkM_53 rfl rfl rfl (Nat.le_of_ble_eq_true rfl) dM_total_2 rfl ?_
  refine J_iload_n C 1 dM_total_5 rfl rfl ?_
  refine J_tswIn C (off := 34) 40 dM_total_6 (by decide) (by decide) (by decide) (by decide) ?_
  refine J_aload_n C 0 dM_total_40 rfl rfl ?_
  refine J_get C 0 1 hinM rfl rfl (by decide) fkM_56 rfl dM_total_41 ?_
  exact hret _ _ _ _ _ _ dM_total_44 (by decide) (by decide) (⟨rfl, rfl⟩)
set_option maxHeartbeats 4000000 in
set_option maxRecDepth 100000 in
theorem c_M_total_1 (E : jE) (l : Launch) (h : Nat) (n : Nat) (st : Nat) (mn : Nat) (m1 : Nat) (m2 : Nat) (m3 : Nat) (m4 : Nat) (m5 : Nat) (m6 : Nat) (m7 : Nat) (m8 : Nat) (m9 : Nat) (ma : Nat) (mb : Nat) : Con E l yM_total bM_total 2 (some .int) { frames := 0, cells := 0, slots := 0, locals := 0 } [.ref (h), .int (nI (1))] [((h), .inr (5, [.int (nI (0)), .int (nI (n)), .ref (m1), .int (nI (st)), .ref (m2), .ref (m3), .ref (m4), .int (nI (mn)), .ref (m5), .ref (m6), .ref (m7), .ref (m8), .ref (m9), .ref (ma), .ref (mb)]))] (fun r w => r = some (.int (nI st)) ∧ w = [((h), .inr (5, [.int (nI (0)), .int (nI (n)), .ref (m1), .int (nI (st)), .ref (m2), .ref (m3), .ref (m4), .int (nI (mn)), .ref (m5), .ref (m6), .ref (m7), .ref (m8), .ref (m9), .ref (ma), .ref (mb)]))]) := by
  refine Con.ofI (by decide) (Nat.le_of_ble_eq_true rfl) ?_
  intro J C hret
  show J 0 [(0, .ref (h)), (1, .int (nI (1)))] [] [((h), .inr (5, [.int (nI (0)), .int (nI (n)), .ref (m1), .int (nI (st)), .ref (m2), .ref (m3), .ref (m4), .int (nI (mn)), .ref (m5), .ref (m6), .ref (m7), .ref (m8), .ref (m9), .ref (ma), .ref (mb)]))] 0 0
  refine J_aload_n C 0 dM_total_0 rfl rfl ?_
  refine J_iconst C (v := nI (0)) dM_total_1 (by decide) ?_
  refine J_put C (ws' := [((h), .inr (5, [.int (nI (0)), .int (nI (n)), .ref (m1), .int (nI (st)), .ref (m2), .ref (m3), .ref (m4), .int (nI (mn)), .ref (m5), .ref (m6), .ref (m7), .ref (m8), .ref (m9), .ref (ma), .ref (mb)]))]) 0 0 tyM hinM tyokM nmM rfl rfl (by decide) fkM_53 rfl rfl rfl (Nat.le_of_ble_eq_true rfl) dM_total_2 rfl ?_
  refine J_iload_n C 1 dM_total_5 rfl rfl ?_
  refine J_tswIn C (off := 39) 45 dM_total_6 (by decide) (by decide) (by decide) (by decide) ?_
  refine J_aload_n C 0 dM_total_45 rfl rfl ?_
  refine J_get C 0 3 hinM rfl rfl (by decide) fkM_49 rfl dM_total_46 ?_
  exact hret _ _ _ _ _ _ dM_total_49 (by decide) (by decide) (⟨rfl, rfl⟩)
set_option maxHeartbeats 4000000 in
set_option maxRecDepth 100000 in
theorem c_M_total_2t (E : jE) (l : Launch) (h : Nat) (n : Nat) (st : Nat) (mn : Nat) (m1 : Nat) (m2 : Nat) (m3 : Nat) (m4 : Nat) (m5 : Nat) (m6 : Nat) (m7 : Nat) (m8 : Nat) (m9 : Nat) (ma : Nat) (mb : Nat) (to : Nat → Nat) (hn1 : 1 ≤ n) (hn4 : n ≤ 4) (ht : ∀ v, v < 2 ^ n → to v < 2 ^ n) (hq : sn to (2 ^ n) = 2 ^ 2 ^ n - 1) : Con E l yM_total bM_total 2 (some .int) { frames := 2, cells := 0, slots := 0, locals := 42 } [.ref (h), .int (nI (2))] [((h), .inr (5, [.int (nI (0)), .int (nI (n)), .ref (m1), .int (nI (st)), .ref (m2), .ref (m3), .ref (m4), .int (nI (mn)), .ref (m5), .ref (m6), .ref (m7), .ref (m8), .ref (m9), .ref (ma), .ref (mb)])), kI E (m1) (16) (to)] (fun r w => r = some (.int (nI 1)) ∧ w = [((h), .inr (5, [.int (nI (0)), .int (nI (n)), .ref (m1), .int (nI (st)), .ref (m2), .ref (m3), .ref (m4), .int (nI (mn)), .ref (m5), .ref (m6), .ref (m7), .ref (m8), .ref (m9), .ref (ma), .ref (mb)])), kI E (m1) (16) (to)]) := by
  refine Con.ofI (by decide) (Nat.le_of_ble_eq_true rfl) ?_
  intro J C hret
  show J 0 [(0, .ref (h)), (1, .int (nI (2)))] [] [((h), .inr (5, [.int (nI (0)), .int (nI (n)), .ref (m1), .int (nI (st)), .ref (m2), .ref (m3), .ref (m4), .int (nI (mn)), .ref (m5), .ref (m6), .ref (m7), .ref (m8), .ref (m9), .ref (ma), .ref (mb)])), kI E (m1) (16) (to)] 0 0
  refine J_aload_n C 0 dM_total_0 rfl rfl ?_
  refine J_iconst C (v := nI (0)) dM_total_1 (by decide) ?_
  refine J_put C (ws' := [((h), .inr (5, [.int (nI (0)), .int (nI (n)), .ref (m1), .int (nI (st)), .ref (m2), .ref (m3), .ref (m4), .int (nI (mn)), .ref (m5), .ref (m6), .ref (m7), .ref (m8), .ref (m9), .ref (ma), .ref (mb)])), kI E (m1) (16) (to)]) 0 0 tyM hinM tyokM nmM rfl rfl (by decide) fkM_53 rfl rfl rfl (Nat.le_of_ble_eq_true rfl) dM_total_2 rfl ?_
  refine J_iload_n C 1 dM_total_5 rfl rfl ?_
  refine J_tswIn C (off := 44) 50 dM_total_6 (by decide) (by decide) (by decide) (by decide) ?_
  refine J_aload_n C 0 dM_total_50 rfl rfl ?_
  refine J_callV C (rest := []) [] [((h), .inr (5, [.int (nI (0)), .int (nI (n)), .ref (m1), .int (nI (st)), .ref (m2), .ref (m3), .ref (m4), .int (nI (mn)), .ref (m5), .ref (m6), .ref (m7), .ref (m8), .ref (m9), .ref (ma), .ref (mb)])), kI E (m1) (16) (to)] [] 0 (c_M_isPerm_t E l h n st mn m1 m2 m3 m4 m5 m6 m7 m8 m9 ma mb to (by omega) (by omega) (by assumption) (by assumption)) mmM_isPermutation msM_isPermutation lkM_78 rfl rfl (rfl) rfl rfl ⟨by decide, by decide⟩ ⟨by decide, by decide⟩ (Nat.le_of_ble_eq_true rfl) dM_total_51 (fun r_c w_c hp => ?_)
  obtain ⟨rfl, rfl⟩ := hp
  refine J_norm C (st' := [.int (nI (1))]) (ws' := [((h), .inr (5, [.int (nI (0)), .int (nI (n)), .ref (m1), .int (nI (st)), .ref (m2), .ref (m3), .ref (m4), .int (nI (mn)), .ref (m5), .ref (m6), .ref (m7), .ref (m8), .ref (m9), .ref (ma), .ref (mb)])), kI E (m1) (16) (to)]) (cs' := 0) (ss' := 0) rfl (rfl) rfl rfl ?_
  refine J_if_eq C 61 (nI_toInt (n := 1) (by decide)) dM_total_54 (by decide) (fun h54 => ?_) (fun h54 => ?_)
  · exfalso; omega
  · refine J_iconst C (v := nI (1)) dM_total_57 (by decide) ?_
    refine J_goto C 62 dM_total_58 (by decide) ?_
    exact hret _ _ _ _ _ _ dM_total_62 (by decide) (by decide) (⟨rfl, rfl⟩)
set_option maxHeartbeats 4000000 in
set_option maxRecDepth 100000 in
theorem c_M_total_2f (E : jE) (l : Launch) (h : Nat) (n : Nat) (st : Nat) (mn : Nat) (m1 : Nat) (m2 : Nat) (m3 : Nat) (m4 : Nat) (m5 : Nat) (m6 : Nat) (m7 : Nat) (m8 : Nat) (m9 : Nat) (ma : Nat) (mb : Nat) (to : Nat → Nat) (hn1 : 1 ≤ n) (hn4 : n ≤ 4) (ht : ∀ v, v < 2 ^ n → to v < 2 ^ n) (hq : sn to (2 ^ n) ≠ 2 ^ 2 ^ n - 1) : Con E l yM_total bM_total 2 (some .int) { frames := 2, cells := 0, slots := 0, locals := 42 } [.ref (h), .int (nI (2))] [((h), .inr (5, [.int (nI (0)), .int (nI (n)), .ref (m1), .int (nI (st)), .ref (m2), .ref (m3), .ref (m4), .int (nI (mn)), .ref (m5), .ref (m6), .ref (m7), .ref (m8), .ref (m9), .ref (ma), .ref (mb)])), kI E (m1) (16) (to)] (fun r w => r = some (.int (nI 0)) ∧ w = [((h), .inr (5, [.int (nI (0)), .int (nI (n)), .ref (m1), .int (nI (st)), .ref (m2), .ref (m3), .ref (m4), .int (nI (mn)), .ref (m5), .ref (m6), .ref (m7), .ref (m8), .ref (m9), .ref (ma), .ref (mb)])), kI E (m1) (16) (to)]) := by
  refine Con.ofI (by decide) (Nat.le_of_ble_eq_true rfl) ?_
  intro J C hret
  show J 0 [(0, .ref (h)), (1, .int (nI (2)))] [] [((h), .inr (5, [.int (nI (0)), .int (nI (n)), .ref (m1), .int (nI (st)), .ref (m2), .ref (m3), .ref (m4), .int (nI (mn)), .ref (m5), .ref (m6), .ref (m7), .ref (m8), .ref (m9), .ref (ma), .ref (mb)])), kI E (m1) (16) (to)] 0 0
  refine J_aload_n C 0 dM_total_0 rfl rfl ?_
  refine J_iconst C (v := nI (0)) dM_total_1 (by decide) ?_
  refine J_put C (ws' := [((h), .inr (5, [.int (nI (0)), .int (nI (n)), .ref (m1), .int (nI (st)), .ref (m2), .ref (m3), .ref (m4), .int (nI (mn)), .ref (m5), .ref (m6), .ref (m7), .ref (m8), .ref (m9), .ref (ma), .ref (mb)])), kI E (m1) (16) (to)]) 0 0 tyM hinM tyokM nmM rfl rfl (by decide) fkM_53 rfl rfl rfl (Nat.le_of_ble_eq_true rfl) dM_total_2 rfl ?_
  refine J_iload_n C 1 dM_total_5 rfl rfl ?_
  refine J_tswIn C (off := 44) 50 dM_total_6 (by decide) (by decide) (by decide) (by decide) ?_
  refine J_aload_n C 0 dM_total_50 rfl rfl ?_
  refine J_callV C (rest := []) [] [((h), .inr (5, [.int (nI (0)), .int (nI (n)), .ref (m1), .int (nI (st)), .ref (m2), .ref (m3), .ref (m4), .int (nI (mn)), .ref (m5), .ref (m6), .ref (m7), .ref (m8), .ref (m9), .ref (ma), .ref (mb)])), kI E (m1) (16) (to)] [] 0 (c_M_isPerm_f E l h n st mn m1 m2 m3 m4 m5 m6 m7 m8 m9 ma mb to (by omega) (by omega) (by assumption) (by assumption)) mmM_isPermutation msM_isPermutation lkM_78 rfl rfl (rfl) rfl rfl ⟨by decide, by decide⟩ ⟨by decide, by decide⟩ (Nat.le_of_ble_eq_true rfl) dM_total_51 (fun r_c w_c hp => ?_)
  obtain ⟨rfl, rfl⟩ := hp
  refine J_norm C (st' := [.int (nI (0))]) (ws' := [((h), .inr (5, [.int (nI (0)), .int (nI (n)), .ref (m1), .int (nI (st)), .ref (m2), .ref (m3), .ref (m4), .int (nI (mn)), .ref (m5), .ref (m6), .ref (m7), .ref (m8), .ref (m9), .ref (ma), .ref (mb)])), kI E (m1) (16) (to)]) (cs' := 0) (ss' := 0) rfl (rfl) rfl rfl ?_
  refine J_if_eq C 61 (nI_toInt (n := 0) (by decide)) dM_total_54 (by decide) (fun h54 => ?_) (fun h54 => ?_)
  · refine J_iconst C (v := nI (0)) dM_total_61 (by decide) ?_
    exact hret _ _ _ _ _ _ dM_total_62 (by decide) (by decide) (⟨rfl, rfl⟩)
  · exfalso; omega
set_option maxHeartbeats 4000000 in
set_option maxRecDepth 100000 in
theorem c_M_total_3 (E : jE) (l : Launch) (h : Nat) (n : Nat) (st : Nat) (mn : Nat) (m1 : Nat) (m2 : Nat) (m3 : Nat) (m4 : Nat) (m5 : Nat) (m6 : Nat) (m7 : Nat) (m8 : Nat) (m9 : Nat) (ma : Nat) (mb : Nat) (hn1 : 1 ≤ n) (hn4 : n ≤ 4) : Con E l yM_total bM_total 2 (some .int) { frames := 0, cells := 0, slots := 0, locals := 0 } [.ref (h), .int (nI (3))] [((h), .inr (5, [.int (nI (0)), .int (nI (n)), .ref (m1), .int (nI (st)), .ref (m2), .ref (m3), .ref (m4), .int (nI (mn)), .ref (m5), .ref (m6), .ref (m7), .ref (m8), .ref (m9), .ref (ma), .ref (mb)]))] (fun r w => r = some (.int (nI (n * 2 ^ (n - 1)))) ∧ w = [((h), .inr (5, [.int (nI (0)), .int (nI (n)), .ref (m1), .int (nI (st)), .ref (m2), .ref (m3), .ref (m4), .int (nI (mn)), .ref (m5), .ref (m6), .ref (m7), .ref (m8), .ref (m9), .ref (ma), .ref (mb)]))]) := by
  refine Con.ofI (by decide) (Nat.le_of_ble_eq_true rfl) ?_
  intro J C hret
  show J 0 [(0, .ref (h)), (1, .int (nI (3)))] [] [((h), .inr (5, [.int (nI (0)), .int (nI (n)), .ref (m1), .int (nI (st)), .ref (m2), .ref (m3), .ref (m4), .int (nI (mn)), .ref (m5), .ref (m6), .ref (m7), .ref (m8), .ref (m9), .ref (ma), .ref (mb)]))] 0 0
  refine J_aload_n C 0 dM_total_0 rfl rfl ?_
  refine J_iconst C (v := nI (0)) dM_total_1 (by decide) ?_
  refine J_put C (ws' := [((h), .inr (5, [.int (nI (0)), .int (nI (n)), .ref (m1), .int (nI (st)), .ref (m2), .ref (m3), .ref (m4), .int (nI (mn)), .ref (m5), .ref (m6), .ref (m7), .ref (m8), .ref (m9), .ref (ma), .ref (mb)]))]) 0 0 tyM hinM tyokM nmM rfl rfl (by decide) fkM_53 rfl rfl rfl (Nat.le_of_ble_eq_true rfl) dM_total_2 rfl ?_
  refine J_iload_n C 1 dM_total_5 rfl rfl ?_
  refine J_tswIn C (off := 57) 63 dM_total_6 (by decide) (by decide) (by decide) (by decide) ?_
  refine J_aload_n C 0 dM_total_63 rfl rfl ?_
  refine J_get C 0 1 hinM rfl rfl (by decide) fkM_56 rfl dM_total_64 ?_
  refine J_aload_n C 0 dM_total_67 rfl rfl ?_
  refine J_get C 0 1 hinM rfl rfl (by decide) fkM_56 rfl dM_total_68 ?_
  refine J_iconst C (v := nI (1)) dM_total_71 (by decide) ?_
  refine J_isubN C dM_total_72 (by omega) ?_
  refine J_ishlN C dM_total_73 (by omega) ?_
  exact hret _ _ _ _ _ _ dM_total_74 (by decide) (by decide) (⟨rfl, rfl⟩)
set_option maxHeartbeats 4000000 in
set_option maxRecDepth 100000 in
theorem c_M_total_4 (E : jE) (l : Launch) (h : Nat) (n : Nat) (st : Nat) (mn : Nat) (m1 : Nat) (m2 : Nat) (m3 : Nat) (m4 : Nat) (m5 : Nat) (m6 : Nat) (m7 : Nat) (m8 : Nat) (m9 : Nat) (ma : Nat) (mb : Nat) (hn1 : 1 ≤ n) (hn4 : n ≤ 4) : Con E l yM_total bM_total 2 (some .int) { frames := 1, cells := 0, slots := 0, locals := 22 } [.ref (h), .int (nI (4))] [((h), .inr (5, [.int (nI (0)), .int (nI (n)), .ref (m1), .int (nI (st)), .ref (m2), .ref (m3), .ref (m4), .int (nI (mn)), .ref (m5), .ref (m6), .ref (m7), .ref (m8), .ref (m9), .ref (ma), .ref (mb)]))] (fun r w => r = some (.int (nI (3 ^ n))) ∧ w = [((h), .inr (5, [.int (nI (0)), .int (nI (n)), .ref (m1), .int (nI (st)), .ref (m2), .ref (m3), .ref (m4), .int (nI (mn)), .ref (m5), .ref (m6), .ref (m7), .ref (m8), .ref (m9), .ref (ma), .ref (mb)]))]) := by
  refine Con.ofI (by decide) (Nat.le_of_ble_eq_true rfl) ?_
  intro J C hret
  show J 0 [(0, .ref (h)), (1, .int (nI (4)))] [] [((h), .inr (5, [.int (nI (0)), .int (nI (n)), .ref (m1), .int (nI (st)), .ref (m2), .ref (m3), .ref (m4), .int (nI (mn)), .ref (m5), .ref (m6), .ref (m7), .ref (m8), .ref (m9), .ref (ma), .ref (mb)]))] 0 0
  refine J_aload_n C 0 dM_total_0 rfl rfl ?_
  refine J_iconst C (v := nI (0)) dM_total_1 (by decide) ?_
  refine J_put C (ws' := [((h), .inr (5, [.int (nI (0)), .int (nI (n)), .ref (m1), .int (nI (st)), .ref (m2), .ref (m3), .ref (m4), .int (nI (mn)), .ref (m5), .ref (m6), .ref (m7), .ref (m8), .ref (m9), .ref (ma), .ref (mb)]))]) 0 0 tyM hinM tyokM nmM rfl rfl (by decide) fkM_53 rfl rfl rfl (Nat.le_of_ble_eq_true rfl) dM_total_2 rfl ?_
  refine J_iload_n C 1 dM_total_5 rfl rfl ?_
  refine J_tswIn C (off := 69) 75 dM_total_6 (by decide) (by decide) (by decide) (by decide) ?_
  refine J_aload_n C 0 dM_total_75 rfl rfl ?_
  refine J_callV C (rest := []) [] [((h), .inr (5, [.int (nI (0)), .int (nI (n)), .ref (m1), .int (nI (st)), .ref (m2), .ref (m3), .ref (m4), .int (nI (mn)), .ref (m5), .ref (m6), .ref (m7), .ref (m8), .ref (m9), .ref (ma), .ref (mb)]))] [] 0 (c_M_products E l h n st mn m1 m2 m3 m4 m5 m6 m7 m8 m9 ma mb (by omega) (by omega)) mmM_products msM_products lkM_85 rfl rfl (rfl) rfl rfl ⟨by decide, by decide⟩ ⟨by decide, by decide⟩ (Nat.le_of_ble_eq_true rfl) dM_total_76 (fun r_c w_c hp => ?_)
  obtain ⟨rfl, rfl⟩ := hp
  refine J_norm C (st' := [.int (nI (3 ^ n))]) (ws' := [((h), .inr (5, [.int (nI (0)), .int (nI (n)), .ref (m1), .int (nI (st)), .ref (m2), .ref (m3), .ref (m4), .int (nI (mn)), .ref (m5), .ref (m6), .ref (m7), .ref (m8), .ref (m9), .ref (ma), .ref (mb)]))]) (cs' := 0) (ss' := 0) rfl (rfl) rfl rfl ?_
  exact hret _ _ _ _ _ _ dM_total_79 (by decide) (by decide) (⟨rfl, rfl⟩)
set_option maxHeartbeats 4000000 in
set_option maxRecDepth 100000 in
theorem c_M_total_x (E : jE) (l : Launch) (h : Nat) (n : Nat) (st : Nat) (mn : Nat) (m1 : Nat) (m2 : Nat) (m3 : Nat) (m4 : Nat) (m5 : Nat) (m6 : Nat) (m7 : Nat) (m8 : Nat) (m9 : Nat) (ma : Nat) (mb : Nat) (x : Int32) (hx : x.toInt < 0 ∨ 4 < x.toInt) : Con E l yM_total bM_total 2 (some .int) { frames := 0, cells := 0, slots := 0, locals := 0 } [.ref (h), .int (x)] [((h), .inr (5, [.int (nI (0)), .int (nI (n)), .ref (m1), .int (nI (st)), .ref (m2), .ref (m3), .ref (m4), .int (nI (mn)), .ref (m5), .ref (m6), .ref (m7), .ref (m8), .ref (m9), .ref (ma), .ref (mb)]))] (fun r w => r = some (.int (-1)) ∧ w = [((h), .inr (5, [.int (nI (0)), .int (nI (n)), .ref (m1), .int (nI (st)), .ref (m2), .ref (m3), .ref (m4), .int (nI (mn)), .ref (m5), .ref (m6), .ref (m7), .ref (m8), .ref (m9), .ref (ma), .ref (mb)]))]) := by
  refine Con.ofI (by decide) (Nat.le_of_ble_eq_true rfl) ?_
  intro J C hret
  show J 0 [(0, .ref (h)), (1, .int (x))] [] [((h), .inr (5, [.int (nI (0)), .int (nI (n)), .ref (m1), .int (nI (st)), .ref (m2), .ref (m3), .ref (m4), .int (nI (mn)), .ref (m5), .ref (m6), .ref (m7), .ref (m8), .ref (m9), .ref (ma), .ref (mb)]))] 0 0
  refine J_aload_n C 0 dM_total_0 rfl rfl ?_
  refine J_iconst C (v := nI (0)) dM_total_1 (by decide) ?_
  refine J_put C (ws' := [((h), .inr (5, [.int (nI (0)), .int (nI (n)), .ref (m1), .int (nI (st)), .ref (m2), .ref (m3), .ref (m4), .int (nI (mn)), .ref (m5), .ref (m6), .ref (m7), .ref (m8), .ref (m9), .ref (ma), .ref (mb)]))]) 0 0 tyM hinM tyokM nmM rfl rfl (by decide) fkM_53 rfl rfl rfl (Nat.le_of_ble_eq_true rfl) dM_total_2 rfl ?_
  refine J_iload_n C 1 dM_total_5 rfl rfl ?_
  refine J_tswOut C 80 dM_total_6 (by omega) (by decide) ?_
  refine J_iconst C (v := -1) dM_total_80 (by decide) ?_
  exact hret _ _ _ _ _ _ dM_total_81 (by decide) (by decide) (⟨rfl, rfl⟩)
