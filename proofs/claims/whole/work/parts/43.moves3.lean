set_option maxHeartbeats 4000000 in
set_option maxRecDepth 100000 in
theorem c_S_mw_sn (E : jE) (l : Launch) (h : Nat) (m : Nat) (e1 : Nat) (e2 : Nat) (e3 : Nat) (e4 : Nat) (e5 : Nat) (qd : Nat) (e8 : Nat) (nd : Nat → Nat) (kn : Nat → Option Nat) (zz : Nat → Nat) (ln : Nat) (lf : Nat → Nat) (qu : Nat → Nat) (pool : va_W) (b : Nat) (a : Nat) (hg : mG m nd) (hln : ln ≤ 4096) (hb1 : 1 ≤ b) (hb31 : b < 2 ^ 31) (hk : kOK E m nd kn e3 pool) (hkn : kn (min b m) = some a) (hno : ∀ qs, ¬ mP m nd (min b m) 0 qs (2 ^ (m - 1))) : Con E l yS_movesWithin bS_movesWithin 4 (some (.object "ReversibleParts$Moves")) { frames := 1, cells := 0, slots := 0, locals := 14 } [.ref (h), .int (nI (b))] ([((h), .inr (2, [.int (nI (m)), .ref (e1), .ref (e2), .ref (e3), .ref (e4), .ref (e5), .int (nI (qd))])), kI E (e1) (12) (nd), kQ E (e2) (13) (kn), ((e3), .inr (1, [.ref (e8)])), kI E (e8) (0) (zz), kI E (e4) (ln) (lf), kI E (e5) (ln) (qu)] ++ pool) (fun r w => r = some (.ref e3) ∧ w = ([((h), .inr (2, [.int (nI (m)), .ref (e1), .ref (e2), .ref (e3), .ref (e4), .ref (e5), .int (nI (qd))])), kI E (e1) (12) (nd), kQ E (e2) (13) (kn), ((e3), .inr (1, [.ref (e8)])), kI E (e8) (0) (zz), kI E (e4) (ln) (lf), kI E (e5) (ln) (qu)] ++ pool)) := by
  refine Con.ofA (by decide) (Nat.le_of_ble_eq_true rfl) ?_
  intro J C hret
  show J 0 [(0, .ref (h)), (1, .int (nI (b)))] [] ([((h), .inr (2, [.int (nI (m)), .ref (e1), .ref (e2), .ref (e3), .ref (e4), .ref (e5), .int (nI (qd))])), kI E (e1) (12) (nd), kQ E (e2) (13) (kn), ((e3), .inr (1, [.ref (e8)])), kI E (e8) (0) (zz), kI E (e4) (ln) (lf), kI E (e5) (ln) (qu)] ++ pool) 0 0
  have hm1 := hg.1
  have hm12 := hg.2.1
  have hp12 := p4096 hm12
  have hpm := Nat.two_pow_pos m
  have hpg : 2 ^ (m - 1) < 2 ^ m := Nat.pow_lt_pow_right (by omega) (by omega)
  have hmn : 1 ≤ min b m ∧ min b m ≤ m ∧ min b m ≤ b := by omega
  have hka : a = e3 := by
    rcases hk (min b m) a (by omega) (by omega) hkn with ⟨q, -⟩ | ⟨P1, P2, rr, t, ps, -, hsp, -⟩
    · exact q
    · exact absurd hsp.1 (hno ps)
  obtain rfl : e3 = a := hka.symm
  refine J_iconst C (v := nI (1)) dS_movesWithin_0 (by decide) ?_
  refine J_iload_n C 1 dS_movesWithin_1 rfl rfl ?_
  refine J_aload_n C 0 dS_movesWithin_2 rfl rfl ?_
  refine J_get C 0 0 hinS rfl rfl (by decide) fkS_9 rfl dS_movesWithin_3 ?_
  refine J_mmin C lkS_52 k_mminS k_MathI k_mminC (by decide) (Nat.le_of_ble_eq_true rfl) (by decide) (by decide) dS_movesWithin_6 ?_
  refine J_topX C (x' := nI (min b m)) (by rw [jn_min hb31 (by omega)]; congr 1; split <;> omega) ?_
  refine J_mmax C lkS_58 k_mmaxS k_MathI k_mmaxC (by decide) (Nat.le_of_ble_eq_true rfl) (by decide) (by decide) dS_movesWithin_9 ?_
  refine J_topX C (x' := nI (min b m)) (by rw [jn_max (by omega) (by omega)]; congr 1; split <;> omega) ?_
  refine J_istore_n C (lv' := [(0, .ref (h)), (1, .int (nI (b))), (2, .int (nI (min b m)))]) [1, 2, 0] dS_movesWithin_12 rfl (by decide) rfl ?_
  refine J_aload_n C 0 dS_movesWithin_13 rfl rfl ?_
  refine J_get C 0 2 hinS rfl rfl (by decide) fkS_21 rfl dS_movesWithin_14 ?_
  refine J_iload_n C 2 dS_movesWithin_17 rfl rfl ?_
  refine J_aald C 2 rfl (by omega) (by omega) dS_movesWithin_18 ?_
  refine J_topV C (x' := .ref (e3)) (by rw [hkn]; rfl) ?_
  refine J_astore_n C (lv' := [(0, .ref (h)), (1, .int (nI (b))), (2, .int (nI (min b m))), (3, .ref (e3))]) [1, 2, 3, 0] dS_movesWithin_19 rfl (by decide) rfl ?_
  refine J_aload_n C 3 dS_movesWithin_20 rfl rfl ?_
  refine J_ifnonnull C 37 dS_movesWithin_21 (by decide) ?_
  refine J_aload_n C 3 dS_movesWithin_37 rfl rfl ?_
  exact hret _ _ _ _ _ _ dS_movesWithin_38 (by decide) (by decide) (⟨rfl, rfl⟩)
set_option maxHeartbeats 4000000 in
set_option maxRecDepth 100000 in
theorem c_S_mw_sp (E : jE) (l : Launch) (h : Nat) (m : Nat) (e1 : Nat) (e2 : Nat) (e3 : Nat) (e4 : Nat) (e5 : Nat) (qd : Nat) (e8 : Nat) (nd : Nat → Nat) (kn : Nat → Option Nat) (zz : Nat → Nat) (ln : Nat) (lf : Nat → Nat) (qu : Nat → Nat) (pool : va_W) (b : Nat) (a : Nat) (ps : List Nat) (hg : mG m nd) (hln : ln ≤ 4096) (hb1 : 1 ≤ b) (hb31 : b < 2 ^ 31) (hk : kOK E m nd kn e3 pool) (hkn : kn (min b m) = some a) (hsp : mSP m nd (min b m) ps) : Con E l yS_movesWithin bS_movesWithin 4 (some (.object "ReversibleParts$Moves")) { frames := 1, cells := 0, slots := 0, locals := 14 } [.ref (h), .int (nI (b))] ([((h), .inr (2, [.int (nI (m)), .ref (e1), .ref (e2), .ref (e3), .ref (e4), .ref (e5), .int (nI (qd))])), kI E (e1) (12) (nd), kQ E (e2) (13) (kn), ((e3), .inr (1, [.ref (e8)])), kI E (e8) (0) (zz), kI E (e4) (ln) (lf), kI E (e5) (ln) (qu)] ++ pool) (fun r w => ∃ (P1 P2 : va_W) (r1 : Nat) (t1 : Nat → Nat), r = some (.ref a) ∧ pool = (P1 ++ ((a), .inr (1, [.ref (r1)])) :: kI E (r1) (ps.length) (t1) :: P2) ∧ ps.length ≤ 4096 ∧ gL t1 ps ∧ w = ([((h), .inr (2, [.int (nI (m)), .ref (e1), .ref (e2), .ref (e3), .ref (e4), .ref (e5), .int (nI (qd))])), kI E (e1) (12) (nd), kQ E (e2) (13) (kn), ((e3), .inr (1, [.ref (e8)])), kI E (e8) (0) (zz), kI E (e4) (ln) (lf), kI E (e5) (ln) (qu)] ++ pool)) := by
  refine Con.ofA (by decide) (Nat.le_of_ble_eq_true rfl) ?_
  intro J C hret
  show J 0 [(0, .ref (h)), (1, .int (nI (b)))] [] ([((h), .inr (2, [.int (nI (m)), .ref (e1), .ref (e2), .ref (e3), .ref (e4), .ref (e5), .int (nI (qd))])), kI E (e1) (12) (nd), kQ E (e2) (13) (kn), ((e3), .inr (1, [.ref (e8)])), kI E (e8) (0) (zz), kI E (e4) (ln) (lf), kI E (e5) (ln) (qu)] ++ pool) 0 0
  have hm1 := hg.1
  have hm12 := hg.2.1
  have hp12 := p4096 hm12
  have hpm := Nat.two_pow_pos m
  have hpg : 2 ^ (m - 1) < 2 ^ m := Nat.pow_lt_pow_right (by omega) (by omega)
  have hmn : 1 ≤ min b m ∧ min b m ≤ m ∧ min b m ≤ b := by omega
  obtain ⟨P1, P2, rr, t, hpool, hpl, hgl⟩ : ∃ (P1 P2 : va_W) (rr : Nat) (t : Nat → Nat), pool = P1 ++ (a, .inr (1, [.ref rr])) :: kI E rr ps.length t :: P2 ∧ ps.length ≤ 4096 ∧ gL t ps := by
    rcases hk (min b m) a (by omega) (by omega) hkn with ⟨-, q⟩ | ⟨P1, P2, rr, t, ps', h1, h2, h3, h4⟩
    · exact absurd hsp.1 (q ps)
    · obtain rfl : ps = ps' := mSP_one hg hsp h2
      exact ⟨P1, P2, rr, t, h1, h3, h4⟩
  refine J_iconst C (v := nI (1)) dS_movesWithin_0 (by decide) ?_
  refine J_iload_n C 1 dS_movesWithin_1 rfl rfl ?_
  refine J_aload_n C 0 dS_movesWithin_2 rfl rfl ?_
  refine J_get C 0 0 hinS rfl rfl (by decide) fkS_9 rfl dS_movesWithin_3 ?_
  refine J_mmin C lkS_52 k_mminS k_MathI k_mminC (by decide) (Nat.le_of_ble_eq_true rfl) (by decide) (by decide) dS_movesWithin_6 ?_
  refine J_topX C (x' := nI (min b m)) (by rw [jn_min hb31 (by omega)]; congr 1; split <;> omega) ?_
  refine J_mmax C lkS_58 k_mmaxS k_MathI k_mmaxC (by decide) (Nat.le_of_ble_eq_true rfl) (by decide) (by decide) dS_movesWithin_9 ?_
  refine J_topX C (x' := nI (min b m)) (by rw [jn_max (by omega) (by omega)]; congr 1; split <;> omega) ?_
  refine J_istore_n C (lv' := [(0, .ref (h)), (1, .int (nI (b))), (2, .int (nI (min b m)))]) [1, 2, 0] dS_movesWithin_12 rfl (by decide) rfl ?_
  refine J_aload_n C 0 dS_movesWithin_13 rfl rfl ?_
  refine J_get C 0 2 hinS rfl rfl (by decide) fkS_21 rfl dS_movesWithin_14 ?_
  refine J_iload_n C 2 dS_movesWithin_17 rfl rfl ?_
  refine J_aald C 2 rfl (by omega) (by omega) dS_movesWithin_18 ?_
  refine J_topV C (x' := .ref (a)) (by rw [hkn]; rfl) ?_
  refine J_astore_n C (lv' := [(0, .ref (h)), (1, .int (nI (b))), (2, .int (nI (min b m))), (3, .ref (a))]) [1, 2, 3, 0] dS_movesWithin_19 rfl (by decide) rfl ?_
  refine J_aload_n C 3 dS_movesWithin_20 rfl rfl ?_
  refine J_ifnonnull C 37 dS_movesWithin_21 (by decide) ?_
  refine J_aload_n C 3 dS_movesWithin_37 rfl rfl ?_
  exact hret _ _ _ _ _ _ dS_movesWithin_38 (by decide) (by decide) (⟨P1, P2, rr, t, rfl, hpool, hpl, hgl, rfl⟩)
set_option maxHeartbeats 4000000 in
set_option maxRecDepth 100000 in
theorem c_S_mw_ng (E : jE) (l : Launch) (h : Nat) (m : Nat) (e1 : Nat) (e2 : Nat) (e3 : Nat) (e4 : Nat) (e5 : Nat) (qd : Nat) (e8 : Nat) (nd : Nat → Nat) (kn : Nat → Option Nat) (zz : Nat → Nat) (ln : Nat) (lf : Nat → Nat) (qu : Nat → Nat) (pool : va_W) (b : Nat) (hg : mG m nd) (hln : ln ≤ 4096) (hb1 : 1 ≤ b) (hb31 : b < 2 ^ 31) (hk : kOK E m nd kn e3 pool) (hkn : kn (min b m) = none) (hno : ∀ qs, ¬ mP m nd (min b m) 0 qs (2 ^ (m - 1))) : Con E l yS_movesWithin bS_movesWithin 4 (some (.object "ReversibleParts$Moves")) { frames := 4, cells := 2, slots := 8192, locals := 99 } [.ref (h), .int (nI (b))] ([((h), .inr (2, [.int (nI (m)), .ref (e1), .ref (e2), .ref (e3), .ref (e4), .ref (e5), .int (nI (qd))])), kI E (e1) (12) (nd), kQ E (e2) (13) (kn), ((e3), .inr (1, [.ref (e8)])), kI E (e8) (0) (zz), kI E (e4) (ln) (lf), kI E (e5) (ln) (qu)] ++ pool) (fun r w => ∃ (kn1 : Nat → Option Nat) (e41 e51 l1 n1 : Nat) (f1 u1 : Nat → Nat), r = some (.ref e3) ∧ l1 ≤ 4096 ∧ 2 ^ m ≤ l1 ∧ kOK E m nd kn1 e3 pool ∧ w = ([((h), .inr (2, [.int (nI (m)), .ref (e1), .ref (e2), .ref (e3), .ref (e41), .ref (e51), .int (nI (n1))])), kI E (e1) (12) (nd), kQ E (e2) (13) (kn1), ((e3), .inr (1, [.ref (e8)])), kI E (e8) (0) (zz), kI E (e41) (l1) (f1), kI E (e51) (l1) (u1)] ++ pool)) := by
  refine Con.ofA (by decide) (Nat.le_of_ble_eq_true rfl) ?_
  intro J C hret
  show J 0 [(0, .ref (h)), (1, .int (nI (b)))] [] ([((h), .inr (2, [.int (nI (m)), .ref (e1), .ref (e2), .ref (e3), .ref (e4), .ref (e5), .int (nI (qd))])), kI E (e1) (12) (nd), kQ E (e2) (13) (kn), ((e3), .inr (1, [.ref (e8)])), kI E (e8) (0) (zz), kI E (e4) (ln) (lf), kI E (e5) (ln) (qu)] ++ pool) 0 0
  have hm1 := hg.1
  have hm12 := hg.2.1
  have hp12 := p4096 hm12
  have hpm := Nat.two_pow_pos m
  have hpg : 2 ^ (m - 1) < 2 ^ m := Nat.pow_lt_pow_right (by omega) (by omega)
  have hmn : 1 ≤ min b m ∧ min b m ≤ m ∧ min b m ≤ b := by omega
  refine J_iconst C (v := nI (1)) dS_movesWithin_0 (by decide) ?_
  refine J_iload_n C 1 dS_movesWithin_1 rfl rfl ?_
  refine J_aload_n C 0 dS_movesWithin_2 rfl rfl ?_
  refine J_get C 0 0 hinS rfl rfl (by decide) fkS_9 rfl dS_movesWithin_3 ?_
  refine J_mmin C lkS_52 k_mminS k_MathI k_mminC (by decide) (Nat.le_of_ble_eq_true rfl) (by decide) (by decide) dS_movesWithin_6 ?_
  refine J_topX C (x' := nI (min b m)) (by rw [jn_min hb31 (by omega)]; congr 1; split <;> omega) ?_
  refine J_mmax C lkS_58 k_mmaxS k_MathI k_mmaxC (by decide) (Nat.le_of_ble_eq_true rfl) (by decide) (by decide) dS_movesWithin_9 ?_
  refine J_topX C (x' := nI (min b m)) (by rw [jn_max (by omega) (by omega)]; congr 1; split <;> omega) ?_
  refine J_istore_n C (lv' := [(0, .ref (h)), (1, .int (nI (b))), (2, .int (nI (min b m)))]) [1, 2, 0] dS_movesWithin_12 rfl (by decide) rfl ?_
  refine J_aload_n C 0 dS_movesWithin_13 rfl rfl ?_
  refine J_get C 0 2 hinS rfl rfl (by decide) fkS_21 rfl dS_movesWithin_14 ?_
  refine J_iload_n C 2 dS_movesWithin_17 rfl rfl ?_
  refine J_aald C 2 rfl (by omega) (by omega) dS_movesWithin_18 ?_
  refine J_topV C (x' := .null) (by rw [hkn]; rfl) ?_
  refine J_astore_nN C (lv' := [(0, .ref (h)), (1, .int (nI (b))), (2, .int (nI (min b m))), (3, .null)]) [1, 2, 3, 0] dS_movesWithin_19 rfl (by decide) rfl ?_
  refine J_aload_nN C 3 dS_movesWithin_20 rfl rfl ?_
  refine J_ifnonnullN C dS_movesWithin_21 ?_
  refine J_aload_n C 0 dS_movesWithin_24 rfl rfl ?_
  refine J_iload_n C 2 dS_movesWithin_25 rfl rfl ?_
  refine J_pickR C (cx := [((h), .inr (2, [.int (nI (m)), .ref (e1), .ref (e2), .ref (e3), .ref (e4), .ref (e5), .int (nI (qd))])), kI E (e1) (12) (nd), kI E (e4) (ln) (lf), kI E (e5) (ln) (qu), kQ E (e2) (13) (kn), ((e3), .inr (1, [.ref (e8)])), kI E (e8) (0) (zz)]) [0, 1, 5, 6, 2, 3, 4] (by decide) rfl ?_
  refine J_callV C (rest := []) [] [((h), .inr (2, [.int (nI (m)), .ref (e1), .ref (e2), .ref (e3), .ref (e4), .ref (e5), .int (nI (qd))])), kI E (e1) (12) (nd), kI E (e4) (ln) (lf), kI E (e5) (ln) (qu)] ([kQ E (e2) (13) (kn), ((e3), .inr (1, [.ref (e8)])), kI E (e8) (0) (zz)] ++ pool) 0 (c_S_search_ng E l h m e1 e2 e3 e4 e5 qd nd ln lf qu (min b m) (by assumption) (by omega) (by omega) (by omega) (by assumption)) mmS_search msS_search lkS_61 rfl rfl (rfl) rfl rfl ⟨by decide, by decide⟩ ⟨by decide, by decide⟩ (Nat.le_of_ble_eq_true rfl) dS_movesWithin_26 (fun r_c w_c hp => ?_)
  obtain ⟨e41, e51, l1, n1, f1, u1, rfl, hl1, hml1, rfl⟩ := hp
  refine J_norm C (st' := [.ref (e3)]) (ws' := ([((h), .inr (2, [.int (nI (m)), .ref (e1), .ref (e2), .ref (e3), .ref (e41), .ref (e51), .int (nI (n1))])), kI E (e1) (12) (nd), kI E (e41) (l1) (f1), kI E (e51) (l1) (u1), kQ E (e2) (13) (kn), ((e3), .inr (1, [.ref (e8)])), kI E (e8) (0) (zz)] ++ pool)) (cs' := 2) (ss' := 8192) rfl (rfl) rfl rfl ?_
  refine J_pickR C (cx := [((h), .inr (2, [.int (nI (m)), .ref (e1), .ref (e2), .ref (e3), .ref (e41), .ref (e51), .int (nI (n1))])), kI E (e1) (12) (nd), kQ E (e2) (13) (kn), ((e3), .inr (1, [.ref (e8)])), kI E (e8) (0) (zz), kI E (e41) (l1) (f1), kI E (e51) (l1) (u1)]) [0, 1, 4, 5, 6, 2, 3] (by decide) rfl ?_
  refine J_astore_n C (lv' := [(0, .ref (h)), (1, .int (nI (b))), (2, .int (nI (min b m))), (3, .ref (e3))]) [1, 2, 3, 0] dS_movesWithin_29 rfl (by decide) rfl ?_
  refine J_aload_n C 0 dS_movesWithin_30 rfl rfl ?_
  refine J_get C 0 2 hinS rfl rfl (by decide) fkS_21 rfl dS_movesWithin_31 ?_
  refine J_iload_n C 2 dS_movesWithin_34 rfl rfl ?_
  refine J_aload_n C 3 dS_movesWithin_35 rfl rfl ?_
  refine J_aast C (ws' := ([((h), .inr (2, [.int (nI (m)), .ref (e1), .ref (e2), .ref (e3), .ref (e41), .ref (e51), .int (nI (n1))])), kI E (e1) (12) (nd), kQ E (e2) (13) (va_up kn (min b m) (some e3)), ((e3), .inr (1, [.ref (e8)])), kI E (e8) (0) (zz), kI E (e41) (l1) (f1), kI E (e51) (l1) (u1)] ++ pool)) 2 3 rfl rfl rfl (by omega) (by omega) dS_movesWithin_36 rfl ?_
  refine J_aload_n C 3 dS_movesWithin_37 rfl rfl ?_
  exact hret _ _ _ _ _ _ dS_movesWithin_38 (by decide) (by decide) (⟨_, _, _, _, _, _, _, rfl, hl1, hml1, kOK_no hk hno, rfl⟩)
set_option maxHeartbeats 4000000 in
set_option maxRecDepth 100000 in
theorem c_S_mw_pg (E : jE) (l : Launch) (h : Nat) (m : Nat) (e1 : Nat) (e2 : Nat) (e3 : Nat) (e4 : Nat) (e5 : Nat) (qd : Nat) (e8 : Nat) (nd : Nat → Nat) (kn : Nat → Option Nat) (zz : Nat → Nat) (ln : Nat) (lf : Nat → Nat) (qu : Nat → Nat) (pool : va_W) (b : Nat) (ps : List Nat) (hg : mG m nd) (hln : ln ≤ 4096) (hb1 : 1 ≤ b) (hb31 : b < 2 ^ 31) (hk : kOK E m nd kn e3 pool) (hkn : kn (min b m) = none) (hsp : mSP m nd (min b m) ps) : Con E l yS_movesWithin bS_movesWithin 4 (some (.object "ReversibleParts$Moves")) { frames := 4, cells := 4, slots := 12289, locals := 99 } [.ref (h), .int (nI (b))] ([((h), .inr (2, [.int (nI (m)), .ref (e1), .ref (e2), .ref (e3), .ref (e4), .ref (e5), .int (nI (qd))])), kI E (e1) (12) (nd), kQ E (e2) (13) (kn), ((e3), .inr (1, [.ref (e8)])), kI E (e8) (0) (zz), kI E (e4) (ln) (lf), kI E (e5) (ln) (qu)] ++ pool) (fun r w => ∃ (kn1 : Nat → Option Nat) (e41 e51 l1 n1 : Nat) (f1 u1 : Nat → Nat) (q1 r1 : Nat) (t1 : Nat → Nat), r = some (.ref q1) ∧ l1 ≤ 4096 ∧ 2 ^ m ≤ l1 ∧ ps.length ≤ 4096 ∧ gL t1 ps ∧ kOK E m nd kn1 e3 ([] ++ ((q1), .inr (1, [.ref (r1)])) :: kI E (r1) (ps.length) (t1) :: pool) ∧ w = ([((h), .inr (2, [.int (nI (m)), .ref (e1), .ref (e2), .ref (e3), .ref (e41), .ref (e51), .int (nI (n1))])), kI E (e1) (12) (nd), kQ E (e2) (13) (kn1), ((e3), .inr (1, [.ref (e8)])), kI E (e8) (0) (zz), kI E (e41) (l1) (f1), kI E (e51) (l1) (u1)] ++ ([] ++ ((q1), .inr (1, [.ref (r1)])) :: kI E (r1) (ps.length) (t1) :: pool))) := by
  refine Con.ofA (by decide) (Nat.le_of_ble_eq_true rfl) ?_
  intro J C hret
  show J 0 [(0, .ref (h)), (1, .int (nI (b)))] [] ([((h), .inr (2, [.int (nI (m)), .ref (e1), .ref (e2), .ref (e3), .ref (e4), .ref (e5), .int (nI (qd))])), kI E (e1) (12) (nd), kQ E (e2) (13) (kn), ((e3), .inr (1, [.ref (e8)])), kI E (e8) (0) (zz), kI E (e4) (ln) (lf), kI E (e5) (ln) (qu)] ++ pool) 0 0
  have hm1 := hg.1
  have hm12 := hg.2.1
  have hp12 := p4096 hm12
  have hpm := Nat.two_pow_pos m
  have hpg : 2 ^ (m - 1) < 2 ^ m := Nat.pow_lt_pow_right (by omega) (by omega)
  have hmn : 1 ≤ min b m ∧ min b m ≤ m ∧ min b m ≤ b := by omega
  refine J_iconst C (v := nI (1)) dS_movesWithin_0 (by decide) ?_
  refine J_iload_n C 1 dS_movesWithin_1 rfl rfl ?_
  refine J_aload_n C 0 dS_movesWithin_2 rfl rfl ?_
  refine J_get C 0 0 hinS rfl rfl (by decide) fkS_9 rfl dS_movesWithin_3 ?_
  refine J_mmin C lkS_52 k_mminS k_MathI k_mminC (by decide) (Nat.le_of_ble_eq_true rfl) (by decide) (by decide) dS_movesWithin_6 ?_
  refine J_topX C (x' := nI (min b m)) (by rw [jn_min hb31 (by omega)]; congr 1; split <;> omega) ?_
  refine J_mmax C lkS_58 k_mmaxS k_MathI k_mmaxC (by decide) (Nat.le_of_ble_eq_true rfl) (by decide) (by decide) dS_movesWithin_9 ?_
  refine J_topX C (x' := nI (min b m)) (by rw [jn_max (by omega) (by omega)]; congr 1; split <;> omega) ?_
  refine J_istore_n C (lv' := [(0, .ref (h)), (1, .int (nI (b))), (2, .int (nI (min b m)))]) [1, 2, 0] dS_movesWithin_12 rfl (by decide) rfl ?_
  refine J_aload_n C 0 dS_movesWithin_13 rfl rfl ?_
  refine J_get C 0 2 hinS rfl rfl (by decide) fkS_21 rfl dS_movesWithin_14 ?_
  refine J_iload_n C 2 dS_movesWithin_17 rfl rfl ?_
  refine J_aald C 2 rfl (by omega) (by omega) dS_movesWithin_18 ?_
  refine J_topV C (x' := .null) (by rw [hkn]; rfl) ?_
  refine J_astore_nN C (lv' := [(0, .ref (h)), (1, .int (nI (b))), (2, .int (nI (min b m))), (3, .null)]) [1, 2, 3, 0] dS_movesWithin_19 rfl (by decide) rfl ?_
  refine J_aload_nN C 3 dS_movesWithin_20 rfl rfl ?_
  refine J_ifnonnullN C dS_movesWithin_21 ?_
  refine J_aload_n C 0 dS_movesWithin_24 rfl rfl ?_
  refine J_iload_n C 2 dS_movesWithin_25 rfl rfl ?_
  refine J_pickR C (cx := [((h), .inr (2, [.int (nI (m)), .ref (e1), .ref (e2), .ref (e3), .ref (e4), .ref (e5), .int (nI (qd))])), kI E (e1) (12) (nd), kI E (e4) (ln) (lf), kI E (e5) (ln) (qu), kQ E (e2) (13) (kn), ((e3), .inr (1, [.ref (e8)])), kI E (e8) (0) (zz)]) [0, 1, 5, 6, 2, 3, 4] (by decide) rfl ?_
  refine J_callV C (rest := []) [] [((h), .inr (2, [.int (nI (m)), .ref (e1), .ref (e2), .ref (e3), .ref (e4), .ref (e5), .int (nI (qd))])), kI E (e1) (12) (nd), kI E (e4) (ln) (lf), kI E (e5) (ln) (qu)] ([kQ E (e2) (13) (kn), ((e3), .inr (1, [.ref (e8)])), kI E (e8) (0) (zz)] ++ pool) 0 (c_S_search_pg E l h m e1 e2 e3 e4 e5 qd nd ln lf qu (min b m) ps (by assumption) (by omega) (by omega) (by omega) (by assumption)) mmS_search msS_search lkS_61 rfl rfl (rfl) rfl rfl ⟨by decide, by decide⟩ ⟨by decide, by decide⟩ (Nat.le_of_ble_eq_true rfl) dS_movesWithin_26 (fun r_c w_c hp => ?_)
  obtain ⟨e41, e51, l1, n1, f1, u1, q1, r1, t1, rfl, hl1, hml1, hpl1, hgl1, rfl⟩ := hp
  refine J_norm C (st' := [.ref (q1)]) (ws' := ([((h), .inr (2, [.int (nI (m)), .ref (e1), .ref (e2), .ref (e3), .ref (e41), .ref (e51), .int (nI (n1))])), kI E (e1) (12) (nd), kI E (e41) (l1) (f1), kI E (e51) (l1) (u1), ((q1), .inr (1, [.ref (r1)])), kI E (r1) (ps.length) (t1), kQ E (e2) (13) (kn), ((e3), .inr (1, [.ref (e8)])), kI E (e8) (0) (zz)] ++ pool)) (cs' := 4) (ss' := 12289) rfl (rfl) rfl rfl ?_
  refine J_pickR C (cx := [((h), .inr (2, [.int (nI (m)), .ref (e1), .ref (e2), .ref (e3), .ref (e41), .ref (e51), .int (nI (n1))])), kI E (e1) (12) (nd), kQ E (e2) (13) (kn), ((e3), .inr (1, [.ref (e8)])), kI E (e8) (0) (zz), kI E (e41) (l1) (f1), kI E (e51) (l1) (u1), ((q1), .inr (1, [.ref (r1)])), kI E (r1) (ps.length) (t1)]) [0, 1, 6, 7, 8, 2, 3, 4, 5] (by decide) rfl ?_
  refine J_astore_n C (lv' := [(0, .ref (h)), (1, .int (nI (b))), (2, .int (nI (min b m))), (3, .ref (q1))]) [1, 2, 3, 0] dS_movesWithin_29 rfl (by decide) rfl ?_
  refine J_aload_n C 0 dS_movesWithin_30 rfl rfl ?_
  refine J_get C 0 2 hinS rfl rfl (by decide) fkS_21 rfl dS_movesWithin_31 ?_
  refine J_iload_n C 2 dS_movesWithin_34 rfl rfl ?_
  refine J_aload_n C 3 dS_movesWithin_35 rfl rfl ?_
  refine J_aast C (ws' := ([((h), .inr (2, [.int (nI (m)), .ref (e1), .ref (e2), .ref (e3), .ref (e41), .ref (e51), .int (nI (n1))])), kI E (e1) (12) (nd), kQ E (e2) (13) (va_up kn (min b m) (some q1)), ((e3), .inr (1, [.ref (e8)])), kI E (e8) (0) (zz), kI E (e41) (l1) (f1), kI E (e51) (l1) (u1), ((q1), .inr (1, [.ref (r1)])), kI E (r1) (ps.length) (t1)] ++ pool)) 2 7 rfl rfl rfl (by omega) (by omega) dS_movesWithin_36 rfl ?_
  refine J_aload_n C 3 dS_movesWithin_37 rfl rfl ?_
  exact hret _ _ _ _ _ _ dS_movesWithin_38 (by decide) (by decide) (⟨_, _, _, _, _, _, _, _, _, _, rfl, hl1, hml1, hpl1, hgl1, kOK_new hk hsp hpl1 hgl1, rfl⟩)
set_option maxHeartbeats 4000000 in
set_option maxRecDepth 100000 in
theorem c_S_mw_n0 (E : jE) (l : Launch) (h : Nat) (m : Nat) (e1 : Nat) (e2 : Nat) (e3 : Nat) (e4 : Nat) (e5 : Nat) (qd : Nat) (e8 : Nat) (nd : Nat → Nat) (kn : Nat → Option Nat) (zz : Nat → Nat) (ln : Nat) (lf : Nat → Nat) (qu : Nat → Nat) (pool : va_W) (b : Nat) (hg : mG m nd) (hln : ln ≤ 4096) (hb1 : 1 ≤ b) (hb31 : b < 2 ^ 31) (hk : kOK E m nd kn e3 pool) (hml : 2 ^ m ≤ ln) (hkn : kn (min b m) = none) (hno : ∀ qs, ¬ mP m nd (min b m) 0 qs (2 ^ (m - 1))) : Con E l yS_movesWithin bS_movesWithin 4 (some (.object "ReversibleParts$Moves")) { frames := 4, cells := 0, slots := 0, locals := 99 } [.ref (h), .int (nI (b))] ([((h), .inr (2, [.int (nI (m)), .ref (e1), .ref (e2), .ref (e3), .ref (e4), .ref (e5), .int (nI (qd))])), kI E (e1) (12) (nd), kQ E (e2) (13) (kn), ((e3), .inr (1, [.ref (e8)])), kI E (e8) (0) (zz), kI E (e4) (ln) (lf), kI E (e5) (ln) (qu)] ++ pool) (fun r w => ∃ (kn1 : Nat → Option Nat) (e41 e51 l1 n1 : Nat) (f1 u1 : Nat → Nat), r = some (.ref e3) ∧ l1 ≤ 4096 ∧ 2 ^ m ≤ l1 ∧ kOK E m nd kn1 e3 pool ∧ w = ([((h), .inr (2, [.int (nI (m)), .ref (e1), .ref (e2), .ref (e3), .ref (e41), .ref (e51), .int (nI (n1))])), kI E (e1) (12) (nd), kQ E (e2) (13) (kn1), ((e3), .inr (1, [.ref (e8)])), kI E (e8) (0) (zz), kI E (e41) (l1) (f1), kI E (e51) (l1) (u1)] ++ pool)) := by
  refine Con.ofA (by decide) (Nat.le_of_ble_eq_true rfl) ?_
  intro J C hret
  show J 0 [(0, .ref (h)), (1, .int (nI (b)))] [] ([((h), .inr (2, [.int (nI (m)), .ref (e1), .ref (e2), .ref (e3), .ref (e4), .ref (e5), .int (nI (qd))])), kI E (e1) (12) (nd), kQ E (e2) (13) (kn), ((e3), .inr (1, [.ref (e8)])), kI E (e8) (0) (zz), kI E (e4) (ln) (lf), kI E (e5) (ln) (qu)] ++ pool) 0 0
  have hm1 := hg.1
  have hm12 := hg.2.1
  have hp12 := p4096 hm12
  have hpm := Nat.two_pow_pos m
  have hpg : 2 ^ (m - 1) < 2 ^ m := Nat.pow_lt_pow_right (by omega) (by omega)
  have hmn : 1 ≤ min b m ∧ min b m ≤ m ∧ min b m ≤ b := by omega
  refine J_iconst C (v := nI (1)) dS_movesWithin_0 (by decide) ?_
  refine J_iload_n C 1 dS_movesWithin_1 rfl rfl ?_
  refine J_aload_n C 0 dS_movesWithin_2 rfl rfl ?_
  refine J_get C 0 0 hinS rfl rfl (by decide) fkS_9 rfl dS_movesWithin_3 ?_
  refine J_mmin C lkS_52 k_mminS k_MathI k_mminC (by decide) (Nat.le_of_ble_eq_true rfl) (by decide) (by decide) dS_movesWithin_6 ?_
  refine J_topX C (x' := nI (min b m)) (by rw [jn_min hb31 (by omega)]; congr 1; split <;> omega) ?_
  refine J_mmax C lkS_58 k_mmaxS k_MathI k_mmaxC (by decide) (Nat.le_of_ble_eq_true rfl) (by decide) (by decide) dS_movesWithin_9 ?_
  refine J_topX C (x' := nI (min b m)) (by rw [jn_max (by omega) (by omega)]; congr 1; split <;> omega) ?_
  refine J_istore_n C (lv' := [(0, .ref (h)), (1, .int (nI (b))), (2, .int (nI (min b m)))]) [1, 2, 0] dS_movesWithin_12 rfl (by decide) rfl ?_
  refine J_aload_n C 0 dS_movesWithin_13 rfl rfl ?_
  refine J_get C 0 2 hinS rfl rfl (by decide) fkS_21 rfl dS_movesWithin_14 ?_
  refine J_iload_n C 2 dS_movesWithin_17 rfl rfl ?_
  refine J_aald C 2 rfl (by omega) (by omega) dS_movesWithin_18 ?_
  refine J_topV C (x' := .null) (by rw [hkn]; rfl) ?_
  refine J_astore_nN C (lv' := [(0, .ref (h)), (1, .int (nI (b))), (2, .int (nI (min b m))), (3, .null)]) [1, 2, 3, 0] dS_movesWithin_19 rfl (by decide) rfl ?_
  refine J_aload_nN C 3 dS_movesWithin_20 rfl rfl ?_
  refine J_ifnonnullN C dS_movesWithin_21 ?_
  refine J_aload_n C 0 dS_movesWithin_24 rfl rfl ?_
  refine J_iload_n C 2 dS_movesWithin_25 rfl rfl ?_
  refine J_pickR C (cx := [((h), .inr (2, [.int (nI (m)), .ref (e1), .ref (e2), .ref (e3), .ref (e4), .ref (e5), .int (nI (qd))])), kI E (e1) (12) (nd), kI E (e4) (ln) (lf), kI E (e5) (ln) (qu), kQ E (e2) (13) (kn), ((e3), .inr (1, [.ref (e8)])), kI E (e8) (0) (zz)]) [0, 1, 5, 6, 2, 3, 4] (by decide) rfl ?_
  refine J_callV C (rest := []) [] [((h), .inr (2, [.int (nI (m)), .ref (e1), .ref (e2), .ref (e3), .ref (e4), .ref (e5), .int (nI (qd))])), kI E (e1) (12) (nd), kI E (e4) (ln) (lf), kI E (e5) (ln) (qu)] ([kQ E (e2) (13) (kn), ((e3), .inr (1, [.ref (e8)])), kI E (e8) (0) (zz)] ++ pool) 0 (c_S_search_n0 E l h m e1 e2 e3 e4 e5 qd nd ln lf qu (min b m) (by assumption) (by omega) (by omega) (by omega) (by omega) (by assumption)) mmS_search msS_search lkS_61 rfl rfl (rfl) rfl rfl ⟨by decide, by decide⟩ ⟨by decide, by decide⟩ (Nat.le_of_ble_eq_true rfl) dS_movesWithin_26 (fun r_c w_c hp => ?_)
  obtain ⟨e41, e51, l1, n1, f1, u1, rfl, hl1, hml1, rfl⟩ := hp
  refine J_norm C (st' := [.ref (e3)]) (ws' := ([((h), .inr (2, [.int (nI (m)), .ref (e1), .ref (e2), .ref (e3), .ref (e41), .ref (e51), .int (nI (n1))])), kI E (e1) (12) (nd), kI E (e41) (l1) (f1), kI E (e51) (l1) (u1), kQ E (e2) (13) (kn), ((e3), .inr (1, [.ref (e8)])), kI E (e8) (0) (zz)] ++ pool)) (cs' := 0) (ss' := 0) rfl (rfl) rfl rfl ?_
  refine J_pickR C (cx := [((h), .inr (2, [.int (nI (m)), .ref (e1), .ref (e2), .ref (e3), .ref (e41), .ref (e51), .int (nI (n1))])), kI E (e1) (12) (nd), kQ E (e2) (13) (kn), ((e3), .inr (1, [.ref (e8)])), kI E (e8) (0) (zz), kI E (e41) (l1) (f1), kI E (e51) (l1) (u1)]) [0, 1, 4, 5, 6, 2, 3] (by decide) rfl ?_
  refine J_astore_n C (lv' := [(0, .ref (h)), (1, .int (nI (b))), (2, .int (nI (min b m))), (3, .ref (e3))]) [1, 2, 3, 0] dS_movesWithin_29 rfl (by decide) rfl ?_
  refine J_aload_n C 0 dS_movesWithin_30 rfl rfl ?_
  refine J_get C 0 2 hinS rfl rfl (by decide) fkS_21 rfl dS_movesWithin_31 ?_
  refine J_iload_n C 2 dS_movesWithin_34 rfl rfl ?_
  refine J_aload_n C 3 dS_movesWithin_35 rfl rfl ?_
  refine J_aast C (ws' := ([((h), .inr (2, [.int (nI (m)), .ref (e1), .ref (e2), .ref (e3), .ref (e41), .ref (e51), .int (nI (n1))])), kI E (e1) (12) (nd), kQ E (e2) (13) (va_up kn (min b m) (some e3)), ((e3), .inr (1, [.ref (e8)])), kI E (e8) (0) (zz), kI E (e41) (l1) (f1), kI E (e51) (l1) (u1)] ++ pool)) 2 3 rfl rfl rfl (by omega) (by omega) dS_movesWithin_36 rfl ?_
  refine J_aload_n C 3 dS_movesWithin_37 rfl rfl ?_
  exact hret _ _ _ _ _ _ dS_movesWithin_38 (by decide) (by decide) (⟨_, _, _, _, _, _, _, rfl, hl1, hml1, kOK_no hk hno, rfl⟩)
set_option maxHeartbeats 4000000 in
set_option maxRecDepth 100000 in
theorem c_S_mw_p0 (E : jE) (l : Launch) (h : Nat) (m : Nat) (e1 : Nat) (e2 : Nat) (e3 : Nat) (e4 : Nat) (e5 : Nat) (qd : Nat) (e8 : Nat) (nd : Nat → Nat) (kn : Nat → Option Nat) (zz : Nat → Nat) (ln : Nat) (lf : Nat → Nat) (qu : Nat → Nat) (pool : va_W) (b : Nat) (ps : List Nat) (hg : mG m nd) (hln : ln ≤ 4096) (hb1 : 1 ≤ b) (hb31 : b < 2 ^ 31) (hk : kOK E m nd kn e3 pool) (hml : 2 ^ m ≤ ln) (hkn : kn (min b m) = none) (hsp : mSP m nd (min b m) ps) : Con E l yS_movesWithin bS_movesWithin 4 (some (.object "ReversibleParts$Moves")) { frames := 4, cells := 2, slots := 4097, locals := 99 } [.ref (h), .int (nI (b))] ([((h), .inr (2, [.int (nI (m)), .ref (e1), .ref (e2), .ref (e3), .ref (e4), .ref (e5), .int (nI (qd))])), kI E (e1) (12) (nd), kQ E (e2) (13) (kn), ((e3), .inr (1, [.ref (e8)])), kI E (e8) (0) (zz), kI E (e4) (ln) (lf), kI E (e5) (ln) (qu)] ++ pool) (fun r w => ∃ (kn1 : Nat → Option Nat) (e41 e51 l1 n1 : Nat) (f1 u1 : Nat → Nat) (q1 r1 : Nat) (t1 : Nat → Nat), r = some (.ref q1) ∧ l1 ≤ 4096 ∧ 2 ^ m ≤ l1 ∧ ps.length ≤ 4096 ∧ gL t1 ps ∧ kOK E m nd kn1 e3 ([] ++ ((q1), .inr (1, [.ref (r1)])) :: kI E (r1) (ps.length) (t1) :: pool) ∧ w = ([((h), .inr (2, [.int (nI (m)), .ref (e1), .ref (e2), .ref (e3), .ref (e41), .ref (e51), .int (nI (n1))])), kI E (e1) (12) (nd), kQ E (e2) (13) (kn1), ((e3), .inr (1, [.ref (e8)])), kI E (e8) (0) (zz), kI E (e41) (l1) (f1), kI E (e51) (l1) (u1)] ++ ([] ++ ((q1), .inr (1, [.ref (r1)])) :: kI E (r1) (ps.length) (t1) :: pool))) := by
  refine Con.ofA (by decide) (Nat.le_of_ble_eq_true rfl) ?_
  intro J C hret
  show J 0 [(0, .ref (h)), (1, .int (nI (b)))] [] ([((h), .inr (2, [.int (nI (m)), .ref (e1), .ref (e2), .ref (e3), .ref (e4), .ref (e5), .int (nI (qd))])), kI E (e1) (12) (nd), kQ E (e2) (13) (kn), ((e3), .inr (1, [.ref (e8)])), kI E (e8) (0) (zz), kI E (e4) (ln) (lf), kI E (e5) (ln) (qu)] ++ pool) 0 0
  have hm1 := hg.1
  have hm12 := hg.2.1
  have hp12 := p4096 hm12
  have hpm := Nat.two_pow_pos m
  have hpg : 2 ^ (m - 1) < 2 ^ m := Nat.pow_lt_pow_right (by omega) (by omega)
  have hmn : 1 ≤ min b m ∧ min b m ≤ m ∧ min b m ≤ b := by omega
  refine J_iconst C (v := nI (1)) dS_movesWithin_0 (by decide) ?_
  refine J_iload_n C 1 dS_movesWithin_1 rfl rfl ?_
  refine J_aload_n C 0 dS_movesWithin_2 rfl rfl ?_
  refine J_get C 0 0 hinS rfl rfl (by decide) fkS_9 rfl dS_movesWithin_3 ?_
  refine J_mmin C lkS_52 k_mminS k_MathI k_mminC (by decide) (Nat.le_of_ble_eq_true rfl) (by decide) (by decide) dS_movesWithin_6 ?_
  refine J_topX C (x' := nI (min b m)) (by rw [jn_min hb31 (by omega)]; congr 1; split <;> omega) ?_
  refine J_mmax C lkS_58 k_mmaxS k_MathI k_mmaxC (by decide) (Nat.le_of_ble_eq_true rfl) (by decide) (by decide) dS_movesWithin_9 ?_
  refine J_topX C (x' := nI (min b m)) (by rw [jn_max (by omega) (by omega)]; congr 1; split <;> omega) ?_
  refine J_istore_n C (lv' := [(0, .ref (h)), (1, .int (nI (b))), (2, .int (nI (min b m)))]) [1, 2, 0] dS_movesWithin_12 rfl (by decide) rfl ?_
  refine J_aload_n C 0 dS_movesWithin_13 rfl rfl ?_
  refine J_get C 0 2 hinS rfl rfl (by decide) fkS_21 rfl dS_movesWithin_14 ?_
  refine J_iload_n C 2 dS_movesWithin_17 rfl rfl ?_
  refine J_aald C 2 rfl (by omega) (by omega) dS_movesWithin_18 ?_
  refine J_topV C (x' := .null) (by rw [hkn]; rfl) ?_
  refine J_astore_nN C (lv' := [(0, .ref (h)), (1, .int (nI (b))), (2, .int (nI (min b m))), (3, .null)]) [1, 2, 3, 0] dS_movesWithin_19 rfl (by decide) rfl ?_
  refine J_aload_nN C 3 dS_movesWithin_20 rfl rfl ?_
  refine J_ifnonnullN C dS_movesWithin_21 ?_
  refine J_aload_n C 0 dS_movesWithin_24 rfl rfl ?_
  refine J_iload_n C 2 dS_movesWithin_25 rfl rfl ?_
  refine J_pickR C (cx := [((h), .inr (2, [.int (nI (m)), .ref (e1), .ref (e2), .ref (e3), .ref (e4), .ref (e5), .int (nI (qd))])), kI E (e1) (12) (nd), kI E (e4) (ln) (lf), kI E (e5) (ln) (qu), kQ E (e2) (13) (kn), ((e3), .inr (1, [.ref (e8)])), kI E (e8) (0) (zz)]) [0, 1, 5, 6, 2, 3, 4] (by decide) rfl ?_
  refine J_callV C (rest := []) [] [((h), .inr (2, [.int (nI (m)), .ref (e1), .ref (e2), .ref (e3), .ref (e4), .ref (e5), .int (nI (qd))])), kI E (e1) (12) (nd), kI E (e4) (ln) (lf), kI E (e5) (ln) (qu)] ([kQ E (e2) (13) (kn), ((e3), .inr (1, [.ref (e8)])), kI E (e8) (0) (zz)] ++ pool) 0 (c_S_search_p0 E l h m e1 e2 e3 e4 e5 qd nd ln lf qu (min b m) ps (by assumption) (by omega) (by omega) (by omega) (by omega) (by assumption)) mmS_search msS_search lkS_61 rfl rfl (rfl) rfl rfl ⟨by decide, by decide⟩ ⟨by decide, by decide⟩ (Nat.le_of_ble_eq_true rfl) dS_movesWithin_26 (fun r_c w_c hp => ?_)
  obtain ⟨e41, e51, l1, n1, f1, u1, q1, r1, t1, rfl, hl1, hml1, hpl1, hgl1, rfl⟩ := hp
  refine J_norm C (st' := [.ref (q1)]) (ws' := ([((h), .inr (2, [.int (nI (m)), .ref (e1), .ref (e2), .ref (e3), .ref (e41), .ref (e51), .int (nI (n1))])), kI E (e1) (12) (nd), kI E (e41) (l1) (f1), kI E (e51) (l1) (u1), ((q1), .inr (1, [.ref (r1)])), kI E (r1) (ps.length) (t1), kQ E (e2) (13) (kn), ((e3), .inr (1, [.ref (e8)])), kI E (e8) (0) (zz)] ++ pool)) (cs' := 2) (ss' := 4097) rfl (rfl) rfl rfl ?_
  refine J_pickR C (cx := [((h), .inr (2, [.int (nI (m)), .ref (e1), .ref (e2), .ref (e3), .ref (e41), .ref (e51), .int (nI (n1))])), kI E (e1) (12) (nd), kQ E (e2) (13) (kn), ((e3), .inr (1, [.ref (e8)])), kI E (e8) (0) (zz), kI E (e41) (l1) (f1), kI E (e51) (l1) (u1), ((q1), .inr (1, [.ref (r1)])), kI E (r1) (ps.length) (t1)]) [0, 1, 6, 7, 8, 2, 3, 4, 5] (by decide) rfl ?_
  refine J_astore_n C (lv' := [(0, .ref (h)), (1, .int (nI (b))), (2, .int (nI (min b m))), (3, .ref (q1))]) [1, 2, 3, 0] dS_movesWithin_29 rfl (by decide) rfl ?_
  refine J_aload_n C 0 dS_movesWithin_30 rfl rfl ?_
  refine J_get C 0 2 hinS rfl rfl (by decide) fkS_21 rfl dS_movesWithin_31 ?_
  refine J_iload_n C 2 dS_movesWithin_34 rfl rfl ?_
  refine J_aload_n C 3 dS_movesWithin_35 rfl rfl ?_
  refine J_aast C (ws' := ([((h), .inr (2, [.int (nI (m)), .ref (e1), .ref (e2), .ref (e3), .ref (e41), .ref (e51), .int (nI (n1))])), kI E (e1) (12) (nd), kQ E (e2) (13) (va_up kn (min b m) (some q1)), ((e3), .inr (1, [.ref (e8)])), kI E (e8) (0) (zz), kI E (e41) (l1) (f1), kI E (e51) (l1) (u1), ((q1), .inr (1, [.ref (r1)])), kI E (r1) (ps.length) (t1)] ++ pool)) 2 7 rfl rfl rfl (by omega) (by omega) dS_movesWithin_36 rfl ?_
  refine J_aload_n C 3 dS_movesWithin_37 rfl rfl ?_
  exact hret _ _ _ _ _ _ dS_movesWithin_38 (by decide) (by decide) (⟨_, _, _, _, _, _, _, _, _, _, rfl, hl1, hml1, hpl1, hgl1, kOK_new hk hsp hpl1 hgl1, rfl⟩)
