set_option maxHeartbeats 4000000 in
set_option maxRecDepth 100000 in
theorem law_loop {E : jE} {l : Launch} {J : jJ} {sb L : Nat} {xs : Nat → Int32} (C : jC E l "ReversiblePartsLaw" code 4 room_1 J) (X : jX sb L xs J) (Xl : jXl sb L J) (Xr : jXr J) (hL : L ≤ 1536) {ox hT a1 a2 a3 hF fb hS e1 e2 e3 e8 hM m1 m2 m3 m4 m5 m6 m7 m8 m9 ma mb : Nat} {zz : Nat → Nat} : ∀ (k t : Nat) (n : Nat) (fc : Nat) (to : Nat → Nat) (rs : Nat → Nat) (fd : Nat → Nat) (u0 : Nat) (rw : Nat → Int64) (st : Nat) (e4 : Nat) (e5 : Nat) (qd : Nat) (nd : Nat → Nat) (kn : Nat → Option Nat) (ln : Nat) (lf : Nat → Nat) (qu : Nat → Nat) (pool : va_W) (mn : Nat) (wk : Nat → Nat) (md : Nat → Nat) (kb : Nat → Nat) (dc : Nat → Nat) (fo : Nat → Nat) (co : Nat → Nat) (qq : Nat → Nat) (sr : Nat → Nat) (bw : Nat → Nat), 3 * t ≤ L → L - 3 * t < k → lawH E n to st nd kb dc fo co u0 rw ln kn e3 pool → J 18 [(0, .ref (sb)), (1, .ref (ox)), (2, .ref (hM)), (3, .int (nI (3 * t)))] [] ([((ox), .inr (4, [.ref (hT), .ref (hF), .ref (hS)])), ((hT), .inr (3, [.int (nI (n)), .int (nI (2 ^ n)), .ref (a1), .ref (a2), .ref (a3), .int (nI (fc))])), kI E (a1) (16) (to), kI E (a2) (16) (rs), kI E (a3) (64) (fd), ((hF), .inr (0, [.ref (fb), .int (nI (u0 + 1))])), kL E (fb) (278) (rw), ((hS), .inr (2, [.int (nI (st)), .ref (e1), .ref (e2), .ref (e3), .ref (e4), .ref (e5), .int (nI (qd))])), kI E (e1) (12) (nd), kQ E (e2) (13) (kn), ((e3), .inr (1, [.ref (e8)])), kI E (e8) (0) (zz), kI E (e4) (ln) (lf), kI E (e5) (ln) (qu), ((hM), .inr (5, [.int (nI (0)), .int (nI (n)), .ref (m1), .int (nI (st)), .ref (m2), .ref (m3), .ref (m4), .int (nI (mn)), .ref (m5), .ref (m6), .ref (m7), .ref (m8), .ref (m9), .ref (ma), .ref (mb)])), kI E (m1) (16) (to), kI E (m2) (12) (nd), kI E (m3) (16) (wk), kI E (m4) (64) (md), kB E (m5) (5) (kb), kM E (m6) (65812) (dc), kI E (m7) (120) (fo), kB E (m8) (4096) (co), kI E (m9) (4096) (qq), kM E (ma) (4096) (sr), kI E (mb) (4096) (bw)] ++ pool) (26 + 4 * t) (86958 + 12289 * t) := by
  intro k
  induction k with
  | zero => intro t n fc to rs fd u0 rw st e4 e5 qd nd kn ln lf qu pool mn wk md kb dc fo co qq sr bw h1 h2; exact absurd h2 (Nat.not_lt_zero _)
  | succ k ih =>
    intro t n fc to rs fd u0 rw st e4 e5 qd nd kn ln lf qu pool mn wk md kb dc fo co qq sr bw h1 h2 hH
    refine J_iload_n C 3 dL_law_18 rfl rfl ?_
    refine J_aload_n C 0 dL_law_19 rfl rfl ?_
    refine Xl _ _ _ _ _ _ dL_law_20 ?_
    refine J_iconst C (v := nI 3) dL_law_21 (by decide) ?_
    refine J_isub C dL_law_22 ?_
    refine J_icmp_gt C 408 (nI_toInt (n := 3 * t) (by omega)) (pk_sub_toInt (a := L) (b := 3) (by omega) (by decide)) dL_law_23 (by decide) (fun h => ?_) (fun h => ?_)
    · refine J_iconst C (v := nI 1) dL_law_408 (by decide) ?_
      exact Xr _ _ _ _ _ dL_law_409 (by omega) (by omega)
    · have hle : 3 * t + 3 ≤ L := by omega
      have K : ∀ (n : Nat) (fc : Nat) (to : Nat → Nat) (rs : Nat → Nat) (fd : Nat → Nat) (u0 : Nat) (rw : Nat → Int64) (st : Nat) (e4 : Nat) (e5 : Nat) (qd : Nat) (nd : Nat → Nat) (kn : Nat → Option Nat) (ln : Nat) (lf : Nat → Nat) (qu : Nat → Nat) (pool : va_W) (mn : Nat) (wk : Nat → Nat) (md : Nat → Nat) (kb : Nat → Nat) (dc : Nat → Nat) (fo : Nat → Nat) (co : Nat → Nat) (qq : Nat → Nat) (sr : Nat → Nat) (bw : Nat → Nat), lawH E n to st nd kb dc fo co u0 rw ln kn e3 pool → J 402 [(0, .ref (sb)), (1, .ref (ox)), (2, .ref (hM)), (3, .int (nI (3 * t)))] [] ([((ox), .inr (4, [.ref (hT), .ref (hF), .ref (hS)])), ((hT), .inr (3, [.int (nI (n)), .int (nI (2 ^ n)), .ref (a1), .ref (a2), .ref (a3), .int (nI (fc))])), kI E (a1) (16) (to), kI E (a2) (16) (rs), kI E (a3) (64) (fd), ((hF), .inr (0, [.ref (fb), .int (nI (u0 + 1))])), kL E (fb) (278) (rw), ((hS), .inr (2, [.int (nI (st)), .ref (e1), .ref (e2), .ref (e3), .ref (e4), .ref (e5), .int (nI (qd))])), kI E (e1) (12) (nd), kQ E (e2) (13) (kn), ((e3), .inr (1, [.ref (e8)])), kI E (e8) (0) (zz), kI E (e4) (ln) (lf), kI E (e5) (ln) (qu), ((hM), .inr (5, [.int (nI (0)), .int (nI (n)), .ref (m1), .int (nI (st)), .ref (m2), .ref (m3), .ref (m4), .int (nI (mn)), .ref (m5), .ref (m6), .ref (m7), .ref (m8), .ref (m9), .ref (ma), .ref (mb)])), kI E (m1) (16) (to), kI E (m2) (12) (nd), kI E (m3) (16) (wk), kI E (m4) (64) (md), kB E (m5) (5) (kb), kM E (m6) (65812) (dc), kI E (m7) (120) (fo), kB E (m8) (4096) (co), kI E (m9) (4096) (qq), kM E (ma) (4096) (sr), kI E (mb) (4096) (bw)] ++ pool) (26 + 4 * (t + 1)) (86958 + 12289 * (t + 1)) := by
        intro n fc to rs fd u0 rw st e4 e5 qd nd kn ln lf qu pool mn wk md kb dc fo co qq sr bw hH1
        refine J_iinc C (lv' := [(0, .ref (sb)), (1, .ref (ox)), (2, .ref (hM)), (3, .int (nI (3 * (t + 1))))]) 3 [1, 2, 3, 0] dL_law_402 rfl ((jn_inc3 (3 * t)).trans (by rw [show 3 * t + 3 = 3 * (t + 1) by omega])) (by decide) rfl ?_
        refine J_goto C 18 dL_law_405 (by decide) ?_
        exact ih (t + 1) n fc to rs fd u0 rw st e4 e5 qd nd kn ln lf qu pool mn wk md kb dc fo co qq sr bw (by omega) (by omega) hH1
      refine J_aload_n C 0 dL_law_26 rfl rfl ?_
      refine J_iload_n C 3 dL_law_27 rfl rfl ?_
      refine X _ _ _ _ _ _ _ (by omega) dL_law_28 ?_
      refine J_bipush C (v := nI 15) dL_law_29 (by decide) ?_
      refine J_iand C dL_law_31 ?_
      obtain ⟨j, hj, ej⟩ := pk_andE (xs (3 * t)) (m := nI 15) 4 (by decide)
      refine J_topX C (x' := nI j) ej ?_
      rcases (show j = 0 ∨ j = 1 ∨ j = 2 ∨ j = 3 ∨ j = 4 ∨ j = 5 ∨ j = 6 ∨ j = 7 ∨ j = 8 ∨ j = 9 ∨ j = 10 ∨ j = 11 ∨ 12 ≤ j by omega) with rfl | rfl | rfl | rfl | rfl | rfl | rfl | rfl | rfl | rfl | rfl | rfl | hj2
      · refine J_tswIn C (off := 64) 96 dL_law_32 (by decide) (by decide) (by decide) (by decide) ?_
        exact law_begin C X hle hL hH K
      · refine J_tswIn C (off := 87) 119 dL_law_32 (by decide) (by decide) (by decide) (by decide) ?_
        exact law_put C X hle hL hH K
      · refine J_tswIn C (off := 120) 152 dL_law_32 (by decide) (by decide) (by decide) (by decide) ?_
        exact law_apply C X hle hL hH K
      · refine J_tswIn C (off := 143) 175 dL_law_32 (by decide) (by decide) (by decide) (by decide) ?_
        exact law_gate C X hle hL hH K
      · refine J_tswIn C (off := 166) 198 dL_law_32 (by decide) (by decide) (by decide) (by decide) ?_
        exact law_look C X hle hL hH K
      · refine J_tswIn C (off := 189) 221 dL_law_32 (by decide) (by decide) (by decide) (by decide) ?_
        exact law_form C X hle hL hH K
      · refine J_tswIn C (off := 222) 254 dL_law_32 (by decide) (by decide) (by decide) (by decide) ?_
        exact law_product C X hle hL hH K
      · refine J_tswIn C (off := 245) 277 dL_law_32 (by decide) (by decide) (by decide) (by decide) ?_
        exact law_program C X hle hL hH K
      · refine J_tswIn C (off := 268) 300 dL_law_32 (by decide) (by decide) (by decide) (by decide) ?_
        exact law_need C X hle hL hH K
      · refine J_tswIn C (off := 301) 333 dL_law_32 (by decide) (by decide) (by decide) (by decide) ?_
        exact law_move C X hle hL hH K
      · refine J_tswIn C (off := 334) 366 dL_law_32 (by decide) (by decide) (by decide) (by decide) ?_
        exact law_marks C X hle hL hH K
      · refine J_tswIn C (off := 347) 379 dL_law_32 (by decide) (by decide) (by decide) (by decide) ?_
        exact law_total C X hle hL hH K
      · have ejt := nI_toInt (n := j) (by omega)
        refine J_tswOut C 402 dL_law_32 (Or.inr (by rw [ejt]; omega)) (by decide) ?_
        refine J_widen C (k := 26 + 4 * (t + 1)) (n := 86958 + 12289 * (t + 1)) (by omega) (by omega) ?_
        exact K n fc to rs fd u0 rw st e4 e5 qd nd kn ln lf qu pool mn wk md kb dc fo co qq sr bw hH
set_option maxHeartbeats 4000000 in
set_option maxRecDepth 100000 in
theorem law_go {E : jE} {l : Launch} {J : jJ} {sb L : Nat} {xs : Nat → Int32} (C : jC E l "ReversiblePartsLaw" code 4 room_1 J) (X : jX sb L xs J) (Xl : jXl sb L J) (Xr : jXr J) (hL : L ≤ 1536) : J 0 [(0, .ref sb)] [] [] 0 0 := by
  refine J_new C (ci := 4) (fs := [.null, .null, .null]) tyR hinR tyokR ckL_7 inR itR rfl (by decide +kernel) (by decide) (by decide) dL_law_0 (fun ox => ?_)
  refine J_dup C dL_law_3 rfl ?_
  refine J_callI C (rest := [.ref (ox)]) [] [((ox), .inr (4, [.null, .null, .null]))] [] (c_R_init E l ox) mmR_init rfl lkL_9 (rfl) rfl rfl ⟨by decide, by decide⟩ ⟨by decide, by decide⟩ (Nat.le_of_ble_eq_true rfl) dL_law_4 (fun r_c w_c hp => ?_)
  obtain ⟨hT, a1, a2, a3, hF, fb, rw1, hS, e1, e2, e3, e8, e4, e5, rfl, hrw1, rfl⟩ := hp
  refine J_norm C (st' := [.ref (ox)]) (ws' := [((ox), .inr (4, [.ref (hT), .ref (hF), .ref (hS)])), ((hT), .inr (3, [.int (nI (1)), .int (nI (2 ^ 1)), .ref (a1), .ref (a2), .ref (a3), .int (nI (0))])), kI E (a1) (16) (fun j => j), kI E (a2) (16) (fun _ => 0), kI E (a3) (64) (fun _ => 0), ((hF), .inr (0, [.ref (fb), .int (nI (0 + 1))])), kL E (fb) (278) (rw1), ((hS), .inr (2, [.int (nI (1)), .ref (e1), .ref (e2), .ref (e3), .ref (e4), .ref (e5), .int (nI (0))])), kI E (e1) (12) (fun _ => 0), kQ E (e2) (13) (fun _ => none), ((e3), .inr (1, [.ref (e8)])), kI E (e8) (0) (fun _ => 0), kI E (e4) (0) (fun _ => 0), kI E (e5) (0) (fun _ => 0)]) (cs' := 14) (ss' := 4514) rfl (rfl) rfl rfl ?_
  refine J_astore_n C (lv' := [(0, .ref (sb)), (1, .ref (ox))]) [1, 0] dL_law_7 rfl (by decide) rfl ?_
  refine J_new C (ci := 5) (fs := [.int (nI (0)), .int (nI (0)), .null, .int (nI (0)), .null, .null, .null, .int (nI (0)), .null, .null, .null, .null, .null, .null, .null]) tyM hinM tyokM ckL_10 inM itM rfl (by decide +kernel) (by decide) (by decide) dL_law_8 (fun hM => ?_)
  refine J_dup C dL_law_11 rfl ?_
  refine J_pick C (ws' := [((hM), .inr (5, [.int (nI (0)), .int (nI (0)), .null, .int (nI (0)), .null, .null, .null, .int (nI (0)), .null, .null, .null, .null, .null, .null, .null])), ((ox), .inr (4, [.ref (hT), .ref (hF), .ref (hS)])), ((hT), .inr (3, [.int (nI (1)), .int (nI (2 ^ 1)), .ref (a1), .ref (a2), .ref (a3), .int (nI (0))])), kI E (a1) (16) (fun j => j), kI E (a2) (16) (fun _ => 0), kI E (a3) (64) (fun _ => 0), ((hF), .inr (0, [.ref (fb), .int (nI (0 + 1))])), kL E (fb) (278) (rw1), ((hS), .inr (2, [.int (nI (1)), .ref (e1), .ref (e2), .ref (e3), .ref (e4), .ref (e5), .int (nI (0))])), kI E (e1) (12) (fun _ => 0), kQ E (e2) (13) (fun _ => none), ((e3), .inr (1, [.ref (e8)])), kI E (e8) (0) (fun _ => 0), kI E (e4) (0) (fun _ => 0), kI E (e5) (0) (fun _ => 0)]) [14, 0, 1, 2, 3, 4, 5, 6, 7, 8, 9, 10, 11, 12, 13] (by decide) rfl ?_
  refine J_callI C (rest := [.ref (hM)]) [] [((hM), .inr (5, [.int (nI (0)), .int (nI (0)), .null, .int (nI (0)), .null, .null, .null, .int (nI (0)), .null, .null, .null, .null, .null, .null, .null]))] [((ox), .inr (4, [.ref (hT), .ref (hF), .ref (hS)])), ((hT), .inr (3, [.int (nI (1)), .int (nI (2 ^ 1)), .ref (a1), .ref (a2), .ref (a3), .int (nI (0))])), kI E (a1) (16) (fun j => j), kI E (a2) (16) (fun _ => 0), kI E (a3) (64) (fun _ => 0), ((hF), .inr (0, [.ref (fb), .int (nI (0 + 1))])), kL E (fb) (278) (rw1), ((hS), .inr (2, [.int (nI (1)), .ref (e1), .ref (e2), .ref (e3), .ref (e4), .ref (e5), .int (nI (0))])), kI E (e1) (12) (fun _ => 0), kQ E (e2) (13) (fun _ => none), ((e3), .inr (1, [.ref (e8)])), kI E (e8) (0) (fun _ => 0), kI E (e4) (0) (fun _ => 0), kI E (e5) (0) (fun _ => 0)] (c_M_init E l hM) mmM_init rfl lkL_12 (rfl) rfl rfl ⟨by decide, by decide⟩ ⟨by decide, by decide⟩ (Nat.le_of_ble_eq_true rfl) dL_law_12 (fun r_c w_c hp => ?_)
  obtain ⟨m1, m2, m3, m4, m5, m6, m7, m8, m9, ma, mb, rfl, rfl⟩ := hp
  refine J_norm C (st' := [.ref (hM)]) (ws' := [((hM), .inr (5, [.int (nI (0)), .int (nI (1)), .ref (m1), .int (nI (1)), .ref (m2), .ref (m3), .ref (m4), .int (nI (0)), .ref (m5), .ref (m6), .ref (m7), .ref (m8), .ref (m9), .ref (ma), .ref (mb)])), kI E (m1) (16) (fun j => j), kI E (m2) (12) (fun _ => 0), kI E (m3) (16) (fun _ => 0), kI E (m4) (64) (fun _ => 0), kB E (m5) (5) (fun _ => 0), kM E (m6) (65812) (fun _ => 1), kI E (m7) (120) (fun _ => 0), kB E (m8) (4096) (fun _ => 0), kI E (m9) (4096) (fun _ => 0), kM E (ma) (4096) (fun _ => 1), kI E (mb) (4096) (fun _ => 0), ((ox), .inr (4, [.ref (hT), .ref (hF), .ref (hS)])), ((hT), .inr (3, [.int (nI (1)), .int (nI (2 ^ 1)), .ref (a1), .ref (a2), .ref (a3), .int (nI (0))])), kI E (a1) (16) (fun j => j), kI E (a2) (16) (fun _ => 0), kI E (a3) (64) (fun _ => 0), ((hF), .inr (0, [.ref (fb), .int (nI (0 + 1))])), kL E (fb) (278) (rw1), ((hS), .inr (2, [.int (nI (1)), .ref (e1), .ref (e2), .ref (e3), .ref (e4), .ref (e5), .int (nI (0))])), kI E (e1) (12) (fun _ => 0), kQ E (e2) (13) (fun _ => none), ((e3), .inr (1, [.ref (e8)])), kI E (e8) (0) (fun _ => 0), kI E (e4) (0) (fun _ => 0), kI E (e5) (0) (fun _ => 0)]) (cs' := 26) (ss' := 86958) rfl (rfl) rfl rfl ?_
  refine J_pick C (ws' := [((ox), .inr (4, [.ref (hT), .ref (hF), .ref (hS)])), ((hT), .inr (3, [.int (nI (1)), .int (nI (2 ^ 1)), .ref (a1), .ref (a2), .ref (a3), .int (nI (0))])), kI E (a1) (16) (fun j => j), kI E (a2) (16) (fun _ => 0), kI E (a3) (64) (fun _ => 0), ((hF), .inr (0, [.ref (fb), .int (nI (0 + 1))])), kL E (fb) (278) (rw1), ((hS), .inr (2, [.int (nI (1)), .ref (e1), .ref (e2), .ref (e3), .ref (e4), .ref (e5), .int (nI (0))])), kI E (e1) (12) (fun _ => 0), kQ E (e2) (13) (fun _ => none), ((e3), .inr (1, [.ref (e8)])), kI E (e8) (0) (fun _ => 0), kI E (e4) (0) (fun _ => 0), kI E (e5) (0) (fun _ => 0), ((hM), .inr (5, [.int (nI (0)), .int (nI (1)), .ref (m1), .int (nI (1)), .ref (m2), .ref (m3), .ref (m4), .int (nI (0)), .ref (m5), .ref (m6), .ref (m7), .ref (m8), .ref (m9), .ref (ma), .ref (mb)])), kI E (m1) (16) (fun j => j), kI E (m2) (12) (fun _ => 0), kI E (m3) (16) (fun _ => 0), kI E (m4) (64) (fun _ => 0), kB E (m5) (5) (fun _ => 0), kM E (m6) (65812) (fun _ => 1), kI E (m7) (120) (fun _ => 0), kB E (m8) (4096) (fun _ => 0), kI E (m9) (4096) (fun _ => 0), kM E (ma) (4096) (fun _ => 1), kI E (mb) (4096) (fun _ => 0)]) [12, 13, 14, 15, 16, 17, 18, 19, 20, 21, 22, 23, 24, 25, 0, 1, 2, 3, 4, 5, 6, 7, 8, 9, 10, 11] (by decide) rfl ?_
  refine J_astore_n C (lv' := [(0, .ref (sb)), (1, .ref (ox)), (2, .ref (hM))]) [1, 2, 0] dL_law_15 rfl (by decide) rfl ?_
  refine J_iconst C (v := nI (0)) dL_law_16 (by decide) ?_
  refine J_istore_n C (lv' := [(0, .ref (sb)), (1, .ref (ox)), (2, .ref (hM)), (3, .int (nI (0)))]) [1, 2, 3, 0] dL_law_17 rfl (by decide) rfl ?_
  exact law_loop C X Xl Xr hL (L + 1) 0 1 0 (fun j => j) (fun _ => 0) (fun _ => 0) 0 rw1 1 e4 e5 0 (fun _ => 0) (fun _ => none) 0 (fun _ => 0) (fun _ => 0) ([]) 0 (fun _ => 0) (fun _ => 0) (fun _ => 0) (fun _ => 1) (fun _ => 0) (fun _ => 0) (fun _ => 0) (fun _ => 1) (fun _ => 0) (by omega) (by omega) ⟨⟨by omega, by omega⟩, fun v hv => hv, mG_0 (by omega) (by omega), fun _ => Nat.zero_le _, fun b _ _ h => absurd rfl h, fun _ => Nat.zero_le _, Nat.zero_le _, hrw1, Nat.zero_le _, kOK_none⟩
