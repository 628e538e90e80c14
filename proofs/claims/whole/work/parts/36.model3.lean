set_option maxHeartbeats 4000000 in
set_option maxRecDepth 100000 in
theorem c_J_bitCount (E : jE) (l : Launch) (S : Nat) (hS : S < 4096) : Con E l yJ_bitCount bJ_bitCount 1 (some .int) { frames := 0, cells := 0, slots := 0, locals := 0 } [.int (nI (S))] [] (fun r w => r = some (.int (nI (bc S))) ∧ w = []) := by
  refine Con.ofI (by decide) (Nat.le_of_ble_eq_true rfl) ?_
  intro J C hret
  show J 0 [(0, .int (nI (S)))] [] [] 0 0
  refine J_iload_n C 0 dJ_bitCount_0 rfl rfl ?_
  refine J_iload_n C 0 dJ_bitCount_1 rfl rfl ?_
  refine J_iconst C (v := nI (1)) dJ_bitCount_2 (by decide) ?_
  refine J_iushr C dJ_bitCount_3 ?_
  refine J_ldcw C (v := nI (1431655765)) kkJ_265 dJ_bitCount_4 ?_
  refine J_iand C dJ_bitCount_7 ?_
  refine J_isub C dJ_bitCount_8 ?_
  refine J_istore_n C (lv' := [(0, .int ((nI (S)) - ((((nI (S)).toUInt32 >>> ((nI (1)).toUInt32 &&& Int32.toUInt32 31)).toInt32) &&& (nI (1431655765)))))]) [0] dJ_bitCount_9 rfl (by decide) rfl ?_
  refine J_iload_n C 0 dJ_bitCount_10 rfl rfl ?_
  refine J_ldcw C (v := nI (858993459)) kkJ_266 dJ_bitCount_11 ?_
  refine J_iand C dJ_bitCount_14 ?_
  refine J_iload_n C 0 dJ_bitCount_15 rfl rfl ?_
  refine J_iconst C (v := nI (2)) dJ_bitCount_16 (by decide) ?_
  refine J_iushr C dJ_bitCount_17 ?_
  refine J_ldcw C (v := nI (858993459)) kkJ_266 dJ_bitCount_18 ?_
  refine J_iand C dJ_bitCount_21 ?_
  refine J_iadd C dJ_bitCount_22 ?_
  refine J_istore_n C (lv' := [(0, .int ((((nI (S)) - ((((nI (S)).toUInt32 >>> ((nI (1)).toUInt32 &&& Int32.toUInt32 31)).toInt32) &&& (nI (1431655765)))) &&& (nI (858993459))) + (((((nI (S)) - ((((nI (S)).toUInt32 >>> ((nI (1)).toUInt32 &&& Int32.toUInt32 31)).toInt32) &&& (nI (1431655765)))).toUInt32 >>> ((nI (2)).toUInt32 &&& Int32.toUInt32 31)).toInt32) &&& (nI (858993459)))))]) [0] dJ_bitCount_23 rfl (by decide) rfl ?_
  refine J_iload_n C 0 dJ_bitCount_24 rfl rfl ?_
  refine J_iload_n C 0 dJ_bitCount_25 rfl rfl ?_
  refine J_iconst C (v := nI (4)) dJ_bitCount_26 (by decide) ?_
  refine J_iushr C dJ_bitCount_27 ?_
  refine J_iadd C dJ_bitCount_28 ?_
  refine J_ldcw C (v := nI (252645135)) kkJ_267 dJ_bitCount_29 ?_
  refine J_iand C dJ_bitCount_32 ?_
  refine J_istore_n C (lv' := [(0, .int ((((((nI (S)) - ((((nI (S)).toUInt32 >>> ((nI (1)).toUInt32 &&& Int32.toUInt32 31)).toInt32) &&& (nI (1431655765)))) &&& (nI (858993459))) + (((((nI (S)) - ((((nI (S)).toUInt32 >>> ((nI (1)).toUInt32 &&& Int32.toUInt32 31)).toInt32) &&& (nI (1431655765)))).toUInt32 >>> ((nI (2)).toUInt32 &&& Int32.toUInt32 31)).toInt32) &&& (nI (858993459)))) + ((((((nI (S)) - ((((nI (S)).toUInt32 >>> ((nI (1)).toUInt32 &&& Int32.toUInt32 31)).toInt32) &&& (nI (1431655765)))) &&& (nI (858993459))) + (((((nI (S)) - ((((nI (S)).toUInt32 >>> ((nI (1)).toUInt32 &&& Int32.toUInt32 31)).toInt32) &&& (nI (1431655765)))).toUInt32 >>> ((nI (2)).toUInt32 &&& Int32.toUInt32 31)).toInt32) &&& (nI (858993459)))).toUInt32 >>> ((nI (4)).toUInt32 &&& Int32.toUInt32 31)).toInt32)) &&& (nI (252645135))))]) [0] dJ_bitCount_33 rfl (by decide) rfl ?_
  refine J_iload_n C 0 dJ_bitCount_34 rfl rfl ?_
  refine J_iload_n C 0 dJ_bitCount_35 rfl rfl ?_
  refine J_bipush C (v := nI (8)) dJ_bitCount_36 (by decide) ?_
  refine J_iushr C dJ_bitCount_38 ?_
  refine J_iadd C dJ_bitCount_39 ?_
  refine J_istore_n C (lv' := [(0, .int (((((((nI (S)) - ((((nI (S)).toUInt32 >>> ((nI (1)).toUInt32 &&& Int32.toUInt32 31)).toInt32) &&& (nI (1431655765)))) &&& (nI (858993459))) + (((((nI (S)) - ((((nI (S)).toUInt32 >>> ((nI (1)).toUInt32 &&& Int32.toUInt32 31)).toInt32) &&& (nI (1431655765)))).toUInt32 >>> ((nI (2)).toUInt32 &&& Int32.toUInt32 31)).toInt32) &&& (nI (858993459)))) + ((((((nI (S)) - ((((nI (S)).toUInt32 >>> ((nI (1)).toUInt32 &&& Int32.toUInt32 31)).toInt32) &&& (nI (1431655765)))) &&& (nI (858993459))) + (((((nI (S)) - ((((nI (S)).toUInt32 >>> ((nI (1)).toUInt32 &&& Int32.toUInt32 31)).toInt32) &&& (nI (1431655765)))).toUInt32 >>> ((nI (2)).toUInt32 &&& Int32.toUInt32 31)).toInt32) &&& (nI (858993459)))).toUInt32 >>> ((nI (4)).toUInt32 &&& Int32.toUInt32 31)).toInt32)) &&& (nI (252645135))) + ((((((((nI (S)) - ((((nI (S)).toUInt32 >>> ((nI (1)).toUInt32 &&& Int32.toUInt32 31)).toInt32) &&& (nI (1431655765)))) &&& (nI (858993459))) + (((((nI (S)) - ((((nI (S)).toUInt32 >>> ((nI (1)).toUInt32 &&& Int32.toUInt32 31)).toInt32) &&& (nI (1431655765)))).toUInt32 >>> ((nI (2)).toUInt32 &&& Int32.toUInt32 31)).toInt32) &&& (nI (858993459)))) + ((((((nI (S)) - ((((nI (S)).toUInt32 >>> ((nI (1)).toUInt32 &&& Int32.toUInt32 31)).toInt32) &&& (nI (1431655765)))) &&& (nI (858993459))) + (((((nI (S)) - ((((nI (S)).toUInt32 >>> ((nI (1)).toUInt32 &&& Int32.toUInt32 31)).toInt32) &&& (nI (1431655765)))).toUInt32 >>> ((nI (2)).toUInt32 &&& Int32.toUInt32 31)).toInt32) &&& (nI (858993459)))).toUInt32 >>> ((nI (4)).toUInt32 &&& Int32.toUInt32 31)).toInt32)) &&& (nI (252645135))).toUInt32 >>> ((nI (8)).toUInt32 &&& Int32.toUInt32 31)).toInt32)))]) [0] dJ_bitCount_40 rfl (by decide) rfl ?_
  refine J_iload_n C 0 dJ_bitCount_41 rfl rfl ?_
  refine J_iload_n C 0 dJ_bitCount_42 rfl rfl ?_
  refine J_bipush C (v := nI (16)) dJ_bitCount_43 (by decide) ?_
  refine J_iushr C dJ_bitCount_45 ?_
  refine J_iadd C dJ_bitCount_46 ?_
  refine J_istore_n C (lv' := [(0, .int ((((((((nI (S)) - ((((nI (S)).toUInt32 >>> ((nI (1)).toUInt32 &&& Int32.toUInt32 31)).toInt32) &&& (nI (1431655765)))) &&& (nI (858993459))) + (((((nI (S)) - ((((nI (S)).toUInt32 >>> ((nI (1)).toUInt32 &&& Int32.toUInt32 31)).toInt32) &&& (nI (1431655765)))).toUInt32 >>> ((nI (2)).toUInt32 &&& Int32.toUInt32 31)).toInt32) &&& (nI (858993459)))) + ((((((nI (S)) - ((((nI (S)).toUInt32 >>> ((nI (1)).toUInt32 &&& Int32.toUInt32 31)).toInt32) &&& (nI (1431655765)))) &&& (nI (858993459))) + (((((nI (S)) - ((((nI (S)).toUInt32 >>> ((nI (1)).toUInt32 &&& Int32.toUInt32 31)).toInt32) &&& (nI (1431655765)))).toUInt32 >>> ((nI (2)).toUInt32 &&& Int32.toUInt32 31)).toInt32) &&& (nI (858993459)))).toUInt32 >>> ((nI (4)).toUInt32 &&& Int32.toUInt32 31)).toInt32)) &&& (nI (252645135))) + ((((((((nI (S)) - ((((nI (S)).toUInt32 >>> ((nI (1)).toUInt32 &&& Int32.toUInt32 31)).toInt32) &&& (nI (1431655765)))) &&& (nI (858993459))) + (((((nI (S)) - ((((nI (S)).toUInt32 >>> ((nI (1)).toUInt32 &&& Int32.toUInt32 31)).toInt32) &&& (nI (1431655765)))).toUInt32 >>> ((nI (2)).toUInt32 &&& Int32.toUInt32 31)).toInt32) &&& (nI (858993459)))) + ((((((nI (S)) - ((((nI (S)).toUInt32 >>> ((nI (1)).toUInt32 &&& Int32.toUInt32 31)).toInt32) &&& (nI (1431655765)))) &&& (nI (858993459))) + (((((nI (S)) - ((((nI (S)).toUInt32 >>> ((nI (1)).toUInt32 &&& Int32.toUInt32 31)).toInt32) &&& (nI (1431655765)))).toUInt32 >>> ((nI (2)).toUInt32 &&& Int32.toUInt32 31)).toInt32) &&& (nI (858993459)))).toUInt32 >>> ((nI (4)).toUInt32 &&& Int32.toUInt32 31)).toInt32)) &&& (nI (252645135))).toUInt32 >>> ((nI (8)).toUInt32 &&& Int32.toUInt32 31)).toInt32)) + (((((((((nI (S)) - ((((nI (S)).toUInt32 >>> ((nI (1)).toUInt32 &&& Int32.toUInt32 31)).toInt32) &&& (nI (1431655765)))) &&& (nI (858993459))) + (((((nI (S)) - ((((nI (S)).toUInt32 >>> ((nI (1)).toUInt32 &&& Int32.toUInt32 31)).toInt32) &&& (nI (1431655765)))).toUInt32 >>> ((nI (2)).toUInt32 &&& Int32.toUInt32 31)).toInt32) &&& (nI (858993459)))) + ((((((nI (S)) - ((((nI (S)).toUInt32 >>> ((nI (1)).toUInt32 &&& Int32.toUInt32 31)).toInt32) &&& (nI (1431655765)))) &&& (nI (858993459))) + (((((nI (S)) - ((((nI (S)).toUInt32 >>> ((nI (1)).toUInt32 &&& Int32.toUInt32 31)).toInt32) &&& (nI (1431655765)))).toUInt32 >>> ((nI (2)).toUInt32 &&& Int32.toUInt32 31)).toInt32) &&& (nI (858993459)))).toUInt32 >>> ((nI (4)).toUInt32 &&& Int32.toUInt32 31)).toInt32)) &&& (nI (252645135))) + ((((((((nI (S)) - ((((nI (S)).toUInt32 >>> ((nI (1)).toUInt32 &&& Int32.toUInt32 31)).toInt32) &&& (nI (1431655765)))) &&& (nI (858993459))) + (((((nI (S)) - ((((nI (S)).toUInt32 >>> ((nI (1)).toUInt32 &&& Int32.toUInt32 31)).toInt32) &&& (nI (1431655765)))).toUInt32 >>> ((nI (2)).toUInt32 &&& Int32.toUInt32 31)).toInt32) &&& (nI (858993459)))) + ((((((nI (S)) - ((((nI (S)).toUInt32 >>> ((nI (1)).toUInt32 &&& Int32.toUInt32 31)).toInt32) &&& (nI (1431655765)))) &&& (nI (858993459))) + (((((nI (S)) - ((((nI (S)).toUInt32 >>> ((nI (1)).toUInt32 &&& Int32.toUInt32 31)).toInt32) &&& (nI (1431655765)))).toUInt32 >>> ((nI (2)).toUInt32 &&& Int32.toUInt32 31)).toInt32) &&& (nI (858993459)))).toUInt32 >>> ((nI (4)).toUInt32 &&& Int32.toUInt32 31)).toInt32)) &&& (nI (252645135))).toUInt32 >>> ((nI (8)).toUInt32 &&& Int32.toUInt32 31)).toInt32)).toUInt32 >>> ((nI (16)).toUInt32 &&& Int32.toUInt32 31)).toInt32)))]) [0] dJ_bitCount_47 rfl (by decide) rfl ?_
  refine J_iload_n C 0 dJ_bitCount_48 rfl rfl ?_
  refine J_bipush C (v := nI (63)) dJ_bitCount_49 (by decide) ?_
  refine J_iand C dJ_bitCount_51 ?_
  exact hret _ _ _ _ _ _ dJ_bitCount_52 (by decide) (by decide) (⟨by rw [← bcJ_is hS]; rfl, rfl⟩)
set_option maxHeartbeats 4000000 in
set_option maxRecDepth 100000 in
theorem c_M_program_t (E : jE) (l : Launch) (h : Nat) (n : Nat) (st : Nat) (mn : Nat) (m1 : Nat) (m2 : Nat) (m3 : Nat) (m4 : Nat) (m5 : Nat) (m6 : Nat) (m7 : Nat) (m8 : Nat) (m9 : Nat) (ma : Nat) (mb : Nat) (nd : Nat → Nat) (k : Nat) (hk1 : 1 ≤ k) (hk12 : k ≤ 12) : Con E l yM_program bM_program 3 (some .boolean) { frames := 0, cells := 0, slots := 0, locals := 0 } [.ref (h), .int (nI (k))] [((h), .inr (5, [.int (nI (0)), .int (nI (n)), .ref (m1), .int (nI (st)), .ref (m2), .ref (m3), .ref (m4), .int (nI (mn)), .ref (m5), .ref (m6), .ref (m7), .ref (m8), .ref (m9), .ref (ma), .ref (mb)])), kI E (m2) (12) (nd)] (fun r w => r = some (.int (nI 1)) ∧ w = [((h), .inr (5, [.int (nI (0)), .int (nI (n)), .ref (m1), .int (nI (k)), .ref (m2), .ref (m3), .ref (m4), .int (nI (mn)), .ref (m5), .ref (m6), .ref (m7), .ref (m8), .ref (m9), .ref (ma), .ref (mb)])), kI E (m2) (12) (fun _ => 0)]) := by
  refine Con.ofZ (by decide) (Nat.le_of_ble_eq_true rfl) ?_
  intro J C hret
  show J 0 [(0, .ref (h)), (1, .int (nI (k)))] [] [((h), .inr (5, [.int (nI (0)), .int (nI (n)), .ref (m1), .int (nI (st)), .ref (m2), .ref (m3), .ref (m4), .int (nI (mn)), .ref (m5), .ref (m6), .ref (m7), .ref (m8), .ref (m9), .ref (ma), .ref (mb)])), kI E (m2) (12) (nd)] 0 0
  refine J_aload_n C 0 dM_program_0 rfl rfl ?_
  refine J_iconst C (v := nI (0)) dM_program_1 (by decide) ?_
  refine J_put C (ws' := [((h), .inr (5, [.int (nI (0)), .int (nI (n)), .ref (m1), .int (nI (st)), .ref (m2), .ref (m3), .ref (m4), .int (nI (mn)), .ref (m5), .ref (m6), .ref (m7), .ref (m8), .ref (m9), .ref (ma), .ref (mb)])), kI E (m2) (12) (nd)]) 0 0 tyM hinM tyokM nmM rfl rfl (by decide) fkM_53 rfl rfl rfl (Nat.le_of_ble_eq_true rfl) dM_program_2 rfl ?_
  refine J_iload_n C 1 dM_program_5 rfl rfl ?_
  refine J_iconst C (v := nI (1)) dM_program_6 (by decide) ?_
  refine J_icmp_lt C 16 (nI_toInt (n := k) (by omega)) (nI_toInt (n := 1) (by decide)) dM_program_7 (by decide) (fun h7 => ?_) (fun h7 => ?_)
  · exfalso; omega
  · refine J_iload_n C 1 dM_program_10 rfl rfl ?_
    refine J_bipush C (v := nI (12)) dM_program_11 (by decide) ?_
    refine J_icmp_le C 18 (nI_toInt (n := k) (by omega)) (nI_toInt (n := 12) (by decide)) dM_program_13 (by decide) (fun h13 => ?_) (fun h13 => ?_)
    · refine J_aload_n C 0 dM_program_18 rfl rfl ?_
      refine J_iload_n C 1 dM_program_19 rfl rfl ?_
      refine J_put C (ws' := [((h), .inr (5, [.int (nI (0)), .int (nI (n)), .ref (m1), .int (nI (k)), .ref (m2), .ref (m3), .ref (m4), .int (nI (mn)), .ref (m5), .ref (m6), .ref (m7), .ref (m8), .ref (m9), .ref (ma), .ref (mb)])), kI E (m2) (12) (nd)]) 0 3 tyM hinM tyokM nmM rfl rfl (by decide) fkM_49 rfl rfl rfl (Nat.le_of_ble_eq_true rfl) dM_program_20 rfl ?_
      refine J_iconst C (v := nI (0)) dM_program_23 (by decide) ?_
      refine J_istore_n C (lv' := [(0, .ref (h)), (1, .int (nI (k))), (2, .int (nI (0)))]) [1, 2, 0] dM_program_24 rfl (by decide) rfl ?_
      have lp_25 : ∀ (k_25 : Nat) (i : Nat) (f : Nat → Nat), (i ≤ 12) → (∀ j, f j = if j < i then 0 else nd j) → (12 - i) < k_25 → J 25 [(0, .ref (h)), (1, .int (nI (k))), (2, .int (nI (i)))] [] [((h), .inr (5, [.int (nI (0)), .int (nI (n)), .ref (m1), .int (nI (k)), .ref (m2), .ref (m3), .ref (m4), .int (nI (mn)), .ref (m5), .ref (m6), .ref (m7), .ref (m8), .ref (m9), .ref (ma), .ref (mb)])), kI E (m2) (12) (f)] (0) (0) := by
        intro k_25
        induction k_25 with
        | zero => intro i f hi hf hk_25; exact absurd hk_25 (Nat.not_lt_zero _)
        | succ k_25 ih_25 =>
          intro i f hi hf hk_25
          refine J_iload_n C 2 dM_program_25 rfl rfl ?_
          refine J_bipush C (v := nI (12)) dM_program_26 (by decide) ?_
          refine J_icmp_ge C 44 (nI_toInt (n := i) (by omega)) (nI_toInt (n := 12) (by decide)) dM_program_28 (by decide) (fun h28 => ?_) (fun h28 => ?_)
          · refine J_cell C (ws' := [((h), .inr (5, [.int (nI (0)), .int (nI (n)), .ref (m1), .int (nI (k)), .ref (m2), .ref (m3), .ref (m4), .int (nI (mn)), .ref (m5), .ref (m6), .ref (m7), .ref (m8), .ref (m9), .ref (ma), .ref (mb)])), kI E (m2) (12) (fun _ => 0)]) 1 rfl (fun H => kI_congr (fun j hj => by rw [hf j, if_pos (by omega)])) rfl ?_
            refine J_iconst C (v := nI (1)) dM_program_44 (by decide) ?_
            exact hret _ _ _ _ _ _ dM_program_45 (by decide) (by decide) (by decide) (⟨rfl, rfl⟩)
          · refine J_aload_n C 0 dM_program_31 rfl rfl ?_
            refine J_get C 0 4 hinM rfl rfl (by decide) fkM_13 rfl dM_program_32 ?_
            refine J_iload_n C 2 dM_program_35 rfl rfl ?_
            refine J_iconst C (v := nI (0)) dM_program_36 (by decide) ?_
            refine J_iastN C (ws' := [((h), .inr (5, [.int (nI (0)), .int (nI (n)), .ref (m1), .int (nI (k)), .ref (m2), .ref (m3), .ref (m4), .int (nI (mn)), .ref (m5), .ref (m6), .ref (m7), .ref (m8), .ref (m9), .ref (ma), .ref (mb)])), kI E (m2) (12) (upN f i 0)]) 1 rfl (by omega) (by omega) dM_program_37 rfl ?_
            refine J_iinc C (lv' := [(0, .ref (h)), (1, .int (nI (k))), (2, .int (nI (i + 1)))]) 2 [1, 2, 0] dM_program_38 rfl (jn_inc _) (by decide) rfl ?_
            refine J_goto C 25 dM_program_41 (by decide) ?_
            exact ih_25 (i + 1) (upN f i 0) (by omega) (cp_s (t := fun _ => 0) hf) (by omega)
      exact lp_25 (13) 0 nd (by omega) (by intro j; simp) (by omega)
    · exfalso; omega
set_option maxHeartbeats 4000000 in
set_option maxRecDepth 100000 in
theorem c_M_program_f (E : jE) (l : Launch) (h : Nat) (n : Nat) (st : Nat) (mn : Nat) (m1 : Nat) (m2 : Nat) (m3 : Nat) (m4 : Nat) (m5 : Nat) (m6 : Nat) (m7 : Nat) (m8 : Nat) (m9 : Nat) (ma : Nat) (mb : Nat) (x : Int32) (hx : x.toInt < 1 ∨ 12 < x.toInt) : Con E l yM_program bM_program 3 (some .boolean) { frames := 0, cells := 0, slots := 0, locals := 0 } [.ref (h), .int (x)] [((h), .inr (5, [.int (nI (0)), .int (nI (n)), .ref (m1), .int (nI (st)), .ref (m2), .ref (m3), .ref (m4), .int (nI (mn)), .ref (m5), .ref (m6), .ref (m7), .ref (m8), .ref (m9), .ref (ma), .ref (mb)]))] (fun r w => r = some (.int (nI 0)) ∧ w = [((h), .inr (5, [.int (nI (0)), .int (nI (n)), .ref (m1), .int (nI (st)), .ref (m2), .ref (m3), .ref (m4), .int (nI (mn)), .ref (m5), .ref (m6), .ref (m7), .ref (m8), .ref (m9), .ref (ma), .ref (mb)]))]) := by
  refine Con.ofZ (by decide) (Nat.le_of_ble_eq_true rfl) ?_
  intro J C hret
  show J 0 [(0, .ref (h)), (1, .int (x))] [] [((h), .inr (5, [.int (nI (0)), .int (nI (n)), .ref (m1), .int (nI (st)), .ref (m2), .ref (m3), .ref (m4), .int (nI (mn)), .ref (m5), .ref (m6), .ref (m7), .ref (m8), .ref (m9), .ref (ma), .ref (mb)]))] 0 0
  refine J_aload_n C 0 dM_program_0 rfl rfl ?_
  refine J_iconst C (v := nI (0)) dM_program_1 (by decide) ?_
  refine J_put C (ws' := [((h), .inr (5, [.int (nI (0)), .int (nI (n)), .ref (m1), .int (nI (st)), .ref (m2), .ref (m3), .ref (m4), .int (nI (mn)), .ref (m5), .ref (m6), .ref (m7), .ref (m8), .ref (m9), .ref (ma), .ref (mb)]))]) 0 0 tyM hinM tyokM nmM rfl rfl (by decide) fkM_53 rfl rfl rfl (Nat.le_of_ble_eq_true rfl) dM_program_2 rfl ?_
  refine J_iload_n C 1 dM_program_5 rfl rfl ?_
  refine J_iconst C (v := nI (1)) dM_program_6 (by decide) ?_
  refine J_icmp_lt C 16 rfl (nI_toInt (n := 1) (by decide)) dM_program_7 (by decide) (fun h7 => ?_) (fun h7 => ?_)
  · refine J_iconst C (v := nI (0)) dM_program_16 (by decide) ?_
    exact hret _ _ _ _ _ _ dM_program_17 (by decide) (by decide) (by decide) (⟨rfl, rfl⟩)
  · refine J_iload_n C 1 dM_program_10 rfl rfl ?_
    refine J_bipush C (v := nI (12)) dM_program_11 (by decide) ?_
    refine J_icmp_le C 18 rfl (nI_toInt (n := 12) (by decide)) dM_program_13 (by decide) (fun h13 => ?_) (fun h13 => ?_)
    · exfalso; omega
    · refine J_iconst C (v := nI (0)) dM_program_16 (by decide) ?_
      exact hret _ _ _ _ _ _ dM_program_17 (by decide) (by decide) (by decide) (⟨rfl, rfl⟩)
set_option maxHeartbeats 4000000 in
set_option maxRecDepth 100000 in
theorem c_M_need_t (E : jE) (l : Launch) (h : Nat) (n : Nat) (st : Nat) (mn : Nat) (m1 : Nat) (m2 : Nat) (m3 : Nat) (m4 : Nat) (m5 : Nat) (m6 : Nat) (m7 : Nat) (m8 : Nat) (m9 : Nat) (ma : Nat) (mb : Nat) (nd : Nat → Nat) (s : Nat) (t : Nat) (hs12 : st ≤ 12) (hs : s < st) (ht : t < 2 ^ s) : Con E l yM_need bM_need 3 (some .boolean) { frames := 0, cells := 0, slots := 0, locals := 0 } [.ref (h), .int (nI (s)), .int (nI (t))] [((h), .inr (5, [.int (nI (0)), .int (nI (n)), .ref (m1), .int (nI (st)), .ref (m2), .ref (m3), .ref (m4), .int (nI (mn)), .ref (m5), .ref (m6), .ref (m7), .ref (m8), .ref (m9), .ref (ma), .ref (mb)])), kI E (m2) (12) (nd)] (fun r w => r = some (.int (nI 1)) ∧ w = [((h), .inr (5, [.int (nI (0)), .int (nI (n)), .ref (m1), .int (nI (st)), .ref (m2), .ref (m3), .ref (m4), .int (nI (mn)), .ref (m5), .ref (m6), .ref (m7), .ref (m8), .ref (m9), .ref (ma), .ref (mb)])), kI E (m2) (12) (upN nd s t)]) := by
  refine Con.ofZ (by decide) (Nat.le_of_ble_eq_true rfl) ?_
  intro J C hret
  show J 0 [(0, .ref (h)), (1, .int (nI (s))), (2, .int (nI (t)))] [] [((h), .inr (5, [.int (nI (0)), .int (nI (n)), .ref (m1), .int (nI (st)), .ref (m2), .ref (m3), .ref (m4), .int (nI (mn)), .ref (m5), .ref (m6), .ref (m7), .ref (m8), .ref (m9), .ref (ma), .ref (mb)])), kI E (m2) (12) (nd)] 0 0
  have hp := p4096 (show s ≤ 12 by omega)
  refine J_aload_n C 0 dM_need_0 rfl rfl ?_
  refine J_iconst C (v := nI (0)) dM_need_1 (by decide) ?_
  refine J_put C (ws' := [((h), .inr (5, [.int (nI (0)), .int (nI (n)), .ref (m1), .int (nI (st)), .ref (m2), .ref (m3), .ref (m4), .int (nI (mn)), .ref (m5), .ref (m6), .ref (m7), .ref (m8), .ref (m9), .ref (ma), .ref (mb)])), kI E (m2) (12) (nd)]) 0 0 tyM hinM tyokM nmM rfl rfl (by decide) fkM_53 rfl rfl rfl (Nat.le_of_ble_eq_true rfl) dM_need_2 rfl ?_
  refine J_iload_n C 1 dM_need_5 rfl rfl ?_
  refine J_if_lt C 28 (nI_toInt (n := s) (by omega)) dM_need_6 (by decide) (fun h6 => ?_) (fun h6 => ?_)
  · exfalso; omega
  · refine J_iload_n C 1 dM_need_9 rfl rfl ?_
    refine J_aload_n C 0 dM_need_10 rfl rfl ?_
    refine J_get C 0 3 hinM rfl rfl (by decide) fkM_49 rfl dM_need_11 ?_
    refine J_icmp_ge C 28 (nI_toInt (n := s) (by omega)) (nI_toInt (n := st) (by omega)) dM_need_14 (by decide) (fun h14 => ?_) (fun h14 => ?_)
    · exfalso; omega
    · refine J_iload_n C 2 dM_need_17 rfl rfl ?_
      refine J_if_lt C 28 (nI_toInt (n := t) (by omega)) dM_need_18 (by decide) (fun h18 => ?_) (fun h18 => ?_)
      · exfalso; omega
      · refine J_iload_n C 2 dM_need_21 rfl rfl ?_
        refine J_iconst C (v := nI (1)) dM_need_22 (by decide) ?_
        refine J_iload_n C 1 dM_need_23 rfl rfl ?_
        refine J_ishl1 C dM_need_24 (by omega) ?_
        refine J_icmp_lt C 30 (nI_toInt (n := t) (by omega)) (nI_toInt (n := 2 ^ s) (by omega)) dM_need_25 (by decide) (fun h25 => ?_) (fun h25 => ?_)
        · refine J_aload_n C 0 dM_need_30 rfl rfl ?_
          refine J_get C 0 4 hinM rfl rfl (by decide) fkM_13 rfl dM_need_31 ?_
          refine J_iload_n C 1 dM_need_34 rfl rfl ?_
          refine J_iload_n C 2 dM_need_35 rfl rfl ?_
          refine J_iastN C (ws' := [((h), .inr (5, [.int (nI (0)), .int (nI (n)), .ref (m1), .int (nI (st)), .ref (m2), .ref (m3), .ref (m4), .int (nI (mn)), .ref (m5), .ref (m6), .ref (m7), .ref (m8), .ref (m9), .ref (ma), .ref (mb)])), kI E (m2) (12) (upN nd s t)]) 1 rfl (by omega) (by omega) dM_need_36 rfl ?_
          refine J_iconst C (v := nI (1)) dM_need_37 (by decide) ?_
          exact hret _ _ _ _ _ _ dM_need_38 (by decide) (by decide) (by decide) (⟨rfl, rfl⟩)
        · exfalso; omega
set_option maxHeartbeats 4000000 in
set_option maxRecDepth 100000 in
theorem c_M_need_f1 (E : jE) (l : Launch) (h : Nat) (n : Nat) (st : Nat) (mn : Nat) (m1 : Nat) (m2 : Nat) (m3 : Nat) (m4 : Nat) (m5 : Nat) (m6 : Nat) (m7 : Nat) (m8 : Nat) (m9 : Nat) (ma : Nat) (mb : Nat) (x : Int32) (z : Int32) (hs12 : st ≤ 12) (hx : x.toInt < 0 ∨ (st : Int) ≤ x.toInt) : Con E l yM_need bM_need 3 (some .boolean) { frames := 0, cells := 0, slots := 0, locals := 0 } [.ref (h), .int (x), .int (z)] [((h), .inr (5, [.int (nI (0)), .int (nI (n)), .ref (m1), .int (nI (st)), .ref (m2), .ref (m3), .ref (m4), .int (nI (mn)), .ref (m5), .ref (m6), .ref (m7), .ref (m8), .ref (m9), .ref (ma), .ref (mb)]))] (fun r w => r = some (.int (nI 0)) ∧ w = [((h), .inr (5, [.int (nI (0)), .int (nI (n)), .ref (m1), .int (nI (st)), .ref (m2), .ref (m3), .ref (m4), .int (nI (mn)), .ref (m5), .ref (m6), .ref (m7), .ref (m8), .ref (m9), .ref (ma), .ref (mb)]))]) := by
  refine Con.ofZ (by decide) (Nat.le_of_ble_eq_true rfl) ?_
  intro J C hret
  show J 0 [(0, .ref (h)), (1, .int (x)), (2, .int (z))] [] [((h), .inr (5, [.int (nI (0)), .int (nI (n)), .ref (m1), .int (nI (st)), .ref (m2), .ref (m3), .ref (m4), .int (nI (mn)), .ref (m5), .ref (m6), .ref (m7), .ref (m8), .ref (m9), .ref (ma), .ref (mb)]))] 0 0
  refine J_aload_n C 0 dM_need_0 rfl rfl ?_
  refine J_iconst C (v := nI (0)) dM_need_1 (by decide) ?_
  refine J_put C (ws' := [((h), .inr (5, [.int (nI (0)), .int (nI (n)), .ref (m1), .int (nI (st)), .ref (m2), .ref (m3), .ref (m4), .int (nI (mn)), .ref (m5), .ref (m6), .ref (m7), .ref (m8), .ref (m9), .ref (ma), .ref (mb)]))]) 0 0 tyM hinM tyokM nmM rfl rfl (by decide) fkM_53 rfl rfl rfl (Nat.le_of_ble_eq_true rfl) dM_need_2 rfl ?_
  refine J_iload_n C 1 dM_need_5 rfl rfl ?_
  refine J_if_lt C 28 rfl dM_need_6 (by decide) (fun h6 => ?_) (fun h6 => ?_)
  · refine J_iconst C (v := nI (0)) dM_need_28 (by decide) ?_
    exact hret _ _ _ _ _ _ dM_need_29 (by decide) (by decide) (by decide) (⟨rfl, rfl⟩)
  · refine J_iload_n C 1 dM_need_9 rfl rfl ?_
    refine J_aload_n C 0 dM_need_10 rfl rfl ?_
    refine J_get C 0 3 hinM rfl rfl (by decide) fkM_49 rfl dM_need_11 ?_
    refine J_icmp_ge C 28 rfl (nI_toInt (n := st) (by omega)) dM_need_14 (by decide) (fun h14 => ?_) (fun h14 => ?_)
    · refine J_iconst C (v := nI (0)) dM_need_28 (by decide) ?_
      exact hret _ _ _ _ _ _ dM_need_29 (by decide) (by decide) (by decide) (⟨rfl, rfl⟩)
    · exfalso; omega
set_option maxHeartbeats 4000000 in
set_option maxRecDepth 100000 in
theorem c_M_need_f2 (E : jE) (l : Launch) (h : Nat) (n : Nat) (st : Nat) (mn : Nat) (m1 : Nat) (m2 : Nat) (m3 : Nat) (m4 : Nat) (m5 : Nat) (m6 : Nat) (m7 : Nat) (m8 : Nat) (m9 : Nat) (ma : Nat) (mb : Nat) (s : Nat) (z : Int32) (hs12 : st ≤ 12) (hs : s < st) (hx : z.toInt < 0 ∨ ((2 ^ s : Nat) : Int) ≤ z.toInt) : Con E l yM_need bM_need 3 (some .boolean) { frames := 0, cells := 0, slots := 0, locals := 0 } [.ref (h), .int (nI (s)), .int (z)] [((h), .inr (5, [.int (nI (0)), .int (nI (n)), .ref (m1), .int (nI (st)), .ref (m2), .ref (m3), .ref (m4), .int (nI (mn)), .ref (m5), .ref (m6), .ref (m7), .ref (m8), .ref (m9), .ref (ma), .ref (mb)]))] (fun r w => r = some (.int (nI 0)) ∧ w = [((h), .inr (5, [.int (nI (0)), .int (nI (n)), .ref (m1), .int (nI (st)), .ref (m2), .ref (m3), .ref (m4), .int (nI (mn)), .ref (m5), .ref (m6), .ref (m7), .ref (m8), .ref (m9), .ref (ma), .ref (mb)]))]) := by
  refine Con.ofZ (by decide) (Nat.le_of_ble_eq_true rfl) ?_
  intro J C hret
  show J 0 [(0, .ref (h)), (1, .int (nI (s))), (2, .int (z))] [] [((h), .inr (5, [.int (nI (0)), .int (nI (n)), .ref (m1), .int (nI (st)), .ref (m2), .ref (m3), .ref (m4), .int (nI (mn)), .ref (m5), .ref (m6), .ref (m7), .ref (m8), .ref (m9), .ref (ma), .ref (mb)]))] 0 0
  have hp := p4096 (show s ≤ 12 by omega)
  refine J_aload_n C 0 dM_need_0 rfl rfl ?_
  refine J_iconst C (v := nI (0)) dM_need_1 (by decide) ?_
  refine J_put C (ws' := [((h), .inr (5, [.int (nI (0)), .int (nI (n)), .ref (m1), .int (nI (st)), .ref (m2), .ref (m3), .ref (m4), .int (nI (mn)), .ref (m5), .ref (m6), .ref (m7), .ref (m8), .ref (m9), .ref (ma), .ref (mb)]))]) 0 0 tyM hinM tyokM nmM rfl rfl (by decide) fkM_53 rfl rfl rfl (Nat.le_of_ble_eq_true rfl) dM_need_2 rfl ?_
  refine J_iload_n C 1 dM_need_5 rfl rfl ?_
  refine J_if_lt C 28 (nI_toInt (n := s) (by omega)) dM_need_6 (by decide) (fun h6 => ?_) (fun h6 => ?_)
  · exfalso; omega
  · refine J_iload_n C 1 dM_need_9 rfl rfl ?_
    refine J_aload_n C 0 dM_need_10 rfl rfl ?_
    refine J_get C 0 3 hinM rfl rfl (by decide) fkM_49 rfl dM_need_11 ?_
    refine J_icmp_ge C 28 (nI_toInt (n := s) (by omega)) (nI_toInt (n := st) (by omega)) dM_need_14 (by decide) (fun h14 => ?_) (fun h14 => ?_)
    · exfalso; omega
    · refine J_iload_n C 2 dM_need_17 rfl rfl ?_
      refine J_if_lt C 28 rfl dM_need_18 (by decide) (fun h18 => ?_) (fun h18 => ?_)
      · refine J_iconst C (v := nI (0)) dM_need_28 (by decide) ?_
        exact hret _ _ _ _ _ _ dM_need_29 (by decide) (by decide) (by decide) (⟨rfl, rfl⟩)
      · refine J_iload_n C 2 dM_need_21 rfl rfl ?_
        refine J_iconst C (v := nI (1)) dM_need_22 (by decide) ?_
        refine J_iload_n C 1 dM_need_23 rfl rfl ?_
        refine J_ishl1 C dM_need_24 (by omega) ?_
        refine J_icmp_lt C 30 rfl (nI_toInt (n := 2 ^ s) (by omega)) dM_need_25 (by decide) (fun h25 => ?_) (fun h25 => ?_)
        · exfalso; omega
        · refine J_iconst C (v := nI (0)) dM_need_28 (by decide) ?_
          exact hret _ _ _ _ _ _ dM_need_29 (by decide) (by decide) (by decide) (⟨rfl, rfl⟩)
set_option maxHeartbeats 4000000 in
set_option maxRecDepth 100000 in
theorem c_M_count (E : jE) (l : Launch) (S : Nat) (hS : S < 4096) : Con E l yM_count bM_count 3 (some .int) { frames := 0, cells := 0, slots := 0, locals := 0 } [.int (nI (S))] [] (fun r w => r = some (.int (nI (bc S))) ∧ w = []) := by
  refine Con.ofI (by decide) (Nat.le_of_ble_eq_true rfl) ?_
  intro J C hret
  show J 0 [(0, .int (nI (S)))] [] [] 0 0
  refine J_iconst C (v := nI (0)) dM_count_0 (by decide) ?_
  refine J_istore_n C (lv' := [(0, .int (nI (S))), (1, .int (nI (0)))]) [1, 0] dM_count_1 rfl (by decide) rfl ?_
  refine J_iconst C (v := nI (0)) dM_count_2 (by decide) ?_
  refine J_istore_n C (lv' := [(0, .int (nI (S))), (1, .int (nI (0))), (2, .int (nI (0)))]) [1, 2, 0] dM_count_3 rfl (by decide) rfl ?_
  have lp_4 : ∀ (k_4 : Nat) (k : Nat), (k ≤ 12) → (12 - k) < k_4 → J 4 [(0, .int (nI (S))), (1, .int (nI (bcn k S))), (2, .int (nI (k)))] [] [] (0) (0) := by
    intro k_4
    induction k_4 with
    | zero => intro k hk hk_4; exact absurd hk_4 (Nat.not_lt_zero _)
    | succ k_4 ih_4 =>
      intro k hk hk_4
      refine J_iload_n C 2 dM_count_4 rfl rfl ?_
      refine J_bipush C (v := nI (12)) dM_count_5 (by decide) ?_
      refine J_icmp_ge C 24 (nI_toInt (n := k) (by omega)) (nI_toInt (n := 12) (by decide)) dM_count_7 (by decide) (fun h7 => ?_) (fun h7 => ?_)
      · obtain rfl : 12 = k := by omega
        refine J_iload_n C 1 dM_count_24 rfl rfl ?_
        exact hret _ _ _ _ _ _ dM_count_25 (by decide) (by decide) (⟨rfl, rfl⟩)
      · refine J_iload_n C 1 dM_count_10 rfl rfl ?_
        refine J_iload_n C 0 dM_count_11 rfl rfl ?_
        refine J_iload_n C 2 dM_count_12 rfl rfl ?_
        refine J_ishrN C dM_count_13 (by omega) (by omega) ?_
        refine J_iconst C (v := nI (1)) dM_count_14 (by decide) ?_
        refine J_iandN C dM_count_15 ?_
        refine J_iaddN C dM_count_16 ?_
        refine J_topN C (n' := bcn (k + 1) S) (bcn_add k S) ?_
        refine J_istore_n C (lv' := [(0, .int (nI (S))), (1, .int (nI (bcn (k + 1) S))), (2, .int (nI (k)))]) [1, 0, 2] dM_count_17 rfl (by decide) rfl ?_
        refine J_iinc C (lv' := [(0, .int (nI (S))), (1, .int (nI (bcn (k + 1) S))), (2, .int (nI (k + 1)))]) 2 [1, 2, 0] dM_count_18 rfl (jn_inc _) (by decide) rfl ?_
        refine J_goto C 4 dM_count_21 (by decide) ?_
        exact ih_4 (k + 1) (by omega) (by omega)
  exact lp_4 (13) 0 (by omega) (by omega)
set_option maxHeartbeats 4000000 in
set_option maxRecDepth 100000 in
theorem c_M_findEnd_n (E : jE) (l : Launch) (h : Nat) (n : Nat) (st : Nat) (mn : Nat) (m1 : Nat) (m2 : Nat) (m3 : Nat) (m4 : Nat) (m5 : Nat) (m6 : Nat) (m7 : Nat) (m8 : Nat) (m9 : Nat) (ma : Nat) (mb : Nat) (nd : Nat → Nat) (co : Nat → Nat) (qq : Nat → Nat) (sr : Nat → Nat) (bw : Nat → Nat) (b : Nat) (hg : mG st nd) (hb : b < 2 ^ 31) (hco : ∀ j, co j ≤ 1) (hno0 : ∀ qs, ¬ mP st nd b 0 qs (2 ^ (st - 1))) : Con E l yM_findEnd bM_findEnd 7 (some .int) { frames := 1, cells := 0, slots := 0, locals := 22 } [.ref (h), .int (nI (b))] [((h), .inr (5, [.int (nI (0)), .int (nI (n)), .ref (m1), .int (nI (st)), .ref (m2), .ref (m3), .ref (m4), .int (nI (mn)), .ref (m5), .ref (m6), .ref (m7), .ref (m8), .ref (m9), .ref (ma), .ref (mb)])), kI E (m2) (12) (nd), kB E (m8) (4096) (co), kI E (m9) (4096) (qq), kM E (ma) (4096) (sr), kI E (mb) (4096) (bw)] (fun r w => ∃ c1 q1 s1 b1 : Nat → Nat, r = some (.int (-1)) ∧ (∀ j, c1 j ≤ 1) ∧ w = [((h), .inr (5, [.int (nI (0)), .int (nI (n)), .ref (m1), .int (nI (st)), .ref (m2), .ref (m3), .ref (m4), .int (nI (mn)), .ref (m5), .ref (m6), .ref (m7), .ref (m8), .ref (m9), .ref (ma), .ref (mb)])), kI E (m2) (12) (nd), kB E (m8) (4096) (c1), kI E (m9) (4096) (q1), kM E (ma) (4096) (s1), kI E (mb) (4096) (b1)]) := by
  refine Con.ofI (by decide) (Nat.le_of_ble_eq_true rfl) ?_
  intro J C hret
  show J 0 [(0, .ref (h)), (1, .int (nI (b)))] [] [((h), .inr (5, [.int (nI (0)), .int (nI (n)), .ref (m1), .int (nI (st)), .ref (m2), .ref (m3), .ref (m4), .int (nI (mn)), .ref (m5), .ref (m6), .ref (m7), .ref (m8), .ref (m9), .ref (ma), .ref (mb)])), kI E (m2) (12) (nd), kB E (m8) (4096) (co), kI E (m9) (4096) (qq), kM E (ma) (4096) (sr), kI E (mb) (4096) (bw)] 0 0
  have hm1 := hg.1
  have hm12 := hg.2.1
  have hp12 := p4096 hm12
  have hpm := Nat.two_pow_pos st
  have hpg : 2 ^ (st - 1) < 2 ^ st := Nat.pow_lt_pow_right (by omega) (by omega)
  refine J_iconst C (v := nI (0)) dM_findEnd_0 (by decide) ?_
  refine J_istore_n C (lv' := [(0, .ref (h)), (1, .int (nI (b))), (2, .int (nI (0)))]) [1, 2, 0] dM_findEnd_1 rfl (by decide) rfl ?_
  have lp_2 : ∀ (k_2 : Nat) (i : Nat) (f : Nat → Nat), (i ≤ 4096) → (∀ j, f j = if j < i then 0 else co j) → (4096 - i) < k_2 → J 2 [(0, .ref (h)), (1, .int (nI (b))), (2, .int (nI (i)))] [] [((h), .inr (5, [.int (nI (0)), .int (nI (n)), .ref (m1), .int (nI (st)), .ref (m2), .ref (m3), .ref (m4), .int (nI (mn)), .ref (m5), .ref (m6), .ref (m7), .ref (m8), .ref (m9), .ref (ma), .ref (mb)])), kI E (m2) (12) (nd), kB E (m8) (4096) (f), kI E (m9) (4096) (qq), kM E (ma) (4096) (sr), kI E (mb) (4096) (bw)] (0) (0) := by
    intro k_2
    induction k_2 with
    | zero => intro i f hi hf hk_2; exact absurd hk_2 (Nat.not_lt_zero _)
    | succ k_2 ih_2 =>
      intro i f hi hf hk_2
      refine J_iload_n C 2 dM_findEnd_2 rfl rfl ?_
      refine J_sipush C (v := nI (4096)) dM_findEnd_3 (by decide) ?_
      refine J_icmp_ge C 22 (nI_toInt (n := i) (by omega)) (nI_toInt (n := 4096) (by decide)) dM_findEnd_6 (by decide) (fun h6 => ?_) (fun h6 => ?_)
      · obtain rfl : 4096 = i := by omega
        refine J_aload_n C 0 dM_findEnd_22 rfl rfl ?_
        refine J_get C 0 11 hinM rfl rfl (by decide) fkM_33 rfl dM_findEnd_23 ?_
        refine J_iconst C (v := nI (0)) dM_findEnd_26 (by decide) ?_
        refine J_iconst C (v := nI (1)) dM_findEnd_27 (by decide) ?_
        refine J_zastN C (ws' := [((h), .inr (5, [.int (nI (0)), .int (nI (n)), .ref (m1), .int (nI (st)), .ref (m2), .ref (m3), .ref (m4), .int (nI (mn)), .ref (m5), .ref (m6), .ref (m7), .ref (m8), .ref (m9), .ref (ma), .ref (mb)])), kI E (m2) (12) (nd), kB E (m8) (4096) (upN f 0 1), kI E (m9) (4096) (qq), kM E (ma) (4096) (sr), kI E (mb) (4096) (bw)]) 2 rfl (by omega) (by omega) dM_findEnd_28 (by decide) rfl ?_
        refine J_aload_n C 0 dM_findEnd_29 rfl rfl ?_
        refine J_get C 0 12 hinM rfl rfl (by decide) fkM_36 rfl dM_findEnd_30 ?_
        refine J_iconst C (v := nI (0)) dM_findEnd_33 (by decide) ?_
        refine J_iconst C (v := nI (0)) dM_findEnd_34 (by decide) ?_
        refine J_iastN C (ws' := [((h), .inr (5, [.int (nI (0)), .int (nI (n)), .ref (m1), .int (nI (st)), .ref (m2), .ref (m3), .ref (m4), .int (nI (mn)), .ref (m5), .ref (m6), .ref (m7), .ref (m8), .ref (m9), .ref (ma), .ref (mb)])), kI E (m2) (12) (nd), kB E (m8) (4096) (upN f 0 1), kI E (m9) (4096) (upN qq 0 0), kM E (ma) (4096) (sr), kI E (mb) (4096) (bw)]) 3 rfl (by omega) (by omega) dM_findEnd_35 rfl ?_
        refine J_aload_n C 0 dM_findEnd_36 rfl rfl ?_
        refine J_get C 0 13 hinM rfl rfl (by decide) fkM_39 rfl dM_findEnd_37 ?_
        refine J_iconst C (v := nI (0)) dM_findEnd_40 (by decide) ?_
        refine J_iconst C (v := -1) dM_findEnd_41 (by decide) ?_
        refine J_iastM C (ws' := [((h), .inr (5, [.int (nI (0)), .int (nI (n)), .ref (m1), .int (nI (st)), .ref (m2), .ref (m3), .ref (m4), .int (nI (mn)), .ref (m5), .ref (m6), .ref (m7), .ref (m8), .ref (m9), .ref (ma), .ref (mb)])), kI E (m2) (12) (nd), kB E (m8) (4096) (upN f 0 1), kI E (m9) (4096) (upN qq 0 0), kM E (ma) (4096) (upN sr 0 0), kI E (mb) (4096) (bw)]) 4 rfl (by omega) (by omega) (mI_0.symm) dM_findEnd_42 rfl ?_
        refine J_iconst C (v := nI (1)) dM_findEnd_43 (by decide) ?_
        refine J_istore_n C (lv' := [(0, .ref (h)), (1, .int (nI (b))), (2, .int (nI (1)))]) [1, 2, 0] dM_findEnd_44 rfl (by decide) rfl ?_
        refine J_iconst C (v := nI (0)) dM_findEnd_45 (by decide) ?_
        refine J_istore_n C (lv' := [(0, .ref (h)), (1, .int (nI (b))), (2, .int (nI (1))), (3, .int (nI (0)))]) [1, 2, 3, 0] dM_findEnd_46 rfl (by decide) rfl ?_
        have lp_47 : ∀ (k_47 : Nat) (fd k : Nat) (c2 q2 s2 b2 : Nat → Nat) (π2 : Nat → List Nat), (k ≤ fd) → (fS st nd b k 0 fd c2 q2 s2 b2 π2) → (4097 - k) < k_47 → J 47 [(0, .ref (h)), (1, .int (nI (b))), (2, .int (nI (fd))), (3, .int (nI (k)))] [] [((h), .inr (5, [.int (nI (0)), .int (nI (n)), .ref (m1), .int (nI (st)), .ref (m2), .ref (m3), .ref (m4), .int (nI (mn)), .ref (m5), .ref (m6), .ref (m7), .ref (m8), .ref (m9), .ref (ma), .ref (mb)])), kI E (m2) (12) (nd), kB E (m8) (4096) (c2), kI E (m9) (4096) (q2), kM E (ma) (4096) (s2), kI E (mb) (4096) (b2)] (0) (0) := by
          intro k_47
          induction k_47 with
          | zero => intro fd k c2 q2 s2 b2 π2 hkf h2 hk_47; exact absurd hk_47 (Nat.not_lt_zero _)
          | succ k_47 ih_47 =>
            intro fd k c2 q2 s2 b2 π2 hkf h2 hk_47
            have hfd := fS_found hm12 h2
            refine J_iload_n C 3 dM_findEnd_47 rfl rfl ?_
            refine J_iload_n C 2 dM_findEnd_48 rfl rfl ?_
            refine J_icmp_ge C 179 (nI_toInt (n := k) (by omega)) (nI_toInt (n := fd) (by omega)) dM_findEnd_49 (by decide) (fun h49 => ?_) (fun h49 => ?_)
            · refine J_iconst C (v := -1) dM_findEnd_179 (by decide) ?_
              exact hret _ _ _ _ _ _ dM_findEnd_180 (by decide) (by decide) (⟨_, _, _, _, rfl, h2.2.2.2.2, rfl⟩)
            · refine J_aload_n C 0 dM_findEnd_52 rfl rfl ?_
              refine J_get C 0 12 hinM rfl rfl (by decide) fkM_36 rfl dM_findEnd_53 ?_
              refine J_iload_n C 3 dM_findEnd_56 rfl rfl ?_
              refine J_iald C 3 rfl (by omega) (by omega) dM_findEnd_57 ?_
              refine J_istore C (lv' := [(0, .ref (h)), (1, .int (nI (b))), (2, .int (nI (fd))), (3, .int (nI (k))), (4, .int (nI (q2 k)))]) [1, 2, 3, 4, 0] dM_findEnd_58 (by decide) rfl ?_
              refine J_iload C 4 dM_findEnd_60 rfl ?_
              refine J_iconst C (v := nI (1)) dM_findEnd_62 (by decide) ?_
              refine J_aload_n C 0 dM_findEnd_63 rfl rfl ?_
              refine J_get C 0 3 hinM rfl rfl (by decide) fkM_49 rfl dM_findEnd_64 ?_
              refine J_iconst C (v := nI (1)) dM_findEnd_67 (by decide) ?_
              refine J_isubN C dM_findEnd_68 (by omega) ?_
              refine J_ishl1 C dM_findEnd_69 (by omega) ?_
              refine J_icmp_ne C 75 (nI_toInt (n := q2 k) (by have := fI_lt h2.1 k (by omega); omega)) (nI_toInt (n := 2 ^ (st - 1)) (by omega)) dM_findEnd_70 (by decide) (fun h70 => ?_) (fun h70 => ?_)
              · have hne : q2 k ≠ 2 ^ (st - 1) := by omega
                refine J_iconst C (v := nI (0)) dM_findEnd_75 (by decide) ?_
                refine J_istore C (lv' := [(0, .ref (h)), (1, .int (nI (b))), (2, .int (nI (fd))), (3, .int (nI (k))), (4, .int (nI (q2 k))), (5, .int (nI (0)))]) [1, 2, 3, 4, 5, 0] dM_findEnd_76 (by decide) rfl ?_
                have lp_78 : ∀ (k_78 : Nat) (fd3 s : Nat) (c3 q3 s3 b3 : Nat → Nat) (π3 : Nat → List Nat), (k < fd3) → (s ≤ st) → (q3 k = q2 k) → (fS st nd b k s fd3 c3 q3 s3 b3 π3) → (st - s) < k_78 → J 78 [(0, .ref (h)), (1, .int (nI (b))), (2, .int (nI (fd3))), (3, .int (nI (k))), (4, .int (nI (q2 k))), (5, .int (nI (s)))] [] [((h), .inr (5, [.int (nI (0)), .int (nI (n)), .ref (m1), .int (nI (st)), .ref (m2), .ref (m3), .ref (m4), .int (nI (mn)), .ref (m5), .ref (m6), .ref (m7), .ref (m8), .ref (m9), .ref (ma), .ref (mb)])), kI E (m2) (12) (nd), kB E (m8) (4096) (c3), kI E (m9) (4096) (q3), kM E (ma) (4096) (s3), kI E (mb) (4096) (b3)] (0) (0) := by
                  intro k_78
                  induction k_78 with
                  | zero => intro fd3 s c3 q3 s3 b3 π3 hk3 hs hqk h3 hk_78; exact absurd hk_78 (Nat.not_lt_zero _)
                  | succ k_78 ih_78 =>
                    intro fd3 s c3 q3 s3 b3 π3 hk3 hs hqk h3 hk_78
                    have hfd3 := fS_found hm12 h3
                    have hqlt := fI_lt h3.1 k hk3
                    rw [hqk] at hqlt
                    refine J_iload C 5 dM_findEnd_78 rfl ?_
                    refine J_aload_n C 0 dM_findEnd_80 rfl rfl ?_
                    refine J_get C 0 3 hinM rfl rfl (by decide) fkM_49 rfl dM_findEnd_81 ?_
                    refine J_icmp_ge C 173 (nI_toInt (n := s) (by omega)) (nI_toInt (n := st) (by omega)) dM_findEnd_84 (by decide) (fun h84 => ?_) (fun h84 => ?_)
                    · obtain rfl : st = s := by omega
                      refine J_iinc C (lv' := [(0, .ref (h)), (1, .int (nI (b))), (2, .int (nI (fd3))), (3, .int (nI (k + 1))), (4, .int (nI (q2 k))), (5, .int (nI (st)))]) 3 [1, 2, 3, 0, 4, 5] dM_findEnd_173 rfl (jn_inc _) (by decide) rfl ?_
                      refine J_goto C 47 dM_findEnd_176 (by decide) ?_
                      refine J_lv C (lv' := [(0, .ref (h)), (1, .int (nI (b))), (2, .int (nI (fd3))), (3, .int (nI (k + 1)))]) [0, 1, 2, 3] rfl ?_
                      exact ih_47 fd3 (k + 1) c3 q3 s3 b3 π3 (by omega) (fS_next h3 (by rw [hqk]; exact hne)) (by omega)
                    · have hnl := flip_lt hqlt (show s < st by omega)
                      have hnds := hg.2.2 s (by omega)
                      have hnd12 : nd s < 2 ^ st := Nat.lt_trans hnds (Nat.pow_lt_pow_right (by omega) (by omega))
                      have hxx := Nat.xor_lt_two_pow hnd12 (Nat.and_lt_two_pow (nd s) hqlt)
                      refine J_iload C 4 dM_findEnd_87 rfl ?_
                      refine J_iconst C (v := nI (1)) dM_findEnd_89 (by decide) ?_
                      refine J_iload C 5 dM_findEnd_90 rfl ?_
                      refine J_ishl1 C dM_findEnd_92 (by omega) ?_
                      refine J_ixorN C dM_findEnd_93 ?_
                      refine J_istore C (lv' := [(0, .ref (h)), (1, .int (nI (b))), (2, .int (nI (fd3))), (3, .int (nI (k))), (4, .int (nI (q2 k))), (5, .int (nI (s))), (6, .int (nI ((q2 k) ^^^ (2 ^ s))))]) [1, 2, 3, 4, 5, 6, 0] dM_findEnd_94 (by decide) rfl ?_
                      refine J_aload_n C 0 dM_findEnd_96 rfl rfl ?_
                      refine J_get C 0 4 hinM rfl rfl (by decide) fkM_13 rfl dM_findEnd_97 ?_
                      refine J_iload C 5 dM_findEnd_100 rfl ?_
                      refine J_iald C 1 rfl (by omega) (by omega) dM_findEnd_102 ?_
                      refine J_iload C 4 dM_findEnd_103 rfl ?_
                      refine J_iconst C (v := -1) dM_findEnd_105 (by decide) ?_
                      refine J_ixor C dM_findEnd_106 ?_
                      refine J_iand C dM_findEnd_107 ?_
                      refine J_topX C (x' := nI (nd s ^^^ (nd s &&& q2 k))) (jn_notandN _ _) ?_
                      refine J_if_ne C 167 (nI_toInt (n := nd s ^^^ (nd s &&& q2 k)) (by omega)) dM_findEnd_108 (by decide) (fun h108 => ?_) (fun h108 => ?_)
                      · have hno : mok st nd b (q3 k) s → c3 (q3 k ^^^ 2 ^ s) ≠ 0 := by
                          intro q
                          have e1 := (notand_0 (a := nd s) (b := q2 k)).mpr (by rw [← hqk]; exact q.2.1); exfalso; omega
                        refine J_iinc C (lv' := [(0, .ref (h)), (1, .int (nI (b))), (2, .int (nI (fd3))), (3, .int (nI (k))), (4, .int (nI (q2 k))), (5, .int (nI (s + 1))), (6, .int (nI ((q2 k) ^^^ (2 ^ s))))]) 5 [1, 2, 3, 4, 5, 0, 6] dM_findEnd_167 rfl (jn_inc _) (by decide) rfl ?_
                        refine J_goto C 78 dM_findEnd_170 (by decide) ?_
                        refine J_lv C (lv' := [(0, .ref (h)), (1, .int (nI (b))), (2, .int (nI (fd3))), (3, .int (nI (k))), (4, .int (nI (q2 k))), (5, .int (nI (s + 1)))]) [0, 1, 2, 3, 4, 5] rfl ?_
                        exact ih_78 fd3 (s + 1) c3 q3 s3 b3 π3 (hk3) (by omega) (hqk) (fS_skip hg.2.1 h3 hk3 (by omega) hno) (by omega)
                      · have hsub : nd s &&& q2 k = nd s := notand_0.mp (by omega)
                        refine J_iload C 6 dM_findEnd_111 rfl ?_
                        refine J_callS C (rest := []) [] [] [((h), .inr (5, [.int (nI (0)), .int (nI (n)), .ref (m1), .int (nI (st)), .ref (m2), .ref (m3), .ref (m4), .int (nI (mn)), .ref (m5), .ref (m6), .ref (m7), .ref (m8), .ref (m9), .ref (ma), .ref (mb)])), kI E (m2) (12) (nd), kB E (m8) (4096) (c3), kI E (m9) (4096) (q3), kM E (ma) (4096) (s3), kI E (mb) (4096) (b3)] (c_M_count E l ((q2 k) ^^^ (2 ^ s)) (by omega)) mmM_count lkM_104 (rfl) rfl rfl ⟨by decide, by decide⟩ ⟨by decide, by decide⟩ (Nat.le_of_ble_eq_true rfl) dM_findEnd_113 (fun r_c w_c hp => ?_)
                        obtain ⟨rfl, rfl⟩ := hp
                        refine J_norm C (st' := [.int (nI (bc ((q2 k) ^^^ (2 ^ s))))]) (ws' := [((h), .inr (5, [.int (nI (0)), .int (nI (n)), .ref (m1), .int (nI (st)), .ref (m2), .ref (m3), .ref (m4), .int (nI (mn)), .ref (m5), .ref (m6), .ref (m7), .ref (m8), .ref (m9), .ref (ma), .ref (mb)])), kI E (m2) (12) (nd), kB E (m8) (4096) (c3), kI E (m9) (4096) (q3), kM E (ma) (4096) (s3), kI E (mb) (4096) (b3)]) (cs' := 0) (ss' := 0) rfl (rfl) rfl rfl ?_
                        refine J_iload_n C 1 dM_findEnd_116 rfl rfl ?_
                        refine J_icmp_gt C 167 (nI_toInt (n := bc ((q2 k) ^^^ (2 ^ s))) (by have := bc_12 (q2 k ^^^ 2 ^ s); omega)) (nI_toInt (n := b) (hb)) dM_findEnd_117 (by decide) (fun h117 => ?_) (fun h117 => ?_)
                        · have hno : mok st nd b (q3 k) s → c3 (q3 k ^^^ 2 ^ s) ≠ 0 := by
                            intro q
                            have := q.2.2; rw [hqk] at this; omega
                          refine J_iinc C (lv' := [(0, .ref (h)), (1, .int (nI (b))), (2, .int (nI (fd3))), (3, .int (nI (k))), (4, .int (nI (q2 k))), (5, .int (nI (s + 1))), (6, .int (nI ((q2 k) ^^^ (2 ^ s))))]) 5 [1, 2, 3, 4, 5, 0, 6] dM_findEnd_167 rfl (jn_inc _) (by decide) rfl ?_
                          refine J_goto C 78 dM_findEnd_170 (by decide) ?_
                          refine J_lv C (lv' := [(0, .ref (h)), (1, .int (nI (b))), (2, .int (nI (fd3))), (3, .int (nI (k))), (4, .int (nI (q2 k))), (5, .int (nI (s + 1)))]) [0, 1, 2, 3, 4, 5] rfl ?_
                          exact ih_78 fd3 (s + 1) c3 q3 s3 b3 π3 (hk3) (by omega) (hqk) (fS_skip hg.2.1 h3 hk3 (by omega) hno) (by omega)
                        · have hok : mok st nd b (q3 k) s := ⟨by omega, by rw [hqk]; exact hsub, by rw [hqk]; omega⟩
                          refine J_aload_n C 0 dM_findEnd_120 rfl rfl ?_
                          refine J_get C 0 11 hinM rfl rfl (by decide) fkM_33 rfl dM_findEnd_121 ?_
                          refine J_iload C 6 dM_findEnd_124 rfl ?_
                          refine J_zald C 2 rfl (by omega) (by omega) dM_findEnd_126 ?_
                          refine J_if_eq C 133 (nI_toInt (n := c3 ((q2 k) ^^^ (2 ^ s))) (by have := h3.2.2.2.2 (q2 k ^^^ 2 ^ s); omega)) dM_findEnd_127 (by decide) (fun h127 => ?_) (fun h127 => ?_)
                          · have hz : c3 (q3 k ^^^ 2 ^ s) = 0 := by rw [hqk]; omega
                            obtain ⟨π4, h4⟩ := fS_new hg.2.1 h3 hk3 (by omega) hok hz
                            have hfd4 := fS_found hm12 h4
                            refine J_aload_n C 0 dM_findEnd_133 rfl rfl ?_
                            refine J_get C 0 11 hinM rfl rfl (by decide) fkM_33 rfl dM_findEnd_134 ?_
                            refine J_iload C 6 dM_findEnd_137 rfl ?_
                            refine J_iconst C (v := nI (1)) dM_findEnd_139 (by decide) ?_
                            refine J_zastN C (ws' := [((h), .inr (5, [.int (nI (0)), .int (nI (n)), .ref (m1), .int (nI (st)), .ref (m2), .ref (m3), .ref (m4), .int (nI (mn)), .ref (m5), .ref (m6), .ref (m7), .ref (m8), .ref (m9), .ref (ma), .ref (mb)])), kI E (m2) (12) (nd), kB E (m8) (4096) (upN c3 ((q2 k) ^^^ (2 ^ s)) 1), kI E (m9) (4096) (q3), kM E (ma) (4096) (s3), kI E (mb) (4096) (b3)]) 2 rfl (by omega) (by omega) dM_findEnd_140 (by decide) rfl ?_
                            refine J_aload_n C 0 dM_findEnd_141 rfl rfl ?_
                            refine J_get C 0 12 hinM rfl rfl (by decide) fkM_36 rfl dM_findEnd_142 ?_
                            refine J_iload_n C 2 dM_findEnd_145 rfl rfl ?_
                            refine J_iload C 6 dM_findEnd_146 rfl ?_
                            refine J_iastN C (ws' := [((h), .inr (5, [.int (nI (0)), .int (nI (n)), .ref (m1), .int (nI (st)), .ref (m2), .ref (m3), .ref (m4), .int (nI (mn)), .ref (m5), .ref (m6), .ref (m7), .ref (m8), .ref (m9), .ref (ma), .ref (mb)])), kI E (m2) (12) (nd), kB E (m8) (4096) (upN c3 ((q2 k) ^^^ (2 ^ s)) 1), kI E (m9) (4096) (upN q3 fd3 ((q2 k) ^^^ (2 ^ s))), kM E (ma) (4096) (s3), kI E (mb) (4096) (b3)]) 3 rfl (by omega) (by omega) dM_findEnd_148 rfl ?_
                            refine J_aload_n C 0 dM_findEnd_149 rfl rfl ?_
                            refine J_get C 0 13 hinM rfl rfl (by decide) fkM_39 rfl dM_findEnd_150 ?_
                            refine J_iload_n C 2 dM_findEnd_153 rfl rfl ?_
                            refine J_iload_n C 3 dM_findEnd_154 rfl rfl ?_
                            refine J_iastM C (ws' := [((h), .inr (5, [.int (nI (0)), .int (nI (n)), .ref (m1), .int (nI (st)), .ref (m2), .ref (m3), .ref (m4), .int (nI (mn)), .ref (m5), .ref (m6), .ref (m7), .ref (m8), .ref (m9), .ref (ma), .ref (mb)])), kI E (m2) (12) (nd), kB E (m8) (4096) (upN c3 ((q2 k) ^^^ (2 ^ s)) 1), kI E (m9) (4096) (upN q3 fd3 ((q2 k) ^^^ (2 ^ s))), kM E (ma) (4096) (upN s3 fd3 (k + 1)), kI E (mb) (4096) (b3)]) 4 rfl (by omega) (by omega) ((mI_s k).symm) dM_findEnd_155 rfl ?_
                            refine J_aload_n C 0 dM_findEnd_156 rfl rfl ?_
                            refine J_get C 0 14 hinM rfl rfl (by decide) fkM_42 rfl dM_findEnd_157 ?_
                            refine J_iload_n C 2 dM_findEnd_160 rfl rfl ?_
                            refine J_iload C 5 dM_findEnd_161 rfl ?_
                            refine J_iastN C (ws' := [((h), .inr (5, [.int (nI (0)), .int (nI (n)), .ref (m1), .int (nI (st)), .ref (m2), .ref (m3), .ref (m4), .int (nI (mn)), .ref (m5), .ref (m6), .ref (m7), .ref (m8), .ref (m9), .ref (ma), .ref (mb)])), kI E (m2) (12) (nd), kB E (m8) (4096) (upN c3 ((q2 k) ^^^ (2 ^ s)) 1), kI E (m9) (4096) (upN q3 fd3 ((q2 k) ^^^ (2 ^ s))), kM E (ma) (4096) (upN s3 fd3 (k + 1)), kI E (mb) (4096) (upN b3 fd3 s)]) 5 rfl (by omega) (by omega) dM_findEnd_163 rfl ?_
                            refine J_iinc C (lv' := [(0, .ref (h)), (1, .int (nI (b))), (2, .int (nI (fd3 + 1))), (3, .int (nI (k))), (4, .int (nI (q2 k))), (5, .int (nI (s))), (6, .int (nI ((q2 k) ^^^ (2 ^ s))))]) 2 [1, 2, 0, 3, 4, 5, 6] dM_findEnd_164 rfl (jn_inc _) (by decide) rfl ?_
                            refine J_iinc C (lv' := [(0, .ref (h)), (1, .int (nI (b))), (2, .int (nI (fd3 + 1))), (3, .int (nI (k))), (4, .int (nI (q2 k))), (5, .int (nI (s + 1))), (6, .int (nI ((q2 k) ^^^ (2 ^ s))))]) 5 [1, 2, 3, 4, 5, 0, 6] dM_findEnd_167 rfl (jn_inc _) (by decide) rfl ?_
                            refine J_goto C 78 dM_findEnd_170 (by decide) ?_
                            refine J_lv C (lv' := [(0, .ref (h)), (1, .int (nI (b))), (2, .int (nI (fd3 + 1))), (3, .int (nI (k))), (4, .int (nI (q2 k))), (5, .int (nI (s + 1)))]) [0, 1, 2, 3, 4, 5] rfl ?_
                            exact ih_78 (fd3 + 1) (s + 1) (upN c3 (q2 k ^^^ 2 ^ s) 1) (upN q3 fd3 (q2 k ^^^ 2 ^ s)) (upN s3 fd3 (k + 1)) (upN b3 fd3 s) π4 (by omega) (by omega) (by rw [upN_n (by omega)]; exact hqk) (by rw [hqk] at h4; exact h4) (by omega)
                          · have hno : mok st nd b (q3 k) s → c3 (q3 k ^^^ 2 ^ s) ≠ 0 := by
                              intro q
                              rw [hqk]; omega
                            refine J_goto C 167 dM_findEnd_130 (by decide) ?_
                            refine J_iinc C (lv' := [(0, .ref (h)), (1, .int (nI (b))), (2, .int (nI (fd3))), (3, .int (nI (k))), (4, .int (nI (q2 k))), (5, .int (nI (s + 1))), (6, .int (nI ((q2 k) ^^^ (2 ^ s))))]) 5 [1, 2, 3, 4, 5, 0, 6] dM_findEnd_167 rfl (jn_inc _) (by decide) rfl ?_
                            refine J_goto C 78 dM_findEnd_170 (by decide) ?_
                            refine J_lv C (lv' := [(0, .ref (h)), (1, .int (nI (b))), (2, .int (nI (fd3))), (3, .int (nI (k))), (4, .int (nI (q2 k))), (5, .int (nI (s + 1)))]) [0, 1, 2, 3, 4, 5] rfl ?_
                            exact ih_78 fd3 (s + 1) c3 q3 s3 b3 π3 (hk3) (by omega) (hqk) (fS_skip hg.2.1 h3 hk3 (by omega) hno) (by omega)
                exact lp_78 (st + 1) fd 0 c2 q2 s2 b2 π2 (by omega) (by omega) (rfl) (h2) (by omega)
              · refine J_iload_n C 3 dM_findEnd_73 rfl rfl ?_
                exfalso
                exact hno0 _ (fI_found h2.1 (by omega) (by omega)).1
        exact lp_47 (4098) 1 0 (upN f 0 1) (upN qq 0 0) (upN sr 0 0) bw (fun _ => []) (by omega) (fS_0 hm12 (fun j => by rcases Nat.lt_or_ge j 4096 with q | q; (left; rw [hf j, if_pos (by omega)]); (right; exact ⟨q, by rw [hf j, if_neg (by omega)]; exact hco j⟩))) (by omega)
      · refine J_aload_n C 0 dM_findEnd_9 rfl rfl ?_
        refine J_get C 0 11 hinM rfl rfl (by decide) fkM_33 rfl dM_findEnd_10 ?_
        refine J_iload_n C 2 dM_findEnd_13 rfl rfl ?_
        refine J_iconst C (v := nI (0)) dM_findEnd_14 (by decide) ?_
        refine J_zastN C (ws' := [((h), .inr (5, [.int (nI (0)), .int (nI (n)), .ref (m1), .int (nI (st)), .ref (m2), .ref (m3), .ref (m4), .int (nI (mn)), .ref (m5), .ref (m6), .ref (m7), .ref (m8), .ref (m9), .ref (ma), .ref (mb)])), kI E (m2) (12) (nd), kB E (m8) (4096) (upN f i 0), kI E (m9) (4096) (qq), kM E (ma) (4096) (sr), kI E (mb) (4096) (bw)]) 2 rfl (by omega) (by omega) dM_findEnd_15 (by decide) rfl ?_
        refine J_iinc C (lv' := [(0, .ref (h)), (1, .int (nI (b))), (2, .int (nI (i + 1)))]) 2 [1, 2, 0] dM_findEnd_16 rfl (jn_inc _) (by decide) rfl ?_
        refine J_goto C 2 dM_findEnd_19 (by decide) ?_
        exact ih_2 (i + 1) (upN f i 0) (by omega) (cp_s (t := fun _ => 0) hf) (by omega)
  exact lp_2 (4097) 0 co (by omega) (by intro j; simp) (by omega)
set_option maxHeartbeats 4000000 in
set_option maxRecDepth 100000 in
theorem c_M_findEnd_p (E : jE) (l : Launch) (h : Nat) (n : Nat) (st : Nat) (mn : Nat) (m1 : Nat) (m2 : Nat) (m3 : Nat) (m4 : Nat) (m5 : Nat) (m6 : Nat) (m7 : Nat) (m8 : Nat) (m9 : Nat) (ma : Nat) (mb : Nat) (nd : Nat → Nat) (co : Nat → Nat) (qq : Nat → Nat) (sr : Nat → Nat) (bw : Nat → Nat) (b : Nat) (hg : mG st nd) (hb : b < 2 ^ 31) (hco : ∀ j, co j ≤ 1) (hex : ∃ qs, mP st nd b 0 qs (2 ^ (st - 1))) : Con E l yM_findEnd bM_findEnd 7 (some .int) { frames := 1, cells := 0, slots := 0, locals := 22 } [.ref (h), .int (nI (b))] [((h), .inr (5, [.int (nI (0)), .int (nI (n)), .ref (m1), .int (nI (st)), .ref (m2), .ref (m3), .ref (m4), .int (nI (mn)), .ref (m5), .ref (m6), .ref (m7), .ref (m8), .ref (m9), .ref (ma), .ref (mb)])), kI E (m2) (12) (nd), kB E (m8) (4096) (co), kI E (m9) (4096) (qq), kM E (ma) (4096) (sr), kI E (mb) (4096) (bw)] (fun r w => ∃ (c1 q1 s1 b1 : Nat → Nat) (k fd : Nat) (π : Nat → List Nat), r = some (.int (nI k)) ∧ (fS st nd b k 0 fd c1 q1 s1 b1 π ∧ k < fd ∧ q1 k = 2 ^ (st - 1)) ∧ w = [((h), .inr (5, [.int (nI (0)), .int (nI (n)), .ref (m1), .int (nI (st)), .ref (m2), .ref (m3), .ref (m4), .int (nI (mn)), .ref (m5), .ref (m6), .ref (m7), .ref (m8), .ref (m9), .ref (ma), .ref (mb)])), kI E (m2) (12) (nd), kB E (m8) (4096) (c1), kI E (m9) (4096) (q1), kM E (ma) (4096) (s1), kI E (mb) (4096) (b1)]) := by
  refine Con.ofI (by decide) (Nat.le_of_ble_eq_true rfl) ?_
  intro J C hret
  show J 0 [(0, .ref (h)), (1, .int (nI (b)))] [] [((h), .inr (5, [.int (nI (0)), .int (nI (n)), .ref (m1), .int (nI (st)), .ref (m2), .ref (m3), .ref (m4), .int (nI (mn)), .ref (m5), .ref (m6), .ref (m7), .ref (m8), .ref (m9), .ref (ma), .ref (mb)])), kI E (m2) (12) (nd), kB E (m8) (4096) (co), kI E (m9) (4096) (qq), kM E (ma) (4096) (sr), kI E (mb) (4096) (bw)] 0 0
  have hm1 := hg.1
  have hm12 := hg.2.1
  have hp12 := p4096 hm12
  have hpm := Nat.two_pow_pos st
  have hpg : 2 ^ (st - 1) < 2 ^ st := Nat.pow_lt_pow_right (by omega) (by omega)
  refine J_iconst C (v := nI (0)) dM_findEnd_0 (by decide) ?_
  refine J_istore_n C (lv' := [(0, .ref (h)), (1, .int (nI (b))), (2, .int (nI (0)))]) [1, 2, 0] dM_findEnd_1 rfl (by decide) rfl ?_
  have lp_2 : ∀ (k_2 : Nat) (i : Nat) (f : Nat → Nat), (i ≤ 4096) → (∀ j, f j = if j < i then 0 else co j) → (4096 - i) < k_2 → J 2 [(0, .ref (h)), (1, .int (nI (b))), (2, .int (nI (i)))] [] [((h), .inr (5, [.int (nI (0)), .int (nI (n)), .ref (m1), .int (nI (st)), .ref (m2), .ref (m3), .ref (m4), .int (nI (mn)), .ref (m5), .ref (m6), .ref (m7), .ref (m8), .ref (m9), .ref (ma), .ref (mb)])), kI E (m2) (12) (nd), kB E (m8) (4096) (f), kI E (m9) (4096) (qq), kM E (ma) (4096) (sr), kI E (mb) (4096) (bw)] (0) (0) := by
    intro k_2
    induction k_2 with
    | zero => intro i f hi hf hk_2; exact absurd hk_2 (Nat.not_lt_zero _)
    | succ k_2 ih_2 =>
      intro i f hi hf hk_2
      refine J_iload_n C 2 dM_findEnd_2 rfl rfl ?_
      refine J_sipush C (v := nI (4096)) dM_findEnd_3 (by decide) ?_
      refine J_icmp_ge C 22 (nI_toInt (n := i) (by omega)) (nI_toInt (n := 4096) (by decide)) dM_findEnd_6 (by decide) (fun h6 => ?_) (fun h6 => ?_)
      · obtain rfl : 4096 = i := by omega
        refine J_aload_n C 0 dM_findEnd_22 rfl rfl ?_
        refine J_get C 0 11 hinM rfl rfl (by decide) fkM_33 rfl dM_findEnd_23 ?_
        refine J_iconst C (v := nI (0)) dM_findEnd_26 (by decide) ?_
        refine J_iconst C (v := nI (1)) dM_findEnd_27 (by decide) ?_
        refine J_zastN C (ws' := [((h), .inr (5, [.int (nI (0)), .int (nI (n)), .ref (m1), .int (nI (st)), .ref (m2), .ref (m3), .ref (m4), .int (nI (mn)), .ref (m5), .ref (m6), .ref (m7), .ref (m8), .ref (m9), .ref (ma), .ref (mb)])), kI E (m2) (12) (nd), kB E (m8) (4096) (upN f 0 1), kI E (m9) (4096) (qq), kM E (ma) (4096) (sr), kI E (mb) (4096) (bw)]) 2 rfl (by omega) (by omega) dM_findEnd_28 (by decide) rfl ?_
        refine J_aload_n C 0 dM_findEnd_29 rfl rfl ?_
        refine J_get C 0 12 hinM rfl rfl (by decide) fkM_36 rfl dM_findEnd_30 ?_
        refine J_iconst C (v := nI (0)) dM_findEnd_33 (by decide) ?_
        refine J_iconst C (v := nI (0)) dM_findEnd_34 (by decide) ?_
        refine J_iastN C (ws' := [((h), .inr (5, [.int (nI (0)), .int (nI (n)), .ref (m1), .int (nI (st)), .ref (m2), .ref (m3), .ref (m4), .int (nI (mn)), .ref (m5), .ref (m6), .ref (m7), .ref (m8), .ref (m9), .ref (ma), .ref (mb)])), kI E (m2) (12) (nd), kB E (m8) (4096) (upN f 0 1), kI E (m9) (4096) (upN qq 0 0), kM E (ma) (4096) (sr), kI E (mb) (4096) (bw)]) 3 rfl (by omega) (by omega) dM_findEnd_35 rfl ?_
        refine J_aload_n C 0 dM_findEnd_36 rfl rfl ?_
        refine J_get C 0 13 hinM rfl rfl (by decide) fkM_39 rfl dM_findEnd_37 ?_
        refine J_iconst C (v := nI (0)) dM_findEnd_40 (by decide) ?_
        refine J_iconst C (v := -1) dM_findEnd_41 (by decide) ?_
        refine J_iastM C (ws' := [((h), .inr (5, [.int (nI (0)), .int (nI (n)), .ref (m1), .int (nI (st)), .ref (m2), .ref (m3), .ref (m4), .int (nI (mn)), .ref (m5), .ref (m6), .ref (m7), .ref (m8), .ref (m9), .ref (ma), .ref (mb)])), kI E (m2) (12) (nd), kB E (m8) (4096) (upN f 0 1), kI E (m9) (4096) (upN qq 0 0), kM E (ma) (4096) (upN sr 0 0), kI E (mb) (4096) (bw)]) 4 rfl (by omega) (by omega) (mI_0.symm) dM_findEnd_42 rfl ?_
        refine J_iconst C (v := nI (1)) dM_findEnd_43 (by decide) ?_
        refine J_istore_n C (lv' := [(0, .ref (h)), (1, .int (nI (b))), (2, .int (nI (1)))]) [1, 2, 0] dM_findEnd_44 rfl (by decide) rfl ?_
        refine J_iconst C (v := nI (0)) dM_findEnd_45 (by decide) ?_
        refine J_istore_n C (lv' := [(0, .ref (h)), (1, .int (nI (b))), (2, .int (nI (1))), (3, .int (nI (0)))]) [1, 2, 3, 0] dM_findEnd_46 rfl (by decide) rfl ?_
        have lp_47 : ∀ (k_47 : Nat) (fd k : Nat) (c2 q2 s2 b2 : Nat → Nat) (π2 : Nat → List Nat), (k ≤ fd) → (fS st nd b k 0 fd c2 q2 s2 b2 π2) → (4097 - k) < k_47 → J 47 [(0, .ref (h)), (1, .int (nI (b))), (2, .int (nI (fd))), (3, .int (nI (k)))] [] [((h), .inr (5, [.int (nI (0)), .int (nI (n)), .ref (m1), .int (nI (st)), .ref (m2), .ref (m3), .ref (m4), .int (nI (mn)), .ref (m5), .ref (m6), .ref (m7), .ref (m8), .ref (m9), .ref (ma), .ref (mb)])), kI E (m2) (12) (nd), kB E (m8) (4096) (c2), kI E (m9) (4096) (q2), kM E (ma) (4096) (s2), kI E (mb) (4096) (b2)] (0) (0) := by
          intro k_47
          induction k_47 with
          | zero => intro fd k c2 q2 s2 b2 π2 hkf h2 hk_47; exact absurd hk_47 (Nat.not_lt_zero _)
          | succ k_47 ih_47 =>
            intro fd k c2 q2 s2 b2 π2 hkf h2 hk_47
            have hfd := fS_found hm12 h2
            refine J_iload_n C 3 dM_findEnd_47 rfl rfl ?_
            refine J_iload_n C 2 dM_findEnd_48 rfl rfl ?_
            refine J_icmp_ge C 179 (nI_toInt (n := k) (by omega)) (nI_toInt (n := fd) (by omega)) dM_findEnd_49 (by decide) (fun h49 => ?_) (fun h49 => ?_)
            · refine J_iconst C (v := -1) dM_findEnd_179 (by decide) ?_
              exfalso
              obtain ⟨qs, hqs⟩ := hex
              exact fI_none h2.1 (by omega) qs hqs
            · refine J_aload_n C 0 dM_findEnd_52 rfl rfl ?_
              refine J_get C 0 12 hinM rfl rfl (by decide) fkM_36 rfl dM_findEnd_53 ?_
              refine J_iload_n C 3 dM_findEnd_56 rfl rfl ?_
              refine J_iald C 3 rfl (by omega) (by omega) dM_findEnd_57 ?_
              refine J_istore C (lv' := [(0, .ref (h)), (1, .int (nI (b))), (2, .int (nI (fd))), (3, .int (nI (k))), (4, .int (nI (q2 k)))]) [1, 2, 3, 4, 0] dM_findEnd_58 (by decide) rfl ?_
              refine J_iload C 4 dM_findEnd_60 rfl ?_
              refine J_iconst C (v := nI (1)) dM_findEnd_62 (by decide) ?_
              refine J_aload_n C 0 dM_findEnd_63 rfl rfl ?_
              refine J_get C 0 3 hinM rfl rfl (by decide) fkM_49 rfl dM_findEnd_64 ?_
              refine J_iconst C (v := nI (1)) dM_findEnd_67 (by decide) ?_
              refine J_isubN C dM_findEnd_68 (by omega) ?_
              refine J_ishl1 C dM_findEnd_69 (by omega) ?_
              refine J_icmp_ne C 75 (nI_toInt (n := q2 k) (by have := fI_lt h2.1 k (by omega); omega)) (nI_toInt (n := 2 ^ (st - 1)) (by omega)) dM_findEnd_70 (by decide) (fun h70 => ?_) (fun h70 => ?_)
              · have hne : q2 k ≠ 2 ^ (st - 1) := by omega
                refine J_iconst C (v := nI (0)) dM_findEnd_75 (by decide) ?_
                refine J_istore C (lv' := [(0, .ref (h)), (1, .int (nI (b))), (2, .int (nI (fd))), (3, .int (nI (k))), (4, .int (nI (q2 k))), (5, .int (nI (0)))]) [1, 2, 3, 4, 5, 0] dM_findEnd_76 (by decide) rfl ?_
                have lp_78 : ∀ (k_78 : Nat) (fd3 s : Nat) (c3 q3 s3 b3 : Nat → Nat) (π3 : Nat → List Nat), (k < fd3) → (s ≤ st) → (q3 k = q2 k) → (fS st nd b k s fd3 c3 q3 s3 b3 π3) → (st - s) < k_78 → J 78 [(0, .ref (h)), (1, .int (nI (b))), (2, .int (nI (fd3))), (3, .int (nI (k))), (4, .int (nI (q2 k))), (5, .int (nI (s)))] [] [((h), .inr (5, [.int (nI (0)), .int (nI (n)), .ref (m1), .int (nI (st)), .ref (m2), .ref (m3), .ref (m4), .int (nI (mn)), .ref (m5), .ref (m6), .ref (m7), .ref (m8), .ref (m9), .ref (ma), .ref (mb)])), kI E (m2) (12) (nd), kB E (m8) (4096) (c3), kI E (m9) (4096) (q3), kM E (ma) (4096) (s3), kI E (mb) (4096) (b3)] (0) (0) := by
                  intro k_78
                  induction k_78 with
                  | zero => intro fd3 s c3 q3 s3 b3 π3 hk3 hs hqk h3 hk_78; exact absurd hk_78 (Nat.not_lt_zero _)
                  | succ k_78 ih_78 =>
                    intro fd3 s c3 q3 s3 b3 π3 hk3 hs hqk h3 hk_78
                    have hfd3 := fS_found hm12 h3
                    have hqlt := fI_lt h3.1 k hk3
                    rw [hqk] at hqlt
                    refine J_iload C 5 dM_findEnd_78 rfl ?_
                    refine J_aload_n C 0 dM_findEnd_80 rfl rfl ?_
                    refine J_get C 0 3 hinM rfl rfl (by decide) fkM_49 rfl dM_findEnd_81 ?_
                    refine J_icmp_ge C 173 (nI_toInt (n := s) (by omega)) (nI_toInt (n := st) (by omega)) dM_findEnd_84 (by decide) (fun h84 => ?_) (fun h84 => ?_)
                    · obtain rfl : st = s := by omega
                      refine J_iinc C (lv' := [(0, .ref (h)), (1, .int (nI (b))), (2, .int (nI (fd3))), (3, .int (nI (k + 1))), (4, .int (nI (q2 k))), (5, .int (nI (st)))]) 3 [1, 2, 3, 0, 4, 5] dM_findEnd_173 rfl (jn_inc _) (by decide) rfl ?_
                      refine J_goto C 47 dM_findEnd_176 (by decide) ?_
                      refine J_lv C (lv' := [(0, .ref (h)), (1, .int (nI (b))), (2, .int (nI (fd3))), (3, .int (nI (k + 1)))]) [0, 1, 2, 3] rfl ?_
                      exact ih_47 fd3 (k + 1) c3 q3 s3 b3 π3 (by omega) (fS_next h3 (by rw [hqk]; exact hne)) (by omega)
                    · have hnl := flip_lt hqlt (show s < st by omega)
                      have hnds := hg.2.2 s (by omega)
                      have hnd12 : nd s < 2 ^ st := Nat.lt_trans hnds (Nat.pow_lt_pow_right (by omega) (by omega))
                      have hxx := Nat.xor_lt_two_pow hnd12 (Nat.and_lt_two_pow (nd s) hqlt)
                      refine J_iload C 4 dM_findEnd_87 rfl ?_
                      refine J_iconst C (v := nI (1)) dM_findEnd_89 (by decide) ?_
                      refine J_iload C 5 dM_findEnd_90 rfl ?_
                      refine J_ishl1 C dM_findEnd_92 (by omega) ?_
                      refine J_ixorN C dM_findEnd_93 ?_
                      refine J_istore C (lv' := [(0, .ref (h)), (1, .int (nI (b))), (2, .int (nI (fd3))), (3, .int (nI (k))), (4, .int (nI (q2 k))), (5, .int (nI (s))), (6, .int (nI ((q2 k) ^^^ (2 ^ s))))]) [1, 2, 3, 4, 5, 6, 0] dM_findEnd_94 (by decide) rfl ?_
                      refine J_aload_n C 0 dM_findEnd_96 rfl rfl ?_
                      refine J_get C 0 4 hinM rfl rfl (by decide) fkM_13 rfl dM_findEnd_97 ?_
                      refine J_iload C 5 dM_findEnd_100 rfl ?_
                      refine J_iald C 1 rfl (by omega) (by omega) dM_findEnd_102 ?_
                      refine J_iload C 4 dM_findEnd_103 rfl ?_
                      refine J_iconst C (v := -1) dM_findEnd_105 (by decide) ?_
                      refine J_ixor C dM_findEnd_106 ?_
                      refine J_iand C dM_findEnd_107 ?_
                      refine J_topX C (x' := nI (nd s ^^^ (nd s &&& q2 k))) (jn_notandN _ _) ?_
                      refine J_if_ne C 167 (nI_toInt (n := nd s ^^^ (nd s &&& q2 k)) (by omega)) dM_findEnd_108 (by decide) (fun h108 => ?_) (fun h108 => ?_)
                      · have hno : mok st nd b (q3 k) s → c3 (q3 k ^^^ 2 ^ s) ≠ 0 := by
                          intro q
                          have e1 := (notand_0 (a := nd s) (b := q2 k)).mpr (by rw [← hqk]; exact q.2.1); exfalso; omega
                        refine J_iinc C (lv' := [(0, .ref (h)), (1, .int (nI (b))), (2, .int (nI (fd3))), (3, .int (nI (k))), (4, .int (nI (q2 k))), (5, .int (nI (s + 1))), (6, .int (nI ((q2 k) ^^^ (2 ^ s))))]) 5 [1, 2, 3, 4, 5, 0, 6] dM_findEnd_167 rfl (jn_inc _) (by decide) rfl ?_
                        refine J_goto C 78 dM_findEnd_170 (by decide) ?_
                        refine J_lv C (lv' := [(0, .ref (h)), (1, .int (nI (b))), (2, .int (nI (fd3))), (3, .int (nI (k))), (4, .int (nI (q2 k))), (5, .int (nI (s + 1)))]) [0, 1, 2, 3, 4, 5] rfl ?_
                        exact ih_78 fd3 (s + 1) c3 q3 s3 b3 π3 (hk3) (by omega) (hqk) (fS_skip hg.2.1 h3 hk3 (by omega) hno) (by omega)
                      · have hsub : nd s &&& q2 k = nd s := notand_0.mp (by omega)
                        refine J_iload C 6 dM_findEnd_111 rfl ?_
                        refine J_callS C (rest := []) [] [] [((h), .inr (5, [.int (nI (0)), .int (nI (n)), .ref (m1), .int (nI (st)), .ref (m2), .ref (m3), .ref (m4), .int (nI (mn)), .ref (m5), .ref (m6), .ref (m7), .ref (m8), .ref (m9), .ref (ma), .ref (mb)])), kI E (m2) (12) (nd), kB E (m8) (4096) (c3), kI E (m9) (4096) (q3), kM E (ma) (4096) (s3), kI E (mb) (4096) (b3)] (c_M_count E l ((q2 k) ^^^ (2 ^ s)) (by omega)) mmM_count lkM_104 (rfl) rfl rfl ⟨by decide, by decide⟩ ⟨by decide, by decide⟩ (Nat.le_of_ble_eq_true rfl) dM_findEnd_113 (fun r_c w_c hp => ?_)
                        obtain ⟨rfl, rfl⟩ := hp
                        refine J_norm C (st' := [.int (nI (bc ((q2 k) ^^^ (2 ^ s))))]) (ws' := [((h), .inr (5, [.int (nI (0)), .int (nI (n)), .ref (m1), .int (nI (st)), .ref (m2), .ref (m3), .ref (m4), .int (nI (mn)), .ref (m5), .ref (m6), .ref (m7), .ref (m8), .ref (m9), .ref (ma), .ref (mb)])), kI E (m2) (12) (nd), kB E (m8) (4096) (c3), kI E (m9) (4096) (q3), kM E (ma) (4096) (s3), kI E (mb) (4096) (b3)]) (cs' := 0) (ss' := 0) rfl (rfl) rfl rfl ?_
                        refine J_iload_n C 1 dM_findEnd_116 rfl rfl ?_
                        refine J_icmp_gt C 167 (nI_toInt (n := bc ((q2 k) ^^^ (2 ^ s))) (by have := bc_12 (q2 k ^^^ 2 ^ s); omega)) (nI_toInt (n := b) (hb)) dM_findEnd_117 (by decide) (fun h117 => ?_) (fun h117 => ?_)
                        · have hno : mok st nd b (q3 k) s → c3 (q3 k ^^^ 2 ^ s) ≠ 0 := by
                            intro q
                            have := q.2.2; rw [hqk] at this; omega
                          refine J_iinc C (lv' := [(0, .ref (h)), (1, .int (nI (b))), (2, .int (nI (fd3))), (3, .int (nI (k))), (4, .int (nI (q2 k))), (5, .int (nI (s + 1))), (6, .int (nI ((q2 k) ^^^ (2 ^ s))))]) 5 [1, 2, 3, 4, 5, 0, 6] dM_findEnd_167 rfl (jn_inc _) (by decide) rfl ?_
                          refine J_goto C 78 dM_findEnd_170 (by decide) ?_
                          refine J_lv C (lv' := [(0, .ref (h)), (1, .int (nI (b))), (2, .int (nI (fd3))), (3, .int (nI (k))), (4, .int (nI (q2 k))), (5, .int (nI (s + 1)))]) [0, 1, 2, 3, 4, 5] rfl ?_
                          exact ih_78 fd3 (s + 1) c3 q3 s3 b3 π3 (hk3) (by omega) (hqk) (fS_skip hg.2.1 h3 hk3 (by omega) hno) (by omega)
                        · have hok : mok st nd b (q3 k) s := ⟨by omega, by rw [hqk]; exact hsub, by rw [hqk]; omega⟩
                          refine J_aload_n C 0 dM_findEnd_120 rfl rfl ?_
                          refine J_get C 0 11 hinM rfl rfl (by decide) fkM_33 rfl dM_findEnd_121 ?_
                          refine J_iload C 6 dM_findEnd_124 rfl ?_
                          refine J_zald C 2 rfl (by omega) (by omega) dM_findEnd_126 ?_
                          refine J_if_eq C 133 (nI_toInt (n := c3 ((q2 k) ^^^ (2 ^ s))) (by have := h3.2.2.2.2 (q2 k ^^^ 2 ^ s); omega)) dM_findEnd_127 (by decide) (fun h127 => ?_) (fun h127 => ?_)
                          · have hz : c3 (q3 k ^^^ 2 ^ s) = 0 := by rw [hqk]; omega
                            obtain ⟨π4, h4⟩ := fS_new hg.2.1 h3 hk3 (by omega) hok hz
                            have hfd4 := fS_found hm12 h4
                            refine J_aload_n C 0 dM_findEnd_133 rfl rfl ?_
                            refine J_get C 0 11 hinM rfl rfl (by decide) fkM_33 rfl dM_findEnd_134 ?_
                            refine J_iload C 6 dM_findEnd_137 rfl ?_
                            refine J_iconst C (v := nI (1)) dM_findEnd_139 (by decide) ?_
                            refine J_zastN C (ws' := [((h), .inr (5, [.int (nI (0)), .int (nI (n)), .ref (m1), .int (nI (st)), .ref (m2), .ref (m3), .ref (m4), .int (nI (mn)), .ref (m5), .ref (m6), .ref (m7), .ref (m8), .ref (m9), .ref (ma), .ref (mb)])), kI E (m2) (12) (nd), kB E (m8) (4096) (upN c3 ((q2 k) ^^^ (2 ^ s)) 1), kI E (m9) (4096) (q3), kM E (ma) (4096) (s3), kI E (mb) (4096) (b3)]) 2 rfl (by omega) (by omega) dM_findEnd_140 (by decide) rfl ?_
                            refine J_aload_n C 0 dM_findEnd_141 rfl rfl ?_
                            refine J_get C 0 12 hinM rfl rfl (by decide) fkM_36 rfl dM_findEnd_142 ?_
                            refine J_iload_n C 2 dM_findEnd_145 rfl rfl ?_
                            refine J_iload C 6 dM_findEnd_146 rfl ?_
                            refine J_iastN C (ws' := [((h), .inr (5, [.int (nI (0)), .int (nI (n)), .ref (m1), .int (nI (st)), .ref (m2), .ref (m3), .ref (m4), .int (nI (mn)), .ref (m5), .ref (m6), .ref (m7), .ref (m8), .ref (m9), .ref (ma), .ref (mb)])), kI E (m2) (12) (nd), kB E (m8) (4096) (upN c3 ((q2 k) ^^^ (2 ^ s)) 1), kI E (m9) (4096) (upN q3 fd3 ((q2 k) ^^^ (2 ^ s))), kM E (ma) (4096) (s3), kI E (mb) (4096) (b3)]) 3 rfl (by omega) (by omega) dM_findEnd_148 rfl ?_
                            refine J_aload_n C 0 dM_findEnd_149 rfl rfl ?_
                            refine J_get C 0 13 hinM rfl rfl (by decide) fkM_39 rfl dM_findEnd_150 ?_
                            refine J_iload_n C 2 dM_findEnd_153 rfl rfl ?_
                            refine J_iload_n C 3 dM_findEnd_154 rfl rfl ?_
                            refine J_iastM C (ws' := [((h), .inr (5, [.int (nI (0)), .int (nI (n)), .ref (m1), .int (nI (st)), .ref (m2), .ref (m3), .ref (m4), .int (nI (mn)), .ref (m5), .ref (m6), .ref (m7), .ref (m8), .ref (m9), .ref (ma), .ref (mb)])), kI E (m2) (12) (nd), kB E (m8) (4096) (upN c3 ((q2 k) ^^^ (2 ^ s)) 1), kI E (m9) (4096) (upN q3 fd3 ((q2 k) ^^^ (2 ^ s))), kM E (ma) (4096) (upN s3 fd3 (k + 1)), kI E (mb) (4096) (b3)]) 4 rfl (by omega) (by omega) ((mI_s k).symm) dM_findEnd_155 rfl ?_
                            refine J_aload_n C 0 dM_findEnd_156 rfl rfl ?_
                            refine J_get C 0 14 hinM rfl rfl (by decide) fkM_42 rfl dM_findEnd_157 ?_
                            refine J_iload_n C 2 dM_findEnd_160 rfl rfl ?_
                            refine J_iload C 5 dM_findEnd_161 rfl ?_
                            refine J_iastN C (ws' := [((h), .inr (5, [.int (nI (0)), .int (nI (n)), .ref (m1), .int (nI (st)), .ref (m2), .ref (m3), .ref (m4), .int (nI (mn)), .ref (m5), .ref (m6), .ref (m7), .ref (m8), .ref (m9), .ref (ma), .ref (mb)])), kI E (m2) (12) (nd), kB E (m8) (4096) (upN c3 ((q2 k) ^^^ (2 ^ s)) 1), kI E (m9) (4096) (upN q3 fd3 ((q2 k) ^^^ (2 ^ s))), kM E (ma) (4096) (upN s3 fd3 (k + 1)), kI E (mb) (4096) (upN b3 fd3 s)]) 5 rfl (by omega) (by omega) dM_findEnd_163 rfl ?_
                            refine J_iinc C (lv' := [(0, .ref (h)), (1, .int (nI (b))), (2, .int (nI (fd3 + 1))), (3, .int (nI (k))), (4, .int (nI (q2 k))), (5, .int (nI (s))), (6, .int (nI ((q2 k) ^^^ (2 ^ s))))]) 2 [1, 2, 0, 3, 4, 5, 6] dM_findEnd_164 rfl (jn_inc _) (by decide) rfl ?_
                            refine J_iinc C (lv' := [(0, .ref (h)), (1, .int (nI (b))), (2, .int (nI (fd3 + 1))), (3, .int (nI (k))), (4, .int (nI (q2 k))), (5, .int (nI (s + 1))), (6, .int (nI ((q2 k) ^^^ (2 ^ s))))]) 5 [1, 2, 3, 4, 5, 0, 6] dM_findEnd_167 rfl (jn_inc _) (by decide) rfl ?_
                            refine J_goto C 78 dM_findEnd_170 (by decide) ?_
                            refine J_lv C (lv' := [(0, .ref (h)), (1, .int (nI (b))), (2, .int (nI (fd3 + 1))), (3, .int (nI (k))), (4, .int (nI (q2 k))), (5, .int (nI (s + 1)))]) [0, 1, 2, 3, 4, 5] rfl ?_
                            exact ih_78 (fd3 + 1) (s + 1) (upN c3 (q2 k ^^^ 2 ^ s) 1) (upN q3 fd3 (q2 k ^^^ 2 ^ s)) (upN s3 fd3 (k + 1)) (upN b3 fd3 s) π4 (by omega) (by omega) (by rw [upN_n (by omega)]; exact hqk) (by rw [hqk] at h4; exact h4) (by omega)
                          · have hno : mok st nd b (q3 k) s → c3 (q3 k ^^^ 2 ^ s) ≠ 0 := by
                              intro q
                              rw [hqk]; omega
                            refine J_goto C 167 dM_findEnd_130 (by decide) ?_
                            refine J_iinc C (lv' := [(0, .ref (h)), (1, .int (nI (b))), (2, .int (nI (fd3))), (3, .int (nI (k))), (4, .int (nI (q2 k))), (5, .int (nI (s + 1))), (6, .int (nI ((q2 k) ^^^ (2 ^ s))))]) 5 [1, 2, 3, 4, 5, 0, 6] dM_findEnd_167 rfl (jn_inc _) (by decide) rfl ?_
                            refine J_goto C 78 dM_findEnd_170 (by decide) ?_
                            refine J_lv C (lv' := [(0, .ref (h)), (1, .int (nI (b))), (2, .int (nI (fd3))), (3, .int (nI (k))), (4, .int (nI (q2 k))), (5, .int (nI (s + 1)))]) [0, 1, 2, 3, 4, 5] rfl ?_
                            exact ih_78 fd3 (s + 1) c3 q3 s3 b3 π3 (hk3) (by omega) (hqk) (fS_skip hg.2.1 h3 hk3 (by omega) hno) (by omega)
                exact lp_78 (st + 1) fd 0 c2 q2 s2 b2 π2 (by omega) (by omega) (rfl) (h2) (by omega)
              · refine J_iload_n C 3 dM_findEnd_73 rfl rfl ?_
                exact hret _ _ _ _ _ _ dM_findEnd_74 (by decide) (by decide) (⟨_, _, _, _, k, fd, π2, rfl, ⟨h2, by omega, by omega⟩, rfl⟩)
        exact lp_47 (4098) 1 0 (upN f 0 1) (upN qq 0 0) (upN sr 0 0) bw (fun _ => []) (by omega) (fS_0 hm12 (fun j => by rcases Nat.lt_or_ge j 4096 with q | q; (left; rw [hf j, if_pos (by omega)]); (right; exact ⟨q, by rw [hf j, if_neg (by omega)]; exact hco j⟩))) (by omega)
      · refine J_aload_n C 0 dM_findEnd_9 rfl rfl ?_
        refine J_get C 0 11 hinM rfl rfl (by decide) fkM_33 rfl dM_findEnd_10 ?_
        refine J_iload_n C 2 dM_findEnd_13 rfl rfl ?_
        refine J_iconst C (v := nI (0)) dM_findEnd_14 (by decide) ?_
        refine J_zastN C (ws' := [((h), .inr (5, [.int (nI (0)), .int (nI (n)), .ref (m1), .int (nI (st)), .ref (m2), .ref (m3), .ref (m4), .int (nI (mn)), .ref (m5), .ref (m6), .ref (m7), .ref (m8), .ref (m9), .ref (ma), .ref (mb)])), kI E (m2) (12) (nd), kB E (m8) (4096) (upN f i 0), kI E (m9) (4096) (qq), kM E (ma) (4096) (sr), kI E (mb) (4096) (bw)]) 2 rfl (by omega) (by omega) dM_findEnd_15 (by decide) rfl ?_
        refine J_iinc C (lv' := [(0, .ref (h)), (1, .int (nI (b))), (2, .int (nI (i + 1)))]) 2 [1, 2, 0] dM_findEnd_16 rfl (jn_inc _) (by decide) rfl ?_
        refine J_goto C 2 dM_findEnd_19 (by decide) ?_
        exact ih_2 (i + 1) (upN f i 0) (by omega) (cp_s (t := fun _ => 0) hf) (by omega)
  exact lp_2 (4097) 0 co (by omega) (by intro j; simp) (by omega)
