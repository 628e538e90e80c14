section LAW0
theorem jx_ix (x : Int32) (n : Nat) (hn : n < 2 ^ 31) : (x.toInt < 0 ∨ (n : Int) ≤ x.toInt) ∨ ∃ k, k < n ∧ x = nI k := by
  rcases pk_ix x hn with h | h | ⟨j, hj, e⟩
  · exact Or.inl (Or.inl (by have := Int32.lt_iff_toInt_lt.mp h; simpa using this))
  · refine Or.inl (Or.inr ?_)
    have := Int32.le_iff_toInt_le.mp h
    rw [nI_toInt hn] at this
    exact this
  · exact Or.inr ⟨j, hj, e⟩
theorem jx_nn (x : Int32) (h : ¬ x.toInt < 0) : ∃ k, k < 2 ^ 31 ∧ x = nI k := by
  refine nI_of (fun q => h ?_)
  have := Int32.lt_iff_toInt_lt.mp q
  simpa using this
theorem jx_rg (x : Int32) (lo hi : Nat) (hh : hi < 2 ^ 30) : (x.toInt < lo ∨ (hi : Int) < x.toInt) ∨ ∃ k, lo ≤ k ∧ k ≤ hi ∧ x = nI k := by
  rcases jx_ix x (hi + 1) (by omega) with h | ⟨k, hk, rfl⟩
  · exact Or.inl (by omega)
  · rcases Nat.lt_or_ge k lo with q | q
    · refine Or.inl (Or.inl ?_)
      rw [nI_toInt (by omega)]; omega
    · exact Or.inr ⟨k, q, by omega, rfl⟩
theorem jx_m1 (x : Int32) (h : x.toInt = -1) : x = -1 := Int32.toInt_inj.mp (by rw [h]; rfl)
theorem jn_inc3 (n : Nat) : nI n + Int32.ofInt 3 = nI (n + 3) := nI_add n 3
theorem J_icmp_same {E : jE} {l : Launch} {own : String} {cc : ByteArray} {nL : Nat} {R : Room} {J : jJ} {pc : Nat} {lv : jL} {st : List Value} {ws : va_W} {cs ss : Nat} (C : jC E l own cc nL R J) {x : Int32} {off : Int} (tgt : Nat) (hdg : decode cc pc = .ok (.if_icmp .eq off, 3)) (ht : (pc : Int) + off = (tgt : Int)) (kk : J tgt lv st ws cs ss) : J pc lv (.int x :: .int x :: st) ws cs ss := by
  obtain ⟨p, e, s, m, args, below, meth, c, Q, A, ⟨hx, hb, hml, hown, hts, hA, hK, hST, hlocks⟩, rfl⟩ := C
  intro H locs ls hP hD hS hl
  exact lv_icmp_eq hx hb hdg ht (fun _ => kk H locs ls hP hD hS hl) (fun q => absurd rfl q)
theorem upN_in {n k u : Nat} {to : Nat → Nat} (h : ∀ v, v < 2 ^ n → to v < 2 ^ n) (hu : u < 2 ^ n) : ∀ v, v < 2 ^ n → upN to k u v < 2 ^ n := by
  intro v hv
  unfold upN
  split
  · exact hu
  · exact h v hv
theorem mG_0 {k : Nat} (h1 : 1 ≤ k) (h12 : k ≤ 12) : mG k (fun _ => 0) := ⟨h1, h12, fun s _ => Nat.two_pow_pos s⟩
theorem mG_up {m s t : Nat} {nd : Nat → Nat} (g : mG m nd) (ht : t < 2 ^ s) : mG m (upN nd s t) := by
  refine ⟨g.1, g.2.1, fun z hz => ?_⟩
  unfold upN
  split
  · rename_i e; rw [e]; exact ht
  · exact g.2.2 z hz
theorem marks_has {m : Nat} {nd : Nat → Nat} (g : mG m nd) : ∃ (b0 : Nat) (ps : List Nat), 1 ≤ b0 ∧ b0 ≤ m ∧ mSP m nd b0 ps ∧ ∀ b', 1 ≤ b' → b' < b0 → ∀ qs, ¬ mP m nd b' 0 qs (2 ^ (m - 1)) := by
  obtain ⟨b0, ⟨h1, hex⟩, hmin⟩ := pk_least (fun b => 1 ≤ b ∧ ∃ qs, mP m nd b 0 qs (2 ^ (m - 1))) ⟨m, g.1, mP_full g⟩
  obtain ⟨ps, hps⟩ := mSP_has hex
  refine ⟨b0, ps, h1, ?_, hps, fun b' h2 h3 qs q => hmin b' h3 ⟨h2, qs, q⟩⟩
  exact Nat.not_lt.mp (fun q => hmin m q ⟨g.1, mP_full g⟩)
/-- what holds between two calls of the law -/
def lawH (E : jE) (n : Nat) (to : Nat → Nat) (st : Nat) (nd kb dc fo co : Nat → Nat) (u0 : Nat) (rw : Nat → Int64) (ln : Nat) (kn : Nat → Option Nat) (e3 : Nat) (pool : va_W) : Prop :=
  (1 ≤ n ∧ n ≤ 4) ∧ (∀ v, v < 2 ^ n → to v < 2 ^ n) ∧ mG st nd ∧ (∀ j, kb j ≤ 1) ∧ mC kb dc fo ∧ (∀ j, co j ≤ 1) ∧ u0 ≤ 3 ∧ fRow (u0 + 1) rw ∧ ln ≤ 4096 ∧ kOK E st nd kn e3 pool
/-- the script may be read -/
def jX (sb L : Nat) (xs : Nat → Int32) (J : jJ) : Prop := ∀ (pc : Nat) (lv : jL) (st : List Value) (ws : va_W) (cs ss i : Nat), i < L → decode code pc = .ok (.iaload, 1) → J (pc + 1) lv (.int (xs i) :: st) ws cs ss → J pc lv (.int (nI i) :: .ref sb :: st) ws cs ss
def jXl (sb L : Nat) (J : jJ) : Prop := ∀ (pc : Nat) (lv : jL) (st : List Value) (ws : va_W) (cs ss : Nat), decode code pc = .ok (.arraylength, 1) → J (pc + 1) lv (.int (nI L) :: st) ws cs ss → J pc lv (.ref sb :: st) ws cs ss
def jXr (J : jJ) : Prop := ∀ (pc : Nat) (lv : jL) (ws : va_W) (cs ss : Nat), decode code pc = .ok (.ireturn, 1) → cs ≤ 600000 → ss ≤ 7302250 → J pc lv [.int (nI 1)] ws cs ss
end LAW0
