section JK0
abbrev jE : Type := va_G × (Nat → Nat)
abbrev jL : Type := List (Nat × Value)
abbrev jJ : Type := Nat → jL → List Value → va_W → Nat → Nat → Prop
def jTys (E : jE) : List (ClassId × FieldType) := [(E.2 0, .int), (E.2 1, .long), (E.2 2, .boolean), (E.2 3, .object "ReversibleParts$Moves")]
def jTW : List Cond := lw_tbl.filter goodWord
/-- the table START, which nobody writes -/
def jsT (j : Nat) : Nat := match j with | 0 => 0 | 1 => 2 | 2 => 6 | _ => 22
def jST (E : jE) (A : Nat → Prop) (U : State) (H : Heap) : Prop := va_Z "ReversibleParts$Forms" "START" "[I" (.ref (E.2 4)) A U H ∧ va_T .int (E.2 4) 4 (fun j => .int (nI (jsT j))) A U H ∧ va_AO "ReversibleParts$Moves" U
theorem jST.moved {E : jE} {A : Nat → Prop} {u U : State} {H : Heap} (hvm : u.vm.Alike U.vm) (h : jST E A u H) : jST E A U H := ⟨h.1.moved hvm, h.2.1.moved hvm, h.2.2.moved hvm⟩
theorem jST.kept {E : jE} {A : Nat → Prop} {U : State} {H H1 : Heap} (h : jST E A U H) (hq : ∀ a : Nat, a < H.size → ¬ A a → H1[a]? = H[a]?) : jST E A U H1 := ⟨h.1.kept hq, h.2.1.kept hq, h.2.2⟩
theorem jST.narrow {E : jE} {A B : Nat → Prop} {U : State} {H : Heap} (h : jST E A U H) (hAB : ∀ q, B q → A q) : jST E B U H := ⟨h.1.narrow hAB, h.2.1.narrow hAB, h.2.2⟩
/-- the judgement: from every heap that holds the cells ws, the frame at pc comes to Q -/
def jV (p : Program) (l : Launch) (e : Env) (R : Room) (s : State) (m : MethodId) (args : Array Value) (below : List Frame) (meth : Method) (c : Code) (Q : State → Prop) (A : Nat → Prop) (E : jE) (nL : Nat) : jJ := fun pc lv st ws cells slots =>
  ∀ (H : Heap) (locs : List Loc) (ls : Array Slot), va_P E.1 vwCl ws H → va_D A ws → va_S A s.heap H locs → lv_has ls nL lv → W p l e R s m args below meth c H locs cells slots Q (F0 m pc ls st)
/-- J is such a judgement, of a method of the class own with the bytes cc and nL locals, in the room R -/
def jI (E : jE) (own : String) (cc : ByteArray) (nL : Nat) (p : Program) (s : State) (m : MethodId) (args : Array Value) (meth : Method) (c : Code) (A : Nat → Prop) : Prop :=
  p.tables.exec = Jvm.exec ∧ c.code = cc ∧ c.maxLocals = nL ∧ s.vm.findClass own = some m.cls ∧ (∀ w ∈ jTW, w.before args s = true) ∧ (∀ q, s.heap.size ≤ q → A q) ∧ va_K E.1 vwCl (jTys E) s ∧ jST E A s s.heap ∧ meth.locks = false
def jC (E : jE) (l : Launch) (own : String) (cc : ByteArray) (nL : Nat) (R : Room) (J : jJ) : Prop :=
  ∃ (p : Program) (e : Env) (s : State) (m : MethodId) (args : Array Value) (below : List Frame) (meth : Method) (c : Code) (Q : State → Prop) (A : Nat → Prop),
    jI E own cc nL p s m args meth c A ∧ J = jV p l e R s m args below meth c Q A E nL
theorem jgood : GoodIn jTW jTW := fun w h => ⟨h, good_of_word (List.mem_filter.mp h).2⟩
theorem jgood0 : GoodIn lw_tbl jTW := fun w h => ⟨(List.mem_filter.mp h).1, good_of_word (List.mem_filter.mp h).2⟩
theorem j_in {w : Cond} (h : w ∈ lw_tbl) (g : goodWord w = true) : w ∈ jTW := List.mem_filter.mpr ⟨h, g⟩
theorem j_at {w : Cond} (i : Nat) (h : lw_tbl[i]? = some w) (g : goodWord w = true) : w ∈ jTW := j_in (List.mem_of_getElem? h) g
-- cells
abbrev kI (E : jE) (a n : Nat) (t : Nat → Nat) : Nat × va_E := (a, .inl (E.2 0, n, .inl (fun j => nI (t j))))
abbrev kR (E : jE) (a n : Nat) (f : Nat → Int32) : Nat × va_E := (a, .inl (E.2 0, n, .inl f))
abbrev kL (E : jE) (a n : Nat) (f : Nat → Int64) : Nat × va_E := (a, .inl (E.2 1, n, .inr (.inl f)))
abbrev kZ (E : jE) (a n : Nat) (f : Nat → Int32) : Nat × va_E := (a, .inl (E.2 2, n, .inl f))
abbrev kQ (E : jE) (a n : Nat) (f : Nat → Option Nat) : Nat × va_E := (a, .inl (E.2 3, n, .inr (.inr (.inr (.inr f)))))
def upN (t : Nat → Nat) (k x : Nat) : Nat → Nat := fun j => if j = k then x else t j
theorem upN_nI (t : Nat → Nat) (k x : Nat) : upd (fun j => nI (t j)) k (nI x) = fun j => nI (upN t k x j) := by
  funext j
  unfold upd upN
  split <;> rfl
theorem upN_s {t : Nat → Nat} {k x : Nat} : upN t k x k = x := by simp [upN]
theorem upN_n {t : Nat → Nat} {k x j : Nat} (h : j ≠ k) : upN t k x j = t j := by simp [upN, h]
-- cells as a set
theorem jP_iff {D : va_G} {cl : List vw_C} {ws : va_W} {H : Heap} : va_P D cl ws H ↔ ∀ q ∈ ws, va_at D cl q H :=
  ⟨fun h q hq => by obtain ⟨k, hk⟩ := List.getElem?_of_mem hq; exact h k q hk, fun h k q hk => h q (List.mem_of_getElem? hk)⟩
theorem jD_iff {A : Nat → Prop} {ws : va_W} : va_D A ws ↔ List.Pairwise (fun x y : Nat × va_E => x.1 ≠ y.1) ws ∧ ∀ q ∈ ws, A q.1 := by
  constructor
  · intro h
    refine ⟨List.pairwise_iff_getElem.mpr fun i j hi hj hij he => ?_, fun q hq => ?_⟩
    · have := h.1 i j ws[i] ws[j] (List.getElem?_eq_getElem hi) (List.getElem?_eq_getElem hj) he
      omega
    · obtain ⟨k, hk⟩ := List.getElem?_of_mem hq
      exact h.2 k q hk
  · intro h
    refine ⟨fun i j x y hx hy he => ?_, fun k q hk => h.2 q (List.mem_of_getElem? hk)⟩
    obtain ⟨hi, rfl⟩ := List.getElem?_eq_some_iff.mp hx
    obtain ⟨hj, rfl⟩ := List.getElem?_eq_some_iff.mp hy
    have hp := List.pairwise_iff_getElem.mp h.1
    rcases Nat.lt_trichotomy i j with q | q | q
    · exact absurd he (hp i j hi hj q)
    · exact q
    · exact absurd he.symm (hp j i hj hi q)
theorem jD_app {A : Nat → Prop} {a b : va_W} : va_D A (a ++ b) ↔ va_D A a ∧ va_D A b ∧ ∀ x ∈ a, ∀ y ∈ b, x.1 ≠ y.1 := by
  rw [jD_iff, jD_iff, jD_iff, List.pairwise_append]
  constructor
  · rintro ⟨⟨h1, h2, h3⟩, h4⟩
    exact ⟨⟨h1, fun q hq => h4 q (List.mem_append_left _ hq)⟩, ⟨h2, fun q hq => h4 q (List.mem_append_right _ hq)⟩, h3⟩
  · rintro ⟨⟨h1, h2⟩, ⟨h3, h4⟩, h5⟩
    exact ⟨⟨h1, h3, h5⟩, fun q hq => (List.mem_append.mp hq).elim (h2 q) (h4 q)⟩
theorem jP_app {D : va_G} {cl : List vw_C} {a b : va_W} {H : Heap} : va_P D cl (a ++ b) H ↔ va_P D cl a H ∧ va_P D cl b H := by
  rw [jP_iff, jP_iff, jP_iff]
  exact ⟨fun h => ⟨fun q hq => h q (List.mem_append_left _ hq), fun q hq => h q (List.mem_append_right _ hq)⟩, fun h q hq => (List.mem_append.mp hq).elim (h.1 q) (h.2 q)⟩
/-- behind a call: the callee's cells wc have become w1, what stood before and behind them is as it was -/
theorem j_join {A : Nat → Prop} {D : va_G} {cl : List vw_C} {pre wc po w1 : va_W} {H H1 : Heap} (hP : va_P D cl (pre ++ wc ++ po) H) (hD : va_D A (pre ++ wc ++ po)) (hk : ∀ q : Nat, q < H.size → ¬ va_A wc H.size q → H1[q]? = H[q]?) (hF : ∀ q, va_A wc H.size q → A q) (hP1 : va_P D cl w1 H1) (hD1 : va_D (va_A wc H.size) w1) :
    va_P D cl (pre ++ w1 ++ po) H1 ∧ va_D A (pre ++ w1 ++ po) := by
  have apart : ∀ q ∈ pre ++ po, q.1 < H.size ∧ ¬ va_A wc H.size q.1 := by
    intro q hq
    have hin : q ∈ pre ++ wc ++ po := by
      rcases List.mem_append.mp hq with h | h
      · exact List.mem_append_left _ (List.mem_append_left _ h)
      · exact List.mem_append_right _ h
    have hl := (jP_iff.mp hP q hin).lt
    refine ⟨hl, fun h => ?_⟩
    rcases h with ⟨k, e, h⟩ | h
    · have hw : (q.1, e) ∈ wc := List.mem_of_getElem? h
      rcases List.mem_append.mp hq with h | h
      · exact (jD_app.mp (jD_app.mp hD).1).2.2 q h _ hw rfl
      · exact (jD_app.mp hD).2.2 _ (List.mem_append_right _ hw) q h rfl
    · omega
  have hk' : ∀ q ∈ pre ++ po, va_at D cl q H1 := by
    intro q hq
    have hin : q ∈ pre ++ wc ++ po := by
      rcases List.mem_append.mp hq with h | h
      · exact List.mem_append_left _ (List.mem_append_left _ h)
      · exact List.mem_append_right _ h
    exact (jP_iff.mp hP q hin).kept (hk q.1 (apart q hq).1 (apart q hq).2)
  have hD1' : ∀ q ∈ w1, va_A wc H.size q.1 := (jD_iff.mp hD1).2
  constructor
  · refine jP_app.mpr ⟨jP_app.mpr ⟨jP_iff.mpr fun q hq => hk' q (List.mem_append_left _ hq), hP1⟩, jP_iff.mpr fun q hq => hk' q (List.mem_append_right _ hq)⟩
  · have h1 := jD_app.mp hD
    have h2 := jD_app.mp h1.1
    refine jD_app.mpr ⟨jD_app.mpr ⟨h2.1, hD1.weaken (fun _ q _ h => hF q.1 h), fun x hx y hy he => (apart x (List.mem_append_left _ hx)).2 (by rw [he]; exact hD1' y hy)⟩, h1.2.1, fun x hx y hy he => ?_⟩
    rcases List.mem_append.mp hx with h | h
    · exact h1.2.2 x (List.mem_append_left _ h) y hy he
    · exact (apart y (List.mem_append_right _ hy)).2 (by rw [← he]; exact hD1' x h)
theorem j_freeA {A : Nat → Prop} {pre wc po : va_W} {H0 H : Heap} {locs : List Loc} (hD : va_D A (pre ++ wc ++ po)) (hS : va_S A H0 H locs) (hA : ∀ q, H0.size ≤ q → A q) : ∀ q, va_A wc H.size q → A q := by
  intro q h
  rcases h with ⟨k, e, h⟩ | h
  · exact (jD_iff.mp (jD_app.mp (jD_app.mp hD).1).2.1).2 (q, e) (List.mem_of_getElem? h)
  · exact hA q (Nat.le_trans hS.1 h)
/-- my contract: from the cells ws and the arguments av the method y answers r and leaves w' with 'post r w'' -/
def jPost (E : jE) (ws : va_W) (sz : Nat) (post : Option Value → va_W → Prop) : Array Value → State → Outcome → State → Prop := fun _ st oc t => (∃ (r : Option Value) (w' : va_W), oc = .returned r ∧ post r w' ∧ va_P E.1 vwCl w' t.heap ∧ va_D (va_A ws sz) w') ∧ va_F (va_A ws sz) st t
def jPre (E : jE) (av : List Value) (ws : va_W) (sz : Nat) : Array Value → State → Prop := va_Pc av (fun U => U.heap.size = sz ∧ va_P E.1 vwCl ws U.heap ∧ va_K E.1 vwCl (jTys E) U ∧ va_D (fun _ => True) ws ∧ jST E (va_A ws sz) U U.heap)
def Con (E : jE) (l : Launch) (y : MethodName) (bc : ByteArray) (nL : Nat) (ret : Option FieldType) (rm : Room) (av : List Value) (ws : va_W) (post : Option Value → va_W → Prop) : Prop :=
  ∀ sz : Nat, Met l y (Cond.code y bc nL ret :: jTW) rm (jPre E av ws sz) (jPost E ws sz post) rm.cells rm.slots (va_A ws sz)
theorem jPre_blind {E : jE} {av : List Value} {ws : va_W} {sz : Nat} : FrameBlind (jPre E av ws sz) := by
  intro a U g mk h
  obtain ⟨q0, q1, qP, qK, qD, qS⟩ := h
  exact ⟨q0, q1, qP, va_K.moved (u := U) (U := U.calling g mk a) (Vm.Alike.refl U.vm) qK, qD, jST.moved (u := U) (U := U.calling g mk a) (Vm.Alike.refl U.vm) qS⟩
theorem j_entry {E : jE} {l : Launch} {y : MethodName} {bc : ByteArray} {nL : Nat} {ret : Option FieldType} {rm : Room} {av : List Value} {ws : va_W} {post : Option Value → va_W → Prop} (hy : plainName y.cls = true) (hav : (lg_sl av).length ≤ nL)
    (body : ∀ (p : Program) (e : Env) (s : State) (m : MethodId) (below : List Frame) (meth : Method) (c : Code), meth.sig.returnType = ret → meth.name = y.name → jI E y.cls bc nL p s m av.toArray meth c (va_A ws s.heap.size) →
      jV p l e rm s m av.toArray below meth c (MQ below (jPost E ws s.heap.size post) av.toArray s rm.cells rm.slots (va_A ws s.heap.size)) (va_A ws s.heap.size) E nL 0 (lv_args 0 av) [] ws 0 0) : Con E l y bc nL ret rm av ws post := by
  intro sz
  refine Met.ofW (cc := bc) (maxL := nL) (ret := ret) hy rfl ?_
  intro p e s m args below meth c s₁ B hml hv
  obtain ⟨rfl, rfl, hP, hK, hD, hST⟩ := hv
  have hts := atoms_spec (ws := Cond.code y bc nL ret :: jTW) B.pre
  have hown : s.vm.findClass y.cls = some m.cls := findClass_of_methodNamed B.named
  have h := body p e s m below meth c B.returns (name_of_methodNamed B.named B.method).1 ⟨B.exec, B.bytes, hml, hown, fun w hw => hts w (List.mem_cons_of_mem _ hw), fun q h => Or.inr h, hK, hST, B.notSynchronized⟩
  have hl := lv_entry av (n := nL) hav
  rw [lg_entry_eq]
  exact h s.heap [] _ hP hD.self va_S.rf hl
end JK0
section JKR
variable {E : jE} {l : Launch} {y : MethodName} {bc : ByteArray} {nL : Nat} {rm : Room} {av : List Value} {ws : va_W} {post : Option Value → va_W → Prop}
theorem Con.ofI (hy : plainName y.cls = true) (hav : (lg_sl av).length ≤ nL) (body : ∀ J : jJ, jC E l y.cls bc nL rm J → (∀ (pc : Nat) (lv : jL) (v : Int32) (w' : va_W) (cells slots : Nat), decode bc pc = .ok (.ireturn, 1) → cells ≤ rm.cells → slots ≤ rm.slots → post (some (.int v)) w' → J pc lv [.int v] w' cells slots) → J 0 (lv_args 0 av) [] ws 0 0) : Con E l y bc nL (some .int) rm av ws post := by
  refine j_entry hy hav fun p e s m below meth c hr hname hI => body _ ⟨_, _, _, _, _, _, _, _, _, _, hI, rfl⟩ ?_
  obtain ⟨hx, hb, -, -, -, -, -, -, hlocks⟩ := hI
  intro pc lv v w' cells slots hd hc hs hp H locs ls hP hD hS hl
  exact W.widen hc hs (W.iret (v := v) hx hb hr (fun t ht hW => ⟨⟨_, w', rfl, hp, by rw [ht]; exact hP, hD⟩, hS.F ht⟩) hS.2.2 hd)
theorem Con.ofZ (hy : plainName y.cls = true) (hav : (lg_sl av).length ≤ nL) (body : ∀ J : jJ, jC E l y.cls bc nL rm J → (∀ (pc : Nat) (lv : jL) (v : Int32) (w' : va_W) (cells slots : Nat), decode bc pc = .ok (.ireturn, 1) → narrow .boolean (.int v) = .int v → cells ≤ rm.cells → slots ≤ rm.slots → post (some (.int v)) w' → J pc lv [.int v] w' cells slots) → J 0 (lv_args 0 av) [] ws 0 0) : Con E l y bc nL (some .boolean) rm av ws post := by
  refine j_entry hy hav fun p e s m below meth c hr hname hI => body _ ⟨_, _, _, _, _, _, _, _, _, _, hI, rfl⟩ ?_
  obtain ⟨hx, hb, -, -, -, -, -, -, hlocks⟩ := hI
  intro pc lv v w' cells slots hd hn hc hs hp H locs ls hP hD hS hl
  exact W.widen hc hs (W.zret (v := v) hx hb hr hn (fun t ht hW => ⟨⟨_, w', rfl, hp, by rw [ht]; exact hP, hD⟩, hS.F ht⟩) hS.2.2 hd)
theorem Con.ofL (hy : plainName y.cls = true) (hav : (lg_sl av).length ≤ nL) (body : ∀ J : jJ, jC E l y.cls bc nL rm J → (∀ (pc : Nat) (lv : jL) (v : Int64) (w' : va_W) (cells slots : Nat), decode bc pc = .ok (.lreturn, 1) → cells ≤ rm.cells → slots ≤ rm.slots → post (some (.long v)) w' → J pc lv [.long v] w' cells slots) → J 0 (lv_args 0 av) [] ws 0 0) : Con E l y bc nL (some .long) rm av ws post := by
  refine j_entry hy hav fun p e s m below meth c hr hname hI => body _ ⟨_, _, _, _, _, _, _, _, _, _, hI, rfl⟩ ?_
  obtain ⟨hx, hb, -, -, -, -, -, -, hlocks⟩ := hI
  intro pc lv v w' cells slots hd hc hs hp H locs ls hP hD hS hl
  exact W.widen hc hs (W.lret (v := v) hx hb hr (fun t ht hW => ⟨⟨_, w', rfl, hp, by rw [ht]; exact hP, hD⟩, hS.F ht⟩) hS.2.2 hd)
theorem Con.ofA {cn : String} (hy : plainName y.cls = true) (hav : (lg_sl av).length ≤ nL) (body : ∀ J : jJ, jC E l y.cls bc nL rm J → (∀ (pc : Nat) (lv : jL) (a : Nat) (w' : va_W) (cells slots : Nat), decode bc pc = .ok (.areturn, 1) → cells ≤ rm.cells → slots ≤ rm.slots → post (some (.ref a)) w' → J pc lv [.ref a] w' cells slots) → J 0 (lv_args 0 av) [] ws 0 0) : Con E l y bc nL (some (.object cn)) rm av ws post := by
  refine j_entry hy hav fun p e s m below meth c hr hname hI => body _ ⟨_, _, _, _, _, _, _, _, _, _, hI, rfl⟩ ?_
  obtain ⟨hx, hb, -, -, -, -, -, -, hlocks⟩ := hI
  intro pc lv a w' cells slots hd hc hs hp H locs ls hP hD hS hl
  exact W.widen hc hs (W.aret (v := .ref a) hx hb hr (Or.inl ⟨_, rfl⟩) (Or.inr ⟨_, rfl⟩) (fun t ht hW => ⟨⟨_, w', rfl, hp, by rw [ht]; exact hP, hD⟩, hS.F ht⟩) hS.2.2 hd)
theorem Con.ofV (hy : plainName y.cls = true) (hav : (lg_sl av).length ≤ nL) (body : ∀ J : jJ, jC E l y.cls bc nL rm J → (∀ (pc : Nat) (lv : jL) (w' : va_W) (cells slots : Nat), decode bc pc = .ok (.return_, 1) → cells ≤ rm.cells → slots ≤ rm.slots → post none w' → J pc lv [] w' cells slots) → J 0 (lv_args 0 av) [] ws 0 0) : Con E l y bc nL none rm av ws post := by
  refine j_entry hy hav fun p e s m below meth c hr hname hI => body _ ⟨_, _, _, _, _, _, _, _, _, _, hI, rfl⟩ ?_
  obtain ⟨hx, hb, -, -, -, -, -, -, hlocks⟩ := hI
  intro pc lv w' cells slots hd hc hs hp H locs ls hP hD hS hl
  exact W.widen hc hs (W.vret hx hb hr (fun t ht hW => ⟨⟨_, w', rfl, hp, by rw [ht]; exact hP, hD⟩, hS.F ht⟩) hS.2.2 hd)
/-- a constructor: it may write its final fields -/
def jInit (own : String) (cc : ByteArray) (J : jJ) (E : jE) : Prop := ∀ (pc : Nat) (lv : jL) (st : List Value) (ws ws' : va_W) (cells slots : Nat) (a ci : Nat) (C : String) (T : u_T) (N index q0 : Nat) (fs : List Value) (k : Nat) (ty0 : Nat → FieldType) (v : Value), (∀ w ∈ u_ws C T N, w ∈ jTW) → (∀ k, k < N → parseFieldDescriptor (T k).2.2.1 = some (ty0 k)) → (∀ a, a < N → ∀ b, b < N → a ≠ b → (T a).2.1 ≠ (T b).2.1) → ws[q0]? = some (a, .inr (ci, fs)) → vwCl[ci]? = some (C, T, N) → k < N → Cond.fieldLink own index (T k).1 (T k).2.1 (T k).2.2.1 ∈ jTW → (T k).2.2.2 = true → (T k).1 = own → narrow (ty0 k) v = v → fits (ty0 k) v = true → k < fs.length → decode cc pc = .ok (.putfield index, 3) → ws.set q0 (a, .inr (ci, fs.set k v)) = ws' → J (pc + 3) lv st ws' cells slots → J pc lv (v :: .ref a :: st) ws cells slots
theorem Con.ofN (hin : y.name = "<init>") (hy : plainName y.cls = true) (hav : (lg_sl av).length ≤ nL) (body : ∀ J : jJ, jC E l y.cls bc nL rm J → jInit y.cls bc J E → (∀ (pc : Nat) (lv : jL) (w' : va_W) (cells slots : Nat), decode bc pc = .ok (.return_, 1) → cells ≤ rm.cells → slots ≤ rm.slots → post none w' → J pc lv [] w' cells slots) → J 0 (lv_args 0 av) [] ws 0 0) : Con E l y bc nL none rm av ws post := by
  refine j_entry hy hav fun p e s m below meth c hr hname hI => body _ ⟨_, _, _, _, _, _, _, _, _, _, hI, rfl⟩ ?_ ?_
  · obtain ⟨hx, hb, -, hown, hts, -, hK, -, hlocks⟩ := hI
    intro pc lv st ws ws' cells slots a ci C T N index q0 fs k ty0 v h1 h2 h3 h4 h5 h6 h7 h8 h9 h11 h12 h13 hd hw kk H locs ls hP hD hS hl
    subst hw
    exact va_putF hx hb hts h1 ty0 h2 h3 hown hK hP hD hS q0 h4 h5 k h6 (hts _ h7) (fun _ h => h) h8 (by rw [hname, hin]) h9 (h2 k h6) h11 h12 h13 hd (fun H1 locs1 hP1 hD1 hS1 => kk H1 locs1 ls hP1 hD1 hS1 hl)
  · obtain ⟨hx, hb, -, -, -, -, -, -, hlocks⟩ := hI
    intro pc lv w' cells slots hd hc hs hp H locs ls hP hD hS hl
    exact W.widen hc hs (W.vret hx hb hr (fun t ht hW => ⟨⟨_, w', rfl, hp, by rw [ht]; exact hP, hD⟩, hS.F ht⟩) hS.2.2 hd)
end JKR
section JKW
variable {E : jE} {l : Launch} {own : String} {cc : ByteArray} {nL : Nat} {R : Room} {J : jJ} {pc : Nat} {lv : jL} {st : List Value} {ws : va_W} {cs ss : Nat}
theorem j_le {x y : Int32} {a b : Int} (ha : x.toInt = a) (hb : y.toInt = b) : x ≤ y ↔ a ≤ b := by rw [Int32.le_iff_toInt_le, ha, hb]
theorem j_lt {x y : Int32} {a b : Int} (ha : x.toInt = a) (hb : y.toInt = b) : x < y ↔ a < b := by rw [Int32.lt_iff_toInt_lt, ha, hb]
theorem j_eq {x y : Int32} {a b : Int} (ha : x.toInt = a) (hb : y.toInt = b) : x = y ↔ a = b := by rw [← Int32.toInt_inj, ha, hb]
theorem j_z0 : (0 : Int32).toInt = 0 := rfl

theorem J_iconst (C : jC E l own cc nL R J) {n : Int} {v : Int32} (hdg : decode cc pc = .ok (.iconst n, 1)) (hv : Int32.ofInt n = v) (kk : J (pc + 1) lv (.int v :: st) ws cs ss) : J pc lv (st) ws cs ss := by
  obtain ⟨p, e, s, m, args, below, meth, c, Q, A, ⟨hx, hb, hml, hown, hts, hA, hK, hST, hlocks⟩, rfl⟩ := C
  intro H locs ls hP hD hS hl
  exact lv_iconst hx hb hdg hv (kk H locs ls hP hD hS hl)
theorem J_bipush (C : jC E l own cc nL R J) {n : Int} {v : Int32} (hdg : decode cc pc = .ok (.bipush n, 2)) (hv : (Int8.ofInt n).toInt32 = v) (kk : J (pc + 2) lv (.int v :: st) ws cs ss) : J pc lv (st) ws cs ss := by
  obtain ⟨p, e, s, m, args, below, meth, c, Q, A, ⟨hx, hb, hml, hown, hts, hA, hK, hST, hlocks⟩, rfl⟩ := C
  intro H locs ls hP hD hS hl
  exact lv_bipush hx hb hdg hv (kk H locs ls hP hD hS hl)
theorem J_sipush (C : jC E l own cc nL R J) {n : Int} {v : Int32} (hdg : decode cc pc = .ok (.sipush n, 3)) (hv : (Int16.ofInt n).toInt32 = v) (kk : J (pc + 3) lv (.int v :: st) ws cs ss) : J pc lv (st) ws cs ss := by
  obtain ⟨p, e, s, m, args, below, meth, c, Q, A, ⟨hx, hb, hml, hown, hts, hA, hK, hST, hlocks⟩, rfl⟩ := C
  intro H locs ls hP hD hS hl
  exact lv_sipush hx hb hdg hv (kk H locs ls hP hD hS hl)
theorem J_lconst (C : jC E l own cc nL R J) {n : Fin 2} {v : Int64} (hdg : decode cc pc = .ok (.lconst n, 1)) (hv : Int64.ofNat (n : Nat) = v) (kk : J (pc + 1) lv (.long v :: st) ws cs ss) : J pc lv (st) ws cs ss := by
  obtain ⟨p, e, s, m, args, below, meth, c, Q, A, ⟨hx, hb, hml, hown, hts, hA, hK, hST, hlocks⟩, rfl⟩ := C
  intro H locs ls hP hD hS hl
  exact lv_lconst hx hb hdg hv (kk H locs ls hP hD hS hl)
theorem J_ldc (C : jC E l own cc nL R J) {index : Nat} {v : Int32} (hw : Cond.constant own index v ∈ jTW) (hdg : decode cc pc = .ok (.ldc index, 2)) (kk : J (pc + 2) lv (.int v :: st) ws cs ss) : J pc lv (st) ws cs ss := by
  obtain ⟨p, e, s, m, args, below, meth, c, Q, A, ⟨hx, hb, hml, hown, hts, hA, hK, hST, hlocks⟩, rfl⟩ := C
  intro H locs ls hP hD hS hl
  exact lv_ldc hx hb hown (hts _ hw) hdg (kk H locs ls hP hD hS hl)
theorem J_ldc2 (C : jC E l own cc nL R J) {index : Nat} {v : Int64} (hw : Cond.constantLong own index v ∈ jTW) (hdg : decode cc pc = .ok (.ldc2_w index, 3)) (kk : J (pc + 3) lv (.long v :: st) ws cs ss) : J pc lv (st) ws cs ss := by
  obtain ⟨p, e, s, m, args, below, meth, c, Q, A, ⟨hx, hb, hml, hown, hts, hA, hK, hST, hlocks⟩, rfl⟩ := C
  intro H locs ls hP hD hS hl
  exact lv_ldc2 hx hb hown (hts _ hw) hdg (kk H locs ls hP hD hS hl)
theorem J_null (C : jC E l own cc nL R J) (hdg : decode cc pc = .ok (.aconst_null, 1)) (kk : J (pc + 1) lv (.null :: st) ws cs ss) : J pc lv (st) ws cs ss := by
  obtain ⟨p, e, s, m, args, below, meth, c, Q, A, ⟨hx, hb, hml, hown, hts, hA, hK, hST, hlocks⟩, rfl⟩ := C
  intro H locs ls hP hD hS hl
  exact lv_null hx hb hdg (kk H locs ls hP hD hS hl)
theorem J_iload_n (C : jC E l own cc nL R J) {k : Fin 4} {i : Nat} {x : Int32} (q : Nat) (hdg : decode cc pc = .ok (.iload_n k, 1)) (hi : (k : Nat) = i) (hq : lv[q]? = some (i, .int x)) (kk : J (pc + 1) lv (.int x :: st) ws cs ss) : J pc lv (st) ws cs ss := by
  obtain ⟨p, e, s, m, args, below, meth, c, Q, A, ⟨hx, hb, hml, hown, hts, hA, hK, hST, hlocks⟩, rfl⟩ := C
  intro H locs ls hP hD hS hl
  exact lv_iload_n hx hb hdg hi (lv_at hl q hq) (kk H locs ls hP hD hS hl)
theorem J_iload (C : jC E l own cc nL R J) {i : Nat} {x : Int32} (q : Nat) (hdg : decode cc pc = .ok (.iload i, 2)) (hq : lv[q]? = some (i, .int x)) (kk : J (pc + 2) lv (.int x :: st) ws cs ss) : J pc lv (st) ws cs ss := by
  obtain ⟨p, e, s, m, args, below, meth, c, Q, A, ⟨hx, hb, hml, hown, hts, hA, hK, hST, hlocks⟩, rfl⟩ := C
  intro H locs ls hP hD hS hl
  exact lv_iload hx hb hdg (lv_at hl q hq) (kk H locs ls hP hD hS hl)
theorem J_istore_n (C : jC E l own cc nL R J) {k : Fin 4} {i : Nat} {x : Int32} {lv' : jL} (ks : List Nat) (hdg : decode cc pc = .ok (.istore_n k, 1)) (hi : (k : Nat) = i) (hn : i < nL) (hv : lv_pick ((i, Value.int x) :: lv.filter (fun q => !(q.1 == i) && !(q.1 + 1 == i && q.2.category == 2))) ks = lv') (kk : J (pc + 1) lv' st ws cs ss) : J pc lv (.int x :: st) ws cs ss := by
  obtain ⟨p, e, s, m, args, below, meth, c, Q, A, ⟨hx, hb, hml, hown, hts, hA, hK, hST, hlocks⟩, rfl⟩ := C
  intro H locs ls hP hD hS hl
  exact lv_istore_n hx hb hdg hi hl hn rfl (fun ls' hl' => kk H locs ls' hP hD hS (lv_sub hl' ks hv))
theorem J_istore (C : jC E l own cc nL R J) {i : Nat} {x : Int32} {lv' : jL} (ks : List Nat) (hdg : decode cc pc = .ok (.istore i, 2)) (hn : i < nL) (hv : lv_pick ((i, Value.int x) :: lv.filter (fun q => !(q.1 == i) && !(q.1 + 1 == i && q.2.category == 2))) ks = lv') (kk : J (pc + 2) lv' st ws cs ss) : J pc lv (.int x :: st) ws cs ss := by
  obtain ⟨p, e, s, m, args, below, meth, c, Q, A, ⟨hx, hb, hml, hown, hts, hA, hK, hST, hlocks⟩, rfl⟩ := C
  intro H locs ls hP hD hS hl
  exact lv_istore hx hb hdg hl hn rfl (fun ls' hl' => kk H locs ls' hP hD hS (lv_sub hl' ks hv))
theorem J_lload_n (C : jC E l own cc nL R J) {k : Fin 4} {i : Nat} {x : Int64} (q : Nat) (hdg : decode cc pc = .ok (.lload_n k, 1)) (hi : (k : Nat) = i) (hq : lv[q]? = some (i, .long x)) (kk : J (pc + 1) lv (.long x :: st) ws cs ss) : J pc lv (st) ws cs ss := by
  obtain ⟨p, e, s, m, args, below, meth, c, Q, A, ⟨hx, hb, hml, hown, hts, hA, hK, hST, hlocks⟩, rfl⟩ := C
  intro H locs ls hP hD hS hl
  exact lv_lload_n hx hb hdg hi (lv_at hl q hq) (kk H locs ls hP hD hS hl)
theorem J_lload (C : jC E l own cc nL R J) {i : Nat} {x : Int64} (q : Nat) (hdg : decode cc pc = .ok (.lload i, 2)) (hq : lv[q]? = some (i, .long x)) (kk : J (pc + 2) lv (.long x :: st) ws cs ss) : J pc lv (st) ws cs ss := by
  obtain ⟨p, e, s, m, args, below, meth, c, Q, A, ⟨hx, hb, hml, hown, hts, hA, hK, hST, hlocks⟩, rfl⟩ := C
  intro H locs ls hP hD hS hl
  exact lv_lload hx hb hdg (lv_at hl q hq) (kk H locs ls hP hD hS hl)
theorem J_lstore_n (C : jC E l own cc nL R J) {k : Fin 4} {i : Nat} {x : Int64} {lv' : jL} (ks : List Nat) (hdg : decode cc pc = .ok (.lstore_n k, 1)) (hi : (k : Nat) = i) (hn : i + 1 < nL) (hv : lv_pick ((i, Value.long x) :: lv.filter (fun q => !(q.1 == i) && (!(q.1 == i + 1) && !(q.1 + 1 == i && q.2.category == 2)))) ks = lv') (kk : J (pc + 1) lv' st ws cs ss) : J pc lv (.long x :: st) ws cs ss := by
  obtain ⟨p, e, s, m, args, below, meth, c, Q, A, ⟨hx, hb, hml, hown, hts, hA, hK, hST, hlocks⟩, rfl⟩ := C
  intro H locs ls hP hD hS hl
  exact lv_lstore_n hx hb hdg hi hl hn rfl (fun ls' hl' => kk H locs ls' hP hD hS (lv_sub hl' ks hv))
theorem J_lstore (C : jC E l own cc nL R J) {i : Nat} {x : Int64} {lv' : jL} (ks : List Nat) (hdg : decode cc pc = .ok (.lstore i, 2)) (hn : i + 1 < nL) (hv : lv_pick ((i, Value.long x) :: lv.filter (fun q => !(q.1 == i) && (!(q.1 == i + 1) && !(q.1 + 1 == i && q.2.category == 2)))) ks = lv') (kk : J (pc + 2) lv' st ws cs ss) : J pc lv (.long x :: st) ws cs ss := by
  obtain ⟨p, e, s, m, args, below, meth, c, Q, A, ⟨hx, hb, hml, hown, hts, hA, hK, hST, hlocks⟩, rfl⟩ := C
  intro H locs ls hP hD hS hl
  exact lv_lstore hx hb hdg hl hn rfl (fun ls' hl' => kk H locs ls' hP hD hS (lv_sub hl' ks hv))
theorem J_aload_n (C : jC E l own cc nL R J) {k : Fin 4} {i : Nat} {x : Nat} (q : Nat) (hdg : decode cc pc = .ok (.aload_n k, 1)) (hi : (k : Nat) = i) (hq : lv[q]? = some (i, .ref x)) (kk : J (pc + 1) lv (.ref x :: st) ws cs ss) : J pc lv (st) ws cs ss := by
  obtain ⟨p, e, s, m, args, below, meth, c, Q, A, ⟨hx, hb, hml, hown, hts, hA, hK, hST, hlocks⟩, rfl⟩ := C
  intro H locs ls hP hD hS hl
  exact lv_aload_n hx hb hdg hi (lv_at hl q hq) (kk H locs ls hP hD hS hl)
theorem J_aload (C : jC E l own cc nL R J) {i : Nat} {x : Nat} (q : Nat) (hdg : decode cc pc = .ok (.aload i, 2)) (hq : lv[q]? = some (i, .ref x)) (kk : J (pc + 2) lv (.ref x :: st) ws cs ss) : J pc lv (st) ws cs ss := by
  obtain ⟨p, e, s, m, args, below, meth, c, Q, A, ⟨hx, hb, hml, hown, hts, hA, hK, hST, hlocks⟩, rfl⟩ := C
  intro H locs ls hP hD hS hl
  exact lv_aload hx hb hdg (lv_at hl q hq) (kk H locs ls hP hD hS hl)
theorem J_astore_n (C : jC E l own cc nL R J) {k : Fin 4} {i : Nat} {x : Nat} {lv' : jL} (ks : List Nat) (hdg : decode cc pc = .ok (.astore_n k, 1)) (hi : (k : Nat) = i) (hn : i < nL) (hv : lv_pick ((i, Value.ref x) :: lv.filter (fun q => !(q.1 == i) && !(q.1 + 1 == i && q.2.category == 2))) ks = lv') (kk : J (pc + 1) lv' st ws cs ss) : J pc lv (.ref x :: st) ws cs ss := by
  obtain ⟨p, e, s, m, args, below, meth, c, Q, A, ⟨hx, hb, hml, hown, hts, hA, hK, hST, hlocks⟩, rfl⟩ := C
  intro H locs ls hP hD hS hl
  exact lv_astore_n hx hb hdg hi hl hn rfl (fun ls' hl' => kk H locs ls' hP hD hS (lv_sub hl' ks hv))
theorem J_astore (C : jC E l own cc nL R J) {i : Nat} {x : Nat} {lv' : jL} (ks : List Nat) (hdg : decode cc pc = .ok (.astore i, 2)) (hn : i < nL) (hv : lv_pick ((i, Value.ref x) :: lv.filter (fun q => !(q.1 == i) && !(q.1 + 1 == i && q.2.category == 2))) ks = lv') (kk : J (pc + 2) lv' st ws cs ss) : J pc lv (.ref x :: st) ws cs ss := by
  obtain ⟨p, e, s, m, args, below, meth, c, Q, A, ⟨hx, hb, hml, hown, hts, hA, hK, hST, hlocks⟩, rfl⟩ := C
  intro H locs ls hP hD hS hl
  exact lv_astore hx hb hdg hl hn rfl (fun ls' hl' => kk H locs ls' hP hD hS (lv_sub hl' ks hv))
theorem J_astore_nN (C : jC E l own cc nL R J) {k : Fin 4} {i : Nat} {lv' : jL} (ks : List Nat) (hdg : decode cc pc = .ok (.astore_n k, 1)) (hi : (k : Nat) = i) (hn : i < nL) (hv : lv_pick ((i, Value.null) :: lv.filter (fun q => !(q.1 == i) && !(q.1 + 1 == i && q.2.category == 2))) ks = lv') (kk : J (pc + 1) lv' st ws cs ss) : J pc lv (.null :: st) ws cs ss := by
  obtain ⟨p, e, s, m, args, below, meth, c, Q, A, ⟨hx, hb, hml, hown, hts, hA, hK, hST, hlocks⟩, rfl⟩ := C
  intro H locs ls hP hD hS hl
  exact lv_astore_nN hx hb hdg hi hl hn rfl (fun ls' hl' => kk H locs ls' hP hD hS (lv_sub hl' ks hv))
theorem J_iinc (C : jC E l own cc nL R J) {i : Nat} {n : Int} {x v : Int32} {lv' : jL} (q : Nat) (ks : List Nat) (hdg : decode cc pc = .ok (.iinc i n, 3)) (hq : lv[q]? = some (i, .int x)) (hx1 : x + Int32.ofInt n = v) (hn : i < nL) (hv : lv_pick ((i, Value.int v) :: lv.filter (fun q => !(q.1 == i) && !(q.1 + 1 == i && q.2.category == 2))) ks = lv') (kk : J (pc + 3) lv' st ws cs ss) : J pc lv (st) ws cs ss := by
  obtain ⟨p, e, s, m, args, below, meth, c, Q, A, ⟨hx, hb, hml, hown, hts, hA, hK, hST, hlocks⟩, rfl⟩ := C
  intro H locs ls hP hD hS hl
  exact lv_iinc hx hb hdg hl hq hx1 hn rfl (fun ls' hl' => kk H locs ls' hP hD hS (lv_sub hl' ks hv))
theorem J_iadd (C : jC E l own cc nL R J) {x y : Int32} (hdg : decode cc pc = .ok (.iadd, 1)) (kk : J (pc + 1) lv (.int (x + y) :: st) ws cs ss) : J pc lv (.int y :: .int x :: st) ws cs ss := by
  obtain ⟨p, e, s, m, args, below, meth, c, Q, A, ⟨hx, hb, hml, hown, hts, hA, hK, hST, hlocks⟩, rfl⟩ := C
  intro H locs ls hP hD hS hl
  exact lv_iadd hx hb hdg (kk H locs ls hP hD hS hl)
theorem J_isub (C : jC E l own cc nL R J) {x y : Int32} (hdg : decode cc pc = .ok (.isub, 1)) (kk : J (pc + 1) lv (.int (x - y) :: st) ws cs ss) : J pc lv (.int y :: .int x :: st) ws cs ss := by
  obtain ⟨p, e, s, m, args, below, meth, c, Q, A, ⟨hx, hb, hml, hown, hts, hA, hK, hST, hlocks⟩, rfl⟩ := C
  intro H locs ls hP hD hS hl
  exact lv_isub hx hb hdg (kk H locs ls hP hD hS hl)
theorem J_imul (C : jC E l own cc nL R J) {x y : Int32} (hdg : decode cc pc = .ok (.imul, 1)) (kk : J (pc + 1) lv (.int (x * y) :: st) ws cs ss) : J pc lv (.int y :: .int x :: st) ws cs ss := by
  obtain ⟨p, e, s, m, args, below, meth, c, Q, A, ⟨hx, hb, hml, hown, hts, hA, hK, hST, hlocks⟩, rfl⟩ := C
  intro H locs ls hP hD hS hl
  exact lv_imul hx hb hdg (kk H locs ls hP hD hS hl)
theorem J_iand (C : jC E l own cc nL R J) {x y : Int32} (hdg : decode cc pc = .ok (.iand, 1)) (kk : J (pc + 1) lv (.int (x &&& y) :: st) ws cs ss) : J pc lv (.int y :: .int x :: st) ws cs ss := by
  obtain ⟨p, e, s, m, args, below, meth, c, Q, A, ⟨hx, hb, hml, hown, hts, hA, hK, hST, hlocks⟩, rfl⟩ := C
  intro H locs ls hP hD hS hl
  exact lv_iand hx hb hdg (kk H locs ls hP hD hS hl)
theorem J_ior (C : jC E l own cc nL R J) {x y : Int32} (hdg : decode cc pc = .ok (.ior, 1)) (kk : J (pc + 1) lv (.int (x ||| y) :: st) ws cs ss) : J pc lv (.int y :: .int x :: st) ws cs ss := by
  obtain ⟨p, e, s, m, args, below, meth, c, Q, A, ⟨hx, hb, hml, hown, hts, hA, hK, hST, hlocks⟩, rfl⟩ := C
  intro H locs ls hP hD hS hl
  exact lv_ior hx hb hdg (kk H locs ls hP hD hS hl)
theorem J_ixor (C : jC E l own cc nL R J) {x y : Int32} (hdg : decode cc pc = .ok (.ixor, 1)) (kk : J (pc + 1) lv (.int (x ^^^ y) :: st) ws cs ss) : J pc lv (.int y :: .int x :: st) ws cs ss := by
  obtain ⟨p, e, s, m, args, below, meth, c, Q, A, ⟨hx, hb, hml, hown, hts, hA, hK, hST, hlocks⟩, rfl⟩ := C
  intro H locs ls hP hD hS hl
  exact lv_ixor hx hb hdg (kk H locs ls hP hD hS hl)
theorem J_ishl (C : jC E l own cc nL R J) {x y : Int32} (hdg : decode cc pc = .ok (.ishl, 1)) (kk : J (pc + 1) lv (.int (x <<< (y &&& 31)) :: st) ws cs ss) : J pc lv (.int y :: .int x :: st) ws cs ss := by
  obtain ⟨p, e, s, m, args, below, meth, c, Q, A, ⟨hx, hb, hml, hown, hts, hA, hK, hST, hlocks⟩, rfl⟩ := C
  intro H locs ls hP hD hS hl
  exact lv_ishl hx hb hdg (kk H locs ls hP hD hS hl)
theorem J_ishr (C : jC E l own cc nL R J) {x y : Int32} (hdg : decode cc pc = .ok (.ishr, 1)) (kk : J (pc + 1) lv (.int (x >>> (y &&& 31)) :: st) ws cs ss) : J pc lv (.int y :: .int x :: st) ws cs ss := by
  obtain ⟨p, e, s, m, args, below, meth, c, Q, A, ⟨hx, hb, hml, hown, hts, hA, hK, hST, hlocks⟩, rfl⟩ := C
  intro H locs ls hP hD hS hl
  exact lv_ishr hx hb hdg (kk H locs ls hP hD hS hl)
theorem J_idiv (C : jC E l own cc nL R J) {x y : Int32} (hdg : decode cc pc = .ok (.idiv, 1)) (hne : ¬ y = 0) (kk : J (pc + 1) lv (.int (x / y) :: st) ws cs ss) : J pc lv (.int y :: .int x :: st) ws cs ss := by
  obtain ⟨p, e, s, m, args, below, meth, c, Q, A, ⟨hx, hb, hml, hown, hts, hA, hK, hST, hlocks⟩, rfl⟩ := C
  intro H locs ls hP hD hS hl
  exact lv_idiv hx hb hdg hne (kk H locs ls hP hD hS hl)
theorem J_irem (C : jC E l own cc nL R J) {x y : Int32} (hdg : decode cc pc = .ok (.irem, 1)) (hne : ¬ y = 0) (kk : J (pc + 1) lv (.int (x - x / y * y) :: st) ws cs ss) : J pc lv (.int y :: .int x :: st) ws cs ss := by
  obtain ⟨p, e, s, m, args, below, meth, c, Q, A, ⟨hx, hb, hml, hown, hts, hA, hK, hST, hlocks⟩, rfl⟩ := C
  intro H locs ls hP hD hS hl
  exact lv_irem hx hb hdg hne (kk H locs ls hP hD hS hl)
theorem J_ladd (C : jC E l own cc nL R J) {x y : Int64} (hdg : decode cc pc = .ok (.ladd, 1)) (kk : J (pc + 1) lv (.long (x + y) :: st) ws cs ss) : J pc lv (.long y :: .long x :: st) ws cs ss := by
  obtain ⟨p, e, s, m, args, below, meth, c, Q, A, ⟨hx, hb, hml, hown, hts, hA, hK, hST, hlocks⟩, rfl⟩ := C
  intro H locs ls hP hD hS hl
  exact lv_ladd hx hb hdg (kk H locs ls hP hD hS hl)
theorem J_lsub (C : jC E l own cc nL R J) {x y : Int64} (hdg : decode cc pc = .ok (.lsub, 1)) (kk : J (pc + 1) lv (.long (x - y) :: st) ws cs ss) : J pc lv (.long y :: .long x :: st) ws cs ss := by
  obtain ⟨p, e, s, m, args, below, meth, c, Q, A, ⟨hx, hb, hml, hown, hts, hA, hK, hST, hlocks⟩, rfl⟩ := C
  intro H locs ls hP hD hS hl
  exact lv_lsub hx hb hdg (kk H locs ls hP hD hS hl)
theorem J_lmul (C : jC E l own cc nL R J) {x y : Int64} (hdg : decode cc pc = .ok (.lmul, 1)) (kk : J (pc + 1) lv (.long (x * y) :: st) ws cs ss) : J pc lv (.long y :: .long x :: st) ws cs ss := by
  obtain ⟨p, e, s, m, args, below, meth, c, Q, A, ⟨hx, hb, hml, hown, hts, hA, hK, hST, hlocks⟩, rfl⟩ := C
  intro H locs ls hP hD hS hl
  exact lv_lmul hx hb hdg (kk H locs ls hP hD hS hl)
theorem J_land (C : jC E l own cc nL R J) {x y : Int64} (hdg : decode cc pc = .ok (.land, 1)) (kk : J (pc + 1) lv (.long (x &&& y) :: st) ws cs ss) : J pc lv (.long y :: .long x :: st) ws cs ss := by
  obtain ⟨p, e, s, m, args, below, meth, c, Q, A, ⟨hx, hb, hml, hown, hts, hA, hK, hST, hlocks⟩, rfl⟩ := C
  intro H locs ls hP hD hS hl
  exact lv_land hx hb hdg (kk H locs ls hP hD hS hl)
theorem J_lor (C : jC E l own cc nL R J) {x y : Int64} (hdg : decode cc pc = .ok (.lor, 1)) (kk : J (pc + 1) lv (.long (x ||| y) :: st) ws cs ss) : J pc lv (.long y :: .long x :: st) ws cs ss := by
  obtain ⟨p, e, s, m, args, below, meth, c, Q, A, ⟨hx, hb, hml, hown, hts, hA, hK, hST, hlocks⟩, rfl⟩ := C
  intro H locs ls hP hD hS hl
  exact lv_lor hx hb hdg (kk H locs ls hP hD hS hl)
theorem J_lxor (C : jC E l own cc nL R J) {x y : Int64} (hdg : decode cc pc = .ok (.lxor, 1)) (kk : J (pc + 1) lv (.long (x ^^^ y) :: st) ws cs ss) : J pc lv (.long y :: .long x :: st) ws cs ss := by
  obtain ⟨p, e, s, m, args, below, meth, c, Q, A, ⟨hx, hb, hml, hown, hts, hA, hK, hST, hlocks⟩, rfl⟩ := C
  intro H locs ls hP hD hS hl
  exact lv_lxor hx hb hdg (kk H locs ls hP hD hS hl)
theorem J_i2l (C : jC E l own cc nL R J) {x : Int32} {v : Int64} (hdg : decode cc pc = .ok (.i2l, 1)) (hv : x.toInt64 = v) (kk : J (pc + 1) lv (.long v :: st) ws cs ss) : J pc lv (.int x :: st) ws cs ss := by
  obtain ⟨p, e, s, m, args, below, meth, c, Q, A, ⟨hx, hb, hml, hown, hts, hA, hK, hST, hlocks⟩, rfl⟩ := C
  intro H locs ls hP hD hS hl
  exact lv_i2l hx hb hdg hv (kk H locs ls hP hD hS hl)
theorem J_l2i (C : jC E l own cc nL R J) {x : Int64} {v : Int32} (hdg : decode cc pc = .ok (.l2i, 1)) (hv : x.toInt32 = v) (kk : J (pc + 1) lv (.int v :: st) ws cs ss) : J pc lv (.long x :: st) ws cs ss := by
  obtain ⟨p, e, s, m, args, below, meth, c, Q, A, ⟨hx, hb, hml, hown, hts, hA, hK, hST, hlocks⟩, rfl⟩ := C
  intro H locs ls hP hD hS hl
  exact lv_l2i hx hb hdg hv (kk H locs ls hP hD hS hl)
theorem J_lushr (C : jC E l own cc nL R J) {x v : Int64} {y : Int32} (hdg : decode cc pc = .ok (.lushr, 1)) (hv : (x.toUInt64 >>> (y.toInt64.toUInt64 &&& Int64.toUInt64 63)).toInt64 = v) (kk : J (pc + 1) lv (.long v :: st) ws cs ss) : J pc lv (.int y :: .long x :: st) ws cs ss := by
  obtain ⟨p, e, s, m, args, below, meth, c, Q, A, ⟨hx, hb, hml, hown, hts, hA, hK, hST, hlocks⟩, rfl⟩ := C
  intro H locs ls hP hD hS hl
  exact lv_lushr hx hb hdg hv (kk H locs ls hP hD hS hl)
theorem J_lshl (C : jC E l own cc nL R J) {x v : Int64} {y : Int32} (hdg : decode cc pc = .ok (.lshl, 1)) (hv : x <<< (y.toInt64 &&& 63) = v) (kk : J (pc + 1) lv (.long v :: st) ws cs ss) : J pc lv (.int y :: .long x :: st) ws cs ss := by
  obtain ⟨p, e, s, m, args, below, meth, c, Q, A, ⟨hx, hb, hml, hown, hts, hA, hK, hST, hlocks⟩, rfl⟩ := C
  intro H locs ls hP hD hS hl
  exact lv_lshl hx hb hdg hv (kk H locs ls hP hD hS hl)
theorem J_dup (C : jC E l own cc nL R J) {va : Value} (hdg : decode cc pc = .ok (.dup, 1)) (hva : va.category = 1) (kk : J (pc + 1) lv (va :: va :: st) ws cs ss) : J pc lv (va :: st) ws cs ss := by
  obtain ⟨p, e, s, m, args, below, meth, c, Q, A, ⟨hx, hb, hml, hown, hts, hA, hK, hST, hlocks⟩, rfl⟩ := C
  intro H locs ls hP hD hS hl
  exact lv_dup hx hb hdg hva (kk H locs ls hP hD hS hl)
theorem J_pop (C : jC E l own cc nL R J) {va : Value} (hdg : decode cc pc = .ok (.pop, 1)) (hva : va.category = 1) (kk : J (pc + 1) lv (st) ws cs ss) : J pc lv (va :: st) ws cs ss := by
  obtain ⟨p, e, s, m, args, below, meth, c, Q, A, ⟨hx, hb, hml, hown, hts, hA, hK, hST, hlocks⟩, rfl⟩ := C
  intro H locs ls hP hD hS hl
  exact lv_pop hx hb hdg hva (kk H locs ls hP hD hS hl)
theorem J_dup2 (C : jC E l own cc nL R J) {va vb : Value} (hdg : decode cc pc = .ok (.dup2, 1)) (hva : va.category = 1) (hvb : vb.category = 1) (kk : J (pc + 1) lv (va :: vb :: va :: vb :: st) ws cs ss) : J pc lv (va :: vb :: st) ws cs ss := by
  obtain ⟨p, e, s, m, args, below, meth, c, Q, A, ⟨hx, hb, hml, hown, hts, hA, hK, hST, hlocks⟩, rfl⟩ := C
  intro H locs ls hP hD hS hl
  exact lv_dup2_11 hx hb hdg hva hvb (kk H locs ls hP hD hS hl)
theorem J_goto (C : jC E l own cc nL R J) {off : Int} (tgt : Nat) (hdg : decode cc pc = .ok (.goto off, 3)) (ht : (pc : Int) + off = (tgt : Int)) (kk : J tgt lv st ws cs ss) : J pc lv (st) ws cs ss := by
  obtain ⟨p, e, s, m, args, below, meth, c, Q, A, ⟨hx, hb, hml, hown, hts, hA, hK, hST, hlocks⟩, rfl⟩ := C
  intro H locs ls hP hD hS hl
  exact lv_goto hx hb hdg ht (kk H locs ls hP hD hS hl)
theorem J_if_eq (C : jC E l own cc nL R J) {x : Int32} {a : Int} {off : Int} (tgt : Nat) (hxa : x.toInt = a) (hdg : decode cc pc = .ok (.ifCond .eq off, 3)) (ht : (pc : Int) + off = (tgt : Int)) (kt : a = 0 → J tgt lv st ws cs ss) (kf : a ≠ 0 → J (pc + 3) lv st ws cs ss) : J pc lv (.int x :: st) ws cs ss := by
  obtain ⟨p, e, s, m, args, below, meth, c, Q, A, ⟨hx, hb, hml, hown, hts, hA, hK, hST, hlocks⟩, rfl⟩ := C
  intro H locs ls hP hD hS hl
  exact lv_if_eq hx hb hdg ht (fun h => kt ((j_eq hxa j_z0).mp h) H locs ls hP hD hS hl) (fun h => kf (fun q => h ((j_eq hxa j_z0).mpr q)) H locs ls hP hD hS hl)
theorem J_icmp_eq (C : jC E l own cc nL R J) {x y : Int32} {a b : Int} {off : Int} (tgt : Nat) (hxa : x.toInt = a) (hyb : y.toInt = b) (hdg : decode cc pc = .ok (.if_icmp .eq off, 3)) (ht : (pc : Int) + off = (tgt : Int)) (kt : a = b → J tgt lv st ws cs ss) (kf : a ≠ b → J (pc + 3) lv st ws cs ss) : J pc lv (.int y :: .int x :: st) ws cs ss := by
  obtain ⟨p, e, s, m, args, below, meth, c, Q, A, ⟨hx, hb, hml, hown, hts, hA, hK, hST, hlocks⟩, rfl⟩ := C
  intro H locs ls hP hD hS hl
  exact lv_icmp_eq hx hb hdg ht (fun h => kt ((j_eq hxa hyb).mp h) H locs ls hP hD hS hl) (fun h => kf (fun q => h ((j_eq hxa hyb).mpr q)) H locs ls hP hD hS hl)
theorem J_if_ne (C : jC E l own cc nL R J) {x : Int32} {a : Int} {off : Int} (tgt : Nat) (hxa : x.toInt = a) (hdg : decode cc pc = .ok (.ifCond .ne off, 3)) (ht : (pc : Int) + off = (tgt : Int)) (kt : a ≠ 0 → J tgt lv st ws cs ss) (kf : a = 0 → J (pc + 3) lv st ws cs ss) : J pc lv (.int x :: st) ws cs ss := by
  obtain ⟨p, e, s, m, args, below, meth, c, Q, A, ⟨hx, hb, hml, hown, hts, hA, hK, hST, hlocks⟩, rfl⟩ := C
  intro H locs ls hP hD hS hl
  exact lv_if_ne hx hb hdg ht (fun h => kt (fun q => h ((j_eq hxa j_z0).mpr q)) H locs ls hP hD hS hl) (fun h => kf ((j_eq hxa j_z0).mp h) H locs ls hP hD hS hl)
theorem J_icmp_ne (C : jC E l own cc nL R J) {x y : Int32} {a b : Int} {off : Int} (tgt : Nat) (hxa : x.toInt = a) (hyb : y.toInt = b) (hdg : decode cc pc = .ok (.if_icmp .ne off, 3)) (ht : (pc : Int) + off = (tgt : Int)) (kt : a ≠ b → J tgt lv st ws cs ss) (kf : a = b → J (pc + 3) lv st ws cs ss) : J pc lv (.int y :: .int x :: st) ws cs ss := by
  obtain ⟨p, e, s, m, args, below, meth, c, Q, A, ⟨hx, hb, hml, hown, hts, hA, hK, hST, hlocks⟩, rfl⟩ := C
  intro H locs ls hP hD hS hl
  exact lv_icmp_ne hx hb hdg ht (fun h => kt (fun q => h ((j_eq hxa hyb).mpr q)) H locs ls hP hD hS hl) (fun h => kf ((j_eq hxa hyb).mp h) H locs ls hP hD hS hl)
theorem J_if_lt (C : jC E l own cc nL R J) {x : Int32} {a : Int} {off : Int} (tgt : Nat) (hxa : x.toInt = a) (hdg : decode cc pc = .ok (.ifCond .lt off, 3)) (ht : (pc : Int) + off = (tgt : Int)) (kt : a < 0 → J tgt lv st ws cs ss) (kf : 0 ≤ a → J (pc + 3) lv st ws cs ss) : J pc lv (.int x :: st) ws cs ss := by
  obtain ⟨p, e, s, m, args, below, meth, c, Q, A, ⟨hx, hb, hml, hown, hts, hA, hK, hST, hlocks⟩, rfl⟩ := C
  intro H locs ls hP hD hS hl
  exact lv_if_lt hx hb hdg ht (fun h => kt ((j_lt hxa j_z0).mp h) H locs ls hP hD hS hl) (fun h => kf (by have := mt (j_lt hxa j_z0).mpr h; omega) H locs ls hP hD hS hl)
theorem J_icmp_lt (C : jC E l own cc nL R J) {x y : Int32} {a b : Int} {off : Int} (tgt : Nat) (hxa : x.toInt = a) (hyb : y.toInt = b) (hdg : decode cc pc = .ok (.if_icmp .lt off, 3)) (ht : (pc : Int) + off = (tgt : Int)) (kt : a < b → J tgt lv st ws cs ss) (kf : b ≤ a → J (pc + 3) lv st ws cs ss) : J pc lv (.int y :: .int x :: st) ws cs ss := by
  obtain ⟨p, e, s, m, args, below, meth, c, Q, A, ⟨hx, hb, hml, hown, hts, hA, hK, hST, hlocks⟩, rfl⟩ := C
  intro H locs ls hP hD hS hl
  exact lv_icmp_lt hx hb hdg ht (fun h => kt ((j_lt hxa hyb).mp h) H locs ls hP hD hS hl) (fun h => kf (by have := mt (j_lt hxa hyb).mpr h; omega) H locs ls hP hD hS hl)
theorem J_if_ge (C : jC E l own cc nL R J) {x : Int32} {a : Int} {off : Int} (tgt : Nat) (hxa : x.toInt = a) (hdg : decode cc pc = .ok (.ifCond .ge off, 3)) (ht : (pc : Int) + off = (tgt : Int)) (kt : 0 ≤ a → J tgt lv st ws cs ss) (kf : a < 0 → J (pc + 3) lv st ws cs ss) : J pc lv (.int x :: st) ws cs ss := by
  obtain ⟨p, e, s, m, args, below, meth, c, Q, A, ⟨hx, hb, hml, hown, hts, hA, hK, hST, hlocks⟩, rfl⟩ := C
  intro H locs ls hP hD hS hl
  exact lv_if_ge hx hb hdg ht (fun h => kt ((j_le j_z0 hxa).mp h) H locs ls hP hD hS hl) (fun h => kf (by have := mt (j_le j_z0 hxa).mpr h; omega) H locs ls hP hD hS hl)
theorem J_icmp_ge (C : jC E l own cc nL R J) {x y : Int32} {a b : Int} {off : Int} (tgt : Nat) (hxa : x.toInt = a) (hyb : y.toInt = b) (hdg : decode cc pc = .ok (.if_icmp .ge off, 3)) (ht : (pc : Int) + off = (tgt : Int)) (kt : b ≤ a → J tgt lv st ws cs ss) (kf : a < b → J (pc + 3) lv st ws cs ss) : J pc lv (.int y :: .int x :: st) ws cs ss := by
  obtain ⟨p, e, s, m, args, below, meth, c, Q, A, ⟨hx, hb, hml, hown, hts, hA, hK, hST, hlocks⟩, rfl⟩ := C
  intro H locs ls hP hD hS hl
  exact lv_icmp_ge hx hb hdg ht (fun h => kt ((j_le hyb hxa).mp h) H locs ls hP hD hS hl) (fun h => kf (by have := mt (j_le hyb hxa).mpr h; omega) H locs ls hP hD hS hl)
theorem J_if_gt (C : jC E l own cc nL R J) {x : Int32} {a : Int} {off : Int} (tgt : Nat) (hxa : x.toInt = a) (hdg : decode cc pc = .ok (.ifCond .gt off, 3)) (ht : (pc : Int) + off = (tgt : Int)) (kt : 0 < a → J tgt lv st ws cs ss) (kf : a ≤ 0 → J (pc + 3) lv st ws cs ss) : J pc lv (.int x :: st) ws cs ss := by
  obtain ⟨p, e, s, m, args, below, meth, c, Q, A, ⟨hx, hb, hml, hown, hts, hA, hK, hST, hlocks⟩, rfl⟩ := C
  intro H locs ls hP hD hS hl
  exact lv_if_gt hx hb hdg ht (fun h => kt ((j_lt j_z0 hxa).mp h) H locs ls hP hD hS hl) (fun h => kf (by have := mt (j_lt j_z0 hxa).mpr h; omega) H locs ls hP hD hS hl)
theorem J_icmp_gt (C : jC E l own cc nL R J) {x y : Int32} {a b : Int} {off : Int} (tgt : Nat) (hxa : x.toInt = a) (hyb : y.toInt = b) (hdg : decode cc pc = .ok (.if_icmp .gt off, 3)) (ht : (pc : Int) + off = (tgt : Int)) (kt : b < a → J tgt lv st ws cs ss) (kf : a ≤ b → J (pc + 3) lv st ws cs ss) : J pc lv (.int y :: .int x :: st) ws cs ss := by
  obtain ⟨p, e, s, m, args, below, meth, c, Q, A, ⟨hx, hb, hml, hown, hts, hA, hK, hST, hlocks⟩, rfl⟩ := C
  intro H locs ls hP hD hS hl
  exact lv_icmp_gt hx hb hdg ht (fun h => kt ((j_lt hyb hxa).mp h) H locs ls hP hD hS hl) (fun h => kf (by have := mt (j_lt hyb hxa).mpr h; omega) H locs ls hP hD hS hl)
theorem J_if_le (C : jC E l own cc nL R J) {x : Int32} {a : Int} {off : Int} (tgt : Nat) (hxa : x.toInt = a) (hdg : decode cc pc = .ok (.ifCond .le off, 3)) (ht : (pc : Int) + off = (tgt : Int)) (kt : a ≤ 0 → J tgt lv st ws cs ss) (kf : 0 < a → J (pc + 3) lv st ws cs ss) : J pc lv (.int x :: st) ws cs ss := by
  obtain ⟨p, e, s, m, args, below, meth, c, Q, A, ⟨hx, hb, hml, hown, hts, hA, hK, hST, hlocks⟩, rfl⟩ := C
  intro H locs ls hP hD hS hl
  exact lv_if_le hx hb hdg ht (fun h => kt ((j_le hxa j_z0).mp h) H locs ls hP hD hS hl) (fun h => kf (by have := mt (j_le hxa j_z0).mpr h; omega) H locs ls hP hD hS hl)
theorem J_icmp_le (C : jC E l own cc nL R J) {x y : Int32} {a b : Int} {off : Int} (tgt : Nat) (hxa : x.toInt = a) (hyb : y.toInt = b) (hdg : decode cc pc = .ok (.if_icmp .le off, 3)) (ht : (pc : Int) + off = (tgt : Int)) (kt : a ≤ b → J tgt lv st ws cs ss) (kf : b < a → J (pc + 3) lv st ws cs ss) : J pc lv (.int y :: .int x :: st) ws cs ss := by
  obtain ⟨p, e, s, m, args, below, meth, c, Q, A, ⟨hx, hb, hml, hown, hts, hA, hK, hST, hlocks⟩, rfl⟩ := C
  intro H locs ls hP hD hS hl
  exact lv_icmp_le hx hb hdg ht (fun h => kt ((j_le hxa hyb).mp h) H locs ls hP hD hS hl) (fun h => kf (by have := mt (j_le hxa hyb).mpr h; omega) H locs ls hP hD hS hl)
theorem J_ifnonnull (C : jC E l own cc nL R J) {x : Nat} {off : Int} (tgt : Nat) (hdg : decode cc pc = .ok (.ifnonnull off, 3)) (ht : (pc : Int) + off = (tgt : Int)) (kk : J tgt lv st ws cs ss) : J pc lv (.ref x :: st) ws cs ss := by
  obtain ⟨p, e, s, m, args, below, meth, c, Q, A, ⟨hx, hb, hml, hown, hts, hA, hK, hST, hlocks⟩, rfl⟩ := C
  intro H locs ls hP hD hS hl
  exact lv_ifnonnull hx hb hdg ht (kk H locs ls hP hD hS hl)
theorem J_ifnonnullN (C : jC E l own cc nL R J) {off : Int} (hdg : decode cc pc = .ok (.ifnonnull off, 3)) (kk : J (pc + 3) lv st ws cs ss) : J pc lv (.null :: st) ws cs ss := by
  obtain ⟨p, e, s, m, args, below, meth, c, Q, A, ⟨hx, hb, hml, hown, hts, hA, hK, hST, hlocks⟩, rfl⟩ := C
  intro H locs ls hP hD hS hl
  exact lv_ifnonnullN hx hb hdg (kk H locs ls hP hD hS hl)
theorem J_tswOut (C : jC E l own cc nL R J) {dflt lo hi : Int} {offs : Array Int} {len : Nat} {x : Int32} (tgt : Nat) (hdg : decode cc pc = .ok (.tableswitch dflt lo hi offs, len)) (h : x.toInt < lo ∨ hi < x.toInt) (ht : (pc : Int) + dflt = (tgt : Int)) (kk : J tgt lv st ws cs ss) : J pc lv (.int x :: st) ws cs ss := by
  obtain ⟨p, e, s, m, args, below, meth, c, Q, A, ⟨hx, hb, hml, hown, hts, hA, hK, hST, hlocks⟩, rfl⟩ := C
  intro H locs ls hP hD hS hl
  exact lv_tableOut hx hb hdg h ht (kk H locs ls hP hD hS hl)
theorem J_tswIn (C : jC E l own cc nL R J) {dflt lo hi : Int} {offs : Array Int} {len : Nat} {x : Int32} {off : Int} (tgt : Nat) (hdg : decode cc pc = .ok (.tableswitch dflt lo hi offs, len)) (h1 : ¬ x.toInt < lo) (h2 : ¬ hi < x.toInt) (ho : offs[(x.toInt - lo).toNat]? = some off) (ht : (pc : Int) + off = (tgt : Int)) (kk : J tgt lv st ws cs ss) : J pc lv (.int x :: st) ws cs ss := by
  obtain ⟨p, e, s, m, args, below, meth, c, Q, A, ⟨hx, hb, hml, hown, hts, hA, hK, hST, hlocks⟩, rfl⟩ := C
  intro H locs ls hP hD hS hl
  exact lv_tableIn hx hb hdg h1 h2 ho ht (kk H locs ls hP hD hS hl)
theorem J_get (C : jC E l own cc nL R J) {Cn : String} {T : u_T} {N ci index a : Nat} {fs : List Value} {v : Value} (q0 k : Nat) (hin : ∀ w ∈ u_ws Cn T N, w ∈ jTW) (he : ws[q0]? = some (a, .inr (ci, fs))) (hc : vwCl[ci]? = some (Cn, T, N)) (hk : k < N) (hlink : Cond.fieldLink own index (T k).1 (T k).2.1 (T k).2.2.1 ∈ jTW) (hv : fs[k]? = some v) (hdg : decode cc pc = .ok (.getfield index, 3)) (kk : J (pc + 3) lv (v :: st) ws cs ss) : J pc lv (.ref a :: st) ws cs ss := by
  obtain ⟨p, e, s, m, args, below, meth, c, Q, A, ⟨hx, hb, hml, hown, hts, hA, hK, hST, hlocks⟩, rfl⟩ := C
  intro H locs ls hP hD hS hl
  exact va_get hx hb hts hin hown hK hP q0 he hc k hk (hts _ hlink) (fun _ h => h) hv hdg (kk H locs ls hP hD hS hl)
theorem J_put (C : jC E l own cc nL R J) {Cn : String} {T : u_T} {N ci index a : Nat} {fs : List Value} {v : Value} {ws' : va_W} (q0 k : Nat) (ty0 : Nat → FieldType) (hin : ∀ w ∈ u_ws Cn T N, w ∈ jTW) (hty : ∀ k, k < N → parseFieldDescriptor (T k).2.2.1 = some (ty0 k)) (hnm : ∀ a, a < N → ∀ b, b < N → a ≠ b → (T a).2.1 ≠ (T b).2.1) (he : ws[q0]? = some (a, .inr (ci, fs))) (hc : vwCl[ci]? = some (Cn, T, N)) (hk : k < N) (hlink : Cond.fieldLink own index (T k).1 (T k).2.1 (T k).2.2.1 ∈ jTW) (hfin : (T k).2.2.2 = false) (hn : narrow (ty0 k) v = v) (hfit : fits (ty0 k) v = true) (hlen : k < fs.length) (hdg : decode cc pc = .ok (.putfield index, 3)) (hw : ws.set q0 (a, .inr (ci, fs.set k v)) = ws') (kk : J (pc + 3) lv st ws' cs ss) : J pc lv (v :: .ref a :: st) ws cs ss := by
  obtain ⟨p, e, s, m, args, below, meth, c, Q, A, ⟨hx, hb, hml, hown, hts, hA, hK, hST, hlocks⟩, rfl⟩ := C
  intro H locs ls hP hD hS hl
  subst hw
  exact va_put hx hb hts hin ty0 hty hnm hown hK hP hD hS q0 he hc k hk (hts _ hlink) (fun _ h => h) hfin (hty k hk) hn hfit hlen hdg (fun H1 locs1 hP1 hD1 hS1 => kk H1 locs1 ls hP1 hD1 hS1 hl)
theorem J_new (C : jC E l own cc nL R J) {Cn : String} {T : u_T} {N ci index : Nat} {fs : List Value} (ty : Nat → FieldType) (hin : ∀ w ∈ u_ws Cn T N, w ∈ jTW) (hty : ∀ k, k < N → parseFieldDescriptor (T k).2.2.1 = some (ty k)) (hcl : Cond.classLink own index Cn ∈ jTW) (hinst : Cond.instantiable Cn N ∈ jTW) (hini : Cond.initialized Cn ∈ jTW) (hc : vwCl[ci]? = some (Cn, T, N)) (hfs : ∀ j, j < N → defaultValue (ty j) = vp_V fs j) (hcells : cs + 1 ≤ R.cells) (hslots : ss + N ≤ R.slots) (hdg : decode cc pc = .ok (.new index, 3)) (kk : ∀ q : Nat, J (pc + 3) lv (.ref q :: st) (ws ++ [(q, .inr (ci, fs))]) (cs + 1) (ss + N)) : J pc lv (st) ws cs ss := by
  obtain ⟨p, e, s, m, args, below, meth, c, Q, A, ⟨hx, hb, hml, hown, hts, hA, hK, hST, hlocks⟩, rfl⟩ := C
  intro H locs ls hP hD hS hl
  exact va_new hx hb hts hin ty hty hown (hts _ hcl) (hts _ hinst) (hts _ hini) hK hP hD hS hA hc hfs hcells hslots hdg (fun q H1 hP1 hD1 hS1 => kk q H1 locs ls hP1 hD1 hS1 hl)
theorem J_objInit (C : jC E l own cc nL R J) {idx a : Nat} (h1 : Cond.methodLink own idx Lib.objectInit ∈ jTW) (h2 : Cond.instanceMethod Lib.objectInit ∈ jTW) (h3 : Cond.code Lib.objectInit ⟨#[0xb1]⟩ 1 none ∈ jTW) (hdg : decode cc pc = .ok (.invokespecial idx, 3)) (hf : 1 ≤ R.frames) (hlo : (st.map fun v => v.category).sum + 12 ≤ R.locals) (kk : J (pc + 3) lv st ws cs ss) : J pc lv (.ref a :: st) ws cs ss := by
  obtain ⟨p, e, s, m, args, below, meth, c, Q, A, ⟨hx, hb, hml, hown, hts, hA, hK, hST, hlocks⟩, rfl⟩ := C
  intro H locs ls hP hD hS hl
  exact W.objInit hx hb hown (hts _ h1) (hts _ h2) (hts _ h3) rfl (by rw [hml]; exact hl.1) rfl hdg hf (by show 2 * 0 + _ + 12 ≤ _; omega) (kk H locs ls hP hD hS hl)
theorem J_gets (C : jC E l own cc nL R J) {index : Nat} (hlink : Cond.fieldLink own index "ReversibleParts$Forms" "START" "[I" ∈ jTW) (hdg : decode cc pc = .ok (.getstatic index, 3)) (kk : J (pc + 3) lv (.ref (E.2 4) :: st) ws cs ss) : J pc lv (st) ws cs ss := by
  obtain ⟨p, e, s, m, args, below, meth, c, Q, A, ⟨hx, hb, hml, hown, hts, hA, hK, hST, hlocks⟩, rfl⟩ := C
  intro H locs ls hP hD hS hl
  exact va_gets hx hb hST.1 hS hown (hts _ hlink) (fun _ h => h) hdg (kk H locs ls hP hD hS hl)
theorem J_tald (C : jC E l own cc nL R J) {i : Nat} (hi : i < 4) (hdg : decode cc pc = .ok (.iaload, 1)) (kk : J (pc + 1) lv (.int (nI (jsT i)) :: st) ws cs ss) : J pc lv (.int (nI i) :: .ref (E.2 4) :: st) ws cs ss := by
  obtain ⟨p, e, s, m, args, below, meth, c, Q, A, ⟨hx, hb, hml, hown, hts, hA, hK, hST, hlocks⟩, rfl⟩ := C
  intro H locs ls hP hD hS hl
  exact va_ti hx hb hST.2.1 hS (vp_in_nI hi (by omega)) (by rw [nI_clamp (by omega)]) hdg (kk H locs ls hP hD hS hl)
theorem J_iald (C : jC E l own cc nL R J) {i n a : Nat} {f : Nat → Int32} (q0 : Nat) (ha : ws[q0]? = some (a, .inl (E.2 0, n, .inl f))) (hn : n < 2 ^ 31) (hi : i < n) (hdg : decode cc pc = .ok (.iaload, 1)) (kk : J (pc + 1) lv (.int (f i) :: st) ws cs ss) : J pc lv (.int (nI i) :: .ref a :: st) ws cs ss := by
  obtain ⟨p, e, s, m, args, below, meth, c, Q, A, ⟨hx, hb, hml, hown, hts, hA, hK, hST, hlocks⟩, rfl⟩ := C
  intro H locs ls hP hD hS hl
  have ec := nI_clamp (n := i) (by omega)
  refine va_iald hx hb hK hP q0 0 ha rfl (vp_in_nI hi hn) hdg ?_
  rw [ec]
  exact kk H locs ls hP hD hS hl
theorem J_lald (C : jC E l own cc nL R J) {i n a : Nat} {f : Nat → Int64} (q0 : Nat) (ha : ws[q0]? = some (a, .inl (E.2 1, n, .inr (.inl f)))) (hn : n < 2 ^ 31) (hi : i < n) (hdg : decode cc pc = .ok (.laload, 1)) (kk : J (pc + 1) lv (.long (f i) :: st) ws cs ss) : J pc lv (.int (nI i) :: .ref a :: st) ws cs ss := by
  obtain ⟨p, e, s, m, args, below, meth, c, Q, A, ⟨hx, hb, hml, hown, hts, hA, hK, hST, hlocks⟩, rfl⟩ := C
  intro H locs ls hP hD hS hl
  have ec := nI_clamp (n := i) (by omega)
  refine va_lald hx hb hK hP q0 1 ha rfl (vp_in_nI hi hn) hdg ?_
  rw [ec]
  exact kk H locs ls hP hD hS hl
theorem J_zald (C : jC E l own cc nL R J) {i n a : Nat} {f : Nat → Int32} (q0 : Nat) (ha : ws[q0]? = some (a, .inl (E.2 2, n, .inl f))) (hn : n < 2 ^ 31) (hi : i < n) (hdg : decode cc pc = .ok (.baload, 1)) (kk : J (pc + 1) lv (.int (f i) :: st) ws cs ss) : J pc lv (.int (nI i) :: .ref a :: st) ws cs ss := by
  obtain ⟨p, e, s, m, args, below, meth, c, Q, A, ⟨hx, hb, hml, hown, hts, hA, hK, hST, hlocks⟩, rfl⟩ := C
  intro H locs ls hP hD hS hl
  have ec := nI_clamp (n := i) (by omega)
  refine va_zald hx hb hK hP q0 2 ha rfl (vp_in_nI hi hn) hdg ?_
  rw [ec]
  exact kk H locs ls hP hD hS hl
theorem J_aald (C : jC E l own cc nL R J) {i n a : Nat} {f : Nat → Option Nat} (q0 : Nat) (ha : ws[q0]? = some (a, .inl (E.2 3, n, .inr (.inr (.inr (.inr f)))))) (hn : n < 2 ^ 31) (hi : i < n) (hdg : decode cc pc = .ok (.aaload, 1)) (kk : J (pc + 1) lv (va_rf (f i) :: st) ws cs ss) : J pc lv (.int (nI i) :: .ref a :: st) ws cs ss := by
  obtain ⟨p, e, s, m, args, below, meth, c, Q, A, ⟨hx, hb, hml, hown, hts, hA, hK, hST, hlocks⟩, rfl⟩ := C
  intro H locs ls hP hD hS hl
  have ec := nI_clamp (n := i) (by omega)
  refine va_aldq hx hb hK hP q0 3 ha rfl (vp_in_nI hi hn) hdg ?_
  rw [ec]
  exact kk H locs ls hP hD hS hl
theorem J_iast (C : jC E l own cc nL R J) {i n a : Nat} {f : Nat → Int32} {x : Int32} {ws' : va_W} (q0 : Nat) (ha : ws[q0]? = some (a, .inl (E.2 0, n, .inl f))) (hn : n < 2 ^ 31) (hi : i < n) (hdg : decode cc pc = .ok (.iastore, 1)) (hw : ws.set q0 (a, .inl (E.2 0, n, .inl (upd f i x))) = ws') (kk : J (pc + 1) lv st ws' cs ss) : J pc lv (.int x :: .int (nI i) :: .ref a :: st) ws cs ss := by
  obtain ⟨p, e, s, m, args, below, meth, c, Q, A, ⟨hx, hb, hml, hown, hts, hA, hK, hST, hlocks⟩, rfl⟩ := C
  intro H locs ls hP hD hS hl
  have ec := nI_clamp (n := i) (by omega)
  subst hw
  refine va_iast hx hb hK hP hD hS q0 0 ha rfl (vp_in_nI hi hn) hdg ?_
  rw [ec]
  exact fun H1 locs1 hP1 hD1 hS1 => kk H1 locs1 ls hP1 hD1 hS1 hl
theorem J_iastN (C : jC E l own cc nL R J) {i n a v : Nat} {t : Nat → Nat} {ws' : va_W} (q0 : Nat) (ha : ws[q0]? = some (kI E a n t)) (hn : n < 2 ^ 31) (hi : i < n) (hdg : decode cc pc = .ok (.iastore, 1)) (hw : ws.set q0 (kI E a n (upN t i v)) = ws') (kk : J (pc + 1) lv st ws' cs ss) : J pc lv (.int (nI v) :: .int (nI i) :: .ref a :: st) ws cs ss := by
  obtain ⟨p, e, s, m, args, below, meth, c, Q, A, ⟨hx, hb, hml, hown, hts, hA, hK, hST, hlocks⟩, rfl⟩ := C
  intro H locs ls hP hD hS hl
  have ec := nI_clamp (n := i) (by omega)
  subst hw
  refine va_iast hx hb hK hP hD hS q0 0 ha rfl (vp_in_nI hi hn) hdg ?_
  rw [ec, upN_nI]
  exact fun H1 locs1 hP1 hD1 hS1 => kk H1 locs1 ls hP1 hD1 hS1 hl
theorem J_last (C : jC E l own cc nL R J) {i n a : Nat} {f : Nat → Int64} {x : Int64} {ws' : va_W} (q0 : Nat) (ha : ws[q0]? = some (a, .inl (E.2 1, n, .inr (.inl f)))) (hn : n < 2 ^ 31) (hi : i < n) (hdg : decode cc pc = .ok (.lastore, 1)) (hw : ws.set q0 (a, .inl (E.2 1, n, .inr (.inl (vp_updL f i x)))) = ws') (kk : J (pc + 1) lv st ws' cs ss) : J pc lv (.long x :: .int (nI i) :: .ref a :: st) ws cs ss := by
  obtain ⟨p, e, s, m, args, below, meth, c, Q, A, ⟨hx, hb, hml, hown, hts, hA, hK, hST, hlocks⟩, rfl⟩ := C
  intro H locs ls hP hD hS hl
  have ec := nI_clamp (n := i) (by omega)
  subst hw
  refine va_last hx hb hK hP hD hS q0 1 ha rfl (vp_in_nI hi hn) hdg ?_
  rw [ec]
  exact fun H1 locs1 hP1 hD1 hS1 => kk H1 locs1 ls hP1 hD1 hS1 hl
theorem J_zast (C : jC E l own cc nL R J) {i n a : Nat} {f : Nat → Int32} {x : Int32} {ws' : va_W} (q0 : Nat) (ha : ws[q0]? = some (a, .inl (E.2 2, n, .inl f))) (hn : n < 2 ^ 31) (hi : i < n) (hdg : decode cc pc = .ok (.bastore, 1)) (hnar : vp_nar .boolean x = x) (hw : ws.set q0 (a, .inl (E.2 2, n, .inl (upd f i x))) = ws') (kk : J (pc + 1) lv st ws' cs ss) : J pc lv (.int x :: .int (nI i) :: .ref a :: st) ws cs ss := by
  obtain ⟨p, e, s, m, args, below, meth, c, Q, A, ⟨hx, hb, hml, hown, hts, hA, hK, hST, hlocks⟩, rfl⟩ := C
  intro H locs ls hP hD hS hl
  have ec := nI_clamp (n := i) (by omega)
  subst hw
  refine va_zast hx hb hK hP hD hS q0 2 ha rfl (vp_in_nI hi hn) hdg ?_
  rw [ec, hnar]
  exact fun H1 locs1 hP1 hD1 hS1 => kk H1 locs1 ls hP1 hD1 hS1 hl
theorem J_aast (C : jC E l own cc nL R J) {i n a v ci : Nat} {T : u_T} {N : Nat} {vs : List Value} {f : Nat → Option Nat} {ws' : va_W} (q0 qk : Nat) (ha : ws[q0]? = some (a, .inl (E.2 3, n, .inr (.inr (.inr (.inr f)))))) (hv : ws[qk]? = some (v, .inr (ci, vs))) (hc : vwCl[ci]? = some ("ReversibleParts$Moves", T, N)) (hn : n < 2 ^ 31) (hi : i < n) (hdg : decode cc pc = .ok (.aastore, 1)) (hw : ws.set q0 (a, .inl (E.2 3, n, .inr (.inr (.inr (.inr (va_up f i (some v))))))) = ws') (kk : J (pc + 1) lv st ws' cs ss) : J pc lv (.ref v :: .int (nI i) :: .ref a :: st) ws cs ss := by
  obtain ⟨p, e, s, m, args, below, meth, c, Q, A, ⟨hx, hb, hml, hown, hts, hA, hK, hST, hlocks⟩, rfl⟩ := C
  intro H locs ls hP hD hS hl
  have ec := nI_clamp (n := i) (by omega)
  subst hw
  refine va_astq hx hb hK hP hD hS q0 3 qk ci ha rfl hv hc (vp_in_nI hi hn) hdg ?_
  rw [ec]
  exact fun H1 locs1 hP1 hD1 hS1 => kk H1 locs1 ls hP1 hD1 hS1 hl
theorem J_aastN (C : jC E l own cc nL R J) {i n a : Nat} {f : Nat → Option Nat} {ws' : va_W} (q0 : Nat) (ha : ws[q0]? = some (a, .inl (E.2 3, n, .inr (.inr (.inr (.inr f)))))) (hn : n < 2 ^ 31) (hi : i < n) (hdg : decode cc pc = .ok (.aastore, 1)) (hw : ws.set q0 (a, .inl (E.2 3, n, .inr (.inr (.inr (.inr (va_up f i none)))))) = ws') (kk : J (pc + 1) lv st ws' cs ss) : J pc lv (.null :: .int (nI i) :: .ref a :: st) ws cs ss := by
  obtain ⟨p, e, s, m, args, below, meth, c, Q, A, ⟨hx, hb, hml, hown, hts, hA, hK, hST, hlocks⟩, rfl⟩ := C
  intro H locs ls hP hD hS hl
  have ec := nI_clamp (n := i) (by omega)
  subst hw
  refine va_astqN hx hb hK hP hD hS q0 3 ha rfl (vp_in_nI hi hn) hdg ?_
  rw [ec]
  exact fun H1 locs1 hP1 hD1 hS1 => kk H1 locs1 ls hP1 hD1 hS1 hl
theorem J_alen (C : jC E l own cc nL R J) {a n : Nat} {x : (Nat → Int32) ⊕ (Nat → Int64) ⊕ (Nat → UInt32) ⊕ (Nat → UInt64) ⊕ (Nat → Option Nat)} {ca : Nat} {ty : FieldType} (q0 t0 : Nat) (ha : ws[q0]? = some (a, .inl (ca, n, x))) (ht : (jTys E)[t0]? = some (ca, ty)) (hdg : decode cc pc = .ok (.arraylength, 1)) (kk : J (pc + 1) lv (.int (nI n) :: st) ws cs ss) : J pc lv (.ref a :: st) ws cs ss := by
  obtain ⟨p, e, s, m, args, below, meth, c, Q, A, ⟨hx, hb, hml, hown, hts, hA, hK, hST, hlocks⟩, rfl⟩ := C
  intro H locs ls hP hD hS hl
  exact va_alen hx hb hK hP q0 t0 ha ht rfl hdg (kk H locs ls hP hD hS hl)
theorem J_newaI (C : jC E l own cc nL R J) {n : Nat} (hw : Cond.arrayClass .int ∈ jTW) (hn : n < 2 ^ 24) (hcells : cs + 1 ≤ R.cells) (hslots : ss + n ≤ R.slots) (hdg : decode cc pc = .ok (.newarray .int, 2)) (kk : ∀ q : Nat, J (pc + 2) lv (.ref q :: st) (ws ++ [kI E q n (fun _ => 0)]) (cs + 1) (ss + n)) : J pc lv (.int (nI n) :: st) ws cs ss := by
  obtain ⟨p, e, s, m, args, below, meth, c, Q, A, ⟨hx, hb, hml, hown, hts, hA, hK, hST, hlocks⟩, rfl⟩ := C
  intro H locs ls hP hD hS hl
  refine va_newa (atype := .int) hx hb (hts _ hw) (ty := .int) rfl hK hP hD hS hA (a0 := (n, .inl (fun _ => nI 0))) (fun _ => rfl) (nI_pos (by omega)) (nI_clamp (by omega)) (by show n * _ ≤ _; simp only [componentBytes]; omega) hcells hslots hdg ?_
  intro q cA H1 hK1 hP1 hD1 hS1
  have e1 : cA = E.2 0 := by
    have f1 : s.vm.findClass ("[" ++ FieldType.int.toString) = some cA := (hK1.2 4 (cA, .int) rfl).2
    have f2 : s.vm.findClass ("[" ++ FieldType.int.toString) = some (E.2 0) := (hK.2 0 (E.2 0, .int) rfl).2
    exact Option.some.inj (f1.symm.trans f2)
  subst e1
  exact kk q H1 locs ls hP1 hD1 hS1 hl
theorem J_newaL (C : jC E l own cc nL R J) {n : Nat} (hw : Cond.arrayClass .long ∈ jTW) (hn : n < 2 ^ 24) (hcells : cs + 1 ≤ R.cells) (hslots : ss + n ≤ R.slots) (hdg : decode cc pc = .ok (.newarray .long, 2)) (kk : ∀ q : Nat, J (pc + 2) lv (.ref q :: st) (ws ++ [kL E q n (fun _ => 0)]) (cs + 1) (ss + n)) : J pc lv (.int (nI n) :: st) ws cs ss := by
  obtain ⟨p, e, s, m, args, below, meth, c, Q, A, ⟨hx, hb, hml, hown, hts, hA, hK, hST, hlocks⟩, rfl⟩ := C
  intro H locs ls hP hD hS hl
  refine va_newa (atype := .long) hx hb (hts _ hw) (ty := .long) rfl hK hP hD hS hA (a0 := (n, .inr (.inl (fun _ => 0)))) (fun _ => rfl) (nI_pos (by omega)) (nI_clamp (by omega)) (by show n * _ ≤ _; simp only [componentBytes]; omega) hcells hslots hdg ?_
  intro q cA H1 hK1 hP1 hD1 hS1
  have e1 : cA = E.2 1 := by
    have f1 : s.vm.findClass ("[" ++ FieldType.long.toString) = some cA := (hK1.2 4 (cA, .long) rfl).2
    have f2 : s.vm.findClass ("[" ++ FieldType.long.toString) = some (E.2 1) := (hK.2 1 (E.2 1, .long) rfl).2
    exact Option.some.inj (f1.symm.trans f2)
  subst e1
  exact kk q H1 locs ls hP1 hD1 hS1 hl
theorem J_newaZ (C : jC E l own cc nL R J) {n : Nat} (hw : Cond.arrayClass .boolean ∈ jTW) (hn : n < 2 ^ 24) (hcells : cs + 1 ≤ R.cells) (hslots : ss + n ≤ R.slots) (hdg : decode cc pc = .ok (.newarray .boolean, 2)) (kk : ∀ q : Nat, J (pc + 2) lv (.ref q :: st) (ws ++ [kZ E q n (fun _ => 0)]) (cs + 1) (ss + n)) : J pc lv (.int (nI n) :: st) ws cs ss := by
  obtain ⟨p, e, s, m, args, below, meth, c, Q, A, ⟨hx, hb, hml, hown, hts, hA, hK, hST, hlocks⟩, rfl⟩ := C
  intro H locs ls hP hD hS hl
  refine va_newa (atype := .boolean) hx hb (hts _ hw) (ty := .boolean) rfl hK hP hD hS hA (a0 := (n, .inl (fun _ => 0))) (fun _ => rfl) (nI_pos (by omega)) (nI_clamp (by omega)) (by show n * _ ≤ _; simp only [componentBytes]; omega) hcells hslots hdg ?_
  intro q cA H1 hK1 hP1 hD1 hS1
  have e1 : cA = E.2 2 := by
    have f1 : s.vm.findClass ("[" ++ FieldType.boolean.toString) = some cA := (hK1.2 4 (cA, .boolean) rfl).2
    have f2 : s.vm.findClass ("[" ++ FieldType.boolean.toString) = some (E.2 2) := (hK.2 2 (E.2 2, .boolean) rfl).2
    exact Option.some.inj (f1.symm.trans f2)
  subst e1
  exact kk q H1 locs ls hP1 hD1 hS1 hl
theorem J_newaM (C : jC E l own cc nL R J) {n index : Nat} (hw : Cond.classLink own index "ReversibleParts$Moves" ∈ jTW) (hn : n < 2 ^ 24) (hcells : cs + 1 ≤ R.cells) (hslots : ss + n ≤ R.slots) (hdg : decode cc pc = .ok (.anewarray index, 3)) (kk : ∀ q : Nat, J (pc + 3) lv (.ref q :: st) (ws ++ [kQ E q n (fun _ => none)]) (cs + 1) (ss + n)) : J pc lv (.int (nI n) :: st) ws cs ss := by
  obtain ⟨p, e, s, m, args, below, meth, c, Q, A, ⟨hx, hb, hml, hown, hts, hA, hK, hST, hlocks⟩, rfl⟩ := C
  intro H locs ls hP hD hS hl
  refine va_newq hx hb hown (hts _ hw) hST.2.2 hK hP hD hS hA (nI_pos (by omega)) (nI_clamp (by omega)) (by omega) hcells hslots hdg ?_
  intro q cA H1 hK1 hP1 hD1 hS1
  have e1 : cA = E.2 3 := by
    obtain ⟨kA, comp, -, -, -, f1⟩ := (hK1.2 4 (cA, .object "ReversibleParts$Moves") rfl).2
    obtain ⟨kA2, comp2, -, -, -, f2⟩ := (hK.2 3 (E.2 3, .object "ReversibleParts$Moves") rfl).2
    exact Option.some.inj (f1.symm.trans f2)
  subst e1
  exact kk q H1 locs ls hP1 hD1 hS1 hl
theorem J_mmax (C : jC E l own cc nL R J) {x y : Int32} {index : Nat} (h1 : Cond.methodLink own index Lib.Math.max.name ∈ jTW) (h2 : Cond.static Lib.Math.max.name ∈ jTW) (h3 : Cond.initialized "java/lang/Math" ∈ jTW) (h4 : Cond.code Lib.Math.max.name Lib.Math.max.code 2 (some .int) ∈ jTW) (hf : 1 ≤ R.frames) (hlo : (st.map fun v => v.category).sum + 13 ≤ R.locals) (hc : cs ≤ R.cells) (hs : ss ≤ R.slots) (hdg : decode cc pc = .ok (.invokestatic index, 3)) (kk : J (pc + 3) lv (.int (if x < y then y else x) :: st) ws cs ss) : J pc lv (.int y :: .int x :: st) ws cs ss := by
  obtain ⟨p, e, s, m, args, below, meth, c, Q, A, ⟨hx, hb, hml, hown, hts, hA, hK, hST, hlocks⟩, rfl⟩ := C
  intro H locs ls hP hD hS hl
  exact va_mmax hx hb (by rw [hml]; exact hl.1.symm) hown (hts _ h1) (hts _ h2) (hts _ h3) (hts _ h4) hf hlo hc hs hdg (kk H locs ls hP hD hS hl)
theorem J_mmin (C : jC E l own cc nL R J) {x y : Int32} {index : Nat} (h1 : Cond.methodLink own index Lib.Math.min.name ∈ jTW) (h2 : Cond.static Lib.Math.min.name ∈ jTW) (h3 : Cond.initialized "java/lang/Math" ∈ jTW) (h4 : Cond.code Lib.Math.min.name Lib.Math.min.code 2 (some .int) ∈ jTW) (hf : 1 ≤ R.frames) (hlo : (st.map fun v => v.category).sum + 13 ≤ R.locals) (hc : cs ≤ R.cells) (hs : ss ≤ R.slots) (hdg : decode cc pc = .ok (.invokestatic index, 3)) (kk : J (pc + 3) lv (.int (if y < x then y else x) :: st) ws cs ss) : J pc lv (.int y :: .int x :: st) ws cs ss := by
  obtain ⟨p, e, s, m, args, below, meth, c, Q, A, ⟨hx, hb, hml, hown, hts, hA, hK, hST, hlocks⟩, rfl⟩ := C
  intro H locs ls hP hD hS hl
  exact va_mmin hx hb (by rw [hml]; exact hl.1.symm) hown (hts _ h1) (hts _ h2) (hts _ h3) (hts _ h4) hf hlo hc hs hdg (kk H locs ls hP hD hS hl)
theorem J_mminL (C : jC E l own cc nL R J) {x y : Int64} {index : Nat} (h1 : Cond.methodLink own index Lib.MathLoose.min_long.x ∈ jTW) (h2 : Cond.static Lib.MathLoose.min_long.x ∈ jTW) (h3 : Cond.initialized "java/lang/Math" ∈ jTW) (h4 : Cond.code Lib.MathLoose.min_long.x Lib.MathLoose.min_long.code 4 (some .long) ∈ jTW) (hf : 1 ≤ R.frames) (hlo : (st.map fun v => v.category).sum + 15 ≤ R.locals) (hc : cs ≤ R.cells) (hs : ss ≤ R.slots) (hdg : decode cc pc = .ok (.invokestatic index, 3)) (kk : J (pc + 3) lv (.long (if y < x then y else x) :: st) ws cs ss) : J pc lv (.long y :: .long x :: st) ws cs ss := by
  obtain ⟨p, e, s, m, args, below, meth, c, Q, A, ⟨hx, hb, hml, hown, hts, hA, hK, hST, hlocks⟩, rfl⟩ := C
  intro H locs ls hP hD hS hl
  exact va_mmin_long hx hb (by rw [hml]; exact hl.1.symm) hown (hts _ h1) (hts _ h2) (hts _ h3) (hts _ h4) hf hlo hc hs hdg (kk H locs ls hP hD hS hl)
theorem J_widen (C : jC E l own cc nL R J) {k n : Nat} (h1 : cs ≤ k) (h2 : ss ≤ n) (kk : J pc lv st ws k n) : J pc lv (st) ws cs ss := by
  obtain ⟨p, e, s, m, args, below, meth, c, Q, A, ⟨hx, hb, hml, hown, hts, hA, hK, hST, hlocks⟩, rfl⟩ := C
  intro H locs ls hP hD hS hl
  exact W.widen h1 h2 (kk H locs ls hP hD hS hl)
theorem J_lv (C : jC E l own cc nL R J) {lv' : jL} (ks : List Nat) (hv : lv_pick lv ks = lv') (kk : J pc lv' st ws cs ss) : J pc lv (st) ws cs ss := by
  obtain ⟨p, e, s, m, args, below, meth, c, Q, A, ⟨hx, hb, hml, hown, hts, hA, hK, hST, hlocks⟩, rfl⟩ := C
  intro H locs ls hP hD hS hl
  exact kk H locs ls hP hD hS (lv_sub hl ks hv)
theorem J_sub (C : jC E l own cc nL R J) {ws' : va_W} (h : List.Sublist ws' ws) (kk : J pc lv st ws' cs ss) : J pc lv (st) ws cs ss := by
  obtain ⟨p, e, s, m, args, below, meth, c, Q, A, ⟨hx, hb, hml, hown, hts, hA, hK, hST, hlocks⟩, rfl⟩ := C
  intro H locs ls hP hD hS hl
  exact kk H locs ls (jP_iff.mpr fun q hq => jP_iff.mp hP q (h.subset hq)) (jD_iff.mpr ⟨(jD_iff.mp hD).1.sublist h, fun q hq => (jD_iff.mp hD).2 q (h.subset hq)⟩) hS hl
theorem J_perm (C : jC E l own cc nL R J) {ws' : va_W} (h : List.Perm ws' ws) (kk : J pc lv st ws' cs ss) : J pc lv (st) ws cs ss := by
  obtain ⟨p, e, s, m, args, below, meth, c, Q, A, ⟨hx, hb, hml, hown, hts, hA, hK, hST, hlocks⟩, rfl⟩ := C
  intro H locs ls hP hD hS hl
  exact kk H locs ls (jP_iff.mpr fun q hq => jP_iff.mp hP q (h.subset hq)) (jD_iff.mpr ⟨(h.pairwise_iff (fun hxy => Ne.symm hxy)).mpr (jD_iff.mp hD).1, fun q hq => (jD_iff.mp hD).2 q (h.subset hq)⟩) hS hl
theorem J_pick (C : jC E l own cc nL R J) {ws' : va_W} (is : List Nat) (hn : va_nd is = true) (hs : is.map (fun i => ws[i]?) = ws'.map some) (kk : J pc lv st ws' cs ss) : J pc lv (st) ws cs ss := by
  obtain ⟨p, e, s, m, args, below, meth, c, Q, A, ⟨hx, hb, hml, hown, hts, hA, hK, hST, hlocks⟩, rfl⟩ := C
  intro H locs ls hP hD hS hl
  exact kk H locs ls (hP.sub is (by
    have h := congrArg (List.filterMap id) hs
    simpa [List.filterMap_map] using h)) (hD.sub is hn hs) hS hl
theorem J_pickR (C : jC E l own cc nL R J) {X cx pl : va_W} (is : List Nat) (hn : va_nd is = true) (hs : is.map (fun i => X[i]?) = cx.map some) (kk : J pc lv st (cx ++ pl) cs ss) : J pc lv st (X ++ pl) cs ss := by
  obtain ⟨p, e, s, m, args, below, meth, c, Q, A, ⟨hx, hb, hml, hown, hts, hA, hK, hST, hlocks⟩, rfl⟩ := C
  intro H locs ls hP hD hS hl
  exact kk H locs ls (hP.part is hs) (hD.part is hn hs) hS hl
theorem J_norm (C : jC E l own cc nL R J) {st' : List Value} {ws' : va_W} {cs' ss' : Nat} (h1 : st = st') (h2 : ws = ws') (h3 : cs = cs') (h4 : ss = ss') (kk : J pc lv st' ws' cs' ss') : J pc lv st ws cs ss := by
  subst h1; subst h2; subst h3; subst h4; exact kk
theorem kI_congr {E : jE} {a n : Nat} {f g : Nat → Nat} (h : ∀ j, j < n → f j = g j) {D : va_G} {cl : List vw_C} {H : Heap} : va_at D cl (kI E a n f) H → va_at D cl (kI E a n g) H := by
  intro q
  have e : vp_cell (E.2 0) (n, .inl (fun j => nI (f j))) = vp_cell (E.2 0) (n, .inl (fun j => nI (g j))) := by
    rw [vp_cell_i, vp_cell_i]
    unfold arrV
    congr 1
    apply congrArg
    funext j
    simp only [h j.val j.isLt]
  exact (show H[a]? = some _ from q).trans (congrArg some e)
theorem kR_congr {E : jE} {a n : Nat} {f g : Nat → Int32} (h : ∀ j, j < n → f j = g j) {D : va_G} {cl : List vw_C} {H : Heap} : va_at D cl (kR E a n f) H → va_at D cl (kR E a n g) H := by
  intro q
  have e : vp_cell (E.2 0) (n, .inl f) = vp_cell (E.2 0) (n, .inl g) := by
    rw [vp_cell_i, vp_cell_i]
    unfold arrV
    congr 1
    apply congrArg
    funext j
    simp only [h j.val j.isLt]
  exact (show H[a]? = some _ from q).trans (congrArg some e)
theorem kZ_congr {E : jE} {a n : Nat} {f g : Nat → Int32} (h : ∀ j, j < n → f j = g j) {D : va_G} {cl : List vw_C} {H : Heap} : va_at D cl (kZ E a n f) H → va_at D cl (kZ E a n g) H := by
  intro q
  have e : vp_cell (E.2 2) (n, .inl f) = vp_cell (E.2 2) (n, .inl g) := by
    rw [vp_cell_i, vp_cell_i]
    unfold arrV
    congr 1
    apply congrArg
    funext j
    simp only [h j.val j.isLt]
  exact (show H[a]? = some _ from q).trans (congrArg some e)
theorem kL_congr {E : jE} {a n : Nat} {f g : Nat → Int64} (h : ∀ j, j < n → f j = g j) {D : va_G} {cl : List vw_C} {H : Heap} : va_at D cl (kL E a n f) H → va_at D cl (kL E a n g) H := by
  intro q
  have e : vp_cell (E.2 1) (n, .inr (.inl f)) = vp_cell (E.2 1) (n, .inr (.inl g)) := by
    rw [vp_cell_l, vp_cell_l]
    unfold arrV
    congr 1
    apply congrArg
    funext j
    simp only [h j.val j.isLt]
  exact (show H[a]? = some _ from q).trans (congrArg some e)
theorem J_cell (C : jC E l own cc nL R J) {a : Nat} {e0 e1 : va_E} {ws' : va_W} (q0 : Nat) (he : ws[q0]? = some (a, e0)) (h : ∀ H : Heap, va_at E.1 vwCl (a, e0) H → va_at E.1 vwCl (a, e1) H) (hw : ws.set q0 (a, e1) = ws') (kk : J pc lv st ws' cs ss) : J pc lv (st) ws cs ss := by
  obtain ⟨p, e, s, m, args, below, meth, c, Q, A, ⟨hx, hb, hml, hown, hts, hA, hK, hST, hlocks⟩, rfl⟩ := C
  intro H locs ls hP hD hS hl
  subst hw
  exact kk H locs ls (hP.set hD he (h H (hP q0 _ he)) (fun _ _ => rfl)) (hD.set he) hS hl
theorem j_back {p : Program} {e : Env} {s : State} {m : MethodId} {args : Array Value} {below : List Frame} {meth : Method} {c : Code} {Q : State → Prop} {A : Nat → Prop} {H : Heap} {locs : List Loc} {ls : Array Slot} {pre wc po : va_W} {mc ms : Nat} {rest : List Value} {post : Option Value → va_W → Prop} {a : Array Value}
    (hr : va_Run p l e R s m args below meth c H locs cs ss mc ms (F0 m pc ls st) rest (jPost E wc H.size post a) (va_A wc H.size)) (hA : ∀ q, s.heap.size ≤ q → A q) (hP : va_P E.1 vwCl (pre ++ wc ++ po) H) (hD : va_D A (pre ++ wc ++ po)) (hS : va_S A s.heap H locs) (hl : lv_has ls nL lv)
    (kk : ∀ (r : Option Value) (w' : va_W), post r w' → jV p l e R s m args below meth c Q A E nL (pc + 3) lv (r.toList ++ rest) (pre ++ w' ++ po) (cs + mc) (ss + ms)) : W p l e R s m args below meth c H locs cs ss Q (F0 m pc ls st) := by
  intro T hT X
  obtain ⟨v, st₀, t, T', L, h0, X', hL, e1, e2, ⟨⟨r, w', hv, hp, hP1, hD1⟩, hz, hk⟩, stp⟩ := hr T hT X
  cases hv
  rw [h0] at hz hk
  have hF := j_freeA hD hS hA
  obtain ⟨hP2, hD2⟩ := j_join hP hD hk hF hP1 hD1
  obtain ⟨t2, a1, b1⟩ := kk v w' hp T'.heap (locs ++ L) ls (by rw [e1]; exact hP2) hD2 ⟨Nat.le_trans hS.1 (by rw [e1]; exact hz), fun q h1 h2 => by rw [e1, hk q (Nat.lt_of_lt_of_le h1 hS.1) (fun z => h2 (hF q z))]; exact hS.2.1 q h1 h2, fun q hq => by
      rcases List.mem_append.mp hq with h | h
      · exact hS.2.2 q h
      · exact hF _ (hL q h)⟩ hl T' rfl X'
  exact ⟨t2, stp t2 a1, b1⟩
theorem j_pre {s : State} {A : Nat → Prop} {H : Heap} {locs : List Loc} {pre wc po : va_W} {av : List Value} (hA : ∀ q, s.heap.size ≤ q → A q) (hK : va_K E.1 vwCl (jTys E) s) (hST : jST E A s s.heap) (hP : va_P E.1 vwCl (pre ++ wc ++ po) H) (hD : va_D A (pre ++ wc ++ po)) (hS : va_S A s.heap H locs) : ∀ U : State, U.heap = H → s.WarmedH U.vm → jPre E av wc H.size av.toArray U := by
  intro U hU hW
  have hPc := (jP_app.mp (jP_app.mp hP).1).2
  have hDc := (jD_app.mp (jD_app.mp hD).1).2.1
  exact ⟨rfl, by rw [hU], by rw [hU]; exact hPc, va_K.moved hW.alike hK, hDc.weaken (fun _ _ _ _ => trivial), by
    rw [hU]
    exact jST.moved hW.alike ((jST.kept hST (fun q h1 h2 => hS.2.1 q h1 h2)).narrow (j_freeA hD hS hA))⟩
/-- what a method's words say: it is there, with this code -/
def jM (y : MethodName) (bc : ByteArray) (n maxL : Nat) (ret : Option FieldType) (kind : Cond) : Prop := kind ∈ jTW ∧ Cond.initialized y.cls ∈ jTW ∧ Cond.code y bc maxL ret ∈ jTW ∧ y.cls ≠ "java/lang/invoke/MethodHandle" ∧ y.cls ≠ "java/lang/invoke/VarHandle" ∧ (parseMethodDescriptor y.desc).map (fun d => d.parameters.length) = some n

theorem J_callV (C : jC E l own cc nL R J) {y : MethodName} {bc : ByteArray} {maxL n : Nat} {ret : Option FieldType} {rm : Room} {b ci index : Nat} {T : u_T} {N : Nat} {fs : List Value} {As rest : List Value} {post : Option Value → va_W → Prop} (pre wc po : va_W) (q0 : Nat) (hcon : Con E l y bc maxL ret rm (.ref b :: As) wc post) (hm : jM y bc n maxL ret (.instanceMethod y)) (hsel : Cond.selects y.cls y y ∈ jTW) (hlink : Cond.methodLink own index y ∈ jTW) (he : wc[q0]? = some (b, .inr (ci, fs))) (hc : vwCl[ci]? = some (y.cls, T, N)) (hws : ws = pre ++ wc ++ po) (hst : st = As.reverse ++ .ref b :: rest) (hn : As.length = n) (hR : rm.frames + 1 ≤ R.frames ∧ 8 + (maxL + 11) + rm.locals ≤ R.locals) (hf : cs + rm.cells ≤ R.cells ∧ ss + rm.slots ≤ R.slots) (hrest : (rest.map fun v => v.category).sum ≤ 8) (hdg : decode cc pc = .ok (.invokevirtual index, 3))
    (kk : ∀ (r : Option Value) (w' : va_W), post r w' → J (pc + 3) lv (r.toList ++ rest) (pre ++ w' ++ po) (cs + rm.cells) (ss + rm.slots)) : J pc lv st ws cs ss := by
  obtain ⟨p, e, s, m, args, below, meth, c, Q, A, ⟨hx, hb, hml, hown, hts, hA, hK, hST, hlocks⟩, rfl⟩ := C
  intro H locs ls hP hD hS hl
  subst hws; subst hst
  obtain ⟨m1, m2, m3, m4⟩ := hm
  have hG : GoodIn jTW (wsV own index y.cls y (Cond.code y bc maxL ret :: jTW)) := by
    intro w hw
    refine jgood w ?_
    simp only [wsV, List.cons_append, List.nil_append, List.mem_cons] at hw
    rcases hw with rfl | rfl | rfl | rfl | rfl | h
    · exact hlink
    · exact m1
    · exact hsel
    · exact m2
    · exact m3
    · exact h
  have hPc := (jP_app.mp (jP_app.mp hP).1).2
  exact j_back (va_runV (As := As) (rest := rest) ⟨hx, hb, hml, hown, hts⟩ (hcon H.size) (cwV n hts hG rfl rfl rfl ⟨rfl, m4⟩ hR) ⟨jPre_blind, va_recv hK hPc hc he, j_pre hA hK hST hP hD hS⟩ rfl hn hl.1 rfl (lv_room hrest) hdg hf) hA hP hD hS hl kk
theorem J_callS (C : jC E l own cc nL R J) {y : MethodName} {bc : ByteArray} {maxL n : Nat} {ret : Option FieldType} {rm : Room} {index : Nat} {As rest : List Value} {post : Option Value → va_W → Prop} (pre wc po : va_W) (hcon : Con E l y bc maxL ret rm As wc post) (hm : jM y bc n maxL ret (.static y)) (hlink : Cond.methodLink own index y ∈ jTW) (hws : ws = pre ++ wc ++ po) (hst : st = As.reverse ++ rest) (hn : As.length = n) (hR : rm.frames + 1 ≤ R.frames ∧ 8 + (maxL + 11) + rm.locals ≤ R.locals) (hf : cs + rm.cells ≤ R.cells ∧ ss + rm.slots ≤ R.slots) (hrest : (rest.map fun v => v.category).sum ≤ 8) (hdg : decode cc pc = .ok (.invokestatic index, 3))
    (kk : ∀ (r : Option Value) (w' : va_W), post r w' → J (pc + 3) lv (r.toList ++ rest) (pre ++ w' ++ po) (cs + rm.cells) (ss + rm.slots)) : J pc lv st ws cs ss := by
  obtain ⟨p, e, s, m, args, below, meth, c, Q, A, ⟨hx, hb, hml, hown, hts, hA, hK, hST, hlocks⟩, rfl⟩ := C
  intro H locs ls hP hD hS hl
  subst hws; subst hst
  obtain ⟨m1, m2, m3, m4⟩ := hm
  have hG : GoodIn jTW (va_wsS own index y (Cond.code y bc maxL ret :: jTW)) := by
    intro w hw
    refine jgood w ?_
    simp only [va_wsS, List.cons_append, List.nil_append, List.mem_cons] at hw
    rcases hw with rfl | rfl | rfl | rfl | h
    · exact hlink
    · exact m1
    · exact m2
    · exact m3
    · exact h
  exact j_back (va_runS (As := As) (rest := rest) ⟨hx, hb, hml, hown, hts⟩ (hcon H.size) (va_cwS n hts hG rfl rfl rfl m4 hR) ⟨jPre_blind, j_pre hA hK hST hP hD hS⟩ rfl hn hl.1 rfl (lv_room hrest) hdg hf) hA hP hD hS hl kk
theorem J_callI (C : jC E l own cc nL R J) {y : MethodName} {bc : ByteArray} {maxL n : Nat} {rm : Room} {b index : Nat} {As rest : List Value} {post : Option Value → va_W → Prop} (pre wc po : va_W) (hcon : Con E l y bc maxL none rm (.ref b :: As) wc post) (hm : jM y bc n maxL none (.instanceMethod y)) (hin : y.name = "<init>") (hlink : Cond.methodLink own index y ∈ jTW) (hws : ws = pre ++ wc ++ po) (hst : st = As.reverse ++ .ref b :: rest) (hn : As.length = n) (hR : rm.frames + 1 ≤ R.frames ∧ 8 + (maxL + 11) + rm.locals ≤ R.locals) (hf : cs + rm.cells ≤ R.cells ∧ ss + rm.slots ≤ R.slots) (hrest : (rest.map fun v => v.category).sum ≤ 8) (hdg : decode cc pc = .ok (.invokespecial index, 3))
    (kk : ∀ (r : Option Value) (w' : va_W), post r w' → J (pc + 3) lv (r.toList ++ rest) (pre ++ w' ++ po) (cs + rm.cells) (ss + rm.slots)) : J pc lv st ws cs ss := by
  obtain ⟨p, e, s, m, args, below, meth, c, Q, A, ⟨hx, hb, hml, hown, hts, hA, hK, hST, hlocks⟩, rfl⟩ := C
  intro H locs ls hP hD hS hl
  subst hws; subst hst
  obtain ⟨m1, m2, m3, m4⟩ := hm
  have hG : GoodIn jTW (Cond.code y bc maxL none :: jTW) := by
    intro w hw
    refine jgood w ?_
    rcases List.mem_cons.mp hw with rfl | h
    · exact m3
    · exact h
  exact j_back (va_runI (As := As) (rest := rest) ⟨hx, hb, hml, hown, hts⟩ (hcon H.size) (cwI n hts hG rfl rfl rfl (hts _ m2) (hts _ hlink) (hts _ m1) hin m4 hR) ⟨jPre_blind, j_pre hA hK hST hP hD hS⟩ rfl hn hl.1 rfl (lv_room hrest) hdg hf) hA hP hD hS hl kk
end JKW
section JKN
/-! numbers: every int that is told as nI of a natural number -/
theorem jn_and (a b : Nat) : nI a &&& nI b = nI (a &&& b) := by
  unfold nI; apply Int32.toBitVec_inj.mp; simp [Int32.toBitVec_ofNat']
theorem jn_or (a b : Nat) : nI a ||| nI b = nI (a ||| b) := by
  unfold nI; apply Int32.toBitVec_inj.mp; simp [Int32.toBitVec_ofNat']
theorem jn_xor (a b : Nat) : nI a ^^^ nI b = nI (a ^^^ b) := by
  unfold nI; apply Int32.toBitVec_inj.mp; simp [Int32.toBitVec_ofNat']
theorem jn_s31 : ∀ n, n < 32 → ((nI n &&& 31).toBitVec.smod 32).toNat = n := by decide +kernel
theorem jn_shl (a b : Nat) (hb : b < 32) : nI a <<< (nI b &&& 31) = nI (a * 2 ^ b) := by
  have h := pk_shl (nI a) (nI b &&& 31) b (jn_s31 b hb)
  apply Int32.toBitVec_inj.mp
  apply BitVec.eq_of_toNat_eq
  rw [h]
  unfold nI
  simp [Int32.toBitVec_ofNat', BitVec.toNat_ofNat, Nat.mod_mul_mod]
theorem jn_shr (a b : Nat) (ha : a < 2 ^ 31) (hb : b < 32) : nI a >>> (nI b &&& 31) = nI (a / 2 ^ b) := pk_shrN ha _ b (jn_s31 b hb)
end JKN
section JKX0
def mI (d : Nat) : Int32 := nI d - 1
theorem mI_0 : mI 0 = -1 := rfl
theorem mI_s (d : Nat) : mI (d + 1) = nI d := nI_pred d
theorem mI_toInt {d : Nat} (h : d < 2 ^ 31) : (mI d).toInt = (d : Int) - 1 := by
  cases d with
  | zero => rfl
  | succ d => rw [mI_s, nI_toInt (by omega)]; omega
theorem upd_mI (d : Nat → Nat) (k x : Nat) : upd (fun j => mI (d j)) k (mI x) = fun j => mI (upN d k x j) := by
  funext j
  unfold upd upN
  split <;> rfl
abbrev kM (E : jE) (a n : Nat) (d : Nat → Nat) : Nat × va_E := (a, .inl (E.2 0, n, .inl (fun j => mI (d j))))
abbrev kB (E : jE) (a n : Nat) (t : Nat → Nat) : Nat × va_E := (a, .inl (E.2 2, n, .inl (fun j => nI (t j))))
end JKX0
section JKX
variable {E : jE} {l : Launch} {own : String} {cc : ByteArray} {nL : Nat} {R : Room} {J : jJ} {pc : Nat} {lv : jL} {st : List Value} {ws : va_W} {cs ss : Nat}
theorem j_m1 : (-1 : Int32).toInt = -1 := rfl
theorem jn_inc (n : Nat) : nI n + Int32.ofInt 1 = nI (n + 1) := nI_1 n
theorem jn_dec {n : Nat} (h : 1 ≤ n) : nI n + Int32.ofInt (-1) = nI (n - 1) := by
  obtain ⟨k, rfl⟩ : ∃ k, n = k + 1 := ⟨n - 1, by omega⟩
  exact pk_m1 k
theorem jn_sub {a b : Nat} (h : b ≤ a) : nI a - nI b = nI (a - b) := pk_sub h
theorem J_topN (C : jC E l own cc nL R J) {n n' : Nat} (h : n = n') (kk : J pc lv (.int (nI n') :: st) ws cs ss) : J pc lv (.int (nI n) :: st) ws cs ss := by subst h; exact kk
theorem J_topX (C : jC E l own cc nL R J) {x x' : Int32} (h : x = x') (kk : J pc lv (.int x' :: st) ws cs ss) : J pc lv (.int x :: st) ws cs ss := by subst h; exact kk
theorem J_topL (C : jC E l own cc nL R J) {x x' : Int64} (h : x = x') (kk : J pc lv (.long x' :: st) ws cs ss) : J pc lv (.long x :: st) ws cs ss := by subst h; exact kk
theorem J_topV (C : jC E l own cc nL R J) {x x' : Value} (h : x = x') (kk : J pc lv (x' :: st) ws cs ss) : J pc lv (x :: st) ws cs ss := by subst h; exact kk
theorem J_ws (C : jC E l own cc nL R J) {ws' : va_W} (h : ws = ws') (kk : J pc lv st ws' cs ss) : J pc lv st ws cs ss := by subst h; exact kk
theorem J_st (C : jC E l own cc nL R J) {st' : List Value} (h : st = st') (kk : J pc lv st' ws cs ss) : J pc lv st ws cs ss := by subst h; exact kk
theorem J_iaddN (C : jC E l own cc nL R J) {a b : Nat} (hdg : decode cc pc = .ok (.iadd, 1)) (kk : J (pc + 1) lv (.int (nI (a + b)) :: st) ws cs ss) : J pc lv (.int (nI b) :: .int (nI a) :: st) ws cs ss := J_iadd C hdg (by rw [nI_add]; exact kk)
theorem J_imulN (C : jC E l own cc nL R J) {a b : Nat} (hdg : decode cc pc = .ok (.imul, 1)) (kk : J (pc + 1) lv (.int (nI (a * b)) :: st) ws cs ss) : J pc lv (.int (nI b) :: .int (nI a) :: st) ws cs ss := J_imul C hdg (by rw [pk_mul]; exact kk)
theorem J_iandN (C : jC E l own cc nL R J) {a b : Nat} (hdg : decode cc pc = .ok (.iand, 1)) (kk : J (pc + 1) lv (.int (nI (a &&& b)) :: st) ws cs ss) : J pc lv (.int (nI b) :: .int (nI a) :: st) ws cs ss := J_iand C hdg (by rw [jn_and]; exact kk)
theorem J_iorN (C : jC E l own cc nL R J) {a b : Nat} (hdg : decode cc pc = .ok (.ior, 1)) (kk : J (pc + 1) lv (.int (nI (a ||| b)) :: st) ws cs ss) : J pc lv (.int (nI b) :: .int (nI a) :: st) ws cs ss := J_ior C hdg (by rw [jn_or]; exact kk)
theorem J_ixorN (C : jC E l own cc nL R J) {a b : Nat} (hdg : decode cc pc = .ok (.ixor, 1)) (kk : J (pc + 1) lv (.int (nI (a ^^^ b)) :: st) ws cs ss) : J pc lv (.int (nI b) :: .int (nI a) :: st) ws cs ss := J_ixor C hdg (by rw [jn_xor]; exact kk)
theorem J_isubN (C : jC E l own cc nL R J) {a b : Nat} (hdg : decode cc pc = .ok (.isub, 1)) (h : b ≤ a) (kk : J (pc + 1) lv (.int (nI (a - b)) :: st) ws cs ss) : J pc lv (.int (nI b) :: .int (nI a) :: st) ws cs ss := J_isub C hdg (by rw [jn_sub h]; exact kk)
theorem J_ishlN (C : jC E l own cc nL R J) {a b : Nat} (hdg : decode cc pc = .ok (.ishl, 1)) (h : b < 32) (kk : J (pc + 1) lv (.int (nI (a * 2 ^ b)) :: st) ws cs ss) : J pc lv (.int (nI b) :: .int (nI a) :: st) ws cs ss := J_ishl C hdg (by rw [jn_shl a b h]; exact kk)
theorem J_ishl1 (C : jC E l own cc nL R J) {b : Nat} (hdg : decode cc pc = .ok (.ishl, 1)) (h : b < 32) (kk : J (pc + 1) lv (.int (nI (2 ^ b)) :: st) ws cs ss) : J pc lv (.int (nI b) :: .int (nI 1) :: st) ws cs ss := J_ishl C hdg (by rw [jn_shl 1 b h, Nat.one_mul]; exact kk)
theorem J_ishrN (C : jC E l own cc nL R J) {a b : Nat} (hdg : decode cc pc = .ok (.ishr, 1)) (ha : a < 2 ^ 31) (h : b < 32) (kk : J (pc + 1) lv (.int (nI (a / 2 ^ b)) :: st) ws cs ss) : J pc lv (.int (nI b) :: .int (nI a) :: st) ws cs ss := J_ishr C hdg (by rw [jn_shr a b ha h]; exact kk)
theorem J_idivN (C : jC E l own cc nL R J) {a b : Nat} (hdg : decode cc pc = .ok (.idiv, 1)) (ha : a < 2 ^ 31) (h0 : 0 < b) (hb : b < 2 ^ 31) (kk : J (pc + 1) lv (.int (nI (a / b)) :: st) ws cs ss) : J pc lv (.int (nI b) :: .int (nI a) :: st) ws cs ss := J_idiv C hdg (nI_ne0 h0 hb) (by rw [pk_div ha h0 hb]; exact kk)
theorem J_iremN (C : jC E l own cc nL R J) {a b : Nat} (hdg : decode cc pc = .ok (.irem, 1)) (ha : a < 2 ^ 31) (h0 : 0 < b) (hb : b < 2 ^ 31) (kk : J (pc + 1) lv (.int (nI (a % b)) :: st) ws cs ss) : J pc lv (.int (nI b) :: .int (nI a) :: st) ws cs ss := J_irem C hdg (nI_ne0 h0 hb) (by rw [pk_rem ha h0 hb]; exact kk)
theorem J_iastM (C : jC E l own cc nL R J) {i n a v : Nat} {d : Nat → Nat} {x : Int32} {ws' : va_W} (q0 : Nat) (ha : ws[q0]? = some (kM E a n d)) (hn : n < 2 ^ 31) (hi : i < n) (hv : x = mI v) (hdg : decode cc pc = .ok (.iastore, 1)) (hw : ws.set q0 (kM E a n (upN d i v)) = ws') (kk : J (pc + 1) lv st ws' cs ss) : J pc lv (.int x :: .int (nI i) :: .ref a :: st) ws cs ss := by
  subst hv
  refine J_iast C (ws' := ws') q0 ha hn hi hdg ?_ kk
  rw [upd_mI]; exact hw
theorem J_zastN (C : jC E l own cc nL R J) {i n a v : Nat} {t : Nat → Nat} {ws' : va_W} (q0 : Nat) (ha : ws[q0]? = some (kB E a n t)) (hn : n < 2 ^ 31) (hi : i < n) (hdg : decode cc pc = .ok (.bastore, 1)) (hnar : vp_nar .boolean (nI v) = nI v) (hw : ws.set q0 (kB E a n (upN t i v)) = ws') (kk : J (pc + 1) lv st ws' cs ss) : J pc lv (.int (nI v) :: .int (nI i) :: .ref a :: st) ws cs ss := by
  refine J_zast C (ws' := ws') q0 ha hn hi hdg hnar ?_ kk
  rw [upN_nI]; exact hw
theorem kM_congr {E : jE} {a n : Nat} {f g : Nat → Nat} (h : ∀ j, j < n → f j = g j) {D : va_G} {cl : List vw_C} {H : Heap} : va_at D cl (kM E a n f) H → va_at D cl (kM E a n g) H := kR_congr (fun j hj => by rw [h j hj])
theorem kB_congr {E : jE} {a n : Nat} {f g : Nat → Nat} (h : ∀ j, j < n → f j = g j) {D : va_G} {cl : List vw_C} {H : Heap} : va_at D cl (kB E a n f) H → va_at D cl (kB E a n g) H := kZ_congr (fun j hj => by rw [h j hj])
end JKX
