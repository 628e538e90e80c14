section JKY
variable {E : jE} {l : Launch} {own : String} {cc : ByteArray} {nL : Nat} {R : Room} {J : jJ} {pc : Nat} {lv : jL} {st : List Value} {ws : va_W} {cs ss : Nat}
theorem J_ldcw (C : jC E l own cc nL R J) {index : Nat} {v : Int32} (hw : Cond.constant own index v ∈ jTW) (hdg : decode cc pc = .ok (.ldc_w index, 3)) (kk : J (pc + 3) lv (.int v :: st) ws cs ss) : J pc lv st ws cs ss := by
  obtain ⟨p, e, s, m, args, below, meth, c, Q, A, ⟨hx, hb, hml, hown, hts, hA, hK, hST, hlocks⟩, rfl⟩ := C
  intro H locs ls hP hD hS hl
  exact lv_ldcw hx hb hown (hts _ hw) hdg (kk H locs ls hP hD hS hl)
theorem J_iushr (C : jC E l own cc nL R J) {x y : Int32} (hdg : decode cc pc = .ok (.iushr, 1)) (kk : J (pc + 1) lv (.int ((x.toUInt32 >>> (y.toUInt32 &&& Int32.toUInt32 31)).toInt32) :: st) ws cs ss) : J pc lv (.int y :: .int x :: st) ws cs ss := by
  obtain ⟨p, e, s, m, args, below, meth, c, Q, A, ⟨hx, hb, hml, hown, hts, hA, hK, hST, hlocks⟩, rfl⟩ := C
  intro H locs ls hP hD hS hl
  exact lv_iushr hx hb hdg rfl (kk H locs ls hP hD hS hl)
end JKY
