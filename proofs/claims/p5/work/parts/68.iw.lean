/-! ===== rules straight over the machine: sums that wrap, negation, pop, bytes ===== -/
theorem iv_c_in {a : Nat} {z : Int32} (ha : a < 4294967296) (g : iv_in (iv_c a) z) : z = iv_ub a := by
  obtain ⟨-, a1, a2⟩ := iw_c_lt ha
  refine iv_of_const (Nat.le_antisymm ?_ ?_)
  · have g2 := g.2
    rw [a2] at g2
    exact g2
  · have g1 := g.1
    rw [a1] at g1
    exact g1
section IW6
variable {sc : Nat × Nat} {out : Nat × iv_H} {d mi c0 s0 pc a z : Nat} {lo st : List Nat} {L : iv_H}
theorem iw_bin {i : Instr} {f : Int32 → Int32 → Int32} (hr : ∀ (p : Program) (l : Launch) (e : Env) (R : Room) (s : State) (m : MethodId) (args : Array Value) (below : List Frame) (meth : Method) (c : Code) (H : Heap) (locs : List Loc) (ls : Array Slot) (rest : List Value) (Q : State → Prop) (x y : Int32), p.tables.exec = Jvm.exec → c.code = pm_b mi → decode (pm_b mi) pc = .ok (i, 1) → W p l e R s m args below meth c H locs c0 s0 Q (F0 m (pc + 1) ls (.int (f x y) :: rest)) → W p l e R s m args below meth c H locs c0 s0 Q (F0 m pc ls (.int y :: .int x :: rest)))
    (hd : decode (pm_b mi) pc = .ok (i, 1)) (ha : a < 4294967296) (hz : z < 4294967296) (k : iw_all sc mi d out c0 s0 (pc + 1) lo (iv_c (iv_bs (f (iv_ub a) (iv_ub z))) :: st) L) : iw_all sc mi d out c0 s0 pc lo (iv_c z :: iv_c a :: st) L := by
  intro p l e R s m args below meth c D cI cB cJ b ws0 Y ws H locs ls sv hS hc hs
  have Y0 := Y
  obtain ⟨hW, hL, hK, hP, hD, hA, hX⟩ := hS
  obtain ⟨hx, hb, -⟩ := Y
  obtain ⟨V2, sv1, rfl, r1, hK1⟩ := iv_stk_cons hK
  obtain ⟨V1, sv', rfl, r2, hQ⟩ := iv_stk_cons hK1
  obtain ⟨zz, rfl, g1⟩ := iv_rel_int (iw_c_lt hz).1 r1
  obtain ⟨aa, rfl, g2⟩ := iv_rel_int (iw_c_lt ha).1 r2
  obtain rfl := iv_c_in hz g1
  obtain rfl := iv_c_in ha g2
  exact hr _ _ _ _ _ _ _ _ _ _ _ _ _ _ _ _ _ hx hb hd (k p l e R s m args below meth c D cI cB cJ b ws0 Y0 ws H locs ls _ ⟨hW, hL, ⟨iv_rel_i (iv_c_lt (iv_bs_lt _)) (iv_in_c rfl), hQ⟩, hP, hD, hA, hX⟩ hc hs)
theorem iw_neg (hd : decode (pm_b mi) pc = .ok (.ineg, 1)) (ha : a < 4294967296) (k : iw_all sc mi d out c0 s0 (pc + 1) lo (iv_c (iv_bs (-(iv_ub a))) :: st) L) : iw_all sc mi d out c0 s0 pc lo (iv_c a :: st) L := by
  intro p l e R s m args below meth c D cI cB cJ b ws0 Y ws H locs ls sv hS hc hs
  have Y0 := Y
  obtain ⟨hW, hL, hK, hP, hD, hA, hX⟩ := hS
  obtain ⟨hx, hb, -⟩ := Y
  obtain ⟨V1, sv', rfl, r2, hQ⟩ := iv_stk_cons hK
  obtain ⟨aa, rfl, g2⟩ := iv_rel_int (iw_c_lt ha).1 r2
  obtain rfl := iv_c_in ha g2
  exact lv_ineg hx hb hd (k p l e R s m args below meth c D cI cB cJ b ws0 Y0 ws H locs ls _ ⟨hW, hL, ⟨iv_rel_i (iv_c_lt (iv_bs_lt _)) (iv_in_c rfl), hQ⟩, hP, hD, hA, hX⟩ hc hs)
theorem iw_i2b (hd : decode (pm_b mi) pc = .ok (.i2b, 1)) (ha : a < 4294967296) (k : iw_all sc mi d out c0 s0 (pc + 1) lo (iv_c (iv_bs (iv_ub a).toInt8.toInt32) :: st) L) : iw_all sc mi d out c0 s0 pc lo (iv_c a :: st) L := by
  intro p l e R s m args below meth c D cI cB cJ b ws0 Y ws H locs ls sv hS hc hs
  have Y0 := Y
  obtain ⟨hW, hL, hK, hP, hD, hA, hX⟩ := hS
  obtain ⟨hx, hb, -⟩ := Y
  obtain ⟨V1, sv', rfl, r2, hQ⟩ := iv_stk_cons hK
  obtain ⟨aa, rfl, g2⟩ := iv_rel_int (iw_c_lt ha).1 r2
  obtain rfl := iv_c_in ha g2
  exact lv_i2b hx hb hd rfl (k p l e R s m args below meth c D cI cB cJ b ws0 Y0 ws H locs ls _ ⟨hW, hL, ⟨iv_rel_i (iv_c_lt (iv_bs_lt _)) (iv_in_c rfl), hQ⟩, hP, hD, hA, hX⟩ hc hs)
theorem iw_pop (hd : decode (pm_b mi) pc = .ok (.pop, 1)) (ha : a < 4294967296) (k : iw_all sc mi d out c0 s0 (pc + 1) lo st L) : iw_all sc mi d out c0 s0 pc lo (iv_c a :: st) L := by
  intro p l e R s m args below meth c D cI cB cJ b ws0 Y ws H locs ls sv hS hc hs
  have Y0 := Y
  obtain ⟨hW, hL, hK, hP, hD, hA, hX⟩ := hS
  obtain ⟨hx, hb, -⟩ := Y
  obtain ⟨V1, sv', rfl, r2, hQ⟩ := iv_stk_cons hK
  obtain ⟨aa, rfl, g2⟩ := iv_rel_int (iw_c_lt ha).1 r2
  exact lv_pop hx hb hd rfl (k p l e R s m args below meth c D cI cB cJ b ws0 Y0 ws H locs ls _ ⟨hW, hL, hQ, hP, hD, hA, hX⟩ hc hs)
theorem iw_incW {i : Nat} {n : Int} (hd : decode (pm_b mi) pc = .ok (.iinc i n, 3)) (hx9 : lo[i]? = some (iv_c a)) (ha : a < 4294967296) (k : iw_all sc mi d out c0 s0 (pc + 3) (lo.set i (iv_c (iv_bs (iv_ub a + Int32.ofInt n)))) st L) : iw_all sc mi d out c0 s0 pc lo st L := by
  intro p l e R s m args below meth c D cI cB cJ b ws0 Y ws H locs ls sv hS hc hs
  have Y0 := Y
  obtain ⟨hW, hL, hK, hP, hD, hA, hX⟩ := hS
  obtain ⟨hx, hb, -⟩ := Y
  obtain ⟨l0, lv, l1, l2, l3⟩ := hL
  obtain ⟨V, g1, g2⟩ := l3 _ _ hx9 (Nat.lt_trans (iw_c_lt ha).1 (by decide))
  obtain ⟨zz, rfl, g3⟩ := iv_rel_int (iw_c_lt ha).1 g2
  obtain rfl := iv_c_in ha g3
  obtain ⟨k9, hk⟩ := List.getElem?_of_mem g1
  have hi : i < (pg_i mi).1 := by rw [← l0]; exact (List.getElem?_eq_some_iff.mp hx9).1
  exact lv_iinc hx hb hd l1 hk rfl hi rfl (fun ls' hl => k p l e R s m args below meth c D cI cB cJ b ws0 Y0 ws H locs ls' _ ⟨hW, iv_loc_set2 l0 l2 l3 rfl (iv_rel_i (iv_c_lt (iv_bs_lt _)) (iv_in_c rfl)) ls' hl, hK, hP, hD, hA, hX⟩ hc hs)
end IW6
section XR3
variable {sc : Nat × Nat} {mi d c0 s0 pc a z : Nat} {lo lo' st : List Nat} {h : xh} {Q : Nat → xh → Prop}
theorem x_addA (hd : decode (pm_b mi) pc = .ok (.iadd, 1)) (ha : a < 4294967296) (hz : z < 4294967296) (k : ∀ v, v < 4294967296 → X sc mi d Q c0 s0 (pc + 1) lo (iv_c v :: st) h) : X sc mi d Q c0 s0 pc lo (iv_c z :: iv_c a :: st) h := fun L hL =>
  let ⟨r, b, c, e, f, g⟩ := k _ (x_bs (iv_ub a + iv_ub z)) L hL; ⟨r, b, c, e, f, iw_bin (f := fun x y => x + y) (fun _ _ _ _ _ _ _ _ _ _ _ _ _ _ _ _ _ h1 h2 h3 h4 => lv_iadd h1 h2 h3 h4) hd ha hz g⟩
theorem x_subA (hd : decode (pm_b mi) pc = .ok (.isub, 1)) (ha : a < 4294967296) (hz : z < 4294967296) (k : ∀ v, v < 4294967296 → X sc mi d Q c0 s0 (pc + 1) lo (iv_c v :: st) h) : X sc mi d Q c0 s0 pc lo (iv_c z :: iv_c a :: st) h := fun L hL =>
  let ⟨r, b, c, e, f, g⟩ := k _ (x_bs (iv_ub a - iv_ub z)) L hL; ⟨r, b, c, e, f, iw_bin (f := fun x y => x - y) (fun _ _ _ _ _ _ _ _ _ _ _ _ _ _ _ _ _ h1 h2 h3 h4 => lv_isub h1 h2 h3 h4) hd ha hz g⟩
theorem x_mulA (hd : decode (pm_b mi) pc = .ok (.imul, 1)) (ha : a < 4294967296) (hz : z < 4294967296) (k : ∀ v, v < 4294967296 → X sc mi d Q c0 s0 (pc + 1) lo (iv_c v :: st) h) : X sc mi d Q c0 s0 pc lo (iv_c z :: iv_c a :: st) h := fun L hL =>
  let ⟨r, b, c, e, f, g⟩ := k _ (x_bs (iv_ub a * iv_ub z)) L hL; ⟨r, b, c, e, f, iw_bin (f := fun x y => x * y) (fun _ _ _ _ _ _ _ _ _ _ _ _ _ _ _ _ _ h1 h2 h3 h4 => lv_imul h1 h2 h3 h4) hd ha hz g⟩
theorem x_neg (hd : decode (pm_b mi) pc = .ok (.ineg, 1)) (ha : a < 4294967296) (k : ∀ v, v < 4294967296 → X sc mi d Q c0 s0 (pc + 1) lo (iv_c v :: st) h) : X sc mi d Q c0 s0 pc lo (iv_c a :: st) h := fun L hL =>
  let ⟨r, b, c, e, f, g⟩ := k _ (x_bs (-(iv_ub a))) L hL; ⟨r, b, c, e, f, iw_neg hd ha g⟩
theorem x_bs8 (x : Int32) : 2147483520 ≤ iv_bs x.toInt8.toInt32 ∧ iv_bs x.toInt8.toInt32 ≤ 2147483775 := by
  have e := iv_bs_eq x.toInt8.toInt32
  rw [Int8.toInt_toInt32] at e
  have e2 := Int8.toInt_lt x.toInt8
  have e3 := Int8.le_toInt x.toInt8
  omega
theorem x_i2b (hd : decode (pm_b mi) pc = .ok (.i2b, 1)) (ha : a < 4294967296) (k : ∀ v, 2147483520 ≤ v → v ≤ 2147483775 → X sc mi d Q c0 s0 (pc + 1) lo (iv_c v :: st) h) : X sc mi d Q c0 s0 pc lo (iv_c a :: st) h := fun L hL =>
  let ⟨r, b, c, e, f, g⟩ := k _ (x_bs8 (iv_ub a)).1 (x_bs8 (iv_ub a)).2 L hL; ⟨r, b, c, e, f, iw_i2b hd ha g⟩
theorem x_pop (hd : decode (pm_b mi) pc = .ok (.pop, 1)) (ha : a < 4294967296) (k : X sc mi d Q c0 s0 (pc + 1) lo st h) : X sc mi d Q c0 s0 pc lo (iv_c a :: st) h := fun L hL =>
  let ⟨r, b, c, e, f, g⟩ := k L hL; ⟨r, b, c, e, f, iw_pop hd ha g⟩
theorem x_incA {i : Nat} {n : Int} (hd : decode (pm_b mi) pc = .ok (.iinc i n, 3)) (hx : lo[i]? = some (iv_c a)) (ha : a < 4294967296) (k : ∀ v, v < 4294967296 → X sc mi d Q c0 s0 (pc + 3) (lo.set i (iv_c v)) st h) : X sc mi d Q c0 s0 pc lo st h := fun L hL =>
  let ⟨r, b, c, e, f, g⟩ := k _ (x_bs (iv_ub a + Int32.ofInt n)) L hL; ⟨r, b, c, e, f, iw_incW hd hx ha g⟩
/-- and with a mask of low bits -/
theorem x_mask {k9 np m : Nat} (w : wd mi pc 17 np 0) (ha : a < 4294967296) (hm : (iv_ub z).toBitVec.toNat = 2 ^ m - 1) (hm9 : m ≤ 30) (hz : z < 4294967296) (hk : 2 ^ m = k9) (k : ∀ v, v < k9 → X sc mi d Q c0 s0 np lo (iv_c (2147483648 + v) :: st) h) : X sc mi d Q c0 s0 pc lo (iv_c z :: iv_c a :: st) h := fun L hL => by
  obtain ⟨j, j1, j2⟩ := pk_andE (iv_ub a) m hm
  have hj : j < 2147483648 := Nat.lt_of_lt_of_le j1 (Nat.le_trans (Nat.pow_le_pow_right (by decide) hm9) (by decide))
  have e1 : iv_bs (iv_ub a &&& iv_ub z) = 2147483648 + j := by
    rw [j2]
    show ((Int32.ofNat j).toBitVec.toNat + 2147483648) % 4294967296 = _
    have e9 : (Int32.ofNat j).toBitVec.toNat = j := pk_tn (n := j) (by omega)
    rw [e9]
    omega
  obtain ⟨r, b, c, e, f, g⟩ := k j (by rw [← hk]; exact j1) L hL
  rw [← e1] at g
  exact ⟨r, b, c, e, f, iw_alu (k9 := 0) w.1 w.2 (wd_ne w (by decide)) ha hz rfl g⟩
end XR3
