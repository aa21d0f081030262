/-! ===== texts: on the stack, in locals; the JDK's String methods over them ===== -/
/-- what stands at b k -/
def x_b (k : Nat) : Nat := 55340232221128654863 + k
section STR
variable {sc : Nat × Nat} {mi d : Nat} {out : Nat × iv_H} {p : Program} {l : Launch} {e : Env} {R : Room} {s : State} {m : MethodId} {args : Array Value} {below : List Frame} {meth : Method} {c : Code} {D : va_G} {cI cB cJ : ClassId} {b : Nat → Nat} {ws0 : va_W} {c0 s0 pc x : Nat} {lo st : List Nat} {L : iv_H}
theorem iv_rel_b {al : Nat → Option Nat} {k : Nat} (hk : 1 ≤ k ∧ k ≤ 128) : iv_rel b al (x_b k) (.ref (b k)) := by
  refine Or.inr (Or.inr (Or.inr (Or.inr (Or.inr (Or.inr (Or.inr ⟨?_, ?_, ?_⟩))))))
  · show 55340232221128654864 ≤ 55340232221128654863 + k
    omega
  · show 55340232221128654863 + k < 55340232221128654992
    omega
  · have e : x_b k - 55340232221128654863 = k := Nat.add_sub_cancel_left _ _
    rw [e]
theorem iv_rel_bx {al : Nat → Option Nat} {k : Nat} {V : Value} (hk : 1 ≤ k ∧ k ≤ 128) (h : iv_rel b al (x_b k) V) : V = .ref (b k) := by
  have hx : x_b k = 55340232221128654863 + k := rfl
  rcases h with ⟨h, -⟩ | ⟨-, h, -⟩ | ⟨h, -⟩ | ⟨h, -⟩ | ⟨h, -⟩ | ⟨h, -⟩ | ⟨h, -⟩ | ⟨-, -, h⟩
  case inr.inr.inr.inr.inr.inr.inr =>
    have e : x_b k - 55340232221128654863 = k := Nat.add_sub_cancel_left _ _
    rw [e] at h
    exact h
  all_goals omega
theorem x_b_lt {k : Nat} (hk : k ≤ 128) : x_b k < 147573952589676412928 := by
  show 55340232221128654863 + k < _
  omega
theorem iv_ldcW (hexec : p.tables.exec = Jvm.exec) {cc : ByteArray} (hb : c.code = cc) {own tx : String} {index q cells slots : Nat} {H : Heap} {locs : List Loc} {Q : State → Prop} {ls : Array Slot} {rest : List Value} (hown : s.vm.findClass own = some m.cls) (hZ : vk_R own index tx q s) (hdg : decode cc pc = .ok (.ldc_w index, 3))
    (k : W p l e R s m args below meth c H locs cells slots Q (F0 m (pc + 3) ls (.ref q :: rest))) : W p l e R s m args below meth c H locs cells slots Q (F0 m pc ls rest) := by
  intro T hT X
  obtain ⟨t, a1, b1⟩ := k T hT X
  exact ⟨t, X.ldcStringW hexec hown (text := tx) (a := q) hZ.1 hZ.2 (g := F0 m pc ls rest) rfl (by rw [hb]; exact hdg) t a1, b1⟩
end STR
section STR1
variable {sc : Nat × Nat} {mi d : Nat} {out : Nat × iv_H} {c0 s0 pc x : Nat} {lo st : List Nat} {L : iv_H}
theorem iw_ldcB {idx i : Nat} {tx : String} (hm : ((pm_y mi).cls, idx, tx, i) ∈ iv_sx) (hi : i < 32) (hd : decode (pm_b mi) pc = .ok (.ldc idx, 2)) (k : iw_all sc mi d out c0 s0 (pc + 2) lo (x_b (i + 1) :: st) L) : iw_all sc mi d out c0 s0 pc lo st L := by
  intro p l e R s m args below meth c D cI cB cJ b ws0 Y ws H locs ls sv hS hc hs
  have Y0 := Y
  obtain ⟨hW, hL, hK, hP, hD, hA, hX⟩ := hS
  obtain ⟨hx, hb, hml, hown, hts, hE, -⟩ := Y
  have hr := hE.2.2.2.2.2.2.2.1 _ hm
  exact va_ldcS hx hb hown hr hd (k p l e R s m args below meth c D cI cB cJ b ws0 Y0 ws H locs ls _ ⟨hW, hL, ⟨iv_rel_b ⟨by omega, by omega⟩, hK⟩, hP, hD, hA, hX⟩ hc hs)
theorem iw_ldcwB {idx i : Nat} {tx : String} (hm : ((pm_y mi).cls, idx, tx, i) ∈ iv_sx) (hi : i < 32) (hd : decode (pm_b mi) pc = .ok (.ldc_w idx, 3)) (k : iw_all sc mi d out c0 s0 (pc + 3) lo (x_b (i + 1) :: st) L) : iw_all sc mi d out c0 s0 pc lo st L := by
  intro p l e R s m args below meth c D cI cB cJ b ws0 Y ws H locs ls sv hS hc hs
  have Y0 := Y
  obtain ⟨hW, hL, hK, hP, hD, hA, hX⟩ := hS
  obtain ⟨hx, hb, hml, hown, hts, hE, -⟩ := Y
  have hr := hE.2.2.2.2.2.2.2.1 _ hm
  exact iv_ldcW hx hb hown hr hd (k p l e R s m args below meth c D cI cB cJ b ws0 Y0 ws H locs ls _ ⟨hW, hL, ⟨iv_rel_b ⟨by omega, by omega⟩, hK⟩, hP, hD, hA, hX⟩ hc hs)
theorem iw_aloadB {k9 : Nat} {k4 : Fin 4} (hk : 1 ≤ k9 ∧ k9 ≤ 128) (hl : lo[k4.val]? = some (x_b k9)) (hd : decode (pm_b mi) pc = .ok (.aload_n k4, 1)) (k : iw_all sc mi d out c0 s0 (pc + 1) lo (x_b k9 :: st) L) : iw_all sc mi d out c0 s0 pc lo st L := by
  intro p l e R s m args below meth c D cI cB cJ b ws0 Y ws H locs ls sv hS hc hs
  have Y0 := Y
  obtain ⟨hW, hL, hK, hP, hD, hA, hX⟩ := hS
  obtain ⟨hx, hb, -⟩ := Y
  obtain ⟨V, g1, g2⟩ := iv_loc_get hL hl (x_b_lt hk.2)
  obtain rfl := iv_rel_bx hk g2
  exact lv_aload_n hx hb hd rfl g1 (k p l e R s m args below meth c D cI cB cJ b ws0 Y0 ws H locs ls _ ⟨hW, hL, ⟨g2, hK⟩, hP, hD, hA, hX⟩ hc hs)
/-- value, of a text -/
theorem iw_getV {i idx : Nat} (hi : i < 32) (hown : (pm_y mi).cls = "java/lang/String") (hl : Cond.fieldLink "java/lang/String" idx "java/lang/String" "value" "[B" ∈ iv_T) (hd : decode (pm_b mi) pc = .ok (.getfield idx, 3)) (k : iw_all sc mi d out c0 s0 (pc + 3) lo (x_b (64 + i) :: st) L) : iw_all sc mi d out c0 s0 pc lo (x_b (i + 1) :: st) L := by
  intro p l e R s m args below meth c D cI cB cJ b ws0 Y ws H locs ls sv hS hc hs
  have Y0 := Y
  obtain ⟨hW, hL, hK, hP, hD, hA, hX⟩ := hS
  obtain ⟨hx, hb, hml, ho, hts, hE, -⟩ := Y
  obtain ⟨V, sv', rfl, r1, hQ⟩ := iv_stk_cons hK
  obtain rfl := iv_rel_bx ⟨by omega, by omega⟩ r1
  have hT := (hE.2.2.2.2.2.2.2.2.1 i hi).2.2.1
  rw [hown] at ho
  exact vk_getf hx hb hT hA ho (hts _ hl) (fun _ h => h) hd (k p l e R s m args below meth c D cI cB cJ b ws0 Y0 ws H locs ls _ ⟨hW, hL, ⟨iv_rel_b ⟨by omega, by omega⟩, hQ⟩, hP, hD, hA, hX⟩ hc hs)
theorem iw_getC {i idx : Nat} (hi : i < 32) (hown : (pm_y mi).cls = "java/lang/String") (hl : Cond.fieldLink "java/lang/String" idx "java/lang/String" "coder" "B" ∈ iv_T) (hd : decode (pm_b mi) pc = .ok (.getfield idx, 3)) (k : iw_all sc mi d out c0 s0 (pc + 3) lo (iv_c 2147483648 :: st) L) : iw_all sc mi d out c0 s0 pc lo (x_b (i + 1) :: st) L := by
  intro p l e R s m args below meth c D cI cB cJ b ws0 Y ws H locs ls sv hS hc hs
  have Y0 := Y
  obtain ⟨hW, hL, hK, hP, hD, hA, hX⟩ := hS
  obtain ⟨hx, hb, hml, ho, hts, hE, -⟩ := Y
  obtain ⟨V, sv', rfl, r1, hQ⟩ := iv_stk_cons hK
  obtain rfl := iv_rel_bx ⟨by omega, by omega⟩ r1
  have hT := (hE.2.2.2.2.2.2.2.2.1 i hi).2.1
  rw [hown] at ho
  exact vk_getf hx hb hT hA ho (hts _ hl) (fun _ h => h) hd (k p l e R s m args below meth c D cI cB cJ b ws0 Y0 ws H locs ls _ ⟨hW, hL, ⟨iv_rel_i (iw_c_lt (by decide)).1 (iv_in_c (x := (0 : Int32)) (by decide)), hQ⟩, hP, hD, hA, hX⟩ hc hs)
theorem iw_getsC {idx : Nat} (hown : (pm_y mi).cls = "java/lang/String") (hl : Cond.fieldLink "java/lang/String" idx "java/lang/String" "COMPACT_STRINGS" "Z" ∈ iv_T) (hd : decode (pm_b mi) pc = .ok (.getstatic idx, 3)) (k : iw_all sc mi d out c0 s0 (pc + 3) lo (iv_c 2147483649 :: st) L) : iw_all sc mi d out c0 s0 pc lo st L := by
  intro p l e R s m args below meth c D cI cB cJ b ws0 Y ws H locs ls sv hS hc hs
  have Y0 := Y
  obtain ⟨hW, hL, hK, hP, hD, hA, hX⟩ := hS
  obtain ⟨hx, hb, hml, ho, hts, hE, -⟩ := Y
  have hT := hE.2.2.2.2.2.2.2.2.2.1
  rw [hown] at ho
  exact va_gets hx hb hT hA ho (hts _ hl) (fun _ h => h) hd (k p l e R s m args below meth c D cI cB cJ b ws0 Y0 ws H locs ls _ ⟨hW, hL, ⟨iv_rel_i (iw_c_lt (by decide)).1 (iv_in_c (x := (1 : Int32)) (by decide)), hK⟩, hP, hD, hA, hX⟩ hc hs)
theorem iw_getsF {idx : Nat} (hown : (pm_y mi).cls = "java/lang/String") (hl : Cond.fieldLink "java/lang/String" idx "jdk/internal/util/Preconditions" "SIOOBE_FORMATTER" "Ljava/util/function/BiFunction;" ∈ iv_T) (hd : decode (pm_b mi) pc = .ok (.getstatic idx, 3)) (k : ∀ v, v = 36893488147419103232 ∨ v = x_b 127 → iw_all sc mi d out c0 s0 (pc + 3) lo (v :: st) L) : iw_all sc mi d out c0 s0 pc lo st L := by
  intro p l e R s m args below meth c D cI cB cJ b ws0 Y ws H locs ls sv hS hc hs
  have Y0 := Y
  obtain ⟨hW, hL, hK, hP, hD, hA, hX⟩ := hS
  obtain ⟨hx, hb, hml, ho, hts, hE, -⟩ := Y
  have hT := hE.2.2.2.2.2.2.2.2.2.2
  rw [hown] at ho
  rcases hT with hT | hT
  · exact va_gets hx hb hT hA ho (hts _ hl) (fun _ h => h) hd (k _ (Or.inl rfl) p l e R s m args below meth c D cI cB cJ b ws0 Y0 ws H locs ls _ ⟨hW, hL, ⟨Or.inr (Or.inr (Or.inl ⟨rfl, rfl⟩)), hK⟩, hP, hD, hA, hX⟩ hc hs)
  · exact va_gets hx hb hT hA ho (hts _ hl) (fun _ h => h) hd (k _ (Or.inr rfl) p l e R s m args below meth c D cI cB cJ b ws0 Y0 ws H locs ls _ ⟨hW, hL, ⟨iv_rel_b ⟨by omega, by omega⟩, hK⟩, hP, hD, hA, hX⟩ hc hs)
theorem iv_tl_lt : ∀ i, i < 32 → iv_tl i < 16 ∧ ∀ j, j < 16 → iv_tc i j < 128 := by decide +kernel
theorem iv_ofn {n : Nat} (h : n < 2147483648) : iv_bs (Int32.ofNat n) = 2147483648 + n := by
  show ((Int32.ofNat n).toBitVec.toNat + 2147483648) % 4294967296 = _
  have e9 : (Int32.ofNat n).toBitVec.toNat = n := pk_tn (n := n) (by omega)
  rw [e9]
  omega
theorem iw_alenB {i : Nat} (hi : i < 32) (hd : decode (pm_b mi) pc = .ok (.arraylength, 1)) (k : iw_all sc mi d out c0 s0 (pc + 1) lo (iv_c (2147483648 + iv_tl i) :: st) L) : iw_all sc mi d out c0 s0 pc lo (x_b (64 + i) :: st) L := by
  intro p l e R s m args below meth c D cI cB cJ b ws0 Y ws H locs ls sv hS hc hs
  have Y0 := Y
  obtain ⟨hW, hL, hK, hP, hD, hA, hX⟩ := hS
  obtain ⟨hx, hb, hml, ho, hts, hE, -⟩ := Y
  obtain ⟨V, sv', rfl, r1, hQ⟩ := iv_stk_cons hK
  obtain rfl := iv_rel_bx ⟨by omega, by omega⟩ r1
  have hT := (hE.2.2.2.2.2.2.2.2.1 i hi).2.2.2
  have hl := (iv_tl_lt i hi).1
  have e9 := iv_ofn (n := iv_tl i) (by omega)
  rw [← e9] at k
  exact va_tlen hx hb hT hA rfl hd (k p l e R s m args below meth c D cI cB cJ b ws0 Y0 ws H locs ls _ ⟨hW, hL, ⟨iv_rel_i (iv_c_lt (iv_bs_lt _)) (iv_in_c rfl), hQ⟩, hP, hD, hA, hX⟩ hc hs)
theorem iw_baldB {i j : Nat} (hi : i < 32) (hj : j < iv_tl i) (hd : decode (pm_b mi) pc = .ok (.baload, 1)) (k : iw_all sc mi d out c0 s0 (pc + 1) lo (iv_c (2147483648 + iv_tc i j) :: st) L) : iw_all sc mi d out c0 s0 pc lo (iv_c (2147483648 + j) :: x_b (64 + i) :: st) L := by
  intro p l e R s m args below meth c D cI cB cJ b ws0 Y ws H locs ls sv hS hc hs
  have Y0 := Y
  obtain ⟨hW, hL, hK, hP, hD, hA, hX⟩ := hS
  obtain ⟨hx, hb, hml, ho, hts, hE, -⟩ := Y
  obtain ⟨V, sv1, rfl, r1, hK1⟩ := iv_stk_cons hK
  obtain ⟨V2, sv', rfl, r2, hQ⟩ := iv_stk_cons hK1
  obtain rfl := iv_rel_bx ⟨by omega, by omega⟩ r2
  have hl := iv_tl_lt i hi
  obtain ⟨zz, rfl, g1⟩ := iv_rel_int (iw_c_lt (by omega)).1 r1
  obtain rfl := iv_c_in (by omega) g1
  have hT := (hE.2.2.2.2.2.2.2.2.1 i hi).2.2.2
  have e8 : iv_ub (2147483648 + j) = Int32.ofNat j := by
    have h9 : iv_bs (Int32.ofNat j) = 2147483648 + j := iv_ofn (by omega)
    exact (iv_of_const h9).symm
  have e7 : (Int32.ofNat j).toNatClampNeg = j := nI_clamp (by omega)
  have e9 := iv_ofn (n := iv_tc i j) (by have := hl.2 j (by omega); omega)
  rw [← e9] at k
  rw [e8]
  exact va_tb hx hb hT hA (vp_in_nI hj (by omega)) (v := .int (Int32.ofNat (iv_tc i j))) (by rw [e7]) hd (k p l e R s m args below meth c D cI cB cJ b ws0 Y0 ws H locs ls _ ⟨hW, hL, ⟨iv_rel_i (iv_c_lt (iv_bs_lt _)) (iv_in_c rfl), hQ⟩, hP, hD, hA, hX⟩ hc hs)
theorem iw_i2c {j : Nat} (hj : j < 128) (hd : decode (pm_b mi) pc = .ok (.i2c, 1)) (k : iw_all sc mi d out c0 s0 (pc + 1) lo (iv_c (2147483648 + j) :: st) L) : iw_all sc mi d out c0 s0 pc lo (iv_c (2147483648 + j) :: st) L := by
  intro p l e R s m args below meth c D cI cB cJ b ws0 Y ws H locs ls sv hS hc hs
  have Y0 := Y
  obtain ⟨hW, hL, hK, hP, hD, hA, hX⟩ := hS
  obtain ⟨hx, hb, -⟩ := Y
  obtain ⟨V1, sv', rfl, r2, hQ⟩ := iv_stk_cons hK
  obtain ⟨aa, rfl, g2⟩ := iv_rel_int (iw_c_lt (by omega)).1 r2
  obtain rfl := iv_c_in (by omega) g2
  have e8 : ∀ j, j < 128 → ((iv_ub (2147483648 + j)).toUInt32 % 65536).toInt32 = iv_ub (2147483648 + j) := by decide +kernel
  exact lv_i2c hx hb hd (e8 j hj) (k p l e R s m args below meth c D cI cB cJ b ws0 Y0 ws H locs ls _ ⟨hW, hL, ⟨r2, hQ⟩, hP, hD, hA, hX⟩ hc hs)
theorem iw_retB {j : Nat} {ty : FieldType} (hj : j < 128) (hr : pm_r mi = some ty) (hn : ∀ j, j < 128 → narrow ty (.int (iv_ub (2147483648 + j))) = .int (iv_ub (2147483648 + j))) (hd : decode (pm_b mi) pc = .ok (.ireturn, 1)) : iw_all sc mi d (iv_c (2147483648 + j), L) c0 s0 pc lo [iv_c (2147483648 + j)] L := by
  intro p l e R s m args below meth c D cI cB cJ b ws0 Y ws H locs ls sv hS hc hs
  obtain ⟨hW, hL, hK, hP, hD, hA, hX⟩ := hS
  obtain ⟨hx, hb, hml, hown, hts, hE, hR, hl, hlk, hnm, hrt, htb⟩ := Y
  obtain ⟨V, sv', rfl, r1, hQ⟩ := iv_stk_cons hK
  obtain rfl := iv_stk_nil hQ
  obtain ⟨z, rfl, g⟩ := iv_rel_int (iw_c_lt (by omega)).1 r1
  obtain rfl := iv_c_in (by omega) g
  refine W.widen (k := (pg_i mi).2.2.1) (n := (pg_i mi).2.2.2) hc hs ?_
  rw [hr] at hrt
  refine vx_ret (W.zret hx hb hrt (hn j hj) (fun t ht _ => ⟨some (.int (iv_ub (2147483648 + j))), ws, rfl, Or.inl ⟨?_, _, rfl, r1⟩, hW, hX, by rw [ht]; exact hP, hD, hA.F ht⟩) (fun q hq => hA.2.2 q hq) hd hlk)
  have := (iw_c_lt (a := 2147483648 + j) (by omega)).1
  show iv_c (2147483648 + j) < 147573952589676412928
  omega
theorem iw_retA {k9 : Nat} {nm : String} (hk : 1 ≤ k9 ∧ k9 ≤ 128) (hr : pm_r mi = some (.object nm)) (hd : decode (pm_b mi) pc = .ok (.areturn, 1)) : iw_all sc mi d (x_b k9, L) c0 s0 pc lo [x_b k9] L := by
  intro p l e R s m args below meth c D cI cB cJ b ws0 Y ws H locs ls sv hS hc hs
  obtain ⟨hW, hL, hK, hP, hD, hA, hX⟩ := hS
  obtain ⟨hx, hb, hml, hown, hts, hE, hR, hl, hlk, hnm, hrt, htb⟩ := Y
  obtain ⟨V, sv', rfl, r1, hQ⟩ := iv_stk_cons hK
  obtain rfl := iv_stk_nil hQ
  obtain rfl := iv_rel_bx hk r1
  refine W.widen (k := (pg_i mi).2.2.1) (n := (pg_i mi).2.2.2) hc hs ?_
  rw [hr] at hrt
  exact vx_ret (W.aret hx hb hrt (Or.inl ⟨_, rfl⟩) (Or.inr ⟨_, rfl⟩) (fun t ht _ => ⟨some (.ref (b k9)), ws, rfl, Or.inl ⟨x_b_lt hk.2, _, rfl, r1⟩, hW, hX, by rw [ht]; exact hP, hD, hA.F ht⟩) (fun q hq => hA.2.2 q hq) hd hlk)
end STR1
/-! ===== calls of the JDK's methods over texts ===== -/
section STR2
variable {sc : Nat × Nat} {mi d : Nat} {out out' : Nat × iv_H} {c0 s0 pc x mj n : Nat} {lo st as rest : List Nat} {L : iv_H}
/-- a call whose run is known -/
theorem iw_callG (hc : pg_c mi ≠ 0) (hn : as.length = n) (hw : iv_wl rest ≤ 8) (hwa : iv_wl as ≤ n) (h7 : n ≤ (pg_i mj).1) (hz1 : (pg_i mj).2.2.1 = 0) (hz2 : (pg_i mj).2.2.2 = 0) (hcj : pg_c mj ≠ 0)
    (hcal : iw_all sc mj d out' 0 0 0 (as ++ List.replicate ((pg_i mj).1 - n) 147573952589676412928) [] L) (ho : out'.1 ≤ 147573952589676412928)
    (hrun : ∀ (p : Program) (l : Launch) (e : Env) (R : Room) (s : State) (m : MethodId) (args : Array Value) (below : List Frame) (meth : Method) (c : Code) (D : va_G) (cI cB cJ : ClassId) (b : Nat → Nat) (ws0 : va_W), iv_Cx sc mi (d + 1) p l R s m args meth c D cI cB cJ b ws0 → ∀ (ws : va_W) (H : Heap) (locs : List Loc) (ls : Array Slot) (As rs : List Value), iv_Tri sc d mj as L out' → iv_W b cI cB cJ L ws → iv_stk b (iv_al ws) as As →
      va_P D vwCl ws H → va_D (va_A ws0 s.heap.size) ws → va_S (va_A ws0 s.heap.size) s.heap H locs → ls.size = (pg_i mi).1 → (rs.map fun v => v.category).sum ≤ 8 → c0 + (pg_i mj).2.2.1 ≤ R.cells → s0 + (pg_i mj).2.2.2 ≤ R.slots →
      vx_Run p l e R s m args below meth c H locs c0 s0 (pg_i mj).2.2.1 (pg_i mj).2.2.2 (F0 m pc ls (As.reverse ++ rs)) rs (iv_Qc D cI cB cJ b ws out' As.toArray) (iv_XC D cI cB cJ b ws out') (va_A ws H.size))
    (k : (out'.1 < 147573952589676412928 ∧ iw_all sc mi (d + 1) out c0 s0 (pc + 3) lo (out'.1 :: rest) out'.2) ∨ (out'.1 = 147573952589676412928 ∧ iw_all sc mi (d + 1) out c0 s0 (pc + 3) lo rest out'.2)) :
    iw_all sc mi (d + 1) out c0 s0 pc lo (as.reverse ++ rest) L := by
  intro p l e R s m args below meth c D cI cB cJ b ws0 Y ws H locs ls sv hS hc9 hs9
  obtain ⟨hW, hL, hK, hP, hD, hA, hX⟩ := hS
  obtain ⟨s1, s2, rfl, q1, q2⟩ := iv_stk_app hK
  have hTri : iv_Tri sc d mj as L out' := by
    refine iw_tri hcj (by rw [hn]; exact h7) (by rw [hn]; exact hwa) ?_
    rw [hn]
    exact hcal
  have q3 := iv_stk_rev q1
  rw [List.reverse_reverse] at q3
  have hw2 := iv_stk_wl q2
  have r := hrun p l e R s m args below meth c D cI cB cJ b ws0 Y ws H locs ls s1.reverse s2 hTri hW q3 hP hD hA (iv_locs hL) (by omega) (by rw [hz1]; exact Nat.le_trans hc9 Y.2.2.2.2.2.2.1.2.2.1) (by rw [hz2]; exact Nat.le_trans hs9 Y.2.2.2.2.2.2.1.2.2.2)
  rw [List.reverse_reverse] at r
  refine iv_behind (ih := iw_ih sc (fun _ => out)) (np := pc + 3) (nt := 1) (lo := lo) (st := rest) Y (lk_H mi).1 (lk_H mi).2 rfl (iw_IH sc (fun _ => out) (d + 1) mi out p l e R s m args below meth c D cI cB cJ b ws0 Y) r hL q2 hP hD hA hX (by rw [hz1]; exact hc9) (by rw [hz2]; exact hs9) ?_
  rw [hz1, hz2]
  unfold iv_back
  rcases k with ⟨k1, k⟩ | ⟨k1, k⟩
  · have e : Nat.ble out'.1 147573952589676412927 = true := by rw [iv_n7]; omega
    rw [e]
    exact iw_ih_of rfl hc k
  · have e : Nat.ble out'.1 147573952589676412927 = false := by rw [← Bool.not_eq_true, iv_n7]; omega
    have e' : Nat.beq out'.1 147573952589676412928 = true := by rw [iv_n8]; exact k1
    rw [e, e']
    exact iw_ih_of rfl hc k
/-- the link of a method of String -/
def st_LT (own : String) (idx mj n : Nat) : Prop := Cond.methodLink own idx (pm_y mj) ∈ iv_T ∧ Cond.instanceMethod (pm_y mj) ∈ iv_T ∧ Cond.selects "java/lang/String" (pm_y mj) (pm_y mj) ∈ iv_T ∧ pm_h mj = [] ∧ (pm_y mj).cls = "java/lang/String" ∧ (parseMethodDescriptor (pm_y mj).desc).map (fun d => d.parameters.length) = some n
/-- a method of a text -/
theorem iw_callT {idx i : Nat} {t : List Nat} (hc : pg_c mi ≠ 0) (hM : iv_MOK mj) (hLk : st_LT (pm_y mi).cls idx mj t.length) (hi : i < 32) (hd : decode (pm_b mi) pc = .ok (.invokevirtual idx, 3)) (hw : iv_wl rest ≤ 8) (hwa : iv_wl (x_b (i + 1) :: t) ≤ t.length + 1) (h7 : t.length + 1 ≤ (pg_i mj).1) (hz1 : (pg_i mj).2.2.1 = 0) (hz2 : (pg_i mj).2.2.2 = 0) (hcj : pg_c mj ≠ 0)
    (hcal : iw_all sc mj d out' 0 0 0 ((x_b (i + 1) :: t) ++ List.replicate ((pg_i mj).1 - (t.length + 1)) 147573952589676412928) [] L) (ho : out'.1 < 147573952589676412928)
    (k : iw_all sc mi (d + 1) out c0 s0 (pc + 3) lo (out'.1 :: rest) out'.2) :
    iw_all sc mi (d + 1) out c0 s0 pc lo ((x_b (i + 1) :: t).reverse ++ rest) L := by
  refine iw_callG (n := t.length + 1) hc rfl hw hwa h7 hz1 hz2 hcj hcal (Nat.le_of_lt ho) ?_ (Or.inl ⟨ho, k⟩)
  intro p l e R s m args below meth c D cI cB cJ b ws0 X ws H locs ls As rs hTri hW hK hP hD hA hsz hw8 hc hs
  have hMet := hTri l D cI cB cJ b ws H.size As X.2.2.2.2.2.2.2.1 hW hK
  obtain ⟨l1, l2, l3, l4, l5, l6⟩ := hLk
  obtain ⟨V, As', rfl, k1, k2⟩ := iv_stk_cons hK
  obtain rfl := iv_rel_bx ⟨by omega, by omega⟩ k1
  have hlen : As'.length = t.length := iv_stk_len k2
  have hst : (F0 m pc ls ((Value.ref (b (i + 1)) :: As').reverse ++ rs)).stack = As'.reverse ++ .ref (b (i + 1)) :: rs := by
    show (Value.ref (b (i + 1)) :: As').reverse ++ rs = _
    rw [List.reverse_cons, List.append_assoc]
    rfl
  have hG : GoodIn iv_T (wsV (pm_y mi).cls idx (pm_y mj).cls (pm_y mj) (pm_w mj)) := by
    unfold wsV
    refine goodIn_app (iv_good (fun w hw => ?_)) (iv_wgood hM)
    rcases List.mem_cons.mp hw with rfl | hw
    · exact l1
    · rcases List.mem_cons.mp hw with rfl | hw
      · exact l2
      · rcases List.mem_cons.mp hw with rfl | hw
        · rw [l5]
          exact l3
        · rcases List.mem_cons.mp hw with rfl | hw
          · exact hM.2.1
          · cases hw
  have hpre := iv_preS (As := Value.ref (b (i + 1)) :: As') X hP hD hA
  have hrc : ∃ cell : Cell, H[b (i + 1)]? = some cell ∧ cell.vm.isStatics = false ∧ s.vm.findClass (pm_y mj).cls = some cell.cls := by
    obtain ⟨cell, h1, h2, h3, -⟩ := ((X.2.2.2.2.2.1.2.2.2.2.2.2.2.2.1 i hi).1).kept hA.2.1
    rw [l5]
    exact ⟨cell, h1, h2, h3⟩
  exact vx_runV (iv_fix X) hMet (cwV t.length X.2.2.2.2.1 hG (by rw [pm_w_eq, iv_MW0 l4]) rfl rfl ⟨rfl, hM.2.2.1, hM.2.2.2.1, l6⟩ (iv_room X hM (Nat.le_refl _))) ⟨hpre.1, hrc, hpre.2⟩ rfl hlen hsz hst (by show 2 * 0 + _ ≤ 8; omega) hd ⟨hc, hs⟩
/-- a static method -/
theorem iw_callS {idx : Nat} (hc : pg_c mi ≠ 0) (hM : iv_MOK mj) (hLk : iv_LS (pm_y mi).cls idx mj as.length) (hd : decode (pm_b mi) pc = .ok (.invokestatic idx, 3)) (hw : iv_wl rest ≤ 8) (hwa : iv_wl as ≤ as.length) (h7 : as.length ≤ (pg_i mj).1) (hz1 : (pg_i mj).2.2.1 = 0) (hz2 : (pg_i mj).2.2.2 = 0) (hcj : pg_c mj ≠ 0)
    (hcal : iw_all sc mj d out' 0 0 0 (as ++ List.replicate ((pg_i mj).1 - as.length) 147573952589676412928) [] L)
    (k : (out'.1 < 147573952589676412928 ∧ iw_all sc mi (d + 1) out c0 s0 (pc + 3) lo (out'.1 :: rest) out'.2) ∨ (out'.1 = 147573952589676412928 ∧ iw_all sc mi (d + 1) out c0 s0 (pc + 3) lo rest out'.2)) :
    iw_all sc mi (d + 1) out c0 s0 pc lo (as.reverse ++ rest) L := by
  have ho : out'.1 ≤ 147573952589676412928 := by rcases k with k | k <;> omega
  refine iw_callG (n := as.length) hc rfl hw hwa h7 hz1 hz2 hcj hcal ho ?_ k
  intro p l e R s m args below meth c D cI cB cJ b ws0 X ws H locs ls As rs hTri hW hK hP hD hA hsz hw8 hc hs
  exact cr_S (nt := 1) (rc := 0) X hM hLk hd d as L out' ws H locs ls As rs (Nat.le_refl _) rfl hTri (Or.inr ho) (Or.inl rfl) hW hK hP hD hA hsz hw8 hc hs
end STR2
/-! ===== widths ===== -/
theorem st_w1 {a : Nat} {t : List Nat} (h : a ≤ 73786976294838206463) : iv_wl (a :: t) = 1 + iv_wl t := by
  show (@Bool.rec (fun _ => Nat) 2 1 (Nat.ble a 73786976294838206463)) + iv_wl t = _
  rw [show Nat.ble a 73786976294838206463 = true by rw [iv_n7]; exact h]
theorem st_wc {a : Nat} (h : a < 4294967296) : iv_c a ≤ 73786976294838206463 := by
  have := (iw_c_lt h).1
  omega
theorem st_wb {k : Nat} (h : k ≤ 128) : x_b k ≤ 73786976294838206463 := by
  show 55340232221128654863 + k ≤ _
  omega
theorem st_wl0 : iv_wl [] = 0 := rfl
theorem st_wl1 {i : Nat} (hi : i < 32) : iv_wl (x_b (i + 1) :: []) ≤ ([] : List Nat).length + 1 := by
  rw [st_w1 (st_wb (by omega)), st_wl0]
  decide
theorem st_wlc {a : Nat} (h : a < 4294967296) : iv_wl [iv_c a] ≤ 8 := by
  rw [st_w1 (st_wc h), st_wl0]
  decide
theorem st_wl2 {a z : Nat} (h : a < 4294967296) (hz : z < 4294967296) : iv_wl [iv_c a, iv_c z] ≤ 2 := by
  rw [st_w1 (st_wc h), st_w1 (st_wc hz), st_wl0]
  decide
theorem st_wl2b {i z : Nat} (hi : i < 32) (hz : z < 4294967296) : iv_wl [x_b (64 + i), iv_c z] ≤ 2 := by
  rw [st_w1 (st_wb (by omega)), st_w1 (st_wc hz), st_wl0]
  decide
theorem st_wl3 {a z v : Nat} (h : a < 4294967296) (hz : z < 4294967296) (hv : v ≤ 73786976294838206463) : iv_wl [iv_c a, iv_c z, v] ≤ 3 := by
  rw [st_w1 (st_wc h), st_w1 (st_wc hz), st_w1 hv, st_wl0]
  decide
theorem st_wlt {i z : Nat} (hi : i < 32) (hz : z < 4294967296) : iv_wl [x_b (i + 1), iv_c z] ≤ 2 := by
  rw [st_w1 (st_wb (by omega)), st_w1 (st_wc hz), st_wl0]
  decide
/-! ===== the String methods: links and answers ===== -/
theorem sl_Tl : st_LT "LentNames$Tape" 34 311 0 := by
  unfold st_LT
  rw [tb_y311]
  exact ⟨tb_g (tb_3 (List.mem_of_getElem? (i := 225) rfl)) rfl, tb_g (tb_3 (List.mem_of_getElem? (i := 226) rfl)) rfl, tb_g (tb_3 (List.mem_of_getElem? (i := 227) rfl)) rfl, rfl, rfl, by decide +kernel⟩
theorem sl_Tc : st_LT "LentNames$Tape" 40 313 1 := by
  unfold st_LT
  rw [tb_y313]
  exact ⟨tb_g (tb_3 (List.mem_of_getElem? (i := 235) rfl)) rfl, tb_g (tb_3 (List.mem_of_getElem? (i := 236) rfl)) rfl, tb_g (tb_3 (List.mem_of_getElem? (i := 237) rfl)) rfl, rfl, rfl, by decide +kernel⟩
theorem sl_Ml : st_LT "LentNamesModel" 111 311 0 := by
  unfold st_LT
  rw [tb_y311]
  exact ⟨tb_g (tb_7 (List.mem_of_getElem? (i := 139) rfl)) rfl, tb_g (tb_3 (List.mem_of_getElem? (i := 226) rfl)) rfl, tb_g (tb_3 (List.mem_of_getElem? (i := 227) rfl)) rfl, rfl, rfl, by decide +kernel⟩
theorem sl_Mc : st_LT "LentNamesModel" 117 313 1 := by
  unfold st_LT
  rw [tb_y313]
  exact ⟨tb_g (tb_7 (List.mem_of_getElem? (i := 140) rfl)) rfl, tb_g (tb_3 (List.mem_of_getElem? (i := 236) rfl)) rfl, tb_g (tb_3 (List.mem_of_getElem? (i := 237) rfl)) rfl, rfl, rfl, by decide +kernel⟩
theorem sl_co : st_LT "java/lang/String" 335 312 0 := by
  unfold st_LT
  rw [tb_y312]
  exact ⟨tb_g (tb_3 (List.mem_of_getElem? (i := 229) rfl)) rfl, tb_g (tb_3 (List.mem_of_getElem? (i := 230) rfl)) rfl, tb_g (tb_3 (List.mem_of_getElem? (i := 231) rfl)) rfl, rfl, rfl, by decide +kernel⟩
theorem sl_la : st_LT "java/lang/String" 492 314 0 := by
  unfold st_LT
  rw [tb_y314]
  exact ⟨tb_g (tb_3 (List.mem_of_getElem? (i := 239) rfl)) rfl, tb_g (tb_4 (List.mem_of_getElem? (i := 0) rfl)) rfl, tb_g (tb_4 (List.mem_of_getElem? (i := 1) rfl)) rfl, rfl, rfl, by decide +kernel⟩
theorem sl_l1 : iv_LS "java/lang/String" 495 316 2 := by
  unfold iv_LS
  rw [tb_y316]
  exact ⟨tb_g (tb_4 (List.mem_of_getElem? (i := 3) rfl)) rfl, tb_g (tb_4 (List.mem_of_getElem? (i := 4) rfl)) rfl, by decide +kernel⟩
theorem sl_ck : iv_LS "java/lang/StringLatin1" 9 315 2 := by
  unfold iv_LS
  rw [tb_y315]
  exact ⟨tb_g (tb_4 (List.mem_of_getElem? (i := 6) rfl)) rfl, tb_g (tb_4 (List.mem_of_getElem? (i := 7) rfl)) rfl, by decide +kernel⟩
theorem sl_pr : iv_LS "java/lang/String" 1059 317 3 := by
  unfold iv_LS
  rw [tb_y317]
  exact ⟨tb_g (tb_4 (List.mem_of_getElem? (i := 11) rfl)) rfl, tb_g (tb_4 (List.mem_of_getElem? (i := 12) rfl)) rfl, by decide +kernel⟩
theorem sl_v : (Cond.fieldLink "java/lang/String" (9 : Nat) "java/lang/String" "value" "[B") ∈ iv_T := tb_g (tb_9 (List.mem_of_getElem? (i := 133) rfl)) rfl
theorem sl_k : (Cond.fieldLink "java/lang/String" (15 : Nat) "java/lang/String" "coder" "B") ∈ iv_T := tb_g (tb_9 (List.mem_of_getElem? (i := 134) rfl)) rfl
theorem sl_cs : (Cond.fieldLink "java/lang/String" (38 : Nat) "java/lang/String" "COMPACT_STRINGS" "Z") ∈ iv_T := tb_g (tb_3 (List.mem_of_getElem? (i := 233) rfl)) rfl
theorem sl_f : (Cond.fieldLink "java/lang/String" (1053 : Nat) "jdk/internal/util/Preconditions" "SIOOBE_FORMATTER" "Ljava/util/function/BiFunction;") ∈ iv_T := tb_g (tb_4 (List.mem_of_getElem? (i := 9) rfl)) rfl
section STR3
variable {sc : Nat × Nat} {d i j n : Nat} {L : iv_H}
theorem x_sg : (pm_y 311).cls = "java/lang/String" ∧ (pm_y 312).cls = "java/lang/String" ∧ (pm_y 313).cls = "java/lang/String" ∧ (pm_y 314).cls = "java/lang/String" ∧ (pm_y 315).cls = "java/lang/String" := ⟨rfl, rfl, rfl, rfl, rfl⟩
theorem sj_coder (hi : i < 32) : iw_all sc 312 d (iv_c 2147483648, L) 0 0 0 [x_b (i + 1)] [] L := by
  refine iw_getsC rfl sl_cs (by rw [tb_b312]; decide +kernel) ?_
  refine iw_ifz (a := 2147483649) (k := 0) (tg := 13) (show wd 312 3 14 6 13 from ⟨by decide +kernel, by decide⟩).1 ⟨(show wd 312 3 14 6 13 from ⟨by decide +kernel, by decide⟩).2, by decide, by decide⟩ (wd_ne (show wd 312 3 14 6 13 from ⟨by decide +kernel, by decide⟩) (by decide)) (by decide) (fun q => absurd (show (2147483649 : Nat) = 2147483648 from q) (by decide)) (fun _ => ?_)
  refine iw_aloadB (k4 := 0) ⟨by omega, by omega⟩ rfl (by rw [tb_b312]; decide +kernel) ?_
  refine iw_getC hi rfl sl_k (by rw [tb_b312]; decide +kernel) ?_
  refine iw_goto (x := 14) (show wd 312 10 7 13 14 from ⟨by decide +kernel, by decide⟩).1 (show wd 312 10 7 13 14 from ⟨by decide +kernel, by decide⟩).2 (wd_ne (show wd 312 10 7 13 14 from ⟨by decide +kernel, by decide⟩) (by decide)) ?_
  exact iw_retB (j := 0) (ty := .byte) (by decide) rfl (by decide +kernel) (by rw [tb_b312]; decide +kernel)
theorem sj_latin (hi : i < 32) : iw_all sc 314 d (iv_c 2147483649, L) 0 0 0 [x_b (i + 1)] [] L := by
  refine iw_getsC rfl sl_cs (by rw [tb_b314]; decide +kernel) ?_
  refine iw_ifz (a := 2147483649) (k := 0) (tg := 17) (show wd 314 3 14 6 17 from ⟨by decide +kernel, by decide⟩).1 ⟨(show wd 314 3 14 6 17 from ⟨by decide +kernel, by decide⟩).2, by decide, by decide⟩ (wd_ne (show wd 314 3 14 6 17 from ⟨by decide +kernel, by decide⟩) (by decide)) (by decide) (fun q => absurd (show (2147483649 : Nat) = 2147483648 from q) (by decide)) (fun _ => ?_)
  refine iw_aloadB (k4 := 0) ⟨by omega, by omega⟩ rfl (by rw [tb_b314]; decide +kernel) ?_
  refine iw_getC hi rfl sl_k (by rw [tb_b314]; decide +kernel) ?_
  refine iw_ifz (a := 2147483648) (k := 1) (tg := 17) (show wd 314 10 14 13 65553 from ⟨by decide +kernel, by decide⟩).1 ⟨(show wd 314 10 14 13 65553 from ⟨by decide +kernel, by decide⟩).2, by decide, by decide⟩ (wd_ne (show wd 314 10 14 13 65553 from ⟨by decide +kernel, by decide⟩) (by decide)) (by decide) (fun q => absurd (show (2147483648 : Nat) = 2147483648 from rfl) q) (fun _ => ?_)
  refine iw_const (show wd 314 13 4 14 9223372043297226753 from ⟨by decide +kernel, by decide⟩).1 (show wd 314 13 4 14 9223372043297226753 from ⟨by decide +kernel, by decide⟩).2 (wd_ne (show wd 314 13 4 14 9223372043297226753 from ⟨by decide +kernel, by decide⟩) (by decide)) (by decide) ?_
  refine iw_goto (x := 18) (show wd 314 14 7 17 18 from ⟨by decide +kernel, by decide⟩).1 (show wd 314 14 7 17 18 from ⟨by decide +kernel, by decide⟩).2 (wd_ne (show wd 314 14 7 17 18 from ⟨by decide +kernel, by decide⟩) (by decide)) ?_
  exact iw_retv (a := 2147483649) (show wd 314 18 11 19 0 from ⟨by decide +kernel, by decide⟩).1 (show wd 314 18 11 19 0 from ⟨by decide +kernel, by decide⟩).2 (by decide) (Or.inr ⟨rfl, by decide, by decide⟩)
theorem sj_length (hi : i < 32) : iw_all sc 311 (d + 1) (iv_c (2147483648 + iv_tl i), L) 0 0 0 [x_b (i + 1)] [] L := by
  have hl := (iv_tl_lt i hi).1
  refine iw_aloadB (k4 := 0) ⟨by omega, by omega⟩ rfl (by rw [tb_b311]; decide +kernel) ?_
  refine iw_getV hi rfl sl_v (by rw [tb_b311]; decide +kernel) ?_
  refine iw_alenB hi (by rw [tb_b311]; decide +kernel) ?_
  refine iw_aloadB (k4 := 0) ⟨by omega, by omega⟩ rfl (by rw [tb_b311]; decide +kernel) ?_
  refine iw_callT (t := []) (rest := [iv_c (2147483648 + iv_tl i)]) (mj := 312) (out' := (iv_c 2147483648, L)) (by decide +kernel) tb_k312 sl_co hi (by rw [tb_b311]; decide +kernel) ?_ (st_wl1 hi) (by decide +kernel) rfl rfl (by decide +kernel) (sj_coder hi) (by show iv_c 2147483648 < 147573952589676412928; decide +kernel) ?_
  · exact st_wlc (by omega)
  have e : ∀ n, n < 16 → iv_bs (iv_ub (2147483648 + n) >>> (iv_ub 2147483648 &&& 31)) = 2147483648 + n := by decide +kernel
  refine iw_alu (k9 := 4) (a := 2147483648 + iv_tl i) (z := 2147483648) (show wd 311 9 17 10 4 from ⟨by decide +kernel, by decide⟩).1 (show wd 311 9 17 10 4 from ⟨by decide +kernel, by decide⟩).2 (wd_ne (show wd 311 9 17 10 4 from ⟨by decide +kernel, by decide⟩) (by decide)) (by omega) (by decide) rfl ?_
  rw [e _ hl]
  exact iw_retv (show wd 311 10 11 11 0 from ⟨by decide +kernel, by decide⟩).1 (show wd 311 10 11 11 0 from ⟨by decide +kernel, by decide⟩).2 (by omega) (Or.inl rfl)
theorem sj_pre {v : Nat} (hj : j < n) (hn : n < 16) : iw_all sc 317 d (iv_c (2147483648 + j), L) 0 0 0 [iv_c (2147483648 + j), iv_c (2147483648 + n), v] [] L := by
  refine iw_iload (show wd 317 0 3 1 0 from ⟨by decide +kernel, by decide⟩).1 (show wd 317 0 3 1 0 from ⟨by decide +kernel, by decide⟩).2 (wd_ne (show wd 317 0 3 1 0 from ⟨by decide +kernel, by decide⟩) (by decide)) rfl (iw_c_lt (by omega)).1 ?_
  refine iw_ifz (a := 2147483648 + j) (k := 2) (tg := 9) (show wd 317 1 14 4 131081 from ⟨by decide +kernel, by decide⟩).1 ⟨(show wd 317 1 14 4 131081 from ⟨by decide +kernel, by decide⟩).2, by decide, by decide⟩ (wd_ne (show wd 317 1 14 4 131081 from ⟨by decide +kernel, by decide⟩) (by decide)) (by omega) (fun q => absurd (show 2147483648 + j < 2147483648 from q) (by omega)) (fun _ => ?_)
  refine iw_iload (show wd 317 4 3 5 0 from ⟨by decide +kernel, by decide⟩).1 (show wd 317 4 3 5 0 from ⟨by decide +kernel, by decide⟩).2 (wd_ne (show wd 317 4 3 5 0 from ⟨by decide +kernel, by decide⟩) (by decide)) rfl (iw_c_lt (by omega)).1 ?_
  refine iw_iload (show wd 317 5 3 6 1 from ⟨by decide +kernel, by decide⟩).1 (show wd 317 5 3 6 1 from ⟨by decide +kernel, by decide⟩).2 (wd_ne (show wd 317 5 3 6 1 from ⟨by decide +kernel, by decide⟩) (by decide)) rfl (iw_c_lt (by omega)).1 ?_
  refine iw_icmp (a := 2147483648 + j) (z := 2147483648 + n) (k := 2) (tg := 16) (show wd 317 6 5 9 131088 from ⟨by decide +kernel, by decide⟩).1 ⟨(show wd 317 6 5 9 131088 from ⟨by decide +kernel, by decide⟩).2, by decide, by decide⟩ (wd_ne (show wd 317 6 5 9 131088 from ⟨by decide +kernel, by decide⟩) (by decide)) (by omega) (by omega) (fun _ => ?_) (fun q => absurd (show 2147483648 + j < 2147483648 + n by omega) q)
  refine iw_iload (show wd 317 16 3 17 0 from ⟨by decide +kernel, by decide⟩).1 (show wd 317 16 3 17 0 from ⟨by decide +kernel, by decide⟩).2 (wd_ne (show wd 317 16 3 17 0 from ⟨by decide +kernel, by decide⟩) (by decide)) rfl (iw_c_lt (by omega)).1 ?_
  exact iw_retv (show wd 317 17 11 18 0 from ⟨by decide +kernel, by decide⟩).1 (show wd 317 17 11 18 0 from ⟨by decide +kernel, by decide⟩).2 (by omega) (Or.inl rfl)
theorem sj_check (hj : j < n) (hn : n < 16) : iw_all sc 315 (d + 1) (147573952589676412928, L) 0 0 0 [iv_c (2147483648 + j), iv_c (2147483648 + n)] [] L := by
  refine iw_iload (show wd 315 0 3 1 0 from ⟨by decide +kernel, by decide⟩).1 (show wd 315 0 3 1 0 from ⟨by decide +kernel, by decide⟩).2 (wd_ne (show wd 315 0 3 1 0 from ⟨by decide +kernel, by decide⟩) (by decide)) rfl (iw_c_lt (by omega)).1 ?_
  refine iw_iload (show wd 315 1 3 2 1 from ⟨by decide +kernel, by decide⟩).1 (show wd 315 1 3 2 1 from ⟨by decide +kernel, by decide⟩).2 (wd_ne (show wd 315 1 3 2 1 from ⟨by decide +kernel, by decide⟩) (by decide)) rfl (iw_c_lt (by omega)).1 ?_
  refine iw_getsF rfl sl_f (by rw [tb_b315]; decide +kernel) (fun v hv => ?_)
  refine iw_callS (as := [iv_c (2147483648 + j), iv_c (2147483648 + n), v]) (rest := []) (mj := 317) (out' := (iv_c (2147483648 + j), L)) (by decide +kernel) tb_k317 sl_pr (by rw [tb_b315]; decide +kernel) (by decide +kernel) ?_ (by show 3 ≤ (pg_i 317).1; decide +kernel) rfl rfl (by decide +kernel) (sj_pre hj hn) (Or.inl ⟨?_, ?_⟩)
  · exact st_wl3 (by omega) (by omega) (by rcases hv with rfl | rfl <;> decide +kernel)
  · have := (iw_c_lt (a := 2147483648 + j) (by omega)).1
    show iv_c (2147483648 + j) < _
    omega
  refine iw_pop (a := 2147483648 + j) (by rw [tb_b315]; decide +kernel) (by omega) ?_
  exact iw_retn (show wd 315 9 16 10 0 from ⟨by decide +kernel, by decide⟩).1 (show wd 315 9 16 10 0 from ⟨by decide +kernel, by decide⟩).2 rfl
theorem sj_l1 (hi : i < 32) (hj : j < iv_tl i) : iw_all sc 316 (d + 2) (iv_c (2147483648 + iv_tc i j), L) 0 0 0 [x_b (64 + i), iv_c (2147483648 + j)] [] L := by
  have hl := iv_tl_lt i hi
  have hc := hl.2 j (by omega)
  have hl := hl.1
  refine iw_iload (show wd 316 0 3 1 1 from ⟨by decide +kernel, by decide⟩).1 (show wd 316 0 3 1 1 from ⟨by decide +kernel, by decide⟩).2 (wd_ne (show wd 316 0 3 1 1 from ⟨by decide +kernel, by decide⟩) (by decide)) rfl (iw_c_lt (by omega)).1 ?_
  refine iw_aloadB (k4 := 0) ⟨by omega, by omega⟩ rfl (by rw [tb_b316]; decide +kernel) ?_
  refine iw_alenB hi (by rw [tb_b316]; decide +kernel) ?_
  refine iw_callS (as := [iv_c (2147483648 + j), iv_c (2147483648 + iv_tl i)]) (rest := []) (mj := 315) (out' := (147573952589676412928, L)) (by decide +kernel) tb_k315 sl_ck (by rw [tb_b316]; decide +kernel) (by decide +kernel) (st_wl2 (by omega) (by omega)) (by show 2 ≤ (pg_i 315).1; decide +kernel) rfl rfl (by decide +kernel) (sj_check hj hl) (Or.inr ⟨rfl, ?_⟩)
  refine iw_aloadB (k4 := 0) ⟨by omega, by omega⟩ rfl (by rw [tb_b316]; decide +kernel) ?_
  refine iw_iload (show wd 316 7 3 8 1 from ⟨by decide +kernel, by decide⟩).1 (show wd 316 7 3 8 1 from ⟨by decide +kernel, by decide⟩).2 (wd_ne (show wd 316 7 3 8 1 from ⟨by decide +kernel, by decide⟩) (by decide)) rfl (iw_c_lt (by omega)).1 ?_
  refine iw_baldB hi hj (by rw [tb_b316]; decide +kernel) ?_
  refine iw_const (show wd 316 9 4 12 9223373134218920191 from ⟨by decide +kernel, by decide⟩).1 (show wd 316 9 4 12 9223373134218920191 from ⟨by decide +kernel, by decide⟩).2 (wd_ne (show wd 316 9 4 12 9223373134218920191 from ⟨by decide +kernel, by decide⟩) (by decide)) (by decide) ?_
  have e : ∀ n, n < 128 → iv_bs (iv_ub (2147483648 + n) &&& iv_ub 2147483903) = 2147483648 + n := by decide +kernel
  refine iw_alu (k9 := 0) (a := 2147483648 + iv_tc i j) (z := 2147483903) (show wd 316 12 17 13 0 from ⟨by decide +kernel, by decide⟩).1 (show wd 316 12 17 13 0 from ⟨by decide +kernel, by decide⟩).2 (wd_ne (show wd 316 12 17 13 0 from ⟨by decide +kernel, by decide⟩) (by decide)) (by omega) (by decide) rfl ?_
  rw [e _ hc]
  refine iw_i2c hc (by rw [tb_b316]; decide +kernel) ?_
  exact iw_retB (ty := .char) hc rfl (by decide +kernel) (by rw [tb_b316]; decide +kernel)
theorem sj_char (hi : i < 32) (hj : j < iv_tl i) : iw_all sc 313 (d + 3) (iv_c (2147483648 + iv_tc i j), L) 0 0 0 [x_b (i + 1), iv_c (2147483648 + j)] [] L := by
  have hl := iv_tl_lt i hi
  have hc := hl.2 j (by omega)
  have hl := hl.1
  refine iw_aloadB (k4 := 0) ⟨by omega, by omega⟩ rfl (by rw [tb_b313]; decide +kernel) ?_
  refine iw_callT (t := []) (rest := []) (mj := 314) (out' := (iv_c 2147483649, L)) (by decide +kernel) tb_k314 sl_la hi (by rw [tb_b313]; decide +kernel) (by decide +kernel) (st_wl1 hi) (by decide +kernel) rfl rfl (by decide +kernel) (sj_latin hi) (by show iv_c 2147483649 < 147573952589676412928; decide +kernel) ?_
  refine iw_ifz (a := 2147483649) (k := 0) (tg := 16) (show wd 313 4 14 7 16 from ⟨by decide +kernel, by decide⟩).1 ⟨(show wd 313 4 14 7 16 from ⟨by decide +kernel, by decide⟩).2, by decide, by decide⟩ (wd_ne (show wd 313 4 14 7 16 from ⟨by decide +kernel, by decide⟩) (by decide)) (by decide) (fun q => absurd (show (2147483649 : Nat) = 2147483648 from q) (by decide)) (fun _ => ?_)
  refine iw_aloadB (k4 := 0) ⟨by omega, by omega⟩ rfl (by rw [tb_b313]; decide +kernel) ?_
  refine iw_getV hi rfl sl_v (by rw [tb_b313]; decide +kernel) ?_
  refine iw_iload (show wd 313 11 3 12 1 from ⟨by decide +kernel, by decide⟩).1 (show wd 313 11 3 12 1 from ⟨by decide +kernel, by decide⟩).2 (wd_ne (show wd 313 11 3 12 1 from ⟨by decide +kernel, by decide⟩) (by decide)) rfl (iw_c_lt (by omega)).1 ?_
  refine iw_callS (as := [x_b (64 + i), iv_c (2147483648 + j)]) (rest := []) (mj := 316) (out' := (iv_c (2147483648 + iv_tc i j), L)) (by decide +kernel) tb_k316 sl_l1 (by rw [tb_b313]; decide +kernel) (by decide +kernel) (st_wl2b hi (by omega)) (by show 2 ≤ (pg_i 316).1; decide +kernel) rfl rfl (by decide +kernel) (sj_l1 hi hj) (Or.inl ⟨?_, ?_⟩)
  · have := (iw_c_lt (a := 2147483648 + iv_tc i j) (by omega)).1
    show iv_c (2147483648 + iv_tc i j) < _
    omega
  exact iw_retB (ty := .char) hc rfl (by decide +kernel) (by rw [tb_b313]; decide +kernel)
end STR3
/-! ===== texts: the rules over tables ===== -/
section XRS
variable {sc : Nat × Nat} {mi d c0 s0 pc a i j : Nat} {lo st : List Nat} {h : xh} {Q : Nat → xh → Prop}
theorem x_ldcB {idx : Nat} {tx : String} (hm : ((pm_y mi).cls, idx, tx, i) ∈ iv_sx) (hi : i < 32) (hd : decode (pm_b mi) pc = .ok (.ldc idx, 2)) (k : X sc mi d Q c0 s0 (pc + 2) lo (x_b (i + 1) :: st) h) : X sc mi d Q c0 s0 pc lo st h := fun L hL =>
  let ⟨r, b, c, e, f, g⟩ := k L hL; ⟨r, b, c, e, f, iw_ldcB hm hi hd g⟩
theorem x_ldcwB {idx : Nat} {tx : String} (hm : ((pm_y mi).cls, idx, tx, i) ∈ iv_sx) (hi : i < 32) (hd : decode (pm_b mi) pc = .ok (.ldc_w idx, 3)) (k : X sc mi d Q c0 s0 (pc + 3) lo (x_b (i + 1) :: st) h) : X sc mi d Q c0 s0 pc lo st h := fun L hL =>
  let ⟨r, b, c, e, f, g⟩ := k L hL; ⟨r, b, c, e, f, iw_ldcwB hm hi hd g⟩
theorem x_aloadB {k4 : Fin 4} (hl : lo[k4.val]? = some (x_b (i + 1))) (hi : i < 32) (hd : decode (pm_b mi) pc = .ok (.aload_n k4, 1)) (k : X sc mi d Q c0 s0 (pc + 1) lo (x_b (i + 1) :: st) h) : X sc mi d Q c0 s0 pc lo st h := fun L hL =>
  let ⟨r, b, c, e, f, g⟩ := k L hL; ⟨r, b, c, e, f, iw_aloadB ⟨by omega, by omega⟩ hl hd g⟩
theorem x_len {idx : Nat} (hc : pg_c mi ≠ 0) (hLk : st_LT (pm_y mi).cls idx 311 0) (hi : i < 32) (hd : decode (pm_b mi) pc = .ok (.invokevirtual idx, 3)) (hw : iv_wl st ≤ 8) (k : X sc mi (d + 2) Q c0 s0 (pc + 3) lo (iv_c (2147483648 + iv_tl i) :: st) h) : X sc mi (d + 2) Q c0 s0 pc lo (x_b (i + 1) :: st) h := fun L hL => by
  obtain ⟨r, b, c, e, f, g⟩ := k L hL
  refine ⟨r, b, c, e, f, iw_callT (t := []) (rest := st) (mj := 311) (out' := (iv_c (2147483648 + iv_tl i), L)) hc tb_k311 hLk hi hd hw (st_wl1 hi) (by decide +kernel) rfl rfl (by decide +kernel) (sj_length hi) ?_ g⟩
  have h1 := (iv_tl_lt i hi).1
  have := (iw_c_lt (a := 2147483648 + iv_tl i) (by omega)).1
  show iv_c (2147483648 + iv_tl i) < _
  omega
theorem x_chr {idx : Nat} (hc : pg_c mi ≠ 0) (hLk : st_LT (pm_y mi).cls idx 313 1) (hi : i < 32) (ha : a = 2147483648 + j) (hj : j < iv_tl i) (hd : decode (pm_b mi) pc = .ok (.invokevirtual idx, 3)) (hw : iv_wl st ≤ 8) (k : X sc mi (d + 4) Q c0 s0 (pc + 3) lo (iv_c (2147483648 + iv_tc i j) :: st) h) : X sc mi (d + 4) Q c0 s0 pc lo (iv_c a :: x_b (i + 1) :: st) h := fun L hL => by
  subst ha
  obtain ⟨r, b, c, e, f, g⟩ := k L hL
  have h1 := iv_tl_lt i hi
  have h2 := h1.2 j (by omega)
  refine ⟨r, b, c, e, f, iw_callT (t := [iv_c (2147483648 + j)]) (rest := st) (mj := 313) (out' := (iv_c (2147483648 + iv_tc i j), L)) hc tb_k313 hLk hi hd hw (st_wlt hi (by omega)) (by show 2 ≤ (pg_i 313).1; decide +kernel) rfl rfl (by decide +kernel) (sj_char hi hj) ?_ g⟩
  have := (iw_c_lt (a := 2147483648 + iv_tc i j) (by omega)).1
  show iv_c (2147483648 + iv_tc i j) < _
  omega
theorem x_retA {nm : String} (hi : i < 32) (hr : pm_r mi = some (.object nm)) (hd : decode (pm_b mi) pc = .ok (.areturn, 1)) (hq : Q (x_b (i + 1)) h) : X sc mi d Q c0 s0 pc lo [x_b (i + 1)] h := fun L hL =>
  ⟨x_b (i + 1), L, h, hL, hq, iw_retA ⟨by omega, by omega⟩ hr hd⟩
end XRS
theorem x_wB {i n : Nat} {l : List Nat} (hi : i < 32) (k : iv_wl l ≤ n) : iv_wl (x_b (i + 1) :: l) ≤ n + 1 := x_wc (st_wb (by omega)) k
/-- an answer that is a text -/
def xS (h : xh) : Nat → xh → Prop := fun v h' => ∃ i, v = x_b (i + 1) ∧ i < 32 ∧ h' = h
theorem x_cS {sc : Nat × Nat} {mi d c0 s0 pc np : Nat} {lo st : List Nat} {h : xh} {Q : Nat → xh → Prop} {t mj n rc ml nr : Nat} {as rest lo1 : List Nat} (w : wd mi pc 12 np (mj + 4096 * n + 1048576 * t + 16777216 * rc)) (ht : t = 6 ∨ t = 8 ∨ (t = 0 ∧ rc = 0) ∨ (t = 7 ∧ rc = 0)) (g : x_cb mi mj n ml 0 0 c0 s0 = true) (hrc : x_rc rc as) (hst : st = as.reverse ++ rest) (hn : as.length = n) (hwa : iv_wl as ≤ n) (hwr : iv_wl rest ≤ nr) (h8 : nr ≤ 8) (hl : lo1 = as ++ List.replicate (ml - n) 147573952589676412928)
    (k : X sc mj d (xS h) 0 0 0 lo1 [] h) (k2 : ∀ i, i < 32 → X sc mi (d + 1) Q c0 s0 np lo (x_b (i + 1) :: rest) h) : X sc mi (d + 1) Q c0 s0 pc lo st h :=
  x_call w ht g hrc hst hn hwa hwr h8 hl k (fun v h' q => by
    obtain ⟨i, rfl, q1, rfl⟩ := q
    exact Or.inl ⟨x_b_lt (by omega), k2 i q1⟩)
/-- askedWord -/
theorem c51_S {sc : Nat × Nat} {d a0 : Nat} {h : xh} (la0 : a0 < 4294967296) : X sc 51 d (xS h) 0 0 0 [iv_c a0] [] h := by
  refine x_iload (np := 1) (x := 0) (by decide +kernel) rfl la0 ?_
  rcases (show a0 < 2147483648 ∨ 2147483652 < a0 ∨ a0 = 2147483648 ∨ a0 = 2147483649 ∨ a0 = 2147483650 ∨ a0 = 2147483651 ∨ a0 = 2147483652 by omega) with q | q | q | q | q | q | q
  · refine x_tsw0 (np := 2) (x := 0) (by decide +kernel) la0 (lo9 := 2147483648) (hi9 := 2147483652) (tg := 51) (by decide +kernel) (Or.inl q) ?_
    refine x_ldcB (i := 30) (idx := 107) (tx := "takes") (by rw [tb_y51]; exact List.mem_of_getElem? (i := 32) rfl) (by decide) (by rw [tb_b51]; decide +kernel) ?_
    exact x_retA (by decide) rfl (by rw [tb_b51]; decide +kernel) ⟨30, rfl, by decide, rfl⟩
  · refine x_tsw0 (np := 2) (x := 0) (by decide +kernel) la0 (lo9 := 2147483648) (hi9 := 2147483652) (tg := 51) (by decide +kernel) (Or.inr q) ?_
    refine x_ldcB (i := 30) (idx := 107) (tx := "takes") (by rw [tb_y51]; exact List.mem_of_getElem? (i := 32) rfl) (by decide) (by rw [tb_b51]; decide +kernel) ?_
    exact x_retA (by decide) rfl (by rw [tb_b51]; decide +kernel) ⟨30, rfl, by decide, rfl⟩
  · refine x_tsw1 (np := 2) (x := 0) (by decide +kernel) la0 (i := 0) (lo9 := 2147483648) (hi9 := 2147483652) (tg := 36) (by decide +kernel) (by omega) (by omega) ?_
    refine x_ldcB (i := 2) (idx := 97) (tx := "day") (by rw [tb_y51]; exact List.mem_of_getElem? (i := 27) rfl) (by decide) (by rw [tb_b51]; decide +kernel) ?_
    exact x_retA (by decide) rfl (by rw [tb_b51]; decide +kernel) ⟨2, rfl, by decide, rfl⟩
  · refine x_tsw1 (np := 2) (x := 0) (by decide +kernel) la0 (i := 1) (lo9 := 2147483648) (hi9 := 2147483652) (tg := 39) (by decide +kernel) (by omega) (by omega) ?_
    refine x_ldcB (i := 27) (idx := 99) (tx := "days") (by rw [tb_y51]; exact List.mem_of_getElem? (i := 28) rfl) (by decide) (by rw [tb_b51]; decide +kernel) ?_
    exact x_retA (by decide) rfl (by rw [tb_b51]; decide +kernel) ⟨27, rfl, by decide, rfl⟩
  · refine x_tsw1 (np := 2) (x := 0) (by decide +kernel) la0 (i := 2) (lo9 := 2147483648) (hi9 := 2147483652) (tg := 42) (by decide +kernel) (by omega) (by omega) ?_
    refine x_ldcB (i := 5) (idx := 101) (tx := "pledge") (by rw [tb_y51]; exact List.mem_of_getElem? (i := 29) rfl) (by decide) (by rw [tb_b51]; decide +kernel) ?_
    exact x_retA (by decide) rfl (by rw [tb_b51]; decide +kernel) ⟨5, rfl, by decide, rfl⟩
  · refine x_tsw1 (np := 2) (x := 0) (by decide +kernel) la0 (i := 3) (lo9 := 2147483648) (hi9 := 2147483652) (tg := 45) (by decide +kernel) (by omega) (by omega) ?_
    refine x_ldcB (i := 28) (idx := 103) (tx := "deep") (by rw [tb_y51]; exact List.mem_of_getElem? (i := 30) rfl) (by decide) (by rw [tb_b51]; decide +kernel) ?_
    exact x_retA (by decide) rfl (by rw [tb_b51]; decide +kernel) ⟨28, rfl, by decide, rfl⟩
  · refine x_tsw1 (np := 2) (x := 0) (by decide +kernel) la0 (i := 4) (lo9 := 2147483648) (hi9 := 2147483652) (tg := 48) (by decide +kernel) (by omega) (by omega) ?_
    refine x_ldcB (i := 29) (idx := 105) (tx := "gives") (by rw [tb_y51]; exact List.mem_of_getElem? (i := 31) rfl) (by decide) (by rw [tb_b51]; decide +kernel) ?_
    exact x_retA (by decide) rfl (by rw [tb_b51]; decide +kernel) ⟨29, rfl, by decide, rfl⟩
/-- a cell whose places all take what is between lo and hi -/
def rgw (k N lo hi g : Nat) : Prop := ∀ l, l < N → k < x_nc ∧ l < x_ln k ∧ j_lo k l ≤ lo ∧ hi ≤ j_hi k l ∧ x_gr k l = g ∧ j_nt k l
theorem jUw {h : xh} {k N lo hi g e v : Nat} (hJ : J h) (rg : rgw k N lo hi g) (hl : e < N) (hv : lo ≤ v ∧ v ≤ hi) : J (x_up h k e v) := by
  obtain ⟨r1, r2, r3, r4, -, r6⟩ := rg e hl
  exact J_up hJ ⟨Nat.le_trans r3 hv.1, Nat.le_trans hv.2 r4⟩ r6
theorem jFw {h h1 : xh} {k N lo hi g e v M : Nat} (f : Fr M h h1) (rg : rgw k N lo hi g) (hl : e < N) (hg : Nat.testBit M g = true) : Fr M h (x_up h1 k e v) := by
  obtain ⟨-, -, -, -, r5, -⟩ := rg e hl
  exact f.up (by rw [r5]; exact hg)
theorem iv_tl_ge : ∀ i, i < 32 → 2 ≤ iv_tl i := by decide +kernel
