/-! ===== methods ===== -/
set_option maxHeartbeats 0 in
/-- LentNames$Tape.takesWord(Ljava/lang/String;)Z -/
theorem c78_1_S0 {sc : Nat × Nat} {d ia1 : Nat} {h : xh} {tB : Nat → Nat} {tN : Nat} (hJ : J h) (hia1 : ia1 < 32) (hT : Tp tB tN h) : X sc 78 (d + 5) (xI fun r h' => J h' ∧ Fr 33 h h' ∧ (2147483648 ≤ r ∧ r ≤ 2147483649) ∧ (r = 2147483649 → h 1 2 + iv_tl ia1 ≤ h' 1 2) ∧ (r = 2147483648 → h' 1 2 = h 1 2) ∧ Tk (Wd tB tN ia1 (h 1 2)) tB tN (h 1 2) (iv_tl ia1) r (h' 1 2)) 0 0 0 [x_r 1, x_b (ia1 + 1)] [] h := by
  have hF := Fr.refl 33 h
  refine x_aload (np := 1) (x := 0) (by decide +kernel) rfl (x_nc_le (by decide)) ?_
  refine x_aloadB (i := ia1) (k4 := 1) rfl hia1 (by rw [tb_b78]; decide +kernel) ?_
  refine x_cP (t := 6) (mj := 77) (n := 2) (rc := 8) (ml := 4) (nr := 0) (np := 5) (as := [x_r 1, x_b (ia1 + 1)]) (rest := []) (lo1 := [x_r 1, x_b (ia1 + 1), 147573952589676412928, 147573952589676412928]) (by decide +kernel) (by decide) (by decide +kernel) (x_rb_of (by decide +kernel)) rfl rfl (x_wr (by decide) (x_wB hia1 x_wn)) x_wn (by decide) rfl (c77_1_S0n hJ  hia1 hT) (fun v1 l2 q3 => ?_)
  obtain ⟨b6, c4, c5⟩ := q3
  have b7 := jB (e := 2) 0 hJ rg_1_2_0_1 (by omega) (by omega)
  refine x_ifz (k := 1) (tg := 10) (np := 8) (by decide +kernel) (by decide) l2 (fun q8 => ?_) (fun q9 => ?_)
  · have q8 : v1 ≠ 2147483648 := q8
    have b10 := c4 (by omega)
    refine x_aload (np := 11) (x := 0) (by decide +kernel) rfl (x_nc_le (by decide)) ?_
    refine x_aload (np := 12) (x := 0) (by decide +kernel) rfl (x_nc_le (by decide)) ?_
    refine x_getC (np := 15) (x := 450) (f := 2) (q := (h 1 2)) (by decide +kernel) (by decide) (by decide +kernel) rfl (fun l11 => ?_)
    refine x_aloadB (i := ia1) (k4 := 1) rfl hia1 (by rw [tb_b78]; decide +kernel) ?_
    have b12 := (iv_tl_lt ia1 hia1).1
    have b13 := iv_tl_ge ia1 hia1
    refine x_len (by decide +kernel) (by rw [tb_y78]; exact sl_Tl) hia1 (by rw [tb_b78]; decide +kernel) (Nat.le_trans (x_wi l11 (x_wr (by decide) x_wn)) (by decide)) ?_
    refine x_iadd (np := 20) (x := 0) (v := ((h 1 2) + (iv_tl ia1))) (by decide +kernel) l11 (by omega) (by omega) (by omega) ?_
    refine x_cV (t := 6) (mj := 80) (n := 2) (rc := 8) (ml := 2) (nr := 0) (np := 23) (as := [x_r 1, iv_c ((h 1 2) + (iv_tl ia1))]) (rest := []) (lo1 := [x_r 1, iv_c ((h 1 2) + (iv_tl ia1))]) (by decide +kernel) (by decide) (by decide +kernel) (x_rb_of (by decide +kernel)) rfl rfl (x_wr (by decide) (x_wi (by omega) x_wn)) x_wn (by decide) rfl (c80_1nn hJ  (by omega) hT) (fun h17 q16 => ?_)
    obtain ⟨j18, f19, c22, c23⟩ := q16
    have f24 := Fr.trans hF f19 (by decide)
    have b25 := jB (e := 2) 0 j18 rg_1_2_0_1 (by omega) (by omega)
    refine x_const (np := 24) (x := 9223372043297226753) (a := 2147483649) (by decide +kernel) (by decide) (by decide) ?_
    have b26 := iv_tl_ge ia1 hia1
    refine x_retI (np := 25) (x := 0) (by decide +kernel) (by decide) (Or.inr ⟨by decide +kernel, by omega, by omega⟩) ⟨_, rfl, (by decide), ?_⟩
    exact ⟨j18, f24, (by omega), (fun z => by omega), (fun z => by omega), (Tk.mk1 (by omega) (Is.yes c5 (by omega)) c23 (by omega))⟩
  have q9 : ¬ (v1 ≠ 2147483648) := q9
  refine x_const (np := 9) (x := 9223372039002259456) (a := 2147483648) (by decide +kernel) (by decide) (by decide) ?_
  have b27 := iv_tl_ge ia1 hia1
  refine x_retI (np := 10) (x := 0) (by decide +kernel) (by decide) (Or.inr ⟨by decide +kernel, by omega, by omega⟩) ⟨_, rfl, (by decide), ?_⟩
  exact ⟨hJ, hF, (by omega), (fun z => by omega), (fun z => by omega), (Tk.mk0 (by omega) (Is.no c5 (by omega)) rfl)⟩
set_option maxHeartbeats 0 in
/-- LentNames$Tape.isSign(C)Z -/
theorem c75_1 {sc : Nat × Nat} {d a1 : Nat} {h : xh} {tB : Nat → Nat} {tN : Nat} (hJ : J h) (ba1 : 2147483648 ≤ a1 ∧ a1 ≤ 2147483775) (hT : Tp tB tN h) : X sc 75 (d + 1) (xI fun r h' => h' = h ∧ (2147483648 ≤ r ∧ r ≤ 2147483649) ∧ (r = 2147483649 → h 1 2 + 1 ≤ 2147484048) ∧ Is (Sg tB tN a1 (h 1 2)) r) 0 0 0 [x_r 1, iv_c a1] [] h := by
  have la1 : a1 < 4294967296 := by omega
  refine x_aload (np := 1) (x := 0) (by decide +kernel) rfl (x_nc_le (by decide)) ?_
  refine x_aload (np := 2) (x := 0) (by decide +kernel) rfl (x_nc_le (by decide)) ?_
  have b1 := jB (e := 2) 0 hJ rg_1_2_0_1 (by omega) (by omega)
  refine x_getC (np := 5) (x := 450) (f := 2) (q := (h 1 2)) (by decide +kernel) (by decide) (by decide +kernel) rfl (fun l2 => ?_)
  refine x_nI (t := 6) (mj := 81) (n := 2) (rc := 8) (ml := 2) (nr := 0) (np := 8) (as := [x_r 1, iv_c (h 1 2)]) (rest := []) (lo1 := [x_r 1, iv_c (h 1 2)]) (by decide +kernel) (by decide) (by decide +kernel) (x_rb_of (by decide +kernel)) rfl rfl (x_wr (by decide) (x_wi l2 x_wn)) x_wn (by decide) rfl ?_
  refine x_iload (np := 1) (x := 1) (by decide +kernel) rfl l2 ?_
  refine x_aload (np := 2) (x := 0) (by decide +kernel) rfl (x_nc_le (by decide)) ?_
  have b3 := jB (e := 1) 0 hJ rg_1_1_0_1 (by omega) (by omega)
  refine x_getC (np := 5) (x := 449) (f := 1) (q := (h 1 1)) (by decide +kernel) (by decide) (by decide +kernel) rfl (fun l4 => ?_)
  refine x_icmp (k := 3) (tg := 17) (np := 8) (by decide +kernel) (by decide) l2 l4 (fun q5 => ?_) (fun q6 => ?_)
  · have q5 : (h 1 1) ≤ (h 1 2) := q5
    refine x_const (np := 18) (x := 9223372034707292159) (a := 2147483647) (by decide +kernel) (by decide) (by decide) ?_
    refine x_retI (np := 19) (x := 0) (by decide +kernel) (by decide) (Or.inl (by decide +kernel)) ⟨_, rfl, (by decide), ?_⟩
    refine x_iload (np := 9) (x := 1) (by decide +kernel) rfl la1 ?_
    refine x_icmp (k := 1) (tg := 16) (np := 12) (by decide +kernel) (by decide) (by decide) la1 (fun q7 => ?_) (fun q8 => ?_)
    · have q7 : 2147483647 ≠ a1 := q7
      refine x_const (np := 17) (x := 9223372039002259456) (a := 2147483648) (by decide +kernel) (by decide) (by decide) ?_
      have z9 := hT.1
      refine x_retI (np := 18) (x := 0) (by decide +kernel) (by decide) (Or.inr ⟨by decide +kernel, by omega, by omega⟩) ⟨_, rfl, (by decide), ?_⟩
      exact ⟨rfl, (by omega), (fun z => by omega), (Is.mk0 (by omega) (fun z => by have z1 := z.1; have z2 := z.2; omega))⟩
    have q8 : ¬ (2147483647 ≠ a1) := q8
    exfalso; omega
  have q6 : ¬ ((h 1 1) ≤ (h 1 2)) := q6
  refine x_aload (np := 9) (x := 0) (by decide +kernel) rfl (x_nc_le (by decide)) ?_
  have q10 : h 1 0 = 2 := by have z := jB (e := 0) 0 hJ rg_1_0_0_1 (by decide) (by decide); omega
  refine x_getR (np := 12) (x := 448) (f := 0) (q := 2) (by decide +kernel) (by decide) (by decide +kernel) q10 ?_
  refine x_iload (np := 13) (x := 1) (by decide +kernel) rfl l2 ?_
  obtain ⟨u11, q12⟩ : ∃ z, (h 1 2) = 2147483648 + z := ⟨(h 1 2) - 2147483648, by omega⟩
  refine x_aldC (np := 14) (x := 0) (n := 400) (i := u11) (q := (h 2 u11)) (by decide +kernel) (by decide +kernel) (by omega) (by omega) (by decide) rfl (fun l13 => ?_)
  refine x_goto (np := 17) (x := 18) (by decide +kernel) ?_
  refine x_retI (np := 19) (x := 0) (by decide +kernel) l13 (Or.inl (by decide +kernel)) ⟨_, rfl, l13, ?_⟩
  refine x_iload (np := 9) (x := 1) (by decide +kernel) rfl la1 ?_
  refine x_icmp (k := 1) (tg := 16) (np := 12) (by decide +kernel) (by decide) l13 la1 (fun q14 => ?_) (fun q15 => ?_)
  · have q14 : (h 2 u11) ≠ a1 := q14
    refine x_const (np := 17) (x := 9223372039002259456) (a := 2147483648) (by decide +kernel) (by decide) (by decide) ?_
    have z16 := hT.1
    have z17 := Tp.at (p := (h 1 2)) (u := u11) hT (by omega) (by omega)
    refine x_retI (np := 18) (x := 0) (by decide +kernel) (by decide) (Or.inr ⟨by decide +kernel, by omega, by omega⟩) ⟨_, rfl, (by decide), ?_⟩
    exact ⟨rfl, (by omega), (fun z => by omega), (Is.mk0 (by omega) (fun z => by have z1 := z.1; have z2 := z.2; omega))⟩
  have q15 : ¬ ((h 2 u11) ≠ a1) := q15
  refine x_const (np := 13) (x := 9223372043297226753) (a := 2147483649) (by decide +kernel) (by decide) (by decide) ?_
  refine x_goto (np := 16) (x := 17) (by decide +kernel) ?_
  have z18 := hT.1
  have z19 := Tp.at (p := (h 1 2)) (u := u11) hT (by omega) (by omega)
  refine x_retI (np := 18) (x := 0) (by decide +kernel) (by decide) (Or.inr ⟨by decide +kernel, by omega, by omega⟩) ⟨_, rfl, (by decide), ?_⟩
  exact ⟨rfl, (by omega), (fun z => by omega), (Is.mk1 (by omega) ⟨by omega, by omega⟩)⟩
set_option maxHeartbeats 0 in
/-- LentNames$Tape.takesNumber(II)I -/
theorem c79_1_c0n {sc : Nat × Nat} {d a2 : Nat} {h : xh} {tB : Nat → Nat} {tN : Nat} (hJ : J h) (ba2 : 2147484479 ≤ a2 ∧ a2 ≤ 2147484769) (hT : Tp tB tN h) : X sc 79 (d + 1) (xI fun r h' => J h' ∧ Fr 33 h h' ∧ (2147483647 ≤ r ∧ r ≤ 2147484647) ∧ (r ≤ a2) ∧ (2147483648 ≤ r → h 1 2 + 1 ≤ h' 1 2) ∧ (r = 2147483647 → h' 1 2 = h 1 2) ∧ Nr tB tN 2147483648 a2 (h 1 2) r (h' 1 2)) 0 0 0 [x_r 1, iv_c 2147483648, iv_c a2, 147573952589676412928, 147573952589676412928] [] h := by
  have la2 : a2 < 4294967296 := by omega
  have hF := Fr.refl 33 h
  refine x_const (np := 1) (x := 9223372039002259456) (a := 2147483648) (by decide +kernel) (by decide) (by decide) ?_
  refine x_istore (np := 2) (x := 3) (lo' := [x_r 1, iv_c 2147483648, iv_c a2, iv_c 2147483648, 147573952589676412928]) (by decide +kernel) (by decide) (Nat.le_of_ble_eq_true rfl) rfl ?_
  refine x_const (np := 3) (x := 9223372039002259456) (a := 2147483648) (by decide +kernel) (by decide) (by decide) ?_
  refine x_istore (np := 5) (x := 4) (lo' := [x_r 1, iv_c 2147483648, iv_c a2, iv_c 2147483648, iv_c 2147483648]) (by decide +kernel) (by decide) (Nat.le_of_ble_eq_true rfl) rfl ?_
  refine x_iload (np := 7) (x := 4) (by decide +kernel) rfl (by decide) ?_
  refine x_const (np := 8) (x := 9223372051887161347) (a := 2147483651) (by decide +kernel) (by decide) (by decide) ?_
  refine x_icmp (k := 4) (tg := 54) (np := 11) (by decide +kernel) (by decide) (by decide) (by decide) (fun q1 => ?_) (fun q2 => ?_)
  · have q1 : 2147483651 < 2147483648 := q1
    exfalso; omega
  have q2 : ¬ (2147483651 < 2147483648) := q2
  refine x_aload (np := 12) (x := 0) (by decide +kernel) rfl (x_nc_le (by decide)) ?_
  refine x_aload (np := 13) (x := 0) (by decide +kernel) rfl (x_nc_le (by decide)) ?_
  have b3 := jB (e := 2) 0 hJ rg_1_2_0_1 (by omega) (by omega)
  refine x_getC (np := 16) (x := 450) (f := 2) (q := (h 1 2)) (by decide +kernel) (by decide) (by decide +kernel) rfl (fun l4 => ?_)
  refine x_iload (np := 18) (x := 4) (by decide +kernel) rfl (by decide) ?_
  refine x_iadd (np := 19) (x := 0) (v := (h 1 2)) (by decide +kernel) l4 (by decide) (by omega) (by omega) ?_
  refine x_nI (t := 6) (mj := 81) (n := 2) (rc := 8) (ml := 2) (nr := 0) (np := 22) (as := [x_r 1, iv_c (h 1 2)]) (rest := []) (lo1 := [x_r 1, iv_c (h 1 2)]) (by decide +kernel) (by decide) (by decide +kernel) (x_rb_of (by decide +kernel)) rfl rfl (x_wr (by decide) (x_wi l4 x_wn)) x_wn (by decide) rfl ?_
  refine x_iload (np := 1) (x := 1) (by decide +kernel) rfl l4 ?_
  refine x_aload (np := 2) (x := 0) (by decide +kernel) rfl (x_nc_le (by decide)) ?_
  have b5 := jB (e := 1) 0 hJ rg_1_1_0_1 (by omega) (by omega)
  refine x_getC (np := 5) (x := 449) (f := 1) (q := (h 1 1)) (by decide +kernel) (by decide) (by decide +kernel) rfl (fun l6 => ?_)
  refine x_icmp (k := 3) (tg := 17) (np := 8) (by decide +kernel) (by decide) l4 l6 (fun q7 => ?_) (fun q8 => ?_)
  · have q7 : (h 1 1) ≤ (h 1 2) := q7
    refine x_const (np := 18) (x := 9223372034707292159) (a := 2147483647) (by decide +kernel) (by decide) (by decide) ?_
    refine x_retI (np := 19) (x := 0) (by decide +kernel) (by decide) (Or.inl (by decide +kernel)) ⟨_, rfl, (by decide), ?_⟩
    refine x_nI (t := 0) (mj := 82) (n := 1) (rc := 0) (ml := 1) (nr := 0) (np := 25) (as := [iv_c 2147483647]) (rest := []) (lo1 := [iv_c 2147483647]) (by decide +kernel) (by decide) (by decide +kernel) (Or.inl rfl) rfl rfl (x_wi (by decide) x_wn) x_wn (by decide) rfl ?_
    refine x_iload (np := 1) (x := 0) (by decide +kernel) rfl (by decide) ?_
    refine x_const (np := 3) (x := 9223372245160689712) (a := 2147483696) (by decide +kernel) (by decide) (by decide) ?_
    refine x_icmp (k := 2) (tg := 16) (np := 6) (by decide +kernel) (by decide) (by decide) (by decide) (fun q9 => ?_) (fun q10 => ?_)
    · have q9 : 2147483647 < 2147483696 := q9
      refine x_const (np := 17) (x := 9223372039002259456) (a := 2147483648) (by decide +kernel) (by decide) (by decide) ?_
      refine x_retI (np := 18) (x := 0) (by decide +kernel) (by decide) (Or.inr ⟨by decide +kernel, by omega, by omega⟩) ⟨_, rfl, (by decide), ?_⟩
      refine x_ifz (k := 0) (tg := 54) (np := 28) (by decide +kernel) (by decide) (by decide) (fun q11 => ?_) (fun q12 => ?_)
      · have q11 : 2147483648 = 2147483648 := q11
        refine x_iload (np := 56) (x := 4) (by decide +kernel) rfl (by decide) ?_
        refine x_ifz (k := 0) (tg := 75) (np := 59) (by decide +kernel) (by decide) (by decide) (fun q13 => ?_) (fun q14 => ?_)
        · have q13 : 2147483648 = 2147483648 := q13
          refine x_const (np := 76) (x := 9223372034707292159) (a := 2147483647) (by decide +kernel) (by decide) (by decide) ?_
          have z15 := hT.1
          have z16 := hT.1
          have g17 : ¬ Dg tB tN (h 1 2 + 0) := fun z => by have z1 := z.1; have z2 := z.2.1; have z3 := z.2.2; omega
          refine x_retI (np := 77) (x := 0) (by decide +kernel) (by decide) (Or.inl (by decide +kernel)) ⟨_, rfl, (by decide), ?_⟩
          exact ⟨hJ, hF, (by omega), (by omega), (fun z => by omega), (fun z => by omega), (Nr.nob (by omega) (Nb.mk0 g17))⟩
        have q14 : ¬ (2147483648 = 2147483648) := q14
        exfalso; omega
      have q12 : ¬ (2147483648 = 2147483648) := q12
      exfalso; omega
    have q10 : ¬ (2147483647 < 2147483696) := q10
    exfalso; omega
  have q8 : ¬ ((h 1 1) ≤ (h 1 2)) := q8
  refine x_aload (np := 9) (x := 0) (by decide +kernel) rfl (x_nc_le (by decide)) ?_
  have q18 : h 1 0 = 2 := by have z := jB (e := 0) 0 hJ rg_1_0_0_1 (by decide) (by decide); omega
  refine x_getR (np := 12) (x := 448) (f := 0) (q := 2) (by decide +kernel) (by decide) (by decide +kernel) q18 ?_
  refine x_iload (np := 13) (x := 1) (by decide +kernel) rfl l4 ?_
  obtain ⟨u19, q20⟩ : ∃ z, (h 1 2) = 2147483648 + z := ⟨(h 1 2) - 2147483648, by omega⟩
  refine x_aldC (np := 14) (x := 0) (n := 400) (i := u19) (q := (h 2 u19)) (by decide +kernel) (by decide +kernel) (by omega) (by omega) (by decide) rfl (fun l21 => ?_)
  refine x_goto (np := 17) (x := 18) (by decide +kernel) ?_
  refine x_retI (np := 19) (x := 0) (by decide +kernel) l21 (Or.inl (by decide +kernel)) ⟨_, rfl, l21, ?_⟩
  refine x_nI (t := 0) (mj := 82) (n := 1) (rc := 0) (ml := 1) (nr := 0) (np := 25) (as := [iv_c (h 2 u19)]) (rest := []) (lo1 := [iv_c (h 2 u19)]) (by decide +kernel) (by decide) (by decide +kernel) (Or.inl rfl) rfl rfl (x_wi l21 x_wn) x_wn (by decide) rfl ?_
  refine x_iload (np := 1) (x := 0) (by decide +kernel) rfl l21 ?_
  refine x_const (np := 3) (x := 9223372245160689712) (a := 2147483696) (by decide +kernel) (by decide) (by decide) ?_
  refine x_icmp (k := 2) (tg := 16) (np := 6) (by decide +kernel) (by decide) l21 (by decide) (fun q22 => ?_) (fun q23 => ?_)
  · have q22 : (h 2 u19) < 2147483696 := q22
    refine x_const (np := 17) (x := 9223372039002259456) (a := 2147483648) (by decide +kernel) (by decide) (by decide) ?_
    refine x_retI (np := 18) (x := 0) (by decide +kernel) (by decide) (Or.inr ⟨by decide +kernel, by omega, by omega⟩) ⟨_, rfl, (by decide), ?_⟩
    refine x_ifz (k := 0) (tg := 54) (np := 28) (by decide +kernel) (by decide) (by decide) (fun q24 => ?_) (fun q25 => ?_)
    · have q24 : 2147483648 = 2147483648 := q24
      refine x_iload (np := 56) (x := 4) (by decide +kernel) rfl (by decide) ?_
      refine x_ifz (k := 0) (tg := 75) (np := 59) (by decide +kernel) (by decide) (by decide) (fun q26 => ?_) (fun q27 => ?_)
      · have q26 : 2147483648 = 2147483648 := q26
        refine x_const (np := 76) (x := 9223372034707292159) (a := 2147483647) (by decide +kernel) (by decide) (by decide) ?_
        have z28 := hT.1
        have z29 := hT.1
        have z30 := Tp.at (p := (h 1 2 + 0)) (u := u19) hT (by omega) (by omega)
        have g31 : ¬ Dg tB tN (h 1 2 + 0) := fun z => by have z1 := z.1; have z2 := z.2.1; have z3 := z.2.2; omega
        refine x_retI (np := 77) (x := 0) (by decide +kernel) (by decide) (Or.inl (by decide +kernel)) ⟨_, rfl, (by decide), ?_⟩
        exact ⟨hJ, hF, (by omega), (by omega), (fun z => by omega), (fun z => by omega), (Nr.nob (by omega) (Nb.mk0 g31))⟩
      have q27 : ¬ (2147483648 = 2147483648) := q27
      exfalso; omega
    have q25 : ¬ (2147483648 = 2147483648) := q25
    exfalso; omega
  have q23 : ¬ ((h 2 u19) < 2147483696) := q23
  refine x_iload (np := 7) (x := 0) (by decide +kernel) rfl l21 ?_
  refine x_const (np := 9) (x := 9223372283815395385) (a := 2147483705) (by decide +kernel) (by decide) (by decide) ?_
  refine x_icmp (k := 4) (tg := 16) (np := 12) (by decide +kernel) (by decide) l21 (by decide) (fun q32 => ?_) (fun q33 => ?_)
  · have q32 : 2147483705 < (h 2 u19) := q32
    refine x_const (np := 17) (x := 9223372039002259456) (a := 2147483648) (by decide +kernel) (by decide) (by decide) ?_
    refine x_retI (np := 18) (x := 0) (by decide +kernel) (by decide) (Or.inr ⟨by decide +kernel, by omega, by omega⟩) ⟨_, rfl, (by decide), ?_⟩
    refine x_ifz (k := 0) (tg := 54) (np := 28) (by decide +kernel) (by decide) (by decide) (fun q34 => ?_) (fun q35 => ?_)
    · have q34 : 2147483648 = 2147483648 := q34
      refine x_iload (np := 56) (x := 4) (by decide +kernel) rfl (by decide) ?_
      refine x_ifz (k := 0) (tg := 75) (np := 59) (by decide +kernel) (by decide) (by decide) (fun q36 => ?_) (fun q37 => ?_)
      · have q36 : 2147483648 = 2147483648 := q36
        refine x_const (np := 76) (x := 9223372034707292159) (a := 2147483647) (by decide +kernel) (by decide) (by decide) ?_
        have z38 := hT.1
        have z39 := hT.1
        have z40 := Tp.at (p := (h 1 2 + 0)) (u := u19) hT (by omega) (by omega)
        have g41 : ¬ Dg tB tN (h 1 2 + 0) := fun z => by have z1 := z.1; have z2 := z.2.1; have z3 := z.2.2; omega
        refine x_retI (np := 77) (x := 0) (by decide +kernel) (by decide) (Or.inl (by decide +kernel)) ⟨_, rfl, (by decide), ?_⟩
        exact ⟨hJ, hF, (by omega), (by omega), (fun z => by omega), (fun z => by omega), (Nr.nob (by omega) (Nb.mk0 g41))⟩
      have q37 : ¬ (2147483648 = 2147483648) := q37
      exfalso; omega
    have q35 : ¬ (2147483648 = 2147483648) := q35
    exfalso; omega
  have q33 : ¬ (2147483705 < (h 2 u19)) := q33
  refine x_const (np := 13) (x := 9223372043297226753) (a := 2147483649) (by decide +kernel) (by decide) (by decide) ?_
  refine x_goto (np := 16) (x := 17) (by decide +kernel) ?_
  refine x_retI (np := 18) (x := 0) (by decide +kernel) (by decide) (Or.inr ⟨by decide +kernel, by omega, by omega⟩) ⟨_, rfl, (by decide), ?_⟩
  refine x_ifz (k := 0) (tg := 54) (np := 28) (by decide +kernel) (by decide) (by decide) (fun q42 => ?_) (fun q43 => ?_)
  · have q42 : 2147483649 = 2147483648 := q42
    exfalso; omega
  have q43 : ¬ (2147483649 = 2147483648) := q43
  refine x_iload (np := 29) (x := 3) (by decide +kernel) rfl (by decide) ?_
  refine x_const (np := 31) (x := 9223372081951932426) (a := 2147483658) (by decide +kernel) (by decide) (by decide) ?_
  refine x_imul (np := 32) (x := 0) (i := 0) (j := 10) (v := 2147483648) (by decide +kernel) (by omega) (by omega) (by omega) (by omega) (by decide) (by decide) ?_
  refine x_aload (np := 33) (x := 0) (by decide +kernel) rfl (x_nc_le (by decide)) ?_
  refine x_aload (np := 34) (x := 0) (by decide +kernel) rfl (x_nc_le (by decide)) ?_
  refine x_getC (np := 37) (x := 450) (f := 2) (q := (h 1 2)) (by decide +kernel) (by decide) (by decide +kernel) rfl (fun l45 => ?_)
  refine x_iload (np := 39) (x := 4) (by decide +kernel) rfl (by decide) ?_
  refine x_iadd (np := 40) (x := 0) (v := (h 1 2)) (by decide +kernel) l4 (by decide) (by omega) (by omega) ?_
  refine x_nI (t := 6) (mj := 81) (n := 2) (rc := 8) (ml := 2) (nr := 1) (np := 43) (as := [x_r 1, iv_c (h 1 2)]) (rest := [iv_c 2147483648]) (lo1 := [x_r 1, iv_c (h 1 2)]) (by decide +kernel) (by decide) (by decide +kernel) (x_rb_of (by decide +kernel)) rfl rfl (x_wr (by decide) (x_wi l4 x_wn)) (x_wi (by decide) x_wn) (by decide) rfl ?_
  refine x_iload (np := 1) (x := 1) (by decide +kernel) rfl l4 ?_
  refine x_aload (np := 2) (x := 0) (by decide +kernel) rfl (x_nc_le (by decide)) ?_
  refine x_getC (np := 5) (x := 449) (f := 1) (q := (h 1 1)) (by decide +kernel) (by decide) (by decide +kernel) rfl (fun l46 => ?_)
  refine x_icmp (k := 3) (tg := 17) (np := 8) (by decide +kernel) (by decide) l4 l6 (fun q47 => ?_) (fun q48 => ?_)
  · have q47 : (h 1 1) ≤ (h 1 2) := q47
    exfalso; omega
  have q48 : ¬ ((h 1 1) ≤ (h 1 2)) := q48
  refine x_aload (np := 9) (x := 0) (by decide +kernel) rfl (x_nc_le (by decide)) ?_
  have q49 : h 1 0 = 2 := by have z := jB (e := 0) 0 hJ rg_1_0_0_1 (by decide) (by decide); omega
  refine x_getR (np := 12) (x := 448) (f := 0) (q := 2) (by decide +kernel) (by decide) (by decide +kernel) q49 ?_
  refine x_iload (np := 13) (x := 1) (by decide +kernel) rfl l4 ?_
  refine x_aldC (np := 14) (x := 0) (n := 400) (i := u19) (q := (h 2 u19)) (by decide +kernel) (by decide +kernel) (by omega) (by omega) (by decide) rfl (fun l50 => ?_)
  refine x_goto (np := 17) (x := 18) (by decide +kernel) ?_
  refine x_retI (np := 19) (x := 0) (by decide +kernel) l21 (Or.inl (by decide +kernel)) ⟨_, rfl, l21, ?_⟩
  refine x_iadd (np := 44) (x := 0) (v := (h 2 u19)) (by decide +kernel) (by decide) l21 (by omega) (by omega) ?_
  refine x_const (np := 46) (x := 9223372245160689712) (a := 2147483696) (by decide +kernel) (by decide) (by decide) ?_
  obtain ⟨v51, q52⟩ : ∃ z, z + 2147483696 = (h 2 u19) + 2147483648 := ⟨(h 2 u19) + 2147483648 - 2147483696, by omega⟩
  refine x_isub (np := 47) (x := 0) (v := v51) (by decide +kernel) l21 (by decide) (by omega) (by omega) ?_
  refine x_istore (np := 48) (x := 3) (lo' := [x_r 1, iv_c 2147483648, iv_c a2, iv_c v51, iv_c 2147483648]) (by decide +kernel) (by omega) (Nat.le_of_ble_eq_true rfl) rfl ?_
  refine x_iinc (np := 51) (i := 4) (j := 2147483649) (v := 2147483649) (lo' := [x_r 1, iv_c 2147483648, iv_c a2, iv_c v51, iv_c 2147483649]) (by decide +kernel) (by decide) (by decide) rfl (by decide) (by omega) (by omega) rfl ?_
  refine x_goto (np := 54) (x := 5) (by decide +kernel) ?_
  refine x_iload (np := 7) (x := 4) (by decide +kernel) rfl (by decide) ?_
  refine x_const (np := 8) (x := 9223372051887161347) (a := 2147483651) (by decide +kernel) (by decide) (by decide) ?_
  refine x_icmp (k := 4) (tg := 54) (np := 11) (by decide +kernel) (by decide) (by decide) (by decide) (fun q53 => ?_) (fun q54 => ?_)
  · have q53 : 2147483651 < 2147483649 := q53
    exfalso; omega
  have q54 : ¬ (2147483651 < 2147483649) := q54
  refine x_aload (np := 12) (x := 0) (by decide +kernel) rfl (x_nc_le (by decide)) ?_
  refine x_aload (np := 13) (x := 0) (by decide +kernel) rfl (x_nc_le (by decide)) ?_
  refine x_getC (np := 16) (x := 450) (f := 2) (q := (h 1 2)) (by decide +kernel) (by decide) (by decide +kernel) rfl (fun l55 => ?_)
  refine x_iload (np := 18) (x := 4) (by decide +kernel) rfl (by decide) ?_
  refine x_iadd (np := 19) (x := 0) (v := (1 + (h 1 2))) (by decide +kernel) l4 (by decide) (by omega) (by omega) ?_
  refine x_nI (t := 6) (mj := 81) (n := 2) (rc := 8) (ml := 2) (nr := 0) (np := 22) (as := [x_r 1, iv_c (1 + (h 1 2))]) (rest := []) (lo1 := [x_r 1, iv_c (1 + (h 1 2))]) (by decide +kernel) (by decide) (by decide +kernel) (x_rb_of (by decide +kernel)) rfl rfl (x_wr (by decide) (x_wi (by omega) x_wn)) x_wn (by decide) rfl ?_
  refine x_iload (np := 1) (x := 1) (by decide +kernel) rfl (by omega) ?_
  refine x_aload (np := 2) (x := 0) (by decide +kernel) rfl (x_nc_le (by decide)) ?_
  refine x_getC (np := 5) (x := 449) (f := 1) (q := (h 1 1)) (by decide +kernel) (by decide) (by decide +kernel) rfl (fun l56 => ?_)
  refine x_icmp (k := 3) (tg := 17) (np := 8) (by decide +kernel) (by decide) (by omega) l6 (fun q57 => ?_) (fun q58 => ?_)
  · have q57 : (h 1 1) ≤ (1 + (h 1 2)) := q57
    refine x_const (np := 18) (x := 9223372034707292159) (a := 2147483647) (by decide +kernel) (by decide) (by decide) ?_
    refine x_retI (np := 19) (x := 0) (by decide +kernel) (by decide) (Or.inl (by decide +kernel)) ⟨_, rfl, (by decide), ?_⟩
    refine x_nI (t := 0) (mj := 82) (n := 1) (rc := 0) (ml := 1) (nr := 0) (np := 25) (as := [iv_c 2147483647]) (rest := []) (lo1 := [iv_c 2147483647]) (by decide +kernel) (by decide) (by decide +kernel) (Or.inl rfl) rfl rfl (x_wi (by decide) x_wn) x_wn (by decide) rfl ?_
    refine x_iload (np := 1) (x := 0) (by decide +kernel) rfl (by decide) ?_
    refine x_const (np := 3) (x := 9223372245160689712) (a := 2147483696) (by decide +kernel) (by decide) (by decide) ?_
    refine x_icmp (k := 2) (tg := 16) (np := 6) (by decide +kernel) (by decide) (by decide) (by decide) (fun q59 => ?_) (fun q60 => ?_)
    · have q59 : 2147483647 < 2147483696 := q59
      refine x_const (np := 17) (x := 9223372039002259456) (a := 2147483648) (by decide +kernel) (by decide) (by decide) ?_
      refine x_retI (np := 18) (x := 0) (by decide +kernel) (by decide) (Or.inr ⟨by decide +kernel, by omega, by omega⟩) ⟨_, rfl, (by decide), ?_⟩
      refine x_ifz (k := 0) (tg := 54) (np := 28) (by decide +kernel) (by decide) (by decide) (fun q61 => ?_) (fun q62 => ?_)
      · have q61 : 2147483648 = 2147483648 := q61
        refine x_iload (np := 56) (x := 4) (by decide +kernel) rfl (by decide) ?_
        refine x_ifz (k := 0) (tg := 75) (np := 59) (by decide +kernel) (by decide) (by decide) (fun q63 => ?_) (fun q64 => ?_)
        · have q63 : 2147483649 = 2147483648 := q63
          exfalso; omega
        have q64 : ¬ (2147483649 = 2147483648) := q64
        refine x_iload (np := 61) (x := 4) (by decide +kernel) rfl (by decide) ?_
        refine x_const (np := 62) (x := 9223372051887161347) (a := 2147483651) (by decide +kernel) (by decide) (by decide) ?_
        refine x_icmp (k := 4) (tg := 75) (np := 65) (by decide +kernel) (by decide) (by decide) (by decide) (fun q65 => ?_) (fun q66 => ?_)
        · have q65 : 2147483651 < 2147483649 := q65
          exfalso; omega
        have q66 : ¬ (2147483651 < 2147483649) := q66
        refine x_iload (np := 66) (x := 3) (by decide +kernel) rfl (by omega) ?_
        refine x_iload (np := 67) (x := 1) (by decide +kernel) rfl (by decide) ?_
        refine x_icmp (k := 2) (tg := 75) (np := 70) (by decide +kernel) (by decide) (by omega) (by decide) (fun q67 => ?_) (fun q68 => ?_)
        · have q67 : v51 < 2147483648 := q67
          exfalso; omega
        have q68 : ¬ (v51 < 2147483648) := q68
        refine x_iload (np := 71) (x := 3) (by decide +kernel) rfl (by omega) ?_
        refine x_iload (np := 72) (x := 2) (by decide +kernel) rfl la2 ?_
        refine x_icmp (k := 5) (tg := 77) (np := 75) (by decide +kernel) (by decide) (by omega) la2 (fun q69 => ?_) (fun q70 => ?_)
        · have q69 : v51 ≤ a2 := q69
          refine x_aload (np := 78) (x := 0) (by decide +kernel) rfl (x_nc_le (by decide)) ?_
          refine x_aload (np := 79) (x := 0) (by decide +kernel) rfl (x_nc_le (by decide)) ?_
          refine x_getC (np := 82) (x := 450) (f := 2) (q := (h 1 2)) (by decide +kernel) (by decide) (by decide +kernel) rfl (fun l71 => ?_)
          refine x_iload (np := 84) (x := 4) (by decide +kernel) rfl (by decide) ?_
          refine x_iadd (np := 85) (x := 0) (v := (1 + (h 1 2))) (by decide +kernel) l4 (by decide) (by omega) (by omega) ?_
          refine x_cV (t := 6) (mj := 80) (n := 2) (rc := 8) (ml := 2) (nr := 0) (np := 88) (as := [x_r 1, iv_c (1 + (h 1 2))]) (rest := []) (lo1 := [x_r 1, iv_c (1 + (h 1 2))]) (by decide +kernel) (by decide) (by decide +kernel) (x_rb_of (by decide +kernel)) rfl rfl (x_wr (by decide) (x_wi (by omega) x_wn)) x_wn (by decide) rfl (c80_1nn hJ  (by omega) hT) (fun h75 q74 => ?_)
          obtain ⟨j76, f77, c80, c81⟩ := q74
          have f82 := Fr.trans hF f77 (by decide)
          have b83 := jB (e := 2) 0 j76 rg_1_2_0_1 (by omega) (by omega)
          refine x_iload (np := 89) (x := 3) (by decide +kernel) rfl (by omega) ?_
          have z84 := hT.1
          have z85 := Tp.at (p := (h 1 2 + 0)) (u := u19) hT (by omega) (by omega)
          have g86 : Dg tB tN (h 1 2 + 0) := ⟨by omega, by omega, by omega⟩
          have z87 := hT.1
          have g88 : ¬ Dg tB tN (h 1 2 + 1) := fun z => by have z1 := z.1; have z2 := z.2.1; have z3 := z.2.2; omega
          have z89 := nv1 (B := tB) (p := h 1 2)
          refine x_retI (np := 90) (x := 0) (by decide +kernel) (by omega) (Or.inl (by decide +kernel)) ⟨_, rfl, (by omega), ?_⟩
          exact ⟨j76, f82, (by omega), (by omega), (fun z => by omega), (fun z => by omega), (Nr.yes (Nu.mk1 g86 g88) (by omega) (by omega) (by omega) c81 (by omega))⟩
        have q70 : ¬ (v51 ≤ a2) := q70
        exfalso; omega
      have q62 : ¬ (2147483648 = 2147483648) := q62
      exfalso; omega
    have q60 : ¬ (2147483647 < 2147483696) := q60
    exfalso; omega
  have q58 : ¬ ((h 1 1) ≤ (1 + (h 1 2))) := q58
  refine x_aload (np := 9) (x := 0) (by decide +kernel) rfl (x_nc_le (by decide)) ?_
  have q90 : h 1 0 = 2 := by have z := jB (e := 0) 0 hJ rg_1_0_0_1 (by decide) (by decide); omega
  refine x_getR (np := 12) (x := 448) (f := 0) (q := 2) (by decide +kernel) (by decide) (by decide +kernel) q90 ?_
  refine x_iload (np := 13) (x := 1) (by decide +kernel) rfl (by omega) ?_
  refine x_aldC (np := 14) (x := 0) (n := 400) (i := (1 + u19)) (q := (h 2 (1 + u19))) (by decide +kernel) (by decide +kernel) (by omega) (by omega) (by decide) rfl (fun l91 => ?_)
  refine x_goto (np := 17) (x := 18) (by decide +kernel) ?_
  refine x_retI (np := 19) (x := 0) (by decide +kernel) l91 (Or.inl (by decide +kernel)) ⟨_, rfl, l91, ?_⟩
  refine x_nI (t := 0) (mj := 82) (n := 1) (rc := 0) (ml := 1) (nr := 0) (np := 25) (as := [iv_c (h 2 (1 + u19))]) (rest := []) (lo1 := [iv_c (h 2 (1 + u19))]) (by decide +kernel) (by decide) (by decide +kernel) (Or.inl rfl) rfl rfl (x_wi l91 x_wn) x_wn (by decide) rfl ?_
  refine x_iload (np := 1) (x := 0) (by decide +kernel) rfl l91 ?_
  refine x_const (np := 3) (x := 9223372245160689712) (a := 2147483696) (by decide +kernel) (by decide) (by decide) ?_
  refine x_icmp (k := 2) (tg := 16) (np := 6) (by decide +kernel) (by decide) l91 (by decide) (fun q92 => ?_) (fun q93 => ?_)
  · have q92 : (h 2 (1 + u19)) < 2147483696 := q92
    refine x_const (np := 17) (x := 9223372039002259456) (a := 2147483648) (by decide +kernel) (by decide) (by decide) ?_
    refine x_retI (np := 18) (x := 0) (by decide +kernel) (by decide) (Or.inr ⟨by decide +kernel, by omega, by omega⟩) ⟨_, rfl, (by decide), ?_⟩
    refine x_ifz (k := 0) (tg := 54) (np := 28) (by decide +kernel) (by decide) (by decide) (fun q94 => ?_) (fun q95 => ?_)
    · have q94 : 2147483648 = 2147483648 := q94
      refine x_iload (np := 56) (x := 4) (by decide +kernel) rfl (by decide) ?_
      refine x_ifz (k := 0) (tg := 75) (np := 59) (by decide +kernel) (by decide) (by decide) (fun q96 => ?_) (fun q97 => ?_)
      · have q96 : 2147483649 = 2147483648 := q96
        exfalso; omega
      have q97 : ¬ (2147483649 = 2147483648) := q97
      refine x_iload (np := 61) (x := 4) (by decide +kernel) rfl (by decide) ?_
      refine x_const (np := 62) (x := 9223372051887161347) (a := 2147483651) (by decide +kernel) (by decide) (by decide) ?_
      refine x_icmp (k := 4) (tg := 75) (np := 65) (by decide +kernel) (by decide) (by decide) (by decide) (fun q98 => ?_) (fun q99 => ?_)
      · have q98 : 2147483651 < 2147483649 := q98
        exfalso; omega
      have q99 : ¬ (2147483651 < 2147483649) := q99
      refine x_iload (np := 66) (x := 3) (by decide +kernel) rfl (by omega) ?_
      refine x_iload (np := 67) (x := 1) (by decide +kernel) rfl (by decide) ?_
      refine x_icmp (k := 2) (tg := 75) (np := 70) (by decide +kernel) (by decide) (by omega) (by decide) (fun q100 => ?_) (fun q101 => ?_)
      · have q100 : v51 < 2147483648 := q100
        exfalso; omega
      have q101 : ¬ (v51 < 2147483648) := q101
      refine x_iload (np := 71) (x := 3) (by decide +kernel) rfl (by omega) ?_
      refine x_iload (np := 72) (x := 2) (by decide +kernel) rfl la2 ?_
      refine x_icmp (k := 5) (tg := 77) (np := 75) (by decide +kernel) (by decide) (by omega) la2 (fun q102 => ?_) (fun q103 => ?_)
      · have q102 : v51 ≤ a2 := q102
        refine x_aload (np := 78) (x := 0) (by decide +kernel) rfl (x_nc_le (by decide)) ?_
        refine x_aload (np := 79) (x := 0) (by decide +kernel) rfl (x_nc_le (by decide)) ?_
        refine x_getC (np := 82) (x := 450) (f := 2) (q := (h 1 2)) (by decide +kernel) (by decide) (by decide +kernel) rfl (fun l104 => ?_)
        refine x_iload (np := 84) (x := 4) (by decide +kernel) rfl (by decide) ?_
        refine x_iadd (np := 85) (x := 0) (v := (1 + (h 1 2))) (by decide +kernel) l4 (by decide) (by omega) (by omega) ?_
        refine x_cV (t := 6) (mj := 80) (n := 2) (rc := 8) (ml := 2) (nr := 0) (np := 88) (as := [x_r 1, iv_c (1 + (h 1 2))]) (rest := []) (lo1 := [x_r 1, iv_c (1 + (h 1 2))]) (by decide +kernel) (by decide) (by decide +kernel) (x_rb_of (by decide +kernel)) rfl rfl (x_wr (by decide) (x_wi (by omega) x_wn)) x_wn (by decide) rfl (c80_1nn hJ  (by omega) hT) (fun h108 q107 => ?_)
        obtain ⟨j109, f110, c113, c114⟩ := q107
        have f115 := Fr.trans hF f110 (by decide)
        have b116 := jB (e := 2) 0 j109 rg_1_2_0_1 (by omega) (by omega)
        refine x_iload (np := 89) (x := 3) (by decide +kernel) rfl (by omega) ?_
        have z117 := hT.1
        have z118 := Tp.at (p := (h 1 2 + 0)) (u := u19) hT (by omega) (by omega)
        have g119 : Dg tB tN (h 1 2 + 0) := ⟨by omega, by omega, by omega⟩
        have z120 := hT.1
        have z121 := Tp.at (p := (h 1 2 + 1)) (u := (1 + u19)) hT (by omega) (by omega)
        have g122 : ¬ Dg tB tN (h 1 2 + 1) := fun z => by have z1 := z.1; have z2 := z.2.1; have z3 := z.2.2; omega
        have z123 := nv1 (B := tB) (p := h 1 2)
        refine x_retI (np := 90) (x := 0) (by decide +kernel) (by omega) (Or.inl (by decide +kernel)) ⟨_, rfl, (by omega), ?_⟩
        exact ⟨j109, f115, (by omega), (by omega), (fun z => by omega), (fun z => by omega), (Nr.yes (Nu.mk1 g119 g122) (by omega) (by omega) (by omega) c114 (by omega))⟩
      have q103 : ¬ (v51 ≤ a2) := q103
      exfalso; omega
    have q95 : ¬ (2147483648 = 2147483648) := q95
    exfalso; omega
  have q93 : ¬ ((h 2 (1 + u19)) < 2147483696) := q93
  refine x_iload (np := 7) (x := 0) (by decide +kernel) rfl l91 ?_
  refine x_const (np := 9) (x := 9223372283815395385) (a := 2147483705) (by decide +kernel) (by decide) (by decide) ?_
  refine x_icmp (k := 4) (tg := 16) (np := 12) (by decide +kernel) (by decide) l91 (by decide) (fun q124 => ?_) (fun q125 => ?_)
  · have q124 : 2147483705 < (h 2 (1 + u19)) := q124
    refine x_const (np := 17) (x := 9223372039002259456) (a := 2147483648) (by decide +kernel) (by decide) (by decide) ?_
    refine x_retI (np := 18) (x := 0) (by decide +kernel) (by decide) (Or.inr ⟨by decide +kernel, by omega, by omega⟩) ⟨_, rfl, (by decide), ?_⟩
    refine x_ifz (k := 0) (tg := 54) (np := 28) (by decide +kernel) (by decide) (by decide) (fun q126 => ?_) (fun q127 => ?_)
    · have q126 : 2147483648 = 2147483648 := q126
      refine x_iload (np := 56) (x := 4) (by decide +kernel) rfl (by decide) ?_
      refine x_ifz (k := 0) (tg := 75) (np := 59) (by decide +kernel) (by decide) (by decide) (fun q128 => ?_) (fun q129 => ?_)
      · have q128 : 2147483649 = 2147483648 := q128
        exfalso; omega
      have q129 : ¬ (2147483649 = 2147483648) := q129
      refine x_iload (np := 61) (x := 4) (by decide +kernel) rfl (by decide) ?_
      refine x_const (np := 62) (x := 9223372051887161347) (a := 2147483651) (by decide +kernel) (by decide) (by decide) ?_
      refine x_icmp (k := 4) (tg := 75) (np := 65) (by decide +kernel) (by decide) (by decide) (by decide) (fun q130 => ?_) (fun q131 => ?_)
      · have q130 : 2147483651 < 2147483649 := q130
        exfalso; omega
      have q131 : ¬ (2147483651 < 2147483649) := q131
      refine x_iload (np := 66) (x := 3) (by decide +kernel) rfl (by omega) ?_
      refine x_iload (np := 67) (x := 1) (by decide +kernel) rfl (by decide) ?_
      refine x_icmp (k := 2) (tg := 75) (np := 70) (by decide +kernel) (by decide) (by omega) (by decide) (fun q132 => ?_) (fun q133 => ?_)
      · have q132 : v51 < 2147483648 := q132
        exfalso; omega
      have q133 : ¬ (v51 < 2147483648) := q133
      refine x_iload (np := 71) (x := 3) (by decide +kernel) rfl (by omega) ?_
      refine x_iload (np := 72) (x := 2) (by decide +kernel) rfl la2 ?_
      refine x_icmp (k := 5) (tg := 77) (np := 75) (by decide +kernel) (by decide) (by omega) la2 (fun q134 => ?_) (fun q135 => ?_)
      · have q134 : v51 ≤ a2 := q134
        refine x_aload (np := 78) (x := 0) (by decide +kernel) rfl (x_nc_le (by decide)) ?_
        refine x_aload (np := 79) (x := 0) (by decide +kernel) rfl (x_nc_le (by decide)) ?_
        refine x_getC (np := 82) (x := 450) (f := 2) (q := (h 1 2)) (by decide +kernel) (by decide) (by decide +kernel) rfl (fun l136 => ?_)
        refine x_iload (np := 84) (x := 4) (by decide +kernel) rfl (by decide) ?_
        refine x_iadd (np := 85) (x := 0) (v := (1 + (h 1 2))) (by decide +kernel) l4 (by decide) (by omega) (by omega) ?_
        refine x_cV (t := 6) (mj := 80) (n := 2) (rc := 8) (ml := 2) (nr := 0) (np := 88) (as := [x_r 1, iv_c (1 + (h 1 2))]) (rest := []) (lo1 := [x_r 1, iv_c (1 + (h 1 2))]) (by decide +kernel) (by decide) (by decide +kernel) (x_rb_of (by decide +kernel)) rfl rfl (x_wr (by decide) (x_wi (by omega) x_wn)) x_wn (by decide) rfl (c80_1nn hJ  (by omega) hT) (fun h140 q139 => ?_)
        obtain ⟨j141, f142, c145, c146⟩ := q139
        have f147 := Fr.trans hF f142 (by decide)
        have b148 := jB (e := 2) 0 j141 rg_1_2_0_1 (by omega) (by omega)
        refine x_iload (np := 89) (x := 3) (by decide +kernel) rfl (by omega) ?_
        have z149 := hT.1
        have z150 := Tp.at (p := (h 1 2 + 0)) (u := u19) hT (by omega) (by omega)
        have g151 : Dg tB tN (h 1 2 + 0) := ⟨by omega, by omega, by omega⟩
        have z152 := hT.1
        have z153 := Tp.at (p := (h 1 2 + 1)) (u := (1 + u19)) hT (by omega) (by omega)
        have g154 : ¬ Dg tB tN (h 1 2 + 1) := fun z => by have z1 := z.1; have z2 := z.2.1; have z3 := z.2.2; omega
        have z155 := nv1 (B := tB) (p := h 1 2)
        refine x_retI (np := 90) (x := 0) (by decide +kernel) (by omega) (Or.inl (by decide +kernel)) ⟨_, rfl, (by omega), ?_⟩
        exact ⟨j141, f147, (by omega), (by omega), (fun z => by omega), (fun z => by omega), (Nr.yes (Nu.mk1 g151 g154) (by omega) (by omega) (by omega) c146 (by omega))⟩
      have q135 : ¬ (v51 ≤ a2) := q135
      exfalso; omega
    have q127 : ¬ (2147483648 = 2147483648) := q127
    exfalso; omega
  have q125 : ¬ (2147483705 < (h 2 (1 + u19))) := q125
  refine x_const (np := 13) (x := 9223372043297226753) (a := 2147483649) (by decide +kernel) (by decide) (by decide) ?_
  refine x_goto (np := 16) (x := 17) (by decide +kernel) ?_
  refine x_retI (np := 18) (x := 0) (by decide +kernel) (by decide) (Or.inr ⟨by decide +kernel, by omega, by omega⟩) ⟨_, rfl, (by decide), ?_⟩
  refine x_ifz (k := 0) (tg := 54) (np := 28) (by decide +kernel) (by decide) (by decide) (fun q156 => ?_) (fun q157 => ?_)
  · have q156 : 2147483649 = 2147483648 := q156
    exfalso; omega
  have q157 : ¬ (2147483649 = 2147483648) := q157
  refine x_iload (np := 29) (x := 3) (by decide +kernel) rfl (by omega) ?_
  refine x_const (np := 31) (x := 9223372081951932426) (a := 2147483658) (by decide +kernel) (by decide) (by decide) ?_
  obtain ⟨u158, q159⟩ : ∃ z, v51 = 2147483648 + z := ⟨v51 - 2147483648, by omega⟩
  refine x_imul (np := 32) (x := 0) (i := u158) (j := 10) (v := (2147483648 + 10 * u158)) (by decide +kernel) (by omega) (by omega) (by omega) (by omega) (by omega) (by decide) ?_
  refine x_aload (np := 33) (x := 0) (by decide +kernel) rfl (x_nc_le (by decide)) ?_
  refine x_aload (np := 34) (x := 0) (by decide +kernel) rfl (x_nc_le (by decide)) ?_
  refine x_getC (np := 37) (x := 450) (f := 2) (q := (h 1 2)) (by decide +kernel) (by decide) (by decide +kernel) rfl (fun l161 => ?_)
  refine x_iload (np := 39) (x := 4) (by decide +kernel) rfl (by decide) ?_
  refine x_iadd (np := 40) (x := 0) (v := (1 + (h 1 2))) (by decide +kernel) l4 (by decide) (by omega) (by omega) ?_
  refine x_nI (t := 6) (mj := 81) (n := 2) (rc := 8) (ml := 2) (nr := 1) (np := 43) (as := [x_r 1, iv_c (1 + (h 1 2))]) (rest := [iv_c (2147483648 + 10 * u158)]) (lo1 := [x_r 1, iv_c (1 + (h 1 2))]) (by decide +kernel) (by decide) (by decide +kernel) (x_rb_of (by decide +kernel)) rfl rfl (x_wr (by decide) (x_wi (by omega) x_wn)) (x_wi (by omega) x_wn) (by decide) rfl ?_
  refine x_iload (np := 1) (x := 1) (by decide +kernel) rfl (by omega) ?_
  refine x_aload (np := 2) (x := 0) (by decide +kernel) rfl (x_nc_le (by decide)) ?_
  refine x_getC (np := 5) (x := 449) (f := 1) (q := (h 1 1)) (by decide +kernel) (by decide) (by decide +kernel) rfl (fun l162 => ?_)
  refine x_icmp (k := 3) (tg := 17) (np := 8) (by decide +kernel) (by decide) (by omega) l6 (fun q163 => ?_) (fun q164 => ?_)
  · have q163 : (h 1 1) ≤ (1 + (h 1 2)) := q163
    exfalso; omega
  have q164 : ¬ ((h 1 1) ≤ (1 + (h 1 2))) := q164
  refine x_aload (np := 9) (x := 0) (by decide +kernel) rfl (x_nc_le (by decide)) ?_
  have q165 : h 1 0 = 2 := by have z := jB (e := 0) 0 hJ rg_1_0_0_1 (by decide) (by decide); omega
  refine x_getR (np := 12) (x := 448) (f := 0) (q := 2) (by decide +kernel) (by decide) (by decide +kernel) q165 ?_
  refine x_iload (np := 13) (x := 1) (by decide +kernel) rfl (by omega) ?_
  refine x_aldC (np := 14) (x := 0) (n := 400) (i := (1 + u19)) (q := (h 2 (1 + u19))) (by decide +kernel) (by decide +kernel) (by omega) (by omega) (by decide) rfl (fun l166 => ?_)
  refine x_goto (np := 17) (x := 18) (by decide +kernel) ?_
  refine x_retI (np := 19) (x := 0) (by decide +kernel) l91 (Or.inl (by decide +kernel)) ⟨_, rfl, l91, ?_⟩
  refine x_iadd (np := 44) (x := 0) (v := (10 * u158 + (h 2 (1 + u19)))) (by decide +kernel) (by omega) l91 (by omega) (by omega) ?_
  refine x_const (np := 46) (x := 9223372245160689712) (a := 2147483696) (by decide +kernel) (by decide) (by decide) ?_
  obtain ⟨v167, q168⟩ : ∃ z, z + 2147483696 = (10 * u158 + (h 2 (1 + u19))) + 2147483648 := ⟨(10 * u158 + (h 2 (1 + u19))) + 2147483648 - 2147483696, by omega⟩
  refine x_isub (np := 47) (x := 0) (v := v167) (by decide +kernel) (by omega) (by decide) (by omega) (by omega) ?_
  refine x_istore (np := 48) (x := 3) (lo' := [x_r 1, iv_c 2147483648, iv_c a2, iv_c v167, iv_c 2147483649]) (by decide +kernel) (by omega) (Nat.le_of_ble_eq_true rfl) rfl ?_
  refine x_iinc (np := 51) (i := 4) (j := 2147483649) (v := 2147483650) (lo' := [x_r 1, iv_c 2147483648, iv_c a2, iv_c v167, iv_c 2147483650]) (by decide +kernel) (by decide) (by decide) rfl (by decide) (by omega) (by omega) rfl ?_
  refine x_goto (np := 54) (x := 5) (by decide +kernel) ?_
  refine x_iload (np := 7) (x := 4) (by decide +kernel) rfl (by decide) ?_
  refine x_const (np := 8) (x := 9223372051887161347) (a := 2147483651) (by decide +kernel) (by decide) (by decide) ?_
  refine x_icmp (k := 4) (tg := 54) (np := 11) (by decide +kernel) (by decide) (by decide) (by decide) (fun q169 => ?_) (fun q170 => ?_)
  · have q169 : 2147483651 < 2147483650 := q169
    exfalso; omega
  have q170 : ¬ (2147483651 < 2147483650) := q170
  refine x_aload (np := 12) (x := 0) (by decide +kernel) rfl (x_nc_le (by decide)) ?_
  refine x_aload (np := 13) (x := 0) (by decide +kernel) rfl (x_nc_le (by decide)) ?_
  refine x_getC (np := 16) (x := 450) (f := 2) (q := (h 1 2)) (by decide +kernel) (by decide) (by decide +kernel) rfl (fun l171 => ?_)
  refine x_iload (np := 18) (x := 4) (by decide +kernel) rfl (by decide) ?_
  refine x_iadd (np := 19) (x := 0) (v := (2 + (h 1 2))) (by decide +kernel) l4 (by decide) (by omega) (by omega) ?_
  refine x_nI (t := 6) (mj := 81) (n := 2) (rc := 8) (ml := 2) (nr := 0) (np := 22) (as := [x_r 1, iv_c (2 + (h 1 2))]) (rest := []) (lo1 := [x_r 1, iv_c (2 + (h 1 2))]) (by decide +kernel) (by decide) (by decide +kernel) (x_rb_of (by decide +kernel)) rfl rfl (x_wr (by decide) (x_wi (by omega) x_wn)) x_wn (by decide) rfl ?_
  refine x_iload (np := 1) (x := 1) (by decide +kernel) rfl (by omega) ?_
  refine x_aload (np := 2) (x := 0) (by decide +kernel) rfl (x_nc_le (by decide)) ?_
  refine x_getC (np := 5) (x := 449) (f := 1) (q := (h 1 1)) (by decide +kernel) (by decide) (by decide +kernel) rfl (fun l172 => ?_)
  refine x_icmp (k := 3) (tg := 17) (np := 8) (by decide +kernel) (by decide) (by omega) l6 (fun q173 => ?_) (fun q174 => ?_)
  · have q173 : (h 1 1) ≤ (2 + (h 1 2)) := q173
    refine x_const (np := 18) (x := 9223372034707292159) (a := 2147483647) (by decide +kernel) (by decide) (by decide) ?_
    refine x_retI (np := 19) (x := 0) (by decide +kernel) (by decide) (Or.inl (by decide +kernel)) ⟨_, rfl, (by decide), ?_⟩
    refine x_nI (t := 0) (mj := 82) (n := 1) (rc := 0) (ml := 1) (nr := 0) (np := 25) (as := [iv_c 2147483647]) (rest := []) (lo1 := [iv_c 2147483647]) (by decide +kernel) (by decide) (by decide +kernel) (Or.inl rfl) rfl rfl (x_wi (by decide) x_wn) x_wn (by decide) rfl ?_
    refine x_iload (np := 1) (x := 0) (by decide +kernel) rfl (by decide) ?_
    refine x_const (np := 3) (x := 9223372245160689712) (a := 2147483696) (by decide +kernel) (by decide) (by decide) ?_
    refine x_icmp (k := 2) (tg := 16) (np := 6) (by decide +kernel) (by decide) (by decide) (by decide) (fun q175 => ?_) (fun q176 => ?_)
    · have q175 : 2147483647 < 2147483696 := q175
      refine x_const (np := 17) (x := 9223372039002259456) (a := 2147483648) (by decide +kernel) (by decide) (by decide) ?_
      refine x_retI (np := 18) (x := 0) (by decide +kernel) (by decide) (Or.inr ⟨by decide +kernel, by omega, by omega⟩) ⟨_, rfl, (by decide), ?_⟩
      refine x_ifz (k := 0) (tg := 54) (np := 28) (by decide +kernel) (by decide) (by decide) (fun q177 => ?_) (fun q178 => ?_)
      · have q177 : 2147483648 = 2147483648 := q177
        refine x_iload (np := 56) (x := 4) (by decide +kernel) rfl (by decide) ?_
        refine x_ifz (k := 0) (tg := 75) (np := 59) (by decide +kernel) (by decide) (by decide) (fun q179 => ?_) (fun q180 => ?_)
        · have q179 : 2147483650 = 2147483648 := q179
          exfalso; omega
        have q180 : ¬ (2147483650 = 2147483648) := q180
        refine x_iload (np := 61) (x := 4) (by decide +kernel) rfl (by decide) ?_
        refine x_const (np := 62) (x := 9223372051887161347) (a := 2147483651) (by decide +kernel) (by decide) (by decide) ?_
        refine x_icmp (k := 4) (tg := 75) (np := 65) (by decide +kernel) (by decide) (by decide) (by decide) (fun q181 => ?_) (fun q182 => ?_)
        · have q181 : 2147483651 < 2147483650 := q181
          exfalso; omega
        have q182 : ¬ (2147483651 < 2147483650) := q182
        refine x_iload (np := 66) (x := 3) (by decide +kernel) rfl (by omega) ?_
        refine x_iload (np := 67) (x := 1) (by decide +kernel) rfl (by decide) ?_
        refine x_icmp (k := 2) (tg := 75) (np := 70) (by decide +kernel) (by decide) (by omega) (by decide) (fun q183 => ?_) (fun q184 => ?_)
        · have q183 : v167 < 2147483648 := q183
          exfalso; omega
        have q184 : ¬ (v167 < 2147483648) := q184
        refine x_iload (np := 71) (x := 3) (by decide +kernel) rfl (by omega) ?_
        refine x_iload (np := 72) (x := 2) (by decide +kernel) rfl la2 ?_
        refine x_icmp (k := 5) (tg := 77) (np := 75) (by decide +kernel) (by decide) (by omega) la2 (fun q185 => ?_) (fun q186 => ?_)
        · have q185 : v167 ≤ a2 := q185
          refine x_aload (np := 78) (x := 0) (by decide +kernel) rfl (x_nc_le (by decide)) ?_
          refine x_aload (np := 79) (x := 0) (by decide +kernel) rfl (x_nc_le (by decide)) ?_
          refine x_getC (np := 82) (x := 450) (f := 2) (q := (h 1 2)) (by decide +kernel) (by decide) (by decide +kernel) rfl (fun l187 => ?_)
          refine x_iload (np := 84) (x := 4) (by decide +kernel) rfl (by decide) ?_
          refine x_iadd (np := 85) (x := 0) (v := (2 + (h 1 2))) (by decide +kernel) l4 (by decide) (by omega) (by omega) ?_
          refine x_cV (t := 6) (mj := 80) (n := 2) (rc := 8) (ml := 2) (nr := 0) (np := 88) (as := [x_r 1, iv_c (2 + (h 1 2))]) (rest := []) (lo1 := [x_r 1, iv_c (2 + (h 1 2))]) (by decide +kernel) (by decide) (by decide +kernel) (x_rb_of (by decide +kernel)) rfl rfl (x_wr (by decide) (x_wi (by omega) x_wn)) x_wn (by decide) rfl (c80_1nn hJ  (by omega) hT) (fun h191 q190 => ?_)
          obtain ⟨j192, f193, c196, c197⟩ := q190
          have f198 := Fr.trans hF f193 (by decide)
          have b199 := jB (e := 2) 0 j192 rg_1_2_0_1 (by omega) (by omega)
          refine x_iload (np := 89) (x := 3) (by decide +kernel) rfl (by omega) ?_
          have z200 := hT.1
          have z201 := Tp.at (p := (h 1 2 + 0)) (u := u19) hT (by omega) (by omega)
          have g202 : Dg tB tN (h 1 2 + 0) := ⟨by omega, by omega, by omega⟩
          have z203 := Tp.at (p := (h 1 2 + 1)) (u := (1 + u19)) hT (by omega) (by omega)
          have g204 : Dg tB tN (h 1 2 + 1) := ⟨by omega, by omega, by omega⟩
          have z205 := hT.1
          have g206 : ¬ Dg tB tN (h 1 2 + 2) := fun z => by have z1 := z.1; have z2 := z.2.1; have z3 := z.2.2; omega
          have z207 := nv2 (B := tB) (p := h 1 2)
          refine x_retI (np := 90) (x := 0) (by decide +kernel) (by omega) (Or.inl (by decide +kernel)) ⟨_, rfl, (by omega), ?_⟩
          exact ⟨j192, f198, (by omega), (by omega), (fun z => by omega), (fun z => by omega), (Nr.yes (Nu.mk2 g202 g204 g206) (by omega) (by omega) (by omega) c197 (by omega))⟩
        have q186 : ¬ (v167 ≤ a2) := q186
        exfalso; omega
      have q178 : ¬ (2147483648 = 2147483648) := q178
      exfalso; omega
    have q176 : ¬ (2147483647 < 2147483696) := q176
    exfalso; omega
  have q174 : ¬ ((h 1 1) ≤ (2 + (h 1 2))) := q174
  refine x_aload (np := 9) (x := 0) (by decide +kernel) rfl (x_nc_le (by decide)) ?_
  have q208 : h 1 0 = 2 := by have z := jB (e := 0) 0 hJ rg_1_0_0_1 (by decide) (by decide); omega
  refine x_getR (np := 12) (x := 448) (f := 0) (q := 2) (by decide +kernel) (by decide) (by decide +kernel) q208 ?_
  refine x_iload (np := 13) (x := 1) (by decide +kernel) rfl (by omega) ?_
  refine x_aldC (np := 14) (x := 0) (n := 400) (i := (2 + u19)) (q := (h 2 (2 + u19))) (by decide +kernel) (by decide +kernel) (by omega) (by omega) (by decide) rfl (fun l209 => ?_)
  refine x_goto (np := 17) (x := 18) (by decide +kernel) ?_
  refine x_retI (np := 19) (x := 0) (by decide +kernel) l209 (Or.inl (by decide +kernel)) ⟨_, rfl, l209, ?_⟩
  refine x_nI (t := 0) (mj := 82) (n := 1) (rc := 0) (ml := 1) (nr := 0) (np := 25) (as := [iv_c (h 2 (2 + u19))]) (rest := []) (lo1 := [iv_c (h 2 (2 + u19))]) (by decide +kernel) (by decide) (by decide +kernel) (Or.inl rfl) rfl rfl (x_wi l209 x_wn) x_wn (by decide) rfl ?_
  refine x_iload (np := 1) (x := 0) (by decide +kernel) rfl l209 ?_
  refine x_const (np := 3) (x := 9223372245160689712) (a := 2147483696) (by decide +kernel) (by decide) (by decide) ?_
  refine x_icmp (k := 2) (tg := 16) (np := 6) (by decide +kernel) (by decide) l209 (by decide) (fun q210 => ?_) (fun q211 => ?_)
  · have q210 : (h 2 (2 + u19)) < 2147483696 := q210
    refine x_const (np := 17) (x := 9223372039002259456) (a := 2147483648) (by decide +kernel) (by decide) (by decide) ?_
    refine x_retI (np := 18) (x := 0) (by decide +kernel) (by decide) (Or.inr ⟨by decide +kernel, by omega, by omega⟩) ⟨_, rfl, (by decide), ?_⟩
    refine x_ifz (k := 0) (tg := 54) (np := 28) (by decide +kernel) (by decide) (by decide) (fun q212 => ?_) (fun q213 => ?_)
    · have q212 : 2147483648 = 2147483648 := q212
      refine x_iload (np := 56) (x := 4) (by decide +kernel) rfl (by decide) ?_
      refine x_ifz (k := 0) (tg := 75) (np := 59) (by decide +kernel) (by decide) (by decide) (fun q214 => ?_) (fun q215 => ?_)
      · have q214 : 2147483650 = 2147483648 := q214
        exfalso; omega
      have q215 : ¬ (2147483650 = 2147483648) := q215
      refine x_iload (np := 61) (x := 4) (by decide +kernel) rfl (by decide) ?_
      refine x_const (np := 62) (x := 9223372051887161347) (a := 2147483651) (by decide +kernel) (by decide) (by decide) ?_
      refine x_icmp (k := 4) (tg := 75) (np := 65) (by decide +kernel) (by decide) (by decide) (by decide) (fun q216 => ?_) (fun q217 => ?_)
      · have q216 : 2147483651 < 2147483650 := q216
        exfalso; omega
      have q217 : ¬ (2147483651 < 2147483650) := q217
      refine x_iload (np := 66) (x := 3) (by decide +kernel) rfl (by omega) ?_
      refine x_iload (np := 67) (x := 1) (by decide +kernel) rfl (by decide) ?_
      refine x_icmp (k := 2) (tg := 75) (np := 70) (by decide +kernel) (by decide) (by omega) (by decide) (fun q218 => ?_) (fun q219 => ?_)
      · have q218 : v167 < 2147483648 := q218
        exfalso; omega
      have q219 : ¬ (v167 < 2147483648) := q219
      refine x_iload (np := 71) (x := 3) (by decide +kernel) rfl (by omega) ?_
      refine x_iload (np := 72) (x := 2) (by decide +kernel) rfl la2 ?_
      refine x_icmp (k := 5) (tg := 77) (np := 75) (by decide +kernel) (by decide) (by omega) la2 (fun q220 => ?_) (fun q221 => ?_)
      · have q220 : v167 ≤ a2 := q220
        refine x_aload (np := 78) (x := 0) (by decide +kernel) rfl (x_nc_le (by decide)) ?_
        refine x_aload (np := 79) (x := 0) (by decide +kernel) rfl (x_nc_le (by decide)) ?_
        refine x_getC (np := 82) (x := 450) (f := 2) (q := (h 1 2)) (by decide +kernel) (by decide) (by decide +kernel) rfl (fun l222 => ?_)
        refine x_iload (np := 84) (x := 4) (by decide +kernel) rfl (by decide) ?_
        refine x_iadd (np := 85) (x := 0) (v := (2 + (h 1 2))) (by decide +kernel) l4 (by decide) (by omega) (by omega) ?_
        refine x_cV (t := 6) (mj := 80) (n := 2) (rc := 8) (ml := 2) (nr := 0) (np := 88) (as := [x_r 1, iv_c (2 + (h 1 2))]) (rest := []) (lo1 := [x_r 1, iv_c (2 + (h 1 2))]) (by decide +kernel) (by decide) (by decide +kernel) (x_rb_of (by decide +kernel)) rfl rfl (x_wr (by decide) (x_wi (by omega) x_wn)) x_wn (by decide) rfl (c80_1nn hJ  (by omega) hT) (fun h226 q225 => ?_)
        obtain ⟨j227, f228, c231, c232⟩ := q225
        have f233 := Fr.trans hF f228 (by decide)
        have b234 := jB (e := 2) 0 j227 rg_1_2_0_1 (by omega) (by omega)
        refine x_iload (np := 89) (x := 3) (by decide +kernel) rfl (by omega) ?_
        have z235 := hT.1
        have z236 := Tp.at (p := (h 1 2 + 0)) (u := u19) hT (by omega) (by omega)
        have g237 : Dg tB tN (h 1 2 + 0) := ⟨by omega, by omega, by omega⟩
        have z238 := Tp.at (p := (h 1 2 + 1)) (u := (1 + u19)) hT (by omega) (by omega)
        have g239 : Dg tB tN (h 1 2 + 1) := ⟨by omega, by omega, by omega⟩
        have z240 := hT.1
        have z241 := Tp.at (p := (h 1 2 + 2)) (u := (2 + u19)) hT (by omega) (by omega)
        have g242 : ¬ Dg tB tN (h 1 2 + 2) := fun z => by have z1 := z.1; have z2 := z.2.1; have z3 := z.2.2; omega
        have z243 := nv2 (B := tB) (p := h 1 2)
        refine x_retI (np := 90) (x := 0) (by decide +kernel) (by omega) (Or.inl (by decide +kernel)) ⟨_, rfl, (by omega), ?_⟩
        exact ⟨j227, f233, (by omega), (by omega), (fun z => by omega), (fun z => by omega), (Nr.yes (Nu.mk2 g237 g239 g242) (by omega) (by omega) (by omega) c232 (by omega))⟩
      have q221 : ¬ (v167 ≤ a2) := q221
      exfalso; omega
    have q213 : ¬ (2147483648 = 2147483648) := q213
    exfalso; omega
  have q211 : ¬ ((h 2 (2 + u19)) < 2147483696) := q211
  refine x_iload (np := 7) (x := 0) (by decide +kernel) rfl l209 ?_
  refine x_const (np := 9) (x := 9223372283815395385) (a := 2147483705) (by decide +kernel) (by decide) (by decide) ?_
  refine x_icmp (k := 4) (tg := 16) (np := 12) (by decide +kernel) (by decide) l209 (by decide) (fun q244 => ?_) (fun q245 => ?_)
  · have q244 : 2147483705 < (h 2 (2 + u19)) := q244
    refine x_const (np := 17) (x := 9223372039002259456) (a := 2147483648) (by decide +kernel) (by decide) (by decide) ?_
    refine x_retI (np := 18) (x := 0) (by decide +kernel) (by decide) (Or.inr ⟨by decide +kernel, by omega, by omega⟩) ⟨_, rfl, (by decide), ?_⟩
    refine x_ifz (k := 0) (tg := 54) (np := 28) (by decide +kernel) (by decide) (by decide) (fun q246 => ?_) (fun q247 => ?_)
    · have q246 : 2147483648 = 2147483648 := q246
      refine x_iload (np := 56) (x := 4) (by decide +kernel) rfl (by decide) ?_
      refine x_ifz (k := 0) (tg := 75) (np := 59) (by decide +kernel) (by decide) (by decide) (fun q248 => ?_) (fun q249 => ?_)
      · have q248 : 2147483650 = 2147483648 := q248
        exfalso; omega
      have q249 : ¬ (2147483650 = 2147483648) := q249
      refine x_iload (np := 61) (x := 4) (by decide +kernel) rfl (by decide) ?_
      refine x_const (np := 62) (x := 9223372051887161347) (a := 2147483651) (by decide +kernel) (by decide) (by decide) ?_
      refine x_icmp (k := 4) (tg := 75) (np := 65) (by decide +kernel) (by decide) (by decide) (by decide) (fun q250 => ?_) (fun q251 => ?_)
      · have q250 : 2147483651 < 2147483650 := q250
        exfalso; omega
      have q251 : ¬ (2147483651 < 2147483650) := q251
      refine x_iload (np := 66) (x := 3) (by decide +kernel) rfl (by omega) ?_
      refine x_iload (np := 67) (x := 1) (by decide +kernel) rfl (by decide) ?_
      refine x_icmp (k := 2) (tg := 75) (np := 70) (by decide +kernel) (by decide) (by omega) (by decide) (fun q252 => ?_) (fun q253 => ?_)
      · have q252 : v167 < 2147483648 := q252
        exfalso; omega
      have q253 : ¬ (v167 < 2147483648) := q253
      refine x_iload (np := 71) (x := 3) (by decide +kernel) rfl (by omega) ?_
      refine x_iload (np := 72) (x := 2) (by decide +kernel) rfl la2 ?_
      refine x_icmp (k := 5) (tg := 77) (np := 75) (by decide +kernel) (by decide) (by omega) la2 (fun q254 => ?_) (fun q255 => ?_)
      · have q254 : v167 ≤ a2 := q254
        refine x_aload (np := 78) (x := 0) (by decide +kernel) rfl (x_nc_le (by decide)) ?_
        refine x_aload (np := 79) (x := 0) (by decide +kernel) rfl (x_nc_le (by decide)) ?_
        refine x_getC (np := 82) (x := 450) (f := 2) (q := (h 1 2)) (by decide +kernel) (by decide) (by decide +kernel) rfl (fun l256 => ?_)
        refine x_iload (np := 84) (x := 4) (by decide +kernel) rfl (by decide) ?_
        refine x_iadd (np := 85) (x := 0) (v := (2 + (h 1 2))) (by decide +kernel) l4 (by decide) (by omega) (by omega) ?_
        refine x_cV (t := 6) (mj := 80) (n := 2) (rc := 8) (ml := 2) (nr := 0) (np := 88) (as := [x_r 1, iv_c (2 + (h 1 2))]) (rest := []) (lo1 := [x_r 1, iv_c (2 + (h 1 2))]) (by decide +kernel) (by decide) (by decide +kernel) (x_rb_of (by decide +kernel)) rfl rfl (x_wr (by decide) (x_wi (by omega) x_wn)) x_wn (by decide) rfl (c80_1nn hJ  (by omega) hT) (fun h260 q259 => ?_)
        obtain ⟨j261, f262, c265, c266⟩ := q259
        have f267 := Fr.trans hF f262 (by decide)
        have b268 := jB (e := 2) 0 j261 rg_1_2_0_1 (by omega) (by omega)
        refine x_iload (np := 89) (x := 3) (by decide +kernel) rfl (by omega) ?_
        have z269 := hT.1
        have z270 := Tp.at (p := (h 1 2 + 0)) (u := u19) hT (by omega) (by omega)
        have g271 : Dg tB tN (h 1 2 + 0) := ⟨by omega, by omega, by omega⟩
        have z272 := Tp.at (p := (h 1 2 + 1)) (u := (1 + u19)) hT (by omega) (by omega)
        have g273 : Dg tB tN (h 1 2 + 1) := ⟨by omega, by omega, by omega⟩
        have z274 := hT.1
        have z275 := Tp.at (p := (h 1 2 + 2)) (u := (2 + u19)) hT (by omega) (by omega)
        have g276 : ¬ Dg tB tN (h 1 2 + 2) := fun z => by have z1 := z.1; have z2 := z.2.1; have z3 := z.2.2; omega
        have z277 := nv2 (B := tB) (p := h 1 2)
        refine x_retI (np := 90) (x := 0) (by decide +kernel) (by omega) (Or.inl (by decide +kernel)) ⟨_, rfl, (by omega), ?_⟩
        exact ⟨j261, f267, (by omega), (by omega), (fun z => by omega), (fun z => by omega), (Nr.yes (Nu.mk2 g271 g273 g276) (by omega) (by omega) (by omega) c266 (by omega))⟩
      have q255 : ¬ (v167 ≤ a2) := q255
      exfalso; omega
    have q247 : ¬ (2147483648 = 2147483648) := q247
    exfalso; omega
  have q245 : ¬ (2147483705 < (h 2 (2 + u19))) := q245
  refine x_const (np := 13) (x := 9223372043297226753) (a := 2147483649) (by decide +kernel) (by decide) (by decide) ?_
  refine x_goto (np := 16) (x := 17) (by decide +kernel) ?_
  refine x_retI (np := 18) (x := 0) (by decide +kernel) (by decide) (Or.inr ⟨by decide +kernel, by omega, by omega⟩) ⟨_, rfl, (by decide), ?_⟩
  refine x_ifz (k := 0) (tg := 54) (np := 28) (by decide +kernel) (by decide) (by decide) (fun q278 => ?_) (fun q279 => ?_)
  · have q278 : 2147483649 = 2147483648 := q278
    exfalso; omega
  have q279 : ¬ (2147483649 = 2147483648) := q279
  refine x_iload (np := 29) (x := 3) (by decide +kernel) rfl (by omega) ?_
  refine x_const (np := 31) (x := 9223372081951932426) (a := 2147483658) (by decide +kernel) (by decide) (by decide) ?_
  obtain ⟨u280, q281⟩ : ∃ z, v167 = 2147483648 + z := ⟨v167 - 2147483648, by omega⟩
  refine x_imul (np := 32) (x := 0) (i := u280) (j := 10) (v := (2147483648 + 10 * u280)) (by decide +kernel) (by omega) (by omega) (by omega) (by omega) (by omega) (by decide) ?_
  refine x_aload (np := 33) (x := 0) (by decide +kernel) rfl (x_nc_le (by decide)) ?_
  refine x_aload (np := 34) (x := 0) (by decide +kernel) rfl (x_nc_le (by decide)) ?_
  refine x_getC (np := 37) (x := 450) (f := 2) (q := (h 1 2)) (by decide +kernel) (by decide) (by decide +kernel) rfl (fun l283 => ?_)
  refine x_iload (np := 39) (x := 4) (by decide +kernel) rfl (by decide) ?_
  refine x_iadd (np := 40) (x := 0) (v := (2 + (h 1 2))) (by decide +kernel) l4 (by decide) (by omega) (by omega) ?_
  refine x_nI (t := 6) (mj := 81) (n := 2) (rc := 8) (ml := 2) (nr := 1) (np := 43) (as := [x_r 1, iv_c (2 + (h 1 2))]) (rest := [iv_c (2147483648 + 10 * u280)]) (lo1 := [x_r 1, iv_c (2 + (h 1 2))]) (by decide +kernel) (by decide) (by decide +kernel) (x_rb_of (by decide +kernel)) rfl rfl (x_wr (by decide) (x_wi (by omega) x_wn)) (x_wi (by omega) x_wn) (by decide) rfl ?_
  refine x_iload (np := 1) (x := 1) (by decide +kernel) rfl (by omega) ?_
  refine x_aload (np := 2) (x := 0) (by decide +kernel) rfl (x_nc_le (by decide)) ?_
  refine x_getC (np := 5) (x := 449) (f := 1) (q := (h 1 1)) (by decide +kernel) (by decide) (by decide +kernel) rfl (fun l284 => ?_)
  refine x_icmp (k := 3) (tg := 17) (np := 8) (by decide +kernel) (by decide) (by omega) l6 (fun q285 => ?_) (fun q286 => ?_)
  · have q285 : (h 1 1) ≤ (2 + (h 1 2)) := q285
    exfalso; omega
  have q286 : ¬ ((h 1 1) ≤ (2 + (h 1 2))) := q286
  refine x_aload (np := 9) (x := 0) (by decide +kernel) rfl (x_nc_le (by decide)) ?_
  have q287 : h 1 0 = 2 := by have z := jB (e := 0) 0 hJ rg_1_0_0_1 (by decide) (by decide); omega
  refine x_getR (np := 12) (x := 448) (f := 0) (q := 2) (by decide +kernel) (by decide) (by decide +kernel) q287 ?_
  refine x_iload (np := 13) (x := 1) (by decide +kernel) rfl (by omega) ?_
  refine x_aldC (np := 14) (x := 0) (n := 400) (i := (2 + u19)) (q := (h 2 (2 + u19))) (by decide +kernel) (by decide +kernel) (by omega) (by omega) (by decide) rfl (fun l288 => ?_)
  refine x_goto (np := 17) (x := 18) (by decide +kernel) ?_
  refine x_retI (np := 19) (x := 0) (by decide +kernel) l209 (Or.inl (by decide +kernel)) ⟨_, rfl, l209, ?_⟩
  refine x_iadd (np := 44) (x := 0) (v := (10 * u280 + (h 2 (2 + u19)))) (by decide +kernel) (by omega) l209 (by omega) (by omega) ?_
  refine x_const (np := 46) (x := 9223372245160689712) (a := 2147483696) (by decide +kernel) (by decide) (by decide) ?_
  obtain ⟨v289, q290⟩ : ∃ z, z + 2147483696 = (10 * u280 + (h 2 (2 + u19))) + 2147483648 := ⟨(10 * u280 + (h 2 (2 + u19))) + 2147483648 - 2147483696, by omega⟩
  refine x_isub (np := 47) (x := 0) (v := v289) (by decide +kernel) (by omega) (by decide) (by omega) (by omega) ?_
  refine x_istore (np := 48) (x := 3) (lo' := [x_r 1, iv_c 2147483648, iv_c a2, iv_c v289, iv_c 2147483650]) (by decide +kernel) (by omega) (Nat.le_of_ble_eq_true rfl) rfl ?_
  refine x_iinc (np := 51) (i := 4) (j := 2147483649) (v := 2147483651) (lo' := [x_r 1, iv_c 2147483648, iv_c a2, iv_c v289, iv_c 2147483651]) (by decide +kernel) (by decide) (by decide) rfl (by decide) (by omega) (by omega) rfl ?_
  refine x_goto (np := 54) (x := 5) (by decide +kernel) ?_
  refine x_iload (np := 7) (x := 4) (by decide +kernel) rfl (by decide) ?_
  refine x_const (np := 8) (x := 9223372051887161347) (a := 2147483651) (by decide +kernel) (by decide) (by decide) ?_
  refine x_icmp (k := 4) (tg := 54) (np := 11) (by decide +kernel) (by decide) (by decide) (by decide) (fun q291 => ?_) (fun q292 => ?_)
  · have q291 : 2147483651 < 2147483651 := q291
    exfalso; omega
  have q292 : ¬ (2147483651 < 2147483651) := q292
  refine x_aload (np := 12) (x := 0) (by decide +kernel) rfl (x_nc_le (by decide)) ?_
  refine x_aload (np := 13) (x := 0) (by decide +kernel) rfl (x_nc_le (by decide)) ?_
  refine x_getC (np := 16) (x := 450) (f := 2) (q := (h 1 2)) (by decide +kernel) (by decide) (by decide +kernel) rfl (fun l293 => ?_)
  refine x_iload (np := 18) (x := 4) (by decide +kernel) rfl (by decide) ?_
  refine x_iadd (np := 19) (x := 0) (v := (3 + (h 1 2))) (by decide +kernel) l4 (by decide) (by omega) (by omega) ?_
  refine x_nI (t := 6) (mj := 81) (n := 2) (rc := 8) (ml := 2) (nr := 0) (np := 22) (as := [x_r 1, iv_c (3 + (h 1 2))]) (rest := []) (lo1 := [x_r 1, iv_c (3 + (h 1 2))]) (by decide +kernel) (by decide) (by decide +kernel) (x_rb_of (by decide +kernel)) rfl rfl (x_wr (by decide) (x_wi (by omega) x_wn)) x_wn (by decide) rfl ?_
  refine x_iload (np := 1) (x := 1) (by decide +kernel) rfl (by omega) ?_
  refine x_aload (np := 2) (x := 0) (by decide +kernel) rfl (x_nc_le (by decide)) ?_
  refine x_getC (np := 5) (x := 449) (f := 1) (q := (h 1 1)) (by decide +kernel) (by decide) (by decide +kernel) rfl (fun l294 => ?_)
  refine x_icmp (k := 3) (tg := 17) (np := 8) (by decide +kernel) (by decide) (by omega) l6 (fun q295 => ?_) (fun q296 => ?_)
  · have q295 : (h 1 1) ≤ (3 + (h 1 2)) := q295
    refine x_const (np := 18) (x := 9223372034707292159) (a := 2147483647) (by decide +kernel) (by decide) (by decide) ?_
    refine x_retI (np := 19) (x := 0) (by decide +kernel) (by decide) (Or.inl (by decide +kernel)) ⟨_, rfl, (by decide), ?_⟩
    refine x_nI (t := 0) (mj := 82) (n := 1) (rc := 0) (ml := 1) (nr := 0) (np := 25) (as := [iv_c 2147483647]) (rest := []) (lo1 := [iv_c 2147483647]) (by decide +kernel) (by decide) (by decide +kernel) (Or.inl rfl) rfl rfl (x_wi (by decide) x_wn) x_wn (by decide) rfl ?_
    refine x_iload (np := 1) (x := 0) (by decide +kernel) rfl (by decide) ?_
    refine x_const (np := 3) (x := 9223372245160689712) (a := 2147483696) (by decide +kernel) (by decide) (by decide) ?_
    refine x_icmp (k := 2) (tg := 16) (np := 6) (by decide +kernel) (by decide) (by decide) (by decide) (fun q297 => ?_) (fun q298 => ?_)
    · have q297 : 2147483647 < 2147483696 := q297
      refine x_const (np := 17) (x := 9223372039002259456) (a := 2147483648) (by decide +kernel) (by decide) (by decide) ?_
      refine x_retI (np := 18) (x := 0) (by decide +kernel) (by decide) (Or.inr ⟨by decide +kernel, by omega, by omega⟩) ⟨_, rfl, (by decide), ?_⟩
      refine x_ifz (k := 0) (tg := 54) (np := 28) (by decide +kernel) (by decide) (by decide) (fun q299 => ?_) (fun q300 => ?_)
      · have q299 : 2147483648 = 2147483648 := q299
        refine x_iload (np := 56) (x := 4) (by decide +kernel) rfl (by decide) ?_
        refine x_ifz (k := 0) (tg := 75) (np := 59) (by decide +kernel) (by decide) (by decide) (fun q301 => ?_) (fun q302 => ?_)
        · have q301 : 2147483651 = 2147483648 := q301
          exfalso; omega
        have q302 : ¬ (2147483651 = 2147483648) := q302
        refine x_iload (np := 61) (x := 4) (by decide +kernel) rfl (by decide) ?_
        refine x_const (np := 62) (x := 9223372051887161347) (a := 2147483651) (by decide +kernel) (by decide) (by decide) ?_
        refine x_icmp (k := 4) (tg := 75) (np := 65) (by decide +kernel) (by decide) (by decide) (by decide) (fun q303 => ?_) (fun q304 => ?_)
        · have q303 : 2147483651 < 2147483651 := q303
          exfalso; omega
        have q304 : ¬ (2147483651 < 2147483651) := q304
        refine x_iload (np := 66) (x := 3) (by decide +kernel) rfl (by omega) ?_
        refine x_iload (np := 67) (x := 1) (by decide +kernel) rfl (by decide) ?_
        refine x_icmp (k := 2) (tg := 75) (np := 70) (by decide +kernel) (by decide) (by omega) (by decide) (fun q305 => ?_) (fun q306 => ?_)
        · have q305 : v289 < 2147483648 := q305
          exfalso; omega
        have q306 : ¬ (v289 < 2147483648) := q306
        refine x_iload (np := 71) (x := 3) (by decide +kernel) rfl (by omega) ?_
        refine x_iload (np := 72) (x := 2) (by decide +kernel) rfl la2 ?_
        refine x_icmp (k := 5) (tg := 77) (np := 75) (by decide +kernel) (by decide) (by omega) la2 (fun q307 => ?_) (fun q308 => ?_)
        · have q307 : v289 ≤ a2 := q307
          refine x_aload (np := 78) (x := 0) (by decide +kernel) rfl (x_nc_le (by decide)) ?_
          refine x_aload (np := 79) (x := 0) (by decide +kernel) rfl (x_nc_le (by decide)) ?_
          refine x_getC (np := 82) (x := 450) (f := 2) (q := (h 1 2)) (by decide +kernel) (by decide) (by decide +kernel) rfl (fun l309 => ?_)
          refine x_iload (np := 84) (x := 4) (by decide +kernel) rfl (by decide) ?_
          refine x_iadd (np := 85) (x := 0) (v := (3 + (h 1 2))) (by decide +kernel) l4 (by decide) (by omega) (by omega) ?_
          refine x_cV (t := 6) (mj := 80) (n := 2) (rc := 8) (ml := 2) (nr := 0) (np := 88) (as := [x_r 1, iv_c (3 + (h 1 2))]) (rest := []) (lo1 := [x_r 1, iv_c (3 + (h 1 2))]) (by decide +kernel) (by decide) (by decide +kernel) (x_rb_of (by decide +kernel)) rfl rfl (x_wr (by decide) (x_wi (by omega) x_wn)) x_wn (by decide) rfl (c80_1nn hJ  (by omega) hT) (fun h313 q312 => ?_)
          obtain ⟨j314, f315, c318, c319⟩ := q312
          have f320 := Fr.trans hF f315 (by decide)
          have b321 := jB (e := 2) 0 j314 rg_1_2_0_1 (by omega) (by omega)
          refine x_iload (np := 89) (x := 3) (by decide +kernel) rfl (by omega) ?_
          have z322 := hT.1
          have z323 := Tp.at (p := (h 1 2 + 0)) (u := u19) hT (by omega) (by omega)
          have g324 : Dg tB tN (h 1 2 + 0) := ⟨by omega, by omega, by omega⟩
          have z325 := Tp.at (p := (h 1 2 + 1)) (u := (1 + u19)) hT (by omega) (by omega)
          have g326 : Dg tB tN (h 1 2 + 1) := ⟨by omega, by omega, by omega⟩
          have z327 := Tp.at (p := (h 1 2 + 2)) (u := (2 + u19)) hT (by omega) (by omega)
          have g328 : Dg tB tN (h 1 2 + 2) := ⟨by omega, by omega, by omega⟩
          have z329 := hT.1
          have g330 : ¬ Dg tB tN (h 1 2 + 3) := fun z => by have z1 := z.1; have z2 := z.2.1; have z3 := z.2.2; omega
          have z331 := nv3 (B := tB) (p := h 1 2)
          refine x_retI (np := 90) (x := 0) (by decide +kernel) (by omega) (Or.inl (by decide +kernel)) ⟨_, rfl, (by omega), ?_⟩
          exact ⟨j314, f320, (by omega), (by omega), (fun z => by omega), (fun z => by omega), (Nr.yes (Nu.mk3 g324 g326 g328 g330) (by omega) (by omega) (by omega) c319 (by omega))⟩
        have q308 : ¬ (v289 ≤ a2) := q308
        refine x_const (np := 76) (x := 9223372034707292159) (a := 2147483647) (by decide +kernel) (by decide) (by decide) ?_
        have z332 := hT.1
        have z333 := Tp.at (p := (h 1 2 + 0)) (u := u19) hT (by omega) (by omega)
        have g334 : Dg tB tN (h 1 2 + 0) := ⟨by omega, by omega, by omega⟩
        have z335 := Tp.at (p := (h 1 2 + 1)) (u := (1 + u19)) hT (by omega) (by omega)
        have g336 : Dg tB tN (h 1 2 + 1) := ⟨by omega, by omega, by omega⟩
        have z337 := Tp.at (p := (h 1 2 + 2)) (u := (2 + u19)) hT (by omega) (by omega)
        have g338 : Dg tB tN (h 1 2 + 2) := ⟨by omega, by omega, by omega⟩
        have z339 := hT.1
        have g340 : ¬ Dg tB tN (h 1 2 + 3) := fun z => by have z1 := z.1; have z2 := z.2.1; have z3 := z.2.2; omega
        have z341 := nv3 (B := tB) (p := h 1 2)
        refine x_retI (np := 77) (x := 0) (by decide +kernel) (by decide) (Or.inl (by decide +kernel)) ⟨_, rfl, (by decide), ?_⟩
        exact ⟨hJ, hF, (by omega), (by omega), (fun z => by omega), (fun z => by omega), (Nr.nor (by omega) (Nu.mk3 g334 g336 g338 g340) (by omega))⟩
      have q300 : ¬ (2147483648 = 2147483648) := q300
      exfalso; omega
    have q298 : ¬ (2147483647 < 2147483696) := q298
    exfalso; omega
  have q296 : ¬ ((h 1 1) ≤ (3 + (h 1 2))) := q296
  refine x_aload (np := 9) (x := 0) (by decide +kernel) rfl (x_nc_le (by decide)) ?_
  have q342 : h 1 0 = 2 := by have z := jB (e := 0) 0 hJ rg_1_0_0_1 (by decide) (by decide); omega
  refine x_getR (np := 12) (x := 448) (f := 0) (q := 2) (by decide +kernel) (by decide) (by decide +kernel) q342 ?_
  refine x_iload (np := 13) (x := 1) (by decide +kernel) rfl (by omega) ?_
  refine x_aldC (np := 14) (x := 0) (n := 400) (i := (3 + u19)) (q := (h 2 (3 + u19))) (by decide +kernel) (by decide +kernel) (by omega) (by omega) (by decide) rfl (fun l343 => ?_)
  refine x_goto (np := 17) (x := 18) (by decide +kernel) ?_
  refine x_retI (np := 19) (x := 0) (by decide +kernel) l343 (Or.inl (by decide +kernel)) ⟨_, rfl, l343, ?_⟩
  refine x_nI (t := 0) (mj := 82) (n := 1) (rc := 0) (ml := 1) (nr := 0) (np := 25) (as := [iv_c (h 2 (3 + u19))]) (rest := []) (lo1 := [iv_c (h 2 (3 + u19))]) (by decide +kernel) (by decide) (by decide +kernel) (Or.inl rfl) rfl rfl (x_wi l343 x_wn) x_wn (by decide) rfl ?_
  refine x_iload (np := 1) (x := 0) (by decide +kernel) rfl l343 ?_
  refine x_const (np := 3) (x := 9223372245160689712) (a := 2147483696) (by decide +kernel) (by decide) (by decide) ?_
  refine x_icmp (k := 2) (tg := 16) (np := 6) (by decide +kernel) (by decide) l343 (by decide) (fun q344 => ?_) (fun q345 => ?_)
  · have q344 : (h 2 (3 + u19)) < 2147483696 := q344
    refine x_const (np := 17) (x := 9223372039002259456) (a := 2147483648) (by decide +kernel) (by decide) (by decide) ?_
    refine x_retI (np := 18) (x := 0) (by decide +kernel) (by decide) (Or.inr ⟨by decide +kernel, by omega, by omega⟩) ⟨_, rfl, (by decide), ?_⟩
    refine x_ifz (k := 0) (tg := 54) (np := 28) (by decide +kernel) (by decide) (by decide) (fun q346 => ?_) (fun q347 => ?_)
    · have q346 : 2147483648 = 2147483648 := q346
      refine x_iload (np := 56) (x := 4) (by decide +kernel) rfl (by decide) ?_
      refine x_ifz (k := 0) (tg := 75) (np := 59) (by decide +kernel) (by decide) (by decide) (fun q348 => ?_) (fun q349 => ?_)
      · have q348 : 2147483651 = 2147483648 := q348
        exfalso; omega
      have q349 : ¬ (2147483651 = 2147483648) := q349
      refine x_iload (np := 61) (x := 4) (by decide +kernel) rfl (by decide) ?_
      refine x_const (np := 62) (x := 9223372051887161347) (a := 2147483651) (by decide +kernel) (by decide) (by decide) ?_
      refine x_icmp (k := 4) (tg := 75) (np := 65) (by decide +kernel) (by decide) (by decide) (by decide) (fun q350 => ?_) (fun q351 => ?_)
      · have q350 : 2147483651 < 2147483651 := q350
        exfalso; omega
      have q351 : ¬ (2147483651 < 2147483651) := q351
      refine x_iload (np := 66) (x := 3) (by decide +kernel) rfl (by omega) ?_
      refine x_iload (np := 67) (x := 1) (by decide +kernel) rfl (by decide) ?_
      refine x_icmp (k := 2) (tg := 75) (np := 70) (by decide +kernel) (by decide) (by omega) (by decide) (fun q352 => ?_) (fun q353 => ?_)
      · have q352 : v289 < 2147483648 := q352
        exfalso; omega
      have q353 : ¬ (v289 < 2147483648) := q353
      refine x_iload (np := 71) (x := 3) (by decide +kernel) rfl (by omega) ?_
      refine x_iload (np := 72) (x := 2) (by decide +kernel) rfl la2 ?_
      refine x_icmp (k := 5) (tg := 77) (np := 75) (by decide +kernel) (by decide) (by omega) la2 (fun q354 => ?_) (fun q355 => ?_)
      · have q354 : v289 ≤ a2 := q354
        refine x_aload (np := 78) (x := 0) (by decide +kernel) rfl (x_nc_le (by decide)) ?_
        refine x_aload (np := 79) (x := 0) (by decide +kernel) rfl (x_nc_le (by decide)) ?_
        refine x_getC (np := 82) (x := 450) (f := 2) (q := (h 1 2)) (by decide +kernel) (by decide) (by decide +kernel) rfl (fun l356 => ?_)
        refine x_iload (np := 84) (x := 4) (by decide +kernel) rfl (by decide) ?_
        refine x_iadd (np := 85) (x := 0) (v := (3 + (h 1 2))) (by decide +kernel) l4 (by decide) (by omega) (by omega) ?_
        refine x_cV (t := 6) (mj := 80) (n := 2) (rc := 8) (ml := 2) (nr := 0) (np := 88) (as := [x_r 1, iv_c (3 + (h 1 2))]) (rest := []) (lo1 := [x_r 1, iv_c (3 + (h 1 2))]) (by decide +kernel) (by decide) (by decide +kernel) (x_rb_of (by decide +kernel)) rfl rfl (x_wr (by decide) (x_wi (by omega) x_wn)) x_wn (by decide) rfl (c80_1nn hJ  (by omega) hT) (fun h360 q359 => ?_)
        obtain ⟨j361, f362, c365, c366⟩ := q359
        have f367 := Fr.trans hF f362 (by decide)
        have b368 := jB (e := 2) 0 j361 rg_1_2_0_1 (by omega) (by omega)
        refine x_iload (np := 89) (x := 3) (by decide +kernel) rfl (by omega) ?_
        have z369 := hT.1
        have z370 := Tp.at (p := (h 1 2 + 0)) (u := u19) hT (by omega) (by omega)
        have g371 : Dg tB tN (h 1 2 + 0) := ⟨by omega, by omega, by omega⟩
        have z372 := Tp.at (p := (h 1 2 + 1)) (u := (1 + u19)) hT (by omega) (by omega)
        have g373 : Dg tB tN (h 1 2 + 1) := ⟨by omega, by omega, by omega⟩
        have z374 := Tp.at (p := (h 1 2 + 2)) (u := (2 + u19)) hT (by omega) (by omega)
        have g375 : Dg tB tN (h 1 2 + 2) := ⟨by omega, by omega, by omega⟩
        have z376 := hT.1
        have z377 := Tp.at (p := (h 1 2 + 3)) (u := (3 + u19)) hT (by omega) (by omega)
        have g378 : ¬ Dg tB tN (h 1 2 + 3) := fun z => by have z1 := z.1; have z2 := z.2.1; have z3 := z.2.2; omega
        have z379 := nv3 (B := tB) (p := h 1 2)
        refine x_retI (np := 90) (x := 0) (by decide +kernel) (by omega) (Or.inl (by decide +kernel)) ⟨_, rfl, (by omega), ?_⟩
        exact ⟨j361, f367, (by omega), (by omega), (fun z => by omega), (fun z => by omega), (Nr.yes (Nu.mk3 g371 g373 g375 g378) (by omega) (by omega) (by omega) c366 (by omega))⟩
      have q355 : ¬ (v289 ≤ a2) := q355
      refine x_const (np := 76) (x := 9223372034707292159) (a := 2147483647) (by decide +kernel) (by decide) (by decide) ?_
      have z380 := hT.1
      have z381 := Tp.at (p := (h 1 2 + 0)) (u := u19) hT (by omega) (by omega)
      have g382 : Dg tB tN (h 1 2 + 0) := ⟨by omega, by omega, by omega⟩
      have z383 := Tp.at (p := (h 1 2 + 1)) (u := (1 + u19)) hT (by omega) (by omega)
      have g384 : Dg tB tN (h 1 2 + 1) := ⟨by omega, by omega, by omega⟩
      have z385 := Tp.at (p := (h 1 2 + 2)) (u := (2 + u19)) hT (by omega) (by omega)
      have g386 : Dg tB tN (h 1 2 + 2) := ⟨by omega, by omega, by omega⟩
      have z387 := hT.1
      have z388 := Tp.at (p := (h 1 2 + 3)) (u := (3 + u19)) hT (by omega) (by omega)
      have g389 : ¬ Dg tB tN (h 1 2 + 3) := fun z => by have z1 := z.1; have z2 := z.2.1; have z3 := z.2.2; omega
      have z390 := nv3 (B := tB) (p := h 1 2)
      refine x_retI (np := 77) (x := 0) (by decide +kernel) (by decide) (Or.inl (by decide +kernel)) ⟨_, rfl, (by decide), ?_⟩
      exact ⟨hJ, hF, (by omega), (by omega), (fun z => by omega), (fun z => by omega), (Nr.nor (by omega) (Nu.mk3 g382 g384 g386 g389) (by omega))⟩
    have q347 : ¬ (2147483648 = 2147483648) := q347
    exfalso; omega
  have q345 : ¬ ((h 2 (3 + u19)) < 2147483696) := q345
  refine x_iload (np := 7) (x := 0) (by decide +kernel) rfl l343 ?_
  refine x_const (np := 9) (x := 9223372283815395385) (a := 2147483705) (by decide +kernel) (by decide) (by decide) ?_
  refine x_icmp (k := 4) (tg := 16) (np := 12) (by decide +kernel) (by decide) l343 (by decide) (fun q391 => ?_) (fun q392 => ?_)
  · have q391 : 2147483705 < (h 2 (3 + u19)) := q391
    refine x_const (np := 17) (x := 9223372039002259456) (a := 2147483648) (by decide +kernel) (by decide) (by decide) ?_
    refine x_retI (np := 18) (x := 0) (by decide +kernel) (by decide) (Or.inr ⟨by decide +kernel, by omega, by omega⟩) ⟨_, rfl, (by decide), ?_⟩
    refine x_ifz (k := 0) (tg := 54) (np := 28) (by decide +kernel) (by decide) (by decide) (fun q393 => ?_) (fun q394 => ?_)
    · have q393 : 2147483648 = 2147483648 := q393
      refine x_iload (np := 56) (x := 4) (by decide +kernel) rfl (by decide) ?_
      refine x_ifz (k := 0) (tg := 75) (np := 59) (by decide +kernel) (by decide) (by decide) (fun q395 => ?_) (fun q396 => ?_)
      · have q395 : 2147483651 = 2147483648 := q395
        exfalso; omega
      have q396 : ¬ (2147483651 = 2147483648) := q396
      refine x_iload (np := 61) (x := 4) (by decide +kernel) rfl (by decide) ?_
      refine x_const (np := 62) (x := 9223372051887161347) (a := 2147483651) (by decide +kernel) (by decide) (by decide) ?_
      refine x_icmp (k := 4) (tg := 75) (np := 65) (by decide +kernel) (by decide) (by decide) (by decide) (fun q397 => ?_) (fun q398 => ?_)
      · have q397 : 2147483651 < 2147483651 := q397
        exfalso; omega
      have q398 : ¬ (2147483651 < 2147483651) := q398
      refine x_iload (np := 66) (x := 3) (by decide +kernel) rfl (by omega) ?_
      refine x_iload (np := 67) (x := 1) (by decide +kernel) rfl (by decide) ?_
      refine x_icmp (k := 2) (tg := 75) (np := 70) (by decide +kernel) (by decide) (by omega) (by decide) (fun q399 => ?_) (fun q400 => ?_)
      · have q399 : v289 < 2147483648 := q399
        exfalso; omega
      have q400 : ¬ (v289 < 2147483648) := q400
      refine x_iload (np := 71) (x := 3) (by decide +kernel) rfl (by omega) ?_
      refine x_iload (np := 72) (x := 2) (by decide +kernel) rfl la2 ?_
      refine x_icmp (k := 5) (tg := 77) (np := 75) (by decide +kernel) (by decide) (by omega) la2 (fun q401 => ?_) (fun q402 => ?_)
      · have q401 : v289 ≤ a2 := q401
        refine x_aload (np := 78) (x := 0) (by decide +kernel) rfl (x_nc_le (by decide)) ?_
        refine x_aload (np := 79) (x := 0) (by decide +kernel) rfl (x_nc_le (by decide)) ?_
        refine x_getC (np := 82) (x := 450) (f := 2) (q := (h 1 2)) (by decide +kernel) (by decide) (by decide +kernel) rfl (fun l403 => ?_)
        refine x_iload (np := 84) (x := 4) (by decide +kernel) rfl (by decide) ?_
        refine x_iadd (np := 85) (x := 0) (v := (3 + (h 1 2))) (by decide +kernel) l4 (by decide) (by omega) (by omega) ?_
        refine x_cV (t := 6) (mj := 80) (n := 2) (rc := 8) (ml := 2) (nr := 0) (np := 88) (as := [x_r 1, iv_c (3 + (h 1 2))]) (rest := []) (lo1 := [x_r 1, iv_c (3 + (h 1 2))]) (by decide +kernel) (by decide) (by decide +kernel) (x_rb_of (by decide +kernel)) rfl rfl (x_wr (by decide) (x_wi (by omega) x_wn)) x_wn (by decide) rfl (c80_1nn hJ  (by omega) hT) (fun h407 q406 => ?_)
        obtain ⟨j408, f409, c412, c413⟩ := q406
        have f414 := Fr.trans hF f409 (by decide)
        have b415 := jB (e := 2) 0 j408 rg_1_2_0_1 (by omega) (by omega)
        refine x_iload (np := 89) (x := 3) (by decide +kernel) rfl (by omega) ?_
        have z416 := hT.1
        have z417 := Tp.at (p := (h 1 2 + 0)) (u := u19) hT (by omega) (by omega)
        have g418 : Dg tB tN (h 1 2 + 0) := ⟨by omega, by omega, by omega⟩
        have z419 := Tp.at (p := (h 1 2 + 1)) (u := (1 + u19)) hT (by omega) (by omega)
        have g420 : Dg tB tN (h 1 2 + 1) := ⟨by omega, by omega, by omega⟩
        have z421 := Tp.at (p := (h 1 2 + 2)) (u := (2 + u19)) hT (by omega) (by omega)
        have g422 : Dg tB tN (h 1 2 + 2) := ⟨by omega, by omega, by omega⟩
        have z423 := hT.1
        have z424 := Tp.at (p := (h 1 2 + 3)) (u := (3 + u19)) hT (by omega) (by omega)
        have g425 : ¬ Dg tB tN (h 1 2 + 3) := fun z => by have z1 := z.1; have z2 := z.2.1; have z3 := z.2.2; omega
        have z426 := nv3 (B := tB) (p := h 1 2)
        refine x_retI (np := 90) (x := 0) (by decide +kernel) (by omega) (Or.inl (by decide +kernel)) ⟨_, rfl, (by omega), ?_⟩
        exact ⟨j408, f414, (by omega), (by omega), (fun z => by omega), (fun z => by omega), (Nr.yes (Nu.mk3 g418 g420 g422 g425) (by omega) (by omega) (by omega) c413 (by omega))⟩
      have q402 : ¬ (v289 ≤ a2) := q402
      refine x_const (np := 76) (x := 9223372034707292159) (a := 2147483647) (by decide +kernel) (by decide) (by decide) ?_
      have z427 := hT.1
      have z428 := Tp.at (p := (h 1 2 + 0)) (u := u19) hT (by omega) (by omega)
      have g429 : Dg tB tN (h 1 2 + 0) := ⟨by omega, by omega, by omega⟩
      have z430 := Tp.at (p := (h 1 2 + 1)) (u := (1 + u19)) hT (by omega) (by omega)
      have g431 : Dg tB tN (h 1 2 + 1) := ⟨by omega, by omega, by omega⟩
      have z432 := Tp.at (p := (h 1 2 + 2)) (u := (2 + u19)) hT (by omega) (by omega)
      have g433 : Dg tB tN (h 1 2 + 2) := ⟨by omega, by omega, by omega⟩
      have z434 := hT.1
      have z435 := Tp.at (p := (h 1 2 + 3)) (u := (3 + u19)) hT (by omega) (by omega)
      have g436 : ¬ Dg tB tN (h 1 2 + 3) := fun z => by have z1 := z.1; have z2 := z.2.1; have z3 := z.2.2; omega
      have z437 := nv3 (B := tB) (p := h 1 2)
      refine x_retI (np := 77) (x := 0) (by decide +kernel) (by decide) (Or.inl (by decide +kernel)) ⟨_, rfl, (by decide), ?_⟩
      exact ⟨hJ, hF, (by omega), (by omega), (fun z => by omega), (fun z => by omega), (Nr.nor (by omega) (Nu.mk3 g429 g431 g433 g436) (by omega))⟩
    have q394 : ¬ (2147483648 = 2147483648) := q394
    exfalso; omega
  have q392 : ¬ (2147483705 < (h 2 (3 + u19))) := q392
  refine x_const (np := 13) (x := 9223372043297226753) (a := 2147483649) (by decide +kernel) (by decide) (by decide) ?_
  refine x_goto (np := 16) (x := 17) (by decide +kernel) ?_
  refine x_retI (np := 18) (x := 0) (by decide +kernel) (by decide) (Or.inr ⟨by decide +kernel, by omega, by omega⟩) ⟨_, rfl, (by decide), ?_⟩
  refine x_ifz (k := 0) (tg := 54) (np := 28) (by decide +kernel) (by decide) (by decide) (fun q438 => ?_) (fun q439 => ?_)
  · have q438 : 2147483649 = 2147483648 := q438
    exfalso; omega
  have q439 : ¬ (2147483649 = 2147483648) := q439
  refine x_iload (np := 29) (x := 3) (by decide +kernel) rfl (by omega) ?_
  refine x_const (np := 31) (x := 9223372081951932426) (a := 2147483658) (by decide +kernel) (by decide) (by decide) ?_
  obtain ⟨u440, q441⟩ : ∃ z, v289 = 2147483648 + z := ⟨v289 - 2147483648, by omega⟩
  refine x_imul (np := 32) (x := 0) (i := u440) (j := 10) (v := (2147483648 + 10 * u440)) (by decide +kernel) (by omega) (by omega) (by omega) (by omega) (by omega) (by decide) ?_
  refine x_aload (np := 33) (x := 0) (by decide +kernel) rfl (x_nc_le (by decide)) ?_
  refine x_aload (np := 34) (x := 0) (by decide +kernel) rfl (x_nc_le (by decide)) ?_
  refine x_getC (np := 37) (x := 450) (f := 2) (q := (h 1 2)) (by decide +kernel) (by decide) (by decide +kernel) rfl (fun l443 => ?_)
  refine x_iload (np := 39) (x := 4) (by decide +kernel) rfl (by decide) ?_
  refine x_iadd (np := 40) (x := 0) (v := (3 + (h 1 2))) (by decide +kernel) l4 (by decide) (by omega) (by omega) ?_
  refine x_nI (t := 6) (mj := 81) (n := 2) (rc := 8) (ml := 2) (nr := 1) (np := 43) (as := [x_r 1, iv_c (3 + (h 1 2))]) (rest := [iv_c (2147483648 + 10 * u440)]) (lo1 := [x_r 1, iv_c (3 + (h 1 2))]) (by decide +kernel) (by decide) (by decide +kernel) (x_rb_of (by decide +kernel)) rfl rfl (x_wr (by decide) (x_wi (by omega) x_wn)) (x_wi (by omega) x_wn) (by decide) rfl ?_
  refine x_iload (np := 1) (x := 1) (by decide +kernel) rfl (by omega) ?_
  refine x_aload (np := 2) (x := 0) (by decide +kernel) rfl (x_nc_le (by decide)) ?_
  refine x_getC (np := 5) (x := 449) (f := 1) (q := (h 1 1)) (by decide +kernel) (by decide) (by decide +kernel) rfl (fun l444 => ?_)
  refine x_icmp (k := 3) (tg := 17) (np := 8) (by decide +kernel) (by decide) (by omega) l6 (fun q445 => ?_) (fun q446 => ?_)
  · have q445 : (h 1 1) ≤ (3 + (h 1 2)) := q445
    exfalso; omega
  have q446 : ¬ ((h 1 1) ≤ (3 + (h 1 2))) := q446
  refine x_aload (np := 9) (x := 0) (by decide +kernel) rfl (x_nc_le (by decide)) ?_
  have q447 : h 1 0 = 2 := by have z := jB (e := 0) 0 hJ rg_1_0_0_1 (by decide) (by decide); omega
  refine x_getR (np := 12) (x := 448) (f := 0) (q := 2) (by decide +kernel) (by decide) (by decide +kernel) q447 ?_
  refine x_iload (np := 13) (x := 1) (by decide +kernel) rfl (by omega) ?_
  refine x_aldC (np := 14) (x := 0) (n := 400) (i := (3 + u19)) (q := (h 2 (3 + u19))) (by decide +kernel) (by decide +kernel) (by omega) (by omega) (by decide) rfl (fun l448 => ?_)
  refine x_goto (np := 17) (x := 18) (by decide +kernel) ?_
  refine x_retI (np := 19) (x := 0) (by decide +kernel) l343 (Or.inl (by decide +kernel)) ⟨_, rfl, l343, ?_⟩
  refine x_iadd (np := 44) (x := 0) (v := (10 * u440 + (h 2 (3 + u19)))) (by decide +kernel) (by omega) l343 (by omega) (by omega) ?_
  refine x_const (np := 46) (x := 9223372245160689712) (a := 2147483696) (by decide +kernel) (by decide) (by decide) ?_
  obtain ⟨v449, q450⟩ : ∃ z, z + 2147483696 = (10 * u440 + (h 2 (3 + u19))) + 2147483648 := ⟨(10 * u440 + (h 2 (3 + u19))) + 2147483648 - 2147483696, by omega⟩
  refine x_isub (np := 47) (x := 0) (v := v449) (by decide +kernel) (by omega) (by decide) (by omega) (by omega) ?_
  refine x_istore (np := 48) (x := 3) (lo' := [x_r 1, iv_c 2147483648, iv_c a2, iv_c v449, iv_c 2147483651]) (by decide +kernel) (by omega) (Nat.le_of_ble_eq_true rfl) rfl ?_
  refine x_iinc (np := 51) (i := 4) (j := 2147483649) (v := 2147483652) (lo' := [x_r 1, iv_c 2147483648, iv_c a2, iv_c v449, iv_c 2147483652]) (by decide +kernel) (by decide) (by decide) rfl (by decide) (by omega) (by omega) rfl ?_
  refine x_goto (np := 54) (x := 5) (by decide +kernel) ?_
  refine x_iload (np := 7) (x := 4) (by decide +kernel) rfl (by decide) ?_
  refine x_const (np := 8) (x := 9223372051887161347) (a := 2147483651) (by decide +kernel) (by decide) (by decide) ?_
  refine x_icmp (k := 4) (tg := 54) (np := 11) (by decide +kernel) (by decide) (by decide) (by decide) (fun q451 => ?_) (fun q452 => ?_)
  · have q451 : 2147483651 < 2147483652 := q451
    refine x_iload (np := 56) (x := 4) (by decide +kernel) rfl (by decide) ?_
    refine x_ifz (k := 0) (tg := 75) (np := 59) (by decide +kernel) (by decide) (by decide) (fun q453 => ?_) (fun q454 => ?_)
    · have q453 : 2147483652 = 2147483648 := q453
      exfalso; omega
    have q454 : ¬ (2147483652 = 2147483648) := q454
    refine x_iload (np := 61) (x := 4) (by decide +kernel) rfl (by decide) ?_
    refine x_const (np := 62) (x := 9223372051887161347) (a := 2147483651) (by decide +kernel) (by decide) (by decide) ?_
    refine x_icmp (k := 4) (tg := 75) (np := 65) (by decide +kernel) (by decide) (by decide) (by decide) (fun q455 => ?_) (fun q456 => ?_)
    · have q455 : 2147483651 < 2147483652 := q455
      refine x_const (np := 76) (x := 9223372034707292159) (a := 2147483647) (by decide +kernel) (by decide) (by decide) ?_
      have z457 := hT.1
      have z458 := Tp.at (p := (h 1 2 + 0)) (u := u19) hT (by omega) (by omega)
      have g459 : Dg tB tN (h 1 2 + 0) := ⟨by omega, by omega, by omega⟩
      have z460 := Tp.at (p := (h 1 2 + 1)) (u := (1 + u19)) hT (by omega) (by omega)
      have g461 : Dg tB tN (h 1 2 + 1) := ⟨by omega, by omega, by omega⟩
      have z462 := Tp.at (p := (h 1 2 + 2)) (u := (2 + u19)) hT (by omega) (by omega)
      have g463 : Dg tB tN (h 1 2 + 2) := ⟨by omega, by omega, by omega⟩
      have z464 := Tp.at (p := (h 1 2 + 3)) (u := (3 + u19)) hT (by omega) (by omega)
      have g465 : Dg tB tN (h 1 2 + 3) := ⟨by omega, by omega, by omega⟩
      refine x_retI (np := 77) (x := 0) (by decide +kernel) (by decide) (Or.inl (by decide +kernel)) ⟨_, rfl, (by decide), ?_⟩
      exact ⟨hJ, hF, (by omega), (by omega), (fun z => by omega), (fun z => by omega), (Nr.nob (by omega) (Nb.mk4 g459 g461 g463 g465))⟩
    have q456 : ¬ (2147483651 < 2147483652) := q456
    exfalso; omega
  have q452 : ¬ (2147483651 < 2147483652) := q452
  exfalso; omega
set_option maxHeartbeats 0 in
/-- LentNames$CustomReader.readPart()Z -/
theorem c50_62n {sc : Nat × Nat} {d  : Nat} {h : xh} {tB : Nat → Nat} {tN : Nat} (hJ : J h) (hr0 : (cl9 h) + 5 ≤ (h 1 2)) (hT : Tp tB tN h) : X sc 50 (d + 6) (xI fun r h' => J h' ∧ Fr 161 h h' ∧ (2147483648 ≤ r ∧ r ≤ 2147483649) ∧ (r = 2147483649 → h 1 2 + 1 ≤ h' 1 2) ∧ (r = 2147483649 → cl9 h' + h 1 2 ≤ h' 1 2 + cl9 h) ∧ (∀ l, G tB tN Kd.part l (h 1 2) (rs r (h' 1 2)))) 0 0 0 [x_r 62, 147573952589676412928, 147573952589676412928] [] h := by
  have hF := Fr.refl 161 h
  obtain ⟨r1, q2, t3⟩ : ∃ z, (h 62 1) = z + 11 ∧ tw z := by
    rcases hJ.2.2.2.2.2.2.2 with z | z
    · exact ⟨17, by rw [z], Or.inl rfl⟩
    · exact ⟨31, by rw [z], Or.inr rfl⟩
  have b4 := jB (e := 2) 0 hJ (rg_T11_2_0_1 t3) (by omega) (by omega)
  have e5 : cl9 h = (h (r1 + 11) 2) := (congrArg (fun z => h z 2) q2).trans rfl
  have b6 := jB (e := 2) 0 hJ rg_1_2_0_1 (by omega) (by omega)
  refine x_aload (np := 1) (x := 0) (by decide +kernel) rfl (x_nc_le (by decide)) ?_
  have q7 : h 62 0 = 1 := by have z := jB (e := 0) 0 hJ rg_62_0_0_1 (by decide) (by decide); omega
  refine x_getR (np := 4) (x := 192) (f := 0) (q := 1) (by decide +kernel) (by decide) (by decide +kernel) q7 ?_
  refine x_const (np := 5) (x := 9223372039002259456) (a := 2147483648) (by decide +kernel) (by decide) (by decide) ?_
  refine x_const (np := 8) (x := 9223376329674589159) (a := 2147484647) (by decide +kernel) (by decide) (by decide) ?_
  refine x_cI (t := 6) (mj := 79) (n := 3) (rc := 8) (ml := 5) (nr := 0) (np := 11) (as := [x_r 1, iv_c 2147483648, iv_c 2147484647]) (rest := []) (lo1 := [x_r 1, iv_c 2147483648, iv_c 2147484647, 147573952589676412928, 147573952589676412928]) (by decide +kernel) (by decide) (by decide +kernel) (x_rb_of (by decide +kernel)) rfl rfl (x_wr (by decide) (x_wi (by decide) (x_wi (by decide) x_wn))) x_wn (by decide) rfl (c79_1_c0n hJ   (by omega) hT) (fun v8 h11 l9 q10 => ?_)
  obtain ⟨j12, f13, b14, c15, c16, c17, c18⟩ := q10
  have f19 := Fr.trans hF f13 (by decide)
  have b20 := jB (e := 2) 0 j12 rg_1_2_0_1 (by omega) (by omega)
  refine x_istore (np := 12) (x := 1) (lo' := [x_r 62, iv_c v8, 147573952589676412928]) (by decide +kernel) l9 (Nat.le_of_ble_eq_true rfl) rfl ?_
  refine x_iload (np := 13) (x := 1) (by decide +kernel) rfl l9 ?_
  refine x_const (np := 14) (x := 9223372034707292159) (a := 2147483647) (by decide +kernel) (by decide) (by decide) ?_
  refine x_icmp (k := 0) (tg := 26) (np := 17) (by decide +kernel) (by decide) l9 (by decide) (fun q21 => ?_) (fun q22 => ?_)
  · have q21 : v8 = 2147483647 := q21
    have b23 := c17 (by omega)
    refine x_const (np := 27) (x := 9223372039002259456) (a := 2147483648) (by decide +kernel) (by decide) (by decide) ?_
    refine x_istore (np := 28) (x := 2) (lo' := [x_r 62, iv_c v8, iv_c 2147483648]) (by decide +kernel) (by decide) (Nat.le_of_ble_eq_true rfl) rfl ?_
    refine x_iload (np := 29) (x := 2) (by decide +kernel) rfl (by decide) ?_
    refine x_const (np := 30) (x := 9223372060477095941) (a := 2147483653) (by decide +kernel) (by decide) (by decide) ?_
    refine x_icmp (k := 4) (tg := 66) (np := 33) (by decide +kernel) (by decide) (by decide) (by decide) (fun q24 => ?_) (fun q25 => ?_)
    · have q24 : 2147483653 < 2147483648 := q24
      exfalso; omega
    have q25 : ¬ (2147483653 < 2147483648) := q25
    refine x_aload (np := 34) (x := 0) (by decide +kernel) rfl (x_nc_le (by decide)) ?_
    have q26 : h11 62 0 = 1 := by have z := jB (e := 0) 0 j12 rg_62_0_0_1 (by decide) (by decide); omega
    refine x_getR (np := 37) (x := 192) (f := 0) (q := 1) (by decide +kernel) (by decide) (by decide +kernel) q26 ?_
    refine x_iload (np := 38) (x := 2) (by decide +kernel) rfl (by decide) ?_
    refine x_cS1 (t := 0) (mj := 51) (n := 1) (rc := 0) (ml := 1) (nr := 1) (np := 41) (as := [iv_c 2147483648]) (rest := [x_r 1]) (lo1 := [iv_c 2147483648]) (by decide +kernel) (by decide) (by decide +kernel) (Or.inl rfl) rfl rfl (x_wi (by decide) x_wn) (x_wr (by decide) x_wn) (by decide) rfl c51_0 (by decide) ?_
    have m32 := Tp.fr hT f13 (by decide) (by decide)
    refine x_cI (t := 6) (mj := 78) (n := 2) (rc := 8) (ml := 2) (nr := 0) (np := 44) (as := [x_r 1, x_b (2 + 1)]) (rest := []) (lo1 := [x_r 1, x_b (2 + 1)]) (by decide +kernel) (by decide) (by decide +kernel) (x_rb_of (by decide +kernel)) rfl rfl (x_wr (by decide) (x_wB (by decide) x_wn)) x_wn (by decide) rfl (c78_1_S0 j12  (by decide) m32) (fun v29 h33 l30 q31 => ?_)
    obtain ⟨j34, f35, b36, c37, c38, c39⟩ := q31
    have f40 := Fr.trans f19 f35 (by decide)
    have b41 := jB (e := 2) 0 j34 rg_1_2_0_1 (by omega) (by omega)
    have b42 : iv_tl 2 = 3 := by decide
    refine x_ifz (k := 0) (tg := 60) (np := 47) (by decide +kernel) (by decide) l30 (fun q43 => ?_) (fun q44 => ?_)
    · have q43 : v29 = 2147483648 := q43
      have b45 := c38 (by omega)
      refine x_iinc (np := 63) (i := 2) (j := 2147483649) (v := 2147483649) (lo' := [x_r 62, iv_c v8, iv_c 2147483649]) (by decide +kernel) (by decide) (by decide) rfl (by decide) (by omega) (by omega) rfl ?_
      refine x_goto (np := 66) (x := 28) (by decide +kernel) ?_
      refine x_iload (np := 29) (x := 2) (by decide +kernel) rfl (by decide) ?_
      refine x_const (np := 30) (x := 9223372060477095941) (a := 2147483653) (by decide +kernel) (by decide) (by decide) ?_
      refine x_icmp (k := 4) (tg := 66) (np := 33) (by decide +kernel) (by decide) (by decide) (by decide) (fun q46 => ?_) (fun q47 => ?_)
      · have q46 : 2147483653 < 2147483649 := q46
        exfalso; omega
      have q47 : ¬ (2147483653 < 2147483649) := q47
      refine x_aload (np := 34) (x := 0) (by decide +kernel) rfl (x_nc_le (by decide)) ?_
      have q48 : h33 62 0 = 1 := by have z := jB (e := 0) 0 j34 rg_62_0_0_1 (by decide) (by decide); omega
      refine x_getR (np := 37) (x := 192) (f := 0) (q := 1) (by decide +kernel) (by decide) (by decide +kernel) q48 ?_
      refine x_iload (np := 38) (x := 2) (by decide +kernel) rfl (by decide) ?_
      refine x_cS1 (t := 0) (mj := 51) (n := 1) (rc := 0) (ml := 1) (nr := 1) (np := 41) (as := [iv_c 2147483649]) (rest := [x_r 1]) (lo1 := [iv_c 2147483649]) (by decide +kernel) (by decide) (by decide +kernel) (Or.inl rfl) rfl rfl (x_wi (by decide) x_wn) (x_wr (by decide) x_wn) (by decide) rfl c51_1 (by decide) ?_
      have m54 := Tp.fr m32 f35 (by decide) (by decide)
      refine x_cI (t := 6) (mj := 78) (n := 2) (rc := 8) (ml := 2) (nr := 0) (np := 44) (as := [x_r 1, x_b (27 + 1)]) (rest := []) (lo1 := [x_r 1, x_b (27 + 1)]) (by decide +kernel) (by decide) (by decide +kernel) (x_rb_of (by decide +kernel)) rfl rfl (x_wr (by decide) (x_wB (by decide) x_wn)) x_wn (by decide) rfl (c78_1_S0 j34  (by decide) m54) (fun v51 h55 l52 q53 => ?_)
      obtain ⟨j56, f57, b58, c59, c60, c61⟩ := q53
      have f62 := Fr.trans f40 f57 (by decide)
      have b63 := jB (e := 2) 0 j56 rg_1_2_0_1 (by omega) (by omega)
      have b64 : iv_tl 27 = 4 := by decide
      refine x_ifz (k := 0) (tg := 60) (np := 47) (by decide +kernel) (by decide) l52 (fun q65 => ?_) (fun q66 => ?_)
      · have q65 : v51 = 2147483648 := q65
        have b67 := c60 (by omega)
        refine x_iinc (np := 63) (i := 2) (j := 2147483649) (v := 2147483650) (lo' := [x_r 62, iv_c v8, iv_c 2147483650]) (by decide +kernel) (by decide) (by decide) rfl (by decide) (by omega) (by omega) rfl ?_
        refine x_goto (np := 66) (x := 28) (by decide +kernel) ?_
        refine x_iload (np := 29) (x := 2) (by decide +kernel) rfl (by decide) ?_
        refine x_const (np := 30) (x := 9223372060477095941) (a := 2147483653) (by decide +kernel) (by decide) (by decide) ?_
        refine x_icmp (k := 4) (tg := 66) (np := 33) (by decide +kernel) (by decide) (by decide) (by decide) (fun q68 => ?_) (fun q69 => ?_)
        · have q68 : 2147483653 < 2147483650 := q68
          exfalso; omega
        have q69 : ¬ (2147483653 < 2147483650) := q69
        refine x_aload (np := 34) (x := 0) (by decide +kernel) rfl (x_nc_le (by decide)) ?_
        have q70 : h55 62 0 = 1 := by have z := jB (e := 0) 0 j56 rg_62_0_0_1 (by decide) (by decide); omega
        refine x_getR (np := 37) (x := 192) (f := 0) (q := 1) (by decide +kernel) (by decide) (by decide +kernel) q70 ?_
        refine x_iload (np := 38) (x := 2) (by decide +kernel) rfl (by decide) ?_
        refine x_cS1 (t := 0) (mj := 51) (n := 1) (rc := 0) (ml := 1) (nr := 1) (np := 41) (as := [iv_c 2147483650]) (rest := [x_r 1]) (lo1 := [iv_c 2147483650]) (by decide +kernel) (by decide) (by decide +kernel) (Or.inl rfl) rfl rfl (x_wi (by decide) x_wn) (x_wr (by decide) x_wn) (by decide) rfl c51_2 (by decide) ?_
        have m76 := Tp.fr m54 f57 (by decide) (by decide)
        refine x_cI (t := 6) (mj := 78) (n := 2) (rc := 8) (ml := 2) (nr := 0) (np := 44) (as := [x_r 1, x_b (5 + 1)]) (rest := []) (lo1 := [x_r 1, x_b (5 + 1)]) (by decide +kernel) (by decide) (by decide +kernel) (x_rb_of (by decide +kernel)) rfl rfl (x_wr (by decide) (x_wB (by decide) x_wn)) x_wn (by decide) rfl (c78_1_S0 j56  (by decide) m76) (fun v73 h77 l74 q75 => ?_)
        obtain ⟨j78, f79, b80, c81, c82, c83⟩ := q75
        have f84 := Fr.trans f62 f79 (by decide)
        have b85 := jB (e := 2) 0 j78 rg_1_2_0_1 (by omega) (by omega)
        have b86 : iv_tl 5 = 6 := by decide
        refine x_ifz (k := 0) (tg := 60) (np := 47) (by decide +kernel) (by decide) l74 (fun q87 => ?_) (fun q88 => ?_)
        · have q87 : v73 = 2147483648 := q87
          have b89 := c82 (by omega)
          refine x_iinc (np := 63) (i := 2) (j := 2147483649) (v := 2147483651) (lo' := [x_r 62, iv_c v8, iv_c 2147483651]) (by decide +kernel) (by decide) (by decide) rfl (by decide) (by omega) (by omega) rfl ?_
          refine x_goto (np := 66) (x := 28) (by decide +kernel) ?_
          refine x_iload (np := 29) (x := 2) (by decide +kernel) rfl (by decide) ?_
          refine x_const (np := 30) (x := 9223372060477095941) (a := 2147483653) (by decide +kernel) (by decide) (by decide) ?_
          refine x_icmp (k := 4) (tg := 66) (np := 33) (by decide +kernel) (by decide) (by decide) (by decide) (fun q90 => ?_) (fun q91 => ?_)
          · have q90 : 2147483653 < 2147483651 := q90
            exfalso; omega
          have q91 : ¬ (2147483653 < 2147483651) := q91
          refine x_aload (np := 34) (x := 0) (by decide +kernel) rfl (x_nc_le (by decide)) ?_
          have q92 : h77 62 0 = 1 := by have z := jB (e := 0) 0 j78 rg_62_0_0_1 (by decide) (by decide); omega
          refine x_getR (np := 37) (x := 192) (f := 0) (q := 1) (by decide +kernel) (by decide) (by decide +kernel) q92 ?_
          refine x_iload (np := 38) (x := 2) (by decide +kernel) rfl (by decide) ?_
          refine x_cS1 (t := 0) (mj := 51) (n := 1) (rc := 0) (ml := 1) (nr := 1) (np := 41) (as := [iv_c 2147483651]) (rest := [x_r 1]) (lo1 := [iv_c 2147483651]) (by decide +kernel) (by decide) (by decide +kernel) (Or.inl rfl) rfl rfl (x_wi (by decide) x_wn) (x_wr (by decide) x_wn) (by decide) rfl c51_3 (by decide) ?_
          have m98 := Tp.fr m76 f79 (by decide) (by decide)
          refine x_cI (t := 6) (mj := 78) (n := 2) (rc := 8) (ml := 2) (nr := 0) (np := 44) (as := [x_r 1, x_b (28 + 1)]) (rest := []) (lo1 := [x_r 1, x_b (28 + 1)]) (by decide +kernel) (by decide) (by decide +kernel) (x_rb_of (by decide +kernel)) rfl rfl (x_wr (by decide) (x_wB (by decide) x_wn)) x_wn (by decide) rfl (c78_1_S0 j78  (by decide) m98) (fun v95 h99 l96 q97 => ?_)
          obtain ⟨j100, f101, b102, c103, c104, c105⟩ := q97
          have f106 := Fr.trans f84 f101 (by decide)
          have b107 := jB (e := 2) 0 j100 rg_1_2_0_1 (by omega) (by omega)
          have b108 : iv_tl 28 = 4 := by decide
          refine x_ifz (k := 0) (tg := 60) (np := 47) (by decide +kernel) (by decide) l96 (fun q109 => ?_) (fun q110 => ?_)
          · have q109 : v95 = 2147483648 := q109
            have b111 := c104 (by omega)
            refine x_iinc (np := 63) (i := 2) (j := 2147483649) (v := 2147483652) (lo' := [x_r 62, iv_c v8, iv_c 2147483652]) (by decide +kernel) (by decide) (by decide) rfl (by decide) (by omega) (by omega) rfl ?_
            refine x_goto (np := 66) (x := 28) (by decide +kernel) ?_
            refine x_iload (np := 29) (x := 2) (by decide +kernel) rfl (by decide) ?_
            refine x_const (np := 30) (x := 9223372060477095941) (a := 2147483653) (by decide +kernel) (by decide) (by decide) ?_
            refine x_icmp (k := 4) (tg := 66) (np := 33) (by decide +kernel) (by decide) (by decide) (by decide) (fun q112 => ?_) (fun q113 => ?_)
            · have q112 : 2147483653 < 2147483652 := q112
              exfalso; omega
            have q113 : ¬ (2147483653 < 2147483652) := q113
            refine x_aload (np := 34) (x := 0) (by decide +kernel) rfl (x_nc_le (by decide)) ?_
            have q114 : h99 62 0 = 1 := by have z := jB (e := 0) 0 j100 rg_62_0_0_1 (by decide) (by decide); omega
            refine x_getR (np := 37) (x := 192) (f := 0) (q := 1) (by decide +kernel) (by decide) (by decide +kernel) q114 ?_
            refine x_iload (np := 38) (x := 2) (by decide +kernel) rfl (by decide) ?_
            refine x_cS1 (t := 0) (mj := 51) (n := 1) (rc := 0) (ml := 1) (nr := 1) (np := 41) (as := [iv_c 2147483652]) (rest := [x_r 1]) (lo1 := [iv_c 2147483652]) (by decide +kernel) (by decide) (by decide +kernel) (Or.inl rfl) rfl rfl (x_wi (by decide) x_wn) (x_wr (by decide) x_wn) (by decide) rfl c51_4 (by decide) ?_
            have m120 := Tp.fr m98 f101 (by decide) (by decide)
            refine x_cI (t := 6) (mj := 78) (n := 2) (rc := 8) (ml := 2) (nr := 0) (np := 44) (as := [x_r 1, x_b (29 + 1)]) (rest := []) (lo1 := [x_r 1, x_b (29 + 1)]) (by decide +kernel) (by decide) (by decide +kernel) (x_rb_of (by decide +kernel)) rfl rfl (x_wr (by decide) (x_wB (by decide) x_wn)) x_wn (by decide) rfl (c78_1_S0 j100  (by decide) m120) (fun v117 h121 l118 q119 => ?_)
            obtain ⟨j122, f123, b124, c125, c126, c127⟩ := q119
            have f128 := Fr.trans f106 f123 (by decide)
            have b129 := jB (e := 2) 0 j122 rg_1_2_0_1 (by omega) (by omega)
            have b130 : iv_tl 29 = 5 := by decide
            refine x_ifz (k := 0) (tg := 60) (np := 47) (by decide +kernel) (by decide) l118 (fun q131 => ?_) (fun q132 => ?_)
            · have q131 : v117 = 2147483648 := q131
              have b133 := c126 (by omega)
              refine x_iinc (np := 63) (i := 2) (j := 2147483649) (v := 2147483653) (lo' := [x_r 62, iv_c v8, iv_c 2147483653]) (by decide +kernel) (by decide) (by decide) rfl (by decide) (by omega) (by omega) rfl ?_
              refine x_goto (np := 66) (x := 28) (by decide +kernel) ?_
              refine x_iload (np := 29) (x := 2) (by decide +kernel) rfl (by decide) ?_
              refine x_const (np := 30) (x := 9223372060477095941) (a := 2147483653) (by decide +kernel) (by decide) (by decide) ?_
              refine x_icmp (k := 4) (tg := 66) (np := 33) (by decide +kernel) (by decide) (by decide) (by decide) (fun q134 => ?_) (fun q135 => ?_)
              · have q134 : 2147483653 < 2147483653 := q134
                exfalso; omega
              have q135 : ¬ (2147483653 < 2147483653) := q135
              refine x_aload (np := 34) (x := 0) (by decide +kernel) rfl (x_nc_le (by decide)) ?_
              have q136 : h121 62 0 = 1 := by have z := jB (e := 0) 0 j122 rg_62_0_0_1 (by decide) (by decide); omega
              refine x_getR (np := 37) (x := 192) (f := 0) (q := 1) (by decide +kernel) (by decide) (by decide +kernel) q136 ?_
              refine x_iload (np := 38) (x := 2) (by decide +kernel) rfl (by decide) ?_
              refine x_cS1 (t := 0) (mj := 51) (n := 1) (rc := 0) (ml := 1) (nr := 1) (np := 41) (as := [iv_c 2147483653]) (rest := [x_r 1]) (lo1 := [iv_c 2147483653]) (by decide +kernel) (by decide) (by decide +kernel) (Or.inl rfl) rfl rfl (x_wi (by decide) x_wn) (x_wr (by decide) x_wn) (by decide) rfl c51_5 (by decide) ?_
              have m142 := Tp.fr m120 f123 (by decide) (by decide)
              refine x_cI (t := 6) (mj := 78) (n := 2) (rc := 8) (ml := 2) (nr := 0) (np := 44) (as := [x_r 1, x_b (30 + 1)]) (rest := []) (lo1 := [x_r 1, x_b (30 + 1)]) (by decide +kernel) (by decide) (by decide +kernel) (x_rb_of (by decide +kernel)) rfl rfl (x_wr (by decide) (x_wB (by decide) x_wn)) x_wn (by decide) rfl (c78_1_S0 j122  (by decide) m142) (fun v139 h143 l140 q141 => ?_)
              obtain ⟨j144, f145, b146, c147, c148n, c149⟩ := q141
              have f150 := Fr.trans f128 f145 (by decide)
              have b151 := jB (e := 2) 0 j144 rg_1_2_0_1 (by omega) (by omega)
              have b152 : iv_tl 30 = 5 := by decide
              refine x_ifz (k := 0) (tg := 60) (np := 47) (by decide +kernel) (by decide) l140 (fun q153 => ?_) (fun q154 => ?_)
              · have q153 : v139 = 2147483648 := q153
                have b155 := c148n (by omega)
                refine x_iinc (np := 63) (i := 2) (j := 2147483649) (v := 2147483654) (lo' := [x_r 62, iv_c v8, iv_c 2147483654]) (by decide +kernel) (by decide) (by decide) rfl (by decide) (by omega) (by omega) rfl ?_
                refine x_goto (np := 66) (x := 28) (by decide +kernel) ?_
                refine x_iload (np := 29) (x := 2) (by decide +kernel) rfl (by decide) ?_
                refine x_const (np := 30) (x := 9223372060477095941) (a := 2147483653) (by decide +kernel) (by decide) (by decide) ?_
                refine x_icmp (k := 4) (tg := 66) (np := 33) (by decide +kernel) (by decide) (by decide) (by decide) (fun q156 => ?_) (fun q157 => ?_)
                · have q156 : 2147483653 < 2147483654 := q156
                  refine x_const (np := 67) (x := 9223372039002259456) (a := 2147483648) (by decide +kernel) (by decide) (by decide) ?_
                  have q158 : h143 62 1 = h121 62 1 := f145 62 1 (by decide +kernel)
                  have q159 : h121 62 1 = h99 62 1 := f123 62 1 (by decide +kernel)
                  have q160 : h99 62 1 = h77 62 1 := f101 62 1 (by decide +kernel)
                  have q161 : h77 62 1 = h55 62 1 := f79 62 1 (by decide +kernel)
                  have q162 : h55 62 1 = h33 62 1 := f57 62 1 (by decide +kernel)
                  have q163 : h33 62 1 = h11 62 1 := f35 62 1 (by decide +kernel)
                  have q164 : h11 62 1 = h 62 1 := f13 62 1 (by decide +kernel)
                  have q165 : h143 (r1 + 11) 2 = h121 (r1 + 11) 2 := jK 0 f145 (rg_T11_2_0_1 t3) (by omega) (by omega) (by decide)
                  have q166 : h121 (r1 + 11) 2 = h99 (r1 + 11) 2 := jK 0 f123 (rg_T11_2_0_1 t3) (by omega) (by omega) (by decide)
                  have q167 : h99 (r1 + 11) 2 = h77 (r1 + 11) 2 := jK 0 f101 (rg_T11_2_0_1 t3) (by omega) (by omega) (by decide)
                  have q168 : h77 (r1 + 11) 2 = h55 (r1 + 11) 2 := jK 0 f79 (rg_T11_2_0_1 t3) (by omega) (by omega) (by decide)
                  have q169 : h55 (r1 + 11) 2 = h33 (r1 + 11) 2 := jK 0 f57 (rg_T11_2_0_1 t3) (by omega) (by omega) (by decide)
                  have q170 : h33 (r1 + 11) 2 = h11 (r1 + 11) 2 := jK 0 f35 (rg_T11_2_0_1 t3) (by omega) (by omega) (by decide)
                  have q171 : h11 (r1 + 11) 2 = h (r1 + 11) 2 := jK 0 f13 (rg_T11_2_0_1 t3) (by omega) (by omega) (by decide)
                  have e172 : cl9 h143 = (h (r1 + 11) 2) := (congrArg (fun z => h143 z 2) (((((((q158.trans q159).trans q160).trans q161).trans q162).trans q163).trans q164).trans q2)).trans ((((((q165.trans q166).trans q167).trans q168).trans q169).trans q170).trans q171)
                  obtain ⟨w173, e174⟩ := Tk.no c39 (by omega)
                  have w175 : ¬ Wd tB tN 2 (h 1 2) := by rw [show h 1 2 = h11 1 2 from (show h11 1 2 = h 1 2 by omega).symm]; exact w173
                  obtain ⟨w176, e177⟩ := Tk.no c61 (by omega)
                  have w178 : ¬ Wd tB tN 27 (h 1 2) := by rw [show h 1 2 = h33 1 2 from (show h33 1 2 = h 1 2 by omega).symm]; exact w176
                  obtain ⟨w179, e180⟩ := Tk.no c83 (by omega)
                  have w181 : ¬ Wd tB tN 5 (h 1 2) := by rw [show h 1 2 = h55 1 2 from (show h55 1 2 = h 1 2 by omega).symm]; exact w179
                  obtain ⟨w182, e183⟩ := Tk.no c105 (by omega)
                  have w184 : ¬ Wd tB tN 28 (h 1 2) := by rw [show h 1 2 = h77 1 2 from (show h77 1 2 = h 1 2 by omega).symm]; exact w182
                  obtain ⟨w185, e186⟩ := Tk.no c127 (by omega)
                  have w187 : ¬ Wd tB tN 29 (h 1 2) := by rw [show h 1 2 = h99 1 2 from (show h99 1 2 = h 1 2 by omega).symm]; exact w185
                  obtain ⟨w188, e189⟩ := Tk.no c149 (by omega)
                  have w190 : ¬ Wd tB tN 30 (h 1 2) := by rw [show h 1 2 = h121 1 2 from (show h121 1 2 = h 1 2 by omega).symm]; exact w188
                  refine x_retI (np := 68) (x := 0) (by decide +kernel) (by decide) (Or.inr ⟨by decide +kernel, by omega, by omega⟩) ⟨_, rfl, (by decide), ?_⟩
                  exact ⟨j144, f150, (by omega), (fun z => by omega), (fun z => by omega), (fun l => gP_no (Nr.nb c18 (by omega)) w175 w178 w181 w184 w187 w190 (by omega))⟩
                have q157 : ¬ (2147483653 < 2147483654) := q157
                exfalso; omega
              have q154 : ¬ (v139 = 2147483648) := q154
              have b191 := c147 (by omega)
              refine x_aload (np := 48) (x := 0) (by decide +kernel) rfl (x_nc_le (by decide)) ?_
              have q192 : h143 62 1 = h121 62 1 := f145 62 1 (by decide +kernel)
              have q193 : h121 62 1 = h99 62 1 := f123 62 1 (by decide +kernel)
              have q194 : h99 62 1 = h77 62 1 := f101 62 1 (by decide +kernel)
              have q195 : h77 62 1 = h55 62 1 := f79 62 1 (by decide +kernel)
              have q196 : h55 62 1 = h33 62 1 := f57 62 1 (by decide +kernel)
              have q197 : h33 62 1 = h11 62 1 := f35 62 1 (by decide +kernel)
              have q198 : h11 62 1 = h 62 1 := f13 62 1 (by decide +kernel)
              refine x_getR (np := 51) (x := 193) (f := 1) (q := (r1 + 11)) (by decide +kernel) (by decide) (by decide +kernel) (((((((q192.trans q193).trans q194).trans q195).trans q196).trans q197).trans q198).trans q2) ?_
              refine x_const (np := 54) (x := 9223376333969556456) (a := 2147484648) (by decide +kernel) (by decide) (by decide) ?_
              refine x_iload (np := 55) (x := 2) (by decide +kernel) rfl (by decide) ?_
              refine x_iadd (np := 56) (x := 0) (v := 2147484653) (by decide +kernel) (by decide) (by decide) (by omega) (by omega) ?_
              refine x_nI (t := 6) (mj := 36) (n := 2) (rc := 3) (ml := 2) (nr := 0) (np := 59) (as := [x_r (r1 + 11), iv_c 2147484653]) (rest := []) (lo1 := [x_r (r1 + 11), iv_c 2147484653]) (by decide +kernel) (by decide) (by decide +kernel) (x_rb_of (tr_11_3 t3)) rfl rfl (x_wr (tn_11 t3) (x_wi (by decide) x_wn)) x_wn (by decide) rfl ?_
              refine x_aload (np := 1) (x := 0) (by decide +kernel) rfl (x_nc_le (tn_11 t3)) ?_
              have q199 : h143 (r1 + 11) 2 = h121 (r1 + 11) 2 := jK 0 f145 (rg_T11_2_0_1 t3) (by omega) (by omega) (by decide)
              have q200 : h121 (r1 + 11) 2 = h99 (r1 + 11) 2 := jK 0 f123 (rg_T11_2_0_1 t3) (by omega) (by omega) (by decide)
              have q201 : h99 (r1 + 11) 2 = h77 (r1 + 11) 2 := jK 0 f101 (rg_T11_2_0_1 t3) (by omega) (by omega) (by decide)
              have q202 : h77 (r1 + 11) 2 = h55 (r1 + 11) 2 := jK 0 f79 (rg_T11_2_0_1 t3) (by omega) (by omega) (by decide)
              have q203 : h55 (r1 + 11) 2 = h33 (r1 + 11) 2 := jK 0 f57 (rg_T11_2_0_1 t3) (by omega) (by omega) (by decide)
              have q204 : h33 (r1 + 11) 2 = h11 (r1 + 11) 2 := jK 0 f35 (rg_T11_2_0_1 t3) (by omega) (by omega) (by decide)
              have q205 : h11 (r1 + 11) 2 = h (r1 + 11) 2 := jK 0 f13 (rg_T11_2_0_1 t3) (by omega) (by omega) (by decide)
              refine x_getC (np := 4) (x := 130) (f := 2) (q := (h (r1 + 11) 2)) (by decide +kernel) (by decide) (tg_11_130_2_0 t3) ((((((q199.trans q200).trans q201).trans q202).trans q203).trans q204).trans q205) (fun l206 => ?_)
              refine x_const (np := 7) (x := 9223373756989178256) (a := 2147484048) (by decide +kernel) (by decide) (by decide) ?_
              refine x_icmp (k := 2) (tg := 12) (np := 10) (by decide +kernel) (by decide) l206 (by decide) (fun q207 => ?_) (fun q208 => ?_)
              · have q207 : (h (r1 + 11) 2) < 2147484048 := q207
                refine x_aload (np := 13) (x := 0) (by decide +kernel) rfl (x_nc_le (tn_11 t3)) ?_
                have q209 : h143 (r1 + 11) 0 = (r1 + 12) := tf_11_0 j144 t3
                refine x_getR (np := 16) (x := 128) (f := 0) (q := (r1 + 12)) (by decide +kernel) (by decide) (tg_11_128_0_1 t3) q209 ?_
                refine x_aload (np := 17) (x := 0) (by decide +kernel) rfl (x_nc_le (tn_11 t3)) ?_
                have q210 : h143 (r1 + 11) 2 = h121 (r1 + 11) 2 := jK 0 f145 (rg_T11_2_0_1 t3) (by omega) (by omega) (by decide)
                have q211 : h121 (r1 + 11) 2 = h99 (r1 + 11) 2 := jK 0 f123 (rg_T11_2_0_1 t3) (by omega) (by omega) (by decide)
                have q212 : h99 (r1 + 11) 2 = h77 (r1 + 11) 2 := jK 0 f101 (rg_T11_2_0_1 t3) (by omega) (by omega) (by decide)
                have q213 : h77 (r1 + 11) 2 = h55 (r1 + 11) 2 := jK 0 f79 (rg_T11_2_0_1 t3) (by omega) (by omega) (by decide)
                have q214 : h55 (r1 + 11) 2 = h33 (r1 + 11) 2 := jK 0 f57 (rg_T11_2_0_1 t3) (by omega) (by omega) (by decide)
                have q215 : h33 (r1 + 11) 2 = h11 (r1 + 11) 2 := jK 0 f35 (rg_T11_2_0_1 t3) (by omega) (by omega) (by decide)
                have q216 : h11 (r1 + 11) 2 = h (r1 + 11) 2 := jK 0 f13 (rg_T11_2_0_1 t3) (by omega) (by omega) (by decide)
                refine x_getC (np := 20) (x := 130) (f := 2) (q := (h (r1 + 11) 2)) (by decide +kernel) (by decide) (tg_11_130_2_0 t3) ((((((q210.trans q211).trans q212).trans q213).trans q214).trans q215).trans q216) (fun l217 => ?_)
                refine x_iload (np := 21) (x := 1) (by decide +kernel) rfl (by decide) ?_
                obtain ⟨u218, q219⟩ : ∃ z, (h (r1 + 11) 2) = 2147483648 + z := ⟨(h (r1 + 11) 2) - 2147483648, by omega⟩
                refine x_ast (np := 22) (x := 0) (kd := 1) (n := 400) (i := u218) (by decide +kernel) (Or.inl rfl) (ta_12_400 t3) (by omega) (by omega) (by decide) (by decide) (fun z => absurd z (by decide)) ?_
                have j221 := jU (e := u218) (v := 2147484653) u218 j144 (rg_T12_0_1_400 t3) (by omega) (by omega) (by omega)
                have f223 := jF (e := u218) (v := 2147484653) u218 f150 (rg_T12_0_1_400 t3) (by omega) (by omega) (by decide)
                generalize e222 : x_up h143 (r1 + 12) u218 2147484653 = h220 at j221 f223 ⊢
                refine x_aload (np := 23) (x := 0) (by decide +kernel) rfl (x_nc_le (tn_11 t3)) ?_
                refine x_dup (np := 24) (x := 0) (by decide +kernel) (by have z := x_nc_le (k := (r1 + 11)) (tn_11 t3); unfold x_r; omega) ?_
                have q224 : h220 (r1 + 11) 2 = h143 (r1 + 11) 2 := by rw [← e222]; exact x_up_k tof_11_12
                have q225 : h143 (r1 + 11) 2 = h121 (r1 + 11) 2 := jK 0 f145 (rg_T11_2_0_1 t3) (by omega) (by omega) (by decide)
                have q226 : h121 (r1 + 11) 2 = h99 (r1 + 11) 2 := jK 0 f123 (rg_T11_2_0_1 t3) (by omega) (by omega) (by decide)
                have q227 : h99 (r1 + 11) 2 = h77 (r1 + 11) 2 := jK 0 f101 (rg_T11_2_0_1 t3) (by omega) (by omega) (by decide)
                have q228 : h77 (r1 + 11) 2 = h55 (r1 + 11) 2 := jK 0 f79 (rg_T11_2_0_1 t3) (by omega) (by omega) (by decide)
                have q229 : h55 (r1 + 11) 2 = h33 (r1 + 11) 2 := jK 0 f57 (rg_T11_2_0_1 t3) (by omega) (by omega) (by decide)
                have q230 : h33 (r1 + 11) 2 = h11 (r1 + 11) 2 := jK 0 f35 (rg_T11_2_0_1 t3) (by omega) (by omega) (by decide)
                have q231 : h11 (r1 + 11) 2 = h (r1 + 11) 2 := jK 0 f13 (rg_T11_2_0_1 t3) (by omega) (by omega) (by decide)
                refine x_getC (np := 27) (x := 130) (f := 2) (q := (h (r1 + 11) 2)) (by decide +kernel) (by decide) (tg_11_130_2_0 t3) (((((((q224.trans q225).trans q226).trans q227).trans q228).trans q229).trans q230).trans q231) (fun l232 => ?_)
                refine x_const (np := 28) (x := 9223372043297226753) (a := 2147483649) (by decide +kernel) (by decide) (by decide) ?_
                refine x_iadd (np := 29) (x := 0) (v := (1 + (h (r1 + 11) 2))) (by decide +kernel) l206 (by decide) (by omega) (by omega) ?_
                refine x_putI (np := 32) (x := 130) (f := 2) (by decide +kernel) (tg_11_130_2_0 t3) (by omega) (Or.inl (by decide)) ?_
                have j234 := jU (e := 2) (v := (1 + (h (r1 + 11) 2))) 0 j221 (rg_T11_2_0_1 t3) (by omega) (by omega) (by omega)
                have f236 := jF (e := 2) (v := (1 + (h (r1 + 11) 2))) 0 f223 (rg_T11_2_0_1 t3) (by omega) (by omega) (by decide)
                generalize e235 : x_up h220 (r1 + 11) 2 (1 + (h (r1 + 11) 2)) = h233 at j234 f236 ⊢
                refine x_const (np := 33) (x := 9223372043297226753) (a := 2147483649) (by decide +kernel) (by decide) (by decide) ?_
                refine x_retI (np := 34) (x := 0) (by decide +kernel) (by decide) (Or.inr ⟨by decide +kernel, by omega, by omega⟩) ⟨_, rfl, (by decide), ?_⟩
                have q237 : h233 1 2 = h220 1 2 := by rw [← e235]; exact x_up_k (Ne.symm (tne_11_1 t3))
                have q238 : h220 1 2 = h143 1 2 := by rw [← e222]; exact x_up_k (Ne.symm (tne_12_1 t3))
                have q239 : h233 62 1 = h220 62 1 := by rw [← e235]; exact x_up_k (Ne.symm (tne_11_62 t3))
                have q240 : h220 62 1 = h143 62 1 := by rw [← e222]; exact x_up_k (Ne.symm (tne_12_62 t3))
                have q241 : h143 62 1 = h121 62 1 := f145 62 1 (by decide +kernel)
                have q242 : h121 62 1 = h99 62 1 := f123 62 1 (by decide +kernel)
                have q243 : h99 62 1 = h77 62 1 := f101 62 1 (by decide +kernel)
                have q244 : h77 62 1 = h55 62 1 := f79 62 1 (by decide +kernel)
                have q245 : h55 62 1 = h33 62 1 := f57 62 1 (by decide +kernel)
                have q246 : h33 62 1 = h11 62 1 := f35 62 1 (by decide +kernel)
                have q247 : h11 62 1 = h 62 1 := f13 62 1 (by decide +kernel)
                have q248 : h233 (r1 + 11) 2 = (1 + (h (r1 + 11) 2)) := by rw [← e235]; exact x_up_at
                have e249 : cl9 h233 = (1 + (h (r1 + 11) 2)) := (congrArg (fun z => h233 z 2) (((((((((q239.trans q240).trans q241).trans q242).trans q243).trans q244).trans q245).trans q246).trans q247).trans q2)).trans q248
                have q250 : h233 1 2 = h220 1 2 := by rw [← e235]; exact x_up_k (Ne.symm (tne_11_1 t3))
                have q251 : h220 1 2 = h143 1 2 := by rw [← e222]; exact x_up_k (Ne.symm (tne_12_1 t3))
                obtain ⟨w252, e253⟩ := Tk.no c39 (by omega)
                have w254 : ¬ Wd tB tN 2 (h 1 2) := by rw [show h 1 2 = h11 1 2 from (show h11 1 2 = h 1 2 by omega).symm]; exact w252
                obtain ⟨w255, e256⟩ := Tk.no c61 (by omega)
                have w257 : ¬ Wd tB tN 27 (h 1 2) := by rw [show h 1 2 = h33 1 2 from (show h33 1 2 = h 1 2 by omega).symm]; exact w255
                obtain ⟨w258, e259⟩ := Tk.no c83 (by omega)
                have w260 : ¬ Wd tB tN 5 (h 1 2) := by rw [show h 1 2 = h55 1 2 from (show h55 1 2 = h 1 2 by omega).symm]; exact w258
                obtain ⟨w261, e262⟩ := Tk.no c105 (by omega)
                have w263 : ¬ Wd tB tN 28 (h 1 2) := by rw [show h 1 2 = h77 1 2 from (show h77 1 2 = h 1 2 by omega).symm]; exact w261
                obtain ⟨w264, e265⟩ := Tk.no c127 (by omega)
                have w266 : ¬ Wd tB tN 29 (h 1 2) := by rw [show h 1 2 = h99 1 2 from (show h99 1 2 = h 1 2 by omega).symm]; exact w264
                obtain ⟨w267, e268⟩ := Tk.yes c149 (by omega)
                have q269 : h233 1 2 = h220 1 2 := by rw [← e235]; exact x_up_k (Ne.symm (tne_11_1 t3))
                have q270 : h220 1 2 = h143 1 2 := by rw [← e222]; exact x_up_k (Ne.symm (tne_12_1 t3))
                refine x_retI (np := 60) (x := 0) (by decide +kernel) (by decide) (Or.inr ⟨by decide +kernel, by omega, by omega⟩) ⟨_, rfl, (by decide), ?_⟩
                exact ⟨j234, f236, (by omega), (fun z => by omega), (fun z => by omega), (fun l => gP_wd (i := 30) (by unfold six; decide) w267 (show h121 1 2 = h 1 2 by omega) e268 (by omega) (show h143 1 2 = h233 1 2 by omega))⟩
              have q208 : ¬ ((h (r1 + 11) 2) < 2147484048) := q208
              exfalso; omega
            have q132 : ¬ (v117 = 2147483648) := q132
            have b271 := c125 (by omega)
            refine x_aload (np := 48) (x := 0) (by decide +kernel) rfl (x_nc_le (by decide)) ?_
            have q272 : h121 62 1 = h99 62 1 := f123 62 1 (by decide +kernel)
            have q273 : h99 62 1 = h77 62 1 := f101 62 1 (by decide +kernel)
            have q274 : h77 62 1 = h55 62 1 := f79 62 1 (by decide +kernel)
            have q275 : h55 62 1 = h33 62 1 := f57 62 1 (by decide +kernel)
            have q276 : h33 62 1 = h11 62 1 := f35 62 1 (by decide +kernel)
            have q277 : h11 62 1 = h 62 1 := f13 62 1 (by decide +kernel)
            refine x_getR (np := 51) (x := 193) (f := 1) (q := (r1 + 11)) (by decide +kernel) (by decide) (by decide +kernel) ((((((q272.trans q273).trans q274).trans q275).trans q276).trans q277).trans q2) ?_
            refine x_const (np := 54) (x := 9223376333969556456) (a := 2147484648) (by decide +kernel) (by decide) (by decide) ?_
            refine x_iload (np := 55) (x := 2) (by decide +kernel) rfl (by decide) ?_
            refine x_iadd (np := 56) (x := 0) (v := 2147484652) (by decide +kernel) (by decide) (by decide) (by omega) (by omega) ?_
            refine x_nI (t := 6) (mj := 36) (n := 2) (rc := 3) (ml := 2) (nr := 0) (np := 59) (as := [x_r (r1 + 11), iv_c 2147484652]) (rest := []) (lo1 := [x_r (r1 + 11), iv_c 2147484652]) (by decide +kernel) (by decide) (by decide +kernel) (x_rb_of (tr_11_3 t3)) rfl rfl (x_wr (tn_11 t3) (x_wi (by decide) x_wn)) x_wn (by decide) rfl ?_
            refine x_aload (np := 1) (x := 0) (by decide +kernel) rfl (x_nc_le (tn_11 t3)) ?_
            have q278 : h121 (r1 + 11) 2 = h99 (r1 + 11) 2 := jK 0 f123 (rg_T11_2_0_1 t3) (by omega) (by omega) (by decide)
            have q279 : h99 (r1 + 11) 2 = h77 (r1 + 11) 2 := jK 0 f101 (rg_T11_2_0_1 t3) (by omega) (by omega) (by decide)
            have q280 : h77 (r1 + 11) 2 = h55 (r1 + 11) 2 := jK 0 f79 (rg_T11_2_0_1 t3) (by omega) (by omega) (by decide)
            have q281 : h55 (r1 + 11) 2 = h33 (r1 + 11) 2 := jK 0 f57 (rg_T11_2_0_1 t3) (by omega) (by omega) (by decide)
            have q282 : h33 (r1 + 11) 2 = h11 (r1 + 11) 2 := jK 0 f35 (rg_T11_2_0_1 t3) (by omega) (by omega) (by decide)
            have q283 : h11 (r1 + 11) 2 = h (r1 + 11) 2 := jK 0 f13 (rg_T11_2_0_1 t3) (by omega) (by omega) (by decide)
            refine x_getC (np := 4) (x := 130) (f := 2) (q := (h (r1 + 11) 2)) (by decide +kernel) (by decide) (tg_11_130_2_0 t3) (((((q278.trans q279).trans q280).trans q281).trans q282).trans q283) (fun l284 => ?_)
            refine x_const (np := 7) (x := 9223373756989178256) (a := 2147484048) (by decide +kernel) (by decide) (by decide) ?_
            refine x_icmp (k := 2) (tg := 12) (np := 10) (by decide +kernel) (by decide) l284 (by decide) (fun q285 => ?_) (fun q286 => ?_)
            · have q285 : (h (r1 + 11) 2) < 2147484048 := q285
              refine x_aload (np := 13) (x := 0) (by decide +kernel) rfl (x_nc_le (tn_11 t3)) ?_
              have q287 : h121 (r1 + 11) 0 = (r1 + 12) := tf_11_0 j122 t3
              refine x_getR (np := 16) (x := 128) (f := 0) (q := (r1 + 12)) (by decide +kernel) (by decide) (tg_11_128_0_1 t3) q287 ?_
              refine x_aload (np := 17) (x := 0) (by decide +kernel) rfl (x_nc_le (tn_11 t3)) ?_
              have q288 : h121 (r1 + 11) 2 = h99 (r1 + 11) 2 := jK 0 f123 (rg_T11_2_0_1 t3) (by omega) (by omega) (by decide)
              have q289 : h99 (r1 + 11) 2 = h77 (r1 + 11) 2 := jK 0 f101 (rg_T11_2_0_1 t3) (by omega) (by omega) (by decide)
              have q290 : h77 (r1 + 11) 2 = h55 (r1 + 11) 2 := jK 0 f79 (rg_T11_2_0_1 t3) (by omega) (by omega) (by decide)
              have q291 : h55 (r1 + 11) 2 = h33 (r1 + 11) 2 := jK 0 f57 (rg_T11_2_0_1 t3) (by omega) (by omega) (by decide)
              have q292 : h33 (r1 + 11) 2 = h11 (r1 + 11) 2 := jK 0 f35 (rg_T11_2_0_1 t3) (by omega) (by omega) (by decide)
              have q293 : h11 (r1 + 11) 2 = h (r1 + 11) 2 := jK 0 f13 (rg_T11_2_0_1 t3) (by omega) (by omega) (by decide)
              refine x_getC (np := 20) (x := 130) (f := 2) (q := (h (r1 + 11) 2)) (by decide +kernel) (by decide) (tg_11_130_2_0 t3) (((((q288.trans q289).trans q290).trans q291).trans q292).trans q293) (fun l294 => ?_)
              refine x_iload (np := 21) (x := 1) (by decide +kernel) rfl (by decide) ?_
              obtain ⟨u295, q296⟩ : ∃ z, (h (r1 + 11) 2) = 2147483648 + z := ⟨(h (r1 + 11) 2) - 2147483648, by omega⟩
              refine x_ast (np := 22) (x := 0) (kd := 1) (n := 400) (i := u295) (by decide +kernel) (Or.inl rfl) (ta_12_400 t3) (by omega) (by omega) (by decide) (by decide) (fun z => absurd z (by decide)) ?_
              have j298 := jU (e := u295) (v := 2147484652) u295 j122 (rg_T12_0_1_400 t3) (by omega) (by omega) (by omega)
              have f300 := jF (e := u295) (v := 2147484652) u295 f128 (rg_T12_0_1_400 t3) (by omega) (by omega) (by decide)
              generalize e299 : x_up h121 (r1 + 12) u295 2147484652 = h297 at j298 f300 ⊢
              refine x_aload (np := 23) (x := 0) (by decide +kernel) rfl (x_nc_le (tn_11 t3)) ?_
              refine x_dup (np := 24) (x := 0) (by decide +kernel) (by have z := x_nc_le (k := (r1 + 11)) (tn_11 t3); unfold x_r; omega) ?_
              have q301 : h297 (r1 + 11) 2 = h121 (r1 + 11) 2 := by rw [← e299]; exact x_up_k tof_11_12
              have q302 : h121 (r1 + 11) 2 = h99 (r1 + 11) 2 := jK 0 f123 (rg_T11_2_0_1 t3) (by omega) (by omega) (by decide)
              have q303 : h99 (r1 + 11) 2 = h77 (r1 + 11) 2 := jK 0 f101 (rg_T11_2_0_1 t3) (by omega) (by omega) (by decide)
              have q304 : h77 (r1 + 11) 2 = h55 (r1 + 11) 2 := jK 0 f79 (rg_T11_2_0_1 t3) (by omega) (by omega) (by decide)
              have q305 : h55 (r1 + 11) 2 = h33 (r1 + 11) 2 := jK 0 f57 (rg_T11_2_0_1 t3) (by omega) (by omega) (by decide)
              have q306 : h33 (r1 + 11) 2 = h11 (r1 + 11) 2 := jK 0 f35 (rg_T11_2_0_1 t3) (by omega) (by omega) (by decide)
              have q307 : h11 (r1 + 11) 2 = h (r1 + 11) 2 := jK 0 f13 (rg_T11_2_0_1 t3) (by omega) (by omega) (by decide)
              refine x_getC (np := 27) (x := 130) (f := 2) (q := (h (r1 + 11) 2)) (by decide +kernel) (by decide) (tg_11_130_2_0 t3) ((((((q301.trans q302).trans q303).trans q304).trans q305).trans q306).trans q307) (fun l308 => ?_)
              refine x_const (np := 28) (x := 9223372043297226753) (a := 2147483649) (by decide +kernel) (by decide) (by decide) ?_
              refine x_iadd (np := 29) (x := 0) (v := (1 + (h (r1 + 11) 2))) (by decide +kernel) l284 (by decide) (by omega) (by omega) ?_
              refine x_putI (np := 32) (x := 130) (f := 2) (by decide +kernel) (tg_11_130_2_0 t3) (by omega) (Or.inl (by decide)) ?_
              have j310 := jU (e := 2) (v := (1 + (h (r1 + 11) 2))) 0 j298 (rg_T11_2_0_1 t3) (by omega) (by omega) (by omega)
              have f312 := jF (e := 2) (v := (1 + (h (r1 + 11) 2))) 0 f300 (rg_T11_2_0_1 t3) (by omega) (by omega) (by decide)
              generalize e311 : x_up h297 (r1 + 11) 2 (1 + (h (r1 + 11) 2)) = h309 at j310 f312 ⊢
              refine x_const (np := 33) (x := 9223372043297226753) (a := 2147483649) (by decide +kernel) (by decide) (by decide) ?_
              refine x_retI (np := 34) (x := 0) (by decide +kernel) (by decide) (Or.inr ⟨by decide +kernel, by omega, by omega⟩) ⟨_, rfl, (by decide), ?_⟩
              have q313 : h309 1 2 = h297 1 2 := by rw [← e311]; exact x_up_k (Ne.symm (tne_11_1 t3))
              have q314 : h297 1 2 = h121 1 2 := by rw [← e299]; exact x_up_k (Ne.symm (tne_12_1 t3))
              have q315 : h309 62 1 = h297 62 1 := by rw [← e311]; exact x_up_k (Ne.symm (tne_11_62 t3))
              have q316 : h297 62 1 = h121 62 1 := by rw [← e299]; exact x_up_k (Ne.symm (tne_12_62 t3))
              have q317 : h121 62 1 = h99 62 1 := f123 62 1 (by decide +kernel)
              have q318 : h99 62 1 = h77 62 1 := f101 62 1 (by decide +kernel)
              have q319 : h77 62 1 = h55 62 1 := f79 62 1 (by decide +kernel)
              have q320 : h55 62 1 = h33 62 1 := f57 62 1 (by decide +kernel)
              have q321 : h33 62 1 = h11 62 1 := f35 62 1 (by decide +kernel)
              have q322 : h11 62 1 = h 62 1 := f13 62 1 (by decide +kernel)
              have q323 : h309 (r1 + 11) 2 = (1 + (h (r1 + 11) 2)) := by rw [← e311]; exact x_up_at
              have e324 : cl9 h309 = (1 + (h (r1 + 11) 2)) := (congrArg (fun z => h309 z 2) ((((((((q315.trans q316).trans q317).trans q318).trans q319).trans q320).trans q321).trans q322).trans q2)).trans q323
              have q325 : h309 1 2 = h297 1 2 := by rw [← e311]; exact x_up_k (Ne.symm (tne_11_1 t3))
              have q326 : h297 1 2 = h121 1 2 := by rw [← e299]; exact x_up_k (Ne.symm (tne_12_1 t3))
              obtain ⟨w327, e328⟩ := Tk.no c39 (by omega)
              have w329 : ¬ Wd tB tN 2 (h 1 2) := by rw [show h 1 2 = h11 1 2 from (show h11 1 2 = h 1 2 by omega).symm]; exact w327
              obtain ⟨w330, e331⟩ := Tk.no c61 (by omega)
              have w332 : ¬ Wd tB tN 27 (h 1 2) := by rw [show h 1 2 = h33 1 2 from (show h33 1 2 = h 1 2 by omega).symm]; exact w330
              obtain ⟨w333, e334⟩ := Tk.no c83 (by omega)
              have w335 : ¬ Wd tB tN 5 (h 1 2) := by rw [show h 1 2 = h55 1 2 from (show h55 1 2 = h 1 2 by omega).symm]; exact w333
              obtain ⟨w336, e337⟩ := Tk.no c105 (by omega)
              have w338 : ¬ Wd tB tN 28 (h 1 2) := by rw [show h 1 2 = h77 1 2 from (show h77 1 2 = h 1 2 by omega).symm]; exact w336
              obtain ⟨w339, e340⟩ := Tk.yes c127 (by omega)
              have q341 : h309 1 2 = h297 1 2 := by rw [← e311]; exact x_up_k (Ne.symm (tne_11_1 t3))
              have q342 : h297 1 2 = h121 1 2 := by rw [← e299]; exact x_up_k (Ne.symm (tne_12_1 t3))
              refine x_retI (np := 60) (x := 0) (by decide +kernel) (by decide) (Or.inr ⟨by decide +kernel, by omega, by omega⟩) ⟨_, rfl, (by decide), ?_⟩
              exact ⟨j310, f312, (by omega), (fun z => by omega), (fun z => by omega), (fun l => gP_wd (i := 29) (by unfold six; decide) w339 (show h99 1 2 = h 1 2 by omega) e340 (by omega) (show h121 1 2 = h309 1 2 by omega))⟩
            have q286 : ¬ ((h (r1 + 11) 2) < 2147484048) := q286
            exfalso; omega
          have q110 : ¬ (v95 = 2147483648) := q110
          have b343 := c103 (by omega)
          refine x_aload (np := 48) (x := 0) (by decide +kernel) rfl (x_nc_le (by decide)) ?_
          have q344 : h99 62 1 = h77 62 1 := f101 62 1 (by decide +kernel)
          have q345 : h77 62 1 = h55 62 1 := f79 62 1 (by decide +kernel)
          have q346 : h55 62 1 = h33 62 1 := f57 62 1 (by decide +kernel)
          have q347 : h33 62 1 = h11 62 1 := f35 62 1 (by decide +kernel)
          have q348 : h11 62 1 = h 62 1 := f13 62 1 (by decide +kernel)
          refine x_getR (np := 51) (x := 193) (f := 1) (q := (r1 + 11)) (by decide +kernel) (by decide) (by decide +kernel) (((((q344.trans q345).trans q346).trans q347).trans q348).trans q2) ?_
          refine x_const (np := 54) (x := 9223376333969556456) (a := 2147484648) (by decide +kernel) (by decide) (by decide) ?_
          refine x_iload (np := 55) (x := 2) (by decide +kernel) rfl (by decide) ?_
          refine x_iadd (np := 56) (x := 0) (v := 2147484651) (by decide +kernel) (by decide) (by decide) (by omega) (by omega) ?_
          refine x_nI (t := 6) (mj := 36) (n := 2) (rc := 3) (ml := 2) (nr := 0) (np := 59) (as := [x_r (r1 + 11), iv_c 2147484651]) (rest := []) (lo1 := [x_r (r1 + 11), iv_c 2147484651]) (by decide +kernel) (by decide) (by decide +kernel) (x_rb_of (tr_11_3 t3)) rfl rfl (x_wr (tn_11 t3) (x_wi (by decide) x_wn)) x_wn (by decide) rfl ?_
          refine x_aload (np := 1) (x := 0) (by decide +kernel) rfl (x_nc_le (tn_11 t3)) ?_
          have q349 : h99 (r1 + 11) 2 = h77 (r1 + 11) 2 := jK 0 f101 (rg_T11_2_0_1 t3) (by omega) (by omega) (by decide)
          have q350 : h77 (r1 + 11) 2 = h55 (r1 + 11) 2 := jK 0 f79 (rg_T11_2_0_1 t3) (by omega) (by omega) (by decide)
          have q351 : h55 (r1 + 11) 2 = h33 (r1 + 11) 2 := jK 0 f57 (rg_T11_2_0_1 t3) (by omega) (by omega) (by decide)
          have q352 : h33 (r1 + 11) 2 = h11 (r1 + 11) 2 := jK 0 f35 (rg_T11_2_0_1 t3) (by omega) (by omega) (by decide)
          have q353 : h11 (r1 + 11) 2 = h (r1 + 11) 2 := jK 0 f13 (rg_T11_2_0_1 t3) (by omega) (by omega) (by decide)
          refine x_getC (np := 4) (x := 130) (f := 2) (q := (h (r1 + 11) 2)) (by decide +kernel) (by decide) (tg_11_130_2_0 t3) ((((q349.trans q350).trans q351).trans q352).trans q353) (fun l354 => ?_)
          refine x_const (np := 7) (x := 9223373756989178256) (a := 2147484048) (by decide +kernel) (by decide) (by decide) ?_
          refine x_icmp (k := 2) (tg := 12) (np := 10) (by decide +kernel) (by decide) l354 (by decide) (fun q355 => ?_) (fun q356 => ?_)
          · have q355 : (h (r1 + 11) 2) < 2147484048 := q355
            refine x_aload (np := 13) (x := 0) (by decide +kernel) rfl (x_nc_le (tn_11 t3)) ?_
            have q357 : h99 (r1 + 11) 0 = (r1 + 12) := tf_11_0 j100 t3
            refine x_getR (np := 16) (x := 128) (f := 0) (q := (r1 + 12)) (by decide +kernel) (by decide) (tg_11_128_0_1 t3) q357 ?_
            refine x_aload (np := 17) (x := 0) (by decide +kernel) rfl (x_nc_le (tn_11 t3)) ?_
            have q358 : h99 (r1 + 11) 2 = h77 (r1 + 11) 2 := jK 0 f101 (rg_T11_2_0_1 t3) (by omega) (by omega) (by decide)
            have q359 : h77 (r1 + 11) 2 = h55 (r1 + 11) 2 := jK 0 f79 (rg_T11_2_0_1 t3) (by omega) (by omega) (by decide)
            have q360 : h55 (r1 + 11) 2 = h33 (r1 + 11) 2 := jK 0 f57 (rg_T11_2_0_1 t3) (by omega) (by omega) (by decide)
            have q361 : h33 (r1 + 11) 2 = h11 (r1 + 11) 2 := jK 0 f35 (rg_T11_2_0_1 t3) (by omega) (by omega) (by decide)
            have q362 : h11 (r1 + 11) 2 = h (r1 + 11) 2 := jK 0 f13 (rg_T11_2_0_1 t3) (by omega) (by omega) (by decide)
            refine x_getC (np := 20) (x := 130) (f := 2) (q := (h (r1 + 11) 2)) (by decide +kernel) (by decide) (tg_11_130_2_0 t3) ((((q358.trans q359).trans q360).trans q361).trans q362) (fun l363 => ?_)
            refine x_iload (np := 21) (x := 1) (by decide +kernel) rfl (by decide) ?_
            obtain ⟨u364, q365⟩ : ∃ z, (h (r1 + 11) 2) = 2147483648 + z := ⟨(h (r1 + 11) 2) - 2147483648, by omega⟩
            refine x_ast (np := 22) (x := 0) (kd := 1) (n := 400) (i := u364) (by decide +kernel) (Or.inl rfl) (ta_12_400 t3) (by omega) (by omega) (by decide) (by decide) (fun z => absurd z (by decide)) ?_
            have j367 := jU (e := u364) (v := 2147484651) u364 j100 (rg_T12_0_1_400 t3) (by omega) (by omega) (by omega)
            have f369 := jF (e := u364) (v := 2147484651) u364 f106 (rg_T12_0_1_400 t3) (by omega) (by omega) (by decide)
            generalize e368 : x_up h99 (r1 + 12) u364 2147484651 = h366 at j367 f369 ⊢
            refine x_aload (np := 23) (x := 0) (by decide +kernel) rfl (x_nc_le (tn_11 t3)) ?_
            refine x_dup (np := 24) (x := 0) (by decide +kernel) (by have z := x_nc_le (k := (r1 + 11)) (tn_11 t3); unfold x_r; omega) ?_
            have q370 : h366 (r1 + 11) 2 = h99 (r1 + 11) 2 := by rw [← e368]; exact x_up_k tof_11_12
            have q371 : h99 (r1 + 11) 2 = h77 (r1 + 11) 2 := jK 0 f101 (rg_T11_2_0_1 t3) (by omega) (by omega) (by decide)
            have q372 : h77 (r1 + 11) 2 = h55 (r1 + 11) 2 := jK 0 f79 (rg_T11_2_0_1 t3) (by omega) (by omega) (by decide)
            have q373 : h55 (r1 + 11) 2 = h33 (r1 + 11) 2 := jK 0 f57 (rg_T11_2_0_1 t3) (by omega) (by omega) (by decide)
            have q374 : h33 (r1 + 11) 2 = h11 (r1 + 11) 2 := jK 0 f35 (rg_T11_2_0_1 t3) (by omega) (by omega) (by decide)
            have q375 : h11 (r1 + 11) 2 = h (r1 + 11) 2 := jK 0 f13 (rg_T11_2_0_1 t3) (by omega) (by omega) (by decide)
            refine x_getC (np := 27) (x := 130) (f := 2) (q := (h (r1 + 11) 2)) (by decide +kernel) (by decide) (tg_11_130_2_0 t3) (((((q370.trans q371).trans q372).trans q373).trans q374).trans q375) (fun l376 => ?_)
            refine x_const (np := 28) (x := 9223372043297226753) (a := 2147483649) (by decide +kernel) (by decide) (by decide) ?_
            refine x_iadd (np := 29) (x := 0) (v := (1 + (h (r1 + 11) 2))) (by decide +kernel) l354 (by decide) (by omega) (by omega) ?_
            refine x_putI (np := 32) (x := 130) (f := 2) (by decide +kernel) (tg_11_130_2_0 t3) (by omega) (Or.inl (by decide)) ?_
            have j378 := jU (e := 2) (v := (1 + (h (r1 + 11) 2))) 0 j367 (rg_T11_2_0_1 t3) (by omega) (by omega) (by omega)
            have f380 := jF (e := 2) (v := (1 + (h (r1 + 11) 2))) 0 f369 (rg_T11_2_0_1 t3) (by omega) (by omega) (by decide)
            generalize e379 : x_up h366 (r1 + 11) 2 (1 + (h (r1 + 11) 2)) = h377 at j378 f380 ⊢
            refine x_const (np := 33) (x := 9223372043297226753) (a := 2147483649) (by decide +kernel) (by decide) (by decide) ?_
            refine x_retI (np := 34) (x := 0) (by decide +kernel) (by decide) (Or.inr ⟨by decide +kernel, by omega, by omega⟩) ⟨_, rfl, (by decide), ?_⟩
            have q381 : h377 1 2 = h366 1 2 := by rw [← e379]; exact x_up_k (Ne.symm (tne_11_1 t3))
            have q382 : h366 1 2 = h99 1 2 := by rw [← e368]; exact x_up_k (Ne.symm (tne_12_1 t3))
            have q383 : h377 62 1 = h366 62 1 := by rw [← e379]; exact x_up_k (Ne.symm (tne_11_62 t3))
            have q384 : h366 62 1 = h99 62 1 := by rw [← e368]; exact x_up_k (Ne.symm (tne_12_62 t3))
            have q385 : h99 62 1 = h77 62 1 := f101 62 1 (by decide +kernel)
            have q386 : h77 62 1 = h55 62 1 := f79 62 1 (by decide +kernel)
            have q387 : h55 62 1 = h33 62 1 := f57 62 1 (by decide +kernel)
            have q388 : h33 62 1 = h11 62 1 := f35 62 1 (by decide +kernel)
            have q389 : h11 62 1 = h 62 1 := f13 62 1 (by decide +kernel)
            have q390 : h377 (r1 + 11) 2 = (1 + (h (r1 + 11) 2)) := by rw [← e379]; exact x_up_at
            have e391 : cl9 h377 = (1 + (h (r1 + 11) 2)) := (congrArg (fun z => h377 z 2) (((((((q383.trans q384).trans q385).trans q386).trans q387).trans q388).trans q389).trans q2)).trans q390
            have q392 : h377 1 2 = h366 1 2 := by rw [← e379]; exact x_up_k (Ne.symm (tne_11_1 t3))
            have q393 : h366 1 2 = h99 1 2 := by rw [← e368]; exact x_up_k (Ne.symm (tne_12_1 t3))
            obtain ⟨w394, e395⟩ := Tk.no c39 (by omega)
            have w396 : ¬ Wd tB tN 2 (h 1 2) := by rw [show h 1 2 = h11 1 2 from (show h11 1 2 = h 1 2 by omega).symm]; exact w394
            obtain ⟨w397, e398⟩ := Tk.no c61 (by omega)
            have w399 : ¬ Wd tB tN 27 (h 1 2) := by rw [show h 1 2 = h33 1 2 from (show h33 1 2 = h 1 2 by omega).symm]; exact w397
            obtain ⟨w400, e401⟩ := Tk.no c83 (by omega)
            have w402 : ¬ Wd tB tN 5 (h 1 2) := by rw [show h 1 2 = h55 1 2 from (show h55 1 2 = h 1 2 by omega).symm]; exact w400
            obtain ⟨w403, e404⟩ := Tk.yes c105 (by omega)
            have q405 : h377 1 2 = h366 1 2 := by rw [← e379]; exact x_up_k (Ne.symm (tne_11_1 t3))
            have q406 : h366 1 2 = h99 1 2 := by rw [← e368]; exact x_up_k (Ne.symm (tne_12_1 t3))
            refine x_retI (np := 60) (x := 0) (by decide +kernel) (by decide) (Or.inr ⟨by decide +kernel, by omega, by omega⟩) ⟨_, rfl, (by decide), ?_⟩
            exact ⟨j378, f380, (by omega), (fun z => by omega), (fun z => by omega), (fun l => gP_wd (i := 28) (by unfold six; decide) w403 (show h77 1 2 = h 1 2 by omega) e404 (by omega) (show h99 1 2 = h377 1 2 by omega))⟩
          have q356 : ¬ ((h (r1 + 11) 2) < 2147484048) := q356
          exfalso; omega
        have q88 : ¬ (v73 = 2147483648) := q88
        have b407 := c81 (by omega)
        refine x_aload (np := 48) (x := 0) (by decide +kernel) rfl (x_nc_le (by decide)) ?_
        have q408 : h77 62 1 = h55 62 1 := f79 62 1 (by decide +kernel)
        have q409 : h55 62 1 = h33 62 1 := f57 62 1 (by decide +kernel)
        have q410 : h33 62 1 = h11 62 1 := f35 62 1 (by decide +kernel)
        have q411 : h11 62 1 = h 62 1 := f13 62 1 (by decide +kernel)
        refine x_getR (np := 51) (x := 193) (f := 1) (q := (r1 + 11)) (by decide +kernel) (by decide) (by decide +kernel) ((((q408.trans q409).trans q410).trans q411).trans q2) ?_
        refine x_const (np := 54) (x := 9223376333969556456) (a := 2147484648) (by decide +kernel) (by decide) (by decide) ?_
        refine x_iload (np := 55) (x := 2) (by decide +kernel) rfl (by decide) ?_
        refine x_iadd (np := 56) (x := 0) (v := 2147484650) (by decide +kernel) (by decide) (by decide) (by omega) (by omega) ?_
        refine x_nI (t := 6) (mj := 36) (n := 2) (rc := 3) (ml := 2) (nr := 0) (np := 59) (as := [x_r (r1 + 11), iv_c 2147484650]) (rest := []) (lo1 := [x_r (r1 + 11), iv_c 2147484650]) (by decide +kernel) (by decide) (by decide +kernel) (x_rb_of (tr_11_3 t3)) rfl rfl (x_wr (tn_11 t3) (x_wi (by decide) x_wn)) x_wn (by decide) rfl ?_
        refine x_aload (np := 1) (x := 0) (by decide +kernel) rfl (x_nc_le (tn_11 t3)) ?_
        have q412 : h77 (r1 + 11) 2 = h55 (r1 + 11) 2 := jK 0 f79 (rg_T11_2_0_1 t3) (by omega) (by omega) (by decide)
        have q413 : h55 (r1 + 11) 2 = h33 (r1 + 11) 2 := jK 0 f57 (rg_T11_2_0_1 t3) (by omega) (by omega) (by decide)
        have q414 : h33 (r1 + 11) 2 = h11 (r1 + 11) 2 := jK 0 f35 (rg_T11_2_0_1 t3) (by omega) (by omega) (by decide)
        have q415 : h11 (r1 + 11) 2 = h (r1 + 11) 2 := jK 0 f13 (rg_T11_2_0_1 t3) (by omega) (by omega) (by decide)
        refine x_getC (np := 4) (x := 130) (f := 2) (q := (h (r1 + 11) 2)) (by decide +kernel) (by decide) (tg_11_130_2_0 t3) (((q412.trans q413).trans q414).trans q415) (fun l416 => ?_)
        refine x_const (np := 7) (x := 9223373756989178256) (a := 2147484048) (by decide +kernel) (by decide) (by decide) ?_
        refine x_icmp (k := 2) (tg := 12) (np := 10) (by decide +kernel) (by decide) l416 (by decide) (fun q417 => ?_) (fun q418 => ?_)
        · have q417 : (h (r1 + 11) 2) < 2147484048 := q417
          refine x_aload (np := 13) (x := 0) (by decide +kernel) rfl (x_nc_le (tn_11 t3)) ?_
          have q419 : h77 (r1 + 11) 0 = (r1 + 12) := tf_11_0 j78 t3
          refine x_getR (np := 16) (x := 128) (f := 0) (q := (r1 + 12)) (by decide +kernel) (by decide) (tg_11_128_0_1 t3) q419 ?_
          refine x_aload (np := 17) (x := 0) (by decide +kernel) rfl (x_nc_le (tn_11 t3)) ?_
          have q420 : h77 (r1 + 11) 2 = h55 (r1 + 11) 2 := jK 0 f79 (rg_T11_2_0_1 t3) (by omega) (by omega) (by decide)
          have q421 : h55 (r1 + 11) 2 = h33 (r1 + 11) 2 := jK 0 f57 (rg_T11_2_0_1 t3) (by omega) (by omega) (by decide)
          have q422 : h33 (r1 + 11) 2 = h11 (r1 + 11) 2 := jK 0 f35 (rg_T11_2_0_1 t3) (by omega) (by omega) (by decide)
          have q423 : h11 (r1 + 11) 2 = h (r1 + 11) 2 := jK 0 f13 (rg_T11_2_0_1 t3) (by omega) (by omega) (by decide)
          refine x_getC (np := 20) (x := 130) (f := 2) (q := (h (r1 + 11) 2)) (by decide +kernel) (by decide) (tg_11_130_2_0 t3) (((q420.trans q421).trans q422).trans q423) (fun l424 => ?_)
          refine x_iload (np := 21) (x := 1) (by decide +kernel) rfl (by decide) ?_
          obtain ⟨u425, q426⟩ : ∃ z, (h (r1 + 11) 2) = 2147483648 + z := ⟨(h (r1 + 11) 2) - 2147483648, by omega⟩
          refine x_ast (np := 22) (x := 0) (kd := 1) (n := 400) (i := u425) (by decide +kernel) (Or.inl rfl) (ta_12_400 t3) (by omega) (by omega) (by decide) (by decide) (fun z => absurd z (by decide)) ?_
          have j428 := jU (e := u425) (v := 2147484650) u425 j78 (rg_T12_0_1_400 t3) (by omega) (by omega) (by omega)
          have f430 := jF (e := u425) (v := 2147484650) u425 f84 (rg_T12_0_1_400 t3) (by omega) (by omega) (by decide)
          generalize e429 : x_up h77 (r1 + 12) u425 2147484650 = h427 at j428 f430 ⊢
          refine x_aload (np := 23) (x := 0) (by decide +kernel) rfl (x_nc_le (tn_11 t3)) ?_
          refine x_dup (np := 24) (x := 0) (by decide +kernel) (by have z := x_nc_le (k := (r1 + 11)) (tn_11 t3); unfold x_r; omega) ?_
          have q431 : h427 (r1 + 11) 2 = h77 (r1 + 11) 2 := by rw [← e429]; exact x_up_k tof_11_12
          have q432 : h77 (r1 + 11) 2 = h55 (r1 + 11) 2 := jK 0 f79 (rg_T11_2_0_1 t3) (by omega) (by omega) (by decide)
          have q433 : h55 (r1 + 11) 2 = h33 (r1 + 11) 2 := jK 0 f57 (rg_T11_2_0_1 t3) (by omega) (by omega) (by decide)
          have q434 : h33 (r1 + 11) 2 = h11 (r1 + 11) 2 := jK 0 f35 (rg_T11_2_0_1 t3) (by omega) (by omega) (by decide)
          have q435 : h11 (r1 + 11) 2 = h (r1 + 11) 2 := jK 0 f13 (rg_T11_2_0_1 t3) (by omega) (by omega) (by decide)
          refine x_getC (np := 27) (x := 130) (f := 2) (q := (h (r1 + 11) 2)) (by decide +kernel) (by decide) (tg_11_130_2_0 t3) ((((q431.trans q432).trans q433).trans q434).trans q435) (fun l436 => ?_)
          refine x_const (np := 28) (x := 9223372043297226753) (a := 2147483649) (by decide +kernel) (by decide) (by decide) ?_
          refine x_iadd (np := 29) (x := 0) (v := (1 + (h (r1 + 11) 2))) (by decide +kernel) l416 (by decide) (by omega) (by omega) ?_
          refine x_putI (np := 32) (x := 130) (f := 2) (by decide +kernel) (tg_11_130_2_0 t3) (by omega) (Or.inl (by decide)) ?_
          have j438 := jU (e := 2) (v := (1 + (h (r1 + 11) 2))) 0 j428 (rg_T11_2_0_1 t3) (by omega) (by omega) (by omega)
          have f440 := jF (e := 2) (v := (1 + (h (r1 + 11) 2))) 0 f430 (rg_T11_2_0_1 t3) (by omega) (by omega) (by decide)
          generalize e439 : x_up h427 (r1 + 11) 2 (1 + (h (r1 + 11) 2)) = h437 at j438 f440 ⊢
          refine x_const (np := 33) (x := 9223372043297226753) (a := 2147483649) (by decide +kernel) (by decide) (by decide) ?_
          refine x_retI (np := 34) (x := 0) (by decide +kernel) (by decide) (Or.inr ⟨by decide +kernel, by omega, by omega⟩) ⟨_, rfl, (by decide), ?_⟩
          have q441 : h437 1 2 = h427 1 2 := by rw [← e439]; exact x_up_k (Ne.symm (tne_11_1 t3))
          have q442 : h427 1 2 = h77 1 2 := by rw [← e429]; exact x_up_k (Ne.symm (tne_12_1 t3))
          have q443 : h437 62 1 = h427 62 1 := by rw [← e439]; exact x_up_k (Ne.symm (tne_11_62 t3))
          have q444 : h427 62 1 = h77 62 1 := by rw [← e429]; exact x_up_k (Ne.symm (tne_12_62 t3))
          have q445 : h77 62 1 = h55 62 1 := f79 62 1 (by decide +kernel)
          have q446 : h55 62 1 = h33 62 1 := f57 62 1 (by decide +kernel)
          have q447 : h33 62 1 = h11 62 1 := f35 62 1 (by decide +kernel)
          have q448 : h11 62 1 = h 62 1 := f13 62 1 (by decide +kernel)
          have q449 : h437 (r1 + 11) 2 = (1 + (h (r1 + 11) 2)) := by rw [← e439]; exact x_up_at
          have e450 : cl9 h437 = (1 + (h (r1 + 11) 2)) := (congrArg (fun z => h437 z 2) ((((((q443.trans q444).trans q445).trans q446).trans q447).trans q448).trans q2)).trans q449
          have q451 : h437 1 2 = h427 1 2 := by rw [← e439]; exact x_up_k (Ne.symm (tne_11_1 t3))
          have q452 : h427 1 2 = h77 1 2 := by rw [← e429]; exact x_up_k (Ne.symm (tne_12_1 t3))
          obtain ⟨w453, e454⟩ := Tk.no c39 (by omega)
          have w455 : ¬ Wd tB tN 2 (h 1 2) := by rw [show h 1 2 = h11 1 2 from (show h11 1 2 = h 1 2 by omega).symm]; exact w453
          obtain ⟨w456, e457⟩ := Tk.no c61 (by omega)
          have w458 : ¬ Wd tB tN 27 (h 1 2) := by rw [show h 1 2 = h33 1 2 from (show h33 1 2 = h 1 2 by omega).symm]; exact w456
          obtain ⟨w459, e460⟩ := Tk.yes c83 (by omega)
          have q461 : h437 1 2 = h427 1 2 := by rw [← e439]; exact x_up_k (Ne.symm (tne_11_1 t3))
          have q462 : h427 1 2 = h77 1 2 := by rw [← e429]; exact x_up_k (Ne.symm (tne_12_1 t3))
          refine x_retI (np := 60) (x := 0) (by decide +kernel) (by decide) (Or.inr ⟨by decide +kernel, by omega, by omega⟩) ⟨_, rfl, (by decide), ?_⟩
          exact ⟨j438, f440, (by omega), (fun z => by omega), (fun z => by omega), (fun l => gP_wd (i := 5) (by unfold six; decide) w459 (show h55 1 2 = h 1 2 by omega) e460 (by omega) (show h77 1 2 = h437 1 2 by omega))⟩
        have q418 : ¬ ((h (r1 + 11) 2) < 2147484048) := q418
        exfalso; omega
      have q66 : ¬ (v51 = 2147483648) := q66
      have b463 := c59 (by omega)
      refine x_aload (np := 48) (x := 0) (by decide +kernel) rfl (x_nc_le (by decide)) ?_
      have q464 : h55 62 1 = h33 62 1 := f57 62 1 (by decide +kernel)
      have q465 : h33 62 1 = h11 62 1 := f35 62 1 (by decide +kernel)
      have q466 : h11 62 1 = h 62 1 := f13 62 1 (by decide +kernel)
      refine x_getR (np := 51) (x := 193) (f := 1) (q := (r1 + 11)) (by decide +kernel) (by decide) (by decide +kernel) (((q464.trans q465).trans q466).trans q2) ?_
      refine x_const (np := 54) (x := 9223376333969556456) (a := 2147484648) (by decide +kernel) (by decide) (by decide) ?_
      refine x_iload (np := 55) (x := 2) (by decide +kernel) rfl (by decide) ?_
      refine x_iadd (np := 56) (x := 0) (v := 2147484649) (by decide +kernel) (by decide) (by decide) (by omega) (by omega) ?_
      refine x_nI (t := 6) (mj := 36) (n := 2) (rc := 3) (ml := 2) (nr := 0) (np := 59) (as := [x_r (r1 + 11), iv_c 2147484649]) (rest := []) (lo1 := [x_r (r1 + 11), iv_c 2147484649]) (by decide +kernel) (by decide) (by decide +kernel) (x_rb_of (tr_11_3 t3)) rfl rfl (x_wr (tn_11 t3) (x_wi (by decide) x_wn)) x_wn (by decide) rfl ?_
      refine x_aload (np := 1) (x := 0) (by decide +kernel) rfl (x_nc_le (tn_11 t3)) ?_
      have q467 : h55 (r1 + 11) 2 = h33 (r1 + 11) 2 := jK 0 f57 (rg_T11_2_0_1 t3) (by omega) (by omega) (by decide)
      have q468 : h33 (r1 + 11) 2 = h11 (r1 + 11) 2 := jK 0 f35 (rg_T11_2_0_1 t3) (by omega) (by omega) (by decide)
      have q469 : h11 (r1 + 11) 2 = h (r1 + 11) 2 := jK 0 f13 (rg_T11_2_0_1 t3) (by omega) (by omega) (by decide)
      refine x_getC (np := 4) (x := 130) (f := 2) (q := (h (r1 + 11) 2)) (by decide +kernel) (by decide) (tg_11_130_2_0 t3) ((q467.trans q468).trans q469) (fun l470 => ?_)
      refine x_const (np := 7) (x := 9223373756989178256) (a := 2147484048) (by decide +kernel) (by decide) (by decide) ?_
      refine x_icmp (k := 2) (tg := 12) (np := 10) (by decide +kernel) (by decide) l470 (by decide) (fun q471 => ?_) (fun q472 => ?_)
      · have q471 : (h (r1 + 11) 2) < 2147484048 := q471
        refine x_aload (np := 13) (x := 0) (by decide +kernel) rfl (x_nc_le (tn_11 t3)) ?_
        have q473 : h55 (r1 + 11) 0 = (r1 + 12) := tf_11_0 j56 t3
        refine x_getR (np := 16) (x := 128) (f := 0) (q := (r1 + 12)) (by decide +kernel) (by decide) (tg_11_128_0_1 t3) q473 ?_
        refine x_aload (np := 17) (x := 0) (by decide +kernel) rfl (x_nc_le (tn_11 t3)) ?_
        have q474 : h55 (r1 + 11) 2 = h33 (r1 + 11) 2 := jK 0 f57 (rg_T11_2_0_1 t3) (by omega) (by omega) (by decide)
        have q475 : h33 (r1 + 11) 2 = h11 (r1 + 11) 2 := jK 0 f35 (rg_T11_2_0_1 t3) (by omega) (by omega) (by decide)
        have q476 : h11 (r1 + 11) 2 = h (r1 + 11) 2 := jK 0 f13 (rg_T11_2_0_1 t3) (by omega) (by omega) (by decide)
        refine x_getC (np := 20) (x := 130) (f := 2) (q := (h (r1 + 11) 2)) (by decide +kernel) (by decide) (tg_11_130_2_0 t3) ((q474.trans q475).trans q476) (fun l477 => ?_)
        refine x_iload (np := 21) (x := 1) (by decide +kernel) rfl (by decide) ?_
        obtain ⟨u478, q479⟩ : ∃ z, (h (r1 + 11) 2) = 2147483648 + z := ⟨(h (r1 + 11) 2) - 2147483648, by omega⟩
        refine x_ast (np := 22) (x := 0) (kd := 1) (n := 400) (i := u478) (by decide +kernel) (Or.inl rfl) (ta_12_400 t3) (by omega) (by omega) (by decide) (by decide) (fun z => absurd z (by decide)) ?_
        have j481 := jU (e := u478) (v := 2147484649) u478 j56 (rg_T12_0_1_400 t3) (by omega) (by omega) (by omega)
        have f483 := jF (e := u478) (v := 2147484649) u478 f62 (rg_T12_0_1_400 t3) (by omega) (by omega) (by decide)
        generalize e482 : x_up h55 (r1 + 12) u478 2147484649 = h480 at j481 f483 ⊢
        refine x_aload (np := 23) (x := 0) (by decide +kernel) rfl (x_nc_le (tn_11 t3)) ?_
        refine x_dup (np := 24) (x := 0) (by decide +kernel) (by have z := x_nc_le (k := (r1 + 11)) (tn_11 t3); unfold x_r; omega) ?_
        have q484 : h480 (r1 + 11) 2 = h55 (r1 + 11) 2 := by rw [← e482]; exact x_up_k tof_11_12
        have q485 : h55 (r1 + 11) 2 = h33 (r1 + 11) 2 := jK 0 f57 (rg_T11_2_0_1 t3) (by omega) (by omega) (by decide)
        have q486 : h33 (r1 + 11) 2 = h11 (r1 + 11) 2 := jK 0 f35 (rg_T11_2_0_1 t3) (by omega) (by omega) (by decide)
        have q487 : h11 (r1 + 11) 2 = h (r1 + 11) 2 := jK 0 f13 (rg_T11_2_0_1 t3) (by omega) (by omega) (by decide)
        refine x_getC (np := 27) (x := 130) (f := 2) (q := (h (r1 + 11) 2)) (by decide +kernel) (by decide) (tg_11_130_2_0 t3) (((q484.trans q485).trans q486).trans q487) (fun l488 => ?_)
        refine x_const (np := 28) (x := 9223372043297226753) (a := 2147483649) (by decide +kernel) (by decide) (by decide) ?_
        refine x_iadd (np := 29) (x := 0) (v := (1 + (h (r1 + 11) 2))) (by decide +kernel) l470 (by decide) (by omega) (by omega) ?_
        refine x_putI (np := 32) (x := 130) (f := 2) (by decide +kernel) (tg_11_130_2_0 t3) (by omega) (Or.inl (by decide)) ?_
        have j490 := jU (e := 2) (v := (1 + (h (r1 + 11) 2))) 0 j481 (rg_T11_2_0_1 t3) (by omega) (by omega) (by omega)
        have f492 := jF (e := 2) (v := (1 + (h (r1 + 11) 2))) 0 f483 (rg_T11_2_0_1 t3) (by omega) (by omega) (by decide)
        generalize e491 : x_up h480 (r1 + 11) 2 (1 + (h (r1 + 11) 2)) = h489 at j490 f492 ⊢
        refine x_const (np := 33) (x := 9223372043297226753) (a := 2147483649) (by decide +kernel) (by decide) (by decide) ?_
        refine x_retI (np := 34) (x := 0) (by decide +kernel) (by decide) (Or.inr ⟨by decide +kernel, by omega, by omega⟩) ⟨_, rfl, (by decide), ?_⟩
        have q493 : h489 1 2 = h480 1 2 := by rw [← e491]; exact x_up_k (Ne.symm (tne_11_1 t3))
        have q494 : h480 1 2 = h55 1 2 := by rw [← e482]; exact x_up_k (Ne.symm (tne_12_1 t3))
        have q495 : h489 62 1 = h480 62 1 := by rw [← e491]; exact x_up_k (Ne.symm (tne_11_62 t3))
        have q496 : h480 62 1 = h55 62 1 := by rw [← e482]; exact x_up_k (Ne.symm (tne_12_62 t3))
        have q497 : h55 62 1 = h33 62 1 := f57 62 1 (by decide +kernel)
        have q498 : h33 62 1 = h11 62 1 := f35 62 1 (by decide +kernel)
        have q499 : h11 62 1 = h 62 1 := f13 62 1 (by decide +kernel)
        have q500 : h489 (r1 + 11) 2 = (1 + (h (r1 + 11) 2)) := by rw [← e491]; exact x_up_at
        have e501 : cl9 h489 = (1 + (h (r1 + 11) 2)) := (congrArg (fun z => h489 z 2) (((((q495.trans q496).trans q497).trans q498).trans q499).trans q2)).trans q500
        have q502 : h489 1 2 = h480 1 2 := by rw [← e491]; exact x_up_k (Ne.symm (tne_11_1 t3))
        have q503 : h480 1 2 = h55 1 2 := by rw [← e482]; exact x_up_k (Ne.symm (tne_12_1 t3))
        obtain ⟨w504, e505⟩ := Tk.no c39 (by omega)
        have w506 : ¬ Wd tB tN 2 (h 1 2) := by rw [show h 1 2 = h11 1 2 from (show h11 1 2 = h 1 2 by omega).symm]; exact w504
        obtain ⟨w507, e508⟩ := Tk.yes c61 (by omega)
        have q509 : h489 1 2 = h480 1 2 := by rw [← e491]; exact x_up_k (Ne.symm (tne_11_1 t3))
        have q510 : h480 1 2 = h55 1 2 := by rw [← e482]; exact x_up_k (Ne.symm (tne_12_1 t3))
        refine x_retI (np := 60) (x := 0) (by decide +kernel) (by decide) (Or.inr ⟨by decide +kernel, by omega, by omega⟩) ⟨_, rfl, (by decide), ?_⟩
        exact ⟨j490, f492, (by omega), (fun z => by omega), (fun z => by omega), (fun l => gP_wd (i := 27) (by unfold six; decide) w507 (show h33 1 2 = h 1 2 by omega) e508 (by omega) (show h55 1 2 = h489 1 2 by omega))⟩
      have q472 : ¬ ((h (r1 + 11) 2) < 2147484048) := q472
      exfalso; omega
    have q44 : ¬ (v29 = 2147483648) := q44
    have b511 := c37 (by omega)
    refine x_aload (np := 48) (x := 0) (by decide +kernel) rfl (x_nc_le (by decide)) ?_
    have q512 : h33 62 1 = h11 62 1 := f35 62 1 (by decide +kernel)
    have q513 : h11 62 1 = h 62 1 := f13 62 1 (by decide +kernel)
    refine x_getR (np := 51) (x := 193) (f := 1) (q := (r1 + 11)) (by decide +kernel) (by decide) (by decide +kernel) ((q512.trans q513).trans q2) ?_
    refine x_const (np := 54) (x := 9223376333969556456) (a := 2147484648) (by decide +kernel) (by decide) (by decide) ?_
    refine x_iload (np := 55) (x := 2) (by decide +kernel) rfl (by decide) ?_
    refine x_iadd (np := 56) (x := 0) (v := 2147484648) (by decide +kernel) (by decide) (by decide) (by omega) (by omega) ?_
    refine x_nI (t := 6) (mj := 36) (n := 2) (rc := 3) (ml := 2) (nr := 0) (np := 59) (as := [x_r (r1 + 11), iv_c 2147484648]) (rest := []) (lo1 := [x_r (r1 + 11), iv_c 2147484648]) (by decide +kernel) (by decide) (by decide +kernel) (x_rb_of (tr_11_3 t3)) rfl rfl (x_wr (tn_11 t3) (x_wi (by decide) x_wn)) x_wn (by decide) rfl ?_
    refine x_aload (np := 1) (x := 0) (by decide +kernel) rfl (x_nc_le (tn_11 t3)) ?_
    have q514 : h33 (r1 + 11) 2 = h11 (r1 + 11) 2 := jK 0 f35 (rg_T11_2_0_1 t3) (by omega) (by omega) (by decide)
    have q515 : h11 (r1 + 11) 2 = h (r1 + 11) 2 := jK 0 f13 (rg_T11_2_0_1 t3) (by omega) (by omega) (by decide)
    refine x_getC (np := 4) (x := 130) (f := 2) (q := (h (r1 + 11) 2)) (by decide +kernel) (by decide) (tg_11_130_2_0 t3) (q514.trans q515) (fun l516 => ?_)
    refine x_const (np := 7) (x := 9223373756989178256) (a := 2147484048) (by decide +kernel) (by decide) (by decide) ?_
    refine x_icmp (k := 2) (tg := 12) (np := 10) (by decide +kernel) (by decide) l516 (by decide) (fun q517 => ?_) (fun q518 => ?_)
    · have q517 : (h (r1 + 11) 2) < 2147484048 := q517
      refine x_aload (np := 13) (x := 0) (by decide +kernel) rfl (x_nc_le (tn_11 t3)) ?_
      have q519 : h33 (r1 + 11) 0 = (r1 + 12) := tf_11_0 j34 t3
      refine x_getR (np := 16) (x := 128) (f := 0) (q := (r1 + 12)) (by decide +kernel) (by decide) (tg_11_128_0_1 t3) q519 ?_
      refine x_aload (np := 17) (x := 0) (by decide +kernel) rfl (x_nc_le (tn_11 t3)) ?_
      have q520 : h33 (r1 + 11) 2 = h11 (r1 + 11) 2 := jK 0 f35 (rg_T11_2_0_1 t3) (by omega) (by omega) (by decide)
      have q521 : h11 (r1 + 11) 2 = h (r1 + 11) 2 := jK 0 f13 (rg_T11_2_0_1 t3) (by omega) (by omega) (by decide)
      refine x_getC (np := 20) (x := 130) (f := 2) (q := (h (r1 + 11) 2)) (by decide +kernel) (by decide) (tg_11_130_2_0 t3) (q520.trans q521) (fun l522 => ?_)
      refine x_iload (np := 21) (x := 1) (by decide +kernel) rfl (by decide) ?_
      obtain ⟨u523, q524⟩ : ∃ z, (h (r1 + 11) 2) = 2147483648 + z := ⟨(h (r1 + 11) 2) - 2147483648, by omega⟩
      refine x_ast (np := 22) (x := 0) (kd := 1) (n := 400) (i := u523) (by decide +kernel) (Or.inl rfl) (ta_12_400 t3) (by omega) (by omega) (by decide) (by decide) (fun z => absurd z (by decide)) ?_
      have j526 := jU (e := u523) (v := 2147484648) u523 j34 (rg_T12_0_1_400 t3) (by omega) (by omega) (by omega)
      have f528 := jF (e := u523) (v := 2147484648) u523 f40 (rg_T12_0_1_400 t3) (by omega) (by omega) (by decide)
      generalize e527 : x_up h33 (r1 + 12) u523 2147484648 = h525 at j526 f528 ⊢
      refine x_aload (np := 23) (x := 0) (by decide +kernel) rfl (x_nc_le (tn_11 t3)) ?_
      refine x_dup (np := 24) (x := 0) (by decide +kernel) (by have z := x_nc_le (k := (r1 + 11)) (tn_11 t3); unfold x_r; omega) ?_
      have q529 : h525 (r1 + 11) 2 = h33 (r1 + 11) 2 := by rw [← e527]; exact x_up_k tof_11_12
      have q530 : h33 (r1 + 11) 2 = h11 (r1 + 11) 2 := jK 0 f35 (rg_T11_2_0_1 t3) (by omega) (by omega) (by decide)
      have q531 : h11 (r1 + 11) 2 = h (r1 + 11) 2 := jK 0 f13 (rg_T11_2_0_1 t3) (by omega) (by omega) (by decide)
      refine x_getC (np := 27) (x := 130) (f := 2) (q := (h (r1 + 11) 2)) (by decide +kernel) (by decide) (tg_11_130_2_0 t3) ((q529.trans q530).trans q531) (fun l532 => ?_)
      refine x_const (np := 28) (x := 9223372043297226753) (a := 2147483649) (by decide +kernel) (by decide) (by decide) ?_
      refine x_iadd (np := 29) (x := 0) (v := (1 + (h (r1 + 11) 2))) (by decide +kernel) l516 (by decide) (by omega) (by omega) ?_
      refine x_putI (np := 32) (x := 130) (f := 2) (by decide +kernel) (tg_11_130_2_0 t3) (by omega) (Or.inl (by decide)) ?_
      have j534 := jU (e := 2) (v := (1 + (h (r1 + 11) 2))) 0 j526 (rg_T11_2_0_1 t3) (by omega) (by omega) (by omega)
      have f536 := jF (e := 2) (v := (1 + (h (r1 + 11) 2))) 0 f528 (rg_T11_2_0_1 t3) (by omega) (by omega) (by decide)
      generalize e535 : x_up h525 (r1 + 11) 2 (1 + (h (r1 + 11) 2)) = h533 at j534 f536 ⊢
      refine x_const (np := 33) (x := 9223372043297226753) (a := 2147483649) (by decide +kernel) (by decide) (by decide) ?_
      refine x_retI (np := 34) (x := 0) (by decide +kernel) (by decide) (Or.inr ⟨by decide +kernel, by omega, by omega⟩) ⟨_, rfl, (by decide), ?_⟩
      have q537 : h533 1 2 = h525 1 2 := by rw [← e535]; exact x_up_k (Ne.symm (tne_11_1 t3))
      have q538 : h525 1 2 = h33 1 2 := by rw [← e527]; exact x_up_k (Ne.symm (tne_12_1 t3))
      have q539 : h533 62 1 = h525 62 1 := by rw [← e535]; exact x_up_k (Ne.symm (tne_11_62 t3))
      have q540 : h525 62 1 = h33 62 1 := by rw [← e527]; exact x_up_k (Ne.symm (tne_12_62 t3))
      have q541 : h33 62 1 = h11 62 1 := f35 62 1 (by decide +kernel)
      have q542 : h11 62 1 = h 62 1 := f13 62 1 (by decide +kernel)
      have q543 : h533 (r1 + 11) 2 = (1 + (h (r1 + 11) 2)) := by rw [← e535]; exact x_up_at
      have e544 : cl9 h533 = (1 + (h (r1 + 11) 2)) := (congrArg (fun z => h533 z 2) ((((q539.trans q540).trans q541).trans q542).trans q2)).trans q543
      have q545 : h533 1 2 = h525 1 2 := by rw [← e535]; exact x_up_k (Ne.symm (tne_11_1 t3))
      have q546 : h525 1 2 = h33 1 2 := by rw [← e527]; exact x_up_k (Ne.symm (tne_12_1 t3))
      obtain ⟨w547, e548⟩ := Tk.yes c39 (by omega)
      have q549 : h533 1 2 = h525 1 2 := by rw [← e535]; exact x_up_k (Ne.symm (tne_11_1 t3))
      have q550 : h525 1 2 = h33 1 2 := by rw [← e527]; exact x_up_k (Ne.symm (tne_12_1 t3))
      refine x_retI (np := 60) (x := 0) (by decide +kernel) (by decide) (Or.inr ⟨by decide +kernel, by omega, by omega⟩) ⟨_, rfl, (by decide), ?_⟩
      exact ⟨j534, f536, (by omega), (fun z => by omega), (fun z => by omega), (fun l => gP_wd (i := 2) (by unfold six; decide) w547 (show h11 1 2 = h 1 2 by omega) e548 (by omega) (show h33 1 2 = h533 1 2 by omega))⟩
    have q518 : ¬ ((h (r1 + 11) 2) < 2147484048) := q518
    exfalso; omega
  have q22 : ¬ (v8 = 2147483647) := q22
  have b551 := c16 (by omega)
  refine x_aload (np := 18) (x := 0) (by decide +kernel) rfl (x_nc_le (by decide)) ?_
  have q552 : h11 62 1 = h 62 1 := f13 62 1 (by decide +kernel)
  refine x_getR (np := 21) (x := 193) (f := 1) (q := (r1 + 11)) (by decide +kernel) (by decide) (by decide +kernel) (q552.trans q2) ?_
  refine x_iload (np := 22) (x := 1) (by decide +kernel) rfl l9 ?_
  refine x_nI (t := 6) (mj := 36) (n := 2) (rc := 3) (ml := 2) (nr := 0) (np := 25) (as := [x_r (r1 + 11), iv_c v8]) (rest := []) (lo1 := [x_r (r1 + 11), iv_c v8]) (by decide +kernel) (by decide) (by decide +kernel) (x_rb_of (tr_11_3 t3)) rfl rfl (x_wr (tn_11 t3) (x_wi l9 x_wn)) x_wn (by decide) rfl ?_
  refine x_aload (np := 1) (x := 0) (by decide +kernel) rfl (x_nc_le (tn_11 t3)) ?_
  have q553 : h11 (r1 + 11) 2 = h (r1 + 11) 2 := jK 0 f13 (rg_T11_2_0_1 t3) (by omega) (by omega) (by decide)
  refine x_getC (np := 4) (x := 130) (f := 2) (q := (h (r1 + 11) 2)) (by decide +kernel) (by decide) (tg_11_130_2_0 t3) q553 (fun l554 => ?_)
  refine x_const (np := 7) (x := 9223373756989178256) (a := 2147484048) (by decide +kernel) (by decide) (by decide) ?_
  refine x_icmp (k := 2) (tg := 12) (np := 10) (by decide +kernel) (by decide) l554 (by decide) (fun q555 => ?_) (fun q556 => ?_)
  · have q555 : (h (r1 + 11) 2) < 2147484048 := q555
    refine x_aload (np := 13) (x := 0) (by decide +kernel) rfl (x_nc_le (tn_11 t3)) ?_
    have q557 : h11 (r1 + 11) 0 = (r1 + 12) := tf_11_0 j12 t3
    refine x_getR (np := 16) (x := 128) (f := 0) (q := (r1 + 12)) (by decide +kernel) (by decide) (tg_11_128_0_1 t3) q557 ?_
    refine x_aload (np := 17) (x := 0) (by decide +kernel) rfl (x_nc_le (tn_11 t3)) ?_
    have q558 : h11 (r1 + 11) 2 = h (r1 + 11) 2 := jK 0 f13 (rg_T11_2_0_1 t3) (by omega) (by omega) (by decide)
    refine x_getC (np := 20) (x := 130) (f := 2) (q := (h (r1 + 11) 2)) (by decide +kernel) (by decide) (tg_11_130_2_0 t3) q558 (fun l559 => ?_)
    refine x_iload (np := 21) (x := 1) (by decide +kernel) rfl l9 ?_
    obtain ⟨u560, q561⟩ : ∃ z, (h (r1 + 11) 2) = 2147483648 + z := ⟨(h (r1 + 11) 2) - 2147483648, by omega⟩
    refine x_ast (np := 22) (x := 0) (kd := 1) (n := 400) (i := u560) (by decide +kernel) (Or.inl rfl) (ta_12_400 t3) (by omega) (by omega) (by decide) l9 (fun z => absurd z (by decide)) ?_
    have j563 := jU (e := u560) (v := v8) u560 j12 (rg_T12_0_1_400 t3) (by omega) (by omega) (by omega)
    have f565 := jF (e := u560) (v := v8) u560 f19 (rg_T12_0_1_400 t3) (by omega) (by omega) (by decide)
    generalize e564 : x_up h11 (r1 + 12) u560 v8 = h562 at j563 f565 ⊢
    refine x_aload (np := 23) (x := 0) (by decide +kernel) rfl (x_nc_le (tn_11 t3)) ?_
    refine x_dup (np := 24) (x := 0) (by decide +kernel) (by have z := x_nc_le (k := (r1 + 11)) (tn_11 t3); unfold x_r; omega) ?_
    have q566 : h562 (r1 + 11) 2 = h11 (r1 + 11) 2 := by rw [← e564]; exact x_up_k tof_11_12
    have q567 : h11 (r1 + 11) 2 = h (r1 + 11) 2 := jK 0 f13 (rg_T11_2_0_1 t3) (by omega) (by omega) (by decide)
    refine x_getC (np := 27) (x := 130) (f := 2) (q := (h (r1 + 11) 2)) (by decide +kernel) (by decide) (tg_11_130_2_0 t3) (q566.trans q567) (fun l568 => ?_)
    refine x_const (np := 28) (x := 9223372043297226753) (a := 2147483649) (by decide +kernel) (by decide) (by decide) ?_
    refine x_iadd (np := 29) (x := 0) (v := (1 + (h (r1 + 11) 2))) (by decide +kernel) l554 (by decide) (by omega) (by omega) ?_
    refine x_putI (np := 32) (x := 130) (f := 2) (by decide +kernel) (tg_11_130_2_0 t3) (by omega) (Or.inl (by decide)) ?_
    have j570 := jU (e := 2) (v := (1 + (h (r1 + 11) 2))) 0 j563 (rg_T11_2_0_1 t3) (by omega) (by omega) (by omega)
    have f572 := jF (e := 2) (v := (1 + (h (r1 + 11) 2))) 0 f565 (rg_T11_2_0_1 t3) (by omega) (by omega) (by decide)
    generalize e571 : x_up h562 (r1 + 11) 2 (1 + (h (r1 + 11) 2)) = h569 at j570 f572 ⊢
    refine x_const (np := 33) (x := 9223372043297226753) (a := 2147483649) (by decide +kernel) (by decide) (by decide) ?_
    refine x_retI (np := 34) (x := 0) (by decide +kernel) (by decide) (Or.inr ⟨by decide +kernel, by omega, by omega⟩) ⟨_, rfl, (by decide), ?_⟩
    have q573 : h569 1 2 = h562 1 2 := by rw [← e571]; exact x_up_k (Ne.symm (tne_11_1 t3))
    have q574 : h562 1 2 = h11 1 2 := by rw [← e564]; exact x_up_k (Ne.symm (tne_12_1 t3))
    have q575 : h569 62 1 = h562 62 1 := by rw [← e571]; exact x_up_k (Ne.symm (tne_11_62 t3))
    have q576 : h562 62 1 = h11 62 1 := by rw [← e564]; exact x_up_k (Ne.symm (tne_12_62 t3))
    have q577 : h11 62 1 = h 62 1 := f13 62 1 (by decide +kernel)
    have q578 : h569 (r1 + 11) 2 = (1 + (h (r1 + 11) 2)) := by rw [← e571]; exact x_up_at
    have e579 : cl9 h569 = (1 + (h (r1 + 11) 2)) := (congrArg (fun z => h569 z 2) (((q575.trans q576).trans q577).trans q2)).trans q578
    have q580 : h569 1 2 = h562 1 2 := by rw [← e571]; exact x_up_k (Ne.symm (tne_11_1 t3))
    have q581 : h562 1 2 = h11 1 2 := by rw [← e564]; exact x_up_k (Ne.symm (tne_12_1 t3))
    have q582 : h569 1 2 = h562 1 2 := by rw [← e571]; exact x_up_k (Ne.symm (tne_11_1 t3))
    have q583 : h562 1 2 = h11 1 2 := by rw [← e564]; exact x_up_k (Ne.symm (tne_12_1 t3))
    refine x_retI (np := 26) (x := 0) (by decide +kernel) (by decide) (Or.inr ⟨by decide +kernel, by omega, by omega⟩) ⟨_, rfl, (by decide), ?_⟩
    exact ⟨j570, f572, (by omega), (fun z => by omega), (fun z => by omega), (fun l => gP_num c18 rfl (by omega) (by omega) (show h11 1 2 = h569 1 2 by omega))⟩
  have q556 : ¬ ((h (r1 + 11) 2) < 2147484048) := q556
  exfalso; omega
set_option maxHeartbeats 0 in
/-- LentNames$Tape.takesSign(C)Z -/
theorem c76_1 {sc : Nat × Nat} {d a1 : Nat} {h : xh} {tB : Nat → Nat} {tN : Nat} (hJ : J h) (ba1 : 2147483648 ≤ a1 ∧ a1 ≤ 2147483775) (hT : Tp tB tN h) : X sc 76 (d + 2) (xI fun r h' => J h' ∧ Fr 33 h h' ∧ (2147483648 ≤ r ∧ r ≤ 2147483649) ∧ (r = 2147483649 → h 1 2 + 1 ≤ h' 1 2) ∧ (r = 2147483648 → h' 1 2 = h 1 2) ∧ Tk (Sg tB tN a1 (h 1 2)) tB tN (h 1 2) 1 r (h' 1 2)) 0 0 0 [x_r 1, iv_c a1] [] h := by
  have la1 : a1 < 4294967296 := by omega
  have hF := Fr.refl 33 h
  refine x_aload (np := 1) (x := 0) (by decide +kernel) rfl (x_nc_le (by decide)) ?_
  refine x_iload (np := 2) (x := 1) (by decide +kernel) rfl la1 ?_
  refine x_cP (t := 6) (mj := 75) (n := 2) (rc := 8) (ml := 2) (nr := 0) (np := 5) (as := [x_r 1, iv_c a1]) (rest := []) (lo1 := [x_r 1, iv_c a1]) (by decide +kernel) (by decide) (by decide +kernel) (x_rb_of (by decide +kernel)) rfl rfl (x_wr (by decide) (x_wi la1 x_wn)) x_wn (by decide) rfl (c75_1 hJ  (by omega) hT) (fun v1 l2 q3 => ?_)
  obtain ⟨b6, c4, c5⟩ := q3
  have b7 := jB (e := 1) 0 hJ rg_1_1_0_1 (by omega) (by omega)
  have b8 := jB (e := 2) 0 hJ rg_1_2_0_1 (by omega) (by omega)
  refine x_ifz (k := 1) (tg := 10) (np := 8) (by decide +kernel) (by decide) l2 (fun q9 => ?_) (fun q10 => ?_)
  · have q9 : v1 ≠ 2147483648 := q9
    have b11 := c4 (by omega)
    refine x_aload (np := 11) (x := 0) (by decide +kernel) rfl (x_nc_le (by decide)) ?_
    refine x_aload (np := 12) (x := 0) (by decide +kernel) rfl (x_nc_le (by decide)) ?_
    refine x_getC (np := 15) (x := 450) (f := 2) (q := (h 1 2)) (by decide +kernel) (by decide) (by decide +kernel) rfl (fun l12 => ?_)
    refine x_const (np := 16) (x := 9223372043297226753) (a := 2147483649) (by decide +kernel) (by decide) (by decide) ?_
    refine x_iadd (np := 17) (x := 0) (v := (1 + (h 1 2))) (by decide +kernel) l12 (by decide) (by omega) (by omega) ?_
    refine x_cV (t := 6) (mj := 80) (n := 2) (rc := 8) (ml := 2) (nr := 0) (np := 20) (as := [x_r 1, iv_c (1 + (h 1 2))]) (rest := []) (lo1 := [x_r 1, iv_c (1 + (h 1 2))]) (by decide +kernel) (by decide) (by decide +kernel) (x_rb_of (by decide +kernel)) rfl rfl (x_wr (by decide) (x_wi (by omega) x_wn)) x_wn (by decide) rfl (c80_1nn hJ  (by omega) hT) (fun h16 q15 => ?_)
    obtain ⟨j17, f18, c21, c22⟩ := q15
    have f23 := Fr.trans hF f18 (by decide)
    have b24 := jB (e := 2) 0 j17 rg_1_2_0_1 (by omega) (by omega)
    refine x_const (np := 21) (x := 9223372043297226753) (a := 2147483649) (by decide +kernel) (by decide) (by decide) ?_
    refine x_retI (np := 22) (x := 0) (by decide +kernel) (by decide) (Or.inr ⟨by decide +kernel, by omega, by omega⟩) ⟨_, rfl, (by decide), ?_⟩
    exact ⟨j17, f23, (by omega), (fun z => by omega), (fun z => by omega), (Tk.mk1 (by omega) (Is.yes c5 (by omega)) c22 (by omega))⟩
  have q10 : ¬ (v1 ≠ 2147483648) := q10
  refine x_const (np := 9) (x := 9223372039002259456) (a := 2147483648) (by decide +kernel) (by decide) (by decide) ?_
  refine x_retI (np := 10) (x := 0) (by decide +kernel) (by decide) (Or.inr ⟨by decide +kernel, by omega, by omega⟩) ⟨_, rfl, (by decide), ?_⟩
  exact ⟨hJ, hF, (by omega), (fun z => by omega), (fun z => by omega), (Tk.mk0 (by omega) (Is.no c5 (by omega)) rfl)⟩
set_option maxHeartbeats 0 in
/-- LentNames$CustomReader.readSum()Z -/
theorem c49_62n {sc : Nat × Nat} {d  : Nat} {h : xh} {tB : Nat → Nat} {tN : Nat} (hJ : J h) (hr0 : (cl9 h) + 5 ≤ (h 1 2)) (hT : Tp tB tN h) : X sc 49 (d + 7) (xI fun r h' => J h' ∧ Fr 161 h h' ∧ (2147483648 ≤ r ∧ r ≤ 2147483649) ∧ (r = 2147483649 → h 1 2 + 1 ≤ h' 1 2) ∧ (r = 2147483649 → cl9 h' + h 1 2 ≤ h' 1 2 + cl9 h) ∧ (∀ l, G tB tN (Kd.seq 0) l (h 1 2) (rs r (h' 1 2)))) 0 0 0 [x_r 62, 147573952589676412928] [] h := by
  have hF := Fr.refl 161 h
  obtain ⟨r1, q2, t3⟩ : ∃ z, (h 62 1) = z + 11 ∧ tw z := by
    rcases hJ.2.2.2.2.2.2.2 with z | z
    · exact ⟨17, by rw [z], Or.inl rfl⟩
    · exact ⟨31, by rw [z], Or.inr rfl⟩
  have b4 := jB (e := 2) 0 hJ (rg_T11_2_0_1 t3) (by omega) (by omega)
  have e5 : cl9 h = (h (r1 + 11) 2) := (congrArg (fun z => h z 2) q2).trans rfl
  have b6 := jB (e := 2) 0 hJ rg_1_2_0_1 (by omega) (by omega)
  refine x_aload (np := 1) (x := 0) (by decide +kernel) rfl (x_nc_le (by decide)) ?_
  refine x_cI (t := 6) (mj := 50) (n := 1) (rc := 4) (ml := 3) (nr := 0) (np := 4) (as := [x_r 62]) (rest := []) (lo1 := [x_r 62, 147573952589676412928, 147573952589676412928]) (by decide +kernel) (by decide) (by decide +kernel) (x_rb_of (by decide +kernel)) rfl rfl (x_wr (by decide) x_wn) x_wn (by decide) rfl (c50_62n hJ  (by omega) hT) (fun v7 h10 l8 q9 => ?_)
  obtain ⟨j11, f12, b13, c14, c15, c16⟩ := q9
  have f17 := Fr.trans hF f12 (by decide)
  have b18 := jB (e := 2) 0 j11 rg_1_2_0_1 (by omega) (by omega)
  have q19 : h10 62 1 = h 62 1 := f12 62 1 (by decide +kernel)
  have b20 := jB (e := 2) 0 j11 (rg_T11_2_0_1 t3) (by omega) (by omega)
  have e21 : cl9 h10 = (h10 (r1 + 11) 2) := (congrArg (fun z => h10 z 2) (q19.trans q2)).trans rfl
  refine x_ifz (k := 1) (tg := 9) (np := 7) (by decide +kernel) (by decide) l8 (fun q22 => ?_) (fun q23 => ?_)
  · have q22 : v7 ≠ 2147483648 := q22
    have b24 := c14 (by omega)
    have b25 := c15 (by omega)
    refine x_const (np := 10) (x := 9223372039002259456) (a := 2147483648) (by decide +kernel) (by decide) (by decide) ?_
    refine x_istore (np := 11) (x := 1) (lo' := [x_r 62, iv_c 2147483648]) (by decide +kernel) (by decide) (Nat.le_of_ble_eq_true rfl) rfl ?_
    have p2043 : ∀ (n : Nat) (v2038 : Nat) (h2040 : xh), 4294967296 - v2038 < n → (2147483648 ≤ v2038 ∧ v2038 ≤ 2147484047) → cl9 h2040 + h 1 2 ≤ h2040 1 2 + cl9 h → h 1 2 + 1 ≤ h2040 1 2 → v2038 ≤ h2040 1 2 → J h2040 → Fr 161 h10 h2040 → (∀ l, Res tB tN (Kd.lp 0) l (h2040 1 2) (Kd.seq 0) l (h 1 2)) → X sc 49 (d + 7) (xI fun r h' => J h' ∧ Fr 161 h h' ∧ (2147483648 ≤ r ∧ r ≤ 2147483649) ∧ (r = 2147483649 → h 1 2 + 1 ≤ h' 1 2) ∧ (r = 2147483649 → cl9 h' + h 1 2 ≤ h' 1 2 + cl9 h) ∧ (∀ l, G tB tN (Kd.seq 0) l (h 1 2) (rs r (h' 1 2)))) 0 0 11 [x_r 62, iv_c v2038] [] h2040 := by
      intro n
      induction n with
      | zero => intro v2038 h2040 q2048; exact absurd q2048 (Nat.not_lt_zero _)
      | succ n i2049 =>
        intro v2038 h2040 q2048 b2039 b2044 b2045 b2046 j2042 f2041 m2047
        have f2050 := Fr.trans f17 f2041 (by decide)
        have b2051 := jB (e := 2) 0 j2042 rg_1_2_0_1 (by omega) (by omega)
        have q2052 : h2040 62 1 = h10 62 1 := f2041 62 1 (by decide +kernel)
        have q2053 : h10 62 1 = h 62 1 := f12 62 1 (by decide +kernel)
        have b2054 := jB (e := 2) 0 j2042 (rg_T11_2_0_1 t3) (by omega) (by omega)
        have e2055 : cl9 h2040 = (h2040 (r1 + 11) 2) := (congrArg (fun z => h2040 z 2) ((q2052.trans q2053).trans q2)).trans rfl
        refine x_iload (np := 12) (x := 1) (by decide +kernel) rfl (by omega) ?_
        refine x_const (np := 15) (x := 9223373756989178256) (a := 2147484048) (by decide +kernel) (by decide) (by decide) ?_
        refine x_icmp (k := 3) (tg := 58) (np := 18) (by decide +kernel) (by decide) (by omega) (by decide) (fun q2056 => ?_) (fun q2057 => ?_)
        · have q2056 : 2147484048 ≤ v2038 := q2056
          exfalso; omega
        have q2057 : ¬ (2147484048 ≤ v2038) := q2057
        refine x_aload (np := 19) (x := 0) (by decide +kernel) rfl (x_nc_le (by decide)) ?_
        have q2058 : h2040 62 0 = 1 := by have z := jB (e := 0) 0 j2042 rg_62_0_0_1 (by decide) (by decide); omega
        refine x_getR (np := 22) (x := 192) (f := 0) (q := 1) (by decide +kernel) (by decide) (by decide +kernel) q2058 ?_
        refine x_const (np := 24) (x := 9223372223685853227) (a := 2147483691) (by decide +kernel) (by decide) (by decide) ?_
        have m2063 := Tp.fr hT f12 (by decide) (by decide)
        have m2062 := Tp.fr m2063 f2041 (by decide) (by decide)
        refine x_cI (t := 6) (mj := 76) (n := 2) (rc := 8) (ml := 2) (nr := 0) (np := 27) (as := [x_r 1, iv_c 2147483691]) (rest := []) (lo1 := [x_r 1, iv_c 2147483691]) (by decide +kernel) (by decide) (by decide +kernel) (x_rb_of (by decide +kernel)) rfl rfl (x_wr (by decide) (x_wi (by decide) x_wn)) x_wn (by decide) rfl (c76_1 j2042  (by omega) m2062) (fun v2059 h2064 l2060 q2061 => ?_)
        obtain ⟨j2065, f2066, b2067, c2068, c2069, c2070⟩ := q2061
        have f2071 := Fr.trans f2050 f2066 (by decide)
        have f2072 := Fr.trans f2041 f2066 (by decide)
        have b2073 := jB (e := 2) 0 j2065 rg_1_2_0_1 (by omega) (by omega)
        refine x_ifz (k := 0) (tg := 58) (np := 30) (by decide +kernel) (by decide) l2060 (fun q2074 => ?_) (fun q2075 => ?_)
        · have q2074 : v2059 = 2147483648 := q2074
          have b2076 := c2069 (by omega)
          refine x_const (np := 59) (x := 9223372043297226753) (a := 2147483649) (by decide +kernel) (by decide) (by decide) ?_
          have q2077 : h2064 62 1 = h2040 62 1 := f2066 62 1 (by decide +kernel)
          have q2078 : h2040 62 1 = h10 62 1 := f2041 62 1 (by decide +kernel)
          have q2079 : h10 62 1 = h 62 1 := f12 62 1 (by decide +kernel)
          have q2080 : h2064 (r1 + 11) 2 = h2040 (r1 + 11) 2 := jK 0 f2066 (rg_T11_2_0_1 t3) (by omega) (by omega) (by decide)
          have e2081 : cl9 h2064 = (h2040 (r1 + 11) 2) := (congrArg (fun z => h2064 z 2) (((q2077.trans q2078).trans q2079).trans q2)).trans q2080
          obtain ⟨w2082, e2083⟩ := Tk.no c2070 (by omega)
          refine x_retI (np := 60) (x := 0) (by decide +kernel) (by decide) (Or.inr ⟨by decide +kernel, by omega, by omega⟩) ⟨_, rfl, (by decide), ?_⟩
          exact ⟨j2065, f2071, (by omega), (fun z => by omega), (fun z => by omega), (fun l => gQ_e (t := 0) (m2047 l) w2082 rfl (by omega) (show h2040 1 2 = h2064 1 2 by omega))⟩
        have q2075 : ¬ (v2059 = 2147483648) := q2075
        have b2084 := c2068 (by omega)
        refine x_aload (np := 31) (x := 0) (by decide +kernel) rfl (x_nc_le (by decide)) ?_
        have q2085 : h2064 62 1 = h2040 62 1 := f2066 62 1 (by decide +kernel)
        have q2086 : h2040 62 1 = h10 62 1 := f2041 62 1 (by decide +kernel)
        have q2087 : h10 62 1 = h 62 1 := f12 62 1 (by decide +kernel)
        have q2088 : h2064 (r1 + 11) 2 = h2040 (r1 + 11) 2 := jK 0 f2066 (rg_T11_2_0_1 t3) (by omega) (by omega) (by decide)
        have e2089 : cl9 h2064 = (h2040 (r1 + 11) 2) := (congrArg (fun z => h2064 z 2) (((q2085.trans q2086).trans q2087).trans q2)).trans q2088
        have m2093 := Tp.fr m2062 f2066 (by decide) (by decide)
        refine x_cI (t := 6) (mj := 50) (n := 1) (rc := 4) (ml := 3) (nr := 0) (np := 34) (as := [x_r 62]) (rest := []) (lo1 := [x_r 62, 147573952589676412928, 147573952589676412928]) (by decide +kernel) (by decide) (by decide +kernel) (x_rb_of (by decide +kernel)) rfl rfl (x_wr (by decide) x_wn) x_wn (by decide) rfl (c50_62n j2065  (by omega) m2093) (fun v2090 h2094 l2091 q2092 => ?_)
        obtain ⟨j2095, f2096, b2097, c2098, c2099, c2100⟩ := q2092
        have f2101 := Fr.trans f2071 f2096 (by decide)
        have f2102 := Fr.trans f2072 f2096 (by decide)
        have b2103 := jB (e := 2) 0 j2095 rg_1_2_0_1 (by omega) (by omega)
        have q2104 : h2064 62 1 = h2040 62 1 := f2066 62 1 (by decide +kernel)
        have q2105 : h2040 62 1 = h10 62 1 := f2041 62 1 (by decide +kernel)
        have q2106 : h10 62 1 = h 62 1 := f12 62 1 (by decide +kernel)
        have q2107 : h2064 (r1 + 11) 2 = h2040 (r1 + 11) 2 := jK 0 f2066 (rg_T11_2_0_1 t3) (by omega) (by omega) (by decide)
        have q2108 : h2094 62 1 = h2064 62 1 := f2096 62 1 (by decide +kernel)
        have q2109 : h2064 62 1 = h2040 62 1 := f2066 62 1 (by decide +kernel)
        have q2110 : h2040 62 1 = h10 62 1 := f2041 62 1 (by decide +kernel)
        have q2111 : h10 62 1 = h 62 1 := f12 62 1 (by decide +kernel)
        have b2112 := jB (e := 2) 0 j2095 (rg_T11_2_0_1 t3) (by omega) (by omega)
        have e2113 : cl9 h2094 = (h2094 (r1 + 11) 2) := (congrArg (fun z => h2094 z 2) ((((q2108.trans q2109).trans q2110).trans q2111).trans q2)).trans rfl
        refine x_ifz (k := 0) (tg := 50) (np := 37) (by decide +kernel) (by decide) l2091 (fun q2114 => ?_) (fun q2115 => ?_)
        · have q2114 : v2090 = 2147483648 := q2114
          refine x_const (np := 51) (x := 9223372039002259456) (a := 2147483648) (by decide +kernel) (by decide) (by decide) ?_
          have q2116 : h2094 62 1 = h2064 62 1 := f2096 62 1 (by decide +kernel)
          have q2117 : h2064 62 1 = h2040 62 1 := f2066 62 1 (by decide +kernel)
          have q2118 : h2040 62 1 = h10 62 1 := f2041 62 1 (by decide +kernel)
          have q2119 : h10 62 1 = h 62 1 := f12 62 1 (by decide +kernel)
          obtain ⟨w2120, e2121⟩ := Tk.yes c2070 (by omega)
          refine x_retI (np := 52) (x := 0) (by decide +kernel) (by decide) (Or.inr ⟨by decide +kernel, by omega, by omega⟩) ⟨_, rfl, (by decide), ?_⟩
          exact ⟨j2095, f2101, (by omega), (fun z => by omega), (fun z => by omega), (fun l => gQ_f (t := 0) (m2047 l) w2120 rfl e2121 (c2100 l) rfl (by omega) (by omega))⟩
        have q2115 : ¬ (v2090 = 2147483648) := q2115
        have b2122 := c2098 (by omega)
        have b2123 := c2099 (by omega)
        refine x_aload (np := 38) (x := 0) (by decide +kernel) rfl (x_nc_le (by decide)) ?_
        have q2124 : h2094 62 1 = h2064 62 1 := f2096 62 1 (by decide +kernel)
        have q2125 : h2064 62 1 = h2040 62 1 := f2066 62 1 (by decide +kernel)
        have q2126 : h2040 62 1 = h10 62 1 := f2041 62 1 (by decide +kernel)
        have q2127 : h10 62 1 = h 62 1 := f12 62 1 (by decide +kernel)
        refine x_getR (np := 41) (x := 193) (f := 1) (q := (r1 + 11)) (by decide +kernel) (by decide) (by decide +kernel) ((((q2124.trans q2125).trans q2126).trans q2127).trans q2) ?_
        refine x_const (np := 44) (x := 9223380628936853456) (a := 2147485648) (by decide +kernel) (by decide) (by decide) ?_
        refine x_nI (t := 6) (mj := 36) (n := 2) (rc := 3) (ml := 2) (nr := 0) (np := 47) (as := [x_r (r1 + 11), iv_c 2147485648]) (rest := []) (lo1 := [x_r (r1 + 11), iv_c 2147485648]) (by decide +kernel) (by decide) (by decide +kernel) (x_rb_of (tr_11_3 t3)) rfl rfl (x_wr (tn_11 t3) (x_wi (by decide) x_wn)) x_wn (by decide) rfl ?_
        refine x_aload (np := 1) (x := 0) (by decide +kernel) rfl (x_nc_le (tn_11 t3)) ?_
        refine x_getC (np := 4) (x := 130) (f := 2) (q := (h2094 (r1 + 11) 2)) (by decide +kernel) (by decide) (tg_11_130_2_0 t3) rfl (fun l2128 => ?_)
        refine x_const (np := 7) (x := 9223373756989178256) (a := 2147484048) (by decide +kernel) (by decide) (by decide) ?_
        refine x_icmp (k := 2) (tg := 12) (np := 10) (by decide +kernel) (by decide) l2128 (by decide) (fun q2129 => ?_) (fun q2130 => ?_)
        · have q2129 : (h2094 (r1 + 11) 2) < 2147484048 := q2129
          refine x_aload (np := 13) (x := 0) (by decide +kernel) rfl (x_nc_le (tn_11 t3)) ?_
          have q2131 : h2094 (r1 + 11) 0 = (r1 + 12) := tf_11_0 j2095 t3
          refine x_getR (np := 16) (x := 128) (f := 0) (q := (r1 + 12)) (by decide +kernel) (by decide) (tg_11_128_0_1 t3) q2131 ?_
          refine x_aload (np := 17) (x := 0) (by decide +kernel) rfl (x_nc_le (tn_11 t3)) ?_
          refine x_getC (np := 20) (x := 130) (f := 2) (q := (h2094 (r1 + 11) 2)) (by decide +kernel) (by decide) (tg_11_130_2_0 t3) rfl (fun l2132 => ?_)
          refine x_iload (np := 21) (x := 1) (by decide +kernel) rfl (by decide) ?_
          obtain ⟨u2133, q2134⟩ : ∃ z, (h2094 (r1 + 11) 2) = 2147483648 + z := ⟨(h2094 (r1 + 11) 2) - 2147483648, by omega⟩
          refine x_ast (np := 22) (x := 0) (kd := 1) (n := 400) (i := u2133) (by decide +kernel) (Or.inl rfl) (ta_12_400 t3) (by omega) (by omega) (by decide) (by decide) (fun z => absurd z (by decide)) ?_
          have j2136 := jU (e := u2133) (v := 2147485648) u2133 j2095 (rg_T12_0_1_400 t3) (by omega) (by omega) (by omega)
          have f2138 := jF (e := u2133) (v := 2147485648) u2133 f2101 (rg_T12_0_1_400 t3) (by omega) (by omega) (by decide)
          have f2139 := jF (e := u2133) (v := 2147485648) u2133 f2102 (rg_T12_0_1_400 t3) (by omega) (by omega) (by decide)
          generalize e2137 : x_up h2094 (r1 + 12) u2133 2147485648 = h2135 at j2136 f2138 f2139 ⊢
          refine x_aload (np := 23) (x := 0) (by decide +kernel) rfl (x_nc_le (tn_11 t3)) ?_
          refine x_dup (np := 24) (x := 0) (by decide +kernel) (by have z := x_nc_le (k := (r1 + 11)) (tn_11 t3); unfold x_r; omega) ?_
          have q2140 : h2135 (r1 + 11) 2 = h2094 (r1 + 11) 2 := by rw [← e2137]; exact x_up_k tof_11_12
          refine x_getC (np := 27) (x := 130) (f := 2) (q := (h2094 (r1 + 11) 2)) (by decide +kernel) (by decide) (tg_11_130_2_0 t3) q2140 (fun l2141 => ?_)
          refine x_const (np := 28) (x := 9223372043297226753) (a := 2147483649) (by decide +kernel) (by decide) (by decide) ?_
          refine x_iadd (np := 29) (x := 0) (v := (1 + (h2094 (r1 + 11) 2))) (by decide +kernel) l2128 (by decide) (by omega) (by omega) ?_
          refine x_putI (np := 32) (x := 130) (f := 2) (by decide +kernel) (tg_11_130_2_0 t3) (by omega) (Or.inl (by decide)) ?_
          have j2143 := jU (e := 2) (v := (1 + (h2094 (r1 + 11) 2))) 0 j2136 (rg_T11_2_0_1 t3) (by omega) (by omega) (by omega)
          have f2145 := jF (e := 2) (v := (1 + (h2094 (r1 + 11) 2))) 0 f2138 (rg_T11_2_0_1 t3) (by omega) (by omega) (by decide)
          have f2146 := jF (e := 2) (v := (1 + (h2094 (r1 + 11) 2))) 0 f2139 (rg_T11_2_0_1 t3) (by omega) (by omega) (by decide)
          generalize e2144 : x_up h2135 (r1 + 11) 2 (1 + (h2094 (r1 + 11) 2)) = h2142 at j2143 f2145 f2146 ⊢
          refine x_const (np := 33) (x := 9223372043297226753) (a := 2147483649) (by decide +kernel) (by decide) (by decide) ?_
          refine x_retI (np := 34) (x := 0) (by decide +kernel) (by decide) (Or.inr ⟨by decide +kernel, by omega, by omega⟩) ⟨_, rfl, (by decide), ?_⟩
          refine x_ifz (k := 1) (tg := 52) (np := 50) (by decide +kernel) (by decide) (by decide) (fun q2147 => ?_) (fun q2148 => ?_)
          · have q2147 : 2147483649 ≠ 2147483648 := q2147
            refine x_iinc (np := 55) (i := 1) (j := 2147483649) (v := (1 + v2038)) (lo' := [x_r 62, iv_c (1 + v2038)]) (by decide +kernel) (by decide) (by decide) rfl (by omega) (by omega) (by omega) rfl ?_
            refine x_goto (np := 58) (x := 11) (by decide +kernel) ?_
            have q2149 : h2142 1 2 = h2135 1 2 := by rw [← e2144]; exact x_up_k (Ne.symm (tne_11_1 t3))
            have q2150 : h2135 1 2 = h2094 1 2 := by rw [← e2137]; exact x_up_k (Ne.symm (tne_12_1 t3))
            have q2151 : h2142 62 1 = h2135 62 1 := by rw [← e2144]; exact x_up_k (Ne.symm (tne_11_62 t3))
            have q2152 : h2135 62 1 = h2094 62 1 := by rw [← e2137]; exact x_up_k (Ne.symm (tne_12_62 t3))
            have q2153 : h2094 62 1 = h2064 62 1 := f2096 62 1 (by decide +kernel)
            have q2154 : h2064 62 1 = h2040 62 1 := f2066 62 1 (by decide +kernel)
            have q2155 : h2040 62 1 = h10 62 1 := f2041 62 1 (by decide +kernel)
            have q2156 : h10 62 1 = h 62 1 := f12 62 1 (by decide +kernel)
            have q2157 : h2142 (r1 + 11) 2 = (1 + (h2094 (r1 + 11) 2)) := by rw [← e2144]; exact x_up_at
            have e2158 : cl9 h2142 = (1 + (h2094 (r1 + 11) 2)) := (congrArg (fun z => h2142 z 2) ((((((q2151.trans q2152).trans q2153).trans q2154).trans q2155).trans q2156).trans q2)).trans q2157
            obtain ⟨w2159, e2160⟩ := Tk.yes c2070 (by omega)
            have q2161 : h2142 1 2 = h2135 1 2 := by rw [← e2144]; exact x_up_k (Ne.symm (tne_11_1 t3))
            have q2162 : h2135 1 2 = h2094 1 2 := by rw [← e2137]; exact x_up_k (Ne.symm (tne_12_1 t3))
            exact i2049 (1 + v2038) h2142 (by omega) (by omega) (by omega) (by omega) (by omega) j2143 f2146 (fun l => gQ_st (t := 0) (m2047 l) w2159 rfl e2160 (c2100 l) rfl (by omega) (show h2094 1 2 = h2142 1 2 by omega))
          have q2148 : ¬ (2147483649 ≠ 2147483648) := q2148
          exfalso; omega
        have q2130 : ¬ ((h2094 (r1 + 11) 2) < 2147484048) := q2130
        refine x_const (np := 11) (x := 9223372039002259456) (a := 2147483648) (by decide +kernel) (by decide) (by decide) ?_
        refine x_retI (np := 12) (x := 0) (by decide +kernel) (by decide) (Or.inr ⟨by decide +kernel, by omega, by omega⟩) ⟨_, rfl, (by decide), ?_⟩
        refine x_ifz (k := 1) (tg := 52) (np := 50) (by decide +kernel) (by decide) (by decide) (fun q2163 => ?_) (fun q2164 => ?_)
        · have q2163 : 2147483648 ≠ 2147483648 := q2163
          exfalso; omega
        have q2164 : ¬ (2147483648 ≠ 2147483648) := q2164
        refine x_const (np := 51) (x := 9223372039002259456) (a := 2147483648) (by decide +kernel) (by decide) (by decide) ?_
        have q2165 : h2094 62 1 = h2064 62 1 := f2096 62 1 (by decide +kernel)
        have q2166 : h2064 62 1 = h2040 62 1 := f2066 62 1 (by decide +kernel)
        have q2167 : h2040 62 1 = h10 62 1 := f2041 62 1 (by decide +kernel)
        have q2168 : h10 62 1 = h 62 1 := f12 62 1 (by decide +kernel)
        obtain ⟨w2169, e2170⟩ := Tk.yes c2070 (by omega)
        refine x_retI (np := 52) (x := 0) (by decide +kernel) (by decide) (Or.inr ⟨by decide +kernel, by omega, by omega⟩) ⟨_, rfl, (by decide), ?_⟩
        exact ⟨j2095, f2101, (by omega), (fun z => by omega), (fun z => by omega), (fun l => gQ_f (t := 0) (m2047 l) w2169 rfl e2170 (c2100 l) rfl (by omega) (by omega))⟩
    have q2171 : h10 62 1 = h 62 1 := f12 62 1 (by decide +kernel)
    exact p2043 _ 2147483648 h10 (Nat.lt_succ_self _) (by omega) (by omega) (by omega) (by omega) j11 (Fr.refl _ _) (fun l => gQ_in (t := 0) (c16 l) rfl (by omega) rfl)
  have q23 : ¬ (v7 ≠ 2147483648) := q23
  refine x_const (np := 8) (x := 9223372039002259456) (a := 2147483648) (by decide +kernel) (by decide) (by decide) ?_
  have q2172 : h10 62 1 = h 62 1 := f12 62 1 (by decide +kernel)
  refine x_retI (np := 9) (x := 0) (by decide +kernel) (by decide) (Or.inr ⟨by decide +kernel, by omega, by omega⟩) ⟨_, rfl, (by decide), ?_⟩
  exact ⟨j11, f17, (by omega), (fun z => by omega), (fun z => by omega), (fun l => gQ_no (t := 0) (c16 l) rfl (by omega) (by omega))⟩
