/-! ===== methods ===== -/
set_option maxHeartbeats 0 in
/-- LentNames$Table.put(III)V -/
theorem c69_T3_c2 {sc : Nat × Nat} {d ra0 a1 a3 : Nat} {h : xh} (hJ : J h) (ta0 : tw ra0) (ba1 : 2147483647 ≤ a1 ∧ a1 ≤ 2147483657) (ba3 : 0 ≤ a3 ∧ a3 ≤ 2147483659) : X sc 69 d (xV fun h' => J h' ∧ Fr 129 h h') 0 0 0 [x_r (ra0 + 3), iv_c a1, iv_c 2147483650, iv_c a3, 147573952589676412928] [] h := by
  have la1 : a1 < 4294967296 := by omega
  have la3 : a3 < 4294967296 := by omega
  have hF := Fr.refl 129 h
  refine x_iload (np := 1) (x := 1) (by decide +kernel) rfl la1 ?_
  refine x_ifz (k := 2) (tg := 28) (np := 4) (by decide +kernel) (by decide) la1 (fun q1 => ?_) (fun q2 => ?_)
  · have q1 : a1 < 2147483648 := q1
    refine x_const (np := 29) (x := 9223372039002259456) (a := 2147483648) (by decide +kernel) (by decide) (by decide) ?_
    refine x_istore (np := 31) (x := 4) (lo' := [x_r (ra0 + 3), iv_c a1, iv_c 2147483650, iv_c a3, iv_c 2147483648]) (by decide +kernel) (by decide) (Nat.le_of_ble_eq_true rfl) rfl ?_
    refine x_iload (np := 33) (x := 4) (by decide +kernel) rfl (by decide) ?_
    refine x_ifz (k := 0) (tg := 50) (np := 36) (by decide +kernel) (by decide) (by decide) (fun q3 => ?_) (fun q4 => ?_)
    · have q3 : 2147483648 = 2147483648 := q3
      refine x_retV (np := 51) (x := 0) (by decide +kernel) (by decide +kernel) ⟨rfl, ?_⟩
      exact ⟨hJ, hF⟩
    have q4 : ¬ (2147483648 = 2147483648) := q4
    exfalso; omega
  have q2 : ¬ (a1 < 2147483648) := q2
  refine x_iload (np := 5) (x := 1) (by decide +kernel) rfl la1 ?_
  refine x_aload (np := 6) (x := 0) (by decide +kernel) rfl (x_nc_le (tn_3 ta0)) ?_
  have b5 := jB (e := 2) 0 hJ (rg_T3_2_0_1 ta0) (by omega) (by omega)
  refine x_getC (np := 9) (x := 386) (f := 2) (q := (h (ra0 + 3) 2)) (by decide +kernel) (by decide) (tg_3_386_2_0 ta0) rfl (fun l6 => ?_)
  refine x_icmp (k := 3) (tg := 28) (np := 12) (by decide +kernel) (by decide) la1 l6 (fun q7 => ?_) (fun q8 => ?_)
  · have q7 : (h (ra0 + 3) 2) ≤ a1 := q7
    refine x_const (np := 29) (x := 9223372039002259456) (a := 2147483648) (by decide +kernel) (by decide) (by decide) ?_
    refine x_istore (np := 31) (x := 4) (lo' := [x_r (ra0 + 3), iv_c a1, iv_c 2147483650, iv_c a3, iv_c 2147483648]) (by decide +kernel) (by decide) (Nat.le_of_ble_eq_true rfl) rfl ?_
    refine x_iload (np := 33) (x := 4) (by decide +kernel) rfl (by decide) ?_
    refine x_ifz (k := 0) (tg := 50) (np := 36) (by decide +kernel) (by decide) (by decide) (fun q9 => ?_) (fun q10 => ?_)
    · have q9 : 2147483648 = 2147483648 := q9
      refine x_retV (np := 51) (x := 0) (by decide +kernel) (by decide +kernel) ⟨rfl, ?_⟩
      exact ⟨hJ, hF⟩
    have q10 : ¬ (2147483648 = 2147483648) := q10
    exfalso; omega
  have q8 : ¬ ((h (ra0 + 3) 2) ≤ a1) := q8
  refine x_iload (np := 13) (x := 2) (by decide +kernel) rfl (by decide) ?_
  refine x_ifz (k := 2) (tg := 28) (np := 16) (by decide +kernel) (by decide) (by decide) (fun q11 => ?_) (fun q12 => ?_)
  · have q11 : 2147483650 < 2147483648 := q11
    exfalso; omega
  have q12 : ¬ (2147483650 < 2147483648) := q12
  refine x_iload (np := 17) (x := 2) (by decide +kernel) rfl (by decide) ?_
  refine x_aload (np := 18) (x := 0) (by decide +kernel) rfl (x_nc_le (tn_3 ta0)) ?_
  have b13 := jB (e := 0) 0 hJ (rg_T3_0_0_1 ta0) (by omega) (by omega)
  have q14 : (h (ra0 + 3) 0) = 2147483652 := by omega
  refine x_getC (np := 21) (x := 384) (f := 0) (q := 2147483652) (by decide +kernel) (by decide) (tg_3_384_0_0 ta0) q14 (fun l15 => ?_)
  refine x_icmp (k := 3) (tg := 28) (np := 24) (by decide +kernel) (by decide) (by decide) (by decide) (fun q16 => ?_) (fun q17 => ?_)
  · have q16 : 2147483652 ≤ 2147483650 := q16
    exfalso; omega
  have q17 : ¬ (2147483652 ≤ 2147483650) := q17
  refine x_const (np := 25) (x := 9223372043297226753) (a := 2147483649) (by decide +kernel) (by decide) (by decide) ?_
  refine x_goto (np := 28) (x := 29) (by decide +kernel) ?_
  refine x_istore (np := 31) (x := 4) (lo' := [x_r (ra0 + 3), iv_c a1, iv_c 2147483650, iv_c a3, iv_c 2147483649]) (by decide +kernel) (by decide) (Nat.le_of_ble_eq_true rfl) rfl ?_
  refine x_iload (np := 33) (x := 4) (by decide +kernel) rfl (by decide) ?_
  refine x_ifz (k := 0) (tg := 50) (np := 36) (by decide +kernel) (by decide) (by decide) (fun q18 => ?_) (fun q19 => ?_)
  · have q18 : 2147483649 = 2147483648 := q18
    exfalso; omega
  have q19 : ¬ (2147483649 = 2147483648) := q19
  refine x_aload (np := 37) (x := 0) (by decide +kernel) rfl (x_nc_le (tn_3 ta0)) ?_
  have q20 : h (ra0 + 3) 1 = (ra0 + 4) := tf_3_1 hJ ta0
  refine x_getR (np := 40) (x := 385) (f := 1) (q := (ra0 + 4)) (by decide +kernel) (by decide) (tg_3_385_1_1 ta0) q20 ?_
  refine x_iload (np := 41) (x := 1) (by decide +kernel) rfl la1 ?_
  refine x_aload (np := 42) (x := 0) (by decide +kernel) rfl (x_nc_le (tn_3 ta0)) ?_
  refine x_getC (np := 45) (x := 384) (f := 0) (q := 2147483652) (by decide +kernel) (by decide) (tg_3_384_0_0 ta0) q14 (fun l21 => ?_)
  obtain ⟨u22, q23⟩ : ∃ z, a1 = 2147483648 + z := ⟨a1 - 2147483648, by omega⟩
  refine x_imul (np := 46) (x := 0) (i := u22) (j := 4) (v := (2147483648 + 4 * u22)) (by decide +kernel) (by omega) (by omega) (by omega) (by omega) la1 (by decide) ?_
  refine x_iload (np := 47) (x := 2) (by decide +kernel) rfl (by decide) ?_
  refine x_iadd (np := 48) (x := 0) (v := (2147483650 + 4 * u22)) (by decide +kernel) (by omega) (by decide) (by omega) (by omega) ?_
  refine x_iload (np := 49) (x := 3) (by decide +kernel) rfl la3 ?_
  refine x_ast (np := 50) (x := 0) (kd := 1) (n := 40) (i := (2 + 4 * u22)) (by decide +kernel) (Or.inl rfl) (ta_4_40 ta0) (by omega) (by omega) (by decide) la3 (fun z => absurd z (by decide)) ?_
  have j26 := jU (e := (2 + 4 * u22)) (v := a3) u22 hJ (rg_T4_2_4_10 ta0) (by omega) (by omega) (by omega)
  have f28 := jF (e := (2 + 4 * u22)) (v := a3) u22 hF (rg_T4_2_4_10 ta0) (by omega) (by omega) (by decide)
  generalize e27 : x_up h (ra0 + 4) (2 + 4 * u22) a3 = h25 at j26 f28 ⊢
  refine x_retV (np := 51) (x := 0) (by decide +kernel) (by decide +kernel) ⟨rfl, ?_⟩
  exact ⟨j26, f28⟩
set_option maxHeartbeats 0 in
/-- LentNames$TownReader.readInto(LLentNames$Table;IIII)Z -/
theorem c102_61_T3_c2 {sc : Nat × Nat} {d ra1 a2 a4 a5 : Nat} {h : xh} (hJ : J h) (ta1 : tw ra1) (ba2 : 2147483647 ≤ a2 ∧ a2 ≤ 2147483657) (ba4 : 0 ≤ a4 ∧ a4 ≤ 4294967295) (ba5 : 2147483659 ≤ a5 ∧ a5 ≤ 2147483659) : X sc 102 (d + 2) (xI fun r h' => J h' ∧ Fr 161 h h' ∧ (2147483648 ≤ r ∧ r ≤ 2147483649)) 0 0 0 [x_r 61, x_r (ra1 + 3), iv_c a2, iv_c 2147483650, iv_c a4, iv_c a5, 147573952589676412928] [] h := by
  have la2 : a2 < 4294967296 := by omega
  have la4 : a4 < 4294967296 := by omega
  have la5 : a5 < 4294967296 := by omega
  have hF := Fr.refl 161 h
  refine x_aload (np := 1) (x := 0) (by decide +kernel) rfl (x_nc_le (by decide)) ?_
  have q1 : h 61 0 = 1 := by have z := jB (e := 0) 0 hJ rg_61_0_0_1 (by decide) (by decide); omega
  refine x_getR (np := 4) (x := 576) (f := 0) (q := 1) (by decide +kernel) (by decide) (by decide +kernel) q1 ?_
  refine x_iload (np := 6) (x := 4) (by decide +kernel) rfl la4 ?_
  refine x_iload (np := 8) (x := 5) (by decide +kernel) rfl la5 ?_
  refine x_cI (t := 6) (mj := 79) (n := 3) (rc := 8) (ml := 5) (nr := 0) (np := 11) (as := [x_r 1, iv_c a4, iv_c a5]) (rest := []) (lo1 := [x_r 1, iv_c a4, iv_c a5, 147573952589676412928, 147573952589676412928]) (by decide +kernel) (by decide) (by decide +kernel) (x_rb_of (by decide +kernel)) rfl rfl (x_wr (by decide) (x_wi la4 (x_wi la5 x_wn))) x_wn (by decide) rfl (c79_1 hJ  (by omega) (by omega)) (fun v2 h5 l3 q4 => ?_)
  obtain ⟨j6, f7, b8, c9⟩ := q4
  have f10 := Fr.trans hF f7 (by decide)
  refine x_istore (np := 13) (x := 6) (lo' := [x_r 61, x_r (ra1 + 3), iv_c a2, iv_c 2147483650, iv_c a4, iv_c a5, iv_c v2]) (by decide +kernel) l3 (Nat.le_of_ble_eq_true rfl) rfl ?_
  refine x_iload (np := 15) (x := 6) (by decide +kernel) rfl l3 ?_
  refine x_const (np := 16) (x := 9223372034707292159) (a := 2147483647) (by decide +kernel) (by decide) (by decide) ?_
  refine x_icmp (k := 1) (tg := 21) (np := 19) (by decide +kernel) (by decide) l3 (by decide) (fun q11 => ?_) (fun q12 => ?_)
  · have q11 : v2 ≠ 2147483647 := q11
    refine x_aload (np := 22) (x := 1) (by decide +kernel) rfl (x_nc_le (tn_3 ta1)) ?_
    refine x_iload (np := 23) (x := 2) (by decide +kernel) rfl la2 ?_
    refine x_iload (np := 24) (x := 3) (by decide +kernel) rfl (by decide) ?_
    refine x_iload (np := 26) (x := 6) (by decide +kernel) rfl l3 ?_
    refine x_cV (t := 6) (mj := 69) (n := 4) (rc := 7) (ml := 5) (nr := 0) (np := 29) (as := [x_r (ra1 + 3), iv_c a2, iv_c 2147483650, iv_c v2]) (rest := []) (lo1 := [x_r (ra1 + 3), iv_c a2, iv_c 2147483650, iv_c v2, 147573952589676412928]) (by decide +kernel) (by decide) (by decide +kernel) (x_rb_of (tr_3_7 ta1)) rfl rfl (x_wr (tn_3 ta1) (x_wi la2 (x_wi (by decide) (x_wi l3 x_wn)))) x_wn (by decide) rfl (c69_T3_c2 j6 ta1 (by omega)  (by omega)) (fun h16 q15 => ?_)
    obtain ⟨j17, f18⟩ := q15
    have f21 := Fr.trans f10 f18 (by decide)
    refine x_const (np := 30) (x := 9223372043297226753) (a := 2147483649) (by decide +kernel) (by decide) (by decide) ?_
    refine x_retI (np := 31) (x := 0) (by decide +kernel) (by decide) (Or.inr ⟨by decide +kernel, by omega, by omega⟩) ⟨_, rfl, (by decide), ?_⟩
    exact ⟨j17, f21, (by omega)⟩
  have q12 : ¬ (v2 ≠ 2147483647) := q12
  refine x_const (np := 20) (x := 9223372039002259456) (a := 2147483648) (by decide +kernel) (by decide) (by decide) ?_
  refine x_retI (np := 21) (x := 0) (by decide +kernel) (by decide) (Or.inr ⟨by decide +kernel, by omega, by omega⟩) ⟨_, rfl, (by decide), ?_⟩
  exact ⟨j6, f10, (by omega)⟩
set_option maxHeartbeats 0 in
/-- LentNames$TownReader.readLetter()Z -/
theorem c98_61 {sc : Nat × Nat} {d  : Nat} {h : xh} (hJ : J h) : X sc 98 (d + 6) (xI fun r h' => J h' ∧ Fr 161 h h' ∧ (2147483648 ≤ r ∧ r ≤ 2147483649)) 0 0 0 [x_r 61, 147573952589676412928] [] h := by
  have hF := Fr.refl 161 h
  refine x_aload (np := 1) (x := 0) (by decide +kernel) rfl (x_nc_le (by decide)) ?_
  have t1 : tw (h 61 1) := hJ.2.2.2.2.1
  refine x_getR (np := 4) (x := 577) (f := 1) (q := (h 61 1)) (by decide +kernel) (by decide) (by decide +kernel) rfl ?_
  have q2 : h (h 61 1) 1 = ((h 61 1) + 3) := tf_0_1 hJ t1
  refine x_getR (np := 7) (x := 513) (f := 1) (q := ((h 61 1) + 3)) (by decide +kernel) (by decide) (tg_0_513_1_1 t1) q2 ?_
  refine x_cI (t := 6) (mj := 67) (n := 1) (rc := 7) (ml := 2) (nr := 0) (np := 10) (as := [x_r ((h 61 1) + 3)]) (rest := []) (lo1 := [x_r ((h 61 1) + 3), 147573952589676412928]) (by decide +kernel) (by decide) (by decide +kernel) (x_rb_of (tr_3_7 t1)) rfl rfl (x_wr (tn_3 t1) x_wn) x_wn (by decide) rfl (c67_T3 hJ t1) (fun v3 h6 l4 q5 => ?_)
  obtain ⟨j7, f8, b9⟩ := q5
  have f10 := Fr.trans hF f8 (by decide)
  refine x_istore (np := 11) (x := 1) (lo' := [x_r 61, iv_c v3]) (by decide +kernel) l4 (Nat.le_of_ble_eq_true rfl) rfl ?_
  refine x_aload (np := 12) (x := 0) (by decide +kernel) rfl (x_nc_le (by decide)) ?_
  have q11 : h6 61 1 = h 61 1 := f8 61 1 (by decide +kernel)
  refine x_getR (np := 15) (x := 577) (f := 1) (q := (h 61 1)) (by decide +kernel) (by decide) (by decide +kernel) q11 ?_
  have q12 : h6 (h 61 1) 1 = ((h 61 1) + 3) := tf_0_1 j7 t1
  refine x_getR (np := 18) (x := 513) (f := 1) (q := ((h 61 1) + 3)) (by decide +kernel) (by decide) (tg_0_513_1_1 t1) q12 ?_
  refine x_iload (np := 19) (x := 1) (by decide +kernel) rfl l4 ?_
  refine x_const (np := 20) (x := 9223372051887161347) (a := 2147483651) (by decide +kernel) (by decide) (by decide) ?_
  refine x_const (np := 21) (x := 9223372034707292159) (a := 2147483647) (by decide +kernel) (by decide) (by decide) ?_
  refine x_cV (t := 6) (mj := 69) (n := 4) (rc := 7) (ml := 5) (nr := 0) (np := 24) (as := [x_r ((h 61 1) + 3), iv_c v3, iv_c 2147483651, iv_c 2147483647]) (rest := []) (lo1 := [x_r ((h 61 1) + 3), iv_c v3, iv_c 2147483651, iv_c 2147483647, 147573952589676412928]) (by decide +kernel) (by decide) (by decide +kernel) (x_rb_of (tr_3_7 t1)) rfl rfl (x_wr (tn_3 t1) (x_wi l4 (x_wi (by decide) (x_wi (by decide) x_wn)))) x_wn (by decide) rfl (c69_T3_c3n j7 t1 (by omega)  (by omega)) (fun h16 q15 => ?_)
  obtain ⟨j17, f18⟩ := q15
  have f21 := Fr.trans f10 f18 (by decide)
  refine x_aload (np := 25) (x := 0) (by decide +kernel) rfl (x_nc_le (by decide)) ?_
  refine x_aload (np := 26) (x := 0) (by decide +kernel) rfl (x_nc_le (by decide)) ?_
  have q22 : h16 61 1 = h6 61 1 := f18 61 1 (by decide +kernel)
  have q23 : h6 61 1 = h 61 1 := f8 61 1 (by decide +kernel)
  refine x_getR (np := 29) (x := 577) (f := 1) (q := (h 61 1)) (by decide +kernel) (by decide) (by decide +kernel) (q22.trans q23) ?_
  have q24 : h16 (h 61 1) 1 = ((h 61 1) + 3) := tf_0_1 j17 t1
  refine x_getR (np := 32) (x := 513) (f := 1) (q := ((h 61 1) + 3)) (by decide +kernel) (by decide) (tg_0_513_1_1 t1) q24 ?_
  refine x_iload (np := 33) (x := 1) (by decide +kernel) rfl l4 ?_
  refine x_const (np := 34) (x := 9223372039002259456) (a := 2147483648) (by decide +kernel) (by decide) (by decide) ?_
  refine x_const (np := 35) (x := 9223372039002259456) (a := 2147483648) (by decide +kernel) (by decide) (by decide) ?_
  refine x_aload (np := 36) (x := 0) (by decide +kernel) rfl (x_nc_le (by decide)) ?_
  have q25 : h16 61 1 = h6 61 1 := f18 61 1 (by decide +kernel)
  have q26 : h6 61 1 = h 61 1 := f8 61 1 (by decide +kernel)
  refine x_getR (np := 39) (x := 577) (f := 1) (q := (h 61 1)) (by decide +kernel) (by decide) (by decide +kernel) (q25.trans q26) ?_
  have b27 := jB (e := 7) 0 j17 (rg_T0_7_0_1 t1) (by omega) (by omega)
  refine x_getC (np := 42) (x := 519) (f := 7) (q := (h16 (h 61 1) 7)) (by decide +kernel) (by decide) (tg_0_519_7_0 t1) rfl (fun l28 => ?_)
  refine x_const (np := 43) (x := 9223372043297226753) (a := 2147483649) (by decide +kernel) (by decide) (by decide) ?_
  obtain ⟨v29, q30⟩ : ∃ z, z + 2147483649 = (h16 (h 61 1) 7) + 2147483648 := ⟨(h16 (h 61 1) 7) + 2147483648 - 2147483649, by omega⟩
  refine x_isub (np := 44) (x := 0) (v := v29) (by decide +kernel) l28 (by decide) (by omega) (by omega) ?_
  refine x_cI (t := 6) (mj := 102) (n := 6) (rc := 10) (ml := 7) (nr := 0) (np := 47) (as := [x_r 61, x_r ((h 61 1) + 3), iv_c v3, iv_c 2147483648, iv_c 2147483648, iv_c v29]) (rest := []) (lo1 := [x_r 61, x_r ((h 61 1) + 3), iv_c v3, iv_c 2147483648, iv_c 2147483648, iv_c v29, 147573952589676412928]) (by decide +kernel) (by decide) (by decide +kernel) (x_rb_of (by decide +kernel)) rfl rfl (x_wr (by decide) (x_wr (tn_3 t1) (x_wi l4 (x_wi (by decide) (x_wi (by decide) (x_wi (by omega) x_wn)))))) x_wn (by decide) rfl (c102_61_T3_c0_c0 j17  t1 (by omega)   (by omega)) (fun v31 h34 l32 q33 => ?_)
  obtain ⟨j35, f36, b37⟩ := q33
  have f38 := Fr.trans f21 f36 (by decide)
  refine x_ifz (k := 0) (tg := 127) (np := 50) (by decide +kernel) (by decide) l32 (fun q39 => ?_) (fun q40 => ?_)
  · have q39 : v31 = 2147483648 := q39
    refine x_const (np := 128) (x := 9223372039002259456) (a := 2147483648) (by decide +kernel) (by decide) (by decide) ?_
    refine x_retI (np := 129) (x := 0) (by decide +kernel) (by decide) (Or.inr ⟨by decide +kernel, by omega, by omega⟩) ⟨_, rfl, (by decide), ?_⟩
    exact ⟨j35, f38, (by omega)⟩
  have q40 : ¬ (v31 = 2147483648) := q40
  refine x_aload (np := 51) (x := 0) (by decide +kernel) rfl (x_nc_le (by decide)) ?_
  have q41 : h34 61 0 = 1 := by have z := jB (e := 0) 0 j35 rg_61_0_0_1 (by decide) (by decide); omega
  refine x_getR (np := 54) (x := 576) (f := 0) (q := 1) (by decide +kernel) (by decide) (by decide +kernel) q41 ?_
  refine x_ldcB (i := 2) (idx := 111) (tx := "day") (by rw [tb_y98]; exact List.mem_of_getElem? (i := 2) rfl) (by decide) (by rw [tb_b98]; decide +kernel) ?_
  refine x_nI (t := 6) (mj := 78) (n := 2) (rc := 8) (ml := 2) (nr := 0) (np := 59) (as := [x_r 1, x_b (2 + 1)]) (rest := []) (lo1 := [x_r 1, x_b (2 + 1)]) (by decide +kernel) (by decide) (by decide +kernel) (x_rb_of (by decide +kernel)) rfl rfl (x_wr (by decide) (x_wB (by decide) x_wn)) x_wn (by decide) rfl ?_
  refine x_aload (np := 1) (x := 0) (by decide +kernel) rfl (x_nc_le (by decide)) ?_
  refine x_aloadB (i := 2) (k4 := 1) rfl (by decide) (by rw [tb_b78]; decide +kernel) ?_
  refine x_cP (t := 6) (mj := 77) (n := 2) (rc := 8) (ml := 4) (nr := 0) (np := 5) (as := [x_r 1, x_b (2 + 1)]) (rest := []) (lo1 := [x_r 1, x_b (2 + 1), 147573952589676412928, 147573952589676412928]) (by decide +kernel) (by decide) (by decide +kernel) (x_rb_of (by decide +kernel)) rfl rfl (x_wr (by decide) (x_wB (by decide) x_wn)) x_wn (by decide) rfl (c77_1_S0 j35  (by decide)) (fun v42 l43 q44 => ?_)
  obtain ⟨b46, c45⟩ := q44
  have b47 := jB (e := 2) 0 j35 rg_1_2_0_1 (by omega) (by omega)
  refine x_ifz (k := 1) (tg := 10) (np := 8) (by decide +kernel) (by decide) l43 (fun q48 => ?_) (fun q49 => ?_)
  · have q48 : v42 ≠ 2147483648 := q48
    have b50 := c45 (by omega)
    refine x_aload (np := 11) (x := 0) (by decide +kernel) rfl (x_nc_le (by decide)) ?_
    refine x_aload (np := 12) (x := 0) (by decide +kernel) rfl (x_nc_le (by decide)) ?_
    refine x_getC (np := 15) (x := 450) (f := 2) (q := (h34 1 2)) (by decide +kernel) (by decide) (by decide +kernel) rfl (fun l51 => ?_)
    refine x_aloadB (i := 2) (k4 := 1) rfl (by decide) (by rw [tb_b78]; decide +kernel) ?_
    have b52 := (iv_tl_lt 2 (by decide)).1
    have b53 := iv_tl_ge 2 (by decide)
    refine x_len (by decide +kernel) (by rw [tb_y78]; exact sl_Tl) (by decide) (by rw [tb_b78]; decide +kernel) (Nat.le_trans (x_wi l51 (x_wr (by decide) x_wn)) (by decide)) ?_
    refine x_iadd (np := 20) (x := 0) (v := ((h34 1 2) + (iv_tl 2))) (by decide +kernel) l51 (by omega) (by omega) (by omega) ?_
    refine x_cV (t := 6) (mj := 80) (n := 2) (rc := 8) (ml := 2) (nr := 0) (np := 23) (as := [x_r 1, iv_c ((h34 1 2) + (iv_tl 2))]) (rest := []) (lo1 := [x_r 1, iv_c ((h34 1 2) + (iv_tl 2))]) (by decide +kernel) (by decide) (by decide +kernel) (x_rb_of (by decide +kernel)) rfl rfl (x_wr (by decide) (x_wi (by omega) x_wn)) x_wn (by decide) rfl (c80_1n j35  (by omega)) (fun h57 q56 => ?_)
    obtain ⟨j58, f59⟩ := q56
    have f62 := Fr.trans f38 f59 (by decide)
    refine x_const (np := 24) (x := 9223372043297226753) (a := 2147483649) (by decide +kernel) (by decide) (by decide) ?_
    refine x_retI (np := 25) (x := 0) (by decide +kernel) (by decide) (Or.inr ⟨by decide +kernel, by omega, by omega⟩) ⟨_, rfl, (by decide), ?_⟩
    refine x_ifz (k := 0) (tg := 127) (np := 62) (by decide +kernel) (by decide) (by decide) (fun q63 => ?_) (fun q64 => ?_)
    · have q63 : 2147483649 = 2147483648 := q63
      exfalso; omega
    have q64 : ¬ (2147483649 = 2147483648) := q64
    refine x_aload (np := 63) (x := 0) (by decide +kernel) rfl (x_nc_le (by decide)) ?_
    refine x_aload (np := 64) (x := 0) (by decide +kernel) rfl (x_nc_le (by decide)) ?_
    have q65 : h57 61 1 = h34 61 1 := f59 61 1 (by decide +kernel)
    have q66 : h34 61 1 = h16 61 1 := f36 61 1 (by decide +kernel)
    have q67 : h16 61 1 = h6 61 1 := f18 61 1 (by decide +kernel)
    have q68 : h6 61 1 = h 61 1 := f8 61 1 (by decide +kernel)
    refine x_getR (np := 67) (x := 577) (f := 1) (q := (h 61 1)) (by decide +kernel) (by decide) (by decide +kernel) (((q65.trans q66).trans q67).trans q68) ?_
    have q69 : h57 (h 61 1) 1 = ((h 61 1) + 3) := tf_0_1 j58 t1
    refine x_getR (np := 70) (x := 513) (f := 1) (q := ((h 61 1) + 3)) (by decide +kernel) (by decide) (tg_0_513_1_1 t1) q69 ?_
    refine x_iload (np := 71) (x := 1) (by decide +kernel) rfl l4 ?_
    refine x_const (np := 72) (x := 9223372043297226753) (a := 2147483649) (by decide +kernel) (by decide) (by decide) ?_
    refine x_const (np := 73) (x := 9223372039002259456) (a := 2147483648) (by decide +kernel) (by decide) (by decide) ?_
    refine x_const (np := 75) (x := 9223372086246899723) (a := 2147483659) (by decide +kernel) (by decide) (by decide) ?_
    refine x_cI (t := 6) (mj := 102) (n := 6) (rc := 10) (ml := 7) (nr := 0) (np := 78) (as := [x_r 61, x_r ((h 61 1) + 3), iv_c v3, iv_c 2147483649, iv_c 2147483648, iv_c 2147483659]) (rest := []) (lo1 := [x_r 61, x_r ((h 61 1) + 3), iv_c v3, iv_c 2147483649, iv_c 2147483648, iv_c 2147483659, 147573952589676412928]) (by decide +kernel) (by decide) (by decide +kernel) (x_rb_of (by decide +kernel)) rfl rfl (x_wr (by decide) (x_wr (tn_3 t1) (x_wi l4 (x_wi (by decide) (x_wi (by decide) (x_wi (by decide) x_wn)))))) x_wn (by decide) rfl (c102_61_T3_c1_c0 j58  t1 (by omega)   (by omega)) (fun v70 h73 l71 q72 => ?_)
    obtain ⟨j74, f75, b76⟩ := q72
    have f77 := Fr.trans f62 f75 (by decide)
    refine x_ifz (k := 0) (tg := 127) (np := 81) (by decide +kernel) (by decide) l71 (fun q78 => ?_) (fun q79 => ?_)
    · have q78 : v70 = 2147483648 := q78
      refine x_const (np := 128) (x := 9223372039002259456) (a := 2147483648) (by decide +kernel) (by decide) (by decide) ?_
      refine x_retI (np := 129) (x := 0) (by decide +kernel) (by decide) (Or.inr ⟨by decide +kernel, by omega, by omega⟩) ⟨_, rfl, (by decide), ?_⟩
      exact ⟨j74, f77, (by omega)⟩
    have q79 : ¬ (v70 = 2147483648) := q79
    refine x_aload (np := 82) (x := 0) (by decide +kernel) rfl (x_nc_le (by decide)) ?_
    have q80 : h73 61 0 = 1 := by have z := jB (e := 0) 0 j74 rg_61_0_0_1 (by decide) (by decide); omega
    refine x_getR (np := 85) (x := 576) (f := 0) (q := 1) (by decide +kernel) (by decide) (by decide +kernel) q80 ?_
    refine x_ldcB (i := 7) (idx := 144) (tx := "read") (by rw [tb_y98]; exact List.mem_of_getElem? (i := 7) rfl) (by decide) (by rw [tb_b98]; decide +kernel) ?_
    refine x_nI (t := 6) (mj := 78) (n := 2) (rc := 8) (ml := 2) (nr := 0) (np := 90) (as := [x_r 1, x_b (7 + 1)]) (rest := []) (lo1 := [x_r 1, x_b (7 + 1)]) (by decide +kernel) (by decide) (by decide +kernel) (x_rb_of (by decide +kernel)) rfl rfl (x_wr (by decide) (x_wB (by decide) x_wn)) x_wn (by decide) rfl ?_
    refine x_aload (np := 1) (x := 0) (by decide +kernel) rfl (x_nc_le (by decide)) ?_
    refine x_aloadB (i := 7) (k4 := 1) rfl (by decide) (by rw [tb_b78]; decide +kernel) ?_
    refine x_cP (t := 6) (mj := 77) (n := 2) (rc := 8) (ml := 4) (nr := 0) (np := 5) (as := [x_r 1, x_b (7 + 1)]) (rest := []) (lo1 := [x_r 1, x_b (7 + 1), 147573952589676412928, 147573952589676412928]) (by decide +kernel) (by decide) (by decide +kernel) (x_rb_of (by decide +kernel)) rfl rfl (x_wr (by decide) (x_wB (by decide) x_wn)) x_wn (by decide) rfl (c77_1_S0 j74  (by decide)) (fun v81 l82 q83 => ?_)
    obtain ⟨b85, c84⟩ := q83
    have b86 := jB (e := 2) 0 j74 rg_1_2_0_1 (by omega) (by omega)
    refine x_ifz (k := 1) (tg := 10) (np := 8) (by decide +kernel) (by decide) l82 (fun q87 => ?_) (fun q88 => ?_)
    · have q87 : v81 ≠ 2147483648 := q87
      have b89 := c84 (by omega)
      refine x_aload (np := 11) (x := 0) (by decide +kernel) rfl (x_nc_le (by decide)) ?_
      refine x_aload (np := 12) (x := 0) (by decide +kernel) rfl (x_nc_le (by decide)) ?_
      refine x_getC (np := 15) (x := 450) (f := 2) (q := (h73 1 2)) (by decide +kernel) (by decide) (by decide +kernel) rfl (fun l90 => ?_)
      refine x_aloadB (i := 7) (k4 := 1) rfl (by decide) (by rw [tb_b78]; decide +kernel) ?_
      have b91 := (iv_tl_lt 7 (by decide)).1
      have b92 := iv_tl_ge 7 (by decide)
      refine x_len (by decide +kernel) (by rw [tb_y78]; exact sl_Tl) (by decide) (by rw [tb_b78]; decide +kernel) (Nat.le_trans (x_wi l90 (x_wr (by decide) x_wn)) (by decide)) ?_
      refine x_iadd (np := 20) (x := 0) (v := ((h73 1 2) + (iv_tl 7))) (by decide +kernel) l90 (by omega) (by omega) (by omega) ?_
      refine x_cV (t := 6) (mj := 80) (n := 2) (rc := 8) (ml := 2) (nr := 0) (np := 23) (as := [x_r 1, iv_c ((h73 1 2) + (iv_tl 7))]) (rest := []) (lo1 := [x_r 1, iv_c ((h73 1 2) + (iv_tl 7))]) (by decide +kernel) (by decide) (by decide +kernel) (x_rb_of (by decide +kernel)) rfl rfl (x_wr (by decide) (x_wi (by omega) x_wn)) x_wn (by decide) rfl (c80_1n j74  (by omega)) (fun h96 q95 => ?_)
      obtain ⟨j97, f98⟩ := q95
      have f101 := Fr.trans f77 f98 (by decide)
      refine x_const (np := 24) (x := 9223372043297226753) (a := 2147483649) (by decide +kernel) (by decide) (by decide) ?_
      refine x_retI (np := 25) (x := 0) (by decide +kernel) (by decide) (Or.inr ⟨by decide +kernel, by omega, by omega⟩) ⟨_, rfl, (by decide), ?_⟩
      refine x_ifz (k := 0) (tg := 127) (np := 93) (by decide +kernel) (by decide) (by decide) (fun q102 => ?_) (fun q103 => ?_)
      · have q102 : 2147483649 = 2147483648 := q102
        exfalso; omega
      have q103 : ¬ (2147483649 = 2147483648) := q103
      refine x_aload (np := 94) (x := 0) (by decide +kernel) rfl (x_nc_le (by decide)) ?_
      refine x_aload (np := 95) (x := 0) (by decide +kernel) rfl (x_nc_le (by decide)) ?_
      have q104 : h96 61 1 = h73 61 1 := f98 61 1 (by decide +kernel)
      have q105 : h73 61 1 = h57 61 1 := f75 61 1 (by decide +kernel)
      have q106 : h57 61 1 = h34 61 1 := f59 61 1 (by decide +kernel)
      have q107 : h34 61 1 = h16 61 1 := f36 61 1 (by decide +kernel)
      have q108 : h16 61 1 = h6 61 1 := f18 61 1 (by decide +kernel)
      have q109 : h6 61 1 = h 61 1 := f8 61 1 (by decide +kernel)
      refine x_getR (np := 98) (x := 577) (f := 1) (q := (h 61 1)) (by decide +kernel) (by decide) (by decide +kernel) (((((q104.trans q105).trans q106).trans q107).trans q108).trans q109) ?_
      have q110 : h96 (h 61 1) 1 = ((h 61 1) + 3) := tf_0_1 j97 t1
      refine x_getR (np := 101) (x := 513) (f := 1) (q := ((h 61 1) + 3)) (by decide +kernel) (by decide) (tg_0_513_1_1 t1) q110 ?_
      refine x_iload (np := 102) (x := 1) (by decide +kernel) rfl l4 ?_
      refine x_const (np := 103) (x := 9223372047592194050) (a := 2147483650) (by decide +kernel) (by decide) (by decide) ?_
      refine x_aload (np := 104) (x := 0) (by decide +kernel) rfl (x_nc_le (by decide)) ?_
      have q111 : h96 61 1 = h73 61 1 := f98 61 1 (by decide +kernel)
      have q112 : h73 61 1 = h57 61 1 := f75 61 1 (by decide +kernel)
      have q113 : h57 61 1 = h34 61 1 := f59 61 1 (by decide +kernel)
      have q114 : h34 61 1 = h16 61 1 := f36 61 1 (by decide +kernel)
      have q115 : h16 61 1 = h6 61 1 := f18 61 1 (by decide +kernel)
      have q116 : h6 61 1 = h 61 1 := f8 61 1 (by decide +kernel)
      refine x_getR (np := 107) (x := 577) (f := 1) (q := (h 61 1)) (by decide +kernel) (by decide) (by decide +kernel) (((((q111.trans q112).trans q113).trans q114).trans q115).trans q116) ?_
      have q117 : h96 (h 61 1) 1 = ((h 61 1) + 3) := tf_0_1 j97 t1
      refine x_getR (np := 110) (x := 513) (f := 1) (q := ((h 61 1) + 3)) (by decide +kernel) (by decide) (tg_0_513_1_1 t1) q117 ?_
      refine x_iload (np := 111) (x := 1) (by decide +kernel) rfl l4 ?_
      refine x_const (np := 112) (x := 9223372043297226753) (a := 2147483649) (by decide +kernel) (by decide) (by decide) ?_
      refine x_cP (t := 6) (mj := 68) (n := 3) (rc := 7) (ml := 4) (nr := 4) (np := 115) (as := [x_r ((h 61 1) + 3), iv_c v3, iv_c 2147483649]) (rest := [iv_c 2147483650, iv_c v3, x_r ((h 61 1) + 3), x_r 61]) (lo1 := [x_r ((h 61 1) + 3), iv_c v3, iv_c 2147483649, 147573952589676412928]) (by decide +kernel) (by decide) (by decide +kernel) (x_rb_of (tr_3_7 t1)) rfl rfl (x_wr (tn_3 t1) (x_wi l4 (x_wi (by decide) x_wn))) (x_wi (by decide) (x_wi l4 (x_wr (tn_3 t1) (x_wr (by decide) x_wn)))) (by decide) rfl (c68_T3_c1 j97 t1 (by omega) ) (fun v120 l121 q122 => ?_)
      refine x_const (np := 117) (x := 9223372086246899723) (a := 2147483659) (by decide +kernel) (by decide) (by decide) ?_
      refine x_cI (t := 6) (mj := 102) (n := 6) (rc := 10) (ml := 7) (nr := 0) (np := 120) (as := [x_r 61, x_r ((h 61 1) + 3), iv_c v3, iv_c 2147483650, iv_c v120, iv_c 2147483659]) (rest := []) (lo1 := [x_r 61, x_r ((h 61 1) + 3), iv_c v3, iv_c 2147483650, iv_c v120, iv_c 2147483659, 147573952589676412928]) (by decide +kernel) (by decide) (by decide +kernel) (x_rb_of (by decide +kernel)) rfl rfl (x_wr (by decide) (x_wr (tn_3 t1) (x_wi l4 (x_wi (by decide) (x_wi l121 (x_wi (by decide) x_wn)))))) x_wn (by decide) rfl (c102_61_T3_c2 j97  t1 (by omega)  (by omega) (by omega)) (fun v123 h126 l124 q125 => ?_)
      obtain ⟨j127, f128, b129⟩ := q125
      have f130 := Fr.trans f101 f128 (by decide)
      refine x_ifz (k := 0) (tg := 127) (np := 123) (by decide +kernel) (by decide) l124 (fun q131 => ?_) (fun q132 => ?_)
      · have q131 : v123 = 2147483648 := q131
        refine x_const (np := 128) (x := 9223372039002259456) (a := 2147483648) (by decide +kernel) (by decide) (by decide) ?_
        refine x_retI (np := 129) (x := 0) (by decide +kernel) (by decide) (Or.inr ⟨by decide +kernel, by omega, by omega⟩) ⟨_, rfl, (by decide), ?_⟩
        exact ⟨j127, f130, (by omega)⟩
      have q132 : ¬ (v123 = 2147483648) := q132
      refine x_const (np := 124) (x := 9223372043297226753) (a := 2147483649) (by decide +kernel) (by decide) (by decide) ?_
      refine x_goto (np := 127) (x := 128) (by decide +kernel) ?_
      refine x_retI (np := 129) (x := 0) (by decide +kernel) (by decide) (Or.inr ⟨by decide +kernel, by omega, by omega⟩) ⟨_, rfl, (by decide), ?_⟩
      exact ⟨j127, f130, (by omega)⟩
    have q88 : ¬ (v81 ≠ 2147483648) := q88
    refine x_const (np := 9) (x := 9223372039002259456) (a := 2147483648) (by decide +kernel) (by decide) (by decide) ?_
    refine x_retI (np := 10) (x := 0) (by decide +kernel) (by decide) (Or.inr ⟨by decide +kernel, by omega, by omega⟩) ⟨_, rfl, (by decide), ?_⟩
    refine x_ifz (k := 0) (tg := 127) (np := 93) (by decide +kernel) (by decide) (by decide) (fun q133 => ?_) (fun q134 => ?_)
    · have q133 : 2147483648 = 2147483648 := q133
      refine x_const (np := 128) (x := 9223372039002259456) (a := 2147483648) (by decide +kernel) (by decide) (by decide) ?_
      refine x_retI (np := 129) (x := 0) (by decide +kernel) (by decide) (Or.inr ⟨by decide +kernel, by omega, by omega⟩) ⟨_, rfl, (by decide), ?_⟩
      exact ⟨j74, f77, (by omega)⟩
    have q134 : ¬ (2147483648 = 2147483648) := q134
    exfalso; omega
  have q49 : ¬ (v42 ≠ 2147483648) := q49
  refine x_const (np := 9) (x := 9223372039002259456) (a := 2147483648) (by decide +kernel) (by decide) (by decide) ?_
  refine x_retI (np := 10) (x := 0) (by decide +kernel) (by decide) (Or.inr ⟨by decide +kernel, by omega, by omega⟩) ⟨_, rfl, (by decide), ?_⟩
  refine x_ifz (k := 0) (tg := 127) (np := 62) (by decide +kernel) (by decide) (by decide) (fun q135 => ?_) (fun q136 => ?_)
  · have q135 : 2147483648 = 2147483648 := q135
    refine x_const (np := 128) (x := 9223372039002259456) (a := 2147483648) (by decide +kernel) (by decide) (by decide) ?_
    refine x_retI (np := 129) (x := 0) (by decide +kernel) (by decide) (Or.inr ⟨by decide +kernel, by omega, by omega⟩) ⟨_, rfl, (by decide), ?_⟩
    exact ⟨j35, f38, (by omega)⟩
  have q136 : ¬ (2147483648 = 2147483648) := q136
  exfalso; omega
set_option maxHeartbeats 0 in
/-- LentNames$Table.put(III)V -/
theorem c69_T1 {sc : Nat × Nat} {d ra0 a1 a2 a3 : Nat} {h : xh} (hJ : J h) (ta0 : tw ra0) (ba1 : 2147483647 ≤ a1 ∧ a1 ≤ 2147483667) (ba2 : 2147483648 ≤ a2 ∧ a2 ≤ 2147483654) (ba3 : 2147483648 ≤ a3 ∧ a3 ≤ 2147483648) : X sc 69 d (xV fun h' => J h' ∧ Fr 129 h h') 0 0 0 [x_r (ra0 + 1), iv_c a1, iv_c a2, iv_c a3, 147573952589676412928] [] h := by
  have la1 : a1 < 4294967296 := by omega
  have la2 : a2 < 4294967296 := by omega
  have la3 : a3 < 4294967296 := by omega
  have hF := Fr.refl 129 h
  refine x_iload (np := 1) (x := 1) (by decide +kernel) rfl la1 ?_
  refine x_ifz (k := 2) (tg := 28) (np := 4) (by decide +kernel) (by decide) la1 (fun q1 => ?_) (fun q2 => ?_)
  · have q1 : a1 < 2147483648 := q1
    refine x_const (np := 29) (x := 9223372039002259456) (a := 2147483648) (by decide +kernel) (by decide) (by decide) ?_
    refine x_istore (np := 31) (x := 4) (lo' := [x_r (ra0 + 1), iv_c a1, iv_c a2, iv_c a3, iv_c 2147483648]) (by decide +kernel) (by decide) (Nat.le_of_ble_eq_true rfl) rfl ?_
    refine x_iload (np := 33) (x := 4) (by decide +kernel) rfl (by decide) ?_
    refine x_ifz (k := 0) (tg := 50) (np := 36) (by decide +kernel) (by decide) (by decide) (fun q3 => ?_) (fun q4 => ?_)
    · have q3 : 2147483648 = 2147483648 := q3
      refine x_retV (np := 51) (x := 0) (by decide +kernel) (by decide +kernel) ⟨rfl, ?_⟩
      exact ⟨hJ, hF⟩
    have q4 : ¬ (2147483648 = 2147483648) := q4
    exfalso; omega
  have q2 : ¬ (a1 < 2147483648) := q2
  refine x_iload (np := 5) (x := 1) (by decide +kernel) rfl la1 ?_
  refine x_aload (np := 6) (x := 0) (by decide +kernel) rfl (x_nc_le (tn_1 ta0)) ?_
  have b5 := jB (e := 2) 0 hJ (rg_T1_2_0_1 ta0) (by omega) (by omega)
  refine x_getC (np := 9) (x := 386) (f := 2) (q := (h (ra0 + 1) 2)) (by decide +kernel) (by decide) (tg_1_386_2_0 ta0) rfl (fun l6 => ?_)
  refine x_icmp (k := 3) (tg := 28) (np := 12) (by decide +kernel) (by decide) la1 l6 (fun q7 => ?_) (fun q8 => ?_)
  · have q7 : (h (ra0 + 1) 2) ≤ a1 := q7
    refine x_const (np := 29) (x := 9223372039002259456) (a := 2147483648) (by decide +kernel) (by decide) (by decide) ?_
    refine x_istore (np := 31) (x := 4) (lo' := [x_r (ra0 + 1), iv_c a1, iv_c a2, iv_c a3, iv_c 2147483648]) (by decide +kernel) (by decide) (Nat.le_of_ble_eq_true rfl) rfl ?_
    refine x_iload (np := 33) (x := 4) (by decide +kernel) rfl (by decide) ?_
    refine x_ifz (k := 0) (tg := 50) (np := 36) (by decide +kernel) (by decide) (by decide) (fun q9 => ?_) (fun q10 => ?_)
    · have q9 : 2147483648 = 2147483648 := q9
      refine x_retV (np := 51) (x := 0) (by decide +kernel) (by decide +kernel) ⟨rfl, ?_⟩
      exact ⟨hJ, hF⟩
    have q10 : ¬ (2147483648 = 2147483648) := q10
    exfalso; omega
  have q8 : ¬ ((h (ra0 + 1) 2) ≤ a1) := q8
  refine x_iload (np := 13) (x := 2) (by decide +kernel) rfl la2 ?_
  refine x_ifz (k := 2) (tg := 28) (np := 16) (by decide +kernel) (by decide) la2 (fun q11 => ?_) (fun q12 => ?_)
  · have q11 : a2 < 2147483648 := q11
    exfalso; omega
  have q12 : ¬ (a2 < 2147483648) := q12
  refine x_iload (np := 17) (x := 2) (by decide +kernel) rfl la2 ?_
  refine x_aload (np := 18) (x := 0) (by decide +kernel) rfl (x_nc_le (tn_1 ta0)) ?_
  have b13 := jB (e := 0) 0 hJ (rg_T1_0_0_1 ta0) (by omega) (by omega)
  have q14 : (h (ra0 + 1) 0) = 2147483655 := by omega
  refine x_getC (np := 21) (x := 384) (f := 0) (q := 2147483655) (by decide +kernel) (by decide) (tg_1_384_0_0 ta0) q14 (fun l15 => ?_)
  refine x_icmp (k := 3) (tg := 28) (np := 24) (by decide +kernel) (by decide) la2 (by decide) (fun q16 => ?_) (fun q17 => ?_)
  · have q16 : 2147483655 ≤ a2 := q16
    exfalso; omega
  have q17 : ¬ (2147483655 ≤ a2) := q17
  refine x_const (np := 25) (x := 9223372043297226753) (a := 2147483649) (by decide +kernel) (by decide) (by decide) ?_
  refine x_goto (np := 28) (x := 29) (by decide +kernel) ?_
  refine x_istore (np := 31) (x := 4) (lo' := [x_r (ra0 + 1), iv_c a1, iv_c a2, iv_c a3, iv_c 2147483649]) (by decide +kernel) (by decide) (Nat.le_of_ble_eq_true rfl) rfl ?_
  refine x_iload (np := 33) (x := 4) (by decide +kernel) rfl (by decide) ?_
  refine x_ifz (k := 0) (tg := 50) (np := 36) (by decide +kernel) (by decide) (by decide) (fun q18 => ?_) (fun q19 => ?_)
  · have q18 : 2147483649 = 2147483648 := q18
    exfalso; omega
  have q19 : ¬ (2147483649 = 2147483648) := q19
  refine x_aload (np := 37) (x := 0) (by decide +kernel) rfl (x_nc_le (tn_1 ta0)) ?_
  have q20 : h (ra0 + 1) 1 = (ra0 + 2) := tf_1_1 hJ ta0
  refine x_getR (np := 40) (x := 385) (f := 1) (q := (ra0 + 2)) (by decide +kernel) (by decide) (tg_1_385_1_1 ta0) q20 ?_
  refine x_iload (np := 41) (x := 1) (by decide +kernel) rfl la1 ?_
  refine x_aload (np := 42) (x := 0) (by decide +kernel) rfl (x_nc_le (tn_1 ta0)) ?_
  refine x_getC (np := 45) (x := 384) (f := 0) (q := 2147483655) (by decide +kernel) (by decide) (tg_1_384_0_0 ta0) q14 (fun l21 => ?_)
  obtain ⟨u22, q23⟩ : ∃ z, a1 = 2147483648 + z := ⟨a1 - 2147483648, by omega⟩
  refine x_imul (np := 46) (x := 0) (i := u22) (j := 7) (v := (2147483648 + 7 * u22)) (by decide +kernel) (by omega) (by omega) (by omega) (by omega) la1 (by decide) ?_
  refine x_iload (np := 47) (x := 2) (by decide +kernel) rfl la2 ?_
  refine x_iadd (np := 48) (x := 0) (v := (7 * u22 + a2)) (by decide +kernel) (by omega) la2 (by omega) (by omega) ?_
  refine x_iload (np := 49) (x := 3) (by decide +kernel) rfl la3 ?_
  obtain ⟨u25, q26⟩ : ∃ z, a2 = 2147483648 + z := ⟨a2 - 2147483648, by omega⟩
  refine x_ast (np := 50) (x := 0) (kd := 1) (n := 140) (i := (7 * u22 + u25)) (by decide +kernel) (Or.inl rfl) (ta_2_140 ta0) (by omega) (by omega) (by decide) la3 (fun z => absurd z (by decide)) ?_
  have j28 := jUw (e := (7 * u22 + u25)) (v := a3) hJ (rw_T2 ta0) (by omega) (by omega)
  have f30 := jFw (e := (7 * u22 + u25)) (v := a3) hF (rw_T2 ta0) (by omega) (by decide)
  generalize e29 : x_up h (ra0 + 2) (7 * u22 + u25) a3 = h27 at j28 f30 ⊢
  refine x_retV (np := 51) (x := 0) (by decide +kernel) (by decide +kernel) ⟨rfl, ?_⟩
  exact ⟨j28, f30⟩
set_option maxHeartbeats 0 in
/-- LentNames$Table.addRow()I -/
theorem c67_T1 {sc : Nat × Nat} {d ra0 : Nat} {h : xh} (hJ : J h) (ta0 : tw ra0) : X sc 67 (d + 1) (xI fun r h' => J h' ∧ Fr 129 h h' ∧ (2147483647 ≤ r ∧ r ≤ 2147483667)) 0 0 0 [x_r (ra0 + 1), 147573952589676412928] [] h := by
  have hF := Fr.refl 129 h
  refine x_aload (np := 1) (x := 0) (by decide +kernel) rfl (x_nc_le (tn_1 ta0)) ?_
  refine x_nI (t := 6) (mj := 66) (n := 1) (rc := 7) (ml := 1) (nr := 0) (np := 4) (as := [x_r (ra0 + 1)]) (rest := []) (lo1 := [x_r (ra0 + 1)]) (by decide +kernel) (by decide) (by decide +kernel) (x_rb_of (tr_1_7 ta0)) rfl rfl (x_wr (tn_1 ta0) x_wn) x_wn (by decide) rfl ?_
  refine x_aload (np := 1) (x := 0) (by decide +kernel) rfl (x_nc_le (tn_1 ta0)) ?_
  have b1 := jB (e := 2) 0 hJ (rg_T1_2_0_1 ta0) (by omega) (by omega)
  refine x_getC (np := 4) (x := 386) (f := 2) (q := (h (ra0 + 1) 2)) (by decide +kernel) (by decide) (tg_1_386_2_0 ta0) rfl (fun l2 => ?_)
  refine x_const (np := 5) (x := 9223372043297226753) (a := 2147483649) (by decide +kernel) (by decide) (by decide) ?_
  refine x_iadd (np := 6) (x := 0) (v := (1 + (h (ra0 + 1) 2))) (by decide +kernel) l2 (by decide) (by omega) (by omega) ?_
  refine x_aload (np := 7) (x := 0) (by decide +kernel) rfl (x_nc_le (tn_1 ta0)) ?_
  have b3 := jB (e := 0) 0 hJ (rg_T1_0_0_1 ta0) (by omega) (by omega)
  have q4 : (h (ra0 + 1) 0) = 2147483655 := by omega
  refine x_getC (np := 10) (x := 384) (f := 0) (q := 2147483655) (by decide +kernel) (by decide) (tg_1_384_0_0 ta0) q4 (fun l5 => ?_)
  obtain ⟨u6, q7⟩ : ∃ z, (h (ra0 + 1) 2) = 2147483648 + z := ⟨(h (ra0 + 1) 2) - 2147483648, by omega⟩
  refine x_imul (np := 11) (x := 0) (i := (1 + u6)) (j := 7) (v := (2147483655 + 7 * u6)) (by decide +kernel) (by omega) (by omega) (by omega) (by omega) (by omega) (by decide) ?_
  refine x_aload (np := 12) (x := 0) (by decide +kernel) rfl (x_nc_le (tn_1 ta0)) ?_
  have q9 : h (ra0 + 1) 1 = (ra0 + 2) := tf_1_1 hJ ta0
  refine x_getR (np := 15) (x := 385) (f := 1) (q := (ra0 + 2)) (by decide +kernel) (by decide) (tg_1_385_1_1 ta0) q9 ?_
  refine x_alen (np := 16) (x := 0) (n := 140) (by decide +kernel) (tn_2 ta0) (tl_2 ta0).1 (tl_2 ta0).2 (by decide) ?_
  show X _ _ _ _ _ _ _ _ [iv_c 2147483788, iv_c (2147483655 + 7 * u6)] _
  refine x_icmp (k := 5) (tg := 23) (np := 19) (by decide +kernel) (by decide) (by omega) (by decide) (fun q10 => ?_) (fun q11 => ?_)
  · have q10 : (2147483655 + 7 * u6) ≤ 2147483788 := q10
    refine x_const (np := 24) (x := 9223372039002259456) (a := 2147483648) (by decide +kernel) (by decide) (by decide) ?_
    refine x_retI (np := 25) (x := 0) (by decide +kernel) (by decide) (Or.inr ⟨by decide +kernel, by omega, by omega⟩) ⟨_, rfl, (by decide), ?_⟩
    refine x_ifz (k := 0) (tg := 9) (np := 7) (by decide +kernel) (by decide) (by decide) (fun q12 => ?_) (fun q13 => ?_)
    · have q12 : 2147483648 = 2147483648 := q12
      refine x_aload (np := 10) (x := 0) (by decide +kernel) rfl (x_nc_le (tn_1 ta0)) ?_
      refine x_dup (np := 11) (x := 0) (by decide +kernel) (by have z := x_nc_le (k := (ra0 + 1)) (tn_1 ta0); unfold x_r; omega) ?_
      refine x_getC (np := 14) (x := 386) (f := 2) (q := (h (ra0 + 1) 2)) (by decide +kernel) (by decide) (tg_1_386_2_0 ta0) rfl (fun l14 => ?_)
      refine x_const (np := 15) (x := 9223372043297226753) (a := 2147483649) (by decide +kernel) (by decide) (by decide) ?_
      refine x_iadd (np := 16) (x := 0) (v := (1 + (h (ra0 + 1) 2))) (by decide +kernel) l2 (by decide) (by omega) (by omega) ?_
      refine x_putI (np := 19) (x := 386) (f := 2) (by decide +kernel) (tg_1_386_2_0 ta0) (by omega) (Or.inl (by decide)) ?_
      have j16 := jU (e := 2) (v := (1 + (h (ra0 + 1) 2))) 0 hJ (rg_T1_2_0_1 ta0) (by omega) (by omega) (by omega)
      have f18 := jF (e := 2) (v := (1 + (h (ra0 + 1) 2))) 0 hF (rg_T1_2_0_1 ta0) (by omega) (by omega) (by decide)
      generalize e17 : x_up h (ra0 + 1) 2 (1 + (h (ra0 + 1) 2)) = h15 at j16 f18 ⊢
      refine x_const (np := 20) (x := 9223372039002259456) (a := 2147483648) (by decide +kernel) (by decide) (by decide) ?_
      refine x_istore (np := 21) (x := 1) (lo' := [x_r (ra0 + 1), iv_c 2147483648]) (by decide +kernel) (by decide) (Nat.le_of_ble_eq_true rfl) rfl ?_
      have p186 : ∀ (n : Nat) (v181 : Nat) (h183 : xh), 4294967296 - v181 < n → (2147483648 ≤ v181 ∧ v181 ≤ 2147483655) → J h183 → Fr 129 h15 h183 → X sc 67 (d + 1) (xI fun r h' => J h' ∧ Fr 129 h h' ∧ (2147483647 ≤ r ∧ r ≤ 2147483667)) 0 0 21 [x_r (ra0 + 1), iv_c v181] [] h183 := by
        intro n
        induction n with
        | zero => intro v181 h183 q187; exact absurd q187 (Nat.not_lt_zero _)
        | succ n i188 =>
          intro v181 h183 q187 b182 j185 f184
          have f189 := Fr.trans f18 f184 (by decide)
          refine x_iload (np := 22) (x := 1) (by decide +kernel) rfl (by omega) ?_
          refine x_aload (np := 23) (x := 0) (by decide +kernel) rfl (x_nc_le (tn_1 ta0)) ?_
          have b190 := jB (e := 0) 0 j185 (rg_T1_0_0_1 ta0) (by omega) (by omega)
          have q191 : (h183 (ra0 + 1) 0) = 2147483655 := by omega
          refine x_getC (np := 26) (x := 384) (f := 0) (q := 2147483655) (by decide +kernel) (by decide) (tg_1_384_0_0 ta0) q191 (fun l192 => ?_)
          refine x_icmp (k := 3) (tg := 47) (np := 29) (by decide +kernel) (by decide) (by omega) (by decide) (fun q193 => ?_) (fun q194 => ?_)
          · have q193 : 2147483655 ≤ v181 := q193
            refine x_aload (np := 48) (x := 0) (by decide +kernel) rfl (x_nc_le (tn_1 ta0)) ?_
            have b195 := jB (e := 2) 0 j185 (rg_T1_2_0_1 ta0) (by omega) (by omega)
            refine x_getC (np := 51) (x := 386) (f := 2) (q := (h183 (ra0 + 1) 2)) (by decide +kernel) (by decide) (tg_1_386_2_0 ta0) rfl (fun l196 => ?_)
            refine x_const (np := 52) (x := 9223372043297226753) (a := 2147483649) (by decide +kernel) (by decide) (by decide) ?_
            obtain ⟨v197, q198⟩ : ∃ z, z + 2147483649 = (h183 (ra0 + 1) 2) + 2147483648 := ⟨(h183 (ra0 + 1) 2) + 2147483648 - 2147483649, by omega⟩
            refine x_isub (np := 53) (x := 0) (v := v197) (by decide +kernel) l196 (by decide) (by omega) (by omega) ?_
            refine x_retI (np := 54) (x := 0) (by decide +kernel) (by omega) (Or.inl (by decide +kernel)) ⟨_, rfl, (by omega), ?_⟩
            exact ⟨j185, f189, (by omega)⟩
          have q194 : ¬ (2147483655 ≤ v181) := q194
          refine x_aload (np := 30) (x := 0) (by decide +kernel) rfl (x_nc_le (tn_1 ta0)) ?_
          refine x_aload (np := 31) (x := 0) (by decide +kernel) rfl (x_nc_le (tn_1 ta0)) ?_
          have b199 := jB (e := 2) 0 j185 (rg_T1_2_0_1 ta0) (by omega) (by omega)
          refine x_getC (np := 34) (x := 386) (f := 2) (q := (h183 (ra0 + 1) 2)) (by decide +kernel) (by decide) (tg_1_386_2_0 ta0) rfl (fun l200 => ?_)
          refine x_const (np := 35) (x := 9223372043297226753) (a := 2147483649) (by decide +kernel) (by decide) (by decide) ?_
          obtain ⟨v201, q202⟩ : ∃ z, z + 2147483649 = (h183 (ra0 + 1) 2) + 2147483648 := ⟨(h183 (ra0 + 1) 2) + 2147483648 - 2147483649, by omega⟩
          refine x_isub (np := 36) (x := 0) (v := v201) (by decide +kernel) l200 (by decide) (by omega) (by omega) ?_
          refine x_iload (np := 37) (x := 1) (by decide +kernel) rfl (by omega) ?_
          refine x_const (np := 38) (x := 9223372039002259456) (a := 2147483648) (by decide +kernel) (by decide) (by decide) ?_
          refine x_cV (t := 6) (mj := 69) (n := 4) (rc := 7) (ml := 5) (nr := 0) (np := 41) (as := [x_r (ra0 + 1), iv_c v201, iv_c v181, iv_c 2147483648]) (rest := []) (lo1 := [x_r (ra0 + 1), iv_c v201, iv_c v181, iv_c 2147483648, 147573952589676412928]) (by decide +kernel) (by decide) (by decide +kernel) (x_rb_of (tr_1_7 ta0)) rfl rfl (x_wr (tn_1 ta0) (x_wi (by omega) (x_wi (by omega) (x_wi (by decide) x_wn)))) x_wn (by decide) rfl (c69_T1 j185 ta0 (by omega) (by omega) (by omega)) (fun h206 q205 => ?_)
          obtain ⟨j207, f208⟩ := q205
          have f211 := Fr.trans f189 f208 (by decide)
          have f212 := Fr.trans f184 f208 (by decide)
          refine x_iinc (np := 44) (i := 1) (j := 2147483649) (v := (1 + v181)) (lo' := [x_r (ra0 + 1), iv_c (1 + v181)]) (by decide +kernel) (by decide) (by decide) rfl (by omega) (by omega) (by omega) rfl ?_
          refine x_goto (np := 47) (x := 21) (by decide +kernel) ?_
          exact i188 (1 + v181) h206 (by omega) (by omega) j207 f212
      exact p186 _ 2147483648 h15 (Nat.lt_succ_self _) (by omega) j16 (Fr.refl _ _)
    have q13 : ¬ (2147483648 = 2147483648) := q13
    exfalso; omega
  have q11 : ¬ ((2147483655 + 7 * u6) ≤ 2147483788) := q11
  refine x_const (np := 20) (x := 9223372043297226753) (a := 2147483649) (by decide +kernel) (by decide) (by decide) ?_
  refine x_goto (np := 23) (x := 24) (by decide +kernel) ?_
  refine x_retI (np := 25) (x := 0) (by decide +kernel) (by decide) (Or.inr ⟨by decide +kernel, by omega, by omega⟩) ⟨_, rfl, (by decide), ?_⟩
  refine x_ifz (k := 0) (tg := 9) (np := 7) (by decide +kernel) (by decide) (by decide) (fun q213 => ?_) (fun q214 => ?_)
  · have q213 : 2147483649 = 2147483648 := q213
    exfalso; omega
  have q214 : ¬ (2147483649 = 2147483648) := q214
  refine x_const (np := 8) (x := 9223372034707292159) (a := 2147483647) (by decide +kernel) (by decide) (by decide) ?_
  refine x_retI (np := 9) (x := 0) (by decide +kernel) (by decide) (Or.inl (by decide +kernel)) ⟨_, rfl, (by decide), ?_⟩
  exact ⟨hJ, hF, (by omega)⟩
set_option maxHeartbeats 0 in
/-- LentNames$Table.put(III)V -/
theorem c69_T1_c0 {sc : Nat × Nat} {d ra0 a1 a3 : Nat} {h : xh} (hJ : J h) (ta0 : tw ra0) (ba1 : 2147483647 ≤ a1 ∧ a1 ≤ 2147483667) (ba3 : 2147483648 ≤ a3 ∧ a3 ≤ 2147483653) : X sc 69 d (xV fun h' => J h' ∧ Fr 129 h h') 0 0 0 [x_r (ra0 + 1), iv_c a1, iv_c 2147483648, iv_c a3, 147573952589676412928] [] h := by
  have la1 : a1 < 4294967296 := by omega
  have la3 : a3 < 4294967296 := by omega
  have hF := Fr.refl 129 h
  refine x_iload (np := 1) (x := 1) (by decide +kernel) rfl la1 ?_
  refine x_ifz (k := 2) (tg := 28) (np := 4) (by decide +kernel) (by decide) la1 (fun q1 => ?_) (fun q2 => ?_)
  · have q1 : a1 < 2147483648 := q1
    refine x_const (np := 29) (x := 9223372039002259456) (a := 2147483648) (by decide +kernel) (by decide) (by decide) ?_
    refine x_istore (np := 31) (x := 4) (lo' := [x_r (ra0 + 1), iv_c a1, iv_c 2147483648, iv_c a3, iv_c 2147483648]) (by decide +kernel) (by decide) (Nat.le_of_ble_eq_true rfl) rfl ?_
    refine x_iload (np := 33) (x := 4) (by decide +kernel) rfl (by decide) ?_
    refine x_ifz (k := 0) (tg := 50) (np := 36) (by decide +kernel) (by decide) (by decide) (fun q3 => ?_) (fun q4 => ?_)
    · have q3 : 2147483648 = 2147483648 := q3
      refine x_retV (np := 51) (x := 0) (by decide +kernel) (by decide +kernel) ⟨rfl, ?_⟩
      exact ⟨hJ, hF⟩
    have q4 : ¬ (2147483648 = 2147483648) := q4
    exfalso; omega
  have q2 : ¬ (a1 < 2147483648) := q2
  refine x_iload (np := 5) (x := 1) (by decide +kernel) rfl la1 ?_
  refine x_aload (np := 6) (x := 0) (by decide +kernel) rfl (x_nc_le (tn_1 ta0)) ?_
  have b5 := jB (e := 2) 0 hJ (rg_T1_2_0_1 ta0) (by omega) (by omega)
  refine x_getC (np := 9) (x := 386) (f := 2) (q := (h (ra0 + 1) 2)) (by decide +kernel) (by decide) (tg_1_386_2_0 ta0) rfl (fun l6 => ?_)
  refine x_icmp (k := 3) (tg := 28) (np := 12) (by decide +kernel) (by decide) la1 l6 (fun q7 => ?_) (fun q8 => ?_)
  · have q7 : (h (ra0 + 1) 2) ≤ a1 := q7
    refine x_const (np := 29) (x := 9223372039002259456) (a := 2147483648) (by decide +kernel) (by decide) (by decide) ?_
    refine x_istore (np := 31) (x := 4) (lo' := [x_r (ra0 + 1), iv_c a1, iv_c 2147483648, iv_c a3, iv_c 2147483648]) (by decide +kernel) (by decide) (Nat.le_of_ble_eq_true rfl) rfl ?_
    refine x_iload (np := 33) (x := 4) (by decide +kernel) rfl (by decide) ?_
    refine x_ifz (k := 0) (tg := 50) (np := 36) (by decide +kernel) (by decide) (by decide) (fun q9 => ?_) (fun q10 => ?_)
    · have q9 : 2147483648 = 2147483648 := q9
      refine x_retV (np := 51) (x := 0) (by decide +kernel) (by decide +kernel) ⟨rfl, ?_⟩
      exact ⟨hJ, hF⟩
    have q10 : ¬ (2147483648 = 2147483648) := q10
    exfalso; omega
  have q8 : ¬ ((h (ra0 + 1) 2) ≤ a1) := q8
  refine x_iload (np := 13) (x := 2) (by decide +kernel) rfl (by decide) ?_
  refine x_ifz (k := 2) (tg := 28) (np := 16) (by decide +kernel) (by decide) (by decide) (fun q11 => ?_) (fun q12 => ?_)
  · have q11 : 2147483648 < 2147483648 := q11
    exfalso; omega
  have q12 : ¬ (2147483648 < 2147483648) := q12
  refine x_iload (np := 17) (x := 2) (by decide +kernel) rfl (by decide) ?_
  refine x_aload (np := 18) (x := 0) (by decide +kernel) rfl (x_nc_le (tn_1 ta0)) ?_
  have b13 := jB (e := 0) 0 hJ (rg_T1_0_0_1 ta0) (by omega) (by omega)
  have q14 : (h (ra0 + 1) 0) = 2147483655 := by omega
  refine x_getC (np := 21) (x := 384) (f := 0) (q := 2147483655) (by decide +kernel) (by decide) (tg_1_384_0_0 ta0) q14 (fun l15 => ?_)
  refine x_icmp (k := 3) (tg := 28) (np := 24) (by decide +kernel) (by decide) (by decide) (by decide) (fun q16 => ?_) (fun q17 => ?_)
  · have q16 : 2147483655 ≤ 2147483648 := q16
    exfalso; omega
  have q17 : ¬ (2147483655 ≤ 2147483648) := q17
  refine x_const (np := 25) (x := 9223372043297226753) (a := 2147483649) (by decide +kernel) (by decide) (by decide) ?_
  refine x_goto (np := 28) (x := 29) (by decide +kernel) ?_
  refine x_istore (np := 31) (x := 4) (lo' := [x_r (ra0 + 1), iv_c a1, iv_c 2147483648, iv_c a3, iv_c 2147483649]) (by decide +kernel) (by decide) (Nat.le_of_ble_eq_true rfl) rfl ?_
  refine x_iload (np := 33) (x := 4) (by decide +kernel) rfl (by decide) ?_
  refine x_ifz (k := 0) (tg := 50) (np := 36) (by decide +kernel) (by decide) (by decide) (fun q18 => ?_) (fun q19 => ?_)
  · have q18 : 2147483649 = 2147483648 := q18
    exfalso; omega
  have q19 : ¬ (2147483649 = 2147483648) := q19
  refine x_aload (np := 37) (x := 0) (by decide +kernel) rfl (x_nc_le (tn_1 ta0)) ?_
  have q20 : h (ra0 + 1) 1 = (ra0 + 2) := tf_1_1 hJ ta0
  refine x_getR (np := 40) (x := 385) (f := 1) (q := (ra0 + 2)) (by decide +kernel) (by decide) (tg_1_385_1_1 ta0) q20 ?_
  refine x_iload (np := 41) (x := 1) (by decide +kernel) rfl la1 ?_
  refine x_aload (np := 42) (x := 0) (by decide +kernel) rfl (x_nc_le (tn_1 ta0)) ?_
  refine x_getC (np := 45) (x := 384) (f := 0) (q := 2147483655) (by decide +kernel) (by decide) (tg_1_384_0_0 ta0) q14 (fun l21 => ?_)
  obtain ⟨u22, q23⟩ : ∃ z, a1 = 2147483648 + z := ⟨a1 - 2147483648, by omega⟩
  refine x_imul (np := 46) (x := 0) (i := u22) (j := 7) (v := (2147483648 + 7 * u22)) (by decide +kernel) (by omega) (by omega) (by omega) (by omega) la1 (by decide) ?_
  refine x_iload (np := 47) (x := 2) (by decide +kernel) rfl (by decide) ?_
  refine x_iadd (np := 48) (x := 0) (v := (2147483648 + 7 * u22)) (by decide +kernel) (by omega) (by decide) (by omega) (by omega) ?_
  refine x_iload (np := 49) (x := 3) (by decide +kernel) rfl la3 ?_
  refine x_ast (np := 50) (x := 0) (kd := 1) (n := 140) (i := (7 * u22)) (by decide +kernel) (Or.inl rfl) (ta_2_140 ta0) (by omega) (by omega) (by decide) la3 (fun z => absurd z (by decide)) ?_
  have j26 := jU (e := (7 * u22)) (v := a3) u22 hJ (rg_T2_0_7_20 ta0) (by omega) (by omega) (by omega)
  have f28 := jF (e := (7 * u22)) (v := a3) u22 hF (rg_T2_0_7_20 ta0) (by omega) (by omega) (by decide)
  generalize e27 : x_up h (ra0 + 2) (7 * u22) a3 = h25 at j26 f28 ⊢
  refine x_retV (np := 51) (x := 0) (by decide +kernel) (by decide +kernel) ⟨rfl, ?_⟩
  exact ⟨j26, f28⟩
set_option maxHeartbeats 0 in
/-- LentNames$TownReader.readInto(LLentNames$Table;IIII)Z -/
theorem c102_61_T1_c0_c0 {sc : Nat × Nat} {d ra1 a2 a5 : Nat} {h : xh} (hJ : J h) (ta1 : tw ra1) (ba2 : 2147483647 ≤ a2 ∧ a2 ≤ 2147483667) (ba5 : 2147483649 ≤ a5 ∧ a5 ≤ 2147483653) : X sc 102 (d + 2) (xI fun r h' => J h' ∧ Fr 161 h h' ∧ (2147483648 ≤ r ∧ r ≤ 2147483649)) 0 0 0 [x_r 61, x_r (ra1 + 1), iv_c a2, iv_c 2147483648, iv_c 2147483648, iv_c a5, 147573952589676412928] [] h := by
  have la2 : a2 < 4294967296 := by omega
  have la5 : a5 < 4294967296 := by omega
  have hF := Fr.refl 161 h
  refine x_aload (np := 1) (x := 0) (by decide +kernel) rfl (x_nc_le (by decide)) ?_
  have q1 : h 61 0 = 1 := by have z := jB (e := 0) 0 hJ rg_61_0_0_1 (by decide) (by decide); omega
  refine x_getR (np := 4) (x := 576) (f := 0) (q := 1) (by decide +kernel) (by decide) (by decide +kernel) q1 ?_
  refine x_iload (np := 6) (x := 4) (by decide +kernel) rfl (by decide) ?_
  refine x_iload (np := 8) (x := 5) (by decide +kernel) rfl la5 ?_
  refine x_cI (t := 6) (mj := 79) (n := 3) (rc := 8) (ml := 5) (nr := 0) (np := 11) (as := [x_r 1, iv_c 2147483648, iv_c a5]) (rest := []) (lo1 := [x_r 1, iv_c 2147483648, iv_c a5, 147573952589676412928, 147573952589676412928]) (by decide +kernel) (by decide) (by decide +kernel) (x_rb_of (by decide +kernel)) rfl rfl (x_wr (by decide) (x_wi (by decide) (x_wi la5 x_wn))) x_wn (by decide) rfl (c79_1_c0 hJ   (by omega)) (fun v2 h5 l3 q4 => ?_)
  obtain ⟨j6, f7, b8, c9⟩ := q4
  have f10 := Fr.trans hF f7 (by decide)
  refine x_istore (np := 13) (x := 6) (lo' := [x_r 61, x_r (ra1 + 1), iv_c a2, iv_c 2147483648, iv_c 2147483648, iv_c a5, iv_c v2]) (by decide +kernel) l3 (Nat.le_of_ble_eq_true rfl) rfl ?_
  refine x_iload (np := 15) (x := 6) (by decide +kernel) rfl l3 ?_
  refine x_const (np := 16) (x := 9223372034707292159) (a := 2147483647) (by decide +kernel) (by decide) (by decide) ?_
  refine x_icmp (k := 1) (tg := 21) (np := 19) (by decide +kernel) (by decide) l3 (by decide) (fun q11 => ?_) (fun q12 => ?_)
  · have q11 : v2 ≠ 2147483647 := q11
    refine x_aload (np := 22) (x := 1) (by decide +kernel) rfl (x_nc_le (tn_1 ta1)) ?_
    refine x_iload (np := 23) (x := 2) (by decide +kernel) rfl la2 ?_
    refine x_iload (np := 24) (x := 3) (by decide +kernel) rfl (by decide) ?_
    refine x_iload (np := 26) (x := 6) (by decide +kernel) rfl l3 ?_
    refine x_cV (t := 6) (mj := 69) (n := 4) (rc := 7) (ml := 5) (nr := 0) (np := 29) (as := [x_r (ra1 + 1), iv_c a2, iv_c 2147483648, iv_c v2]) (rest := []) (lo1 := [x_r (ra1 + 1), iv_c a2, iv_c 2147483648, iv_c v2, 147573952589676412928]) (by decide +kernel) (by decide) (by decide +kernel) (x_rb_of (tr_1_7 ta1)) rfl rfl (x_wr (tn_1 ta1) (x_wi la2 (x_wi (by decide) (x_wi l3 x_wn)))) x_wn (by decide) rfl (c69_T1_c0 j6 ta1 (by omega)  (by omega)) (fun h16 q15 => ?_)
    obtain ⟨j17, f18⟩ := q15
    have f21 := Fr.trans f10 f18 (by decide)
    refine x_const (np := 30) (x := 9223372043297226753) (a := 2147483649) (by decide +kernel) (by decide) (by decide) ?_
    refine x_retI (np := 31) (x := 0) (by decide +kernel) (by decide) (Or.inr ⟨by decide +kernel, by omega, by omega⟩) ⟨_, rfl, (by decide), ?_⟩
    exact ⟨j17, f21, (by omega)⟩
  have q12 : ¬ (v2 ≠ 2147483647) := q12
  refine x_const (np := 20) (x := 9223372039002259456) (a := 2147483648) (by decide +kernel) (by decide) (by decide) ?_
  refine x_retI (np := 21) (x := 0) (by decide +kernel) (by decide) (Or.inr ⟨by decide +kernel, by omega, by omega⟩) ⟨_, rfl, (by decide), ?_⟩
  exact ⟨j6, f10, (by omega)⟩
set_option maxHeartbeats 0 in
/-- LentNames$Table.put(III)V -/
theorem c69_T1_c1 {sc : Nat × Nat} {d ra0 a1 a3 : Nat} {h : xh} (hJ : J h) (ta0 : tw ra0) (ba1 : 2147483647 ≤ a1 ∧ a1 ≤ 2147483667) (ba3 : 2147483648 ≤ a3 ∧ a3 ≤ 2147483653) : X sc 69 d (xV fun h' => J h' ∧ Fr 129 h h') 0 0 0 [x_r (ra0 + 1), iv_c a1, iv_c 2147483649, iv_c a3, 147573952589676412928] [] h := by
  have la1 : a1 < 4294967296 := by omega
  have la3 : a3 < 4294967296 := by omega
  have hF := Fr.refl 129 h
  refine x_iload (np := 1) (x := 1) (by decide +kernel) rfl la1 ?_
  refine x_ifz (k := 2) (tg := 28) (np := 4) (by decide +kernel) (by decide) la1 (fun q1 => ?_) (fun q2 => ?_)
  · have q1 : a1 < 2147483648 := q1
    refine x_const (np := 29) (x := 9223372039002259456) (a := 2147483648) (by decide +kernel) (by decide) (by decide) ?_
    refine x_istore (np := 31) (x := 4) (lo' := [x_r (ra0 + 1), iv_c a1, iv_c 2147483649, iv_c a3, iv_c 2147483648]) (by decide +kernel) (by decide) (Nat.le_of_ble_eq_true rfl) rfl ?_
    refine x_iload (np := 33) (x := 4) (by decide +kernel) rfl (by decide) ?_
    refine x_ifz (k := 0) (tg := 50) (np := 36) (by decide +kernel) (by decide) (by decide) (fun q3 => ?_) (fun q4 => ?_)
    · have q3 : 2147483648 = 2147483648 := q3
      refine x_retV (np := 51) (x := 0) (by decide +kernel) (by decide +kernel) ⟨rfl, ?_⟩
      exact ⟨hJ, hF⟩
    have q4 : ¬ (2147483648 = 2147483648) := q4
    exfalso; omega
  have q2 : ¬ (a1 < 2147483648) := q2
  refine x_iload (np := 5) (x := 1) (by decide +kernel) rfl la1 ?_
  refine x_aload (np := 6) (x := 0) (by decide +kernel) rfl (x_nc_le (tn_1 ta0)) ?_
  have b5 := jB (e := 2) 0 hJ (rg_T1_2_0_1 ta0) (by omega) (by omega)
  refine x_getC (np := 9) (x := 386) (f := 2) (q := (h (ra0 + 1) 2)) (by decide +kernel) (by decide) (tg_1_386_2_0 ta0) rfl (fun l6 => ?_)
  refine x_icmp (k := 3) (tg := 28) (np := 12) (by decide +kernel) (by decide) la1 l6 (fun q7 => ?_) (fun q8 => ?_)
  · have q7 : (h (ra0 + 1) 2) ≤ a1 := q7
    refine x_const (np := 29) (x := 9223372039002259456) (a := 2147483648) (by decide +kernel) (by decide) (by decide) ?_
    refine x_istore (np := 31) (x := 4) (lo' := [x_r (ra0 + 1), iv_c a1, iv_c 2147483649, iv_c a3, iv_c 2147483648]) (by decide +kernel) (by decide) (Nat.le_of_ble_eq_true rfl) rfl ?_
    refine x_iload (np := 33) (x := 4) (by decide +kernel) rfl (by decide) ?_
    refine x_ifz (k := 0) (tg := 50) (np := 36) (by decide +kernel) (by decide) (by decide) (fun q9 => ?_) (fun q10 => ?_)
    · have q9 : 2147483648 = 2147483648 := q9
      refine x_retV (np := 51) (x := 0) (by decide +kernel) (by decide +kernel) ⟨rfl, ?_⟩
      exact ⟨hJ, hF⟩
    have q10 : ¬ (2147483648 = 2147483648) := q10
    exfalso; omega
  have q8 : ¬ ((h (ra0 + 1) 2) ≤ a1) := q8
  refine x_iload (np := 13) (x := 2) (by decide +kernel) rfl (by decide) ?_
  refine x_ifz (k := 2) (tg := 28) (np := 16) (by decide +kernel) (by decide) (by decide) (fun q11 => ?_) (fun q12 => ?_)
  · have q11 : 2147483649 < 2147483648 := q11
    exfalso; omega
  have q12 : ¬ (2147483649 < 2147483648) := q12
  refine x_iload (np := 17) (x := 2) (by decide +kernel) rfl (by decide) ?_
  refine x_aload (np := 18) (x := 0) (by decide +kernel) rfl (x_nc_le (tn_1 ta0)) ?_
  have b13 := jB (e := 0) 0 hJ (rg_T1_0_0_1 ta0) (by omega) (by omega)
  have q14 : (h (ra0 + 1) 0) = 2147483655 := by omega
  refine x_getC (np := 21) (x := 384) (f := 0) (q := 2147483655) (by decide +kernel) (by decide) (tg_1_384_0_0 ta0) q14 (fun l15 => ?_)
  refine x_icmp (k := 3) (tg := 28) (np := 24) (by decide +kernel) (by decide) (by decide) (by decide) (fun q16 => ?_) (fun q17 => ?_)
  · have q16 : 2147483655 ≤ 2147483649 := q16
    exfalso; omega
  have q17 : ¬ (2147483655 ≤ 2147483649) := q17
  refine x_const (np := 25) (x := 9223372043297226753) (a := 2147483649) (by decide +kernel) (by decide) (by decide) ?_
  refine x_goto (np := 28) (x := 29) (by decide +kernel) ?_
  refine x_istore (np := 31) (x := 4) (lo' := [x_r (ra0 + 1), iv_c a1, iv_c 2147483649, iv_c a3, iv_c 2147483649]) (by decide +kernel) (by decide) (Nat.le_of_ble_eq_true rfl) rfl ?_
  refine x_iload (np := 33) (x := 4) (by decide +kernel) rfl (by decide) ?_
  refine x_ifz (k := 0) (tg := 50) (np := 36) (by decide +kernel) (by decide) (by decide) (fun q18 => ?_) (fun q19 => ?_)
  · have q18 : 2147483649 = 2147483648 := q18
    exfalso; omega
  have q19 : ¬ (2147483649 = 2147483648) := q19
  refine x_aload (np := 37) (x := 0) (by decide +kernel) rfl (x_nc_le (tn_1 ta0)) ?_
  have q20 : h (ra0 + 1) 1 = (ra0 + 2) := tf_1_1 hJ ta0
  refine x_getR (np := 40) (x := 385) (f := 1) (q := (ra0 + 2)) (by decide +kernel) (by decide) (tg_1_385_1_1 ta0) q20 ?_
  refine x_iload (np := 41) (x := 1) (by decide +kernel) rfl la1 ?_
  refine x_aload (np := 42) (x := 0) (by decide +kernel) rfl (x_nc_le (tn_1 ta0)) ?_
  refine x_getC (np := 45) (x := 384) (f := 0) (q := 2147483655) (by decide +kernel) (by decide) (tg_1_384_0_0 ta0) q14 (fun l21 => ?_)
  obtain ⟨u22, q23⟩ : ∃ z, a1 = 2147483648 + z := ⟨a1 - 2147483648, by omega⟩
  refine x_imul (np := 46) (x := 0) (i := u22) (j := 7) (v := (2147483648 + 7 * u22)) (by decide +kernel) (by omega) (by omega) (by omega) (by omega) la1 (by decide) ?_
  refine x_iload (np := 47) (x := 2) (by decide +kernel) rfl (by decide) ?_
  refine x_iadd (np := 48) (x := 0) (v := (2147483649 + 7 * u22)) (by decide +kernel) (by omega) (by decide) (by omega) (by omega) ?_
  refine x_iload (np := 49) (x := 3) (by decide +kernel) rfl la3 ?_
  refine x_ast (np := 50) (x := 0) (kd := 1) (n := 140) (i := (1 + 7 * u22)) (by decide +kernel) (Or.inl rfl) (ta_2_140 ta0) (by omega) (by omega) (by decide) la3 (fun z => absurd z (by decide)) ?_
  have j26 := jU (e := (1 + 7 * u22)) (v := a3) u22 hJ (rg_T2_1_7_20 ta0) (by omega) (by omega) (by omega)
  have f28 := jF (e := (1 + 7 * u22)) (v := a3) u22 hF (rg_T2_1_7_20 ta0) (by omega) (by omega) (by decide)
  generalize e27 : x_up h (ra0 + 2) (1 + 7 * u22) a3 = h25 at j26 f28 ⊢
  refine x_retV (np := 51) (x := 0) (by decide +kernel) (by decide +kernel) ⟨rfl, ?_⟩
  exact ⟨j26, f28⟩
set_option maxHeartbeats 0 in
/-- LentNames$TownReader.readInto(LLentNames$Table;IIII)Z -/
theorem c102_61_T1_c1_c0 {sc : Nat × Nat} {d ra1 a2 a5 : Nat} {h : xh} (hJ : J h) (ta1 : tw ra1) (ba2 : 2147483647 ≤ a2 ∧ a2 ≤ 2147483667) (ba5 : 2147483649 ≤ a5 ∧ a5 ≤ 2147483653) : X sc 102 (d + 2) (xI fun r h' => J h' ∧ Fr 161 h h' ∧ (2147483648 ≤ r ∧ r ≤ 2147483649)) 0 0 0 [x_r 61, x_r (ra1 + 1), iv_c a2, iv_c 2147483649, iv_c 2147483648, iv_c a5, 147573952589676412928] [] h := by
  have la2 : a2 < 4294967296 := by omega
  have la5 : a5 < 4294967296 := by omega
  have hF := Fr.refl 161 h
  refine x_aload (np := 1) (x := 0) (by decide +kernel) rfl (x_nc_le (by decide)) ?_
  have q1 : h 61 0 = 1 := by have z := jB (e := 0) 0 hJ rg_61_0_0_1 (by decide) (by decide); omega
  refine x_getR (np := 4) (x := 576) (f := 0) (q := 1) (by decide +kernel) (by decide) (by decide +kernel) q1 ?_
  refine x_iload (np := 6) (x := 4) (by decide +kernel) rfl (by decide) ?_
  refine x_iload (np := 8) (x := 5) (by decide +kernel) rfl la5 ?_
  refine x_cI (t := 6) (mj := 79) (n := 3) (rc := 8) (ml := 5) (nr := 0) (np := 11) (as := [x_r 1, iv_c 2147483648, iv_c a5]) (rest := []) (lo1 := [x_r 1, iv_c 2147483648, iv_c a5, 147573952589676412928, 147573952589676412928]) (by decide +kernel) (by decide) (by decide +kernel) (x_rb_of (by decide +kernel)) rfl rfl (x_wr (by decide) (x_wi (by decide) (x_wi la5 x_wn))) x_wn (by decide) rfl (c79_1_c0 hJ   (by omega)) (fun v2 h5 l3 q4 => ?_)
  obtain ⟨j6, f7, b8, c9⟩ := q4
  have f10 := Fr.trans hF f7 (by decide)
  refine x_istore (np := 13) (x := 6) (lo' := [x_r 61, x_r (ra1 + 1), iv_c a2, iv_c 2147483649, iv_c 2147483648, iv_c a5, iv_c v2]) (by decide +kernel) l3 (Nat.le_of_ble_eq_true rfl) rfl ?_
  refine x_iload (np := 15) (x := 6) (by decide +kernel) rfl l3 ?_
  refine x_const (np := 16) (x := 9223372034707292159) (a := 2147483647) (by decide +kernel) (by decide) (by decide) ?_
  refine x_icmp (k := 1) (tg := 21) (np := 19) (by decide +kernel) (by decide) l3 (by decide) (fun q11 => ?_) (fun q12 => ?_)
  · have q11 : v2 ≠ 2147483647 := q11
    refine x_aload (np := 22) (x := 1) (by decide +kernel) rfl (x_nc_le (tn_1 ta1)) ?_
    refine x_iload (np := 23) (x := 2) (by decide +kernel) rfl la2 ?_
    refine x_iload (np := 24) (x := 3) (by decide +kernel) rfl (by decide) ?_
    refine x_iload (np := 26) (x := 6) (by decide +kernel) rfl l3 ?_
    refine x_cV (t := 6) (mj := 69) (n := 4) (rc := 7) (ml := 5) (nr := 0) (np := 29) (as := [x_r (ra1 + 1), iv_c a2, iv_c 2147483649, iv_c v2]) (rest := []) (lo1 := [x_r (ra1 + 1), iv_c a2, iv_c 2147483649, iv_c v2, 147573952589676412928]) (by decide +kernel) (by decide) (by decide +kernel) (x_rb_of (tr_1_7 ta1)) rfl rfl (x_wr (tn_1 ta1) (x_wi la2 (x_wi (by decide) (x_wi l3 x_wn)))) x_wn (by decide) rfl (c69_T1_c1 j6 ta1 (by omega)  (by omega)) (fun h16 q15 => ?_)
    obtain ⟨j17, f18⟩ := q15
    have f21 := Fr.trans f10 f18 (by decide)
    refine x_const (np := 30) (x := 9223372043297226753) (a := 2147483649) (by decide +kernel) (by decide) (by decide) ?_
    refine x_retI (np := 31) (x := 0) (by decide +kernel) (by decide) (Or.inr ⟨by decide +kernel, by omega, by omega⟩) ⟨_, rfl, (by decide), ?_⟩
    exact ⟨j17, f21, (by omega)⟩
  have q12 : ¬ (v2 ≠ 2147483647) := q12
  refine x_const (np := 20) (x := 9223372039002259456) (a := 2147483648) (by decide +kernel) (by decide) (by decide) ?_
  refine x_retI (np := 21) (x := 0) (by decide +kernel) (by decide) (Or.inr ⟨by decide +kernel, by omega, by omega⟩) ⟨_, rfl, (by decide), ?_⟩
  exact ⟨j6, f10, (by omega)⟩
set_option maxHeartbeats 0 in
/-- LentNames$Table.put(III)V -/
theorem c69_T1_c2 {sc : Nat × Nat} {d ra0 a1 a3 : Nat} {h : xh} (hJ : J h) (ta0 : tw ra0) (ba1 : 2147483647 ≤ a1 ∧ a1 ≤ 2147483667) (ba3 : 2147483648 ≤ a3 ∧ a3 ≤ 2147483659) : X sc 69 d (xV fun h' => J h' ∧ Fr 129 h h') 0 0 0 [x_r (ra0 + 1), iv_c a1, iv_c 2147483650, iv_c a3, 147573952589676412928] [] h := by
  have la1 : a1 < 4294967296 := by omega
  have la3 : a3 < 4294967296 := by omega
  have hF := Fr.refl 129 h
  refine x_iload (np := 1) (x := 1) (by decide +kernel) rfl la1 ?_
  refine x_ifz (k := 2) (tg := 28) (np := 4) (by decide +kernel) (by decide) la1 (fun q1 => ?_) (fun q2 => ?_)
  · have q1 : a1 < 2147483648 := q1
    refine x_const (np := 29) (x := 9223372039002259456) (a := 2147483648) (by decide +kernel) (by decide) (by decide) ?_
    refine x_istore (np := 31) (x := 4) (lo' := [x_r (ra0 + 1), iv_c a1, iv_c 2147483650, iv_c a3, iv_c 2147483648]) (by decide +kernel) (by decide) (Nat.le_of_ble_eq_true rfl) rfl ?_
    refine x_iload (np := 33) (x := 4) (by decide +kernel) rfl (by decide) ?_
    refine x_ifz (k := 0) (tg := 50) (np := 36) (by decide +kernel) (by decide) (by decide) (fun q3 => ?_) (fun q4 => ?_)
    · have q3 : 2147483648 = 2147483648 := q3
      refine x_retV (np := 51) (x := 0) (by decide +kernel) (by decide +kernel) ⟨rfl, ?_⟩
      exact ⟨hJ, hF⟩
    have q4 : ¬ (2147483648 = 2147483648) := q4
    exfalso; omega
  have q2 : ¬ (a1 < 2147483648) := q2
  refine x_iload (np := 5) (x := 1) (by decide +kernel) rfl la1 ?_
  refine x_aload (np := 6) (x := 0) (by decide +kernel) rfl (x_nc_le (tn_1 ta0)) ?_
  have b5 := jB (e := 2) 0 hJ (rg_T1_2_0_1 ta0) (by omega) (by omega)
  refine x_getC (np := 9) (x := 386) (f := 2) (q := (h (ra0 + 1) 2)) (by decide +kernel) (by decide) (tg_1_386_2_0 ta0) rfl (fun l6 => ?_)
  refine x_icmp (k := 3) (tg := 28) (np := 12) (by decide +kernel) (by decide) la1 l6 (fun q7 => ?_) (fun q8 => ?_)
  · have q7 : (h (ra0 + 1) 2) ≤ a1 := q7
    refine x_const (np := 29) (x := 9223372039002259456) (a := 2147483648) (by decide +kernel) (by decide) (by decide) ?_
    refine x_istore (np := 31) (x := 4) (lo' := [x_r (ra0 + 1), iv_c a1, iv_c 2147483650, iv_c a3, iv_c 2147483648]) (by decide +kernel) (by decide) (Nat.le_of_ble_eq_true rfl) rfl ?_
    refine x_iload (np := 33) (x := 4) (by decide +kernel) rfl (by decide) ?_
    refine x_ifz (k := 0) (tg := 50) (np := 36) (by decide +kernel) (by decide) (by decide) (fun q9 => ?_) (fun q10 => ?_)
    · have q9 : 2147483648 = 2147483648 := q9
      refine x_retV (np := 51) (x := 0) (by decide +kernel) (by decide +kernel) ⟨rfl, ?_⟩
      exact ⟨hJ, hF⟩
    have q10 : ¬ (2147483648 = 2147483648) := q10
    exfalso; omega
  have q8 : ¬ ((h (ra0 + 1) 2) ≤ a1) := q8
  refine x_iload (np := 13) (x := 2) (by decide +kernel) rfl (by decide) ?_
  refine x_ifz (k := 2) (tg := 28) (np := 16) (by decide +kernel) (by decide) (by decide) (fun q11 => ?_) (fun q12 => ?_)
  · have q11 : 2147483650 < 2147483648 := q11
    exfalso; omega
  have q12 : ¬ (2147483650 < 2147483648) := q12
  refine x_iload (np := 17) (x := 2) (by decide +kernel) rfl (by decide) ?_
  refine x_aload (np := 18) (x := 0) (by decide +kernel) rfl (x_nc_le (tn_1 ta0)) ?_
  have b13 := jB (e := 0) 0 hJ (rg_T1_0_0_1 ta0) (by omega) (by omega)
  have q14 : (h (ra0 + 1) 0) = 2147483655 := by omega
  refine x_getC (np := 21) (x := 384) (f := 0) (q := 2147483655) (by decide +kernel) (by decide) (tg_1_384_0_0 ta0) q14 (fun l15 => ?_)
  refine x_icmp (k := 3) (tg := 28) (np := 24) (by decide +kernel) (by decide) (by decide) (by decide) (fun q16 => ?_) (fun q17 => ?_)
  · have q16 : 2147483655 ≤ 2147483650 := q16
    exfalso; omega
  have q17 : ¬ (2147483655 ≤ 2147483650) := q17
  refine x_const (np := 25) (x := 9223372043297226753) (a := 2147483649) (by decide +kernel) (by decide) (by decide) ?_
  refine x_goto (np := 28) (x := 29) (by decide +kernel) ?_
  refine x_istore (np := 31) (x := 4) (lo' := [x_r (ra0 + 1), iv_c a1, iv_c 2147483650, iv_c a3, iv_c 2147483649]) (by decide +kernel) (by decide) (Nat.le_of_ble_eq_true rfl) rfl ?_
  refine x_iload (np := 33) (x := 4) (by decide +kernel) rfl (by decide) ?_
  refine x_ifz (k := 0) (tg := 50) (np := 36) (by decide +kernel) (by decide) (by decide) (fun q18 => ?_) (fun q19 => ?_)
  · have q18 : 2147483649 = 2147483648 := q18
    exfalso; omega
  have q19 : ¬ (2147483649 = 2147483648) := q19
  refine x_aload (np := 37) (x := 0) (by decide +kernel) rfl (x_nc_le (tn_1 ta0)) ?_
  have q20 : h (ra0 + 1) 1 = (ra0 + 2) := tf_1_1 hJ ta0
  refine x_getR (np := 40) (x := 385) (f := 1) (q := (ra0 + 2)) (by decide +kernel) (by decide) (tg_1_385_1_1 ta0) q20 ?_
  refine x_iload (np := 41) (x := 1) (by decide +kernel) rfl la1 ?_
  refine x_aload (np := 42) (x := 0) (by decide +kernel) rfl (x_nc_le (tn_1 ta0)) ?_
  refine x_getC (np := 45) (x := 384) (f := 0) (q := 2147483655) (by decide +kernel) (by decide) (tg_1_384_0_0 ta0) q14 (fun l21 => ?_)
  obtain ⟨u22, q23⟩ : ∃ z, a1 = 2147483648 + z := ⟨a1 - 2147483648, by omega⟩
  refine x_imul (np := 46) (x := 0) (i := u22) (j := 7) (v := (2147483648 + 7 * u22)) (by decide +kernel) (by omega) (by omega) (by omega) (by omega) la1 (by decide) ?_
  refine x_iload (np := 47) (x := 2) (by decide +kernel) rfl (by decide) ?_
  refine x_iadd (np := 48) (x := 0) (v := (2147483650 + 7 * u22)) (by decide +kernel) (by omega) (by decide) (by omega) (by omega) ?_
  refine x_iload (np := 49) (x := 3) (by decide +kernel) rfl la3 ?_
  refine x_ast (np := 50) (x := 0) (kd := 1) (n := 140) (i := (2 + 7 * u22)) (by decide +kernel) (Or.inl rfl) (ta_2_140 ta0) (by omega) (by omega) (by decide) la3 (fun z => absurd z (by decide)) ?_
  have j26 := jU (e := (2 + 7 * u22)) (v := a3) u22 hJ (rg_T2_2_7_20 ta0) (by omega) (by omega) (by omega)
  have f28 := jF (e := (2 + 7 * u22)) (v := a3) u22 hF (rg_T2_2_7_20 ta0) (by omega) (by omega) (by decide)
  generalize e27 : x_up h (ra0 + 2) (2 + 7 * u22) a3 = h25 at j26 f28 ⊢
  refine x_retV (np := 51) (x := 0) (by decide +kernel) (by decide +kernel) ⟨rfl, ?_⟩
  exact ⟨j26, f28⟩
set_option maxHeartbeats 0 in
/-- LentNames$TownReader.readInto(LLentNames$Table;IIII)Z -/
theorem c102_61_T1_c2_c0 {sc : Nat × Nat} {d ra1 a2 a5 : Nat} {h : xh} (hJ : J h) (ta1 : tw ra1) (ba2 : 2147483647 ≤ a2 ∧ a2 ≤ 2147483667) (ba5 : 2147483659 ≤ a5 ∧ a5 ≤ 2147483659) : X sc 102 (d + 2) (xI fun r h' => J h' ∧ Fr 161 h h' ∧ (2147483648 ≤ r ∧ r ≤ 2147483649)) 0 0 0 [x_r 61, x_r (ra1 + 1), iv_c a2, iv_c 2147483650, iv_c 2147483648, iv_c a5, 147573952589676412928] [] h := by
  have la2 : a2 < 4294967296 := by omega
  have la5 : a5 < 4294967296 := by omega
  have hF := Fr.refl 161 h
  refine x_aload (np := 1) (x := 0) (by decide +kernel) rfl (x_nc_le (by decide)) ?_
  have q1 : h 61 0 = 1 := by have z := jB (e := 0) 0 hJ rg_61_0_0_1 (by decide) (by decide); omega
  refine x_getR (np := 4) (x := 576) (f := 0) (q := 1) (by decide +kernel) (by decide) (by decide +kernel) q1 ?_
  refine x_iload (np := 6) (x := 4) (by decide +kernel) rfl (by decide) ?_
  refine x_iload (np := 8) (x := 5) (by decide +kernel) rfl la5 ?_
  refine x_cI (t := 6) (mj := 79) (n := 3) (rc := 8) (ml := 5) (nr := 0) (np := 11) (as := [x_r 1, iv_c 2147483648, iv_c a5]) (rest := []) (lo1 := [x_r 1, iv_c 2147483648, iv_c a5, 147573952589676412928, 147573952589676412928]) (by decide +kernel) (by decide) (by decide +kernel) (x_rb_of (by decide +kernel)) rfl rfl (x_wr (by decide) (x_wi (by decide) (x_wi la5 x_wn))) x_wn (by decide) rfl (c79_1_c0 hJ   (by omega)) (fun v2 h5 l3 q4 => ?_)
  obtain ⟨j6, f7, b8, c9⟩ := q4
  have f10 := Fr.trans hF f7 (by decide)
  refine x_istore (np := 13) (x := 6) (lo' := [x_r 61, x_r (ra1 + 1), iv_c a2, iv_c 2147483650, iv_c 2147483648, iv_c a5, iv_c v2]) (by decide +kernel) l3 (Nat.le_of_ble_eq_true rfl) rfl ?_
  refine x_iload (np := 15) (x := 6) (by decide +kernel) rfl l3 ?_
  refine x_const (np := 16) (x := 9223372034707292159) (a := 2147483647) (by decide +kernel) (by decide) (by decide) ?_
  refine x_icmp (k := 1) (tg := 21) (np := 19) (by decide +kernel) (by decide) l3 (by decide) (fun q11 => ?_) (fun q12 => ?_)
  · have q11 : v2 ≠ 2147483647 := q11
    refine x_aload (np := 22) (x := 1) (by decide +kernel) rfl (x_nc_le (tn_1 ta1)) ?_
    refine x_iload (np := 23) (x := 2) (by decide +kernel) rfl la2 ?_
    refine x_iload (np := 24) (x := 3) (by decide +kernel) rfl (by decide) ?_
    refine x_iload (np := 26) (x := 6) (by decide +kernel) rfl l3 ?_
    refine x_cV (t := 6) (mj := 69) (n := 4) (rc := 7) (ml := 5) (nr := 0) (np := 29) (as := [x_r (ra1 + 1), iv_c a2, iv_c 2147483650, iv_c v2]) (rest := []) (lo1 := [x_r (ra1 + 1), iv_c a2, iv_c 2147483650, iv_c v2, 147573952589676412928]) (by decide +kernel) (by decide) (by decide +kernel) (x_rb_of (tr_1_7 ta1)) rfl rfl (x_wr (tn_1 ta1) (x_wi la2 (x_wi (by decide) (x_wi l3 x_wn)))) x_wn (by decide) rfl (c69_T1_c2 j6 ta1 (by omega)  (by omega)) (fun h16 q15 => ?_)
    obtain ⟨j17, f18⟩ := q15
    have f21 := Fr.trans f10 f18 (by decide)
    refine x_const (np := 30) (x := 9223372043297226753) (a := 2147483649) (by decide +kernel) (by decide) (by decide) ?_
    refine x_retI (np := 31) (x := 0) (by decide +kernel) (by decide) (Or.inr ⟨by decide +kernel, by omega, by omega⟩) ⟨_, rfl, (by decide), ?_⟩
    exact ⟨j17, f21, (by omega)⟩
  have q12 : ¬ (v2 ≠ 2147483647) := q12
  refine x_const (np := 20) (x := 9223372039002259456) (a := 2147483648) (by decide +kernel) (by decide) (by decide) ?_
  refine x_retI (np := 21) (x := 0) (by decide +kernel) (by decide) (Or.inr ⟨by decide +kernel, by omega, by omega⟩) ⟨_, rfl, (by decide), ?_⟩
  exact ⟨j6, f10, (by omega)⟩
set_option maxHeartbeats 0 in
/-- LentNames$Table.put(III)V -/
theorem c69_T1_c3 {sc : Nat × Nat} {d ra0 a1 a3 : Nat} {h : xh} (hJ : J h) (ta0 : tw ra0) (ba1 : 2147483647 ≤ a1 ∧ a1 ≤ 2147483667) (ba3 : 2147483648 ≤ a3 ∧ a3 ≤ 2147483660) : X sc 69 d (xV fun h' => J h' ∧ Fr 129 h h') 0 0 0 [x_r (ra0 + 1), iv_c a1, iv_c 2147483651, iv_c a3, 147573952589676412928] [] h := by
  have la1 : a1 < 4294967296 := by omega
  have la3 : a3 < 4294967296 := by omega
  have hF := Fr.refl 129 h
  refine x_iload (np := 1) (x := 1) (by decide +kernel) rfl la1 ?_
  refine x_ifz (k := 2) (tg := 28) (np := 4) (by decide +kernel) (by decide) la1 (fun q1 => ?_) (fun q2 => ?_)
  · have q1 : a1 < 2147483648 := q1
    refine x_const (np := 29) (x := 9223372039002259456) (a := 2147483648) (by decide +kernel) (by decide) (by decide) ?_
    refine x_istore (np := 31) (x := 4) (lo' := [x_r (ra0 + 1), iv_c a1, iv_c 2147483651, iv_c a3, iv_c 2147483648]) (by decide +kernel) (by decide) (Nat.le_of_ble_eq_true rfl) rfl ?_
    refine x_iload (np := 33) (x := 4) (by decide +kernel) rfl (by decide) ?_
    refine x_ifz (k := 0) (tg := 50) (np := 36) (by decide +kernel) (by decide) (by decide) (fun q3 => ?_) (fun q4 => ?_)
    · have q3 : 2147483648 = 2147483648 := q3
      refine x_retV (np := 51) (x := 0) (by decide +kernel) (by decide +kernel) ⟨rfl, ?_⟩
      exact ⟨hJ, hF⟩
    have q4 : ¬ (2147483648 = 2147483648) := q4
    exfalso; omega
  have q2 : ¬ (a1 < 2147483648) := q2
  refine x_iload (np := 5) (x := 1) (by decide +kernel) rfl la1 ?_
  refine x_aload (np := 6) (x := 0) (by decide +kernel) rfl (x_nc_le (tn_1 ta0)) ?_
  have b5 := jB (e := 2) 0 hJ (rg_T1_2_0_1 ta0) (by omega) (by omega)
  refine x_getC (np := 9) (x := 386) (f := 2) (q := (h (ra0 + 1) 2)) (by decide +kernel) (by decide) (tg_1_386_2_0 ta0) rfl (fun l6 => ?_)
  refine x_icmp (k := 3) (tg := 28) (np := 12) (by decide +kernel) (by decide) la1 l6 (fun q7 => ?_) (fun q8 => ?_)
  · have q7 : (h (ra0 + 1) 2) ≤ a1 := q7
    refine x_const (np := 29) (x := 9223372039002259456) (a := 2147483648) (by decide +kernel) (by decide) (by decide) ?_
    refine x_istore (np := 31) (x := 4) (lo' := [x_r (ra0 + 1), iv_c a1, iv_c 2147483651, iv_c a3, iv_c 2147483648]) (by decide +kernel) (by decide) (Nat.le_of_ble_eq_true rfl) rfl ?_
    refine x_iload (np := 33) (x := 4) (by decide +kernel) rfl (by decide) ?_
    refine x_ifz (k := 0) (tg := 50) (np := 36) (by decide +kernel) (by decide) (by decide) (fun q9 => ?_) (fun q10 => ?_)
    · have q9 : 2147483648 = 2147483648 := q9
      refine x_retV (np := 51) (x := 0) (by decide +kernel) (by decide +kernel) ⟨rfl, ?_⟩
      exact ⟨hJ, hF⟩
    have q10 : ¬ (2147483648 = 2147483648) := q10
    exfalso; omega
  have q8 : ¬ ((h (ra0 + 1) 2) ≤ a1) := q8
  refine x_iload (np := 13) (x := 2) (by decide +kernel) rfl (by decide) ?_
  refine x_ifz (k := 2) (tg := 28) (np := 16) (by decide +kernel) (by decide) (by decide) (fun q11 => ?_) (fun q12 => ?_)
  · have q11 : 2147483651 < 2147483648 := q11
    exfalso; omega
  have q12 : ¬ (2147483651 < 2147483648) := q12
  refine x_iload (np := 17) (x := 2) (by decide +kernel) rfl (by decide) ?_
  refine x_aload (np := 18) (x := 0) (by decide +kernel) rfl (x_nc_le (tn_1 ta0)) ?_
  have b13 := jB (e := 0) 0 hJ (rg_T1_0_0_1 ta0) (by omega) (by omega)
  have q14 : (h (ra0 + 1) 0) = 2147483655 := by omega
  refine x_getC (np := 21) (x := 384) (f := 0) (q := 2147483655) (by decide +kernel) (by decide) (tg_1_384_0_0 ta0) q14 (fun l15 => ?_)
  refine x_icmp (k := 3) (tg := 28) (np := 24) (by decide +kernel) (by decide) (by decide) (by decide) (fun q16 => ?_) (fun q17 => ?_)
  · have q16 : 2147483655 ≤ 2147483651 := q16
    exfalso; omega
  have q17 : ¬ (2147483655 ≤ 2147483651) := q17
  refine x_const (np := 25) (x := 9223372043297226753) (a := 2147483649) (by decide +kernel) (by decide) (by decide) ?_
  refine x_goto (np := 28) (x := 29) (by decide +kernel) ?_
  refine x_istore (np := 31) (x := 4) (lo' := [x_r (ra0 + 1), iv_c a1, iv_c 2147483651, iv_c a3, iv_c 2147483649]) (by decide +kernel) (by decide) (Nat.le_of_ble_eq_true rfl) rfl ?_
  refine x_iload (np := 33) (x := 4) (by decide +kernel) rfl (by decide) ?_
  refine x_ifz (k := 0) (tg := 50) (np := 36) (by decide +kernel) (by decide) (by decide) (fun q18 => ?_) (fun q19 => ?_)
  · have q18 : 2147483649 = 2147483648 := q18
    exfalso; omega
  have q19 : ¬ (2147483649 = 2147483648) := q19
  refine x_aload (np := 37) (x := 0) (by decide +kernel) rfl (x_nc_le (tn_1 ta0)) ?_
  have q20 : h (ra0 + 1) 1 = (ra0 + 2) := tf_1_1 hJ ta0
  refine x_getR (np := 40) (x := 385) (f := 1) (q := (ra0 + 2)) (by decide +kernel) (by decide) (tg_1_385_1_1 ta0) q20 ?_
  refine x_iload (np := 41) (x := 1) (by decide +kernel) rfl la1 ?_
  refine x_aload (np := 42) (x := 0) (by decide +kernel) rfl (x_nc_le (tn_1 ta0)) ?_
  refine x_getC (np := 45) (x := 384) (f := 0) (q := 2147483655) (by decide +kernel) (by decide) (tg_1_384_0_0 ta0) q14 (fun l21 => ?_)
  obtain ⟨u22, q23⟩ : ∃ z, a1 = 2147483648 + z := ⟨a1 - 2147483648, by omega⟩
  refine x_imul (np := 46) (x := 0) (i := u22) (j := 7) (v := (2147483648 + 7 * u22)) (by decide +kernel) (by omega) (by omega) (by omega) (by omega) la1 (by decide) ?_
  refine x_iload (np := 47) (x := 2) (by decide +kernel) rfl (by decide) ?_
  refine x_iadd (np := 48) (x := 0) (v := (2147483651 + 7 * u22)) (by decide +kernel) (by omega) (by decide) (by omega) (by omega) ?_
  refine x_iload (np := 49) (x := 3) (by decide +kernel) rfl la3 ?_
  refine x_ast (np := 50) (x := 0) (kd := 1) (n := 140) (i := (3 + 7 * u22)) (by decide +kernel) (Or.inl rfl) (ta_2_140 ta0) (by omega) (by omega) (by decide) la3 (fun z => absurd z (by decide)) ?_
  have j26 := jU (e := (3 + 7 * u22)) (v := a3) u22 hJ (rg_T2_3_7_20 ta0) (by omega) (by omega) (by omega)
  have f28 := jF (e := (3 + 7 * u22)) (v := a3) u22 hF (rg_T2_3_7_20 ta0) (by omega) (by omega) (by decide)
  generalize e27 : x_up h (ra0 + 2) (3 + 7 * u22) a3 = h25 at j26 f28 ⊢
  refine x_retV (np := 51) (x := 0) (by decide +kernel) (by decide +kernel) ⟨rfl, ?_⟩
  exact ⟨j26, f28⟩
set_option maxHeartbeats 0 in
/-- LentNames$TownReader.readInto(LLentNames$Table;IIII)Z -/
theorem c102_61_T1_c3_c1 {sc : Nat × Nat} {d ra1 a2 a5 : Nat} {h : xh} (hJ : J h) (ta1 : tw ra1) (ba2 : 2147483647 ≤ a2 ∧ a2 ≤ 2147483667) (ba5 : 2147483660 ≤ a5 ∧ a5 ≤ 2147483660) : X sc 102 (d + 2) (xI fun r h' => J h' ∧ Fr 161 h h' ∧ (2147483648 ≤ r ∧ r ≤ 2147483649)) 0 0 0 [x_r 61, x_r (ra1 + 1), iv_c a2, iv_c 2147483651, iv_c 2147483649, iv_c a5, 147573952589676412928] [] h := by
  have la2 : a2 < 4294967296 := by omega
  have la5 : a5 < 4294967296 := by omega
  have hF := Fr.refl 161 h
  refine x_aload (np := 1) (x := 0) (by decide +kernel) rfl (x_nc_le (by decide)) ?_
  have q1 : h 61 0 = 1 := by have z := jB (e := 0) 0 hJ rg_61_0_0_1 (by decide) (by decide); omega
  refine x_getR (np := 4) (x := 576) (f := 0) (q := 1) (by decide +kernel) (by decide) (by decide +kernel) q1 ?_
  refine x_iload (np := 6) (x := 4) (by decide +kernel) rfl (by decide) ?_
  refine x_iload (np := 8) (x := 5) (by decide +kernel) rfl la5 ?_
  refine x_cI (t := 6) (mj := 79) (n := 3) (rc := 8) (ml := 5) (nr := 0) (np := 11) (as := [x_r 1, iv_c 2147483649, iv_c a5]) (rest := []) (lo1 := [x_r 1, iv_c 2147483649, iv_c a5, 147573952589676412928, 147573952589676412928]) (by decide +kernel) (by decide) (by decide +kernel) (x_rb_of (by decide +kernel)) rfl rfl (x_wr (by decide) (x_wi (by decide) (x_wi la5 x_wn))) x_wn (by decide) rfl (c79_1_c1 hJ   (by omega)) (fun v2 h5 l3 q4 => ?_)
  obtain ⟨j6, f7, b8, c9⟩ := q4
  have f10 := Fr.trans hF f7 (by decide)
  refine x_istore (np := 13) (x := 6) (lo' := [x_r 61, x_r (ra1 + 1), iv_c a2, iv_c 2147483651, iv_c 2147483649, iv_c a5, iv_c v2]) (by decide +kernel) l3 (Nat.le_of_ble_eq_true rfl) rfl ?_
  refine x_iload (np := 15) (x := 6) (by decide +kernel) rfl l3 ?_
  refine x_const (np := 16) (x := 9223372034707292159) (a := 2147483647) (by decide +kernel) (by decide) (by decide) ?_
  refine x_icmp (k := 1) (tg := 21) (np := 19) (by decide +kernel) (by decide) l3 (by decide) (fun q11 => ?_) (fun q12 => ?_)
  · have q11 : v2 ≠ 2147483647 := q11
    refine x_aload (np := 22) (x := 1) (by decide +kernel) rfl (x_nc_le (tn_1 ta1)) ?_
    refine x_iload (np := 23) (x := 2) (by decide +kernel) rfl la2 ?_
    refine x_iload (np := 24) (x := 3) (by decide +kernel) rfl (by decide) ?_
    refine x_iload (np := 26) (x := 6) (by decide +kernel) rfl l3 ?_
    refine x_cV (t := 6) (mj := 69) (n := 4) (rc := 7) (ml := 5) (nr := 0) (np := 29) (as := [x_r (ra1 + 1), iv_c a2, iv_c 2147483651, iv_c v2]) (rest := []) (lo1 := [x_r (ra1 + 1), iv_c a2, iv_c 2147483651, iv_c v2, 147573952589676412928]) (by decide +kernel) (by decide) (by decide +kernel) (x_rb_of (tr_1_7 ta1)) rfl rfl (x_wr (tn_1 ta1) (x_wi la2 (x_wi (by decide) (x_wi l3 x_wn)))) x_wn (by decide) rfl (c69_T1_c3 j6 ta1 (by omega)  (by omega)) (fun h16 q15 => ?_)
    obtain ⟨j17, f18⟩ := q15
    have f21 := Fr.trans f10 f18 (by decide)
    refine x_const (np := 30) (x := 9223372043297226753) (a := 2147483649) (by decide +kernel) (by decide) (by decide) ?_
    refine x_retI (np := 31) (x := 0) (by decide +kernel) (by decide) (Or.inr ⟨by decide +kernel, by omega, by omega⟩) ⟨_, rfl, (by decide), ?_⟩
    exact ⟨j17, f21, (by omega)⟩
  have q12 : ¬ (v2 ≠ 2147483647) := q12
  refine x_const (np := 20) (x := 9223372039002259456) (a := 2147483648) (by decide +kernel) (by decide) (by decide) ?_
  refine x_retI (np := 21) (x := 0) (by decide +kernel) (by decide) (Or.inr ⟨by decide +kernel, by omega, by omega⟩) ⟨_, rfl, (by decide), ?_⟩
  exact ⟨j6, f10, (by omega)⟩
set_option maxHeartbeats 0 in
/-- LentNames$Table.put(III)V -/
theorem c69_T1_c4 {sc : Nat × Nat} {d ra0 a1 a3 : Nat} {h : xh} (hJ : J h) (ta0 : tw ra0) (ba1 : 2147483647 ≤ a1 ∧ a1 ≤ 2147483667) (ba3 : 2147483649 ≤ a3 ∧ a3 ≤ 2147483649) : X sc 69 d (xV fun h' => J h' ∧ Fr 129 h h') 0 0 0 [x_r (ra0 + 1), iv_c a1, iv_c 2147483652, iv_c a3, 147573952589676412928] [] h := by
  have la1 : a1 < 4294967296 := by omega
  have la3 : a3 < 4294967296 := by omega
  have hF := Fr.refl 129 h
  refine x_iload (np := 1) (x := 1) (by decide +kernel) rfl la1 ?_
  refine x_ifz (k := 2) (tg := 28) (np := 4) (by decide +kernel) (by decide) la1 (fun q1 => ?_) (fun q2 => ?_)
  · have q1 : a1 < 2147483648 := q1
    refine x_const (np := 29) (x := 9223372039002259456) (a := 2147483648) (by decide +kernel) (by decide) (by decide) ?_
    refine x_istore (np := 31) (x := 4) (lo' := [x_r (ra0 + 1), iv_c a1, iv_c 2147483652, iv_c a3, iv_c 2147483648]) (by decide +kernel) (by decide) (Nat.le_of_ble_eq_true rfl) rfl ?_
    refine x_iload (np := 33) (x := 4) (by decide +kernel) rfl (by decide) ?_
    refine x_ifz (k := 0) (tg := 50) (np := 36) (by decide +kernel) (by decide) (by decide) (fun q3 => ?_) (fun q4 => ?_)
    · have q3 : 2147483648 = 2147483648 := q3
      refine x_retV (np := 51) (x := 0) (by decide +kernel) (by decide +kernel) ⟨rfl, ?_⟩
      exact ⟨hJ, hF⟩
    have q4 : ¬ (2147483648 = 2147483648) := q4
    exfalso; omega
  have q2 : ¬ (a1 < 2147483648) := q2
  refine x_iload (np := 5) (x := 1) (by decide +kernel) rfl la1 ?_
  refine x_aload (np := 6) (x := 0) (by decide +kernel) rfl (x_nc_le (tn_1 ta0)) ?_
  have b5 := jB (e := 2) 0 hJ (rg_T1_2_0_1 ta0) (by omega) (by omega)
  refine x_getC (np := 9) (x := 386) (f := 2) (q := (h (ra0 + 1) 2)) (by decide +kernel) (by decide) (tg_1_386_2_0 ta0) rfl (fun l6 => ?_)
  refine x_icmp (k := 3) (tg := 28) (np := 12) (by decide +kernel) (by decide) la1 l6 (fun q7 => ?_) (fun q8 => ?_)
  · have q7 : (h (ra0 + 1) 2) ≤ a1 := q7
    refine x_const (np := 29) (x := 9223372039002259456) (a := 2147483648) (by decide +kernel) (by decide) (by decide) ?_
    refine x_istore (np := 31) (x := 4) (lo' := [x_r (ra0 + 1), iv_c a1, iv_c 2147483652, iv_c a3, iv_c 2147483648]) (by decide +kernel) (by decide) (Nat.le_of_ble_eq_true rfl) rfl ?_
    refine x_iload (np := 33) (x := 4) (by decide +kernel) rfl (by decide) ?_
    refine x_ifz (k := 0) (tg := 50) (np := 36) (by decide +kernel) (by decide) (by decide) (fun q9 => ?_) (fun q10 => ?_)
    · have q9 : 2147483648 = 2147483648 := q9
      refine x_retV (np := 51) (x := 0) (by decide +kernel) (by decide +kernel) ⟨rfl, ?_⟩
      exact ⟨hJ, hF⟩
    have q10 : ¬ (2147483648 = 2147483648) := q10
    exfalso; omega
  have q8 : ¬ ((h (ra0 + 1) 2) ≤ a1) := q8
  refine x_iload (np := 13) (x := 2) (by decide +kernel) rfl (by decide) ?_
  refine x_ifz (k := 2) (tg := 28) (np := 16) (by decide +kernel) (by decide) (by decide) (fun q11 => ?_) (fun q12 => ?_)
  · have q11 : 2147483652 < 2147483648 := q11
    exfalso; omega
  have q12 : ¬ (2147483652 < 2147483648) := q12
  refine x_iload (np := 17) (x := 2) (by decide +kernel) rfl (by decide) ?_
  refine x_aload (np := 18) (x := 0) (by decide +kernel) rfl (x_nc_le (tn_1 ta0)) ?_
  have b13 := jB (e := 0) 0 hJ (rg_T1_0_0_1 ta0) (by omega) (by omega)
  have q14 : (h (ra0 + 1) 0) = 2147483655 := by omega
  refine x_getC (np := 21) (x := 384) (f := 0) (q := 2147483655) (by decide +kernel) (by decide) (tg_1_384_0_0 ta0) q14 (fun l15 => ?_)
  refine x_icmp (k := 3) (tg := 28) (np := 24) (by decide +kernel) (by decide) (by decide) (by decide) (fun q16 => ?_) (fun q17 => ?_)
  · have q16 : 2147483655 ≤ 2147483652 := q16
    exfalso; omega
  have q17 : ¬ (2147483655 ≤ 2147483652) := q17
  refine x_const (np := 25) (x := 9223372043297226753) (a := 2147483649) (by decide +kernel) (by decide) (by decide) ?_
  refine x_goto (np := 28) (x := 29) (by decide +kernel) ?_
  refine x_istore (np := 31) (x := 4) (lo' := [x_r (ra0 + 1), iv_c a1, iv_c 2147483652, iv_c a3, iv_c 2147483649]) (by decide +kernel) (by decide) (Nat.le_of_ble_eq_true rfl) rfl ?_
  refine x_iload (np := 33) (x := 4) (by decide +kernel) rfl (by decide) ?_
  refine x_ifz (k := 0) (tg := 50) (np := 36) (by decide +kernel) (by decide) (by decide) (fun q18 => ?_) (fun q19 => ?_)
  · have q18 : 2147483649 = 2147483648 := q18
    exfalso; omega
  have q19 : ¬ (2147483649 = 2147483648) := q19
  refine x_aload (np := 37) (x := 0) (by decide +kernel) rfl (x_nc_le (tn_1 ta0)) ?_
  have q20 : h (ra0 + 1) 1 = (ra0 + 2) := tf_1_1 hJ ta0
  refine x_getR (np := 40) (x := 385) (f := 1) (q := (ra0 + 2)) (by decide +kernel) (by decide) (tg_1_385_1_1 ta0) q20 ?_
  refine x_iload (np := 41) (x := 1) (by decide +kernel) rfl la1 ?_
  refine x_aload (np := 42) (x := 0) (by decide +kernel) rfl (x_nc_le (tn_1 ta0)) ?_
  refine x_getC (np := 45) (x := 384) (f := 0) (q := 2147483655) (by decide +kernel) (by decide) (tg_1_384_0_0 ta0) q14 (fun l21 => ?_)
  obtain ⟨u22, q23⟩ : ∃ z, a1 = 2147483648 + z := ⟨a1 - 2147483648, by omega⟩
  refine x_imul (np := 46) (x := 0) (i := u22) (j := 7) (v := (2147483648 + 7 * u22)) (by decide +kernel) (by omega) (by omega) (by omega) (by omega) la1 (by decide) ?_
  refine x_iload (np := 47) (x := 2) (by decide +kernel) rfl (by decide) ?_
  refine x_iadd (np := 48) (x := 0) (v := (2147483652 + 7 * u22)) (by decide +kernel) (by omega) (by decide) (by omega) (by omega) ?_
  refine x_iload (np := 49) (x := 3) (by decide +kernel) rfl la3 ?_
  refine x_ast (np := 50) (x := 0) (kd := 1) (n := 140) (i := (4 + 7 * u22)) (by decide +kernel) (Or.inl rfl) (ta_2_140 ta0) (by omega) (by omega) (by decide) la3 (fun z => absurd z (by decide)) ?_
  have j26 := jU (e := (4 + 7 * u22)) (v := a3) u22 hJ (rg_T2_4_7_20 ta0) (by omega) (by omega) (by omega)
  have f28 := jF (e := (4 + 7 * u22)) (v := a3) u22 hF (rg_T2_4_7_20 ta0) (by omega) (by omega) (by decide)
  generalize e27 : x_up h (ra0 + 2) (4 + 7 * u22) a3 = h25 at j26 f28 ⊢
  refine x_retV (np := 51) (x := 0) (by decide +kernel) (by decide +kernel) ⟨rfl, ?_⟩
  exact ⟨j26, f28⟩
set_option maxHeartbeats 0 in
/-- LentNames$Table.put(III)V -/
theorem c69_T1_c5 {sc : Nat × Nat} {d ra0 a1 a3 : Nat} {h : xh} (hJ : J h) (ta0 : tw ra0) (ba1 : 2147483647 ≤ a1 ∧ a1 ≤ 2147483667) (ba3 : 2147483648 ≤ a3 ∧ a3 ≤ 2147484769) : X sc 69 d (xV fun h' => J h' ∧ Fr 129 h h') 0 0 0 [x_r (ra0 + 1), iv_c a1, iv_c 2147483653, iv_c a3, 147573952589676412928] [] h := by
  have la1 : a1 < 4294967296 := by omega
  have la3 : a3 < 4294967296 := by omega
  have hF := Fr.refl 129 h
  refine x_iload (np := 1) (x := 1) (by decide +kernel) rfl la1 ?_
  refine x_ifz (k := 2) (tg := 28) (np := 4) (by decide +kernel) (by decide) la1 (fun q1 => ?_) (fun q2 => ?_)
  · have q1 : a1 < 2147483648 := q1
    refine x_const (np := 29) (x := 9223372039002259456) (a := 2147483648) (by decide +kernel) (by decide) (by decide) ?_
    refine x_istore (np := 31) (x := 4) (lo' := [x_r (ra0 + 1), iv_c a1, iv_c 2147483653, iv_c a3, iv_c 2147483648]) (by decide +kernel) (by decide) (Nat.le_of_ble_eq_true rfl) rfl ?_
    refine x_iload (np := 33) (x := 4) (by decide +kernel) rfl (by decide) ?_
    refine x_ifz (k := 0) (tg := 50) (np := 36) (by decide +kernel) (by decide) (by decide) (fun q3 => ?_) (fun q4 => ?_)
    · have q3 : 2147483648 = 2147483648 := q3
      refine x_retV (np := 51) (x := 0) (by decide +kernel) (by decide +kernel) ⟨rfl, ?_⟩
      exact ⟨hJ, hF⟩
    have q4 : ¬ (2147483648 = 2147483648) := q4
    exfalso; omega
  have q2 : ¬ (a1 < 2147483648) := q2
  refine x_iload (np := 5) (x := 1) (by decide +kernel) rfl la1 ?_
  refine x_aload (np := 6) (x := 0) (by decide +kernel) rfl (x_nc_le (tn_1 ta0)) ?_
  have b5 := jB (e := 2) 0 hJ (rg_T1_2_0_1 ta0) (by omega) (by omega)
  refine x_getC (np := 9) (x := 386) (f := 2) (q := (h (ra0 + 1) 2)) (by decide +kernel) (by decide) (tg_1_386_2_0 ta0) rfl (fun l6 => ?_)
  refine x_icmp (k := 3) (tg := 28) (np := 12) (by decide +kernel) (by decide) la1 l6 (fun q7 => ?_) (fun q8 => ?_)
  · have q7 : (h (ra0 + 1) 2) ≤ a1 := q7
    refine x_const (np := 29) (x := 9223372039002259456) (a := 2147483648) (by decide +kernel) (by decide) (by decide) ?_
    refine x_istore (np := 31) (x := 4) (lo' := [x_r (ra0 + 1), iv_c a1, iv_c 2147483653, iv_c a3, iv_c 2147483648]) (by decide +kernel) (by decide) (Nat.le_of_ble_eq_true rfl) rfl ?_
    refine x_iload (np := 33) (x := 4) (by decide +kernel) rfl (by decide) ?_
    refine x_ifz (k := 0) (tg := 50) (np := 36) (by decide +kernel) (by decide) (by decide) (fun q9 => ?_) (fun q10 => ?_)
    · have q9 : 2147483648 = 2147483648 := q9
      refine x_retV (np := 51) (x := 0) (by decide +kernel) (by decide +kernel) ⟨rfl, ?_⟩
      exact ⟨hJ, hF⟩
    have q10 : ¬ (2147483648 = 2147483648) := q10
    exfalso; omega
  have q8 : ¬ ((h (ra0 + 1) 2) ≤ a1) := q8
  refine x_iload (np := 13) (x := 2) (by decide +kernel) rfl (by decide) ?_
  refine x_ifz (k := 2) (tg := 28) (np := 16) (by decide +kernel) (by decide) (by decide) (fun q11 => ?_) (fun q12 => ?_)
  · have q11 : 2147483653 < 2147483648 := q11
    exfalso; omega
  have q12 : ¬ (2147483653 < 2147483648) := q12
  refine x_iload (np := 17) (x := 2) (by decide +kernel) rfl (by decide) ?_
  refine x_aload (np := 18) (x := 0) (by decide +kernel) rfl (x_nc_le (tn_1 ta0)) ?_
  have b13 := jB (e := 0) 0 hJ (rg_T1_0_0_1 ta0) (by omega) (by omega)
  have q14 : (h (ra0 + 1) 0) = 2147483655 := by omega
  refine x_getC (np := 21) (x := 384) (f := 0) (q := 2147483655) (by decide +kernel) (by decide) (tg_1_384_0_0 ta0) q14 (fun l15 => ?_)
  refine x_icmp (k := 3) (tg := 28) (np := 24) (by decide +kernel) (by decide) (by decide) (by decide) (fun q16 => ?_) (fun q17 => ?_)
  · have q16 : 2147483655 ≤ 2147483653 := q16
    exfalso; omega
  have q17 : ¬ (2147483655 ≤ 2147483653) := q17
  refine x_const (np := 25) (x := 9223372043297226753) (a := 2147483649) (by decide +kernel) (by decide) (by decide) ?_
  refine x_goto (np := 28) (x := 29) (by decide +kernel) ?_
  refine x_istore (np := 31) (x := 4) (lo' := [x_r (ra0 + 1), iv_c a1, iv_c 2147483653, iv_c a3, iv_c 2147483649]) (by decide +kernel) (by decide) (Nat.le_of_ble_eq_true rfl) rfl ?_
  refine x_iload (np := 33) (x := 4) (by decide +kernel) rfl (by decide) ?_
  refine x_ifz (k := 0) (tg := 50) (np := 36) (by decide +kernel) (by decide) (by decide) (fun q18 => ?_) (fun q19 => ?_)
  · have q18 : 2147483649 = 2147483648 := q18
    exfalso; omega
  have q19 : ¬ (2147483649 = 2147483648) := q19
  refine x_aload (np := 37) (x := 0) (by decide +kernel) rfl (x_nc_le (tn_1 ta0)) ?_
  have q20 : h (ra0 + 1) 1 = (ra0 + 2) := tf_1_1 hJ ta0
  refine x_getR (np := 40) (x := 385) (f := 1) (q := (ra0 + 2)) (by decide +kernel) (by decide) (tg_1_385_1_1 ta0) q20 ?_
  refine x_iload (np := 41) (x := 1) (by decide +kernel) rfl la1 ?_
  refine x_aload (np := 42) (x := 0) (by decide +kernel) rfl (x_nc_le (tn_1 ta0)) ?_
  refine x_getC (np := 45) (x := 384) (f := 0) (q := 2147483655) (by decide +kernel) (by decide) (tg_1_384_0_0 ta0) q14 (fun l21 => ?_)
  obtain ⟨u22, q23⟩ : ∃ z, a1 = 2147483648 + z := ⟨a1 - 2147483648, by omega⟩
  refine x_imul (np := 46) (x := 0) (i := u22) (j := 7) (v := (2147483648 + 7 * u22)) (by decide +kernel) (by omega) (by omega) (by omega) (by omega) la1 (by decide) ?_
  refine x_iload (np := 47) (x := 2) (by decide +kernel) rfl (by decide) ?_
  refine x_iadd (np := 48) (x := 0) (v := (2147483653 + 7 * u22)) (by decide +kernel) (by omega) (by decide) (by omega) (by omega) ?_
  refine x_iload (np := 49) (x := 3) (by decide +kernel) rfl la3 ?_
  refine x_ast (np := 50) (x := 0) (kd := 1) (n := 140) (i := (5 + 7 * u22)) (by decide +kernel) (Or.inl rfl) (ta_2_140 ta0) (by omega) (by omega) (by decide) la3 (fun z => absurd z (by decide)) ?_
  have j26 := jU (e := (5 + 7 * u22)) (v := a3) u22 hJ (rg_T2_5_7_20 ta0) (by omega) (by omega) (by omega)
  have f28 := jF (e := (5 + 7 * u22)) (v := a3) u22 hF (rg_T2_5_7_20 ta0) (by omega) (by omega) (by decide)
  generalize e27 : x_up h (ra0 + 2) (5 + 7 * u22) a3 = h25 at j26 f28 ⊢
  refine x_retV (np := 51) (x := 0) (by decide +kernel) (by decide +kernel) ⟨rfl, ?_⟩
  exact ⟨j26, f28⟩
set_option maxHeartbeats 0 in
/-- LentNames$TownReader.readInto(LLentNames$Table;IIII)Z -/
theorem c102_61_T1_c5_c0 {sc : Nat × Nat} {d ra1 a2 a5 : Nat} {h : xh} (hJ : J h) (ta1 : tw ra1) (ba2 : 2147483647 ≤ a2 ∧ a2 ≤ 2147483667) (ba5 : 2147484479 ≤ a5 ∧ a5 ≤ 2147484769) : X sc 102 (d + 2) (xI fun r h' => J h' ∧ Fr 161 h h' ∧ (2147483648 ≤ r ∧ r ≤ 2147483649)) 0 0 0 [x_r 61, x_r (ra1 + 1), iv_c a2, iv_c 2147483653, iv_c 2147483648, iv_c a5, 147573952589676412928] [] h := by
  have la2 : a2 < 4294967296 := by omega
  have la5 : a5 < 4294967296 := by omega
  have hF := Fr.refl 161 h
  refine x_aload (np := 1) (x := 0) (by decide +kernel) rfl (x_nc_le (by decide)) ?_
  have q1 : h 61 0 = 1 := by have z := jB (e := 0) 0 hJ rg_61_0_0_1 (by decide) (by decide); omega
  refine x_getR (np := 4) (x := 576) (f := 0) (q := 1) (by decide +kernel) (by decide) (by decide +kernel) q1 ?_
  refine x_iload (np := 6) (x := 4) (by decide +kernel) rfl (by decide) ?_
  refine x_iload (np := 8) (x := 5) (by decide +kernel) rfl la5 ?_
  refine x_cI (t := 6) (mj := 79) (n := 3) (rc := 8) (ml := 5) (nr := 0) (np := 11) (as := [x_r 1, iv_c 2147483648, iv_c a5]) (rest := []) (lo1 := [x_r 1, iv_c 2147483648, iv_c a5, 147573952589676412928, 147573952589676412928]) (by decide +kernel) (by decide) (by decide +kernel) (x_rb_of (by decide +kernel)) rfl rfl (x_wr (by decide) (x_wi (by decide) (x_wi la5 x_wn))) x_wn (by decide) rfl (c79_1_c0 hJ   (by omega)) (fun v2 h5 l3 q4 => ?_)
  obtain ⟨j6, f7, b8, c9⟩ := q4
  have f10 := Fr.trans hF f7 (by decide)
  refine x_istore (np := 13) (x := 6) (lo' := [x_r 61, x_r (ra1 + 1), iv_c a2, iv_c 2147483653, iv_c 2147483648, iv_c a5, iv_c v2]) (by decide +kernel) l3 (Nat.le_of_ble_eq_true rfl) rfl ?_
  refine x_iload (np := 15) (x := 6) (by decide +kernel) rfl l3 ?_
  refine x_const (np := 16) (x := 9223372034707292159) (a := 2147483647) (by decide +kernel) (by decide) (by decide) ?_
  refine x_icmp (k := 1) (tg := 21) (np := 19) (by decide +kernel) (by decide) l3 (by decide) (fun q11 => ?_) (fun q12 => ?_)
  · have q11 : v2 ≠ 2147483647 := q11
    refine x_aload (np := 22) (x := 1) (by decide +kernel) rfl (x_nc_le (tn_1 ta1)) ?_
    refine x_iload (np := 23) (x := 2) (by decide +kernel) rfl la2 ?_
    refine x_iload (np := 24) (x := 3) (by decide +kernel) rfl (by decide) ?_
    refine x_iload (np := 26) (x := 6) (by decide +kernel) rfl l3 ?_
    refine x_cV (t := 6) (mj := 69) (n := 4) (rc := 7) (ml := 5) (nr := 0) (np := 29) (as := [x_r (ra1 + 1), iv_c a2, iv_c 2147483653, iv_c v2]) (rest := []) (lo1 := [x_r (ra1 + 1), iv_c a2, iv_c 2147483653, iv_c v2, 147573952589676412928]) (by decide +kernel) (by decide) (by decide +kernel) (x_rb_of (tr_1_7 ta1)) rfl rfl (x_wr (tn_1 ta1) (x_wi la2 (x_wi (by decide) (x_wi l3 x_wn)))) x_wn (by decide) rfl (c69_T1_c5 j6 ta1 (by omega)  (by omega)) (fun h16 q15 => ?_)
    obtain ⟨j17, f18⟩ := q15
    have f21 := Fr.trans f10 f18 (by decide)
    refine x_const (np := 30) (x := 9223372043297226753) (a := 2147483649) (by decide +kernel) (by decide) (by decide) ?_
    refine x_retI (np := 31) (x := 0) (by decide +kernel) (by decide) (Or.inr ⟨by decide +kernel, by omega, by omega⟩) ⟨_, rfl, (by decide), ?_⟩
    exact ⟨j17, f21, (by omega)⟩
  have q12 : ¬ (v2 ≠ 2147483647) := q12
  refine x_const (np := 20) (x := 9223372039002259456) (a := 2147483648) (by decide +kernel) (by decide) (by decide) ?_
  refine x_retI (np := 21) (x := 0) (by decide +kernel) (by decide) (Or.inr ⟨by decide +kernel, by omega, by omega⟩) ⟨_, rfl, (by decide), ?_⟩
  exact ⟨j6, f10, (by omega)⟩
set_option maxHeartbeats 0 in
/-- LentNames$TownReader.readLoan()Z -/
theorem c94_61 {sc : Nat × Nat} {d  : Nat} {h : xh} (hJ : J h) : X sc 94 (d + 6) (xI fun r h' => J h' ∧ Fr 161 h h' ∧ (2147483648 ≤ r ∧ r ≤ 2147483649)) 0 0 0 [x_r 61, 147573952589676412928] [] h := by
  have hF := Fr.refl 161 h
  refine x_aload (np := 1) (x := 0) (by decide +kernel) rfl (x_nc_le (by decide)) ?_
  have t1 : tw (h 61 1) := hJ.2.2.2.2.1
  refine x_getR (np := 4) (x := 577) (f := 1) (q := (h 61 1)) (by decide +kernel) (by decide) (by decide +kernel) rfl ?_
  have q2 : h (h 61 1) 0 = ((h 61 1) + 1) := tf_0_0 hJ t1
  refine x_getR (np := 7) (x := 512) (f := 0) (q := ((h 61 1) + 1)) (by decide +kernel) (by decide) (tg_0_512_0_1 t1) q2 ?_
  refine x_cI (t := 6) (mj := 67) (n := 1) (rc := 7) (ml := 2) (nr := 0) (np := 10) (as := [x_r ((h 61 1) + 1)]) (rest := []) (lo1 := [x_r ((h 61 1) + 1), 147573952589676412928]) (by decide +kernel) (by decide) (by decide +kernel) (x_rb_of (tr_1_7 t1)) rfl rfl (x_wr (tn_1 t1) x_wn) x_wn (by decide) rfl (c67_T1 hJ t1) (fun v3 h6 l4 q5 => ?_)
  obtain ⟨j7, f8, b9⟩ := q5
  have f10 := Fr.trans hF f8 (by decide)
  refine x_istore (np := 11) (x := 1) (lo' := [x_r 61, iv_c v3]) (by decide +kernel) l4 (Nat.le_of_ble_eq_true rfl) rfl ?_
  refine x_aload (np := 12) (x := 0) (by decide +kernel) rfl (x_nc_le (by decide)) ?_
  refine x_aload (np := 13) (x := 0) (by decide +kernel) rfl (x_nc_le (by decide)) ?_
  have q11 : h6 61 1 = h 61 1 := f8 61 1 (by decide +kernel)
  refine x_getR (np := 16) (x := 577) (f := 1) (q := (h 61 1)) (by decide +kernel) (by decide) (by decide +kernel) q11 ?_
  have q12 : h6 (h 61 1) 0 = ((h 61 1) + 1) := tf_0_0 j7 t1
  refine x_getR (np := 19) (x := 512) (f := 0) (q := ((h 61 1) + 1)) (by decide +kernel) (by decide) (tg_0_512_0_1 t1) q12 ?_
  refine x_iload (np := 20) (x := 1) (by decide +kernel) rfl l4 ?_
  refine x_const (np := 21) (x := 9223372039002259456) (a := 2147483648) (by decide +kernel) (by decide) (by decide) ?_
  refine x_const (np := 22) (x := 9223372039002259456) (a := 2147483648) (by decide +kernel) (by decide) (by decide) ?_
  refine x_aload (np := 23) (x := 0) (by decide +kernel) rfl (x_nc_le (by decide)) ?_
  have q13 : h6 61 1 = h 61 1 := f8 61 1 (by decide +kernel)
  refine x_getR (np := 26) (x := 577) (f := 1) (q := (h 61 1)) (by decide +kernel) (by decide) (by decide +kernel) q13 ?_
  have b14 := jB (e := 7) 0 j7 (rg_T0_7_0_1 t1) (by omega) (by omega)
  refine x_getC (np := 29) (x := 519) (f := 7) (q := (h6 (h 61 1) 7)) (by decide +kernel) (by decide) (tg_0_519_7_0 t1) rfl (fun l15 => ?_)
  refine x_const (np := 30) (x := 9223372043297226753) (a := 2147483649) (by decide +kernel) (by decide) (by decide) ?_
  obtain ⟨v16, q17⟩ : ∃ z, z + 2147483649 = (h6 (h 61 1) 7) + 2147483648 := ⟨(h6 (h 61 1) 7) + 2147483648 - 2147483649, by omega⟩
  refine x_isub (np := 31) (x := 0) (v := v16) (by decide +kernel) l15 (by decide) (by omega) (by omega) ?_
  refine x_cI (t := 6) (mj := 102) (n := 6) (rc := 10) (ml := 7) (nr := 0) (np := 34) (as := [x_r 61, x_r ((h 61 1) + 1), iv_c v3, iv_c 2147483648, iv_c 2147483648, iv_c v16]) (rest := []) (lo1 := [x_r 61, x_r ((h 61 1) + 1), iv_c v3, iv_c 2147483648, iv_c 2147483648, iv_c v16, 147573952589676412928]) (by decide +kernel) (by decide) (by decide +kernel) (x_rb_of (by decide +kernel)) rfl rfl (x_wr (by decide) (x_wr (tn_1 t1) (x_wi l4 (x_wi (by decide) (x_wi (by decide) (x_wi (by omega) x_wn)))))) x_wn (by decide) rfl (c102_61_T1_c0_c0 j7  t1 (by omega)   (by omega)) (fun v18 h21 l19 q20 => ?_)
  obtain ⟨j22, f23, b24⟩ := q20
  have f25 := Fr.trans f10 f23 (by decide)
  refine x_ifz (k := 0) (tg := 137) (np := 37) (by decide +kernel) (by decide) l19 (fun q26 => ?_) (fun q27 => ?_)
  · have q26 : v18 = 2147483648 := q26
    refine x_const (np := 138) (x := 9223372039002259456) (a := 2147483648) (by decide +kernel) (by decide) (by decide) ?_
    refine x_retI (np := 139) (x := 0) (by decide +kernel) (by decide) (Or.inr ⟨by decide +kernel, by omega, by omega⟩) ⟨_, rfl, (by decide), ?_⟩
    exact ⟨j22, f25, (by omega)⟩
  have q27 : ¬ (v18 = 2147483648) := q27
  refine x_aload (np := 38) (x := 0) (by decide +kernel) rfl (x_nc_le (by decide)) ?_
  have q28 : h21 61 0 = 1 := by have z := jB (e := 0) 0 j22 rg_61_0_0_1 (by decide) (by decide); omega
  refine x_getR (np := 41) (x := 576) (f := 0) (q := 1) (by decide +kernel) (by decide) (by decide +kernel) q28 ?_
  refine x_ldcB (i := 1) (idx := 109) (tx := "to") (by rw [tb_y94]; exact List.mem_of_getElem? (i := 1) rfl) (by decide) (by rw [tb_b94]; decide +kernel) ?_
  refine x_nI (t := 6) (mj := 78) (n := 2) (rc := 8) (ml := 2) (nr := 0) (np := 46) (as := [x_r 1, x_b (1 + 1)]) (rest := []) (lo1 := [x_r 1, x_b (1 + 1)]) (by decide +kernel) (by decide) (by decide +kernel) (x_rb_of (by decide +kernel)) rfl rfl (x_wr (by decide) (x_wB (by decide) x_wn)) x_wn (by decide) rfl ?_
  refine x_aload (np := 1) (x := 0) (by decide +kernel) rfl (x_nc_le (by decide)) ?_
  refine x_aloadB (i := 1) (k4 := 1) rfl (by decide) (by rw [tb_b78]; decide +kernel) ?_
  refine x_cP (t := 6) (mj := 77) (n := 2) (rc := 8) (ml := 4) (nr := 0) (np := 5) (as := [x_r 1, x_b (1 + 1)]) (rest := []) (lo1 := [x_r 1, x_b (1 + 1), 147573952589676412928, 147573952589676412928]) (by decide +kernel) (by decide) (by decide +kernel) (x_rb_of (by decide +kernel)) rfl rfl (x_wr (by decide) (x_wB (by decide) x_wn)) x_wn (by decide) rfl (c77_1_S0 j22  (by decide)) (fun v29 l30 q31 => ?_)
  obtain ⟨b33, c32⟩ := q31
  have b34 := jB (e := 2) 0 j22 rg_1_2_0_1 (by omega) (by omega)
  refine x_ifz (k := 1) (tg := 10) (np := 8) (by decide +kernel) (by decide) l30 (fun q35 => ?_) (fun q36 => ?_)
  · have q35 : v29 ≠ 2147483648 := q35
    have b37 := c32 (by omega)
    refine x_aload (np := 11) (x := 0) (by decide +kernel) rfl (x_nc_le (by decide)) ?_
    refine x_aload (np := 12) (x := 0) (by decide +kernel) rfl (x_nc_le (by decide)) ?_
    refine x_getC (np := 15) (x := 450) (f := 2) (q := (h21 1 2)) (by decide +kernel) (by decide) (by decide +kernel) rfl (fun l38 => ?_)
    refine x_aloadB (i := 1) (k4 := 1) rfl (by decide) (by rw [tb_b78]; decide +kernel) ?_
    have b39 := (iv_tl_lt 1 (by decide)).1
    have b40 := iv_tl_ge 1 (by decide)
    refine x_len (by decide +kernel) (by rw [tb_y78]; exact sl_Tl) (by decide) (by rw [tb_b78]; decide +kernel) (Nat.le_trans (x_wi l38 (x_wr (by decide) x_wn)) (by decide)) ?_
    refine x_iadd (np := 20) (x := 0) (v := ((h21 1 2) + (iv_tl 1))) (by decide +kernel) l38 (by omega) (by omega) (by omega) ?_
    refine x_cV (t := 6) (mj := 80) (n := 2) (rc := 8) (ml := 2) (nr := 0) (np := 23) (as := [x_r 1, iv_c ((h21 1 2) + (iv_tl 1))]) (rest := []) (lo1 := [x_r 1, iv_c ((h21 1 2) + (iv_tl 1))]) (by decide +kernel) (by decide) (by decide +kernel) (x_rb_of (by decide +kernel)) rfl rfl (x_wr (by decide) (x_wi (by omega) x_wn)) x_wn (by decide) rfl (c80_1n j22  (by omega)) (fun h44 q43 => ?_)
    obtain ⟨j45, f46⟩ := q43
    have f49 := Fr.trans f25 f46 (by decide)
    refine x_const (np := 24) (x := 9223372043297226753) (a := 2147483649) (by decide +kernel) (by decide) (by decide) ?_
    refine x_retI (np := 25) (x := 0) (by decide +kernel) (by decide) (Or.inr ⟨by decide +kernel, by omega, by omega⟩) ⟨_, rfl, (by decide), ?_⟩
    refine x_ifz (k := 0) (tg := 137) (np := 49) (by decide +kernel) (by decide) (by decide) (fun q50 => ?_) (fun q51 => ?_)
    · have q50 : 2147483649 = 2147483648 := q50
      exfalso; omega
    have q51 : ¬ (2147483649 = 2147483648) := q51
    refine x_aload (np := 50) (x := 0) (by decide +kernel) rfl (x_nc_le (by decide)) ?_
    refine x_aload (np := 51) (x := 0) (by decide +kernel) rfl (x_nc_le (by decide)) ?_
    have q52 : h44 61 1 = h21 61 1 := f46 61 1 (by decide +kernel)
    have q53 : h21 61 1 = h6 61 1 := f23 61 1 (by decide +kernel)
    have q54 : h6 61 1 = h 61 1 := f8 61 1 (by decide +kernel)
    refine x_getR (np := 54) (x := 577) (f := 1) (q := (h 61 1)) (by decide +kernel) (by decide) (by decide +kernel) ((q52.trans q53).trans q54) ?_
    have q55 : h44 (h 61 1) 0 = ((h 61 1) + 1) := tf_0_0 j45 t1
    refine x_getR (np := 57) (x := 512) (f := 0) (q := ((h 61 1) + 1)) (by decide +kernel) (by decide) (tg_0_512_0_1 t1) q55 ?_
    refine x_iload (np := 58) (x := 1) (by decide +kernel) rfl l4 ?_
    refine x_const (np := 59) (x := 9223372043297226753) (a := 2147483649) (by decide +kernel) (by decide) (by decide) ?_
    refine x_const (np := 60) (x := 9223372039002259456) (a := 2147483648) (by decide +kernel) (by decide) (by decide) ?_
    refine x_aload (np := 61) (x := 0) (by decide +kernel) rfl (x_nc_le (by decide)) ?_
    have q56 : h44 61 1 = h21 61 1 := f46 61 1 (by decide +kernel)
    have q57 : h21 61 1 = h6 61 1 := f23 61 1 (by decide +kernel)
    have q58 : h6 61 1 = h 61 1 := f8 61 1 (by decide +kernel)
    refine x_getR (np := 64) (x := 577) (f := 1) (q := (h 61 1)) (by decide +kernel) (by decide) (by decide +kernel) ((q56.trans q57).trans q58) ?_
    have q59 : h44 (h 61 1) 7 = h21 (h 61 1) 7 := jK 0 f46 (rg_T0_7_0_1 t1) (by omega) (by omega) (by decide)
    have b60 := jB (e := 7) 0 j22 (rg_T0_7_0_1 t1) (by omega) (by omega)
    refine x_getC (np := 67) (x := 519) (f := 7) (q := (h21 (h 61 1) 7)) (by decide +kernel) (by decide) (tg_0_519_7_0 t1) q59 (fun l61 => ?_)
    refine x_const (np := 68) (x := 9223372043297226753) (a := 2147483649) (by decide +kernel) (by decide) (by decide) ?_
    obtain ⟨v62, q63⟩ : ∃ z, z + 2147483649 = (h21 (h 61 1) 7) + 2147483648 := ⟨(h21 (h 61 1) 7) + 2147483648 - 2147483649, by omega⟩
    refine x_isub (np := 69) (x := 0) (v := v62) (by decide +kernel) l61 (by decide) (by omega) (by omega) ?_
    refine x_cI (t := 6) (mj := 102) (n := 6) (rc := 10) (ml := 7) (nr := 0) (np := 72) (as := [x_r 61, x_r ((h 61 1) + 1), iv_c v3, iv_c 2147483649, iv_c 2147483648, iv_c v62]) (rest := []) (lo1 := [x_r 61, x_r ((h 61 1) + 1), iv_c v3, iv_c 2147483649, iv_c 2147483648, iv_c v62, 147573952589676412928]) (by decide +kernel) (by decide) (by decide +kernel) (x_rb_of (by decide +kernel)) rfl rfl (x_wr (by decide) (x_wr (tn_1 t1) (x_wi l4 (x_wi (by decide) (x_wi (by decide) (x_wi (by omega) x_wn)))))) x_wn (by decide) rfl (c102_61_T1_c1_c0 j45  t1 (by omega)   (by omega)) (fun v64 h67 l65 q66 => ?_)
    obtain ⟨j68, f69, b70⟩ := q66
    have f71 := Fr.trans f49 f69 (by decide)
    refine x_ifz (k := 0) (tg := 137) (np := 75) (by decide +kernel) (by decide) l65 (fun q72 => ?_) (fun q73 => ?_)
    · have q72 : v64 = 2147483648 := q72
      refine x_const (np := 138) (x := 9223372039002259456) (a := 2147483648) (by decide +kernel) (by decide) (by decide) ?_
      refine x_retI (np := 139) (x := 0) (by decide +kernel) (by decide) (Or.inr ⟨by decide +kernel, by omega, by omega⟩) ⟨_, rfl, (by decide), ?_⟩
      exact ⟨j68, f71, (by omega)⟩
    have q73 : ¬ (v64 = 2147483648) := q73
    refine x_aload (np := 76) (x := 0) (by decide +kernel) rfl (x_nc_le (by decide)) ?_
    have q74 : h67 61 0 = 1 := by have z := jB (e := 0) 0 j68 rg_61_0_0_1 (by decide) (by decide); omega
    refine x_getR (np := 79) (x := 576) (f := 0) (q := 1) (by decide +kernel) (by decide) (by decide +kernel) q74 ?_
    refine x_ldcB (i := 2) (idx := 111) (tx := "day") (by rw [tb_y94]; exact List.mem_of_getElem? (i := 2) rfl) (by decide) (by rw [tb_b94]; decide +kernel) ?_
    refine x_nI (t := 6) (mj := 78) (n := 2) (rc := 8) (ml := 2) (nr := 0) (np := 84) (as := [x_r 1, x_b (2 + 1)]) (rest := []) (lo1 := [x_r 1, x_b (2 + 1)]) (by decide +kernel) (by decide) (by decide +kernel) (x_rb_of (by decide +kernel)) rfl rfl (x_wr (by decide) (x_wB (by decide) x_wn)) x_wn (by decide) rfl ?_
    refine x_aload (np := 1) (x := 0) (by decide +kernel) rfl (x_nc_le (by decide)) ?_
    refine x_aloadB (i := 2) (k4 := 1) rfl (by decide) (by rw [tb_b78]; decide +kernel) ?_
    refine x_cP (t := 6) (mj := 77) (n := 2) (rc := 8) (ml := 4) (nr := 0) (np := 5) (as := [x_r 1, x_b (2 + 1)]) (rest := []) (lo1 := [x_r 1, x_b (2 + 1), 147573952589676412928, 147573952589676412928]) (by decide +kernel) (by decide) (by decide +kernel) (x_rb_of (by decide +kernel)) rfl rfl (x_wr (by decide) (x_wB (by decide) x_wn)) x_wn (by decide) rfl (c77_1_S0 j68  (by decide)) (fun v75 l76 q77 => ?_)
    obtain ⟨b79, c78⟩ := q77
    have b80 := jB (e := 2) 0 j68 rg_1_2_0_1 (by omega) (by omega)
    refine x_ifz (k := 1) (tg := 10) (np := 8) (by decide +kernel) (by decide) l76 (fun q81 => ?_) (fun q82 => ?_)
    · have q81 : v75 ≠ 2147483648 := q81
      have b83 := c78 (by omega)
      refine x_aload (np := 11) (x := 0) (by decide +kernel) rfl (x_nc_le (by decide)) ?_
      refine x_aload (np := 12) (x := 0) (by decide +kernel) rfl (x_nc_le (by decide)) ?_
      refine x_getC (np := 15) (x := 450) (f := 2) (q := (h67 1 2)) (by decide +kernel) (by decide) (by decide +kernel) rfl (fun l84 => ?_)
      refine x_aloadB (i := 2) (k4 := 1) rfl (by decide) (by rw [tb_b78]; decide +kernel) ?_
      have b85 := (iv_tl_lt 2 (by decide)).1
      have b86 := iv_tl_ge 2 (by decide)
      refine x_len (by decide +kernel) (by rw [tb_y78]; exact sl_Tl) (by decide) (by rw [tb_b78]; decide +kernel) (Nat.le_trans (x_wi l84 (x_wr (by decide) x_wn)) (by decide)) ?_
      refine x_iadd (np := 20) (x := 0) (v := ((h67 1 2) + (iv_tl 2))) (by decide +kernel) l84 (by omega) (by omega) (by omega) ?_
      refine x_cV (t := 6) (mj := 80) (n := 2) (rc := 8) (ml := 2) (nr := 0) (np := 23) (as := [x_r 1, iv_c ((h67 1 2) + (iv_tl 2))]) (rest := []) (lo1 := [x_r 1, iv_c ((h67 1 2) + (iv_tl 2))]) (by decide +kernel) (by decide) (by decide +kernel) (x_rb_of (by decide +kernel)) rfl rfl (x_wr (by decide) (x_wi (by omega) x_wn)) x_wn (by decide) rfl (c80_1n j68  (by omega)) (fun h90 q89 => ?_)
      obtain ⟨j91, f92⟩ := q89
      have f95 := Fr.trans f71 f92 (by decide)
      refine x_const (np := 24) (x := 9223372043297226753) (a := 2147483649) (by decide +kernel) (by decide) (by decide) ?_
      refine x_retI (np := 25) (x := 0) (by decide +kernel) (by decide) (Or.inr ⟨by decide +kernel, by omega, by omega⟩) ⟨_, rfl, (by decide), ?_⟩
      refine x_ifz (k := 0) (tg := 137) (np := 87) (by decide +kernel) (by decide) (by decide) (fun q96 => ?_) (fun q97 => ?_)
      · have q96 : 2147483649 = 2147483648 := q96
        exfalso; omega
      have q97 : ¬ (2147483649 = 2147483648) := q97
      refine x_aload (np := 88) (x := 0) (by decide +kernel) rfl (x_nc_le (by decide)) ?_
      refine x_aload (np := 89) (x := 0) (by decide +kernel) rfl (x_nc_le (by decide)) ?_
      have q98 : h90 61 1 = h67 61 1 := f92 61 1 (by decide +kernel)
      have q99 : h67 61 1 = h44 61 1 := f69 61 1 (by decide +kernel)
      have q100 : h44 61 1 = h21 61 1 := f46 61 1 (by decide +kernel)
      have q101 : h21 61 1 = h6 61 1 := f23 61 1 (by decide +kernel)
      have q102 : h6 61 1 = h 61 1 := f8 61 1 (by decide +kernel)
      refine x_getR (np := 92) (x := 577) (f := 1) (q := (h 61 1)) (by decide +kernel) (by decide) (by decide +kernel) ((((q98.trans q99).trans q100).trans q101).trans q102) ?_
      have q103 : h90 (h 61 1) 0 = ((h 61 1) + 1) := tf_0_0 j91 t1
      refine x_getR (np := 95) (x := 512) (f := 0) (q := ((h 61 1) + 1)) (by decide +kernel) (by decide) (tg_0_512_0_1 t1) q103 ?_
      refine x_iload (np := 96) (x := 1) (by decide +kernel) rfl l4 ?_
      refine x_const (np := 97) (x := 9223372047592194050) (a := 2147483650) (by decide +kernel) (by decide) (by decide) ?_
      refine x_const (np := 98) (x := 9223372039002259456) (a := 2147483648) (by decide +kernel) (by decide) (by decide) ?_
      refine x_const (np := 100) (x := 9223372086246899723) (a := 2147483659) (by decide +kernel) (by decide) (by decide) ?_
      refine x_cI (t := 6) (mj := 102) (n := 6) (rc := 10) (ml := 7) (nr := 0) (np := 103) (as := [x_r 61, x_r ((h 61 1) + 1), iv_c v3, iv_c 2147483650, iv_c 2147483648, iv_c 2147483659]) (rest := []) (lo1 := [x_r 61, x_r ((h 61 1) + 1), iv_c v3, iv_c 2147483650, iv_c 2147483648, iv_c 2147483659, 147573952589676412928]) (by decide +kernel) (by decide) (by decide +kernel) (x_rb_of (by decide +kernel)) rfl rfl (x_wr (by decide) (x_wr (tn_1 t1) (x_wi l4 (x_wi (by decide) (x_wi (by decide) (x_wi (by decide) x_wn)))))) x_wn (by decide) rfl (c102_61_T1_c2_c0 j91  t1 (by omega)   (by omega)) (fun v104 h107 l105 q106 => ?_)
      obtain ⟨j108, f109, b110⟩ := q106
      have f111 := Fr.trans f95 f109 (by decide)
      refine x_ifz (k := 0) (tg := 137) (np := 106) (by decide +kernel) (by decide) l105 (fun q112 => ?_) (fun q113 => ?_)
      · have q112 : v104 = 2147483648 := q112
        refine x_const (np := 138) (x := 9223372039002259456) (a := 2147483648) (by decide +kernel) (by decide) (by decide) ?_
        refine x_retI (np := 139) (x := 0) (by decide +kernel) (by decide) (Or.inr ⟨by decide +kernel, by omega, by omega⟩) ⟨_, rfl, (by decide), ?_⟩
        exact ⟨j108, f111, (by omega)⟩
      have q113 : ¬ (v104 = 2147483648) := q113
      refine x_aload (np := 107) (x := 0) (by decide +kernel) rfl (x_nc_le (by decide)) ?_
      have q114 : h107 61 0 = 1 := by have z := jB (e := 0) 0 j108 rg_61_0_0_1 (by decide) (by decide); omega
      refine x_getR (np := 110) (x := 576) (f := 0) (q := 1) (by decide +kernel) (by decide) (by decide +kernel) q114 ?_
      refine x_ldcB (i := 3) (idx := 113) (tx := "for") (by rw [tb_y94]; exact List.mem_of_getElem? (i := 3) rfl) (by decide) (by rw [tb_b94]; decide +kernel) ?_
      refine x_nI (t := 6) (mj := 78) (n := 2) (rc := 8) (ml := 2) (nr := 0) (np := 115) (as := [x_r 1, x_b (3 + 1)]) (rest := []) (lo1 := [x_r 1, x_b (3 + 1)]) (by decide +kernel) (by decide) (by decide +kernel) (x_rb_of (by decide +kernel)) rfl rfl (x_wr (by decide) (x_wB (by decide) x_wn)) x_wn (by decide) rfl ?_
      refine x_aload (np := 1) (x := 0) (by decide +kernel) rfl (x_nc_le (by decide)) ?_
      refine x_aloadB (i := 3) (k4 := 1) rfl (by decide) (by rw [tb_b78]; decide +kernel) ?_
      refine x_cP (t := 6) (mj := 77) (n := 2) (rc := 8) (ml := 4) (nr := 0) (np := 5) (as := [x_r 1, x_b (3 + 1)]) (rest := []) (lo1 := [x_r 1, x_b (3 + 1), 147573952589676412928, 147573952589676412928]) (by decide +kernel) (by decide) (by decide +kernel) (x_rb_of (by decide +kernel)) rfl rfl (x_wr (by decide) (x_wB (by decide) x_wn)) x_wn (by decide) rfl (c77_1_S0 j108  (by decide)) (fun v115 l116 q117 => ?_)
      obtain ⟨b119, c118⟩ := q117
      have b120 := jB (e := 2) 0 j108 rg_1_2_0_1 (by omega) (by omega)
      refine x_ifz (k := 1) (tg := 10) (np := 8) (by decide +kernel) (by decide) l116 (fun q121 => ?_) (fun q122 => ?_)
      · have q121 : v115 ≠ 2147483648 := q121
        have b123 := c118 (by omega)
        refine x_aload (np := 11) (x := 0) (by decide +kernel) rfl (x_nc_le (by decide)) ?_
        refine x_aload (np := 12) (x := 0) (by decide +kernel) rfl (x_nc_le (by decide)) ?_
        refine x_getC (np := 15) (x := 450) (f := 2) (q := (h107 1 2)) (by decide +kernel) (by decide) (by decide +kernel) rfl (fun l124 => ?_)
        refine x_aloadB (i := 3) (k4 := 1) rfl (by decide) (by rw [tb_b78]; decide +kernel) ?_
        have b125 := (iv_tl_lt 3 (by decide)).1
        have b126 := iv_tl_ge 3 (by decide)
        refine x_len (by decide +kernel) (by rw [tb_y78]; exact sl_Tl) (by decide) (by rw [tb_b78]; decide +kernel) (Nat.le_trans (x_wi l124 (x_wr (by decide) x_wn)) (by decide)) ?_
        refine x_iadd (np := 20) (x := 0) (v := ((h107 1 2) + (iv_tl 3))) (by decide +kernel) l124 (by omega) (by omega) (by omega) ?_
        refine x_cV (t := 6) (mj := 80) (n := 2) (rc := 8) (ml := 2) (nr := 0) (np := 23) (as := [x_r 1, iv_c ((h107 1 2) + (iv_tl 3))]) (rest := []) (lo1 := [x_r 1, iv_c ((h107 1 2) + (iv_tl 3))]) (by decide +kernel) (by decide) (by decide +kernel) (x_rb_of (by decide +kernel)) rfl rfl (x_wr (by decide) (x_wi (by omega) x_wn)) x_wn (by decide) rfl (c80_1n j108  (by omega)) (fun h130 q129 => ?_)
        obtain ⟨j131, f132⟩ := q129
        have f135 := Fr.trans f111 f132 (by decide)
        refine x_const (np := 24) (x := 9223372043297226753) (a := 2147483649) (by decide +kernel) (by decide) (by decide) ?_
        refine x_retI (np := 25) (x := 0) (by decide +kernel) (by decide) (Or.inr ⟨by decide +kernel, by omega, by omega⟩) ⟨_, rfl, (by decide), ?_⟩
        refine x_ifz (k := 0) (tg := 137) (np := 118) (by decide +kernel) (by decide) (by decide) (fun q136 => ?_) (fun q137 => ?_)
        · have q136 : 2147483649 = 2147483648 := q136
          exfalso; omega
        have q137 : ¬ (2147483649 = 2147483648) := q137
        refine x_aload (np := 119) (x := 0) (by decide +kernel) rfl (x_nc_le (by decide)) ?_
        refine x_aload (np := 120) (x := 0) (by decide +kernel) rfl (x_nc_le (by decide)) ?_
        have q138 : h130 61 1 = h107 61 1 := f132 61 1 (by decide +kernel)
        have q139 : h107 61 1 = h90 61 1 := f109 61 1 (by decide +kernel)
        have q140 : h90 61 1 = h67 61 1 := f92 61 1 (by decide +kernel)
        have q141 : h67 61 1 = h44 61 1 := f69 61 1 (by decide +kernel)
        have q142 : h44 61 1 = h21 61 1 := f46 61 1 (by decide +kernel)
        have q143 : h21 61 1 = h6 61 1 := f23 61 1 (by decide +kernel)
        have q144 : h6 61 1 = h 61 1 := f8 61 1 (by decide +kernel)
        refine x_getR (np := 123) (x := 577) (f := 1) (q := (h 61 1)) (by decide +kernel) (by decide) (by decide +kernel) ((((((q138.trans q139).trans q140).trans q141).trans q142).trans q143).trans q144) ?_
        have q145 : h130 (h 61 1) 0 = ((h 61 1) + 1) := tf_0_0 j131 t1
        refine x_getR (np := 126) (x := 512) (f := 0) (q := ((h 61 1) + 1)) (by decide +kernel) (by decide) (tg_0_512_0_1 t1) q145 ?_
        refine x_iload (np := 127) (x := 1) (by decide +kernel) rfl l4 ?_
        refine x_const (np := 128) (x := 9223372051887161347) (a := 2147483651) (by decide +kernel) (by decide) (by decide) ?_
        refine x_const (np := 129) (x := 9223372043297226753) (a := 2147483649) (by decide +kernel) (by decide) (by decide) ?_
        refine x_const (np := 131) (x := 9223372090541867020) (a := 2147483660) (by decide +kernel) (by decide) (by decide) ?_
        refine x_cI (t := 6) (mj := 102) (n := 6) (rc := 10) (ml := 7) (nr := 0) (np := 134) (as := [x_r 61, x_r ((h 61 1) + 1), iv_c v3, iv_c 2147483651, iv_c 2147483649, iv_c 2147483660]) (rest := []) (lo1 := [x_r 61, x_r ((h 61 1) + 1), iv_c v3, iv_c 2147483651, iv_c 2147483649, iv_c 2147483660, 147573952589676412928]) (by decide +kernel) (by decide) (by decide +kernel) (x_rb_of (by decide +kernel)) rfl rfl (x_wr (by decide) (x_wr (tn_1 t1) (x_wi l4 (x_wi (by decide) (x_wi (by decide) (x_wi (by decide) x_wn)))))) x_wn (by decide) rfl (c102_61_T1_c3_c1 j131  t1 (by omega)   (by omega)) (fun v146 h149 l147 q148 => ?_)
        obtain ⟨j150, f151, b152⟩ := q148
        have f153 := Fr.trans f135 f151 (by decide)
        refine x_ifz (k := 1) (tg := 139) (np := 137) (by decide +kernel) (by decide) l147 (fun q154 => ?_) (fun q155 => ?_)
        · have q154 : v146 ≠ 2147483648 := q154
          refine x_aload (np := 140) (x := 0) (by decide +kernel) rfl (x_nc_le (by decide)) ?_
          have q156 : h149 61 0 = 1 := by have z := jB (e := 0) 0 j150 rg_61_0_0_1 (by decide) (by decide); omega
          refine x_getR (np := 143) (x := 576) (f := 0) (q := 1) (by decide +kernel) (by decide) (by decide +kernel) q156 ?_
          refine x_ldcB (i := 4) (idx := 115) (tx := "on") (by rw [tb_y94]; exact List.mem_of_getElem? (i := 4) rfl) (by decide) (by rw [tb_b94]; decide +kernel) ?_
          refine x_nI (t := 6) (mj := 78) (n := 2) (rc := 8) (ml := 2) (nr := 0) (np := 148) (as := [x_r 1, x_b (4 + 1)]) (rest := []) (lo1 := [x_r 1, x_b (4 + 1)]) (by decide +kernel) (by decide) (by decide +kernel) (x_rb_of (by decide +kernel)) rfl rfl (x_wr (by decide) (x_wB (by decide) x_wn)) x_wn (by decide) rfl ?_
          refine x_aload (np := 1) (x := 0) (by decide +kernel) rfl (x_nc_le (by decide)) ?_
          refine x_aloadB (i := 4) (k4 := 1) rfl (by decide) (by rw [tb_b78]; decide +kernel) ?_
          refine x_cP (t := 6) (mj := 77) (n := 2) (rc := 8) (ml := 4) (nr := 0) (np := 5) (as := [x_r 1, x_b (4 + 1)]) (rest := []) (lo1 := [x_r 1, x_b (4 + 1), 147573952589676412928, 147573952589676412928]) (by decide +kernel) (by decide) (by decide +kernel) (x_rb_of (by decide +kernel)) rfl rfl (x_wr (by decide) (x_wB (by decide) x_wn)) x_wn (by decide) rfl (c77_1_S0 j150  (by decide)) (fun v157 l158 q159 => ?_)
          obtain ⟨b161, c160⟩ := q159
          have b162 := jB (e := 2) 0 j150 rg_1_2_0_1 (by omega) (by omega)
          refine x_ifz (k := 1) (tg := 10) (np := 8) (by decide +kernel) (by decide) l158 (fun q163 => ?_) (fun q164 => ?_)
          · have q163 : v157 ≠ 2147483648 := q163
            have b165 := c160 (by omega)
            refine x_aload (np := 11) (x := 0) (by decide +kernel) rfl (x_nc_le (by decide)) ?_
            refine x_aload (np := 12) (x := 0) (by decide +kernel) rfl (x_nc_le (by decide)) ?_
            refine x_getC (np := 15) (x := 450) (f := 2) (q := (h149 1 2)) (by decide +kernel) (by decide) (by decide +kernel) rfl (fun l166 => ?_)
            refine x_aloadB (i := 4) (k4 := 1) rfl (by decide) (by rw [tb_b78]; decide +kernel) ?_
            have b167 := (iv_tl_lt 4 (by decide)).1
            have b168 := iv_tl_ge 4 (by decide)
            refine x_len (by decide +kernel) (by rw [tb_y78]; exact sl_Tl) (by decide) (by rw [tb_b78]; decide +kernel) (Nat.le_trans (x_wi l166 (x_wr (by decide) x_wn)) (by decide)) ?_
            refine x_iadd (np := 20) (x := 0) (v := ((h149 1 2) + (iv_tl 4))) (by decide +kernel) l166 (by omega) (by omega) (by omega) ?_
            refine x_cV (t := 6) (mj := 80) (n := 2) (rc := 8) (ml := 2) (nr := 0) (np := 23) (as := [x_r 1, iv_c ((h149 1 2) + (iv_tl 4))]) (rest := []) (lo1 := [x_r 1, iv_c ((h149 1 2) + (iv_tl 4))]) (by decide +kernel) (by decide) (by decide +kernel) (x_rb_of (by decide +kernel)) rfl rfl (x_wr (by decide) (x_wi (by omega) x_wn)) x_wn (by decide) rfl (c80_1n j150  (by omega)) (fun h172 q171 => ?_)
            obtain ⟨j173, f174⟩ := q171
            have f177 := Fr.trans f153 f174 (by decide)
            refine x_const (np := 24) (x := 9223372043297226753) (a := 2147483649) (by decide +kernel) (by decide) (by decide) ?_
            refine x_retI (np := 25) (x := 0) (by decide +kernel) (by decide) (Or.inr ⟨by decide +kernel, by omega, by omega⟩) ⟨_, rfl, (by decide), ?_⟩
            refine x_ifz (k := 0) (tg := 164) (np := 151) (by decide +kernel) (by decide) (by decide) (fun q178 => ?_) (fun q179 => ?_)
            · have q178 : 2147483649 = 2147483648 := q178
              exfalso; omega
            have q179 : ¬ (2147483649 = 2147483648) := q179
            refine x_aload (np := 152) (x := 0) (by decide +kernel) rfl (x_nc_le (by decide)) ?_
            have q180 : h172 61 1 = h149 61 1 := f174 61 1 (by decide +kernel)
            have q181 : h149 61 1 = h130 61 1 := f151 61 1 (by decide +kernel)
            have q182 : h130 61 1 = h107 61 1 := f132 61 1 (by decide +kernel)
            have q183 : h107 61 1 = h90 61 1 := f109 61 1 (by decide +kernel)
            have q184 : h90 61 1 = h67 61 1 := f92 61 1 (by decide +kernel)
            have q185 : h67 61 1 = h44 61 1 := f69 61 1 (by decide +kernel)
            have q186 : h44 61 1 = h21 61 1 := f46 61 1 (by decide +kernel)
            have q187 : h21 61 1 = h6 61 1 := f23 61 1 (by decide +kernel)
            have q188 : h6 61 1 = h 61 1 := f8 61 1 (by decide +kernel)
            refine x_getR (np := 155) (x := 577) (f := 1) (q := (h 61 1)) (by decide +kernel) (by decide) (by decide +kernel) ((((((((q180.trans q181).trans q182).trans q183).trans q184).trans q185).trans q186).trans q187).trans q188) ?_
            have q189 : h172 (h 61 1) 0 = ((h 61 1) + 1) := tf_0_0 j173 t1
            refine x_getR (np := 158) (x := 512) (f := 0) (q := ((h 61 1) + 1)) (by decide +kernel) (by decide) (tg_0_512_0_1 t1) q189 ?_
            refine x_iload (np := 159) (x := 1) (by decide +kernel) rfl l4 ?_
            refine x_const (np := 160) (x := 9223372056182128644) (a := 2147483652) (by decide +kernel) (by decide) (by decide) ?_
            refine x_const (np := 161) (x := 9223372043297226753) (a := 2147483649) (by decide +kernel) (by decide) (by decide) ?_
            refine x_cV (t := 6) (mj := 69) (n := 4) (rc := 7) (ml := 5) (nr := 0) (np := 164) (as := [x_r ((h 61 1) + 1), iv_c v3, iv_c 2147483652, iv_c 2147483649]) (rest := []) (lo1 := [x_r ((h 61 1) + 1), iv_c v3, iv_c 2147483652, iv_c 2147483649, 147573952589676412928]) (by decide +kernel) (by decide) (by decide +kernel) (x_rb_of (tr_1_7 t1)) rfl rfl (x_wr (tn_1 t1) (x_wi l4 (x_wi (by decide) (x_wi (by decide) x_wn)))) x_wn (by decide) rfl (c69_T1_c4 j173 t1 (by omega)  (by omega)) (fun h193 q192 => ?_)
            obtain ⟨j194, f195⟩ := q192
            have f198 := Fr.trans f177 f195 (by decide)
            refine x_aload (np := 165) (x := 0) (by decide +kernel) rfl (x_nc_le (by decide)) ?_
            have q199 : h193 61 0 = 1 := by have z := jB (e := 0) 0 j194 rg_61_0_0_1 (by decide) (by decide); omega
            refine x_getR (np := 168) (x := 576) (f := 0) (q := 1) (by decide +kernel) (by decide) (by decide +kernel) q199 ?_
            refine x_ldcB (i := 5) (idx := 121) (tx := "pledge") (by rw [tb_y94]; exact List.mem_of_getElem? (i := 5) rfl) (by decide) (by rw [tb_b94]; decide +kernel) ?_
            refine x_nI (t := 6) (mj := 78) (n := 2) (rc := 8) (ml := 2) (nr := 0) (np := 173) (as := [x_r 1, x_b (5 + 1)]) (rest := []) (lo1 := [x_r 1, x_b (5 + 1)]) (by decide +kernel) (by decide) (by decide +kernel) (x_rb_of (by decide +kernel)) rfl rfl (x_wr (by decide) (x_wB (by decide) x_wn)) x_wn (by decide) rfl ?_
            refine x_aload (np := 1) (x := 0) (by decide +kernel) rfl (x_nc_le (by decide)) ?_
            refine x_aloadB (i := 5) (k4 := 1) rfl (by decide) (by rw [tb_b78]; decide +kernel) ?_
            refine x_cP (t := 6) (mj := 77) (n := 2) (rc := 8) (ml := 4) (nr := 0) (np := 5) (as := [x_r 1, x_b (5 + 1)]) (rest := []) (lo1 := [x_r 1, x_b (5 + 1), 147573952589676412928, 147573952589676412928]) (by decide +kernel) (by decide) (by decide +kernel) (x_rb_of (by decide +kernel)) rfl rfl (x_wr (by decide) (x_wB (by decide) x_wn)) x_wn (by decide) rfl (c77_1_S0 j194  (by decide)) (fun v200 l201 q202 => ?_)
            obtain ⟨b204, c203⟩ := q202
            have q205 : h193 1 2 = h172 1 2 := jK 0 f195 rg_1_2_0_1 (by omega) (by omega) (by decide)
            have b206 := jB (e := 2) 0 j173 rg_1_2_0_1 (by omega) (by omega)
            refine x_ifz (k := 1) (tg := 10) (np := 8) (by decide +kernel) (by decide) l201 (fun q207 => ?_) (fun q208 => ?_)
            · have q207 : v200 ≠ 2147483648 := q207
              have b209 := c203 (by omega)
              refine x_aload (np := 11) (x := 0) (by decide +kernel) rfl (x_nc_le (by decide)) ?_
              refine x_aload (np := 12) (x := 0) (by decide +kernel) rfl (x_nc_le (by decide)) ?_
              have q210 : h193 1 2 = h172 1 2 := jK 0 f195 rg_1_2_0_1 (by omega) (by omega) (by decide)
              refine x_getC (np := 15) (x := 450) (f := 2) (q := (h172 1 2)) (by decide +kernel) (by decide) (by decide +kernel) q210 (fun l211 => ?_)
              refine x_aloadB (i := 5) (k4 := 1) rfl (by decide) (by rw [tb_b78]; decide +kernel) ?_
              have b212 := (iv_tl_lt 5 (by decide)).1
              have b213 := iv_tl_ge 5 (by decide)
              refine x_len (by decide +kernel) (by rw [tb_y78]; exact sl_Tl) (by decide) (by rw [tb_b78]; decide +kernel) (Nat.le_trans (x_wi l211 (x_wr (by decide) x_wn)) (by decide)) ?_
              refine x_iadd (np := 20) (x := 0) (v := ((h172 1 2) + (iv_tl 5))) (by decide +kernel) l211 (by omega) (by omega) (by omega) ?_
              refine x_cV (t := 6) (mj := 80) (n := 2) (rc := 8) (ml := 2) (nr := 0) (np := 23) (as := [x_r 1, iv_c ((h172 1 2) + (iv_tl 5))]) (rest := []) (lo1 := [x_r 1, iv_c ((h172 1 2) + (iv_tl 5))]) (by decide +kernel) (by decide) (by decide +kernel) (x_rb_of (by decide +kernel)) rfl rfl (x_wr (by decide) (x_wi (by omega) x_wn)) x_wn (by decide) rfl (c80_1n j194  (by omega)) (fun h217 q216 => ?_)
              obtain ⟨j218, f219⟩ := q216
              have f222 := Fr.trans f198 f219 (by decide)
              refine x_const (np := 24) (x := 9223372043297226753) (a := 2147483649) (by decide +kernel) (by decide) (by decide) ?_
              refine x_retI (np := 25) (x := 0) (by decide +kernel) (by decide) (Or.inr ⟨by decide +kernel, by omega, by omega⟩) ⟨_, rfl, (by decide), ?_⟩
              refine x_ifz (k := 0) (tg := 196) (np := 176) (by decide +kernel) (by decide) (by decide) (fun q223 => ?_) (fun q224 => ?_)
              · have q223 : 2147483649 = 2147483648 := q223
                exfalso; omega
              have q224 : ¬ (2147483649 = 2147483648) := q224
              refine x_aload (np := 177) (x := 0) (by decide +kernel) rfl (x_nc_le (by decide)) ?_
              refine x_aload (np := 178) (x := 0) (by decide +kernel) rfl (x_nc_le (by decide)) ?_
              have q225 : h217 61 1 = h193 61 1 := f219 61 1 (by decide +kernel)
              have q226 : h193 61 1 = h172 61 1 := f195 61 1 (by decide +kernel)
              have q227 : h172 61 1 = h149 61 1 := f174 61 1 (by decide +kernel)
              have q228 : h149 61 1 = h130 61 1 := f151 61 1 (by decide +kernel)
              have q229 : h130 61 1 = h107 61 1 := f132 61 1 (by decide +kernel)
              have q230 : h107 61 1 = h90 61 1 := f109 61 1 (by decide +kernel)
              have q231 : h90 61 1 = h67 61 1 := f92 61 1 (by decide +kernel)
              have q232 : h67 61 1 = h44 61 1 := f69 61 1 (by decide +kernel)
              have q233 : h44 61 1 = h21 61 1 := f46 61 1 (by decide +kernel)
              have q234 : h21 61 1 = h6 61 1 := f23 61 1 (by decide +kernel)
              have q235 : h6 61 1 = h 61 1 := f8 61 1 (by decide +kernel)
              refine x_getR (np := 181) (x := 577) (f := 1) (q := (h 61 1)) (by decide +kernel) (by decide) (by decide +kernel) ((((((((((q225.trans q226).trans q227).trans q228).trans q229).trans q230).trans q231).trans q232).trans q233).trans q234).trans q235) ?_
              have q236 : h217 (h 61 1) 0 = ((h 61 1) + 1) := tf_0_0 j218 t1
              refine x_getR (np := 184) (x := 512) (f := 0) (q := ((h 61 1) + 1)) (by decide +kernel) (by decide) (tg_0_512_0_1 t1) q236 ?_
              refine x_iload (np := 185) (x := 1) (by decide +kernel) rfl l4 ?_
              refine x_const (np := 186) (x := 9223372060477095941) (a := 2147483653) (by decide +kernel) (by decide) (by decide) ?_
              refine x_const (np := 187) (x := 9223372039002259456) (a := 2147483648) (by decide +kernel) (by decide) (by decide) ?_
              refine x_const (np := 190) (x := 9223376329674589159) (a := 2147484647) (by decide +kernel) (by decide) (by decide) ?_
              refine x_cI (t := 6) (mj := 102) (n := 6) (rc := 10) (ml := 7) (nr := 0) (np := 193) (as := [x_r 61, x_r ((h 61 1) + 1), iv_c v3, iv_c 2147483653, iv_c 2147483648, iv_c 2147484647]) (rest := []) (lo1 := [x_r 61, x_r ((h 61 1) + 1), iv_c v3, iv_c 2147483653, iv_c 2147483648, iv_c 2147484647, 147573952589676412928]) (by decide +kernel) (by decide) (by decide +kernel) (x_rb_of (by decide +kernel)) rfl rfl (x_wr (by decide) (x_wr (tn_1 t1) (x_wi l4 (x_wi (by decide) (x_wi (by decide) (x_wi (by decide) x_wn)))))) x_wn (by decide) rfl (c102_61_T1_c5_c0 j218  t1 (by omega)   (by omega)) (fun v237 h240 l238 q239 => ?_)
              obtain ⟨j241, f242, b243⟩ := q239
              have f244 := Fr.trans f222 f242 (by decide)
              refine x_ifz (k := 0) (tg := 200) (np := 196) (by decide +kernel) (by decide) l238 (fun q245 => ?_) (fun q246 => ?_)
              · have q245 : v237 = 2147483648 := q245
                refine x_const (np := 201) (x := 9223372039002259456) (a := 2147483648) (by decide +kernel) (by decide) (by decide) ?_
                refine x_retI (np := 202) (x := 0) (by decide +kernel) (by decide) (Or.inr ⟨by decide +kernel, by omega, by omega⟩) ⟨_, rfl, (by decide), ?_⟩
                exact ⟨j241, f244, (by omega)⟩
              have q246 : ¬ (v237 = 2147483648) := q246
              refine x_const (np := 197) (x := 9223372043297226753) (a := 2147483649) (by decide +kernel) (by decide) (by decide) ?_
              refine x_goto (np := 200) (x := 201) (by decide +kernel) ?_
              refine x_retI (np := 202) (x := 0) (by decide +kernel) (by decide) (Or.inr ⟨by decide +kernel, by omega, by omega⟩) ⟨_, rfl, (by decide), ?_⟩
              exact ⟨j241, f244, (by omega)⟩
            have q208 : ¬ (v200 ≠ 2147483648) := q208
            refine x_const (np := 9) (x := 9223372039002259456) (a := 2147483648) (by decide +kernel) (by decide) (by decide) ?_
            refine x_retI (np := 10) (x := 0) (by decide +kernel) (by decide) (Or.inr ⟨by decide +kernel, by omega, by omega⟩) ⟨_, rfl, (by decide), ?_⟩
            refine x_ifz (k := 0) (tg := 196) (np := 176) (by decide +kernel) (by decide) (by decide) (fun q247 => ?_) (fun q248 => ?_)
            · have q247 : 2147483648 = 2147483648 := q247
              refine x_const (np := 197) (x := 9223372043297226753) (a := 2147483649) (by decide +kernel) (by decide) (by decide) ?_
              refine x_goto (np := 200) (x := 201) (by decide +kernel) ?_
              refine x_retI (np := 202) (x := 0) (by decide +kernel) (by decide) (Or.inr ⟨by decide +kernel, by omega, by omega⟩) ⟨_, rfl, (by decide), ?_⟩
              exact ⟨j194, f198, (by omega)⟩
            have q248 : ¬ (2147483648 = 2147483648) := q248
            exfalso; omega
          have q164 : ¬ (v157 ≠ 2147483648) := q164
          refine x_const (np := 9) (x := 9223372039002259456) (a := 2147483648) (by decide +kernel) (by decide) (by decide) ?_
          refine x_retI (np := 10) (x := 0) (by decide +kernel) (by decide) (Or.inr ⟨by decide +kernel, by omega, by omega⟩) ⟨_, rfl, (by decide), ?_⟩
          refine x_ifz (k := 0) (tg := 164) (np := 151) (by decide +kernel) (by decide) (by decide) (fun q249 => ?_) (fun q250 => ?_)
          · have q249 : 2147483648 = 2147483648 := q249
            refine x_aload (np := 165) (x := 0) (by decide +kernel) rfl (x_nc_le (by decide)) ?_
            have q251 : h149 61 0 = 1 := by have z := jB (e := 0) 0 j150 rg_61_0_0_1 (by decide) (by decide); omega
            refine x_getR (np := 168) (x := 576) (f := 0) (q := 1) (by decide +kernel) (by decide) (by decide +kernel) q251 ?_
            refine x_ldcB (i := 5) (idx := 121) (tx := "pledge") (by rw [tb_y94]; exact List.mem_of_getElem? (i := 5) rfl) (by decide) (by rw [tb_b94]; decide +kernel) ?_
            refine x_nI (t := 6) (mj := 78) (n := 2) (rc := 8) (ml := 2) (nr := 0) (np := 173) (as := [x_r 1, x_b (5 + 1)]) (rest := []) (lo1 := [x_r 1, x_b (5 + 1)]) (by decide +kernel) (by decide) (by decide +kernel) (x_rb_of (by decide +kernel)) rfl rfl (x_wr (by decide) (x_wB (by decide) x_wn)) x_wn (by decide) rfl ?_
            refine x_aload (np := 1) (x := 0) (by decide +kernel) rfl (x_nc_le (by decide)) ?_
            refine x_aloadB (i := 5) (k4 := 1) rfl (by decide) (by rw [tb_b78]; decide +kernel) ?_
            refine x_cP (t := 6) (mj := 77) (n := 2) (rc := 8) (ml := 4) (nr := 0) (np := 5) (as := [x_r 1, x_b (5 + 1)]) (rest := []) (lo1 := [x_r 1, x_b (5 + 1), 147573952589676412928, 147573952589676412928]) (by decide +kernel) (by decide) (by decide +kernel) (x_rb_of (by decide +kernel)) rfl rfl (x_wr (by decide) (x_wB (by decide) x_wn)) x_wn (by decide) rfl (c77_1_S0 j150  (by decide)) (fun v252 l253 q254 => ?_)
            obtain ⟨b256, c255⟩ := q254
            refine x_ifz (k := 1) (tg := 10) (np := 8) (by decide +kernel) (by decide) l253 (fun q257 => ?_) (fun q258 => ?_)
            · have q257 : v252 ≠ 2147483648 := q257
              have b259 := c255 (by omega)
              refine x_aload (np := 11) (x := 0) (by decide +kernel) rfl (x_nc_le (by decide)) ?_
              refine x_aload (np := 12) (x := 0) (by decide +kernel) rfl (x_nc_le (by decide)) ?_
              refine x_getC (np := 15) (x := 450) (f := 2) (q := (h149 1 2)) (by decide +kernel) (by decide) (by decide +kernel) rfl (fun l260 => ?_)
              refine x_aloadB (i := 5) (k4 := 1) rfl (by decide) (by rw [tb_b78]; decide +kernel) ?_
              have b261 := (iv_tl_lt 5 (by decide)).1
              have b262 := iv_tl_ge 5 (by decide)
              refine x_len (by decide +kernel) (by rw [tb_y78]; exact sl_Tl) (by decide) (by rw [tb_b78]; decide +kernel) (Nat.le_trans (x_wi l260 (x_wr (by decide) x_wn)) (by decide)) ?_
              refine x_iadd (np := 20) (x := 0) (v := ((h149 1 2) + (iv_tl 5))) (by decide +kernel) l260 (by omega) (by omega) (by omega) ?_
              refine x_cV (t := 6) (mj := 80) (n := 2) (rc := 8) (ml := 2) (nr := 0) (np := 23) (as := [x_r 1, iv_c ((h149 1 2) + (iv_tl 5))]) (rest := []) (lo1 := [x_r 1, iv_c ((h149 1 2) + (iv_tl 5))]) (by decide +kernel) (by decide) (by decide +kernel) (x_rb_of (by decide +kernel)) rfl rfl (x_wr (by decide) (x_wi (by omega) x_wn)) x_wn (by decide) rfl (c80_1n j150  (by omega)) (fun h266 q265 => ?_)
              obtain ⟨j267, f268⟩ := q265
              have f271 := Fr.trans f153 f268 (by decide)
              refine x_const (np := 24) (x := 9223372043297226753) (a := 2147483649) (by decide +kernel) (by decide) (by decide) ?_
              refine x_retI (np := 25) (x := 0) (by decide +kernel) (by decide) (Or.inr ⟨by decide +kernel, by omega, by omega⟩) ⟨_, rfl, (by decide), ?_⟩
              refine x_ifz (k := 0) (tg := 196) (np := 176) (by decide +kernel) (by decide) (by decide) (fun q272 => ?_) (fun q273 => ?_)
              · have q272 : 2147483649 = 2147483648 := q272
                exfalso; omega
              have q273 : ¬ (2147483649 = 2147483648) := q273
              refine x_aload (np := 177) (x := 0) (by decide +kernel) rfl (x_nc_le (by decide)) ?_
              refine x_aload (np := 178) (x := 0) (by decide +kernel) rfl (x_nc_le (by decide)) ?_
              have q274 : h266 61 1 = h149 61 1 := f268 61 1 (by decide +kernel)
              have q275 : h149 61 1 = h130 61 1 := f151 61 1 (by decide +kernel)
              have q276 : h130 61 1 = h107 61 1 := f132 61 1 (by decide +kernel)
              have q277 : h107 61 1 = h90 61 1 := f109 61 1 (by decide +kernel)
              have q278 : h90 61 1 = h67 61 1 := f92 61 1 (by decide +kernel)
              have q279 : h67 61 1 = h44 61 1 := f69 61 1 (by decide +kernel)
              have q280 : h44 61 1 = h21 61 1 := f46 61 1 (by decide +kernel)
              have q281 : h21 61 1 = h6 61 1 := f23 61 1 (by decide +kernel)
              have q282 : h6 61 1 = h 61 1 := f8 61 1 (by decide +kernel)
              refine x_getR (np := 181) (x := 577) (f := 1) (q := (h 61 1)) (by decide +kernel) (by decide) (by decide +kernel) ((((((((q274.trans q275).trans q276).trans q277).trans q278).trans q279).trans q280).trans q281).trans q282) ?_
              have q283 : h266 (h 61 1) 0 = ((h 61 1) + 1) := tf_0_0 j267 t1
              refine x_getR (np := 184) (x := 512) (f := 0) (q := ((h 61 1) + 1)) (by decide +kernel) (by decide) (tg_0_512_0_1 t1) q283 ?_
              refine x_iload (np := 185) (x := 1) (by decide +kernel) rfl l4 ?_
              refine x_const (np := 186) (x := 9223372060477095941) (a := 2147483653) (by decide +kernel) (by decide) (by decide) ?_
              refine x_const (np := 187) (x := 9223372039002259456) (a := 2147483648) (by decide +kernel) (by decide) (by decide) ?_
              refine x_const (np := 190) (x := 9223376329674589159) (a := 2147484647) (by decide +kernel) (by decide) (by decide) ?_
              refine x_cI (t := 6) (mj := 102) (n := 6) (rc := 10) (ml := 7) (nr := 0) (np := 193) (as := [x_r 61, x_r ((h 61 1) + 1), iv_c v3, iv_c 2147483653, iv_c 2147483648, iv_c 2147484647]) (rest := []) (lo1 := [x_r 61, x_r ((h 61 1) + 1), iv_c v3, iv_c 2147483653, iv_c 2147483648, iv_c 2147484647, 147573952589676412928]) (by decide +kernel) (by decide) (by decide +kernel) (x_rb_of (by decide +kernel)) rfl rfl (x_wr (by decide) (x_wr (tn_1 t1) (x_wi l4 (x_wi (by decide) (x_wi (by decide) (x_wi (by decide) x_wn)))))) x_wn (by decide) rfl (c102_61_T1_c5_c0 j267  t1 (by omega)   (by omega)) (fun v284 h287 l285 q286 => ?_)
              obtain ⟨j288, f289, b290⟩ := q286
              have f291 := Fr.trans f271 f289 (by decide)
              refine x_ifz (k := 0) (tg := 200) (np := 196) (by decide +kernel) (by decide) l285 (fun q292 => ?_) (fun q293 => ?_)
              · have q292 : v284 = 2147483648 := q292
                refine x_const (np := 201) (x := 9223372039002259456) (a := 2147483648) (by decide +kernel) (by decide) (by decide) ?_
                refine x_retI (np := 202) (x := 0) (by decide +kernel) (by decide) (Or.inr ⟨by decide +kernel, by omega, by omega⟩) ⟨_, rfl, (by decide), ?_⟩
                exact ⟨j288, f291, (by omega)⟩
              have q293 : ¬ (v284 = 2147483648) := q293
              refine x_const (np := 197) (x := 9223372043297226753) (a := 2147483649) (by decide +kernel) (by decide) (by decide) ?_
              refine x_goto (np := 200) (x := 201) (by decide +kernel) ?_
              refine x_retI (np := 202) (x := 0) (by decide +kernel) (by decide) (Or.inr ⟨by decide +kernel, by omega, by omega⟩) ⟨_, rfl, (by decide), ?_⟩
              exact ⟨j288, f291, (by omega)⟩
            have q258 : ¬ (v252 ≠ 2147483648) := q258
            refine x_const (np := 9) (x := 9223372039002259456) (a := 2147483648) (by decide +kernel) (by decide) (by decide) ?_
            refine x_retI (np := 10) (x := 0) (by decide +kernel) (by decide) (Or.inr ⟨by decide +kernel, by omega, by omega⟩) ⟨_, rfl, (by decide), ?_⟩
            refine x_ifz (k := 0) (tg := 196) (np := 176) (by decide +kernel) (by decide) (by decide) (fun q294 => ?_) (fun q295 => ?_)
            · have q294 : 2147483648 = 2147483648 := q294
              refine x_const (np := 197) (x := 9223372043297226753) (a := 2147483649) (by decide +kernel) (by decide) (by decide) ?_
              refine x_goto (np := 200) (x := 201) (by decide +kernel) ?_
              refine x_retI (np := 202) (x := 0) (by decide +kernel) (by decide) (Or.inr ⟨by decide +kernel, by omega, by omega⟩) ⟨_, rfl, (by decide), ?_⟩
              exact ⟨j150, f153, (by omega)⟩
            have q295 : ¬ (2147483648 = 2147483648) := q295
            exfalso; omega
          have q250 : ¬ (2147483648 = 2147483648) := q250
          exfalso; omega
        have q155 : ¬ (v146 ≠ 2147483648) := q155
        refine x_const (np := 138) (x := 9223372039002259456) (a := 2147483648) (by decide +kernel) (by decide) (by decide) ?_
        refine x_retI (np := 139) (x := 0) (by decide +kernel) (by decide) (Or.inr ⟨by decide +kernel, by omega, by omega⟩) ⟨_, rfl, (by decide), ?_⟩
        exact ⟨j150, f153, (by omega)⟩
      have q122 : ¬ (v115 ≠ 2147483648) := q122
      refine x_const (np := 9) (x := 9223372039002259456) (a := 2147483648) (by decide +kernel) (by decide) (by decide) ?_
      refine x_retI (np := 10) (x := 0) (by decide +kernel) (by decide) (Or.inr ⟨by decide +kernel, by omega, by omega⟩) ⟨_, rfl, (by decide), ?_⟩
      refine x_ifz (k := 0) (tg := 137) (np := 118) (by decide +kernel) (by decide) (by decide) (fun q296 => ?_) (fun q297 => ?_)
      · have q296 : 2147483648 = 2147483648 := q296
        refine x_const (np := 138) (x := 9223372039002259456) (a := 2147483648) (by decide +kernel) (by decide) (by decide) ?_
        refine x_retI (np := 139) (x := 0) (by decide +kernel) (by decide) (Or.inr ⟨by decide +kernel, by omega, by omega⟩) ⟨_, rfl, (by decide), ?_⟩
        exact ⟨j108, f111, (by omega)⟩
      have q297 : ¬ (2147483648 = 2147483648) := q297
      exfalso; omega
    have q82 : ¬ (v75 ≠ 2147483648) := q82
    refine x_const (np := 9) (x := 9223372039002259456) (a := 2147483648) (by decide +kernel) (by decide) (by decide) ?_
    refine x_retI (np := 10) (x := 0) (by decide +kernel) (by decide) (Or.inr ⟨by decide +kernel, by omega, by omega⟩) ⟨_, rfl, (by decide), ?_⟩
    refine x_ifz (k := 0) (tg := 137) (np := 87) (by decide +kernel) (by decide) (by decide) (fun q298 => ?_) (fun q299 => ?_)
    · have q298 : 2147483648 = 2147483648 := q298
      refine x_const (np := 138) (x := 9223372039002259456) (a := 2147483648) (by decide +kernel) (by decide) (by decide) ?_
      refine x_retI (np := 139) (x := 0) (by decide +kernel) (by decide) (Or.inr ⟨by decide +kernel, by omega, by omega⟩) ⟨_, rfl, (by decide), ?_⟩
      exact ⟨j68, f71, (by omega)⟩
    have q299 : ¬ (2147483648 = 2147483648) := q299
    exfalso; omega
  have q36 : ¬ (v29 ≠ 2147483648) := q36
  refine x_const (np := 9) (x := 9223372039002259456) (a := 2147483648) (by decide +kernel) (by decide) (by decide) ?_
  refine x_retI (np := 10) (x := 0) (by decide +kernel) (by decide) (Or.inr ⟨by decide +kernel, by omega, by omega⟩) ⟨_, rfl, (by decide), ?_⟩
  refine x_ifz (k := 0) (tg := 137) (np := 49) (by decide +kernel) (by decide) (by decide) (fun q300 => ?_) (fun q301 => ?_)
  · have q300 : 2147483648 = 2147483648 := q300
    refine x_const (np := 138) (x := 9223372039002259456) (a := 2147483648) (by decide +kernel) (by decide) (by decide) ?_
    refine x_retI (np := 139) (x := 0) (by decide +kernel) (by decide) (Or.inr ⟨by decide +kernel, by omega, by omega⟩) ⟨_, rfl, (by decide), ?_⟩
    exact ⟨j22, f25, (by omega)⟩
  have q301 : ¬ (2147483648 = 2147483648) := q301
  exfalso; omega
set_option maxHeartbeats 0 in
/-- LentNames$TownReader.readLine()Z -/
theorem c93_61 {sc : Nat × Nat} {d  : Nat} {h : xh} (hJ : J h) : X sc 93 (d + 8) (xI fun r h' => J h' ∧ Fr 161 h h' ∧ (2147483648 ≤ r ∧ r ≤ 2147483649)) 0 0 0 [x_r 61] [] h := by
  have hF := Fr.refl 161 h
  refine x_aload (np := 1) (x := 0) (by decide +kernel) rfl (x_nc_le (by decide)) ?_
  have q1 : h 61 0 = 1 := by have z := jB (e := 0) 0 hJ rg_61_0_0_1 (by decide) (by decide); omega
  refine x_getR (np := 4) (x := 576) (f := 0) (q := 1) (by decide +kernel) (by decide) (by decide +kernel) q1 ?_
  refine x_ldcB (i := 0) (idx := 35) (tx := "lend") (by rw [tb_y93]; exact List.mem_of_getElem? (i := 0) rfl) (by decide) (by rw [tb_b93]; decide +kernel) ?_
  refine x_cP (t := 6) (mj := 77) (n := 2) (rc := 8) (ml := 4) (nr := 0) (np := 9) (as := [x_r 1, x_b (0 + 1)]) (rest := []) (lo1 := [x_r 1, x_b (0 + 1), 147573952589676412928, 147573952589676412928]) (by decide +kernel) (by decide) (by decide +kernel) (x_rb_of (by decide +kernel)) rfl rfl (x_wr (by decide) (x_wB (by decide) x_wn)) x_wn (by decide) rfl (c77_1_S0 hJ  (by decide)) (fun v2 l3 q4 => ?_)
  obtain ⟨b6, c5⟩ := q4
  have b7 := jB (e := 2) 0 hJ rg_1_2_0_1 (by omega) (by omega)
  refine x_ifz (k := 0) (tg := 50) (np := 12) (by decide +kernel) (by decide) l3 (fun q8 => ?_) (fun q9 => ?_)
  · have q8 : v2 = 2147483648 := q8
    refine x_aload (np := 51) (x := 0) (by decide +kernel) rfl (x_nc_le (by decide)) ?_
    have q10 : h 61 0 = 1 := by have z := jB (e := 0) 0 hJ rg_61_0_0_1 (by decide) (by decide); omega
    refine x_getR (np := 54) (x := 576) (f := 0) (q := 1) (by decide +kernel) (by decide) (by decide +kernel) q10 ?_
    refine x_ldcB (i := 6) (idx := 58) (tx := "letter") (by rw [tb_y93]; exact List.mem_of_getElem? (i := 6) rfl) (by decide) (by rw [tb_b93]; decide +kernel) ?_
    refine x_cP (t := 6) (mj := 77) (n := 2) (rc := 8) (ml := 4) (nr := 0) (np := 59) (as := [x_r 1, x_b (6 + 1)]) (rest := []) (lo1 := [x_r 1, x_b (6 + 1), 147573952589676412928, 147573952589676412928]) (by decide +kernel) (by decide) (by decide +kernel) (x_rb_of (by decide +kernel)) rfl rfl (x_wr (by decide) (x_wB (by decide) x_wn)) x_wn (by decide) rfl (c77_1_S0 hJ  (by decide)) (fun v11 l12 q13 => ?_)
    obtain ⟨b15, c14⟩ := q13
    refine x_ifz (k := 0) (tg := 100) (np := 62) (by decide +kernel) (by decide) l12 (fun q16 => ?_) (fun q17 => ?_)
    · have q16 : v11 = 2147483648 := q16
      refine x_aload (np := 101) (x := 0) (by decide +kernel) rfl (x_nc_le (by decide)) ?_
      have q18 : h 61 0 = 1 := by have z := jB (e := 0) 0 hJ rg_61_0_0_1 (by decide) (by decide); omega
      refine x_getR (np := 104) (x := 576) (f := 0) (q := 1) (by decide +kernel) (by decide) (by decide +kernel) q18 ?_
      refine x_ldcB (i := 8) (idx := 66) (tx := "debt") (by rw [tb_y93]; exact List.mem_of_getElem? (i := 8) rfl) (by decide) (by rw [tb_b93]; decide +kernel) ?_
      refine x_cP (t := 6) (mj := 77) (n := 2) (rc := 8) (ml := 4) (nr := 0) (np := 109) (as := [x_r 1, x_b (8 + 1)]) (rest := []) (lo1 := [x_r 1, x_b (8 + 1), 147573952589676412928, 147573952589676412928]) (by decide +kernel) (by decide) (by decide +kernel) (x_rb_of (by decide +kernel)) rfl rfl (x_wr (by decide) (x_wB (by decide) x_wn)) x_wn (by decide) rfl (c77_1_S0 hJ  (by decide)) (fun v19 l20 q21 => ?_)
      obtain ⟨b23, c22⟩ := q21
      refine x_ifz (k := 0) (tg := 150) (np := 112) (by decide +kernel) (by decide) l20 (fun q24 => ?_) (fun q25 => ?_)
      · have q24 : v19 = 2147483648 := q24
        refine x_aload (np := 151) (x := 0) (by decide +kernel) rfl (x_nc_le (by decide)) ?_
        have q26 : h 61 0 = 1 := by have z := jB (e := 0) 0 hJ rg_61_0_0_1 (by decide) (by decide); omega
        refine x_getR (np := 154) (x := 576) (f := 0) (q := 1) (by decide +kernel) (by decide) (by decide +kernel) q26 ?_
        refine x_ldcB (i := 13) (idx := 74) (tx := "seen") (by rw [tb_y93]; exact List.mem_of_getElem? (i := 13) rfl) (by decide) (by rw [tb_b93]; decide +kernel) ?_
        refine x_cP (t := 6) (mj := 77) (n := 2) (rc := 8) (ml := 4) (nr := 0) (np := 159) (as := [x_r 1, x_b (13 + 1)]) (rest := []) (lo1 := [x_r 1, x_b (13 + 1), 147573952589676412928, 147573952589676412928]) (by decide +kernel) (by decide) (by decide +kernel) (x_rb_of (by decide +kernel)) rfl rfl (x_wr (by decide) (x_wB (by decide) x_wn)) x_wn (by decide) rfl (c77_1_S0 hJ  (by decide)) (fun v27 l28 q29 => ?_)
        obtain ⟨b31, c30⟩ := q29
        refine x_ifz (k := 0) (tg := 200) (np := 162) (by decide +kernel) (by decide) l28 (fun q32 => ?_) (fun q33 => ?_)
        · have q32 : v27 = 2147483648 := q32
          refine x_aload (np := 201) (x := 0) (by decide +kernel) rfl (x_nc_le (by decide)) ?_
          have q34 : h 61 0 = 1 := by have z := jB (e := 0) 0 hJ rg_61_0_0_1 (by decide) (by decide); omega
          refine x_getR (np := 204) (x := 576) (f := 0) (q := 1) (by decide +kernel) (by decide) (by decide +kernel) q34 ?_
          refine x_ldcB (i := 17) (idx := 82) (tx := "late") (by rw [tb_y93]; exact List.mem_of_getElem? (i := 17) rfl) (by decide) (by rw [tb_b93]; decide +kernel) ?_
          refine x_nI (t := 6) (mj := 78) (n := 2) (rc := 8) (ml := 2) (nr := 0) (np := 209) (as := [x_r 1, x_b (17 + 1)]) (rest := []) (lo1 := [x_r 1, x_b (17 + 1)]) (by decide +kernel) (by decide) (by decide +kernel) (x_rb_of (by decide +kernel)) rfl rfl (x_wr (by decide) (x_wB (by decide) x_wn)) x_wn (by decide) rfl ?_
          refine x_aload (np := 1) (x := 0) (by decide +kernel) rfl (x_nc_le (by decide)) ?_
          refine x_aloadB (i := 17) (k4 := 1) rfl (by decide) (by rw [tb_b78]; decide +kernel) ?_
          refine x_cP (t := 6) (mj := 77) (n := 2) (rc := 8) (ml := 4) (nr := 0) (np := 5) (as := [x_r 1, x_b (17 + 1)]) (rest := []) (lo1 := [x_r 1, x_b (17 + 1), 147573952589676412928, 147573952589676412928]) (by decide +kernel) (by decide) (by decide +kernel) (x_rb_of (by decide +kernel)) rfl rfl (x_wr (by decide) (x_wB (by decide) x_wn)) x_wn (by decide) rfl (c77_1_S0 hJ  (by decide)) (fun v35 l36 q37 => ?_)
          obtain ⟨b39, c38⟩ := q37
          refine x_ifz (k := 1) (tg := 10) (np := 8) (by decide +kernel) (by decide) l36 (fun q40 => ?_) (fun q41 => ?_)
          · have q40 : v35 ≠ 2147483648 := q40
            have b42 := c38 (by omega)
            refine x_aload (np := 11) (x := 0) (by decide +kernel) rfl (x_nc_le (by decide)) ?_
            refine x_aload (np := 12) (x := 0) (by decide +kernel) rfl (x_nc_le (by decide)) ?_
            refine x_getC (np := 15) (x := 450) (f := 2) (q := (h 1 2)) (by decide +kernel) (by decide) (by decide +kernel) rfl (fun l43 => ?_)
            refine x_aloadB (i := 17) (k4 := 1) rfl (by decide) (by rw [tb_b78]; decide +kernel) ?_
            have b44 := (iv_tl_lt 17 (by decide)).1
            have b45 := iv_tl_ge 17 (by decide)
            refine x_len (by decide +kernel) (by rw [tb_y78]; exact sl_Tl) (by decide) (by rw [tb_b78]; decide +kernel) (Nat.le_trans (x_wi l43 (x_wr (by decide) x_wn)) (by decide)) ?_
            refine x_iadd (np := 20) (x := 0) (v := ((h 1 2) + (iv_tl 17))) (by decide +kernel) l43 (by omega) (by omega) (by omega) ?_
            refine x_cV (t := 6) (mj := 80) (n := 2) (rc := 8) (ml := 2) (nr := 0) (np := 23) (as := [x_r 1, iv_c ((h 1 2) + (iv_tl 17))]) (rest := []) (lo1 := [x_r 1, iv_c ((h 1 2) + (iv_tl 17))]) (by decide +kernel) (by decide) (by decide +kernel) (x_rb_of (by decide +kernel)) rfl rfl (x_wr (by decide) (x_wi (by omega) x_wn)) x_wn (by decide) rfl (c80_1n hJ  (by omega)) (fun h49 q48 => ?_)
            obtain ⟨j50, f51⟩ := q48
            have f54 := Fr.trans hF f51 (by decide)
            refine x_const (np := 24) (x := 9223372043297226753) (a := 2147483649) (by decide +kernel) (by decide) (by decide) ?_
            refine x_retI (np := 25) (x := 0) (by decide +kernel) (by decide) (Or.inr ⟨by decide +kernel, by omega, by omega⟩) ⟨_, rfl, (by decide), ?_⟩
            refine x_ifz (k := 0) (tg := 217) (np := 212) (by decide +kernel) (by decide) (by decide) (fun q55 => ?_) (fun q56 => ?_)
            · have q55 : 2147483649 = 2147483648 := q55
              exfalso; omega
            have q56 : ¬ (2147483649 = 2147483648) := q56
            refine x_aload (np := 213) (x := 0) (by decide +kernel) rfl (x_nc_le (by decide)) ?_
            refine x_nI (t := 6) (mj := 95) (n := 1) (rc := 10) (ml := 2) (nr := 0) (np := 216) (as := [x_r 61]) (rest := []) (lo1 := [x_r 61, 147573952589676412928]) (by decide +kernel) (by decide) (by decide +kernel) (x_rb_of (by decide +kernel)) rfl rfl (x_wr (by decide) x_wn) x_wn (by decide) rfl ?_
            refine x_aload (np := 1) (x := 0) (by decide +kernel) rfl (x_nc_le (by decide)) ?_
            have q57 : h49 61 0 = 1 := by have z := jB (e := 0) 0 j50 rg_61_0_0_1 (by decide) (by decide); omega
            refine x_getR (np := 4) (x := 576) (f := 0) (q := 1) (by decide +kernel) (by decide) (by decide +kernel) q57 ?_
            refine x_const (np := 5) (x := 9223372039002259456) (a := 2147483648) (by decide +kernel) (by decide) (by decide) ?_
            refine x_aload (np := 6) (x := 0) (by decide +kernel) rfl (x_nc_le (by decide)) ?_
            have q58 : h49 61 1 = h 61 1 := f51 61 1 (by decide +kernel)
            have t59 : tw (h 61 1) := hJ.2.2.2.2.1
            refine x_getR (np := 9) (x := 577) (f := 1) (q := (h 61 1)) (by decide +kernel) (by decide) (by decide +kernel) q58 ?_
            have q60 : h49 (h 61 1) 0 = ((h 61 1) + 1) := tf_0_0 j50 t59
            refine x_getR (np := 12) (x := 512) (f := 0) (q := ((h 61 1) + 1)) (by decide +kernel) (by decide) (tg_0_512_0_1 t59) q60 ?_
            have q61 : h49 ((h 61 1) + 1) 2 = h ((h 61 1) + 1) 2 := jK 0 f51 (rg_T1_2_0_1 t59) (by omega) (by omega) (by decide)
            have b62 := jB (e := 2) 0 hJ (rg_T1_2_0_1 t59) (by omega) (by omega)
            refine x_getC (np := 15) (x := 386) (f := 2) (q := (h ((h 61 1) + 1) 2)) (by decide +kernel) (by decide) (tg_1_386_2_0 t59) q61 (fun l63 => ?_)
            refine x_const (np := 16) (x := 9223372043297226753) (a := 2147483649) (by decide +kernel) (by decide) (by decide) ?_
            obtain ⟨v64, q65⟩ : ∃ z, z + 2147483649 = (h ((h 61 1) + 1) 2) + 2147483648 := ⟨(h ((h 61 1) + 1) 2) + 2147483648 - 2147483649, by omega⟩
            refine x_isub (np := 17) (x := 0) (v := v64) (by decide +kernel) l63 (by decide) (by omega) (by omega) ?_
            refine x_cI (t := 6) (mj := 79) (n := 3) (rc := 8) (ml := 5) (nr := 0) (np := 20) (as := [x_r 1, iv_c 2147483648, iv_c v64]) (rest := []) (lo1 := [x_r 1, iv_c 2147483648, iv_c v64, 147573952589676412928, 147573952589676412928]) (by decide +kernel) (by decide) (by decide +kernel) (x_rb_of (by decide +kernel)) rfl rfl (x_wr (by decide) (x_wi (by decide) (x_wi (by omega) x_wn))) x_wn (by decide) rfl (c79_1_c0 j50   (by omega)) (fun v66 h69 l67 q68 => ?_)
            obtain ⟨j70, f71, b72, c73⟩ := q68
            have f74 := Fr.trans f54 f71 (by decide)
            refine x_istore (np := 21) (x := 1) (lo' := [x_r 61, iv_c v66]) (by decide +kernel) l67 (Nat.le_of_ble_eq_true rfl) rfl ?_
            refine x_iload (np := 22) (x := 1) (by decide +kernel) rfl l67 ?_
            refine x_const (np := 23) (x := 9223372034707292159) (a := 2147483647) (by decide +kernel) (by decide) (by decide) ?_
            refine x_icmp (k := 0) (tg := 62) (np := 26) (by decide +kernel) (by decide) l67 (by decide) (fun q75 => ?_) (fun q76 => ?_)
            · have q75 : v66 = 2147483647 := q75
              refine x_const (np := 63) (x := 9223372039002259456) (a := 2147483648) (by decide +kernel) (by decide) (by decide) ?_
              refine x_retI (np := 64) (x := 0) (by decide +kernel) (by decide) (Or.inr ⟨by decide +kernel, by omega, by omega⟩) ⟨_, rfl, (by decide), ?_⟩
              refine x_retI (np := 217) (x := 0) (by decide +kernel) (by decide) (Or.inr ⟨by decide +kernel, by omega, by omega⟩) ⟨_, rfl, (by decide), ?_⟩
              exact ⟨j70, f74, (by omega)⟩
            have q76 : ¬ (v66 = 2147483647) := q76
            refine x_aload (np := 27) (x := 0) (by decide +kernel) rfl (x_nc_le (by decide)) ?_
            have q77 : h69 61 0 = 1 := by have z := jB (e := 0) 0 j70 rg_61_0_0_1 (by decide) (by decide); omega
            refine x_getR (np := 30) (x := 576) (f := 0) (q := 1) (by decide +kernel) (by decide) (by decide +kernel) q77 ?_
            refine x_ldcB (i := 18) (idx := 130) (tx := "by") (by rw [tb_y95]; exact List.mem_of_getElem? (i := 18) rfl) (by decide) (by rw [tb_b95]; decide +kernel) ?_
            refine x_nI (t := 6) (mj := 78) (n := 2) (rc := 8) (ml := 2) (nr := 0) (np := 35) (as := [x_r 1, x_b (18 + 1)]) (rest := []) (lo1 := [x_r 1, x_b (18 + 1)]) (by decide +kernel) (by decide) (by decide +kernel) (x_rb_of (by decide +kernel)) rfl rfl (x_wr (by decide) (x_wB (by decide) x_wn)) x_wn (by decide) rfl ?_
            refine x_aload (np := 1) (x := 0) (by decide +kernel) rfl (x_nc_le (by decide)) ?_
            refine x_aloadB (i := 18) (k4 := 1) rfl (by decide) (by rw [tb_b78]; decide +kernel) ?_
            refine x_cP (t := 6) (mj := 77) (n := 2) (rc := 8) (ml := 4) (nr := 0) (np := 5) (as := [x_r 1, x_b (18 + 1)]) (rest := []) (lo1 := [x_r 1, x_b (18 + 1), 147573952589676412928, 147573952589676412928]) (by decide +kernel) (by decide) (by decide +kernel) (x_rb_of (by decide +kernel)) rfl rfl (x_wr (by decide) (x_wB (by decide) x_wn)) x_wn (by decide) rfl (c77_1_S0 j70  (by decide)) (fun v78 l79 q80 => ?_)
            obtain ⟨b82, c81⟩ := q80
            have b83 := jB (e := 2) 0 j70 rg_1_2_0_1 (by omega) (by omega)
            refine x_ifz (k := 1) (tg := 10) (np := 8) (by decide +kernel) (by decide) l79 (fun q84 => ?_) (fun q85 => ?_)
            · have q84 : v78 ≠ 2147483648 := q84
              have b86 := c81 (by omega)
              refine x_aload (np := 11) (x := 0) (by decide +kernel) rfl (x_nc_le (by decide)) ?_
              refine x_aload (np := 12) (x := 0) (by decide +kernel) rfl (x_nc_le (by decide)) ?_
              refine x_getC (np := 15) (x := 450) (f := 2) (q := (h69 1 2)) (by decide +kernel) (by decide) (by decide +kernel) rfl (fun l87 => ?_)
              refine x_aloadB (i := 18) (k4 := 1) rfl (by decide) (by rw [tb_b78]; decide +kernel) ?_
              have b88 := (iv_tl_lt 18 (by decide)).1
              have b89 := iv_tl_ge 18 (by decide)
              refine x_len (by decide +kernel) (by rw [tb_y78]; exact sl_Tl) (by decide) (by rw [tb_b78]; decide +kernel) (Nat.le_trans (x_wi l87 (x_wr (by decide) x_wn)) (by decide)) ?_
              refine x_iadd (np := 20) (x := 0) (v := ((h69 1 2) + (iv_tl 18))) (by decide +kernel) l87 (by omega) (by omega) (by omega) ?_
              refine x_cV (t := 6) (mj := 80) (n := 2) (rc := 8) (ml := 2) (nr := 0) (np := 23) (as := [x_r 1, iv_c ((h69 1 2) + (iv_tl 18))]) (rest := []) (lo1 := [x_r 1, iv_c ((h69 1 2) + (iv_tl 18))]) (by decide +kernel) (by decide) (by decide +kernel) (x_rb_of (by decide +kernel)) rfl rfl (x_wr (by decide) (x_wi (by omega) x_wn)) x_wn (by decide) rfl (c80_1n j70  (by omega)) (fun h93 q92 => ?_)
              obtain ⟨j94, f95⟩ := q92
              have f98 := Fr.trans f74 f95 (by decide)
              refine x_const (np := 24) (x := 9223372043297226753) (a := 2147483649) (by decide +kernel) (by decide) (by decide) ?_
              refine x_retI (np := 25) (x := 0) (by decide +kernel) (by decide) (Or.inr ⟨by decide +kernel, by omega, by omega⟩) ⟨_, rfl, (by decide), ?_⟩
              refine x_ifz (k := 0) (tg := 62) (np := 38) (by decide +kernel) (by decide) (by decide) (fun q99 => ?_) (fun q100 => ?_)
              · have q99 : 2147483649 = 2147483648 := q99
                exfalso; omega
              have q100 : ¬ (2147483649 = 2147483648) := q100
              refine x_aload (np := 39) (x := 0) (by decide +kernel) rfl (x_nc_le (by decide)) ?_
              refine x_aload (np := 40) (x := 0) (by decide +kernel) rfl (x_nc_le (by decide)) ?_
              have q101 : h93 61 1 = h69 61 1 := f95 61 1 (by decide +kernel)
              have q102 : h69 61 1 = h49 61 1 := f71 61 1 (by decide +kernel)
              have q103 : h49 61 1 = h 61 1 := f51 61 1 (by decide +kernel)
              refine x_getR (np := 43) (x := 577) (f := 1) (q := (h 61 1)) (by decide +kernel) (by decide) (by decide +kernel) ((q101.trans q102).trans q103) ?_
              have q104 : h93 (h 61 1) 0 = ((h 61 1) + 1) := tf_0_0 j94 t59
              refine x_getR (np := 46) (x := 512) (f := 0) (q := ((h 61 1) + 1)) (by decide +kernel) (by decide) (tg_0_512_0_1 t59) q104 ?_
              refine x_iload (np := 47) (x := 1) (by decide +kernel) rfl l67 ?_
              refine x_const (np := 49) (x := 9223372064772063238) (a := 2147483654) (by decide +kernel) (by decide) (by decide) ?_
              refine x_const (np := 50) (x := 9223372043297226753) (a := 2147483649) (by decide +kernel) (by decide) (by decide) ?_
              refine x_const (np := 52) (x := 9223372090541867020) (a := 2147483660) (by decide +kernel) (by decide) (by decide) ?_
              refine x_cI (t := 6) (mj := 102) (n := 6) (rc := 10) (ml := 7) (nr := 0) (np := 55) (as := [x_r 61, x_r ((h 61 1) + 1), iv_c v66, iv_c 2147483654, iv_c 2147483649, iv_c 2147483660]) (rest := []) (lo1 := [x_r 61, x_r ((h 61 1) + 1), iv_c v66, iv_c 2147483654, iv_c 2147483649, iv_c 2147483660, 147573952589676412928]) (by decide +kernel) (by decide) (by decide +kernel) (x_rb_of (by decide +kernel)) rfl rfl (x_wr (by decide) (x_wr (tn_1 t59) (x_wi l67 (x_wi (by decide) (x_wi (by decide) (x_wi (by decide) x_wn)))))) x_wn (by decide) rfl (c102_61_T1_c6_c1 j94  t59 (by omega)   (by omega)) (fun v105 h108 l106 q107 => ?_)
              obtain ⟨j109, f110, b111⟩ := q107
              have f112 := Fr.trans f98 f110 (by decide)
              refine x_ifz (k := 0) (tg := 62) (np := 58) (by decide +kernel) (by decide) l106 (fun q113 => ?_) (fun q114 => ?_)
              · have q113 : v105 = 2147483648 := q113
                refine x_const (np := 63) (x := 9223372039002259456) (a := 2147483648) (by decide +kernel) (by decide) (by decide) ?_
                refine x_retI (np := 64) (x := 0) (by decide +kernel) (by decide) (Or.inr ⟨by decide +kernel, by omega, by omega⟩) ⟨_, rfl, (by decide), ?_⟩
                refine x_retI (np := 217) (x := 0) (by decide +kernel) (by decide) (Or.inr ⟨by decide +kernel, by omega, by omega⟩) ⟨_, rfl, (by decide), ?_⟩
                exact ⟨j109, f112, (by omega)⟩
              have q114 : ¬ (v105 = 2147483648) := q114
              refine x_const (np := 59) (x := 9223372043297226753) (a := 2147483649) (by decide +kernel) (by decide) (by decide) ?_
              refine x_goto (np := 62) (x := 63) (by decide +kernel) ?_
              refine x_retI (np := 64) (x := 0) (by decide +kernel) (by decide) (Or.inr ⟨by decide +kernel, by omega, by omega⟩) ⟨_, rfl, (by decide), ?_⟩
              refine x_retI (np := 217) (x := 0) (by decide +kernel) (by decide) (Or.inr ⟨by decide +kernel, by omega, by omega⟩) ⟨_, rfl, (by decide), ?_⟩
              exact ⟨j109, f112, (by omega)⟩
            have q85 : ¬ (v78 ≠ 2147483648) := q85
            refine x_const (np := 9) (x := 9223372039002259456) (a := 2147483648) (by decide +kernel) (by decide) (by decide) ?_
            refine x_retI (np := 10) (x := 0) (by decide +kernel) (by decide) (Or.inr ⟨by decide +kernel, by omega, by omega⟩) ⟨_, rfl, (by decide), ?_⟩
            refine x_ifz (k := 0) (tg := 62) (np := 38) (by decide +kernel) (by decide) (by decide) (fun q115 => ?_) (fun q116 => ?_)
            · have q115 : 2147483648 = 2147483648 := q115
              refine x_const (np := 63) (x := 9223372039002259456) (a := 2147483648) (by decide +kernel) (by decide) (by decide) ?_
              refine x_retI (np := 64) (x := 0) (by decide +kernel) (by decide) (Or.inr ⟨by decide +kernel, by omega, by omega⟩) ⟨_, rfl, (by decide), ?_⟩
              refine x_retI (np := 217) (x := 0) (by decide +kernel) (by decide) (Or.inr ⟨by decide +kernel, by omega, by omega⟩) ⟨_, rfl, (by decide), ?_⟩
              exact ⟨j70, f74, (by omega)⟩
            have q116 : ¬ (2147483648 = 2147483648) := q116
            exfalso; omega
          have q41 : ¬ (v35 ≠ 2147483648) := q41
          refine x_const (np := 9) (x := 9223372039002259456) (a := 2147483648) (by decide +kernel) (by decide) (by decide) ?_
          refine x_retI (np := 10) (x := 0) (by decide +kernel) (by decide) (Or.inr ⟨by decide +kernel, by omega, by omega⟩) ⟨_, rfl, (by decide), ?_⟩
          refine x_ifz (k := 0) (tg := 217) (np := 212) (by decide +kernel) (by decide) (by decide) (fun q117 => ?_) (fun q118 => ?_)
          · have q117 : 2147483648 = 2147483648 := q117
            refine x_aload (np := 218) (x := 0) (by decide +kernel) rfl (x_nc_le (by decide)) ?_
            have q119 : h 61 0 = 1 := by have z := jB (e := 0) 0 hJ rg_61_0_0_1 (by decide) (by decide); omega
            refine x_getR (np := 221) (x := 576) (f := 0) (q := 1) (by decide +kernel) (by decide) (by decide +kernel) q119 ?_
            refine x_ldcB (i := 19) (idx := 87) (tx := "dies") (by rw [tb_y93]; exact List.mem_of_getElem? (i := 19) rfl) (by decide) (by rw [tb_b93]; decide +kernel) ?_
            refine x_nI (t := 6) (mj := 78) (n := 2) (rc := 8) (ml := 2) (nr := 0) (np := 226) (as := [x_r 1, x_b (19 + 1)]) (rest := []) (lo1 := [x_r 1, x_b (19 + 1)]) (by decide +kernel) (by decide) (by decide +kernel) (x_rb_of (by decide +kernel)) rfl rfl (x_wr (by decide) (x_wB (by decide) x_wn)) x_wn (by decide) rfl ?_
            refine x_aload (np := 1) (x := 0) (by decide +kernel) rfl (x_nc_le (by decide)) ?_
            refine x_aloadB (i := 19) (k4 := 1) rfl (by decide) (by rw [tb_b78]; decide +kernel) ?_
            refine x_cP (t := 6) (mj := 77) (n := 2) (rc := 8) (ml := 4) (nr := 0) (np := 5) (as := [x_r 1, x_b (19 + 1)]) (rest := []) (lo1 := [x_r 1, x_b (19 + 1), 147573952589676412928, 147573952589676412928]) (by decide +kernel) (by decide) (by decide +kernel) (x_rb_of (by decide +kernel)) rfl rfl (x_wr (by decide) (x_wB (by decide) x_wn)) x_wn (by decide) rfl (c77_1_S0 hJ  (by decide)) (fun v120 l121 q122 => ?_)
            obtain ⟨b124, c123⟩ := q122
            refine x_ifz (k := 1) (tg := 10) (np := 8) (by decide +kernel) (by decide) l121 (fun q125 => ?_) (fun q126 => ?_)
            · have q125 : v120 ≠ 2147483648 := q125
              have b127 := c123 (by omega)
              refine x_aload (np := 11) (x := 0) (by decide +kernel) rfl (x_nc_le (by decide)) ?_
              refine x_aload (np := 12) (x := 0) (by decide +kernel) rfl (x_nc_le (by decide)) ?_
              refine x_getC (np := 15) (x := 450) (f := 2) (q := (h 1 2)) (by decide +kernel) (by decide) (by decide +kernel) rfl (fun l128 => ?_)
              refine x_aloadB (i := 19) (k4 := 1) rfl (by decide) (by rw [tb_b78]; decide +kernel) ?_
              have b129 := (iv_tl_lt 19 (by decide)).1
              have b130 := iv_tl_ge 19 (by decide)
              refine x_len (by decide +kernel) (by rw [tb_y78]; exact sl_Tl) (by decide) (by rw [tb_b78]; decide +kernel) (Nat.le_trans (x_wi l128 (x_wr (by decide) x_wn)) (by decide)) ?_
              refine x_iadd (np := 20) (x := 0) (v := ((h 1 2) + (iv_tl 19))) (by decide +kernel) l128 (by omega) (by omega) (by omega) ?_
              refine x_cV (t := 6) (mj := 80) (n := 2) (rc := 8) (ml := 2) (nr := 0) (np := 23) (as := [x_r 1, iv_c ((h 1 2) + (iv_tl 19))]) (rest := []) (lo1 := [x_r 1, iv_c ((h 1 2) + (iv_tl 19))]) (by decide +kernel) (by decide) (by decide +kernel) (x_rb_of (by decide +kernel)) rfl rfl (x_wr (by decide) (x_wi (by omega) x_wn)) x_wn (by decide) rfl (c80_1n hJ  (by omega)) (fun h134 q133 => ?_)
              obtain ⟨j135, f136⟩ := q133
              have f139 := Fr.trans hF f136 (by decide)
              refine x_const (np := 24) (x := 9223372043297226753) (a := 2147483649) (by decide +kernel) (by decide) (by decide) ?_
              refine x_retI (np := 25) (x := 0) (by decide +kernel) (by decide) (Or.inr ⟨by decide +kernel, by omega, by omega⟩) ⟨_, rfl, (by decide), ?_⟩
              refine x_ifz (k := 0) (tg := 234) (np := 229) (by decide +kernel) (by decide) (by decide) (fun q140 => ?_) (fun q141 => ?_)
              · have q140 : 2147483649 = 2147483648 := q140
                exfalso; omega
              have q141 : ¬ (2147483649 = 2147483648) := q141
              refine x_aload (np := 230) (x := 0) (by decide +kernel) rfl (x_nc_le (by decide)) ?_
              refine x_nI (t := 6) (mj := 96) (n := 1) (rc := 10) (ml := 3) (nr := 0) (np := 233) (as := [x_r 61]) (rest := []) (lo1 := [x_r 61, 147573952589676412928, 147573952589676412928]) (by decide +kernel) (by decide) (by decide +kernel) (x_rb_of (by decide +kernel)) rfl rfl (x_wr (by decide) x_wn) x_wn (by decide) rfl ?_
              refine x_aload (np := 1) (x := 0) (by decide +kernel) rfl (x_nc_le (by decide)) ?_
              have q142 : h134 61 0 = 1 := by have z := jB (e := 0) 0 j135 rg_61_0_0_1 (by decide) (by decide); omega
              refine x_getR (np := 4) (x := 576) (f := 0) (q := 1) (by decide +kernel) (by decide) (by decide +kernel) q142 ?_
              refine x_const (np := 5) (x := 9223372039002259456) (a := 2147483648) (by decide +kernel) (by decide) (by decide) ?_
              refine x_aload (np := 6) (x := 0) (by decide +kernel) rfl (x_nc_le (by decide)) ?_
              have q143 : h134 61 1 = h 61 1 := f136 61 1 (by decide +kernel)
              have t144 : tw (h 61 1) := hJ.2.2.2.2.1
              refine x_getR (np := 9) (x := 577) (f := 1) (q := (h 61 1)) (by decide +kernel) (by decide) (by decide +kernel) q143 ?_
              have q145 : h134 (h 61 1) 7 = h (h 61 1) 7 := jK 0 f136 (rg_T0_7_0_1 t144) (by omega) (by omega) (by decide)
              have b146 := jB (e := 7) 0 hJ (rg_T0_7_0_1 t144) (by omega) (by omega)
              refine x_getC (np := 12) (x := 519) (f := 7) (q := (h (h 61 1) 7)) (by decide +kernel) (by decide) (tg_0_519_7_0 t144) q145 (fun l147 => ?_)
              refine x_const (np := 13) (x := 9223372043297226753) (a := 2147483649) (by decide +kernel) (by decide) (by decide) ?_
              obtain ⟨v148, q149⟩ : ∃ z, z + 2147483649 = (h (h 61 1) 7) + 2147483648 := ⟨(h (h 61 1) 7) + 2147483648 - 2147483649, by omega⟩
              refine x_isub (np := 14) (x := 0) (v := v148) (by decide +kernel) l147 (by decide) (by omega) (by omega) ?_
              refine x_cI (t := 6) (mj := 79) (n := 3) (rc := 8) (ml := 5) (nr := 0) (np := 17) (as := [x_r 1, iv_c 2147483648, iv_c v148]) (rest := []) (lo1 := [x_r 1, iv_c 2147483648, iv_c v148, 147573952589676412928, 147573952589676412928]) (by decide +kernel) (by decide) (by decide +kernel) (x_rb_of (by decide +kernel)) rfl rfl (x_wr (by decide) (x_wi (by decide) (x_wi (by omega) x_wn))) x_wn (by decide) rfl (c79_1_c0 j135   (by omega)) (fun v150 h153 l151 q152 => ?_)
              obtain ⟨j154, f155, b156, c157⟩ := q152
              have f158 := Fr.trans f139 f155 (by decide)
              refine x_istore (np := 18) (x := 1) (lo' := [x_r 61, iv_c v150, 147573952589676412928]) (by decide +kernel) l151 (Nat.le_of_ble_eq_true rfl) rfl ?_
              refine x_iload (np := 19) (x := 1) (by decide +kernel) rfl l151 ?_
              refine x_const (np := 20) (x := 9223372034707292159) (a := 2147483647) (by decide +kernel) (by decide) (by decide) ?_
              refine x_icmp (k := 0) (tg := 35) (np := 23) (by decide +kernel) (by decide) l151 (by decide) (fun q159 => ?_) (fun q160 => ?_)
              · have q159 : v150 = 2147483647 := q159
                refine x_const (np := 36) (x := 9223372039002259456) (a := 2147483648) (by decide +kernel) (by decide) (by decide) ?_
                refine x_retI (np := 37) (x := 0) (by decide +kernel) (by decide) (Or.inr ⟨by decide +kernel, by omega, by omega⟩) ⟨_, rfl, (by decide), ?_⟩
                refine x_retI (np := 234) (x := 0) (by decide +kernel) (by decide) (Or.inr ⟨by decide +kernel, by omega, by omega⟩) ⟨_, rfl, (by decide), ?_⟩
                exact ⟨j154, f158, (by omega)⟩
              have q160 : ¬ (v150 = 2147483647) := q160
              refine x_aload (np := 24) (x := 0) (by decide +kernel) rfl (x_nc_le (by decide)) ?_
              have q161 : h153 61 0 = 1 := by have z := jB (e := 0) 0 j154 rg_61_0_0_1 (by decide) (by decide); omega
              refine x_getR (np := 27) (x := 576) (f := 0) (q := 1) (by decide +kernel) (by decide) (by decide +kernel) q161 ?_
              refine x_ldcB (i := 2) (idx := 111) (tx := "day") (by rw [tb_y96]; exact List.mem_of_getElem? (i := 2) rfl) (by decide) (by rw [tb_b96]; decide +kernel) ?_
              refine x_nI (t := 6) (mj := 78) (n := 2) (rc := 8) (ml := 2) (nr := 0) (np := 32) (as := [x_r 1, x_b (2 + 1)]) (rest := []) (lo1 := [x_r 1, x_b (2 + 1)]) (by decide +kernel) (by decide) (by decide +kernel) (x_rb_of (by decide +kernel)) rfl rfl (x_wr (by decide) (x_wB (by decide) x_wn)) x_wn (by decide) rfl ?_
              refine x_aload (np := 1) (x := 0) (by decide +kernel) rfl (x_nc_le (by decide)) ?_
              refine x_aloadB (i := 2) (k4 := 1) rfl (by decide) (by rw [tb_b78]; decide +kernel) ?_
              refine x_cP (t := 6) (mj := 77) (n := 2) (rc := 8) (ml := 4) (nr := 0) (np := 5) (as := [x_r 1, x_b (2 + 1)]) (rest := []) (lo1 := [x_r 1, x_b (2 + 1), 147573952589676412928, 147573952589676412928]) (by decide +kernel) (by decide) (by decide +kernel) (x_rb_of (by decide +kernel)) rfl rfl (x_wr (by decide) (x_wB (by decide) x_wn)) x_wn (by decide) rfl (c77_1_S0 j154  (by decide)) (fun v162 l163 q164 => ?_)
              obtain ⟨b166, c165⟩ := q164
              have b167 := jB (e := 2) 0 j154 rg_1_2_0_1 (by omega) (by omega)
              refine x_ifz (k := 1) (tg := 10) (np := 8) (by decide +kernel) (by decide) l163 (fun q168 => ?_) (fun q169 => ?_)
              · have q168 : v162 ≠ 2147483648 := q168
                have b170 := c165 (by omega)
                refine x_aload (np := 11) (x := 0) (by decide +kernel) rfl (x_nc_le (by decide)) ?_
                refine x_aload (np := 12) (x := 0) (by decide +kernel) rfl (x_nc_le (by decide)) ?_
                refine x_getC (np := 15) (x := 450) (f := 2) (q := (h153 1 2)) (by decide +kernel) (by decide) (by decide +kernel) rfl (fun l171 => ?_)
                refine x_aloadB (i := 2) (k4 := 1) rfl (by decide) (by rw [tb_b78]; decide +kernel) ?_
                have b172 := (iv_tl_lt 2 (by decide)).1
                have b173 := iv_tl_ge 2 (by decide)
                refine x_len (by decide +kernel) (by rw [tb_y78]; exact sl_Tl) (by decide) (by rw [tb_b78]; decide +kernel) (Nat.le_trans (x_wi l171 (x_wr (by decide) x_wn)) (by decide)) ?_
                refine x_iadd (np := 20) (x := 0) (v := ((h153 1 2) + (iv_tl 2))) (by decide +kernel) l171 (by omega) (by omega) (by omega) ?_
                refine x_cV (t := 6) (mj := 80) (n := 2) (rc := 8) (ml := 2) (nr := 0) (np := 23) (as := [x_r 1, iv_c ((h153 1 2) + (iv_tl 2))]) (rest := []) (lo1 := [x_r 1, iv_c ((h153 1 2) + (iv_tl 2))]) (by decide +kernel) (by decide) (by decide +kernel) (x_rb_of (by decide +kernel)) rfl rfl (x_wr (by decide) (x_wi (by omega) x_wn)) x_wn (by decide) rfl (c80_1n j154  (by omega)) (fun h177 q176 => ?_)
                obtain ⟨j178, f179⟩ := q176
                have f182 := Fr.trans f158 f179 (by decide)
                refine x_const (np := 24) (x := 9223372043297226753) (a := 2147483649) (by decide +kernel) (by decide) (by decide) ?_
                refine x_retI (np := 25) (x := 0) (by decide +kernel) (by decide) (Or.inr ⟨by decide +kernel, by omega, by omega⟩) ⟨_, rfl, (by decide), ?_⟩
                refine x_ifz (k := 1) (tg := 37) (np := 35) (by decide +kernel) (by decide) (by decide) (fun q183 => ?_) (fun q184 => ?_)
                · have q183 : 2147483649 ≠ 2147483648 := q183
                  refine x_aload (np := 38) (x := 0) (by decide +kernel) rfl (x_nc_le (by decide)) ?_
                  have q185 : h177 61 0 = 1 := by have z := jB (e := 0) 0 j178 rg_61_0_0_1 (by decide) (by decide); omega
                  refine x_getR (np := 41) (x := 576) (f := 0) (q := 1) (by decide +kernel) (by decide) (by decide +kernel) q185 ?_
                  refine x_const (np := 42) (x := 9223372039002259456) (a := 2147483648) (by decide +kernel) (by decide) (by decide) ?_
                  refine x_const (np := 44) (x := 9223372086246899723) (a := 2147483659) (by decide +kernel) (by decide) (by decide) ?_
                  refine x_cI (t := 6) (mj := 79) (n := 3) (rc := 8) (ml := 5) (nr := 0) (np := 47) (as := [x_r 1, iv_c 2147483648, iv_c 2147483659]) (rest := []) (lo1 := [x_r 1, iv_c 2147483648, iv_c 2147483659, 147573952589676412928, 147573952589676412928]) (by decide +kernel) (by decide) (by decide +kernel) (x_rb_of (by decide +kernel)) rfl rfl (x_wr (by decide) (x_wi (by decide) (x_wi (by decide) x_wn))) x_wn (by decide) rfl (c79_1_c0 j178   (by omega)) (fun v186 h189 l187 q188 => ?_)
                  obtain ⟨j190, f191, b192, c193⟩ := q188
                  have f194 := Fr.trans f182 f191 (by decide)
                  refine x_istore (np := 48) (x := 2) (lo' := [x_r 61, iv_c v150, iv_c v186]) (by decide +kernel) l187 (Nat.le_of_ble_eq_true rfl) rfl ?_
                  refine x_iload (np := 49) (x := 2) (by decide +kernel) rfl l187 ?_
                  refine x_const (np := 50) (x := 9223372034707292159) (a := 2147483647) (by decide +kernel) (by decide) (by decide) ?_
                  refine x_icmp (k := 1) (tg := 55) (np := 53) (by decide +kernel) (by decide) l187 (by decide) (fun q195 => ?_) (fun q196 => ?_)
                  · have q195 : v186 ≠ 2147483647 := q195
                    refine x_aload (np := 56) (x := 0) (by decide +kernel) rfl (x_nc_le (by decide)) ?_
                    have q197 : h189 61 1 = h177 61 1 := f191 61 1 (by decide +kernel)
                    have q198 : h177 61 1 = h153 61 1 := f179 61 1 (by decide +kernel)
                    have q199 : h153 61 1 = h134 61 1 := f155 61 1 (by decide +kernel)
                    have q200 : h134 61 1 = h 61 1 := f136 61 1 (by decide +kernel)
                    refine x_getR (np := 59) (x := 577) (f := 1) (q := (h 61 1)) (by decide +kernel) (by decide) (by decide +kernel) (((q197.trans q198).trans q199).trans q200) ?_
                    have q201 : h189 (h 61 1) 4 = ((h 61 1) + 9) := tf_0_4 j190 t144
                    refine x_getR (np := 62) (x := 516) (f := 4) (q := ((h 61 1) + 9)) (by decide +kernel) (by decide) (tg_0_516_4_1 t144) q201 ?_
                    refine x_iload (np := 63) (x := 1) (by decide +kernel) rfl l151 ?_
                    refine x_aload (np := 64) (x := 0) (by decide +kernel) rfl (x_nc_le (by decide)) ?_
                    have q202 : h189 61 1 = h177 61 1 := f191 61 1 (by decide +kernel)
                    have q203 : h177 61 1 = h153 61 1 := f179 61 1 (by decide +kernel)
                    have q204 : h153 61 1 = h134 61 1 := f155 61 1 (by decide +kernel)
                    have q205 : h134 61 1 = h 61 1 := f136 61 1 (by decide +kernel)
                    refine x_getR (np := 67) (x := 577) (f := 1) (q := (h 61 1)) (by decide +kernel) (by decide) (by decide +kernel) (((q202.trans q203).trans q204).trans q205) ?_
                    have q206 : h189 (h 61 1) 4 = ((h 61 1) + 9) := tf_0_4 j190 t144
                    refine x_getR (np := 70) (x := 516) (f := 4) (q := ((h 61 1) + 9)) (by decide +kernel) (by decide) (tg_0_516_4_1 t144) q206 ?_
                    refine x_iload (np := 71) (x := 1) (by decide +kernel) rfl l151 ?_
                    obtain ⟨u207, q208⟩ : ∃ z, v150 = 2147483648 + z := ⟨v150 - 2147483648, by omega⟩
                    have q209 : h189 ((h 61 1) + 9) u207 = h177 ((h 61 1) + 9) u207 := jK u207 f191 (rg_T9_0_1_6 t144) (by omega) (by omega) (by decide)
                    have q210 : h177 ((h 61 1) + 9) u207 = h153 ((h 61 1) + 9) u207 := jK u207 f179 (rg_T9_0_1_6 t144) (by omega) (by omega) (by decide)
                    have q211 : h153 ((h 61 1) + 9) u207 = h134 ((h 61 1) + 9) u207 := jK u207 f155 (rg_T9_0_1_6 t144) (by omega) (by omega) (by decide)
                    have q212 : h134 ((h 61 1) + 9) u207 = h ((h 61 1) + 9) u207 := jK u207 f136 (rg_T9_0_1_6 t144) (by omega) (by omega) (by decide)
                    refine x_aldC (np := 72) (x := 0) (n := 6) (i := u207) (q := (h ((h 61 1) + 9) u207)) (by decide +kernel) (ta_9_6 t144) (by omega) (by omega) (by decide) (((q209.trans q210).trans q211).trans q212) (fun l213 => ?_)
                    refine x_iload (np := 73) (x := 2) (by decide +kernel) rfl l187 ?_
                    refine x_min (np := 76) (by decide +kernel) l213 l187 (Nat.le_trans (x_wi l187 (x_wi l213 (x_wi l151 (x_wr (tn_9 t144) x_wn)))) (by decide)) ?_
                    obtain ⟨v214, q215⟩ : ∃ w, w = min (h ((h 61 1) + 9) u207) v186 := ⟨_, rfl⟩
                    rw [← q215]
                    have b216 : v214 ≤ (h ((h 61 1) + 9) u207) ∧ v214 ≤ v186 := by omega
                    refine x_ast (np := 77) (x := 0) (kd := 1) (n := 6) (i := u207) (by decide +kernel) (Or.inl rfl) (ta_9_6 t144) (by omega) (by omega) (by decide) (by omega) (fun z => absurd z (by decide)) ?_
                    have j218 := jU (e := u207) (v := v214) u207 j190 (rg_T9_0_1_6 t144) (by omega) (by omega) (by omega)
                    have f220 := jF (e := u207) (v := v214) u207 f194 (rg_T9_0_1_6 t144) (by omega) (by omega) (by decide)
                    generalize e219 : x_up h189 ((h 61 1) + 9) u207 v214 = h217 at j218 f220 ⊢
                    refine x_const (np := 78) (x := 9223372043297226753) (a := 2147483649) (by decide +kernel) (by decide) (by decide) ?_
                    refine x_retI (np := 79) (x := 0) (by decide +kernel) (by decide) (Or.inr ⟨by decide +kernel, by omega, by omega⟩) ⟨_, rfl, (by decide), ?_⟩
                    refine x_retI (np := 234) (x := 0) (by decide +kernel) (by decide) (Or.inr ⟨by decide +kernel, by omega, by omega⟩) ⟨_, rfl, (by decide), ?_⟩
                    exact ⟨j218, f220, (by omega)⟩
                  have q196 : ¬ (v186 ≠ 2147483647) := q196
                  refine x_const (np := 54) (x := 9223372039002259456) (a := 2147483648) (by decide +kernel) (by decide) (by decide) ?_
                  refine x_retI (np := 55) (x := 0) (by decide +kernel) (by decide) (Or.inr ⟨by decide +kernel, by omega, by omega⟩) ⟨_, rfl, (by decide), ?_⟩
                  refine x_retI (np := 234) (x := 0) (by decide +kernel) (by decide) (Or.inr ⟨by decide +kernel, by omega, by omega⟩) ⟨_, rfl, (by decide), ?_⟩
                  exact ⟨j190, f194, (by omega)⟩
                have q184 : ¬ (2147483649 ≠ 2147483648) := q184
                exfalso; omega
              have q169 : ¬ (v162 ≠ 2147483648) := q169
              refine x_const (np := 9) (x := 9223372039002259456) (a := 2147483648) (by decide +kernel) (by decide) (by decide) ?_
              refine x_retI (np := 10) (x := 0) (by decide +kernel) (by decide) (Or.inr ⟨by decide +kernel, by omega, by omega⟩) ⟨_, rfl, (by decide), ?_⟩
              refine x_ifz (k := 1) (tg := 37) (np := 35) (by decide +kernel) (by decide) (by decide) (fun q221 => ?_) (fun q222 => ?_)
              · have q221 : 2147483648 ≠ 2147483648 := q221
                exfalso; omega
              have q222 : ¬ (2147483648 ≠ 2147483648) := q222
              refine x_const (np := 36) (x := 9223372039002259456) (a := 2147483648) (by decide +kernel) (by decide) (by decide) ?_
              refine x_retI (np := 37) (x := 0) (by decide +kernel) (by decide) (Or.inr ⟨by decide +kernel, by omega, by omega⟩) ⟨_, rfl, (by decide), ?_⟩
              refine x_retI (np := 234) (x := 0) (by decide +kernel) (by decide) (Or.inr ⟨by decide +kernel, by omega, by omega⟩) ⟨_, rfl, (by decide), ?_⟩
              exact ⟨j154, f158, (by omega)⟩
            have q126 : ¬ (v120 ≠ 2147483648) := q126
            refine x_const (np := 9) (x := 9223372039002259456) (a := 2147483648) (by decide +kernel) (by decide) (by decide) ?_
            refine x_retI (np := 10) (x := 0) (by decide +kernel) (by decide) (Or.inr ⟨by decide +kernel, by omega, by omega⟩) ⟨_, rfl, (by decide), ?_⟩
            refine x_ifz (k := 0) (tg := 234) (np := 229) (by decide +kernel) (by decide) (by decide) (fun q223 => ?_) (fun q224 => ?_)
            · have q223 : 2147483648 = 2147483648 := q223
              refine x_aload (np := 235) (x := 0) (by decide +kernel) rfl (x_nc_le (by decide)) ?_
              have q225 : h 61 0 = 1 := by have z := jB (e := 0) 0 hJ rg_61_0_0_1 (by decide) (by decide); omega
              refine x_getR (np := 238) (x := 576) (f := 0) (q := 1) (by decide +kernel) (by decide) (by decide +kernel) q225 ?_
              refine x_ldcB (i := 20) (idx := 92) (tx := "court") (by rw [tb_y93]; exact List.mem_of_getElem? (i := 20) rfl) (by decide) (by rw [tb_b93]; decide +kernel) ?_
              refine x_nI (t := 6) (mj := 78) (n := 2) (rc := 8) (ml := 2) (nr := 0) (np := 243) (as := [x_r 1, x_b (20 + 1)]) (rest := []) (lo1 := [x_r 1, x_b (20 + 1)]) (by decide +kernel) (by decide) (by decide +kernel) (x_rb_of (by decide +kernel)) rfl rfl (x_wr (by decide) (x_wB (by decide) x_wn)) x_wn (by decide) rfl ?_
              refine x_aload (np := 1) (x := 0) (by decide +kernel) rfl (x_nc_le (by decide)) ?_
              refine x_aloadB (i := 20) (k4 := 1) rfl (by decide) (by rw [tb_b78]; decide +kernel) ?_
              refine x_cP (t := 6) (mj := 77) (n := 2) (rc := 8) (ml := 4) (nr := 0) (np := 5) (as := [x_r 1, x_b (20 + 1)]) (rest := []) (lo1 := [x_r 1, x_b (20 + 1), 147573952589676412928, 147573952589676412928]) (by decide +kernel) (by decide) (by decide +kernel) (x_rb_of (by decide +kernel)) rfl rfl (x_wr (by decide) (x_wB (by decide) x_wn)) x_wn (by decide) rfl (c77_1_S0 hJ  (by decide)) (fun v226 l227 q228 => ?_)
              obtain ⟨b230, c229⟩ := q228
              refine x_ifz (k := 1) (tg := 10) (np := 8) (by decide +kernel) (by decide) l227 (fun q231 => ?_) (fun q232 => ?_)
              · have q231 : v226 ≠ 2147483648 := q231
                have b233 := c229 (by omega)
                refine x_aload (np := 11) (x := 0) (by decide +kernel) rfl (x_nc_le (by decide)) ?_
                refine x_aload (np := 12) (x := 0) (by decide +kernel) rfl (x_nc_le (by decide)) ?_
                refine x_getC (np := 15) (x := 450) (f := 2) (q := (h 1 2)) (by decide +kernel) (by decide) (by decide +kernel) rfl (fun l234 => ?_)
                refine x_aloadB (i := 20) (k4 := 1) rfl (by decide) (by rw [tb_b78]; decide +kernel) ?_
                have b235 := (iv_tl_lt 20 (by decide)).1
                have b236 := iv_tl_ge 20 (by decide)
                refine x_len (by decide +kernel) (by rw [tb_y78]; exact sl_Tl) (by decide) (by rw [tb_b78]; decide +kernel) (Nat.le_trans (x_wi l234 (x_wr (by decide) x_wn)) (by decide)) ?_
                refine x_iadd (np := 20) (x := 0) (v := ((h 1 2) + (iv_tl 20))) (by decide +kernel) l234 (by omega) (by omega) (by omega) ?_
                refine x_cV (t := 6) (mj := 80) (n := 2) (rc := 8) (ml := 2) (nr := 0) (np := 23) (as := [x_r 1, iv_c ((h 1 2) + (iv_tl 20))]) (rest := []) (lo1 := [x_r 1, iv_c ((h 1 2) + (iv_tl 20))]) (by decide +kernel) (by decide) (by decide +kernel) (x_rb_of (by decide +kernel)) rfl rfl (x_wr (by decide) (x_wi (by omega) x_wn)) x_wn (by decide) rfl (c80_1n hJ  (by omega)) (fun h240 q239 => ?_)
                obtain ⟨j241, f242⟩ := q239
                have f245 := Fr.trans hF f242 (by decide)
                refine x_const (np := 24) (x := 9223372043297226753) (a := 2147483649) (by decide +kernel) (by decide) (by decide) ?_
                refine x_retI (np := 25) (x := 0) (by decide +kernel) (by decide) (Or.inr ⟨by decide +kernel, by omega, by omega⟩) ⟨_, rfl, (by decide), ?_⟩
                refine x_ifz (k := 0) (tg := 257) (np := 246) (by decide +kernel) (by decide) (by decide) (fun q246 => ?_) (fun q247 => ?_)
                · have q246 : 2147483649 = 2147483648 := q246
                  exfalso; omega
                have q247 : ¬ (2147483649 = 2147483648) := q247
                refine x_aload (np := 247) (x := 0) (by decide +kernel) rfl (x_nc_le (by decide)) ?_
                refine x_nI (t := 6) (mj := 97) (n := 1) (rc := 10) (ml := 2) (nr := 0) (np := 250) (as := [x_r 61]) (rest := []) (lo1 := [x_r 61, 147573952589676412928]) (by decide +kernel) (by decide) (by decide +kernel) (x_rb_of (by decide +kernel)) rfl rfl (x_wr (by decide) x_wn) x_wn (by decide) rfl ?_
                refine x_aload (np := 1) (x := 0) (by decide +kernel) rfl (x_nc_le (by decide)) ?_
                have q248 : h240 61 0 = 1 := by have z := jB (e := 0) 0 j241 rg_61_0_0_1 (by decide) (by decide); omega
                refine x_getR (np := 4) (x := 576) (f := 0) (q := 1) (by decide +kernel) (by decide) (by decide +kernel) q248 ?_
                refine x_ldcB (i := 2) (idx := 111) (tx := "day") (by rw [tb_y97]; exact List.mem_of_getElem? (i := 2) rfl) (by decide) (by rw [tb_b97]; decide +kernel) ?_
                refine x_nI (t := 6) (mj := 78) (n := 2) (rc := 8) (ml := 2) (nr := 0) (np := 9) (as := [x_r 1, x_b (2 + 1)]) (rest := []) (lo1 := [x_r 1, x_b (2 + 1)]) (by decide +kernel) (by decide) (by decide +kernel) (x_rb_of (by decide +kernel)) rfl rfl (x_wr (by decide) (x_wB (by decide) x_wn)) x_wn (by decide) rfl ?_
                refine x_aload (np := 1) (x := 0) (by decide +kernel) rfl (x_nc_le (by decide)) ?_
                refine x_aloadB (i := 2) (k4 := 1) rfl (by decide) (by rw [tb_b78]; decide +kernel) ?_
                refine x_cP (t := 6) (mj := 77) (n := 2) (rc := 8) (ml := 4) (nr := 0) (np := 5) (as := [x_r 1, x_b (2 + 1)]) (rest := []) (lo1 := [x_r 1, x_b (2 + 1), 147573952589676412928, 147573952589676412928]) (by decide +kernel) (by decide) (by decide +kernel) (x_rb_of (by decide +kernel)) rfl rfl (x_wr (by decide) (x_wB (by decide) x_wn)) x_wn (by decide) rfl (c77_1_S0 j241  (by decide)) (fun v249 l250 q251 => ?_)
                obtain ⟨b253, c252⟩ := q251
                have b254 := jB (e := 2) 0 j241 rg_1_2_0_1 (by omega) (by omega)
                refine x_ifz (k := 1) (tg := 10) (np := 8) (by decide +kernel) (by decide) l250 (fun q255 => ?_) (fun q256 => ?_)
                · have q255 : v249 ≠ 2147483648 := q255
                  have b257 := c252 (by omega)
                  refine x_aload (np := 11) (x := 0) (by decide +kernel) rfl (x_nc_le (by decide)) ?_
                  refine x_aload (np := 12) (x := 0) (by decide +kernel) rfl (x_nc_le (by decide)) ?_
                  refine x_getC (np := 15) (x := 450) (f := 2) (q := (h240 1 2)) (by decide +kernel) (by decide) (by decide +kernel) rfl (fun l258 => ?_)
                  refine x_aloadB (i := 2) (k4 := 1) rfl (by decide) (by rw [tb_b78]; decide +kernel) ?_
                  have b259 := (iv_tl_lt 2 (by decide)).1
                  have b260 := iv_tl_ge 2 (by decide)
                  refine x_len (by decide +kernel) (by rw [tb_y78]; exact sl_Tl) (by decide) (by rw [tb_b78]; decide +kernel) (Nat.le_trans (x_wi l258 (x_wr (by decide) x_wn)) (by decide)) ?_
                  refine x_iadd (np := 20) (x := 0) (v := ((h240 1 2) + (iv_tl 2))) (by decide +kernel) l258 (by omega) (by omega) (by omega) ?_
                  refine x_cV (t := 6) (mj := 80) (n := 2) (rc := 8) (ml := 2) (nr := 0) (np := 23) (as := [x_r 1, iv_c ((h240 1 2) + (iv_tl 2))]) (rest := []) (lo1 := [x_r 1, iv_c ((h240 1 2) + (iv_tl 2))]) (by decide +kernel) (by decide) (by decide +kernel) (x_rb_of (by decide +kernel)) rfl rfl (x_wr (by decide) (x_wi (by omega) x_wn)) x_wn (by decide) rfl (c80_1n j241  (by omega)) (fun h264 q263 => ?_)
                  obtain ⟨j265, f266⟩ := q263
                  have f269 := Fr.trans f245 f266 (by decide)
                  refine x_const (np := 24) (x := 9223372043297226753) (a := 2147483649) (by decide +kernel) (by decide) (by decide) ?_
                  refine x_retI (np := 25) (x := 0) (by decide +kernel) (by decide) (Or.inr ⟨by decide +kernel, by omega, by omega⟩) ⟨_, rfl, (by decide), ?_⟩
                  refine x_ifz (k := 1) (tg := 14) (np := 12) (by decide +kernel) (by decide) (by decide) (fun q270 => ?_) (fun q271 => ?_)
                  · have q270 : 2147483649 ≠ 2147483648 := q270
                    refine x_aload (np := 15) (x := 0) (by decide +kernel) rfl (x_nc_le (by decide)) ?_
                    have q272 : h264 61 0 = 1 := by have z := jB (e := 0) 0 j265 rg_61_0_0_1 (by decide) (by decide); omega
                    refine x_getR (np := 18) (x := 576) (f := 0) (q := 1) (by decide +kernel) (by decide) (by decide +kernel) q272 ?_
                    refine x_const (np := 19) (x := 9223372039002259456) (a := 2147483648) (by decide +kernel) (by decide) (by decide) ?_
                    refine x_const (np := 21) (x := 9223372086246899723) (a := 2147483659) (by decide +kernel) (by decide) (by decide) ?_
                    refine x_cI (t := 6) (mj := 79) (n := 3) (rc := 8) (ml := 5) (nr := 0) (np := 24) (as := [x_r 1, iv_c 2147483648, iv_c 2147483659]) (rest := []) (lo1 := [x_r 1, iv_c 2147483648, iv_c 2147483659, 147573952589676412928, 147573952589676412928]) (by decide +kernel) (by decide) (by decide +kernel) (x_rb_of (by decide +kernel)) rfl rfl (x_wr (by decide) (x_wi (by decide) (x_wi (by decide) x_wn))) x_wn (by decide) rfl (c79_1_c0 j265   (by omega)) (fun v273 h276 l274 q275 => ?_)
                    obtain ⟨j277, f278, b279, c280⟩ := q275
                    have f281 := Fr.trans f269 f278 (by decide)
                    refine x_istore (np := 25) (x := 1) (lo' := [x_r 61, iv_c v273]) (by decide +kernel) l274 (Nat.le_of_ble_eq_true rfl) rfl ?_
                    refine x_iload (np := 26) (x := 1) (by decide +kernel) rfl l274 ?_
                    refine x_const (np := 27) (x := 9223372034707292159) (a := 2147483647) (by decide +kernel) (by decide) (by decide) ?_
                    refine x_icmp (k := 1) (tg := 32) (np := 30) (by decide +kernel) (by decide) l274 (by decide) (fun q282 => ?_) (fun q283 => ?_)
                    · have q282 : v273 ≠ 2147483647 := q282
                      refine x_aload (np := 33) (x := 0) (by decide +kernel) rfl (x_nc_le (by decide)) ?_
                      have q284 : h276 61 1 = h264 61 1 := f278 61 1 (by decide +kernel)
                      have q285 : h264 61 1 = h240 61 1 := f266 61 1 (by decide +kernel)
                      have q286 : h240 61 1 = h 61 1 := f242 61 1 (by decide +kernel)
                      have t287 : tw (h 61 1) := hJ.2.2.2.2.1
                      refine x_getR (np := 36) (x := 577) (f := 1) (q := (h 61 1)) (by decide +kernel) (by decide) (by decide +kernel) ((q284.trans q285).trans q286) ?_
                      refine x_dup (np := 37) (x := 0) (by decide +kernel) (by have z := x_nc_le (k := (h 61 1)) (tn_0 t287); unfold x_r; omega) ?_
                      have q288 : h276 (h 61 1) 9 = h264 (h 61 1) 9 := jK 0 f278 (rg_T0_9_0_1 t287) (by omega) (by omega) (by decide)
                      have q289 : h264 (h 61 1) 9 = h240 (h 61 1) 9 := jK 0 f266 (rg_T0_9_0_1 t287) (by omega) (by omega) (by decide)
                      have q290 : h240 (h 61 1) 9 = h (h 61 1) 9 := jK 0 f242 (rg_T0_9_0_1 t287) (by omega) (by omega) (by decide)
                      refine x_getC (np := 40) (x := 521) (f := 9) (q := (h (h 61 1) 9)) (by decide +kernel) (by decide) (tg_0_521_9_0 t287) ((q288.trans q289).trans q290) (fun l291 => ?_)
                      refine x_const (np := 41) (x := 9223372043297226753) (a := 2147483649) (by decide +kernel) (by decide) (by decide) ?_
                      refine x_iload (np := 42) (x := 1) (by decide +kernel) rfl l274 ?_
                      refine x_any (np := 43) (k9 := 3) (by decide +kernel) (by decide) (by decide) l274 (fun v292 l293 => ?_)
                      refine x_any (np := 44) (k9 := 1) (by decide +kernel) (by decide) l291 l293 (fun v294 l295 => ?_)
                      refine x_putI (np := 47) (x := 521) (f := 9) (by decide +kernel) (tg_0_521_9_0 t287) l295 (Or.inl (by decide)) ?_
                      have j297 := jU (e := 9) (v := v294) 0 j277 (rg_T0_9_0_1 t287) (by omega) (by omega) (by omega)
                      have f299 := jF (e := 9) (v := v294) 0 f281 (rg_T0_9_0_1 t287) (by omega) (by omega) (by decide)
                      generalize e298 : x_up h276 (h 61 1) 9 v294 = h296 at j297 f299 ⊢
                      refine x_const (np := 48) (x := 9223372043297226753) (a := 2147483649) (by decide +kernel) (by decide) (by decide) ?_
                      refine x_retI (np := 49) (x := 0) (by decide +kernel) (by decide) (Or.inr ⟨by decide +kernel, by omega, by omega⟩) ⟨_, rfl, (by decide), ?_⟩
                      refine x_ifz (k := 0) (tg := 257) (np := 253) (by decide +kernel) (by decide) (by decide) (fun q300 => ?_) (fun q301 => ?_)
                      · have q300 : 2147483649 = 2147483648 := q300
                        exfalso; omega
                      have q301 : ¬ (2147483649 = 2147483648) := q301
                      refine x_const (np := 254) (x := 9223372043297226753) (a := 2147483649) (by decide +kernel) (by decide) (by decide) ?_
                      refine x_goto (np := 257) (x := 258) (by decide +kernel) ?_
                      refine x_retI (np := 259) (x := 0) (by decide +kernel) (by decide) (Or.inr ⟨by decide +kernel, by omega, by omega⟩) ⟨_, rfl, (by decide), ?_⟩
                      exact ⟨j297, f299, (by omega)⟩
                    have q283 : ¬ (v273 ≠ 2147483647) := q283
                    refine x_const (np := 31) (x := 9223372039002259456) (a := 2147483648) (by decide +kernel) (by decide) (by decide) ?_
                    refine x_retI (np := 32) (x := 0) (by decide +kernel) (by decide) (Or.inr ⟨by decide +kernel, by omega, by omega⟩) ⟨_, rfl, (by decide), ?_⟩
                    refine x_ifz (k := 0) (tg := 257) (np := 253) (by decide +kernel) (by decide) (by decide) (fun q302 => ?_) (fun q303 => ?_)
                    · have q302 : 2147483648 = 2147483648 := q302
                      refine x_const (np := 258) (x := 9223372039002259456) (a := 2147483648) (by decide +kernel) (by decide) (by decide) ?_
                      refine x_retI (np := 259) (x := 0) (by decide +kernel) (by decide) (Or.inr ⟨by decide +kernel, by omega, by omega⟩) ⟨_, rfl, (by decide), ?_⟩
                      exact ⟨j277, f281, (by omega)⟩
                    have q303 : ¬ (2147483648 = 2147483648) := q303
                    exfalso; omega
                  have q271 : ¬ (2147483649 ≠ 2147483648) := q271
                  exfalso; omega
                have q256 : ¬ (v249 ≠ 2147483648) := q256
                refine x_const (np := 9) (x := 9223372039002259456) (a := 2147483648) (by decide +kernel) (by decide) (by decide) ?_
                refine x_retI (np := 10) (x := 0) (by decide +kernel) (by decide) (Or.inr ⟨by decide +kernel, by omega, by omega⟩) ⟨_, rfl, (by decide), ?_⟩
                refine x_ifz (k := 1) (tg := 14) (np := 12) (by decide +kernel) (by decide) (by decide) (fun q304 => ?_) (fun q305 => ?_)
                · have q304 : 2147483648 ≠ 2147483648 := q304
                  exfalso; omega
                have q305 : ¬ (2147483648 ≠ 2147483648) := q305
                refine x_const (np := 13) (x := 9223372039002259456) (a := 2147483648) (by decide +kernel) (by decide) (by decide) ?_
                refine x_retI (np := 14) (x := 0) (by decide +kernel) (by decide) (Or.inr ⟨by decide +kernel, by omega, by omega⟩) ⟨_, rfl, (by decide), ?_⟩
                refine x_ifz (k := 0) (tg := 257) (np := 253) (by decide +kernel) (by decide) (by decide) (fun q306 => ?_) (fun q307 => ?_)
                · have q306 : 2147483648 = 2147483648 := q306
                  refine x_const (np := 258) (x := 9223372039002259456) (a := 2147483648) (by decide +kernel) (by decide) (by decide) ?_
                  refine x_retI (np := 259) (x := 0) (by decide +kernel) (by decide) (Or.inr ⟨by decide +kernel, by omega, by omega⟩) ⟨_, rfl, (by decide), ?_⟩
                  exact ⟨j241, f245, (by omega)⟩
                have q307 : ¬ (2147483648 = 2147483648) := q307
                exfalso; omega
              have q232 : ¬ (v226 ≠ 2147483648) := q232
              refine x_const (np := 9) (x := 9223372039002259456) (a := 2147483648) (by decide +kernel) (by decide) (by decide) ?_
              refine x_retI (np := 10) (x := 0) (by decide +kernel) (by decide) (Or.inr ⟨by decide +kernel, by omega, by omega⟩) ⟨_, rfl, (by decide), ?_⟩
              refine x_ifz (k := 0) (tg := 257) (np := 246) (by decide +kernel) (by decide) (by decide) (fun q308 => ?_) (fun q309 => ?_)
              · have q308 : 2147483648 = 2147483648 := q308
                refine x_const (np := 258) (x := 9223372039002259456) (a := 2147483648) (by decide +kernel) (by decide) (by decide) ?_
                refine x_retI (np := 259) (x := 0) (by decide +kernel) (by decide) (Or.inr ⟨by decide +kernel, by omega, by omega⟩) ⟨_, rfl, (by decide), ?_⟩
                exact ⟨hJ, hF, (by omega)⟩
              have q309 : ¬ (2147483648 = 2147483648) := q309
              exfalso; omega
            have q224 : ¬ (2147483648 = 2147483648) := q224
            exfalso; omega
          have q118 : ¬ (2147483648 = 2147483648) := q118
          exfalso; omega
        have q33 : ¬ (v27 = 2147483648) := q33
        have b310 := c30 (by omega)
        refine x_aload (np := 163) (x := 0) (by decide +kernel) rfl (x_nc_le (by decide)) ?_
        have t311 : tw (h 61 1) := hJ.2.2.2.2.1
        refine x_getR (np := 166) (x := 577) (f := 1) (q := (h 61 1)) (by decide +kernel) (by decide) (by decide +kernel) rfl ?_
        have q312 : h (h 61 1) 3 = ((h 61 1) + 7) := tf_0_3 hJ t311
        refine x_getR (np := 169) (x := 515) (f := 3) (q := ((h 61 1) + 7)) (by decide +kernel) (by decide) (tg_0_515_3_1 t311) q312 ?_
        refine x_nI (t := 6) (mj := 66) (n := 1) (rc := 7) (ml := 1) (nr := 0) (np := 172) (as := [x_r ((h 61 1) + 7)]) (rest := []) (lo1 := [x_r ((h 61 1) + 7)]) (by decide +kernel) (by decide) (by decide +kernel) (x_rb_of (tr_7_7 t311)) rfl rfl (x_wr (tn_7 t311) x_wn) x_wn (by decide) rfl ?_
        refine x_aload (np := 1) (x := 0) (by decide +kernel) rfl (x_nc_le (tn_7 t311)) ?_
        have b313 := jB (e := 2) 0 hJ (rg_T7_2_0_1 t311) (by omega) (by omega)
        refine x_getC (np := 4) (x := 386) (f := 2) (q := (h ((h 61 1) + 7) 2)) (by decide +kernel) (by decide) (tg_7_386_2_0 t311) rfl (fun l314 => ?_)
        refine x_const (np := 5) (x := 9223372043297226753) (a := 2147483649) (by decide +kernel) (by decide) (by decide) ?_
        refine x_iadd (np := 6) (x := 0) (v := (1 + (h ((h 61 1) + 7) 2))) (by decide +kernel) l314 (by decide) (by omega) (by omega) ?_
        refine x_aload (np := 7) (x := 0) (by decide +kernel) rfl (x_nc_le (tn_7 t311)) ?_
        have b315 := jB (e := 0) 0 hJ (rg_T7_0_0_1 t311) (by omega) (by omega)
        have q316 : (h ((h 61 1) + 7) 0) = 2147483652 := by omega
        refine x_getC (np := 10) (x := 384) (f := 0) (q := 2147483652) (by decide +kernel) (by decide) (tg_7_384_0_0 t311) q316 (fun l317 => ?_)
        obtain ⟨u318, q319⟩ : ∃ z, (h ((h 61 1) + 7) 2) = 2147483648 + z := ⟨(h ((h 61 1) + 7) 2) - 2147483648, by omega⟩
        refine x_imul (np := 11) (x := 0) (i := (1 + u318)) (j := 4) (v := (2147483652 + 4 * u318)) (by decide +kernel) (by omega) (by omega) (by omega) (by omega) (by omega) (by decide) ?_
        refine x_aload (np := 12) (x := 0) (by decide +kernel) rfl (x_nc_le (tn_7 t311)) ?_
        have q321 : h ((h 61 1) + 7) 1 = ((h 61 1) + 8) := tf_7_1 hJ t311
        refine x_getR (np := 15) (x := 385) (f := 1) (q := ((h 61 1) + 8)) (by decide +kernel) (by decide) (tg_7_385_1_1 t311) q321 ?_
        refine x_alen (np := 16) (x := 0) (n := 40) (by decide +kernel) (tn_8 t311) (tl_8 t311).1 (tl_8 t311).2 (by decide) ?_
        show X _ _ _ _ _ _ _ _ [iv_c 2147483688, iv_c (2147483652 + 4 * u318)] _
        refine x_icmp (k := 5) (tg := 23) (np := 19) (by decide +kernel) (by decide) (by omega) (by decide) (fun q322 => ?_) (fun q323 => ?_)
        · have q322 : (2147483652 + 4 * u318) ≤ 2147483688 := q322
          refine x_const (np := 24) (x := 9223372039002259456) (a := 2147483648) (by decide +kernel) (by decide) (by decide) ?_
          refine x_retI (np := 25) (x := 0) (by decide +kernel) (by decide) (Or.inr ⟨by decide +kernel, by omega, by omega⟩) ⟨_, rfl, (by decide), ?_⟩
          refine x_ifz (k := 1) (tg := 198) (np := 175) (by decide +kernel) (by decide) (by decide) (fun q324 => ?_) (fun q325 => ?_)
          · have q324 : 2147483648 ≠ 2147483648 := q324
            exfalso; omega
          have q325 : ¬ (2147483648 ≠ 2147483648) := q325
          refine x_aload (np := 176) (x := 0) (by decide +kernel) rfl (x_nc_le (by decide)) ?_
          have q326 : h 61 0 = 1 := by have z := jB (e := 0) 0 hJ rg_61_0_0_1 (by decide) (by decide); omega
          refine x_getR (np := 179) (x := 576) (f := 0) (q := 1) (by decide +kernel) (by decide) (by decide +kernel) q326 ?_
          refine x_ldcB (i := 13) (idx := 74) (tx := "seen") (by rw [tb_y93]; exact List.mem_of_getElem? (i := 13) rfl) (by decide) (by rw [tb_b93]; decide +kernel) ?_
          refine x_nI (t := 6) (mj := 78) (n := 2) (rc := 8) (ml := 2) (nr := 0) (np := 184) (as := [x_r 1, x_b (13 + 1)]) (rest := []) (lo1 := [x_r 1, x_b (13 + 1)]) (by decide +kernel) (by decide) (by decide +kernel) (x_rb_of (by decide +kernel)) rfl rfl (x_wr (by decide) (x_wB (by decide) x_wn)) x_wn (by decide) rfl ?_
          refine x_aload (np := 1) (x := 0) (by decide +kernel) rfl (x_nc_le (by decide)) ?_
          refine x_aloadB (i := 13) (k4 := 1) rfl (by decide) (by rw [tb_b78]; decide +kernel) ?_
          refine x_cP (t := 6) (mj := 77) (n := 2) (rc := 8) (ml := 4) (nr := 0) (np := 5) (as := [x_r 1, x_b (13 + 1)]) (rest := []) (lo1 := [x_r 1, x_b (13 + 1), 147573952589676412928, 147573952589676412928]) (by decide +kernel) (by decide) (by decide +kernel) (x_rb_of (by decide +kernel)) rfl rfl (x_wr (by decide) (x_wB (by decide) x_wn)) x_wn (by decide) rfl (c77_1_S0 hJ  (by decide)) (fun v327 l328 q329 => ?_)
          obtain ⟨b331, c330⟩ := q329
          refine x_ifz (k := 1) (tg := 10) (np := 8) (by decide +kernel) (by decide) l328 (fun q332 => ?_) (fun q333 => ?_)
          · have q332 : v327 ≠ 2147483648 := q332
            have b334 := c330 (by omega)
            refine x_aload (np := 11) (x := 0) (by decide +kernel) rfl (x_nc_le (by decide)) ?_
            refine x_aload (np := 12) (x := 0) (by decide +kernel) rfl (x_nc_le (by decide)) ?_
            refine x_getC (np := 15) (x := 450) (f := 2) (q := (h 1 2)) (by decide +kernel) (by decide) (by decide +kernel) rfl (fun l335 => ?_)
            refine x_aloadB (i := 13) (k4 := 1) rfl (by decide) (by rw [tb_b78]; decide +kernel) ?_
            have b336 := (iv_tl_lt 13 (by decide)).1
            have b337 := iv_tl_ge 13 (by decide)
            refine x_len (by decide +kernel) (by rw [tb_y78]; exact sl_Tl) (by decide) (by rw [tb_b78]; decide +kernel) (Nat.le_trans (x_wi l335 (x_wr (by decide) x_wn)) (by decide)) ?_
            refine x_iadd (np := 20) (x := 0) (v := ((h 1 2) + (iv_tl 13))) (by decide +kernel) l335 (by omega) (by omega) (by omega) ?_
            refine x_cV (t := 6) (mj := 80) (n := 2) (rc := 8) (ml := 2) (nr := 0) (np := 23) (as := [x_r 1, iv_c ((h 1 2) + (iv_tl 13))]) (rest := []) (lo1 := [x_r 1, iv_c ((h 1 2) + (iv_tl 13))]) (by decide +kernel) (by decide) (by decide +kernel) (x_rb_of (by decide +kernel)) rfl rfl (x_wr (by decide) (x_wi (by omega) x_wn)) x_wn (by decide) rfl (c80_1n hJ  (by omega)) (fun h341 q340 => ?_)
            obtain ⟨j342, f343⟩ := q340
            have f346 := Fr.trans hF f343 (by decide)
            refine x_const (np := 24) (x := 9223372043297226753) (a := 2147483649) (by decide +kernel) (by decide) (by decide) ?_
            refine x_retI (np := 25) (x := 0) (by decide +kernel) (by decide) (Or.inr ⟨by decide +kernel, by omega, by omega⟩) ⟨_, rfl, (by decide), ?_⟩
            refine x_ifz (k := 0) (tg := 198) (np := 187) (by decide +kernel) (by decide) (by decide) (fun q347 => ?_) (fun q348 => ?_)
            · have q347 : 2147483649 = 2147483648 := q347
              exfalso; omega
            have q348 : ¬ (2147483649 = 2147483648) := q348
            refine x_aload (np := 188) (x := 0) (by decide +kernel) rfl (x_nc_le (by decide)) ?_
            refine x_cI (t := 6) (mj := 100) (n := 1) (rc := 10) (ml := 2) (nr := 0) (np := 191) (as := [x_r 61]) (rest := []) (lo1 := [x_r 61, 147573952589676412928]) (by decide +kernel) (by decide) (by decide +kernel) (x_rb_of (by decide +kernel)) rfl rfl (x_wr (by decide) x_wn) x_wn (by decide) rfl (c100_61 j342 ) (fun v349 h352 l350 q351 => ?_)
            obtain ⟨j353, f354, b355⟩ := q351
            have f356 := Fr.trans f346 f354 (by decide)
            refine x_ifz (k := 0) (tg := 198) (np := 194) (by decide +kernel) (by decide) l350 (fun q357 => ?_) (fun q358 => ?_)
            · have q357 : v349 = 2147483648 := q357
              refine x_const (np := 199) (x := 9223372039002259456) (a := 2147483648) (by decide +kernel) (by decide) (by decide) ?_
              refine x_retI (np := 200) (x := 0) (by decide +kernel) (by decide) (Or.inr ⟨by decide +kernel, by omega, by omega⟩) ⟨_, rfl, (by decide), ?_⟩
              exact ⟨j353, f356, (by omega)⟩
            have q358 : ¬ (v349 = 2147483648) := q358
            refine x_const (np := 195) (x := 9223372043297226753) (a := 2147483649) (by decide +kernel) (by decide) (by decide) ?_
            refine x_goto (np := 198) (x := 199) (by decide +kernel) ?_
            refine x_retI (np := 200) (x := 0) (by decide +kernel) (by decide) (Or.inr ⟨by decide +kernel, by omega, by omega⟩) ⟨_, rfl, (by decide), ?_⟩
            exact ⟨j353, f356, (by omega)⟩
          have q333 : ¬ (v327 ≠ 2147483648) := q333
          refine x_const (np := 9) (x := 9223372039002259456) (a := 2147483648) (by decide +kernel) (by decide) (by decide) ?_
          refine x_retI (np := 10) (x := 0) (by decide +kernel) (by decide) (Or.inr ⟨by decide +kernel, by omega, by omega⟩) ⟨_, rfl, (by decide), ?_⟩
          refine x_ifz (k := 0) (tg := 198) (np := 187) (by decide +kernel) (by decide) (by decide) (fun q359 => ?_) (fun q360 => ?_)
          · have q359 : 2147483648 = 2147483648 := q359
            refine x_const (np := 199) (x := 9223372039002259456) (a := 2147483648) (by decide +kernel) (by decide) (by decide) ?_
            refine x_retI (np := 200) (x := 0) (by decide +kernel) (by decide) (Or.inr ⟨by decide +kernel, by omega, by omega⟩) ⟨_, rfl, (by decide), ?_⟩
            exact ⟨hJ, hF, (by omega)⟩
          have q360 : ¬ (2147483648 = 2147483648) := q360
          exfalso; omega
        have q323 : ¬ ((2147483652 + 4 * u318) ≤ 2147483688) := q323
        refine x_const (np := 20) (x := 9223372043297226753) (a := 2147483649) (by decide +kernel) (by decide) (by decide) ?_
        refine x_goto (np := 23) (x := 24) (by decide +kernel) ?_
        refine x_retI (np := 25) (x := 0) (by decide +kernel) (by decide) (Or.inr ⟨by decide +kernel, by omega, by omega⟩) ⟨_, rfl, (by decide), ?_⟩
        refine x_ifz (k := 1) (tg := 198) (np := 175) (by decide +kernel) (by decide) (by decide) (fun q361 => ?_) (fun q362 => ?_)
        · have q361 : 2147483649 ≠ 2147483648 := q361
          refine x_const (np := 199) (x := 9223372039002259456) (a := 2147483648) (by decide +kernel) (by decide) (by decide) ?_
          refine x_retI (np := 200) (x := 0) (by decide +kernel) (by decide) (Or.inr ⟨by decide +kernel, by omega, by omega⟩) ⟨_, rfl, (by decide), ?_⟩
          exact ⟨hJ, hF, (by omega)⟩
        have q362 : ¬ (2147483649 ≠ 2147483648) := q362
        exfalso; omega
      have q25 : ¬ (v19 = 2147483648) := q25
      have b363 := c22 (by omega)
      refine x_aload (np := 113) (x := 0) (by decide +kernel) rfl (x_nc_le (by decide)) ?_
      have t364 : tw (h 61 1) := hJ.2.2.2.2.1
      refine x_getR (np := 116) (x := 577) (f := 1) (q := (h 61 1)) (by decide +kernel) (by decide) (by decide +kernel) rfl ?_
      have q365 : h (h 61 1) 2 = ((h 61 1) + 5) := tf_0_2 hJ t364
      refine x_getR (np := 119) (x := 514) (f := 2) (q := ((h 61 1) + 5)) (by decide +kernel) (by decide) (tg_0_514_2_1 t364) q365 ?_
      refine x_nI (t := 6) (mj := 66) (n := 1) (rc := 7) (ml := 1) (nr := 0) (np := 122) (as := [x_r ((h 61 1) + 5)]) (rest := []) (lo1 := [x_r ((h 61 1) + 5)]) (by decide +kernel) (by decide) (by decide +kernel) (x_rb_of (tr_5_7 t364)) rfl rfl (x_wr (tn_5 t364) x_wn) x_wn (by decide) rfl ?_
      refine x_aload (np := 1) (x := 0) (by decide +kernel) rfl (x_nc_le (tn_5 t364)) ?_
      have b366 := jB (e := 2) 0 hJ (rg_T5_2_0_1 t364) (by omega) (by omega)
      refine x_getC (np := 4) (x := 386) (f := 2) (q := (h ((h 61 1) + 5) 2)) (by decide +kernel) (by decide) (tg_5_386_2_0 t364) rfl (fun l367 => ?_)
      refine x_const (np := 5) (x := 9223372043297226753) (a := 2147483649) (by decide +kernel) (by decide) (by decide) ?_
      refine x_iadd (np := 6) (x := 0) (v := (1 + (h ((h 61 1) + 5) 2))) (by decide +kernel) l367 (by decide) (by omega) (by omega) ?_
      refine x_aload (np := 7) (x := 0) (by decide +kernel) rfl (x_nc_le (tn_5 t364)) ?_
      have b368 := jB (e := 0) 0 hJ (rg_T5_0_0_1 t364) (by omega) (by omega)
      have q369 : (h ((h 61 1) + 5) 0) = 2147483652 := by omega
      refine x_getC (np := 10) (x := 384) (f := 0) (q := 2147483652) (by decide +kernel) (by decide) (tg_5_384_0_0 t364) q369 (fun l370 => ?_)
      obtain ⟨u371, q372⟩ : ∃ z, (h ((h 61 1) + 5) 2) = 2147483648 + z := ⟨(h ((h 61 1) + 5) 2) - 2147483648, by omega⟩
      refine x_imul (np := 11) (x := 0) (i := (1 + u371)) (j := 4) (v := (2147483652 + 4 * u371)) (by decide +kernel) (by omega) (by omega) (by omega) (by omega) (by omega) (by decide) ?_
      refine x_aload (np := 12) (x := 0) (by decide +kernel) rfl (x_nc_le (tn_5 t364)) ?_
      have q374 : h ((h 61 1) + 5) 1 = ((h 61 1) + 6) := tf_5_1 hJ t364
      refine x_getR (np := 15) (x := 385) (f := 1) (q := ((h 61 1) + 6)) (by decide +kernel) (by decide) (tg_5_385_1_1 t364) q374 ?_
      refine x_alen (np := 16) (x := 0) (n := 40) (by decide +kernel) (tn_6 t364) (tl_6 t364).1 (tl_6 t364).2 (by decide) ?_
      show X _ _ _ _ _ _ _ _ [iv_c 2147483688, iv_c (2147483652 + 4 * u371)] _
      refine x_icmp (k := 5) (tg := 23) (np := 19) (by decide +kernel) (by decide) (by omega) (by decide) (fun q375 => ?_) (fun q376 => ?_)
      · have q375 : (2147483652 + 4 * u371) ≤ 2147483688 := q375
        refine x_const (np := 24) (x := 9223372039002259456) (a := 2147483648) (by decide +kernel) (by decide) (by decide) ?_
        refine x_retI (np := 25) (x := 0) (by decide +kernel) (by decide) (Or.inr ⟨by decide +kernel, by omega, by omega⟩) ⟨_, rfl, (by decide), ?_⟩
        refine x_ifz (k := 1) (tg := 148) (np := 125) (by decide +kernel) (by decide) (by decide) (fun q377 => ?_) (fun q378 => ?_)
        · have q377 : 2147483648 ≠ 2147483648 := q377
          exfalso; omega
        have q378 : ¬ (2147483648 ≠ 2147483648) := q378
        refine x_aload (np := 126) (x := 0) (by decide +kernel) rfl (x_nc_le (by decide)) ?_
        have q379 : h 61 0 = 1 := by have z := jB (e := 0) 0 hJ rg_61_0_0_1 (by decide) (by decide); omega
        refine x_getR (np := 129) (x := 576) (f := 0) (q := 1) (by decide +kernel) (by decide) (by decide +kernel) q379 ?_
        refine x_ldcB (i := 8) (idx := 66) (tx := "debt") (by rw [tb_y93]; exact List.mem_of_getElem? (i := 8) rfl) (by decide) (by rw [tb_b93]; decide +kernel) ?_
        refine x_nI (t := 6) (mj := 78) (n := 2) (rc := 8) (ml := 2) (nr := 0) (np := 134) (as := [x_r 1, x_b (8 + 1)]) (rest := []) (lo1 := [x_r 1, x_b (8 + 1)]) (by decide +kernel) (by decide) (by decide +kernel) (x_rb_of (by decide +kernel)) rfl rfl (x_wr (by decide) (x_wB (by decide) x_wn)) x_wn (by decide) rfl ?_
        refine x_aload (np := 1) (x := 0) (by decide +kernel) rfl (x_nc_le (by decide)) ?_
        refine x_aloadB (i := 8) (k4 := 1) rfl (by decide) (by rw [tb_b78]; decide +kernel) ?_
        refine x_cP (t := 6) (mj := 77) (n := 2) (rc := 8) (ml := 4) (nr := 0) (np := 5) (as := [x_r 1, x_b (8 + 1)]) (rest := []) (lo1 := [x_r 1, x_b (8 + 1), 147573952589676412928, 147573952589676412928]) (by decide +kernel) (by decide) (by decide +kernel) (x_rb_of (by decide +kernel)) rfl rfl (x_wr (by decide) (x_wB (by decide) x_wn)) x_wn (by decide) rfl (c77_1_S0 hJ  (by decide)) (fun v380 l381 q382 => ?_)
        obtain ⟨b384, c383⟩ := q382
        refine x_ifz (k := 1) (tg := 10) (np := 8) (by decide +kernel) (by decide) l381 (fun q385 => ?_) (fun q386 => ?_)
        · have q385 : v380 ≠ 2147483648 := q385
          have b387 := c383 (by omega)
          refine x_aload (np := 11) (x := 0) (by decide +kernel) rfl (x_nc_le (by decide)) ?_
          refine x_aload (np := 12) (x := 0) (by decide +kernel) rfl (x_nc_le (by decide)) ?_
          refine x_getC (np := 15) (x := 450) (f := 2) (q := (h 1 2)) (by decide +kernel) (by decide) (by decide +kernel) rfl (fun l388 => ?_)
          refine x_aloadB (i := 8) (k4 := 1) rfl (by decide) (by rw [tb_b78]; decide +kernel) ?_
          have b389 := (iv_tl_lt 8 (by decide)).1
          have b390 := iv_tl_ge 8 (by decide)
          refine x_len (by decide +kernel) (by rw [tb_y78]; exact sl_Tl) (by decide) (by rw [tb_b78]; decide +kernel) (Nat.le_trans (x_wi l388 (x_wr (by decide) x_wn)) (by decide)) ?_
          refine x_iadd (np := 20) (x := 0) (v := ((h 1 2) + (iv_tl 8))) (by decide +kernel) l388 (by omega) (by omega) (by omega) ?_
          refine x_cV (t := 6) (mj := 80) (n := 2) (rc := 8) (ml := 2) (nr := 0) (np := 23) (as := [x_r 1, iv_c ((h 1 2) + (iv_tl 8))]) (rest := []) (lo1 := [x_r 1, iv_c ((h 1 2) + (iv_tl 8))]) (by decide +kernel) (by decide) (by decide +kernel) (x_rb_of (by decide +kernel)) rfl rfl (x_wr (by decide) (x_wi (by omega) x_wn)) x_wn (by decide) rfl (c80_1n hJ  (by omega)) (fun h394 q393 => ?_)
          obtain ⟨j395, f396⟩ := q393
          have f399 := Fr.trans hF f396 (by decide)
          refine x_const (np := 24) (x := 9223372043297226753) (a := 2147483649) (by decide +kernel) (by decide) (by decide) ?_
          refine x_retI (np := 25) (x := 0) (by decide +kernel) (by decide) (Or.inr ⟨by decide +kernel, by omega, by omega⟩) ⟨_, rfl, (by decide), ?_⟩
          refine x_ifz (k := 0) (tg := 148) (np := 137) (by decide +kernel) (by decide) (by decide) (fun q400 => ?_) (fun q401 => ?_)
          · have q400 : 2147483649 = 2147483648 := q400
            exfalso; omega
          have q401 : ¬ (2147483649 = 2147483648) := q401
          refine x_aload (np := 138) (x := 0) (by decide +kernel) rfl (x_nc_le (by decide)) ?_
          refine x_cI (t := 6) (mj := 99) (n := 1) (rc := 10) (ml := 3) (nr := 0) (np := 141) (as := [x_r 61]) (rest := []) (lo1 := [x_r 61, 147573952589676412928, 147573952589676412928]) (by decide +kernel) (by decide) (by decide +kernel) (x_rb_of (by decide +kernel)) rfl rfl (x_wr (by decide) x_wn) x_wn (by decide) rfl (c99_61 j395 ) (fun v402 h405 l403 q404 => ?_)
          obtain ⟨j406, f407, b408⟩ := q404
          have f409 := Fr.trans f399 f407 (by decide)
          refine x_ifz (k := 0) (tg := 148) (np := 144) (by decide +kernel) (by decide) l403 (fun q410 => ?_) (fun q411 => ?_)
          · have q410 : v402 = 2147483648 := q410
            refine x_const (np := 149) (x := 9223372039002259456) (a := 2147483648) (by decide +kernel) (by decide) (by decide) ?_
            refine x_retI (np := 150) (x := 0) (by decide +kernel) (by decide) (Or.inr ⟨by decide +kernel, by omega, by omega⟩) ⟨_, rfl, (by decide), ?_⟩
            exact ⟨j406, f409, (by omega)⟩
          have q411 : ¬ (v402 = 2147483648) := q411
          refine x_const (np := 145) (x := 9223372043297226753) (a := 2147483649) (by decide +kernel) (by decide) (by decide) ?_
          refine x_goto (np := 148) (x := 149) (by decide +kernel) ?_
          refine x_retI (np := 150) (x := 0) (by decide +kernel) (by decide) (Or.inr ⟨by decide +kernel, by omega, by omega⟩) ⟨_, rfl, (by decide), ?_⟩
          exact ⟨j406, f409, (by omega)⟩
        have q386 : ¬ (v380 ≠ 2147483648) := q386
        refine x_const (np := 9) (x := 9223372039002259456) (a := 2147483648) (by decide +kernel) (by decide) (by decide) ?_
        refine x_retI (np := 10) (x := 0) (by decide +kernel) (by decide) (Or.inr ⟨by decide +kernel, by omega, by omega⟩) ⟨_, rfl, (by decide), ?_⟩
        refine x_ifz (k := 0) (tg := 148) (np := 137) (by decide +kernel) (by decide) (by decide) (fun q412 => ?_) (fun q413 => ?_)
        · have q412 : 2147483648 = 2147483648 := q412
          refine x_const (np := 149) (x := 9223372039002259456) (a := 2147483648) (by decide +kernel) (by decide) (by decide) ?_
          refine x_retI (np := 150) (x := 0) (by decide +kernel) (by decide) (Or.inr ⟨by decide +kernel, by omega, by omega⟩) ⟨_, rfl, (by decide), ?_⟩
          exact ⟨hJ, hF, (by omega)⟩
        have q413 : ¬ (2147483648 = 2147483648) := q413
        exfalso; omega
      have q376 : ¬ ((2147483652 + 4 * u371) ≤ 2147483688) := q376
      refine x_const (np := 20) (x := 9223372043297226753) (a := 2147483649) (by decide +kernel) (by decide) (by decide) ?_
      refine x_goto (np := 23) (x := 24) (by decide +kernel) ?_
      refine x_retI (np := 25) (x := 0) (by decide +kernel) (by decide) (Or.inr ⟨by decide +kernel, by omega, by omega⟩) ⟨_, rfl, (by decide), ?_⟩
      refine x_ifz (k := 1) (tg := 148) (np := 125) (by decide +kernel) (by decide) (by decide) (fun q414 => ?_) (fun q415 => ?_)
      · have q414 : 2147483649 ≠ 2147483648 := q414
        refine x_const (np := 149) (x := 9223372039002259456) (a := 2147483648) (by decide +kernel) (by decide) (by decide) ?_
        refine x_retI (np := 150) (x := 0) (by decide +kernel) (by decide) (Or.inr ⟨by decide +kernel, by omega, by omega⟩) ⟨_, rfl, (by decide), ?_⟩
        exact ⟨hJ, hF, (by omega)⟩
      have q415 : ¬ (2147483649 ≠ 2147483648) := q415
      exfalso; omega
    have q17 : ¬ (v11 = 2147483648) := q17
    have b416 := c14 (by omega)
    refine x_aload (np := 63) (x := 0) (by decide +kernel) rfl (x_nc_le (by decide)) ?_
    have t417 : tw (h 61 1) := hJ.2.2.2.2.1
    refine x_getR (np := 66) (x := 577) (f := 1) (q := (h 61 1)) (by decide +kernel) (by decide) (by decide +kernel) rfl ?_
    have q418 : h (h 61 1) 1 = ((h 61 1) + 3) := tf_0_1 hJ t417
    refine x_getR (np := 69) (x := 513) (f := 1) (q := ((h 61 1) + 3)) (by decide +kernel) (by decide) (tg_0_513_1_1 t417) q418 ?_
    refine x_nI (t := 6) (mj := 66) (n := 1) (rc := 7) (ml := 1) (nr := 0) (np := 72) (as := [x_r ((h 61 1) + 3)]) (rest := []) (lo1 := [x_r ((h 61 1) + 3)]) (by decide +kernel) (by decide) (by decide +kernel) (x_rb_of (tr_3_7 t417)) rfl rfl (x_wr (tn_3 t417) x_wn) x_wn (by decide) rfl ?_
    refine x_aload (np := 1) (x := 0) (by decide +kernel) rfl (x_nc_le (tn_3 t417)) ?_
    have b419 := jB (e := 2) 0 hJ (rg_T3_2_0_1 t417) (by omega) (by omega)
    refine x_getC (np := 4) (x := 386) (f := 2) (q := (h ((h 61 1) + 3) 2)) (by decide +kernel) (by decide) (tg_3_386_2_0 t417) rfl (fun l420 => ?_)
    refine x_const (np := 5) (x := 9223372043297226753) (a := 2147483649) (by decide +kernel) (by decide) (by decide) ?_
    refine x_iadd (np := 6) (x := 0) (v := (1 + (h ((h 61 1) + 3) 2))) (by decide +kernel) l420 (by decide) (by omega) (by omega) ?_
    refine x_aload (np := 7) (x := 0) (by decide +kernel) rfl (x_nc_le (tn_3 t417)) ?_
    have b421 := jB (e := 0) 0 hJ (rg_T3_0_0_1 t417) (by omega) (by omega)
    have q422 : (h ((h 61 1) + 3) 0) = 2147483652 := by omega
    refine x_getC (np := 10) (x := 384) (f := 0) (q := 2147483652) (by decide +kernel) (by decide) (tg_3_384_0_0 t417) q422 (fun l423 => ?_)
    obtain ⟨u424, q425⟩ : ∃ z, (h ((h 61 1) + 3) 2) = 2147483648 + z := ⟨(h ((h 61 1) + 3) 2) - 2147483648, by omega⟩
    refine x_imul (np := 11) (x := 0) (i := (1 + u424)) (j := 4) (v := (2147483652 + 4 * u424)) (by decide +kernel) (by omega) (by omega) (by omega) (by omega) (by omega) (by decide) ?_
    refine x_aload (np := 12) (x := 0) (by decide +kernel) rfl (x_nc_le (tn_3 t417)) ?_
    have q427 : h ((h 61 1) + 3) 1 = ((h 61 1) + 4) := tf_3_1 hJ t417
    refine x_getR (np := 15) (x := 385) (f := 1) (q := ((h 61 1) + 4)) (by decide +kernel) (by decide) (tg_3_385_1_1 t417) q427 ?_
    refine x_alen (np := 16) (x := 0) (n := 40) (by decide +kernel) (tn_4 t417) (tl_4 t417).1 (tl_4 t417).2 (by decide) ?_
    show X _ _ _ _ _ _ _ _ [iv_c 2147483688, iv_c (2147483652 + 4 * u424)] _
    refine x_icmp (k := 5) (tg := 23) (np := 19) (by decide +kernel) (by decide) (by omega) (by decide) (fun q428 => ?_) (fun q429 => ?_)
    · have q428 : (2147483652 + 4 * u424) ≤ 2147483688 := q428
      refine x_const (np := 24) (x := 9223372039002259456) (a := 2147483648) (by decide +kernel) (by decide) (by decide) ?_
      refine x_retI (np := 25) (x := 0) (by decide +kernel) (by decide) (Or.inr ⟨by decide +kernel, by omega, by omega⟩) ⟨_, rfl, (by decide), ?_⟩
      refine x_ifz (k := 1) (tg := 98) (np := 75) (by decide +kernel) (by decide) (by decide) (fun q430 => ?_) (fun q431 => ?_)
      · have q430 : 2147483648 ≠ 2147483648 := q430
        exfalso; omega
      have q431 : ¬ (2147483648 ≠ 2147483648) := q431
      refine x_aload (np := 76) (x := 0) (by decide +kernel) rfl (x_nc_le (by decide)) ?_
      have q432 : h 61 0 = 1 := by have z := jB (e := 0) 0 hJ rg_61_0_0_1 (by decide) (by decide); omega
      refine x_getR (np := 79) (x := 576) (f := 0) (q := 1) (by decide +kernel) (by decide) (by decide +kernel) q432 ?_
      refine x_ldcB (i := 6) (idx := 58) (tx := "letter") (by rw [tb_y93]; exact List.mem_of_getElem? (i := 6) rfl) (by decide) (by rw [tb_b93]; decide +kernel) ?_
      refine x_nI (t := 6) (mj := 78) (n := 2) (rc := 8) (ml := 2) (nr := 0) (np := 84) (as := [x_r 1, x_b (6 + 1)]) (rest := []) (lo1 := [x_r 1, x_b (6 + 1)]) (by decide +kernel) (by decide) (by decide +kernel) (x_rb_of (by decide +kernel)) rfl rfl (x_wr (by decide) (x_wB (by decide) x_wn)) x_wn (by decide) rfl ?_
      refine x_aload (np := 1) (x := 0) (by decide +kernel) rfl (x_nc_le (by decide)) ?_
      refine x_aloadB (i := 6) (k4 := 1) rfl (by decide) (by rw [tb_b78]; decide +kernel) ?_
      refine x_cP (t := 6) (mj := 77) (n := 2) (rc := 8) (ml := 4) (nr := 0) (np := 5) (as := [x_r 1, x_b (6 + 1)]) (rest := []) (lo1 := [x_r 1, x_b (6 + 1), 147573952589676412928, 147573952589676412928]) (by decide +kernel) (by decide) (by decide +kernel) (x_rb_of (by decide +kernel)) rfl rfl (x_wr (by decide) (x_wB (by decide) x_wn)) x_wn (by decide) rfl (c77_1_S0 hJ  (by decide)) (fun v433 l434 q435 => ?_)
      obtain ⟨b437, c436⟩ := q435
      refine x_ifz (k := 1) (tg := 10) (np := 8) (by decide +kernel) (by decide) l434 (fun q438 => ?_) (fun q439 => ?_)
      · have q438 : v433 ≠ 2147483648 := q438
        have b440 := c436 (by omega)
        refine x_aload (np := 11) (x := 0) (by decide +kernel) rfl (x_nc_le (by decide)) ?_
        refine x_aload (np := 12) (x := 0) (by decide +kernel) rfl (x_nc_le (by decide)) ?_
        refine x_getC (np := 15) (x := 450) (f := 2) (q := (h 1 2)) (by decide +kernel) (by decide) (by decide +kernel) rfl (fun l441 => ?_)
        refine x_aloadB (i := 6) (k4 := 1) rfl (by decide) (by rw [tb_b78]; decide +kernel) ?_
        have b442 := (iv_tl_lt 6 (by decide)).1
        have b443 := iv_tl_ge 6 (by decide)
        refine x_len (by decide +kernel) (by rw [tb_y78]; exact sl_Tl) (by decide) (by rw [tb_b78]; decide +kernel) (Nat.le_trans (x_wi l441 (x_wr (by decide) x_wn)) (by decide)) ?_
        refine x_iadd (np := 20) (x := 0) (v := ((h 1 2) + (iv_tl 6))) (by decide +kernel) l441 (by omega) (by omega) (by omega) ?_
        refine x_cV (t := 6) (mj := 80) (n := 2) (rc := 8) (ml := 2) (nr := 0) (np := 23) (as := [x_r 1, iv_c ((h 1 2) + (iv_tl 6))]) (rest := []) (lo1 := [x_r 1, iv_c ((h 1 2) + (iv_tl 6))]) (by decide +kernel) (by decide) (by decide +kernel) (x_rb_of (by decide +kernel)) rfl rfl (x_wr (by decide) (x_wi (by omega) x_wn)) x_wn (by decide) rfl (c80_1n hJ  (by omega)) (fun h447 q446 => ?_)
        obtain ⟨j448, f449⟩ := q446
        have f452 := Fr.trans hF f449 (by decide)
        refine x_const (np := 24) (x := 9223372043297226753) (a := 2147483649) (by decide +kernel) (by decide) (by decide) ?_
        refine x_retI (np := 25) (x := 0) (by decide +kernel) (by decide) (Or.inr ⟨by decide +kernel, by omega, by omega⟩) ⟨_, rfl, (by decide), ?_⟩
        refine x_ifz (k := 0) (tg := 98) (np := 87) (by decide +kernel) (by decide) (by decide) (fun q453 => ?_) (fun q454 => ?_)
        · have q453 : 2147483649 = 2147483648 := q453
          exfalso; omega
        have q454 : ¬ (2147483649 = 2147483648) := q454
        refine x_aload (np := 88) (x := 0) (by decide +kernel) rfl (x_nc_le (by decide)) ?_
        refine x_cI (t := 6) (mj := 98) (n := 1) (rc := 10) (ml := 2) (nr := 0) (np := 91) (as := [x_r 61]) (rest := []) (lo1 := [x_r 61, 147573952589676412928]) (by decide +kernel) (by decide) (by decide +kernel) (x_rb_of (by decide +kernel)) rfl rfl (x_wr (by decide) x_wn) x_wn (by decide) rfl (c98_61 j448 ) (fun v455 h458 l456 q457 => ?_)
        obtain ⟨j459, f460, b461⟩ := q457
        have f462 := Fr.trans f452 f460 (by decide)
        refine x_ifz (k := 0) (tg := 98) (np := 94) (by decide +kernel) (by decide) l456 (fun q463 => ?_) (fun q464 => ?_)
        · have q463 : v455 = 2147483648 := q463
          refine x_const (np := 99) (x := 9223372039002259456) (a := 2147483648) (by decide +kernel) (by decide) (by decide) ?_
          refine x_retI (np := 100) (x := 0) (by decide +kernel) (by decide) (Or.inr ⟨by decide +kernel, by omega, by omega⟩) ⟨_, rfl, (by decide), ?_⟩
          exact ⟨j459, f462, (by omega)⟩
        have q464 : ¬ (v455 = 2147483648) := q464
        refine x_const (np := 95) (x := 9223372043297226753) (a := 2147483649) (by decide +kernel) (by decide) (by decide) ?_
        refine x_goto (np := 98) (x := 99) (by decide +kernel) ?_
        refine x_retI (np := 100) (x := 0) (by decide +kernel) (by decide) (Or.inr ⟨by decide +kernel, by omega, by omega⟩) ⟨_, rfl, (by decide), ?_⟩
        exact ⟨j459, f462, (by omega)⟩
      have q439 : ¬ (v433 ≠ 2147483648) := q439
      refine x_const (np := 9) (x := 9223372039002259456) (a := 2147483648) (by decide +kernel) (by decide) (by decide) ?_
      refine x_retI (np := 10) (x := 0) (by decide +kernel) (by decide) (Or.inr ⟨by decide +kernel, by omega, by omega⟩) ⟨_, rfl, (by decide), ?_⟩
      refine x_ifz (k := 0) (tg := 98) (np := 87) (by decide +kernel) (by decide) (by decide) (fun q465 => ?_) (fun q466 => ?_)
      · have q465 : 2147483648 = 2147483648 := q465
        refine x_const (np := 99) (x := 9223372039002259456) (a := 2147483648) (by decide +kernel) (by decide) (by decide) ?_
        refine x_retI (np := 100) (x := 0) (by decide +kernel) (by decide) (Or.inr ⟨by decide +kernel, by omega, by omega⟩) ⟨_, rfl, (by decide), ?_⟩
        exact ⟨hJ, hF, (by omega)⟩
      have q466 : ¬ (2147483648 = 2147483648) := q466
      exfalso; omega
    have q429 : ¬ ((2147483652 + 4 * u424) ≤ 2147483688) := q429
    refine x_const (np := 20) (x := 9223372043297226753) (a := 2147483649) (by decide +kernel) (by decide) (by decide) ?_
    refine x_goto (np := 23) (x := 24) (by decide +kernel) ?_
    refine x_retI (np := 25) (x := 0) (by decide +kernel) (by decide) (Or.inr ⟨by decide +kernel, by omega, by omega⟩) ⟨_, rfl, (by decide), ?_⟩
    refine x_ifz (k := 1) (tg := 98) (np := 75) (by decide +kernel) (by decide) (by decide) (fun q467 => ?_) (fun q468 => ?_)
    · have q467 : 2147483649 ≠ 2147483648 := q467
      refine x_const (np := 99) (x := 9223372039002259456) (a := 2147483648) (by decide +kernel) (by decide) (by decide) ?_
      refine x_retI (np := 100) (x := 0) (by decide +kernel) (by decide) (Or.inr ⟨by decide +kernel, by omega, by omega⟩) ⟨_, rfl, (by decide), ?_⟩
      exact ⟨hJ, hF, (by omega)⟩
    have q468 : ¬ (2147483649 ≠ 2147483648) := q468
    exfalso; omega
  have q9 : ¬ (v2 = 2147483648) := q9
  have b469 := c5 (by omega)
  refine x_aload (np := 13) (x := 0) (by decide +kernel) rfl (x_nc_le (by decide)) ?_
  have t470 : tw (h 61 1) := hJ.2.2.2.2.1
  refine x_getR (np := 16) (x := 577) (f := 1) (q := (h 61 1)) (by decide +kernel) (by decide) (by decide +kernel) rfl ?_
  have q471 : h (h 61 1) 0 = ((h 61 1) + 1) := tf_0_0 hJ t470
  refine x_getR (np := 19) (x := 512) (f := 0) (q := ((h 61 1) + 1)) (by decide +kernel) (by decide) (tg_0_512_0_1 t470) q471 ?_
  refine x_nI (t := 6) (mj := 66) (n := 1) (rc := 7) (ml := 1) (nr := 0) (np := 22) (as := [x_r ((h 61 1) + 1)]) (rest := []) (lo1 := [x_r ((h 61 1) + 1)]) (by decide +kernel) (by decide) (by decide +kernel) (x_rb_of (tr_1_7 t470)) rfl rfl (x_wr (tn_1 t470) x_wn) x_wn (by decide) rfl ?_
  refine x_aload (np := 1) (x := 0) (by decide +kernel) rfl (x_nc_le (tn_1 t470)) ?_
  have b472 := jB (e := 2) 0 hJ (rg_T1_2_0_1 t470) (by omega) (by omega)
  refine x_getC (np := 4) (x := 386) (f := 2) (q := (h ((h 61 1) + 1) 2)) (by decide +kernel) (by decide) (tg_1_386_2_0 t470) rfl (fun l473 => ?_)
  refine x_const (np := 5) (x := 9223372043297226753) (a := 2147483649) (by decide +kernel) (by decide) (by decide) ?_
  refine x_iadd (np := 6) (x := 0) (v := (1 + (h ((h 61 1) + 1) 2))) (by decide +kernel) l473 (by decide) (by omega) (by omega) ?_
  refine x_aload (np := 7) (x := 0) (by decide +kernel) rfl (x_nc_le (tn_1 t470)) ?_
  have b474 := jB (e := 0) 0 hJ (rg_T1_0_0_1 t470) (by omega) (by omega)
  have q475 : (h ((h 61 1) + 1) 0) = 2147483655 := by omega
  refine x_getC (np := 10) (x := 384) (f := 0) (q := 2147483655) (by decide +kernel) (by decide) (tg_1_384_0_0 t470) q475 (fun l476 => ?_)
  obtain ⟨u477, q478⟩ : ∃ z, (h ((h 61 1) + 1) 2) = 2147483648 + z := ⟨(h ((h 61 1) + 1) 2) - 2147483648, by omega⟩
  refine x_imul (np := 11) (x := 0) (i := (1 + u477)) (j := 7) (v := (2147483655 + 7 * u477)) (by decide +kernel) (by omega) (by omega) (by omega) (by omega) (by omega) (by decide) ?_
  refine x_aload (np := 12) (x := 0) (by decide +kernel) rfl (x_nc_le (tn_1 t470)) ?_
  have q480 : h ((h 61 1) + 1) 1 = ((h 61 1) + 2) := tf_1_1 hJ t470
  refine x_getR (np := 15) (x := 385) (f := 1) (q := ((h 61 1) + 2)) (by decide +kernel) (by decide) (tg_1_385_1_1 t470) q480 ?_
  refine x_alen (np := 16) (x := 0) (n := 140) (by decide +kernel) (tn_2 t470) (tl_2 t470).1 (tl_2 t470).2 (by decide) ?_
  show X _ _ _ _ _ _ _ _ [iv_c 2147483788, iv_c (2147483655 + 7 * u477)] _
  refine x_icmp (k := 5) (tg := 23) (np := 19) (by decide +kernel) (by decide) (by omega) (by decide) (fun q481 => ?_) (fun q482 => ?_)
  · have q481 : (2147483655 + 7 * u477) ≤ 2147483788 := q481
    refine x_const (np := 24) (x := 9223372039002259456) (a := 2147483648) (by decide +kernel) (by decide) (by decide) ?_
    refine x_retI (np := 25) (x := 0) (by decide +kernel) (by decide) (Or.inr ⟨by decide +kernel, by omega, by omega⟩) ⟨_, rfl, (by decide), ?_⟩
    refine x_ifz (k := 1) (tg := 48) (np := 25) (by decide +kernel) (by decide) (by decide) (fun q483 => ?_) (fun q484 => ?_)
    · have q483 : 2147483648 ≠ 2147483648 := q483
      exfalso; omega
    have q484 : ¬ (2147483648 ≠ 2147483648) := q484
    refine x_aload (np := 26) (x := 0) (by decide +kernel) rfl (x_nc_le (by decide)) ?_
    have q485 : h 61 0 = 1 := by have z := jB (e := 0) 0 hJ rg_61_0_0_1 (by decide) (by decide); omega
    refine x_getR (np := 29) (x := 576) (f := 0) (q := 1) (by decide +kernel) (by decide) (by decide +kernel) q485 ?_
    refine x_ldcB (i := 0) (idx := 35) (tx := "lend") (by rw [tb_y93]; exact List.mem_of_getElem? (i := 0) rfl) (by decide) (by rw [tb_b93]; decide +kernel) ?_
    refine x_nI (t := 6) (mj := 78) (n := 2) (rc := 8) (ml := 2) (nr := 0) (np := 34) (as := [x_r 1, x_b (0 + 1)]) (rest := []) (lo1 := [x_r 1, x_b (0 + 1)]) (by decide +kernel) (by decide) (by decide +kernel) (x_rb_of (by decide +kernel)) rfl rfl (x_wr (by decide) (x_wB (by decide) x_wn)) x_wn (by decide) rfl ?_
    refine x_aload (np := 1) (x := 0) (by decide +kernel) rfl (x_nc_le (by decide)) ?_
    refine x_aloadB (i := 0) (k4 := 1) rfl (by decide) (by rw [tb_b78]; decide +kernel) ?_
    refine x_cP (t := 6) (mj := 77) (n := 2) (rc := 8) (ml := 4) (nr := 0) (np := 5) (as := [x_r 1, x_b (0 + 1)]) (rest := []) (lo1 := [x_r 1, x_b (0 + 1), 147573952589676412928, 147573952589676412928]) (by decide +kernel) (by decide) (by decide +kernel) (x_rb_of (by decide +kernel)) rfl rfl (x_wr (by decide) (x_wB (by decide) x_wn)) x_wn (by decide) rfl (c77_1_S0 hJ  (by decide)) (fun v486 l487 q488 => ?_)
    obtain ⟨b490, c489⟩ := q488
    refine x_ifz (k := 1) (tg := 10) (np := 8) (by decide +kernel) (by decide) l487 (fun q491 => ?_) (fun q492 => ?_)
    · have q491 : v486 ≠ 2147483648 := q491
      have b493 := c489 (by omega)
      refine x_aload (np := 11) (x := 0) (by decide +kernel) rfl (x_nc_le (by decide)) ?_
      refine x_aload (np := 12) (x := 0) (by decide +kernel) rfl (x_nc_le (by decide)) ?_
      refine x_getC (np := 15) (x := 450) (f := 2) (q := (h 1 2)) (by decide +kernel) (by decide) (by decide +kernel) rfl (fun l494 => ?_)
      refine x_aloadB (i := 0) (k4 := 1) rfl (by decide) (by rw [tb_b78]; decide +kernel) ?_
      have b495 := (iv_tl_lt 0 (by decide)).1
      have b496 := iv_tl_ge 0 (by decide)
      refine x_len (by decide +kernel) (by rw [tb_y78]; exact sl_Tl) (by decide) (by rw [tb_b78]; decide +kernel) (Nat.le_trans (x_wi l494 (x_wr (by decide) x_wn)) (by decide)) ?_
      refine x_iadd (np := 20) (x := 0) (v := ((h 1 2) + (iv_tl 0))) (by decide +kernel) l494 (by omega) (by omega) (by omega) ?_
      refine x_cV (t := 6) (mj := 80) (n := 2) (rc := 8) (ml := 2) (nr := 0) (np := 23) (as := [x_r 1, iv_c ((h 1 2) + (iv_tl 0))]) (rest := []) (lo1 := [x_r 1, iv_c ((h 1 2) + (iv_tl 0))]) (by decide +kernel) (by decide) (by decide +kernel) (x_rb_of (by decide +kernel)) rfl rfl (x_wr (by decide) (x_wi (by omega) x_wn)) x_wn (by decide) rfl (c80_1n hJ  (by omega)) (fun h500 q499 => ?_)
      obtain ⟨j501, f502⟩ := q499
      have f505 := Fr.trans hF f502 (by decide)
      refine x_const (np := 24) (x := 9223372043297226753) (a := 2147483649) (by decide +kernel) (by decide) (by decide) ?_
      refine x_retI (np := 25) (x := 0) (by decide +kernel) (by decide) (Or.inr ⟨by decide +kernel, by omega, by omega⟩) ⟨_, rfl, (by decide), ?_⟩
      refine x_ifz (k := 0) (tg := 48) (np := 37) (by decide +kernel) (by decide) (by decide) (fun q506 => ?_) (fun q507 => ?_)
      · have q506 : 2147483649 = 2147483648 := q506
        exfalso; omega
      have q507 : ¬ (2147483649 = 2147483648) := q507
      refine x_aload (np := 38) (x := 0) (by decide +kernel) rfl (x_nc_le (by decide)) ?_
      refine x_cI (t := 6) (mj := 94) (n := 1) (rc := 10) (ml := 2) (nr := 0) (np := 41) (as := [x_r 61]) (rest := []) (lo1 := [x_r 61, 147573952589676412928]) (by decide +kernel) (by decide) (by decide +kernel) (x_rb_of (by decide +kernel)) rfl rfl (x_wr (by decide) x_wn) x_wn (by decide) rfl (c94_61 j501 ) (fun v508 h511 l509 q510 => ?_)
      obtain ⟨j512, f513, b514⟩ := q510
      have f515 := Fr.trans f505 f513 (by decide)
      refine x_ifz (k := 0) (tg := 48) (np := 44) (by decide +kernel) (by decide) l509 (fun q516 => ?_) (fun q517 => ?_)
      · have q516 : v508 = 2147483648 := q516
        refine x_const (np := 49) (x := 9223372039002259456) (a := 2147483648) (by decide +kernel) (by decide) (by decide) ?_
        refine x_retI (np := 50) (x := 0) (by decide +kernel) (by decide) (Or.inr ⟨by decide +kernel, by omega, by omega⟩) ⟨_, rfl, (by decide), ?_⟩
        exact ⟨j512, f515, (by omega)⟩
      have q517 : ¬ (v508 = 2147483648) := q517
      refine x_const (np := 45) (x := 9223372043297226753) (a := 2147483649) (by decide +kernel) (by decide) (by decide) ?_
      refine x_goto (np := 48) (x := 49) (by decide +kernel) ?_
      refine x_retI (np := 50) (x := 0) (by decide +kernel) (by decide) (Or.inr ⟨by decide +kernel, by omega, by omega⟩) ⟨_, rfl, (by decide), ?_⟩
      exact ⟨j512, f515, (by omega)⟩
    have q492 : ¬ (v486 ≠ 2147483648) := q492
    refine x_const (np := 9) (x := 9223372039002259456) (a := 2147483648) (by decide +kernel) (by decide) (by decide) ?_
    refine x_retI (np := 10) (x := 0) (by decide +kernel) (by decide) (Or.inr ⟨by decide +kernel, by omega, by omega⟩) ⟨_, rfl, (by decide), ?_⟩
    refine x_ifz (k := 0) (tg := 48) (np := 37) (by decide +kernel) (by decide) (by decide) (fun q518 => ?_) (fun q519 => ?_)
    · have q518 : 2147483648 = 2147483648 := q518
      refine x_const (np := 49) (x := 9223372039002259456) (a := 2147483648) (by decide +kernel) (by decide) (by decide) ?_
      refine x_retI (np := 50) (x := 0) (by decide +kernel) (by decide) (Or.inr ⟨by decide +kernel, by omega, by omega⟩) ⟨_, rfl, (by decide), ?_⟩
      exact ⟨hJ, hF, (by omega)⟩
    have q519 : ¬ (2147483648 = 2147483648) := q519
    exfalso; omega
  have q482 : ¬ ((2147483655 + 7 * u477) ≤ 2147483788) := q482
  refine x_const (np := 20) (x := 9223372043297226753) (a := 2147483649) (by decide +kernel) (by decide) (by decide) ?_
  refine x_goto (np := 23) (x := 24) (by decide +kernel) ?_
  refine x_retI (np := 25) (x := 0) (by decide +kernel) (by decide) (Or.inr ⟨by decide +kernel, by omega, by omega⟩) ⟨_, rfl, (by decide), ?_⟩
  refine x_ifz (k := 1) (tg := 48) (np := 25) (by decide +kernel) (by decide) (by decide) (fun q520 => ?_) (fun q521 => ?_)
  · have q520 : 2147483649 ≠ 2147483648 := q520
    refine x_const (np := 49) (x := 9223372039002259456) (a := 2147483648) (by decide +kernel) (by decide) (by decide) ?_
    refine x_retI (np := 50) (x := 0) (by decide +kernel) (by decide) (Or.inr ⟨by decide +kernel, by omega, by omega⟩) ⟨_, rfl, (by decide), ?_⟩
    exact ⟨hJ, hF, (by omega)⟩
  have q521 : ¬ (2147483649 ≠ 2147483648) := q521
  exfalso; omega
