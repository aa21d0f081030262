/-! ===== methods ===== -/
set_option maxHeartbeats 0 in
/-- LentNames$Table.put(III)V -/
theorem c69_T1_c6 {sc : Nat × Nat} {d ra0 a1 a3 : Nat} {h : xh} (hJ : J h) (ta0 : tw ra0) (ba1 : 2147483648 ≤ a1 ∧ a1 ≤ 2147483667) (ba3 : 2147483648 ≤ a3 ∧ a3 ≤ 2147483660) : X sc 69 d (xV fun h' => J h' ∧ Fr 129 h h') 0 0 0 [x_r (ra0 + 1), iv_c a1, iv_c 2147483654, iv_c a3, 147573952589676412928] [] h := by
  have la1 : a1 < 4294967296 := by omega
  have la3 : a3 < 4294967296 := by omega
  have hF := Fr.refl 129 h
  refine x_iload (np := 1) (x := 1) (by decide +kernel) rfl la1 ?_
  refine x_ifz (k := 2) (tg := 28) (np := 4) (by decide +kernel) (by decide) la1 (fun q1 => ?_) (fun q2 => ?_)
  · have q1 : a1 < 2147483648 := q1
    exfalso; omega
  have q2 : ¬ (a1 < 2147483648) := q2
  refine x_iload (np := 5) (x := 1) (by decide +kernel) rfl la1 ?_
  refine x_aload (np := 6) (x := 0) (by decide +kernel) rfl (x_nc_le (tn_1 ta0)) ?_
  have b3 := jB (e := 2) 0 hJ (rg_T1_2_0_1 ta0) (by omega) (by omega)
  refine x_getC (np := 9) (x := 386) (f := 2) (q := (h (ra0 + 1) 2)) (by decide +kernel) (by decide) (tg_1_386_2_0 ta0) rfl (fun l4 => ?_)
  refine x_icmp (k := 3) (tg := 28) (np := 12) (by decide +kernel) (by decide) la1 l4 (fun q5 => ?_) (fun q6 => ?_)
  · have q5 : (h (ra0 + 1) 2) ≤ a1 := q5
    refine x_const (np := 29) (x := 9223372039002259456) (a := 2147483648) (by decide +kernel) (by decide) (by decide) ?_
    refine x_istore (np := 31) (x := 4) (lo' := [x_r (ra0 + 1), iv_c a1, iv_c 2147483654, iv_c a3, iv_c 2147483648]) (by decide +kernel) (by decide) (Nat.le_of_ble_eq_true rfl) rfl ?_
    refine x_iload (np := 33) (x := 4) (by decide +kernel) rfl (by decide) ?_
    refine x_ifz (k := 0) (tg := 50) (np := 36) (by decide +kernel) (by decide) (by decide) (fun q7 => ?_) (fun q8 => ?_)
    · have q7 : 2147483648 = 2147483648 := q7
      refine x_retV (np := 51) (x := 0) (by decide +kernel) (by decide +kernel) ⟨rfl, ?_⟩
      exact ⟨hJ, hF⟩
    have q8 : ¬ (2147483648 = 2147483648) := q8
    exfalso; omega
  have q6 : ¬ ((h (ra0 + 1) 2) ≤ a1) := q6
  refine x_iload (np := 13) (x := 2) (by decide +kernel) rfl (by decide) ?_
  refine x_ifz (k := 2) (tg := 28) (np := 16) (by decide +kernel) (by decide) (by decide) (fun q9 => ?_) (fun q10 => ?_)
  · have q9 : 2147483654 < 2147483648 := q9
    exfalso; omega
  have q10 : ¬ (2147483654 < 2147483648) := q10
  refine x_iload (np := 17) (x := 2) (by decide +kernel) rfl (by decide) ?_
  refine x_aload (np := 18) (x := 0) (by decide +kernel) rfl (x_nc_le (tn_1 ta0)) ?_
  have b11 := jB (e := 0) 0 hJ (rg_T1_0_0_1 ta0) (by omega) (by omega)
  have q12 : (h (ra0 + 1) 0) = 2147483655 := by omega
  refine x_getC (np := 21) (x := 384) (f := 0) (q := 2147483655) (by decide +kernel) (by decide) (tg_1_384_0_0 ta0) q12 (fun l13 => ?_)
  refine x_icmp (k := 3) (tg := 28) (np := 24) (by decide +kernel) (by decide) (by decide) (by decide) (fun q14 => ?_) (fun q15 => ?_)
  · have q14 : 2147483655 ≤ 2147483654 := q14
    exfalso; omega
  have q15 : ¬ (2147483655 ≤ 2147483654) := q15
  refine x_const (np := 25) (x := 9223372043297226753) (a := 2147483649) (by decide +kernel) (by decide) (by decide) ?_
  refine x_goto (np := 28) (x := 29) (by decide +kernel) ?_
  refine x_istore (np := 31) (x := 4) (lo' := [x_r (ra0 + 1), iv_c a1, iv_c 2147483654, iv_c a3, iv_c 2147483649]) (by decide +kernel) (by decide) (Nat.le_of_ble_eq_true rfl) rfl ?_
  refine x_iload (np := 33) (x := 4) (by decide +kernel) rfl (by decide) ?_
  refine x_ifz (k := 0) (tg := 50) (np := 36) (by decide +kernel) (by decide) (by decide) (fun q16 => ?_) (fun q17 => ?_)
  · have q16 : 2147483649 = 2147483648 := q16
    exfalso; omega
  have q17 : ¬ (2147483649 = 2147483648) := q17
  refine x_aload (np := 37) (x := 0) (by decide +kernel) rfl (x_nc_le (tn_1 ta0)) ?_
  have q18 : h (ra0 + 1) 1 = (ra0 + 2) := tf_1_1 hJ ta0
  refine x_getR (np := 40) (x := 385) (f := 1) (q := (ra0 + 2)) (by decide +kernel) (by decide) (tg_1_385_1_1 ta0) q18 ?_
  refine x_iload (np := 41) (x := 1) (by decide +kernel) rfl la1 ?_
  refine x_aload (np := 42) (x := 0) (by decide +kernel) rfl (x_nc_le (tn_1 ta0)) ?_
  refine x_getC (np := 45) (x := 384) (f := 0) (q := 2147483655) (by decide +kernel) (by decide) (tg_1_384_0_0 ta0) q12 (fun l19 => ?_)
  obtain ⟨u20, q21⟩ : ∃ z, a1 = 2147483648 + z := ⟨a1 - 2147483648, by omega⟩
  refine x_imul (np := 46) (x := 0) (i := u20) (j := 7) (v := (2147483648 + 7 * u20)) (by decide +kernel) (by omega) (by omega) (by omega) (by omega) la1 (by decide) ?_
  refine x_iload (np := 47) (x := 2) (by decide +kernel) rfl (by decide) ?_
  refine x_iadd (np := 48) (x := 0) (v := (2147483654 + 7 * u20)) (by decide +kernel) (by omega) (by decide) (by omega) (by omega) ?_
  refine x_iload (np := 49) (x := 3) (by decide +kernel) rfl la3 ?_
  refine x_ast (np := 50) (x := 0) (kd := 1) (n := 140) (i := (6 + 7 * u20)) (by decide +kernel) (Or.inl rfl) (ta_2_140 ta0) (by omega) (by omega) (by decide) la3 (fun z => absurd z (by decide)) ?_
  have j24 := jU (e := (6 + 7 * u20)) (v := a3) u20 hJ (rg_T2_6_7_20 ta0) (by omega) (by omega) (by omega)
  have f26 := jF (e := (6 + 7 * u20)) (v := a3) u20 hF (rg_T2_6_7_20 ta0) (by omega) (by omega) (by decide)
  generalize e25 : x_up h (ra0 + 2) (6 + 7 * u20) a3 = h23 at j24 f26 ⊢
  refine x_retV (np := 51) (x := 0) (by decide +kernel) (by decide +kernel) ⟨rfl, ?_⟩
  exact ⟨j24, f26⟩
set_option maxHeartbeats 0 in
/-- LentNames$TownReader.readLate()Z -/
theorem c95_61 {sc : Nat × Nat} {d  : Nat} {h : xh} {tB : Nat → Nat} {tN : Nat} (hJ : J h) (hT : Tp tB tN h) : X sc 95 (d + 6) (xI fun r h' => J h' ∧ Fr 161 h h' ∧ (2147483648 ≤ r ∧ r ≤ 2147483649) ∧ late9 tB tN (rv h 2) (h 1 2) (rs r (h' 1 2))) 0 0 0 [x_r 61, 147573952589676412928] [] h := by
  have hF := Fr.refl 161 h
  refine x_aload (np := 1) (x := 0) (by decide +kernel) rfl (x_nc_le (by decide)) ?_
  have q1 : h 61 0 = 1 := by have z := jB (e := 0) 0 hJ rg_61_0_0_1 (by decide) (by decide); omega
  refine x_getR (np := 4) (x := 576) (f := 0) (q := 1) (by decide +kernel) (by decide) (by decide +kernel) q1 ?_
  refine x_const (np := 5) (x := 9223372039002259456) (a := 2147483648) (by decide +kernel) (by decide) (by decide) ?_
  refine x_aload (np := 6) (x := 0) (by decide +kernel) rfl (x_nc_le (by decide)) ?_
  have t2 : tw (h 61 1) := hJ.2.2.2.2.1
  refine x_getR (np := 9) (x := 577) (f := 1) (q := (h 61 1)) (by decide +kernel) (by decide) (by decide +kernel) rfl ?_
  have q3 : h (h 61 1) 0 = ((h 61 1) + 1) := tf_0_0 hJ t2
  refine x_getR (np := 12) (x := 512) (f := 0) (q := ((h 61 1) + 1)) (by decide +kernel) (by decide) (tg_0_512_0_1 t2) q3 ?_
  have b4 := jB (e := 2) 0 hJ (rg_T1_2_0_1 t2) (by omega) (by omega)
  refine x_getC (np := 15) (x := 386) (f := 2) (q := (h ((h 61 1) + 1) 2)) (by decide +kernel) (by decide) (tg_1_386_2_0 t2) rfl (fun l5 => ?_)
  refine x_const (np := 16) (x := 9223372043297226753) (a := 2147483649) (by decide +kernel) (by decide) (by decide) ?_
  obtain ⟨v6, q7⟩ : ∃ z, z + 2147483649 = (h ((h 61 1) + 1) 2) + 2147483648 := ⟨(h ((h 61 1) + 1) 2) + 2147483648 - 2147483649, by omega⟩
  refine x_isub (np := 17) (x := 0) (v := v6) (by decide +kernel) l5 (by decide) (by omega) (by omega) ?_
  refine x_cI (t := 6) (mj := 79) (n := 3) (rc := 8) (ml := 5) (nr := 0) (np := 20) (as := [x_r 1, iv_c 2147483648, iv_c v6]) (rest := []) (lo1 := [x_r 1, iv_c 2147483648, iv_c v6, 147573952589676412928, 147573952589676412928]) (by decide +kernel) (by decide) (by decide +kernel) (x_rb_of (by decide +kernel)) rfl rfl (x_wr (by decide) (x_wi (by decide) (x_wi (by omega) x_wn))) x_wn (by decide) rfl (c79_1_c0 hJ   (by omega) hT) (fun v8 h11 l9 q10 => ?_)
  obtain ⟨j12, f13, b14, c15, c16, c17, c18⟩ := q10
  have f19 := Fr.trans hF f13 (by decide)
  have b20 := jB (e := 2) 0 hJ rg_1_2_0_1 (by omega) (by omega)
  have b21 := jB (e := 2) 0 j12 rg_1_2_0_1 (by omega) (by omega)
  refine x_istore (np := 21) (x := 1) (lo' := [x_r 61, iv_c v8]) (by decide +kernel) l9 (Nat.le_of_ble_eq_true rfl) rfl ?_
  refine x_iload (np := 22) (x := 1) (by decide +kernel) rfl l9 ?_
  refine x_const (np := 23) (x := 9223372034707292159) (a := 2147483647) (by decide +kernel) (by decide) (by decide) ?_
  refine x_icmp (k := 0) (tg := 62) (np := 26) (by decide +kernel) (by decide) l9 (by decide) (fun q22 => ?_) (fun q23 => ?_)
  · have q22 : v8 = 2147483647 := q22
    have b24 := c17 (by omega)
    refine x_const (np := 63) (x := 9223372039002259456) (a := 2147483648) (by decide +kernel) (by decide) (by decide) ?_
    have e25 : rv h 2 = (h ((h 61 1) + 1) 2) := (congrArg (fun z => svq h z 2) rfl).trans rfl
    refine x_retI (np := 64) (x := 0) (by decide +kernel) (by decide) (Or.inr ⟨by decide +kernel, by omega, by omega⟩) ⟨_, rfl, (by decide), ?_⟩
    exact ⟨j12, f19, (by omega), (nm9.f c18 (by omega) (by omega) rfl (by omega) (by omega))⟩
  have q23 : ¬ (v8 = 2147483647) := q23
  have b26 := c16 (by omega)
  refine x_aload (np := 27) (x := 0) (by decide +kernel) rfl (x_nc_le (by decide)) ?_
  have q27 : h11 61 0 = 1 := by have z := jB (e := 0) 0 j12 rg_61_0_0_1 (by decide) (by decide); omega
  refine x_getR (np := 30) (x := 576) (f := 0) (q := 1) (by decide +kernel) (by decide) (by decide +kernel) q27 ?_
  refine x_ldcB (i := 18) (idx := 130) (tx := "by") (by rw [tb_y95]; exact List.mem_of_getElem? (i := 18) rfl) (by decide) (by rw [tb_b95]; decide +kernel) ?_
  have m31 := Tp.fr hT f13 (by decide) (by decide)
  refine x_cI (t := 6) (mj := 78) (n := 2) (rc := 8) (ml := 2) (nr := 0) (np := 35) (as := [x_r 1, x_b (18 + 1)]) (rest := []) (lo1 := [x_r 1, x_b (18 + 1)]) (by decide +kernel) (by decide) (by decide +kernel) (x_rb_of (by decide +kernel)) rfl rfl (x_wr (by decide) (x_wB (by decide) x_wn)) x_wn (by decide) rfl (c78_1_S0 j12  (by decide) m31) (fun v28 h32 l29 q30 => ?_)
  obtain ⟨j33, f34, b35, c36, c37, c38⟩ := q30
  have f39 := Fr.trans f19 f34 (by decide)
  have b40 := jB (e := 2) 0 j33 rg_1_2_0_1 (by omega) (by omega)
  have b41 : iv_tl 18 = 2 := by decide
  refine x_ifz (k := 0) (tg := 62) (np := 38) (by decide +kernel) (by decide) l29 (fun q42 => ?_) (fun q43 => ?_)
  · have q42 : v28 = 2147483648 := q42
    have b44 := c37 (by omega)
    refine x_const (np := 63) (x := 9223372039002259456) (a := 2147483648) (by decide +kernel) (by decide) (by decide) ?_
    have e45 : rv h 2 = (h ((h 61 1) + 1) 2) := (congrArg (fun z => svq h z 2) rfl).trans rfl
    obtain ⟨w46, e47⟩ := Tk.no c38 (by omega)
    refine x_retI (np := 64) (x := 0) (by decide +kernel) (by decide) (Or.inr ⟨by decide +kernel, by omega, by omega⟩) ⟨_, rfl, (by decide), ?_⟩
    exact ⟨j33, f39, (by omega), (nm9.y c18 (by omega) (by omega) rfl (by omega) rfl (wd9.f w46 rfl (by omega)))⟩
  have q43 : ¬ (v28 = 2147483648) := q43
  have b48 := c36 (by omega)
  refine x_aload (np := 39) (x := 0) (by decide +kernel) rfl (x_nc_le (by decide)) ?_
  refine x_aload (np := 40) (x := 0) (by decide +kernel) rfl (x_nc_le (by decide)) ?_
  have q49 : h32 61 1 = h11 61 1 := f34 61 1 (by decide +kernel)
  have q50 : h11 61 1 = h 61 1 := f13 61 1 (by decide +kernel)
  refine x_getR (np := 43) (x := 577) (f := 1) (q := (h 61 1)) (by decide +kernel) (by decide) (by decide +kernel) (q49.trans q50) ?_
  have q51 : h32 (h 61 1) 0 = ((h 61 1) + 1) := tf_0_0 j33 t2
  refine x_getR (np := 46) (x := 512) (f := 0) (q := ((h 61 1) + 1)) (by decide +kernel) (by decide) (tg_0_512_0_1 t2) q51 ?_
  refine x_iload (np := 47) (x := 1) (by decide +kernel) rfl l9 ?_
  refine x_const (np := 49) (x := 9223372064772063238) (a := 2147483654) (by decide +kernel) (by decide) (by decide) ?_
  refine x_const (np := 50) (x := 9223372043297226753) (a := 2147483649) (by decide +kernel) (by decide) (by decide) ?_
  refine x_const (np := 52) (x := 9223372090541867020) (a := 2147483660) (by decide +kernel) (by decide) (by decide) ?_
  refine x_nI (t := 6) (mj := 102) (n := 6) (rc := 10) (ml := 7) (nr := 0) (np := 55) (as := [x_r 61, x_r ((h 61 1) + 1), iv_c v8, iv_c 2147483654, iv_c 2147483649, iv_c 2147483660]) (rest := []) (lo1 := [x_r 61, x_r ((h 61 1) + 1), iv_c v8, iv_c 2147483654, iv_c 2147483649, iv_c 2147483660, 147573952589676412928]) (by decide +kernel) (by decide) (by decide +kernel) (x_rb_of (by decide +kernel)) rfl rfl (x_wr (by decide) (x_wr (tn_1 t2) (x_wi l9 (x_wi (by decide) (x_wi (by decide) (x_wi (by decide) x_wn)))))) x_wn (by decide) rfl ?_
  refine x_aload (np := 1) (x := 0) (by decide +kernel) rfl (x_nc_le (by decide)) ?_
  have q52 : h32 61 0 = 1 := by have z := jB (e := 0) 0 j33 rg_61_0_0_1 (by decide) (by decide); omega
  refine x_getR (np := 4) (x := 576) (f := 0) (q := 1) (by decide +kernel) (by decide) (by decide +kernel) q52 ?_
  refine x_iload (np := 6) (x := 4) (by decide +kernel) rfl (by decide) ?_
  refine x_iload (np := 8) (x := 5) (by decide +kernel) rfl (by decide) ?_
  have m56 := Tp.fr m31 f34 (by decide) (by decide)
  refine x_cI (t := 6) (mj := 79) (n := 3) (rc := 8) (ml := 5) (nr := 0) (np := 11) (as := [x_r 1, iv_c 2147483649, iv_c 2147483660]) (rest := []) (lo1 := [x_r 1, iv_c 2147483649, iv_c 2147483660, 147573952589676412928, 147573952589676412928]) (by decide +kernel) (by decide) (by decide +kernel) (x_rb_of (by decide +kernel)) rfl rfl (x_wr (by decide) (x_wi (by decide) (x_wi (by decide) x_wn))) x_wn (by decide) rfl (c79_1_c1 j33   (by omega) m56) (fun v53 h57 l54 q55 => ?_)
  obtain ⟨j58, f59, b60, c61, c62, c63, c64⟩ := q55
  have f65 := Fr.trans f39 f59 (by decide)
  have b66 := jB (e := 2) 0 j58 rg_1_2_0_1 (by omega) (by omega)
  refine x_istore (np := 13) (x := 6) (lo' := [x_r 61, x_r ((h 61 1) + 1), iv_c v8, iv_c 2147483654, iv_c 2147483649, iv_c 2147483660, iv_c v53]) (by decide +kernel) l54 (Nat.le_of_ble_eq_true rfl) rfl ?_
  refine x_iload (np := 15) (x := 6) (by decide +kernel) rfl l54 ?_
  refine x_const (np := 16) (x := 9223372034707292159) (a := 2147483647) (by decide +kernel) (by decide) (by decide) ?_
  refine x_icmp (k := 1) (tg := 21) (np := 19) (by decide +kernel) (by decide) l54 (by decide) (fun q67 => ?_) (fun q68 => ?_)
  · have q67 : v53 ≠ 2147483647 := q67
    have b69 := c62 (by omega)
    refine x_aload (np := 22) (x := 1) (by decide +kernel) rfl (x_nc_le (tn_1 t2)) ?_
    refine x_iload (np := 23) (x := 2) (by decide +kernel) rfl l9 ?_
    refine x_iload (np := 24) (x := 3) (by decide +kernel) rfl (by decide) ?_
    refine x_iload (np := 26) (x := 6) (by decide +kernel) rfl l54 ?_
    refine x_cV (t := 6) (mj := 69) (n := 4) (rc := 7) (ml := 5) (nr := 0) (np := 29) (as := [x_r ((h 61 1) + 1), iv_c v8, iv_c 2147483654, iv_c v53]) (rest := []) (lo1 := [x_r ((h 61 1) + 1), iv_c v8, iv_c 2147483654, iv_c v53, 147573952589676412928]) (by decide +kernel) (by decide) (by decide +kernel) (x_rb_of (tr_1_7 t2)) rfl rfl (x_wr (tn_1 t2) (x_wi l9 (x_wi (by decide) (x_wi l54 x_wn)))) x_wn (by decide) rfl (c69_T1_c6 j58 t2 (by omega)  (by omega)) (fun h73 q72 => ?_)
    obtain ⟨j74, f75⟩ := q72
    have f78 := Fr.trans f65 f75 (by decide)
    refine x_const (np := 30) (x := 9223372043297226753) (a := 2147483649) (by decide +kernel) (by decide) (by decide) ?_
    refine x_retI (np := 31) (x := 0) (by decide +kernel) (by decide) (Or.inr ⟨by decide +kernel, by omega, by omega⟩) ⟨_, rfl, (by decide), ?_⟩
    refine x_ifz (k := 0) (tg := 62) (np := 58) (by decide +kernel) (by decide) (by decide) (fun q79 => ?_) (fun q80 => ?_)
    · have q79 : 2147483649 = 2147483648 := q79
      exfalso; omega
    have q80 : ¬ (2147483649 = 2147483648) := q80
    refine x_const (np := 59) (x := 9223372043297226753) (a := 2147483649) (by decide +kernel) (by decide) (by decide) ?_
    refine x_goto (np := 62) (x := 63) (by decide +kernel) ?_
    have e81 : rv h 2 = (h ((h 61 1) + 1) 2) := (congrArg (fun z => svq h z 2) rfl).trans rfl
    obtain ⟨w82, e83⟩ := Tk.yes c38 (by omega)
    have q84 : h73 1 2 = h57 1 2 := jK 0 f75 rg_1_2_0_1 (by omega) (by omega) (by decide)
    refine x_retI (np := 64) (x := 0) (by decide +kernel) (by decide) (Or.inr ⟨by decide +kernel, by omega, by omega⟩) ⟨_, rfl, (by decide), ?_⟩
    exact ⟨j74, f78, (by omega), (nm9.y c18 (by omega) (by omega) rfl (by omega) rfl (wd9.y w82 rfl e83 rfl (nm9.y c64 (by omega) (by omega) rfl (by omega) rfl (fin9.mk (by omega) (show h57 1 2 = h73 1 2 by omega)))))⟩
  have q68 : ¬ (v53 ≠ 2147483647) := q68
  have b85 := c63 (by omega)
  refine x_const (np := 20) (x := 9223372039002259456) (a := 2147483648) (by decide +kernel) (by decide) (by decide) ?_
  refine x_retI (np := 21) (x := 0) (by decide +kernel) (by decide) (Or.inr ⟨by decide +kernel, by omega, by omega⟩) ⟨_, rfl, (by decide), ?_⟩
  refine x_ifz (k := 0) (tg := 62) (np := 58) (by decide +kernel) (by decide) (by decide) (fun q86 => ?_) (fun q87 => ?_)
  · have q86 : 2147483648 = 2147483648 := q86
    refine x_const (np := 63) (x := 9223372039002259456) (a := 2147483648) (by decide +kernel) (by decide) (by decide) ?_
    have e88 : rv h 2 = (h ((h 61 1) + 1) 2) := (congrArg (fun z => svq h z 2) rfl).trans rfl
    obtain ⟨w89, e90⟩ := Tk.yes c38 (by omega)
    refine x_retI (np := 64) (x := 0) (by decide +kernel) (by decide) (Or.inr ⟨by decide +kernel, by omega, by omega⟩) ⟨_, rfl, (by decide), ?_⟩
    exact ⟨j58, f65, (by omega), (nm9.y c18 (by omega) (by omega) rfl (by omega) rfl (wd9.y w89 rfl e90 rfl (nm9.f c64 (by omega) (by omega) rfl (by omega) (by omega))))⟩
  have q87 : ¬ (2147483648 = 2147483648) := q87
  exfalso; omega
set_option maxHeartbeats 0 in
/-- LentNames$Table.put(III)V -/
theorem c69_T7 {sc : Nat × Nat} {d ra0 a1 a2 a3 : Nat} {h : xh} (hJ : J h) (ta0 : tw ra0) (ba1 : 2147483648 ≤ a1 ∧ a1 ≤ 2147483657) (ba2 : 2147483648 ≤ a2 ∧ a2 ≤ 2147483652) (ba3 : 2147483648 ≤ a3 ∧ a3 ≤ 2147483648) : X sc 69 d (xV fun h' => J h' ∧ Fr 129 h h') 0 0 0 [x_r (ra0 + 7), iv_c a1, iv_c a2, iv_c a3, 147573952589676412928] [] h := by
  have la1 : a1 < 4294967296 := by omega
  have la2 : a2 < 4294967296 := by omega
  have la3 : a3 < 4294967296 := by omega
  have hF := Fr.refl 129 h
  refine x_iload (np := 1) (x := 1) (by decide +kernel) rfl la1 ?_
  refine x_ifz (k := 2) (tg := 28) (np := 4) (by decide +kernel) (by decide) la1 (fun q1 => ?_) (fun q2 => ?_)
  · have q1 : a1 < 2147483648 := q1
    exfalso; omega
  have q2 : ¬ (a1 < 2147483648) := q2
  refine x_iload (np := 5) (x := 1) (by decide +kernel) rfl la1 ?_
  refine x_aload (np := 6) (x := 0) (by decide +kernel) rfl (x_nc_le (tn_7 ta0)) ?_
  have b3 := jB (e := 2) 0 hJ (rg_T7_2_0_1 ta0) (by omega) (by omega)
  refine x_getC (np := 9) (x := 386) (f := 2) (q := (h (ra0 + 7) 2)) (by decide +kernel) (by decide) (tg_7_386_2_0 ta0) rfl (fun l4 => ?_)
  refine x_icmp (k := 3) (tg := 28) (np := 12) (by decide +kernel) (by decide) la1 l4 (fun q5 => ?_) (fun q6 => ?_)
  · have q5 : (h (ra0 + 7) 2) ≤ a1 := q5
    refine x_const (np := 29) (x := 9223372039002259456) (a := 2147483648) (by decide +kernel) (by decide) (by decide) ?_
    refine x_istore (np := 31) (x := 4) (lo' := [x_r (ra0 + 7), iv_c a1, iv_c a2, iv_c a3, iv_c 2147483648]) (by decide +kernel) (by decide) (Nat.le_of_ble_eq_true rfl) rfl ?_
    refine x_iload (np := 33) (x := 4) (by decide +kernel) rfl (by decide) ?_
    refine x_ifz (k := 0) (tg := 50) (np := 36) (by decide +kernel) (by decide) (by decide) (fun q7 => ?_) (fun q8 => ?_)
    · have q7 : 2147483648 = 2147483648 := q7
      refine x_retV (np := 51) (x := 0) (by decide +kernel) (by decide +kernel) ⟨rfl, ?_⟩
      exact ⟨hJ, hF⟩
    have q8 : ¬ (2147483648 = 2147483648) := q8
    exfalso; omega
  have q6 : ¬ ((h (ra0 + 7) 2) ≤ a1) := q6
  refine x_iload (np := 13) (x := 2) (by decide +kernel) rfl la2 ?_
  refine x_ifz (k := 2) (tg := 28) (np := 16) (by decide +kernel) (by decide) la2 (fun q9 => ?_) (fun q10 => ?_)
  · have q9 : a2 < 2147483648 := q9
    exfalso; omega
  have q10 : ¬ (a2 < 2147483648) := q10
  refine x_iload (np := 17) (x := 2) (by decide +kernel) rfl la2 ?_
  refine x_aload (np := 18) (x := 0) (by decide +kernel) rfl (x_nc_le (tn_7 ta0)) ?_
  have b11 := jB (e := 0) 0 hJ (rg_T7_0_0_1 ta0) (by omega) (by omega)
  have q12 : (h (ra0 + 7) 0) = 2147483652 := by omega
  refine x_getC (np := 21) (x := 384) (f := 0) (q := 2147483652) (by decide +kernel) (by decide) (tg_7_384_0_0 ta0) q12 (fun l13 => ?_)
  refine x_icmp (k := 3) (tg := 28) (np := 24) (by decide +kernel) (by decide) la2 (by decide) (fun q14 => ?_) (fun q15 => ?_)
  · have q14 : 2147483652 ≤ a2 := q14
    refine x_const (np := 29) (x := 9223372039002259456) (a := 2147483648) (by decide +kernel) (by decide) (by decide) ?_
    refine x_istore (np := 31) (x := 4) (lo' := [x_r (ra0 + 7), iv_c a1, iv_c a2, iv_c a3, iv_c 2147483648]) (by decide +kernel) (by decide) (Nat.le_of_ble_eq_true rfl) rfl ?_
    refine x_iload (np := 33) (x := 4) (by decide +kernel) rfl (by decide) ?_
    refine x_ifz (k := 0) (tg := 50) (np := 36) (by decide +kernel) (by decide) (by decide) (fun q16 => ?_) (fun q17 => ?_)
    · have q16 : 2147483648 = 2147483648 := q16
      refine x_retV (np := 51) (x := 0) (by decide +kernel) (by decide +kernel) ⟨rfl, ?_⟩
      exact ⟨hJ, hF⟩
    have q17 : ¬ (2147483648 = 2147483648) := q17
    exfalso; omega
  have q15 : ¬ (2147483652 ≤ a2) := q15
  refine x_const (np := 25) (x := 9223372043297226753) (a := 2147483649) (by decide +kernel) (by decide) (by decide) ?_
  refine x_goto (np := 28) (x := 29) (by decide +kernel) ?_
  refine x_istore (np := 31) (x := 4) (lo' := [x_r (ra0 + 7), iv_c a1, iv_c a2, iv_c a3, iv_c 2147483649]) (by decide +kernel) (by decide) (Nat.le_of_ble_eq_true rfl) rfl ?_
  refine x_iload (np := 33) (x := 4) (by decide +kernel) rfl (by decide) ?_
  refine x_ifz (k := 0) (tg := 50) (np := 36) (by decide +kernel) (by decide) (by decide) (fun q18 => ?_) (fun q19 => ?_)
  · have q18 : 2147483649 = 2147483648 := q18
    exfalso; omega
  have q19 : ¬ (2147483649 = 2147483648) := q19
  refine x_aload (np := 37) (x := 0) (by decide +kernel) rfl (x_nc_le (tn_7 ta0)) ?_
  have q20 : h (ra0 + 7) 1 = (ra0 + 8) := tf_7_1 hJ ta0
  refine x_getR (np := 40) (x := 385) (f := 1) (q := (ra0 + 8)) (by decide +kernel) (by decide) (tg_7_385_1_1 ta0) q20 ?_
  refine x_iload (np := 41) (x := 1) (by decide +kernel) rfl la1 ?_
  refine x_aload (np := 42) (x := 0) (by decide +kernel) rfl (x_nc_le (tn_7 ta0)) ?_
  refine x_getC (np := 45) (x := 384) (f := 0) (q := 2147483652) (by decide +kernel) (by decide) (tg_7_384_0_0 ta0) q12 (fun l21 => ?_)
  obtain ⟨u22, q23⟩ : ∃ z, a1 = 2147483648 + z := ⟨a1 - 2147483648, by omega⟩
  refine x_imul (np := 46) (x := 0) (i := u22) (j := 4) (v := (2147483648 + 4 * u22)) (by decide +kernel) (by omega) (by omega) (by omega) (by omega) la1 (by decide) ?_
  refine x_iload (np := 47) (x := 2) (by decide +kernel) rfl la2 ?_
  refine x_iadd (np := 48) (x := 0) (v := (4 * u22 + a2)) (by decide +kernel) (by omega) la2 (by omega) (by omega) ?_
  refine x_iload (np := 49) (x := 3) (by decide +kernel) rfl la3 ?_
  obtain ⟨u25, q26⟩ : ∃ z, a2 = 2147483648 + z := ⟨a2 - 2147483648, by omega⟩
  refine x_ast (np := 50) (x := 0) (kd := 1) (n := 40) (i := (4 * u22 + u25)) (by decide +kernel) (Or.inl rfl) (ta_8_40 ta0) (by omega) (by omega) (by decide) la3 (fun z => absurd z (by decide)) ?_
  have j28 := jUw (e := (4 * u22 + u25)) (v := a3) hJ (rw_T8 ta0) (by omega) (by omega)
  have f30 := jFw (e := (4 * u22 + u25)) (v := a3) hF (rw_T8 ta0) (by omega) (by decide)
  generalize e29 : x_up h (ra0 + 8) (4 * u22 + u25) a3 = h27 at j28 f30 ⊢
  refine x_retV (np := 51) (x := 0) (by decide +kernel) (by decide +kernel) ⟨rfl, ?_⟩
  exact ⟨j28, f30⟩
set_option maxHeartbeats 0 in
/-- LentNames$Table.addRow()I -/
theorem c67_T7 {sc : Nat × Nat} {d ra0 : Nat} {h : xh} (hJ : J h) (ta0 : tw ra0) (hr0 : (h (ra0 + 7) 2) + 1 ≤ 2147483658) : X sc 67 (d + 1) (xI fun r h' => J h' ∧ Fr 281474976710785 h h' ∧ (2147483648 ≤ r ∧ r ≤ 2147483657) ∧ (h' ra0 7 = h ra0 7) ∧ (h' ra0 8 = h ra0 8) ∧ (h' (ra0 + 1) 2 = h (ra0 + 1) 2) ∧ (h' (ra0 + 3) 2 = h (ra0 + 3) 2) ∧ (h' (ra0 + 5) 2 = h (ra0 + 5) 2) ∧ (h' (ra0 + 7) 2 = h (ra0 + 7) 2 + 1) ∧ (r + 1 = h' (ra0 + 7) 2) ∧ Ot ra0 h h') 0 0 0 [x_r (ra0 + 7), 147573952589676412928] [] h := by
  have hF := Fr.refl 281474976710785 h
  have b1 := jB (e := 2) 0 hJ (rg_T7_2_0_1 ta0) (by omega) (by omega)
  refine x_aload (np := 1) (x := 0) (by decide +kernel) rfl (x_nc_le (tn_7 ta0)) ?_
  refine x_nI (t := 6) (mj := 66) (n := 1) (rc := 7) (ml := 1) (nr := 0) (np := 4) (as := [x_r (ra0 + 7)]) (rest := []) (lo1 := [x_r (ra0 + 7)]) (by decide +kernel) (by decide) (by decide +kernel) (x_rb_of (tr_7_7 ta0)) rfl rfl (x_wr (tn_7 ta0) x_wn) x_wn (by decide) rfl ?_
  refine x_aload (np := 1) (x := 0) (by decide +kernel) rfl (x_nc_le (tn_7 ta0)) ?_
  refine x_getC (np := 4) (x := 386) (f := 2) (q := (h (ra0 + 7) 2)) (by decide +kernel) (by decide) (tg_7_386_2_0 ta0) rfl (fun l2 => ?_)
  refine x_const (np := 5) (x := 9223372043297226753) (a := 2147483649) (by decide +kernel) (by decide) (by decide) ?_
  refine x_iadd (np := 6) (x := 0) (v := (1 + (h (ra0 + 7) 2))) (by decide +kernel) l2 (by decide) (by omega) (by omega) ?_
  refine x_aload (np := 7) (x := 0) (by decide +kernel) rfl (x_nc_le (tn_7 ta0)) ?_
  have b3 := jB (e := 0) 0 hJ (rg_T7_0_0_1 ta0) (by omega) (by omega)
  have q4 : (h (ra0 + 7) 0) = 2147483652 := by omega
  refine x_getC (np := 10) (x := 384) (f := 0) (q := 2147483652) (by decide +kernel) (by decide) (tg_7_384_0_0 ta0) q4 (fun l5 => ?_)
  obtain ⟨u6, q7⟩ : ∃ z, (h (ra0 + 7) 2) = 2147483648 + z := ⟨(h (ra0 + 7) 2) - 2147483648, by omega⟩
  refine x_imul (np := 11) (x := 0) (i := (1 + u6)) (j := 4) (v := (2147483652 + 4 * u6)) (by decide +kernel) (by omega) (by omega) (by omega) (by omega) (by omega) (by decide) ?_
  refine x_aload (np := 12) (x := 0) (by decide +kernel) rfl (x_nc_le (tn_7 ta0)) ?_
  have q9 : h (ra0 + 7) 1 = (ra0 + 8) := tf_7_1 hJ ta0
  refine x_getR (np := 15) (x := 385) (f := 1) (q := (ra0 + 8)) (by decide +kernel) (by decide) (tg_7_385_1_1 ta0) q9 ?_
  refine x_alen (np := 16) (x := 0) (n := 40) (by decide +kernel) (tn_8 ta0) (tl_8 ta0).1 (tl_8 ta0).2 (by decide) ?_
  show X _ _ _ _ _ _ _ _ [iv_c 2147483688, iv_c (2147483652 + 4 * u6)] _
  refine x_icmp (k := 5) (tg := 23) (np := 19) (by decide +kernel) (by decide) (by omega) (by decide) (fun q10 => ?_) (fun q11 => ?_)
  · have q10 : (2147483652 + 4 * u6) ≤ 2147483688 := q10
    refine x_const (np := 24) (x := 9223372039002259456) (a := 2147483648) (by decide +kernel) (by decide) (by decide) ?_
    refine x_retI (np := 25) (x := 0) (by decide +kernel) (by decide) (Or.inr ⟨by decide +kernel, by omega, by omega⟩) ⟨_, rfl, (by decide), ?_⟩
    refine x_ifz (k := 0) (tg := 9) (np := 7) (by decide +kernel) (by decide) (by decide) (fun q12 => ?_) (fun q13 => ?_)
    · have q12 : 2147483648 = 2147483648 := q12
      refine x_aload (np := 10) (x := 0) (by decide +kernel) rfl (x_nc_le (tn_7 ta0)) ?_
      refine x_dup (np := 11) (x := 0) (by decide +kernel) (by have z := x_nc_le (k := (ra0 + 7)) (tn_7 ta0); unfold x_r; omega) ?_
      refine x_getC (np := 14) (x := 386) (f := 2) (q := (h (ra0 + 7) 2)) (by decide +kernel) (by decide) (tg_7_386_2_0 ta0) rfl (fun l14 => ?_)
      refine x_const (np := 15) (x := 9223372043297226753) (a := 2147483649) (by decide +kernel) (by decide) (by decide) ?_
      refine x_iadd (np := 16) (x := 0) (v := (1 + (h (ra0 + 7) 2))) (by decide +kernel) l2 (by decide) (by omega) (by omega) ?_
      refine x_putI (np := 19) (x := 386) (f := 2) (by decide +kernel) (tg_7_386_2_0 ta0) (by omega) (Or.inl (by decide)) ?_
      have j16 := jU (e := 2) (v := (1 + (h (ra0 + 7) 2))) 0 hJ (rg_T7_2_0_1 ta0) (by omega) (by omega) (by omega)
      have f18 := jF (e := 2) (v := (1 + (h (ra0 + 7) 2))) 0 hF (rg_T7_2_0_1 ta0) (by omega) (by omega) (by decide)
      generalize e17 : x_up h (ra0 + 7) 2 (1 + (h (ra0 + 7) 2)) = h15 at j16 f18 ⊢
      refine x_const (np := 20) (x := 9223372039002259456) (a := 2147483648) (by decide +kernel) (by decide) (by decide) ?_
      refine x_istore (np := 21) (x := 1) (lo' := [x_r (ra0 + 7), iv_c 2147483648]) (by decide +kernel) (by decide) (Nat.le_of_ble_eq_true rfl) rfl ?_
      have p111 : ∀ (n : Nat) (v106 : Nat) (h108 : xh), 4294967296 - v106 < n → (2147483648 ≤ v106 ∧ v106 ≤ 2147483652) → J h108 → Fr 129 h15 h108 → Ot ra0 h h108 → X sc 67 (d + 1) (xI fun r h' => J h' ∧ Fr 281474976710785 h h' ∧ (2147483648 ≤ r ∧ r ≤ 2147483657) ∧ (h' ra0 7 = h ra0 7) ∧ (h' ra0 8 = h ra0 8) ∧ (h' (ra0 + 1) 2 = h (ra0 + 1) 2) ∧ (h' (ra0 + 3) 2 = h (ra0 + 3) 2) ∧ (h' (ra0 + 5) 2 = h (ra0 + 5) 2) ∧ (h' (ra0 + 7) 2 = h (ra0 + 7) 2 + 1) ∧ (r + 1 = h' (ra0 + 7) 2) ∧ Ot ra0 h h') 0 0 21 [x_r (ra0 + 7), iv_c v106] [] h108 := by
        intro n
        induction n with
        | zero => intro v106 h108 q113; exact absurd q113 (Nat.not_lt_zero _)
        | succ n i114 =>
          intro v106 h108 q113 b107 j110 f109 m112
          have f115 := Fr.trans f18 f109 (by decide)
          refine x_iload (np := 22) (x := 1) (by decide +kernel) rfl (by omega) ?_
          refine x_aload (np := 23) (x := 0) (by decide +kernel) rfl (x_nc_le (tn_7 ta0)) ?_
          have b116 := jB (e := 0) 0 j110 (rg_T7_0_0_1 ta0) (by omega) (by omega)
          have q117 : (h108 (ra0 + 7) 0) = 2147483652 := by omega
          refine x_getC (np := 26) (x := 384) (f := 0) (q := 2147483652) (by decide +kernel) (by decide) (tg_7_384_0_0 ta0) q117 (fun l118 => ?_)
          refine x_icmp (k := 3) (tg := 47) (np := 29) (by decide +kernel) (by decide) (by omega) (by decide) (fun q119 => ?_) (fun q120 => ?_)
          · have q119 : 2147483652 ≤ v106 := q119
            refine x_aload (np := 48) (x := 0) (by decide +kernel) rfl (x_nc_le (tn_7 ta0)) ?_
            have q121 : h108 (ra0 + 7) 2 = h15 (ra0 + 7) 2 := jK 0 f109 (rg_T7_2_0_1 ta0) (by omega) (by omega) (by decide)
            have q122 : h15 (ra0 + 7) 2 = (1 + (h (ra0 + 7) 2)) := by rw [← e17]; exact x_up_at
            refine x_getC (np := 51) (x := 386) (f := 2) (q := (1 + (h (ra0 + 7) 2))) (by decide +kernel) (by decide) (tg_7_386_2_0 ta0) (q121.trans q122) (fun l123 => ?_)
            refine x_const (np := 52) (x := 9223372043297226753) (a := 2147483649) (by decide +kernel) (by decide) (by decide) ?_
            refine x_isub (np := 53) (x := 0) (v := (h (ra0 + 7) 2)) (by decide +kernel) (by omega) (by decide) (by omega) (by omega) ?_
            have b124 := jB (e := 7) 0 hJ (rg_T0_7_0_1 ta0) (by omega) (by omega)
            have q125 : h108 ra0 7 = h15 ra0 7 := jK 0 f109 (rg_T0_7_0_1 ta0) (by omega) (by omega) (by decide)
            have q126 : h15 ra0 7 = h ra0 7 := by rw [← e17]; exact x_up_k tof_0_7
            have q127 : h108 ra0 8 = h15 ra0 8 := jK 0 f109 (rg_T0_8_0_1 ta0) (by omega) (by omega) (by decide)
            have q128 : h15 ra0 8 = h ra0 8 := by rw [← e17]; exact x_up_k tof_0_7
            have b129 := jB (e := 2) 0 hJ (rg_T1_2_0_1 ta0) (by omega) (by omega)
            have q130 : h108 (ra0 + 1) 2 = h15 (ra0 + 1) 2 := jK 0 f109 (rg_T1_2_0_1 ta0) (by omega) (by omega) (by decide)
            have q131 : h15 (ra0 + 1) 2 = h (ra0 + 1) 2 := by rw [← e17]; exact x_up_k tof_1_7
            have b132 := jB (e := 2) 0 hJ (rg_T3_2_0_1 ta0) (by omega) (by omega)
            have q133 : h108 (ra0 + 3) 2 = h15 (ra0 + 3) 2 := jK 0 f109 (rg_T3_2_0_1 ta0) (by omega) (by omega) (by decide)
            have q134 : h15 (ra0 + 3) 2 = h (ra0 + 3) 2 := by rw [← e17]; exact x_up_k tof_3_7
            have b135 := jB (e := 2) 0 hJ (rg_T5_2_0_1 ta0) (by omega) (by omega)
            have q136 : h108 (ra0 + 5) 2 = h15 (ra0 + 5) 2 := jK 0 f109 (rg_T5_2_0_1 ta0) (by omega) (by omega) (by decide)
            have q137 : h15 (ra0 + 5) 2 = h (ra0 + 5) 2 := by rw [← e17]; exact x_up_k tof_5_7
            have q138 : h108 (ra0 + 7) 2 = h15 (ra0 + 7) 2 := jK 0 f109 (rg_T7_2_0_1 ta0) (by omega) (by omega) (by decide)
            have q139 : h15 (ra0 + 7) 2 = (1 + (h (ra0 + 7) 2)) := by rw [← e17]; exact x_up_at
            have q140 : h108 (ra0 + 7) 2 = h15 (ra0 + 7) 2 := jK 0 f109 (rg_T7_2_0_1 ta0) (by omega) (by omega) (by decide)
            have q141 : h15 (ra0 + 7) 2 = (1 + (h (ra0 + 7) 2)) := by rw [← e17]; exact x_up_at
            refine x_retI (np := 54) (x := 0) (by decide +kernel) l2 (Or.inl (by decide +kernel)) ⟨_, rfl, l2, ?_⟩
            exact ⟨j110, f115, (by omega), (by omega), (by omega), (by omega), (by omega), (by omega), (by omega), (by omega), m112⟩
          have q120 : ¬ (2147483652 ≤ v106) := q120
          refine x_aload (np := 30) (x := 0) (by decide +kernel) rfl (x_nc_le (tn_7 ta0)) ?_
          refine x_aload (np := 31) (x := 0) (by decide +kernel) rfl (x_nc_le (tn_7 ta0)) ?_
          have q142 : h108 (ra0 + 7) 2 = h15 (ra0 + 7) 2 := jK 0 f109 (rg_T7_2_0_1 ta0) (by omega) (by omega) (by decide)
          have q143 : h15 (ra0 + 7) 2 = (1 + (h (ra0 + 7) 2)) := by rw [← e17]; exact x_up_at
          refine x_getC (np := 34) (x := 386) (f := 2) (q := (1 + (h (ra0 + 7) 2))) (by decide +kernel) (by decide) (tg_7_386_2_0 ta0) (q142.trans q143) (fun l144 => ?_)
          refine x_const (np := 35) (x := 9223372043297226753) (a := 2147483649) (by decide +kernel) (by decide) (by decide) ?_
          refine x_isub (np := 36) (x := 0) (v := (h (ra0 + 7) 2)) (by decide +kernel) (by omega) (by decide) (by omega) (by omega) ?_
          refine x_iload (np := 37) (x := 1) (by decide +kernel) rfl (by omega) ?_
          refine x_const (np := 38) (x := 9223372039002259456) (a := 2147483648) (by decide +kernel) (by decide) (by decide) ?_
          refine x_cV (t := 6) (mj := 69) (n := 4) (rc := 7) (ml := 5) (nr := 0) (np := 41) (as := [x_r (ra0 + 7), iv_c (h (ra0 + 7) 2), iv_c v106, iv_c 2147483648]) (rest := []) (lo1 := [x_r (ra0 + 7), iv_c (h (ra0 + 7) 2), iv_c v106, iv_c 2147483648, 147573952589676412928]) (by decide +kernel) (by decide) (by decide +kernel) (x_rb_of (tr_7_7 ta0)) rfl rfl (x_wr (tn_7 ta0) (x_wi l2 (x_wi (by omega) (x_wi (by decide) x_wn)))) x_wn (by decide) rfl (c69_T7 j110 ta0 (by omega) (by omega) (by omega)) (fun h148 q147 => ?_)
          obtain ⟨j149, f150⟩ := q147
          have f153 := Fr.trans f115 f150 (by decide)
          have f154 := Fr.trans f109 f150 (by decide)
          refine x_iinc (np := 44) (i := 1) (j := 2147483649) (v := (1 + v106)) (lo' := [x_r (ra0 + 7), iv_c (1 + v106)]) (by decide +kernel) (by decide) (by decide) rfl (by omega) (by omega) (by omega) rfl ?_
          refine x_goto (np := 47) (x := 21) (by decide +kernel) ?_
          have m155 : Ot ra0 h h148 := Ot.fr m112 f150 (by decide)
          exact i114 (1 + v106) h148 (by omega) (by omega) j149 f154 m155
      have m156 : Ot ra0 h h15 := by rw [← e17]; exact Ot.up (o := 7) Ot.refl ta0 (by decide) rfl
      exact p111 _ 2147483648 h15 (Nat.lt_succ_self _) (by omega) j16 (Fr.refl _ _) m156
    have q13 : ¬ (2147483648 = 2147483648) := q13
    exfalso; omega
  have q11 : ¬ ((2147483652 + 4 * u6) ≤ 2147483688) := q11
  exfalso; omega
set_option maxHeartbeats 0 in
/-- LentNames$TownReader.readBodies(I)Z -/
theorem c101_61 {sc : Nat × Nat} {d a1 : Nat} {h : xh} {tB : Nat → Nat} {tN : Nat} (hJ : J h) (ba1 : 2147483648 ≤ a1 ∧ a1 ≤ 2147483657) (hT : Tp tB tN h) : X sc 101 (d + 6) (xI fun r h' => J h' ∧ Fr 161 h h' ∧ (2147483648 ≤ r ∧ r ≤ 2147483649) ∧ Bl tB tN (rv h 0 - 1) (h 1 2) (rs r (h' 1 2)) ∧ (∀ b u, h 61 1 = b → a1 = 2147483648 + u → h' (b + 8) (1 + 4 * u) = h (b + 8) (1 + 4 * u))) 0 0 0 [x_r 61, iv_c a1, 147573952589676412928, 147573952589676412928, 147573952589676412928] [] h := by
  have la1 : a1 < 4294967296 := by omega
  have hF := Fr.refl 161 h
  refine x_const (np := 1) (x := 9223372039002259456) (a := 2147483648) (by decide +kernel) (by decide) (by decide) ?_
  refine x_istore (np := 2) (x := 2) (lo' := [x_r 61, iv_c a1, iv_c 2147483648, 147573952589676412928, 147573952589676412928]) (by decide +kernel) (by decide) (Nat.le_of_ble_eq_true rfl) rfl ?_
  refine x_const (np := 3) (x := 9223372039002259456) (a := 2147483648) (by decide +kernel) (by decide) (by decide) ?_
  refine x_istore (np := 4) (x := 3) (lo' := [x_r 61, iv_c a1, iv_c 2147483648, iv_c 2147483648, 147573952589676412928]) (by decide +kernel) (by decide) (Nat.le_of_ble_eq_true rfl) rfl ?_
  have p1320 : ∀ (n : Nat) (v1312 : Nat) (v1314 : Nat) (w1316 : Nat) (h1317 : xh), 4294967296 - v1314 < n → (0 ≤ v1312 ∧ v1312 ≤ 4294967295) → (2147483648 ≤ v1314 ∧ v1314 ≤ 2147483788) → 3 * v1314 ≤ h1317 1 2 + 4294967296 → J h1317 → Fr 33 h h1317 → Bq tB tN (rv h 0 - 1) (h1317 1 2) (h 1 2) → X sc 101 (d + 6) (xI fun r h' => J h' ∧ Fr 161 h h' ∧ (2147483648 ≤ r ∧ r ≤ 2147483649) ∧ Bl tB tN (rv h 0 - 1) (h 1 2) (rs r (h' 1 2)) ∧ (∀ b u, h 61 1 = b → a1 = 2147483648 + u → h' (b + 8) (1 + 4 * u) = h (b + 8) (1 + 4 * u))) 0 0 4 [x_r 61, iv_c a1, iv_c v1312, iv_c v1314, w1316] [] h1317 := by
    intro n
    induction n with
    | zero => intro v1312 v1314 w1316 h1317 q1323; exact absurd q1323 (Nat.not_lt_zero _)
    | succ n i1324 =>
      intro v1312 v1314 w1316 h1317 q1323 b1313 b1315 b1321 j1319 f1318 m1322
      have f1325 := Fr.trans hF f1318 (by decide)
      have b1326 := jB (e := 2) 0 j1319 rg_1_2_0_1 (by omega) (by omega)
      have q1327 : h1317 61 1 = h 61 1 := f1318 61 1 (by decide +kernel)
      have t1328 : tw (h 61 1) := hJ.2.2.2.2.1
      have q1329 : h1317 (h 61 1) 7 = h (h 61 1) 7 := jK 0 f1318 (rg_T0_7_0_1 t1328) (by omega) (by omega) (by decide)
      have b1330 := jB (e := 7) 0 hJ (rg_T0_7_0_1 t1328) (by omega) (by omega)
      have e1331 : rv h1317 0 = (h (h 61 1) 7) := (congrArg (fun z => svq h1317 z 0) q1327).trans q1329
      have e1332 : rv h 0 = (h (h 61 1) 7) := (congrArg (fun z => svq h z 0) rfl).trans rfl
      refine x_iload (np := 5) (x := 3) (by decide +kernel) rfl (by omega) ?_
      refine x_const (np := 8) (x := 9223373756989178256) (a := 2147484048) (by decide +kernel) (by decide) (by decide) ?_
      refine x_icmp (k := 3) (tg := 66) (np := 11) (by decide +kernel) (by decide) (by omega) (by decide) (fun q1333 => ?_) (fun q1334 => ?_)
      · have q1333 : 2147484048 ≤ v1314 := q1333
        exfalso; omega
      have q1334 : ¬ (2147484048 ≤ v1314) := q1334
      refine x_aload (np := 12) (x := 0) (by decide +kernel) rfl (x_nc_le (by decide)) ?_
      have q1335 : h1317 61 0 = 1 := by have z := jB (e := 0) 0 j1319 rg_61_0_0_1 (by decide) (by decide); omega
      refine x_getR (np := 15) (x := 576) (f := 0) (q := 1) (by decide +kernel) (by decide) (by decide +kernel) q1335 ?_
      refine x_const (np := 16) (x := 9223372039002259456) (a := 2147483648) (by decide +kernel) (by decide) (by decide) ?_
      refine x_aload (np := 17) (x := 0) (by decide +kernel) rfl (x_nc_le (by decide)) ?_
      have q1336 : h1317 61 1 = h 61 1 := f1318 61 1 (by decide +kernel)
      refine x_getR (np := 20) (x := 577) (f := 1) (q := (h 61 1)) (by decide +kernel) (by decide) (by decide +kernel) q1336 ?_
      have q1337 : h1317 (h 61 1) 7 = h (h 61 1) 7 := jK 0 f1318 (rg_T0_7_0_1 t1328) (by omega) (by omega) (by decide)
      refine x_getC (np := 23) (x := 519) (f := 7) (q := (h (h 61 1) 7)) (by decide +kernel) (by decide) (tg_0_519_7_0 t1328) q1337 (fun l1338 => ?_)
      refine x_const (np := 24) (x := 9223372043297226753) (a := 2147483649) (by decide +kernel) (by decide) (by decide) ?_
      obtain ⟨v1339, q1340⟩ : ∃ z, z + 2147483649 = (h (h 61 1) 7) + 2147483648 := ⟨(h (h 61 1) 7) + 2147483648 - 2147483649, by omega⟩
      refine x_isub (np := 25) (x := 0) (v := v1339) (by decide +kernel) l1338 (by decide) (by omega) (by omega) ?_
      have m1344 := Tp.fr hT f1318 (by decide) (by decide)
      refine x_cI (t := 6) (mj := 79) (n := 3) (rc := 8) (ml := 5) (nr := 0) (np := 28) (as := [x_r 1, iv_c 2147483648, iv_c v1339]) (rest := []) (lo1 := [x_r 1, iv_c 2147483648, iv_c v1339, 147573952589676412928, 147573952589676412928]) (by decide +kernel) (by decide) (by decide +kernel) (x_rb_of (by decide +kernel)) rfl rfl (x_wr (by decide) (x_wi (by decide) (x_wi (by omega) x_wn))) x_wn (by decide) rfl (c79_1_c0 j1319   (by omega) m1344) (fun v1341 h1345 l1342 q1343 => ?_)
      obtain ⟨j1346, f1347, b1348, c1349, c1350, c1351, c1352⟩ := q1343
      have f1353 := Fr.trans f1325 f1347 (by decide)
      have f1354 := Fr.trans f1318 f1347 (by decide)
      have b1355 := jB (e := 2) 0 j1346 rg_1_2_0_1 (by omega) (by omega)
      refine x_istore (np := 30) (x := 4) (lo' := [x_r 61, iv_c a1, iv_c v1312, iv_c v1314, iv_c v1341]) (by decide +kernel) l1342 (Nat.le_of_ble_eq_true rfl) rfl ?_
      refine x_iload (np := 32) (x := 4) (by decide +kernel) rfl l1342 ?_
      refine x_const (np := 33) (x := 9223372034707292159) (a := 2147483647) (by decide +kernel) (by decide) (by decide) ?_
      refine x_icmp (k := 1) (tg := 38) (np := 36) (by decide +kernel) (by decide) l1342 (by decide) (fun q1356 => ?_) (fun q1357 => ?_)
      · have q1356 : v1341 ≠ 2147483647 := q1356
        have b1358 := c1350 (by omega)
        refine x_iload (np := 39) (x := 2) (by decide +kernel) rfl (by omega) ?_
        refine x_const (np := 40) (x := 9223372043297226753) (a := 2147483649) (by decide +kernel) (by decide) (by decide) ?_
        refine x_iload (np := 42) (x := 4) (by decide +kernel) rfl l1342 ?_
        refine x_any (np := 43) (k9 := 3) (by decide +kernel) (by decide) (by decide) l1342 (fun v1359 l1360 => ?_)
        refine x_any (np := 44) (k9 := 1) (by decide +kernel) (by decide) (by omega) l1360 (fun v1361 l1362 => ?_)
        refine x_istore (np := 45) (x := 2) (lo' := [x_r 61, iv_c a1, iv_c v1361, iv_c v1314, iv_c v1341]) (by decide +kernel) l1362 (Nat.le_of_ble_eq_true rfl) rfl ?_
        refine x_aload (np := 46) (x := 0) (by decide +kernel) rfl (x_nc_le (by decide)) ?_
        have q1363 : h1345 61 0 = 1 := by have z := jB (e := 0) 0 j1346 rg_61_0_0_1 (by decide) (by decide); omega
        refine x_getR (np := 49) (x := 576) (f := 0) (q := 1) (by decide +kernel) (by decide) (by decide +kernel) q1363 ?_
        refine x_ldcB (i := 15) (idx := 165) (tx := "or") (by rw [tb_y101]; exact List.mem_of_getElem? (i := 15) rfl) (by decide) (by rw [tb_b101]; decide +kernel) ?_
        have m1367 := Tp.fr m1344 f1347 (by decide) (by decide)
        refine x_cI (t := 6) (mj := 78) (n := 2) (rc := 8) (ml := 2) (nr := 0) (np := 54) (as := [x_r 1, x_b (15 + 1)]) (rest := []) (lo1 := [x_r 1, x_b (15 + 1)]) (by decide +kernel) (by decide) (by decide +kernel) (x_rb_of (by decide +kernel)) rfl rfl (x_wr (by decide) (x_wB (by decide) x_wn)) x_wn (by decide) rfl (c78_1_S0 j1346  (by decide) m1367) (fun v1364 h1368 l1365 q1366 => ?_)
        obtain ⟨j1369, f1370, b1371, c1372, c1373, c1374⟩ := q1366
        have f1375 := Fr.trans f1353 f1370 (by decide)
        have f1376 := Fr.trans f1354 f1370 (by decide)
        have b1377 := jB (e := 2) 0 j1369 rg_1_2_0_1 (by omega) (by omega)
        have b1378 : iv_tl 15 = 2 := by decide
        refine x_ifz (k := 1) (tg := 60) (np := 57) (by decide +kernel) (by decide) l1365 (fun q1379 => ?_) (fun q1380 => ?_)
        · have q1379 : v1364 ≠ 2147483648 := q1379
          have b1381 := c1372 (by omega)
          refine x_iinc (np := 63) (i := 3) (j := 2147483649) (v := (1 + v1314)) (lo' := [x_r 61, iv_c a1, iv_c v1361, iv_c (1 + v1314), iv_c v1341]) (by decide +kernel) (by decide) (by decide) rfl (by omega) (by omega) (by omega) rfl ?_
          refine x_goto (np := 66) (x := 4) (by decide +kernel) ?_
          obtain ⟨w1382, e1383⟩ := Tk.yes c1374 (by omega)
          exact i1324 v1361 (1 + v1314) (iv_c v1341) h1368 (by omega) (by omega) (by omega) (by omega) j1369 f1376 (Bq.go m1322 c1352 (by omega) (by omega) rfl (by omega) w1382 rfl e1383 rfl)
        have q1380 : ¬ (v1364 ≠ 2147483648) := q1380
        have b1384 := c1373 (by omega)
        refine x_goto (np := 60) (x := 66) (by decide +kernel) ?_
        refine x_aload (np := 67) (x := 0) (by decide +kernel) rfl (x_nc_le (by decide)) ?_
        have q1385 : h1368 61 1 = h1345 61 1 := f1370 61 1 (by decide +kernel)
        have q1386 : h1345 61 1 = h1317 61 1 := f1347 61 1 (by decide +kernel)
        have q1387 : h1317 61 1 = h 61 1 := f1318 61 1 (by decide +kernel)
        refine x_getR (np := 70) (x := 577) (f := 1) (q := (h 61 1)) (by decide +kernel) (by decide) (by decide +kernel) ((q1385.trans q1386).trans q1387) ?_
        have q1388 : h1368 (h 61 1) 3 = ((h 61 1) + 7) := tf_0_3 j1369 t1328
        refine x_getR (np := 73) (x := 515) (f := 3) (q := ((h 61 1) + 7)) (by decide +kernel) (by decide) (tg_0_515_3_1 t1328) q1388 ?_
        refine x_iload (np := 74) (x := 1) (by decide +kernel) rfl la1 ?_
        refine x_const (np := 75) (x := 9223372047592194050) (a := 2147483650) (by decide +kernel) (by decide) (by decide) ?_
        refine x_iload (np := 76) (x := 2) (by decide +kernel) rfl l1362 ?_
        refine x_nV (t := 6) (mj := 69) (n := 4) (rc := 7) (ml := 5) (nr := 0) (np := 79) (as := [x_r ((h 61 1) + 7), iv_c a1, iv_c 2147483650, iv_c v1361]) (rest := []) (lo1 := [x_r ((h 61 1) + 7), iv_c a1, iv_c 2147483650, iv_c v1361, 147573952589676412928]) (by decide +kernel) (by decide) (by decide +kernel) (x_rb_of (tr_7_7 t1328)) rfl rfl (x_wr (tn_7 t1328) (x_wi la1 (x_wi (by decide) (x_wi l1362 x_wn)))) x_wn (by decide) rfl ?_
        refine x_iload (np := 1) (x := 1) (by decide +kernel) rfl la1 ?_
        refine x_ifz (k := 2) (tg := 28) (np := 4) (by decide +kernel) (by decide) la1 (fun q1389 => ?_) (fun q1390 => ?_)
        · have q1389 : a1 < 2147483648 := q1389
          exfalso; omega
        have q1390 : ¬ (a1 < 2147483648) := q1390
        refine x_iload (np := 5) (x := 1) (by decide +kernel) rfl la1 ?_
        refine x_aload (np := 6) (x := 0) (by decide +kernel) rfl (x_nc_le (tn_7 t1328)) ?_
        have q1391 : h1368 ((h 61 1) + 7) 2 = h1345 ((h 61 1) + 7) 2 := jK 0 f1370 (rg_T7_2_0_1 t1328) (by omega) (by omega) (by decide)
        have q1392 : h1345 ((h 61 1) + 7) 2 = h1317 ((h 61 1) + 7) 2 := jK 0 f1347 (rg_T7_2_0_1 t1328) (by omega) (by omega) (by decide)
        have q1393 : h1317 ((h 61 1) + 7) 2 = h ((h 61 1) + 7) 2 := jK 0 f1318 (rg_T7_2_0_1 t1328) (by omega) (by omega) (by decide)
        have b1394 := jB (e := 2) 0 hJ (rg_T7_2_0_1 t1328) (by omega) (by omega)
        refine x_getC (np := 9) (x := 386) (f := 2) (q := (h ((h 61 1) + 7) 2)) (by decide +kernel) (by decide) (tg_7_386_2_0 t1328) ((q1391.trans q1392).trans q1393) (fun l1395 => ?_)
        refine x_icmp (k := 3) (tg := 28) (np := 12) (by decide +kernel) (by decide) la1 l1395 (fun q1396 => ?_) (fun q1397 => ?_)
        · have q1396 : (h ((h 61 1) + 7) 2) ≤ a1 := q1396
          refine x_const (np := 29) (x := 9223372039002259456) (a := 2147483648) (by decide +kernel) (by decide) (by decide) ?_
          refine x_istore (np := 31) (x := 4) (lo' := [x_r ((h 61 1) + 7), iv_c a1, iv_c 2147483650, iv_c v1361, iv_c 2147483648]) (by decide +kernel) (by decide) (Nat.le_of_ble_eq_true rfl) rfl ?_
          refine x_iload (np := 33) (x := 4) (by decide +kernel) rfl (by decide) ?_
          refine x_ifz (k := 0) (tg := 50) (np := 36) (by decide +kernel) (by decide) (by decide) (fun q1398 => ?_) (fun q1399 => ?_)
          · have q1398 : 2147483648 = 2147483648 := q1398
            refine x_retV (np := 51) (x := 0) (by decide +kernel) (by decide +kernel) ⟨rfl, ?_⟩
            refine x_const (np := 80) (x := 9223372043297226753) (a := 2147483649) (by decide +kernel) (by decide) (by decide) ?_
            obtain ⟨w1400, e1401⟩ := Tk.no c1374 (by omega)
            obtain ⟨u1402, q1403⟩ : ∃ z, a1 = 2147483648 + z := ⟨a1 - 2147483648, by omega⟩
            have q1404 : h1368 ((h 61 1) + 8) (1 + 4 * u1402) = h1345 ((h 61 1) + 8) (1 + 4 * u1402) := jK u1402 f1370 (rg_T8_1_4_10 t1328) (by omega) (by omega) (by decide)
            have q1405 : h1345 ((h 61 1) + 8) (1 + 4 * u1402) = h1317 ((h 61 1) + 8) (1 + 4 * u1402) := jK u1402 f1347 (rg_T8_1_4_10 t1328) (by omega) (by omega) (by decide)
            have q1406 : h1317 ((h 61 1) + 8) (1 + 4 * u1402) = h ((h 61 1) + 8) (1 + 4 * u1402) := jK u1402 f1318 (rg_T8_1_4_10 t1328) (by omega) (by omega) (by decide)
            refine x_retI (np := 81) (x := 0) (by decide +kernel) (by decide) (Or.inr ⟨by decide +kernel, by omega, by omega⟩) ⟨_, rfl, (by decide), ?_⟩
            exact ⟨j1369, f1375, (by omega), (Bq.fin m1322 c1352 (by omega) (by omega) rfl (by omega) w1400 rfl (by omega) (show h1345 1 2 = h1368 1 2 by omega)), (fun b u e1 e2 => by rw [← e1, show u = u1402 by omega]; exact ((q1404.trans q1405).trans q1406))⟩
          have q1399 : ¬ (2147483648 = 2147483648) := q1399
          exfalso; omega
        have q1397 : ¬ ((h ((h 61 1) + 7) 2) ≤ a1) := q1397
        refine x_iload (np := 13) (x := 2) (by decide +kernel) rfl (by decide) ?_
        refine x_ifz (k := 2) (tg := 28) (np := 16) (by decide +kernel) (by decide) (by decide) (fun q1407 => ?_) (fun q1408 => ?_)
        · have q1407 : 2147483650 < 2147483648 := q1407
          exfalso; omega
        have q1408 : ¬ (2147483650 < 2147483648) := q1408
        refine x_iload (np := 17) (x := 2) (by decide +kernel) rfl (by decide) ?_
        refine x_aload (np := 18) (x := 0) (by decide +kernel) rfl (x_nc_le (tn_7 t1328)) ?_
        have q1409 : h1368 ((h 61 1) + 7) 0 = h1345 ((h 61 1) + 7) 0 := jK 0 f1370 (rg_T7_0_0_1 t1328) (by omega) (by omega) (by decide)
        have q1410 : h1345 ((h 61 1) + 7) 0 = h1317 ((h 61 1) + 7) 0 := jK 0 f1347 (rg_T7_0_0_1 t1328) (by omega) (by omega) (by decide)
        have q1411 : h1317 ((h 61 1) + 7) 0 = h ((h 61 1) + 7) 0 := jK 0 f1318 (rg_T7_0_0_1 t1328) (by omega) (by omega) (by decide)
        have b1412 := jB (e := 0) 0 hJ (rg_T7_0_0_1 t1328) (by omega) (by omega)
        have q1413 : (h ((h 61 1) + 7) 0) = 2147483652 := by omega
        refine x_getC (np := 21) (x := 384) (f := 0) (q := 2147483652) (by decide +kernel) (by decide) (tg_7_384_0_0 t1328) (((q1409.trans q1410).trans q1411).trans q1413) (fun l1414 => ?_)
        refine x_icmp (k := 3) (tg := 28) (np := 24) (by decide +kernel) (by decide) (by decide) (by decide) (fun q1415 => ?_) (fun q1416 => ?_)
        · have q1415 : 2147483652 ≤ 2147483650 := q1415
          exfalso; omega
        have q1416 : ¬ (2147483652 ≤ 2147483650) := q1416
        refine x_const (np := 25) (x := 9223372043297226753) (a := 2147483649) (by decide +kernel) (by decide) (by decide) ?_
        refine x_goto (np := 28) (x := 29) (by decide +kernel) ?_
        refine x_istore (np := 31) (x := 4) (lo' := [x_r ((h 61 1) + 7), iv_c a1, iv_c 2147483650, iv_c v1361, iv_c 2147483649]) (by decide +kernel) (by decide) (Nat.le_of_ble_eq_true rfl) rfl ?_
        refine x_iload (np := 33) (x := 4) (by decide +kernel) rfl (by decide) ?_
        refine x_ifz (k := 0) (tg := 50) (np := 36) (by decide +kernel) (by decide) (by decide) (fun q1417 => ?_) (fun q1418 => ?_)
        · have q1417 : 2147483649 = 2147483648 := q1417
          exfalso; omega
        have q1418 : ¬ (2147483649 = 2147483648) := q1418
        refine x_aload (np := 37) (x := 0) (by decide +kernel) rfl (x_nc_le (tn_7 t1328)) ?_
        have q1419 : h1368 ((h 61 1) + 7) 1 = ((h 61 1) + 8) := tf_7_1 j1369 t1328
        refine x_getR (np := 40) (x := 385) (f := 1) (q := ((h 61 1) + 8)) (by decide +kernel) (by decide) (tg_7_385_1_1 t1328) q1419 ?_
        refine x_iload (np := 41) (x := 1) (by decide +kernel) rfl la1 ?_
        refine x_aload (np := 42) (x := 0) (by decide +kernel) rfl (x_nc_le (tn_7 t1328)) ?_
        have q1420 : h1368 ((h 61 1) + 7) 0 = h1345 ((h 61 1) + 7) 0 := jK 0 f1370 (rg_T7_0_0_1 t1328) (by omega) (by omega) (by decide)
        have q1421 : h1345 ((h 61 1) + 7) 0 = h1317 ((h 61 1) + 7) 0 := jK 0 f1347 (rg_T7_0_0_1 t1328) (by omega) (by omega) (by decide)
        have q1422 : h1317 ((h 61 1) + 7) 0 = h ((h 61 1) + 7) 0 := jK 0 f1318 (rg_T7_0_0_1 t1328) (by omega) (by omega) (by decide)
        refine x_getC (np := 45) (x := 384) (f := 0) (q := 2147483652) (by decide +kernel) (by decide) (tg_7_384_0_0 t1328) (((q1420.trans q1421).trans q1422).trans q1413) (fun l1423 => ?_)
        obtain ⟨u1424, q1425⟩ : ∃ z, a1 = 2147483648 + z := ⟨a1 - 2147483648, by omega⟩
        refine x_imul (np := 46) (x := 0) (i := u1424) (j := 4) (v := (2147483648 + 4 * u1424)) (by decide +kernel) (by omega) (by omega) (by omega) (by omega) la1 (by decide) ?_
        refine x_iload (np := 47) (x := 2) (by decide +kernel) rfl (by decide) ?_
        refine x_iadd (np := 48) (x := 0) (v := (2147483650 + 4 * u1424)) (by decide +kernel) (by omega) (by decide) (by omega) (by omega) ?_
        refine x_iload (np := 49) (x := 3) (by decide +kernel) rfl l1362 ?_
        refine x_ast (np := 50) (x := 0) (kd := 1) (n := 40) (i := (2 + 4 * u1424)) (by decide +kernel) (Or.inl rfl) (ta_8_40 t1328) (by omega) (by omega) (by decide) l1362 (fun z => absurd z (by decide)) ?_
        have j1428 := jU (e := (2 + 4 * u1424)) (v := v1361) u1424 j1369 (rg_T8_2_4_10 t1328) (by omega) (by omega) (by omega)
        have f1430 := jF (e := (2 + 4 * u1424)) (v := v1361) u1424 f1375 (rg_T8_2_4_10 t1328) (by omega) (by omega) (by decide)
        generalize e1429 : x_up h1368 ((h 61 1) + 8) (2 + 4 * u1424) v1361 = h1427 at j1428 f1430 ⊢
        refine x_retV (np := 51) (x := 0) (by decide +kernel) (by decide +kernel) ⟨rfl, ?_⟩
        refine x_const (np := 80) (x := 9223372043297226753) (a := 2147483649) (by decide +kernel) (by decide) (by decide) ?_
        obtain ⟨w1431, e1432⟩ := Tk.no c1374 (by omega)
        have q1433 : h1427 1 2 = h1368 1 2 := by rw [← e1429]; exact x_up_k (Ne.symm (tne_8_1 t1328))
        have q1434 : h1427 ((h 61 1) + 8) (1 + 4 * u1424) = h1368 ((h 61 1) + 8) (1 + 4 * u1424) := by rw [← e1429]; exact x_up_i (by omega)
        have q1435 : h1368 ((h 61 1) + 8) (1 + 4 * u1424) = h1345 ((h 61 1) + 8) (1 + 4 * u1424) := jK u1424 f1370 (rg_T8_1_4_10 t1328) (by omega) (by omega) (by decide)
        have q1436 : h1345 ((h 61 1) + 8) (1 + 4 * u1424) = h1317 ((h 61 1) + 8) (1 + 4 * u1424) := jK u1424 f1347 (rg_T8_1_4_10 t1328) (by omega) (by omega) (by decide)
        have q1437 : h1317 ((h 61 1) + 8) (1 + 4 * u1424) = h ((h 61 1) + 8) (1 + 4 * u1424) := jK u1424 f1318 (rg_T8_1_4_10 t1328) (by omega) (by omega) (by decide)
        refine x_retI (np := 81) (x := 0) (by decide +kernel) (by decide) (Or.inr ⟨by decide +kernel, by omega, by omega⟩) ⟨_, rfl, (by decide), ?_⟩
        exact ⟨j1428, f1430, (by omega), (Bq.fin m1322 c1352 (by omega) (by omega) rfl (by omega) w1431 rfl (by omega) (show h1345 1 2 = h1427 1 2 by omega)), (fun b u e1 e2 => by rw [← e1, show u = u1424 by omega]; exact (((q1434.trans q1435).trans q1436).trans q1437))⟩
      have q1357 : ¬ (v1341 ≠ 2147483647) := q1357
      have b1438 := c1351 (by omega)
      refine x_const (np := 37) (x := 9223372039002259456) (a := 2147483648) (by decide +kernel) (by decide) (by decide) ?_
      obtain ⟨u1439, q1440⟩ : ∃ z, a1 = 2147483648 + z := ⟨a1 - 2147483648, by omega⟩
      have q1441 : h1345 ((h 61 1) + 8) (1 + 4 * u1439) = h1317 ((h 61 1) + 8) (1 + 4 * u1439) := jK u1439 f1347 (rg_T8_1_4_10 t1328) (by omega) (by omega) (by decide)
      have q1442 : h1317 ((h 61 1) + 8) (1 + 4 * u1439) = h ((h 61 1) + 8) (1 + 4 * u1439) := jK u1439 f1318 (rg_T8_1_4_10 t1328) (by omega) (by omega) (by decide)
      refine x_retI (np := 38) (x := 0) (by decide +kernel) (by decide) (Or.inr ⟨by decide +kernel, by omega, by omega⟩) ⟨_, rfl, (by decide), ?_⟩
      exact ⟨j1346, f1353, (by omega), (Bq.no m1322 c1352 (by omega) (by omega) rfl (by omega) (by omega)), (fun b u e1 e2 => by rw [← e1, show u = u1439 by omega]; exact (q1441.trans q1442))⟩
  have b1443 := jB (e := 2) 0 hJ rg_1_2_0_1 (by omega) (by omega)
  exact p1320 _ 2147483648 2147483648 147573952589676412928 h (Nat.lt_succ_self _) (by omega) (by omega) (by omega) hJ (Fr.refl _ _) (Bq.zero rfl)
set_option maxHeartbeats 0 in
/-- LentNames$Tape.takesNumber(II)I -/
theorem c79_1 {sc : Nat × Nat} {d a1 a2 : Nat} {h : xh} {tB : Nat → Nat} {tN : Nat} (hJ : J h) (ba1 : 2147483648 ≤ a1 ∧ a1 ≤ 2147483659) (ba2 : 2147483659 ≤ a2 ∧ a2 ≤ 2147483659) (hT : Tp tB tN h) : X sc 79 (d + 1) (xI fun r h' => J h' ∧ Fr 33 h h' ∧ (2147483647 ≤ r ∧ r ≤ 2147483659) ∧ (r ≤ a2) ∧ (2147483648 ≤ r → h 1 2 + 1 ≤ h' 1 2) ∧ (r = 2147483647 → h' 1 2 = h 1 2) ∧ Nr tB tN a1 a2 (h 1 2) r (h' 1 2)) 0 0 0 [x_r 1, iv_c a1, iv_c a2, 147573952589676412928, 147573952589676412928] [] h := by
  have la1 : a1 < 4294967296 := by omega
  have la2 : a2 < 4294967296 := by omega
  have hF := Fr.refl 33 h
  refine x_const (np := 1) (x := 9223372039002259456) (a := 2147483648) (by decide +kernel) (by decide) (by decide) ?_
  refine x_istore (np := 2) (x := 3) (lo' := [x_r 1, iv_c a1, iv_c a2, iv_c 2147483648, 147573952589676412928]) (by decide +kernel) (by decide) (Nat.le_of_ble_eq_true rfl) rfl ?_
  refine x_const (np := 3) (x := 9223372039002259456) (a := 2147483648) (by decide +kernel) (by decide) (by decide) ?_
  refine x_istore (np := 5) (x := 4) (lo' := [x_r 1, iv_c a1, iv_c a2, iv_c 2147483648, iv_c 2147483648]) (by decide +kernel) (by decide) (Nat.le_of_ble_eq_true rfl) rfl ?_
  refine x_iload (np := 7) (x := 4) (by decide +kernel) rfl (by decide) ?_
  refine x_const (np := 8) (x := 9223372051887161347) (a := 2147483651) (by decide +kernel) (by decide) (by decide) ?_
  refine x_icmp (k := 4) (tg := 54) (np := 11) (by decide +kernel) (by decide) (by decide) (by decide) (fun q1 => ?_) (fun q2 => ?_)
  · have q1 : 2147483651 < 2147483648 := q1
    exfalso; omega
  have q2 : ¬ (2147483651 < 2147483648) := q2
  refine x_aload (np := 12) (x := 0) (by decide +kernel) rfl (x_nc_le (by decide)) ?_
  refine x_aload (np := 13) (x := 0) (by decide +kernel) rfl (x_nc_le (by decide)) ?_
  have b3 := jB (e := 2) 0 hJ rg_1_2_0_1 (by omega) (by omega)
  refine x_getC (np := 16) (x := 450) (f := 2) (q := (h 1 2)) (by decide +kernel) (by decide) (by decide +kernel) rfl (fun l4 => ?_)
  refine x_iload (np := 18) (x := 4) (by decide +kernel) rfl (by decide) ?_
  refine x_iadd (np := 19) (x := 0) (v := (h 1 2)) (by decide +kernel) l4 (by decide) (by omega) (by omega) ?_
  refine x_nI (t := 6) (mj := 81) (n := 2) (rc := 8) (ml := 2) (nr := 0) (np := 22) (as := [x_r 1, iv_c (h 1 2)]) (rest := []) (lo1 := [x_r 1, iv_c (h 1 2)]) (by decide +kernel) (by decide) (by decide +kernel) (x_rb_of (by decide +kernel)) rfl rfl (x_wr (by decide) (x_wi l4 x_wn)) x_wn (by decide) rfl ?_
  refine x_iload (np := 1) (x := 1) (by decide +kernel) rfl l4 ?_
  refine x_aload (np := 2) (x := 0) (by decide +kernel) rfl (x_nc_le (by decide)) ?_
  have b5 := jB (e := 1) 0 hJ rg_1_1_0_1 (by omega) (by omega)
  refine x_getC (np := 5) (x := 449) (f := 1) (q := (h 1 1)) (by decide +kernel) (by decide) (by decide +kernel) rfl (fun l6 => ?_)
  refine x_icmp (k := 3) (tg := 17) (np := 8) (by decide +kernel) (by decide) l4 l6 (fun q7 => ?_) (fun q8 => ?_)
  · have q7 : (h 1 1) ≤ (h 1 2) := q7
    refine x_const (np := 18) (x := 9223372034707292159) (a := 2147483647) (by decide +kernel) (by decide) (by decide) ?_
    refine x_retI (np := 19) (x := 0) (by decide +kernel) (by decide) (Or.inl (by decide +kernel)) ⟨_, rfl, (by decide), ?_⟩
    refine x_nI (t := 0) (mj := 82) (n := 1) (rc := 0) (ml := 1) (nr := 0) (np := 25) (as := [iv_c 2147483647]) (rest := []) (lo1 := [iv_c 2147483647]) (by decide +kernel) (by decide) (by decide +kernel) (Or.inl rfl) rfl rfl (x_wi (by decide) x_wn) x_wn (by decide) rfl ?_
    refine x_iload (np := 1) (x := 0) (by decide +kernel) rfl (by decide) ?_
    refine x_const (np := 3) (x := 9223372245160689712) (a := 2147483696) (by decide +kernel) (by decide) (by decide) ?_
    refine x_icmp (k := 2) (tg := 16) (np := 6) (by decide +kernel) (by decide) (by decide) (by decide) (fun q9 => ?_) (fun q10 => ?_)
    · have q9 : 2147483647 < 2147483696 := q9
      refine x_const (np := 17) (x := 9223372039002259456) (a := 2147483648) (by decide +kernel) (by decide) (by decide) ?_
      refine x_retI (np := 18) (x := 0) (by decide +kernel) (by decide) (Or.inr ⟨by decide +kernel, by omega, by omega⟩) ⟨_, rfl, (by decide), ?_⟩
      refine x_ifz (k := 0) (tg := 54) (np := 28) (by decide +kernel) (by decide) (by decide) (fun q11 => ?_) (fun q12 => ?_)
      · have q11 : 2147483648 = 2147483648 := q11
        refine x_iload (np := 56) (x := 4) (by decide +kernel) rfl (by decide) ?_
        refine x_ifz (k := 0) (tg := 75) (np := 59) (by decide +kernel) (by decide) (by decide) (fun q13 => ?_) (fun q14 => ?_)
        · have q13 : 2147483648 = 2147483648 := q13
          refine x_const (np := 76) (x := 9223372034707292159) (a := 2147483647) (by decide +kernel) (by decide) (by decide) ?_
          have z15 := hT.1
          have z16 := hT.1
          have g17 : ¬ Dg tB tN (h 1 2 + 0) := fun z => by have z1 := z.1; have z2 := z.2.1; have z3 := z.2.2; omega
          refine x_retI (np := 77) (x := 0) (by decide +kernel) (by decide) (Or.inl (by decide +kernel)) ⟨_, rfl, (by decide), ?_⟩
          exact ⟨hJ, hF, (by omega), (by omega), (fun z => by omega), (fun z => by omega), (Nr.nob (by omega) (Nb.mk0 g17))⟩
        have q14 : ¬ (2147483648 = 2147483648) := q14
        exfalso; omega
      have q12 : ¬ (2147483648 = 2147483648) := q12
      exfalso; omega
    have q10 : ¬ (2147483647 < 2147483696) := q10
    exfalso; omega
  have q8 : ¬ ((h 1 1) ≤ (h 1 2)) := q8
  refine x_aload (np := 9) (x := 0) (by decide +kernel) rfl (x_nc_le (by decide)) ?_
  have q18 : h 1 0 = 2 := by have z := jB (e := 0) 0 hJ rg_1_0_0_1 (by decide) (by decide); omega
  refine x_getR (np := 12) (x := 448) (f := 0) (q := 2) (by decide +kernel) (by decide) (by decide +kernel) q18 ?_
  refine x_iload (np := 13) (x := 1) (by decide +kernel) rfl l4 ?_
  obtain ⟨u19, q20⟩ : ∃ z, (h 1 2) = 2147483648 + z := ⟨(h 1 2) - 2147483648, by omega⟩
  refine x_aldC (np := 14) (x := 0) (n := 400) (i := u19) (q := (h 2 u19)) (by decide +kernel) (by decide +kernel) (by omega) (by omega) (by decide) rfl (fun l21 => ?_)
  refine x_goto (np := 17) (x := 18) (by decide +kernel) ?_
  refine x_retI (np := 19) (x := 0) (by decide +kernel) l21 (Or.inl (by decide +kernel)) ⟨_, rfl, l21, ?_⟩
  refine x_nI (t := 0) (mj := 82) (n := 1) (rc := 0) (ml := 1) (nr := 0) (np := 25) (as := [iv_c (h 2 u19)]) (rest := []) (lo1 := [iv_c (h 2 u19)]) (by decide +kernel) (by decide) (by decide +kernel) (Or.inl rfl) rfl rfl (x_wi l21 x_wn) x_wn (by decide) rfl ?_
  refine x_iload (np := 1) (x := 0) (by decide +kernel) rfl l21 ?_
  refine x_const (np := 3) (x := 9223372245160689712) (a := 2147483696) (by decide +kernel) (by decide) (by decide) ?_
  refine x_icmp (k := 2) (tg := 16) (np := 6) (by decide +kernel) (by decide) l21 (by decide) (fun q22 => ?_) (fun q23 => ?_)
  · have q22 : (h 2 u19) < 2147483696 := q22
    refine x_const (np := 17) (x := 9223372039002259456) (a := 2147483648) (by decide +kernel) (by decide) (by decide) ?_
    refine x_retI (np := 18) (x := 0) (by decide +kernel) (by decide) (Or.inr ⟨by decide +kernel, by omega, by omega⟩) ⟨_, rfl, (by decide), ?_⟩
    refine x_ifz (k := 0) (tg := 54) (np := 28) (by decide +kernel) (by decide) (by decide) (fun q24 => ?_) (fun q25 => ?_)
    · have q24 : 2147483648 = 2147483648 := q24
      refine x_iload (np := 56) (x := 4) (by decide +kernel) rfl (by decide) ?_
      refine x_ifz (k := 0) (tg := 75) (np := 59) (by decide +kernel) (by decide) (by decide) (fun q26 => ?_) (fun q27 => ?_)
      · have q26 : 2147483648 = 2147483648 := q26
        refine x_const (np := 76) (x := 9223372034707292159) (a := 2147483647) (by decide +kernel) (by decide) (by decide) ?_
        have z28 := hT.1
        have z29 := hT.1
        have z30 := Tp.at (p := (h 1 2 + 0)) (u := u19) hT (by omega) (by omega)
        have g31 : ¬ Dg tB tN (h 1 2 + 0) := fun z => by have z1 := z.1; have z2 := z.2.1; have z3 := z.2.2; omega
        refine x_retI (np := 77) (x := 0) (by decide +kernel) (by decide) (Or.inl (by decide +kernel)) ⟨_, rfl, (by decide), ?_⟩
        exact ⟨hJ, hF, (by omega), (by omega), (fun z => by omega), (fun z => by omega), (Nr.nob (by omega) (Nb.mk0 g31))⟩
      have q27 : ¬ (2147483648 = 2147483648) := q27
      exfalso; omega
    have q25 : ¬ (2147483648 = 2147483648) := q25
    exfalso; omega
  have q23 : ¬ ((h 2 u19) < 2147483696) := q23
  refine x_iload (np := 7) (x := 0) (by decide +kernel) rfl l21 ?_
  refine x_const (np := 9) (x := 9223372283815395385) (a := 2147483705) (by decide +kernel) (by decide) (by decide) ?_
  refine x_icmp (k := 4) (tg := 16) (np := 12) (by decide +kernel) (by decide) l21 (by decide) (fun q32 => ?_) (fun q33 => ?_)
  · have q32 : 2147483705 < (h 2 u19) := q32
    refine x_const (np := 17) (x := 9223372039002259456) (a := 2147483648) (by decide +kernel) (by decide) (by decide) ?_
    refine x_retI (np := 18) (x := 0) (by decide +kernel) (by decide) (Or.inr ⟨by decide +kernel, by omega, by omega⟩) ⟨_, rfl, (by decide), ?_⟩
    refine x_ifz (k := 0) (tg := 54) (np := 28) (by decide +kernel) (by decide) (by decide) (fun q34 => ?_) (fun q35 => ?_)
    · have q34 : 2147483648 = 2147483648 := q34
      refine x_iload (np := 56) (x := 4) (by decide +kernel) rfl (by decide) ?_
      refine x_ifz (k := 0) (tg := 75) (np := 59) (by decide +kernel) (by decide) (by decide) (fun q36 => ?_) (fun q37 => ?_)
      · have q36 : 2147483648 = 2147483648 := q36
        refine x_const (np := 76) (x := 9223372034707292159) (a := 2147483647) (by decide +kernel) (by decide) (by decide) ?_
        have z38 := hT.1
        have z39 := hT.1
        have z40 := Tp.at (p := (h 1 2 + 0)) (u := u19) hT (by omega) (by omega)
        have g41 : ¬ Dg tB tN (h 1 2 + 0) := fun z => by have z1 := z.1; have z2 := z.2.1; have z3 := z.2.2; omega
        refine x_retI (np := 77) (x := 0) (by decide +kernel) (by decide) (Or.inl (by decide +kernel)) ⟨_, rfl, (by decide), ?_⟩
        exact ⟨hJ, hF, (by omega), (by omega), (fun z => by omega), (fun z => by omega), (Nr.nob (by omega) (Nb.mk0 g41))⟩
      have q37 : ¬ (2147483648 = 2147483648) := q37
      exfalso; omega
    have q35 : ¬ (2147483648 = 2147483648) := q35
    exfalso; omega
  have q33 : ¬ (2147483705 < (h 2 u19)) := q33
  refine x_const (np := 13) (x := 9223372043297226753) (a := 2147483649) (by decide +kernel) (by decide) (by decide) ?_
  refine x_goto (np := 16) (x := 17) (by decide +kernel) ?_
  refine x_retI (np := 18) (x := 0) (by decide +kernel) (by decide) (Or.inr ⟨by decide +kernel, by omega, by omega⟩) ⟨_, rfl, (by decide), ?_⟩
  refine x_ifz (k := 0) (tg := 54) (np := 28) (by decide +kernel) (by decide) (by decide) (fun q42 => ?_) (fun q43 => ?_)
  · have q42 : 2147483649 = 2147483648 := q42
    exfalso; omega
  have q43 : ¬ (2147483649 = 2147483648) := q43
  refine x_iload (np := 29) (x := 3) (by decide +kernel) rfl (by decide) ?_
  refine x_const (np := 31) (x := 9223372081951932426) (a := 2147483658) (by decide +kernel) (by decide) (by decide) ?_
  refine x_imul (np := 32) (x := 0) (i := 0) (j := 10) (v := 2147483648) (by decide +kernel) (by omega) (by omega) (by omega) (by omega) (by decide) (by decide) ?_
  refine x_aload (np := 33) (x := 0) (by decide +kernel) rfl (x_nc_le (by decide)) ?_
  refine x_aload (np := 34) (x := 0) (by decide +kernel) rfl (x_nc_le (by decide)) ?_
  refine x_getC (np := 37) (x := 450) (f := 2) (q := (h 1 2)) (by decide +kernel) (by decide) (by decide +kernel) rfl (fun l45 => ?_)
  refine x_iload (np := 39) (x := 4) (by decide +kernel) rfl (by decide) ?_
  refine x_iadd (np := 40) (x := 0) (v := (h 1 2)) (by decide +kernel) l4 (by decide) (by omega) (by omega) ?_
  refine x_nI (t := 6) (mj := 81) (n := 2) (rc := 8) (ml := 2) (nr := 1) (np := 43) (as := [x_r 1, iv_c (h 1 2)]) (rest := [iv_c 2147483648]) (lo1 := [x_r 1, iv_c (h 1 2)]) (by decide +kernel) (by decide) (by decide +kernel) (x_rb_of (by decide +kernel)) rfl rfl (x_wr (by decide) (x_wi l4 x_wn)) (x_wi (by decide) x_wn) (by decide) rfl ?_
  refine x_iload (np := 1) (x := 1) (by decide +kernel) rfl l4 ?_
  refine x_aload (np := 2) (x := 0) (by decide +kernel) rfl (x_nc_le (by decide)) ?_
  refine x_getC (np := 5) (x := 449) (f := 1) (q := (h 1 1)) (by decide +kernel) (by decide) (by decide +kernel) rfl (fun l46 => ?_)
  refine x_icmp (k := 3) (tg := 17) (np := 8) (by decide +kernel) (by decide) l4 l6 (fun q47 => ?_) (fun q48 => ?_)
  · have q47 : (h 1 1) ≤ (h 1 2) := q47
    exfalso; omega
  have q48 : ¬ ((h 1 1) ≤ (h 1 2)) := q48
  refine x_aload (np := 9) (x := 0) (by decide +kernel) rfl (x_nc_le (by decide)) ?_
  have q49 : h 1 0 = 2 := by have z := jB (e := 0) 0 hJ rg_1_0_0_1 (by decide) (by decide); omega
  refine x_getR (np := 12) (x := 448) (f := 0) (q := 2) (by decide +kernel) (by decide) (by decide +kernel) q49 ?_
  refine x_iload (np := 13) (x := 1) (by decide +kernel) rfl l4 ?_
  refine x_aldC (np := 14) (x := 0) (n := 400) (i := u19) (q := (h 2 u19)) (by decide +kernel) (by decide +kernel) (by omega) (by omega) (by decide) rfl (fun l50 => ?_)
  refine x_goto (np := 17) (x := 18) (by decide +kernel) ?_
  refine x_retI (np := 19) (x := 0) (by decide +kernel) l21 (Or.inl (by decide +kernel)) ⟨_, rfl, l21, ?_⟩
  refine x_iadd (np := 44) (x := 0) (v := (h 2 u19)) (by decide +kernel) (by decide) l21 (by omega) (by omega) ?_
  refine x_const (np := 46) (x := 9223372245160689712) (a := 2147483696) (by decide +kernel) (by decide) (by decide) ?_
  obtain ⟨v51, q52⟩ : ∃ z, z + 2147483696 = (h 2 u19) + 2147483648 := ⟨(h 2 u19) + 2147483648 - 2147483696, by omega⟩
  refine x_isub (np := 47) (x := 0) (v := v51) (by decide +kernel) l21 (by decide) (by omega) (by omega) ?_
  refine x_istore (np := 48) (x := 3) (lo' := [x_r 1, iv_c a1, iv_c a2, iv_c v51, iv_c 2147483648]) (by decide +kernel) (by omega) (Nat.le_of_ble_eq_true rfl) rfl ?_
  refine x_iinc (np := 51) (i := 4) (j := 2147483649) (v := 2147483649) (lo' := [x_r 1, iv_c a1, iv_c a2, iv_c v51, iv_c 2147483649]) (by decide +kernel) (by decide) (by decide) rfl (by decide) (by omega) (by omega) rfl ?_
  refine x_goto (np := 54) (x := 5) (by decide +kernel) ?_
  refine x_iload (np := 7) (x := 4) (by decide +kernel) rfl (by decide) ?_
  refine x_const (np := 8) (x := 9223372051887161347) (a := 2147483651) (by decide +kernel) (by decide) (by decide) ?_
  refine x_icmp (k := 4) (tg := 54) (np := 11) (by decide +kernel) (by decide) (by decide) (by decide) (fun q53 => ?_) (fun q54 => ?_)
  · have q53 : 2147483651 < 2147483649 := q53
    exfalso; omega
  have q54 : ¬ (2147483651 < 2147483649) := q54
  refine x_aload (np := 12) (x := 0) (by decide +kernel) rfl (x_nc_le (by decide)) ?_
  refine x_aload (np := 13) (x := 0) (by decide +kernel) rfl (x_nc_le (by decide)) ?_
  refine x_getC (np := 16) (x := 450) (f := 2) (q := (h 1 2)) (by decide +kernel) (by decide) (by decide +kernel) rfl (fun l55 => ?_)
  refine x_iload (np := 18) (x := 4) (by decide +kernel) rfl (by decide) ?_
  refine x_iadd (np := 19) (x := 0) (v := (1 + (h 1 2))) (by decide +kernel) l4 (by decide) (by omega) (by omega) ?_
  refine x_nI (t := 6) (mj := 81) (n := 2) (rc := 8) (ml := 2) (nr := 0) (np := 22) (as := [x_r 1, iv_c (1 + (h 1 2))]) (rest := []) (lo1 := [x_r 1, iv_c (1 + (h 1 2))]) (by decide +kernel) (by decide) (by decide +kernel) (x_rb_of (by decide +kernel)) rfl rfl (x_wr (by decide) (x_wi (by omega) x_wn)) x_wn (by decide) rfl ?_
  refine x_iload (np := 1) (x := 1) (by decide +kernel) rfl (by omega) ?_
  refine x_aload (np := 2) (x := 0) (by decide +kernel) rfl (x_nc_le (by decide)) ?_
  refine x_getC (np := 5) (x := 449) (f := 1) (q := (h 1 1)) (by decide +kernel) (by decide) (by decide +kernel) rfl (fun l56 => ?_)
  refine x_icmp (k := 3) (tg := 17) (np := 8) (by decide +kernel) (by decide) (by omega) l6 (fun q57 => ?_) (fun q58 => ?_)
  · have q57 : (h 1 1) ≤ (1 + (h 1 2)) := q57
    refine x_const (np := 18) (x := 9223372034707292159) (a := 2147483647) (by decide +kernel) (by decide) (by decide) ?_
    refine x_retI (np := 19) (x := 0) (by decide +kernel) (by decide) (Or.inl (by decide +kernel)) ⟨_, rfl, (by decide), ?_⟩
    refine x_nI (t := 0) (mj := 82) (n := 1) (rc := 0) (ml := 1) (nr := 0) (np := 25) (as := [iv_c 2147483647]) (rest := []) (lo1 := [iv_c 2147483647]) (by decide +kernel) (by decide) (by decide +kernel) (Or.inl rfl) rfl rfl (x_wi (by decide) x_wn) x_wn (by decide) rfl ?_
    refine x_iload (np := 1) (x := 0) (by decide +kernel) rfl (by decide) ?_
    refine x_const (np := 3) (x := 9223372245160689712) (a := 2147483696) (by decide +kernel) (by decide) (by decide) ?_
    refine x_icmp (k := 2) (tg := 16) (np := 6) (by decide +kernel) (by decide) (by decide) (by decide) (fun q59 => ?_) (fun q60 => ?_)
    · have q59 : 2147483647 < 2147483696 := q59
      refine x_const (np := 17) (x := 9223372039002259456) (a := 2147483648) (by decide +kernel) (by decide) (by decide) ?_
      refine x_retI (np := 18) (x := 0) (by decide +kernel) (by decide) (Or.inr ⟨by decide +kernel, by omega, by omega⟩) ⟨_, rfl, (by decide), ?_⟩
      refine x_ifz (k := 0) (tg := 54) (np := 28) (by decide +kernel) (by decide) (by decide) (fun q61 => ?_) (fun q62 => ?_)
      · have q61 : 2147483648 = 2147483648 := q61
        refine x_iload (np := 56) (x := 4) (by decide +kernel) rfl (by decide) ?_
        refine x_ifz (k := 0) (tg := 75) (np := 59) (by decide +kernel) (by decide) (by decide) (fun q63 => ?_) (fun q64 => ?_)
        · have q63 : 2147483649 = 2147483648 := q63
          exfalso; omega
        have q64 : ¬ (2147483649 = 2147483648) := q64
        refine x_iload (np := 61) (x := 4) (by decide +kernel) rfl (by decide) ?_
        refine x_const (np := 62) (x := 9223372051887161347) (a := 2147483651) (by decide +kernel) (by decide) (by decide) ?_
        refine x_icmp (k := 4) (tg := 75) (np := 65) (by decide +kernel) (by decide) (by decide) (by decide) (fun q65 => ?_) (fun q66 => ?_)
        · have q65 : 2147483651 < 2147483649 := q65
          exfalso; omega
        have q66 : ¬ (2147483651 < 2147483649) := q66
        refine x_iload (np := 66) (x := 3) (by decide +kernel) rfl (by omega) ?_
        refine x_iload (np := 67) (x := 1) (by decide +kernel) rfl la1 ?_
        refine x_icmp (k := 2) (tg := 75) (np := 70) (by decide +kernel) (by decide) (by omega) la1 (fun q67 => ?_) (fun q68 => ?_)
        · have q67 : v51 < a1 := q67
          refine x_const (np := 76) (x := 9223372034707292159) (a := 2147483647) (by decide +kernel) (by decide) (by decide) ?_
          have z69 := hT.1
          have z70 := Tp.at (p := (h 1 2 + 0)) (u := u19) hT (by omega) (by omega)
          have g71 : Dg tB tN (h 1 2 + 0) := ⟨by omega, by omega, by omega⟩
          have z72 := hT.1
          have g73 : ¬ Dg tB tN (h 1 2 + 1) := fun z => by have z1 := z.1; have z2 := z.2.1; have z3 := z.2.2; omega
          have z74 := nv1 (B := tB) (p := h 1 2)
          refine x_retI (np := 77) (x := 0) (by decide +kernel) (by decide) (Or.inl (by decide +kernel)) ⟨_, rfl, (by decide), ?_⟩
          exact ⟨hJ, hF, (by omega), (by omega), (fun z => by omega), (fun z => by omega), (Nr.nor (by omega) (Nu.mk1 g71 g73) (by omega))⟩
        have q68 : ¬ (v51 < a1) := q68
        refine x_iload (np := 71) (x := 3) (by decide +kernel) rfl (by omega) ?_
        refine x_iload (np := 72) (x := 2) (by decide +kernel) rfl la2 ?_
        refine x_icmp (k := 5) (tg := 77) (np := 75) (by decide +kernel) (by decide) (by omega) la2 (fun q75 => ?_) (fun q76 => ?_)
        · have q75 : v51 ≤ a2 := q75
          refine x_aload (np := 78) (x := 0) (by decide +kernel) rfl (x_nc_le (by decide)) ?_
          refine x_aload (np := 79) (x := 0) (by decide +kernel) rfl (x_nc_le (by decide)) ?_
          refine x_getC (np := 82) (x := 450) (f := 2) (q := (h 1 2)) (by decide +kernel) (by decide) (by decide +kernel) rfl (fun l77 => ?_)
          refine x_iload (np := 84) (x := 4) (by decide +kernel) rfl (by decide) ?_
          refine x_iadd (np := 85) (x := 0) (v := (1 + (h 1 2))) (by decide +kernel) l4 (by decide) (by omega) (by omega) ?_
          refine x_cV (t := 6) (mj := 80) (n := 2) (rc := 8) (ml := 2) (nr := 0) (np := 88) (as := [x_r 1, iv_c (1 + (h 1 2))]) (rest := []) (lo1 := [x_r 1, iv_c (1 + (h 1 2))]) (by decide +kernel) (by decide) (by decide +kernel) (x_rb_of (by decide +kernel)) rfl rfl (x_wr (by decide) (x_wi (by omega) x_wn)) x_wn (by decide) rfl (c80_1 hJ  (by omega) hT) (fun h81 q80 => ?_)
          obtain ⟨j82, f83, c86, c87⟩ := q80
          have f88 := Fr.trans hF f83 (by decide)
          have b89 := jB (e := 2) 0 j82 rg_1_2_0_1 (by omega) (by omega)
          refine x_iload (np := 89) (x := 3) (by decide +kernel) rfl (by omega) ?_
          have z90 := hT.1
          have z91 := Tp.at (p := (h 1 2 + 0)) (u := u19) hT (by omega) (by omega)
          have g92 : Dg tB tN (h 1 2 + 0) := ⟨by omega, by omega, by omega⟩
          have z93 := hT.1
          have g94 : ¬ Dg tB tN (h 1 2 + 1) := fun z => by have z1 := z.1; have z2 := z.2.1; have z3 := z.2.2; omega
          have z95 := nv1 (B := tB) (p := h 1 2)
          refine x_retI (np := 90) (x := 0) (by decide +kernel) (by omega) (Or.inl (by decide +kernel)) ⟨_, rfl, (by omega), ?_⟩
          exact ⟨j82, f88, (by omega), (by omega), (fun z => by omega), (fun z => by omega), (Nr.yes (Nu.mk1 g92 g94) (by omega) (by omega) (by omega) c87 (by omega))⟩
        have q76 : ¬ (v51 ≤ a2) := q76
        exfalso; omega
      have q62 : ¬ (2147483648 = 2147483648) := q62
      exfalso; omega
    have q60 : ¬ (2147483647 < 2147483696) := q60
    exfalso; omega
  have q58 : ¬ ((h 1 1) ≤ (1 + (h 1 2))) := q58
  refine x_aload (np := 9) (x := 0) (by decide +kernel) rfl (x_nc_le (by decide)) ?_
  have q96 : h 1 0 = 2 := by have z := jB (e := 0) 0 hJ rg_1_0_0_1 (by decide) (by decide); omega
  refine x_getR (np := 12) (x := 448) (f := 0) (q := 2) (by decide +kernel) (by decide) (by decide +kernel) q96 ?_
  refine x_iload (np := 13) (x := 1) (by decide +kernel) rfl (by omega) ?_
  refine x_aldC (np := 14) (x := 0) (n := 400) (i := (1 + u19)) (q := (h 2 (1 + u19))) (by decide +kernel) (by decide +kernel) (by omega) (by omega) (by decide) rfl (fun l97 => ?_)
  refine x_goto (np := 17) (x := 18) (by decide +kernel) ?_
  refine x_retI (np := 19) (x := 0) (by decide +kernel) l97 (Or.inl (by decide +kernel)) ⟨_, rfl, l97, ?_⟩
  refine x_nI (t := 0) (mj := 82) (n := 1) (rc := 0) (ml := 1) (nr := 0) (np := 25) (as := [iv_c (h 2 (1 + u19))]) (rest := []) (lo1 := [iv_c (h 2 (1 + u19))]) (by decide +kernel) (by decide) (by decide +kernel) (Or.inl rfl) rfl rfl (x_wi l97 x_wn) x_wn (by decide) rfl ?_
  refine x_iload (np := 1) (x := 0) (by decide +kernel) rfl l97 ?_
  refine x_const (np := 3) (x := 9223372245160689712) (a := 2147483696) (by decide +kernel) (by decide) (by decide) ?_
  refine x_icmp (k := 2) (tg := 16) (np := 6) (by decide +kernel) (by decide) l97 (by decide) (fun q98 => ?_) (fun q99 => ?_)
  · have q98 : (h 2 (1 + u19)) < 2147483696 := q98
    refine x_const (np := 17) (x := 9223372039002259456) (a := 2147483648) (by decide +kernel) (by decide) (by decide) ?_
    refine x_retI (np := 18) (x := 0) (by decide +kernel) (by decide) (Or.inr ⟨by decide +kernel, by omega, by omega⟩) ⟨_, rfl, (by decide), ?_⟩
    refine x_ifz (k := 0) (tg := 54) (np := 28) (by decide +kernel) (by decide) (by decide) (fun q100 => ?_) (fun q101 => ?_)
    · have q100 : 2147483648 = 2147483648 := q100
      refine x_iload (np := 56) (x := 4) (by decide +kernel) rfl (by decide) ?_
      refine x_ifz (k := 0) (tg := 75) (np := 59) (by decide +kernel) (by decide) (by decide) (fun q102 => ?_) (fun q103 => ?_)
      · have q102 : 2147483649 = 2147483648 := q102
        exfalso; omega
      have q103 : ¬ (2147483649 = 2147483648) := q103
      refine x_iload (np := 61) (x := 4) (by decide +kernel) rfl (by decide) ?_
      refine x_const (np := 62) (x := 9223372051887161347) (a := 2147483651) (by decide +kernel) (by decide) (by decide) ?_
      refine x_icmp (k := 4) (tg := 75) (np := 65) (by decide +kernel) (by decide) (by decide) (by decide) (fun q104 => ?_) (fun q105 => ?_)
      · have q104 : 2147483651 < 2147483649 := q104
        exfalso; omega
      have q105 : ¬ (2147483651 < 2147483649) := q105
      refine x_iload (np := 66) (x := 3) (by decide +kernel) rfl (by omega) ?_
      refine x_iload (np := 67) (x := 1) (by decide +kernel) rfl la1 ?_
      refine x_icmp (k := 2) (tg := 75) (np := 70) (by decide +kernel) (by decide) (by omega) la1 (fun q106 => ?_) (fun q107 => ?_)
      · have q106 : v51 < a1 := q106
        refine x_const (np := 76) (x := 9223372034707292159) (a := 2147483647) (by decide +kernel) (by decide) (by decide) ?_
        have z108 := hT.1
        have z109 := Tp.at (p := (h 1 2 + 0)) (u := u19) hT (by omega) (by omega)
        have g110 : Dg tB tN (h 1 2 + 0) := ⟨by omega, by omega, by omega⟩
        have z111 := hT.1
        have z112 := Tp.at (p := (h 1 2 + 1)) (u := (1 + u19)) hT (by omega) (by omega)
        have g113 : ¬ Dg tB tN (h 1 2 + 1) := fun z => by have z1 := z.1; have z2 := z.2.1; have z3 := z.2.2; omega
        have z114 := nv1 (B := tB) (p := h 1 2)
        refine x_retI (np := 77) (x := 0) (by decide +kernel) (by decide) (Or.inl (by decide +kernel)) ⟨_, rfl, (by decide), ?_⟩
        exact ⟨hJ, hF, (by omega), (by omega), (fun z => by omega), (fun z => by omega), (Nr.nor (by omega) (Nu.mk1 g110 g113) (by omega))⟩
      have q107 : ¬ (v51 < a1) := q107
      refine x_iload (np := 71) (x := 3) (by decide +kernel) rfl (by omega) ?_
      refine x_iload (np := 72) (x := 2) (by decide +kernel) rfl la2 ?_
      refine x_icmp (k := 5) (tg := 77) (np := 75) (by decide +kernel) (by decide) (by omega) la2 (fun q115 => ?_) (fun q116 => ?_)
      · have q115 : v51 ≤ a2 := q115
        refine x_aload (np := 78) (x := 0) (by decide +kernel) rfl (x_nc_le (by decide)) ?_
        refine x_aload (np := 79) (x := 0) (by decide +kernel) rfl (x_nc_le (by decide)) ?_
        refine x_getC (np := 82) (x := 450) (f := 2) (q := (h 1 2)) (by decide +kernel) (by decide) (by decide +kernel) rfl (fun l117 => ?_)
        refine x_iload (np := 84) (x := 4) (by decide +kernel) rfl (by decide) ?_
        refine x_iadd (np := 85) (x := 0) (v := (1 + (h 1 2))) (by decide +kernel) l4 (by decide) (by omega) (by omega) ?_
        refine x_cV (t := 6) (mj := 80) (n := 2) (rc := 8) (ml := 2) (nr := 0) (np := 88) (as := [x_r 1, iv_c (1 + (h 1 2))]) (rest := []) (lo1 := [x_r 1, iv_c (1 + (h 1 2))]) (by decide +kernel) (by decide) (by decide +kernel) (x_rb_of (by decide +kernel)) rfl rfl (x_wr (by decide) (x_wi (by omega) x_wn)) x_wn (by decide) rfl (c80_1 hJ  (by omega) hT) (fun h121 q120 => ?_)
        obtain ⟨j122, f123, c126, c127⟩ := q120
        have f128 := Fr.trans hF f123 (by decide)
        have b129 := jB (e := 2) 0 j122 rg_1_2_0_1 (by omega) (by omega)
        refine x_iload (np := 89) (x := 3) (by decide +kernel) rfl (by omega) ?_
        have z130 := hT.1
        have z131 := Tp.at (p := (h 1 2 + 0)) (u := u19) hT (by omega) (by omega)
        have g132 : Dg tB tN (h 1 2 + 0) := ⟨by omega, by omega, by omega⟩
        have z133 := hT.1
        have z134 := Tp.at (p := (h 1 2 + 1)) (u := (1 + u19)) hT (by omega) (by omega)
        have g135 : ¬ Dg tB tN (h 1 2 + 1) := fun z => by have z1 := z.1; have z2 := z.2.1; have z3 := z.2.2; omega
        have z136 := nv1 (B := tB) (p := h 1 2)
        refine x_retI (np := 90) (x := 0) (by decide +kernel) (by omega) (Or.inl (by decide +kernel)) ⟨_, rfl, (by omega), ?_⟩
        exact ⟨j122, f128, (by omega), (by omega), (fun z => by omega), (fun z => by omega), (Nr.yes (Nu.mk1 g132 g135) (by omega) (by omega) (by omega) c127 (by omega))⟩
      have q116 : ¬ (v51 ≤ a2) := q116
      exfalso; omega
    have q101 : ¬ (2147483648 = 2147483648) := q101
    exfalso; omega
  have q99 : ¬ ((h 2 (1 + u19)) < 2147483696) := q99
  refine x_iload (np := 7) (x := 0) (by decide +kernel) rfl l97 ?_
  refine x_const (np := 9) (x := 9223372283815395385) (a := 2147483705) (by decide +kernel) (by decide) (by decide) ?_
  refine x_icmp (k := 4) (tg := 16) (np := 12) (by decide +kernel) (by decide) l97 (by decide) (fun q137 => ?_) (fun q138 => ?_)
  · have q137 : 2147483705 < (h 2 (1 + u19)) := q137
    refine x_const (np := 17) (x := 9223372039002259456) (a := 2147483648) (by decide +kernel) (by decide) (by decide) ?_
    refine x_retI (np := 18) (x := 0) (by decide +kernel) (by decide) (Or.inr ⟨by decide +kernel, by omega, by omega⟩) ⟨_, rfl, (by decide), ?_⟩
    refine x_ifz (k := 0) (tg := 54) (np := 28) (by decide +kernel) (by decide) (by decide) (fun q139 => ?_) (fun q140 => ?_)
    · have q139 : 2147483648 = 2147483648 := q139
      refine x_iload (np := 56) (x := 4) (by decide +kernel) rfl (by decide) ?_
      refine x_ifz (k := 0) (tg := 75) (np := 59) (by decide +kernel) (by decide) (by decide) (fun q141 => ?_) (fun q142 => ?_)
      · have q141 : 2147483649 = 2147483648 := q141
        exfalso; omega
      have q142 : ¬ (2147483649 = 2147483648) := q142
      refine x_iload (np := 61) (x := 4) (by decide +kernel) rfl (by decide) ?_
      refine x_const (np := 62) (x := 9223372051887161347) (a := 2147483651) (by decide +kernel) (by decide) (by decide) ?_
      refine x_icmp (k := 4) (tg := 75) (np := 65) (by decide +kernel) (by decide) (by decide) (by decide) (fun q143 => ?_) (fun q144 => ?_)
      · have q143 : 2147483651 < 2147483649 := q143
        exfalso; omega
      have q144 : ¬ (2147483651 < 2147483649) := q144
      refine x_iload (np := 66) (x := 3) (by decide +kernel) rfl (by omega) ?_
      refine x_iload (np := 67) (x := 1) (by decide +kernel) rfl la1 ?_
      refine x_icmp (k := 2) (tg := 75) (np := 70) (by decide +kernel) (by decide) (by omega) la1 (fun q145 => ?_) (fun q146 => ?_)
      · have q145 : v51 < a1 := q145
        refine x_const (np := 76) (x := 9223372034707292159) (a := 2147483647) (by decide +kernel) (by decide) (by decide) ?_
        have z147 := hT.1
        have z148 := Tp.at (p := (h 1 2 + 0)) (u := u19) hT (by omega) (by omega)
        have g149 : Dg tB tN (h 1 2 + 0) := ⟨by omega, by omega, by omega⟩
        have z150 := hT.1
        have z151 := Tp.at (p := (h 1 2 + 1)) (u := (1 + u19)) hT (by omega) (by omega)
        have g152 : ¬ Dg tB tN (h 1 2 + 1) := fun z => by have z1 := z.1; have z2 := z.2.1; have z3 := z.2.2; omega
        have z153 := nv1 (B := tB) (p := h 1 2)
        refine x_retI (np := 77) (x := 0) (by decide +kernel) (by decide) (Or.inl (by decide +kernel)) ⟨_, rfl, (by decide), ?_⟩
        exact ⟨hJ, hF, (by omega), (by omega), (fun z => by omega), (fun z => by omega), (Nr.nor (by omega) (Nu.mk1 g149 g152) (by omega))⟩
      have q146 : ¬ (v51 < a1) := q146
      refine x_iload (np := 71) (x := 3) (by decide +kernel) rfl (by omega) ?_
      refine x_iload (np := 72) (x := 2) (by decide +kernel) rfl la2 ?_
      refine x_icmp (k := 5) (tg := 77) (np := 75) (by decide +kernel) (by decide) (by omega) la2 (fun q154 => ?_) (fun q155 => ?_)
      · have q154 : v51 ≤ a2 := q154
        refine x_aload (np := 78) (x := 0) (by decide +kernel) rfl (x_nc_le (by decide)) ?_
        refine x_aload (np := 79) (x := 0) (by decide +kernel) rfl (x_nc_le (by decide)) ?_
        refine x_getC (np := 82) (x := 450) (f := 2) (q := (h 1 2)) (by decide +kernel) (by decide) (by decide +kernel) rfl (fun l156 => ?_)
        refine x_iload (np := 84) (x := 4) (by decide +kernel) rfl (by decide) ?_
        refine x_iadd (np := 85) (x := 0) (v := (1 + (h 1 2))) (by decide +kernel) l4 (by decide) (by omega) (by omega) ?_
        refine x_cV (t := 6) (mj := 80) (n := 2) (rc := 8) (ml := 2) (nr := 0) (np := 88) (as := [x_r 1, iv_c (1 + (h 1 2))]) (rest := []) (lo1 := [x_r 1, iv_c (1 + (h 1 2))]) (by decide +kernel) (by decide) (by decide +kernel) (x_rb_of (by decide +kernel)) rfl rfl (x_wr (by decide) (x_wi (by omega) x_wn)) x_wn (by decide) rfl (c80_1 hJ  (by omega) hT) (fun h160 q159 => ?_)
        obtain ⟨j161, f162, c165, c166⟩ := q159
        have f167 := Fr.trans hF f162 (by decide)
        have b168 := jB (e := 2) 0 j161 rg_1_2_0_1 (by omega) (by omega)
        refine x_iload (np := 89) (x := 3) (by decide +kernel) rfl (by omega) ?_
        have z169 := hT.1
        have z170 := Tp.at (p := (h 1 2 + 0)) (u := u19) hT (by omega) (by omega)
        have g171 : Dg tB tN (h 1 2 + 0) := ⟨by omega, by omega, by omega⟩
        have z172 := hT.1
        have z173 := Tp.at (p := (h 1 2 + 1)) (u := (1 + u19)) hT (by omega) (by omega)
        have g174 : ¬ Dg tB tN (h 1 2 + 1) := fun z => by have z1 := z.1; have z2 := z.2.1; have z3 := z.2.2; omega
        have z175 := nv1 (B := tB) (p := h 1 2)
        refine x_retI (np := 90) (x := 0) (by decide +kernel) (by omega) (Or.inl (by decide +kernel)) ⟨_, rfl, (by omega), ?_⟩
        exact ⟨j161, f167, (by omega), (by omega), (fun z => by omega), (fun z => by omega), (Nr.yes (Nu.mk1 g171 g174) (by omega) (by omega) (by omega) c166 (by omega))⟩
      have q155 : ¬ (v51 ≤ a2) := q155
      exfalso; omega
    have q140 : ¬ (2147483648 = 2147483648) := q140
    exfalso; omega
  have q138 : ¬ (2147483705 < (h 2 (1 + u19))) := q138
  refine x_const (np := 13) (x := 9223372043297226753) (a := 2147483649) (by decide +kernel) (by decide) (by decide) ?_
  refine x_goto (np := 16) (x := 17) (by decide +kernel) ?_
  refine x_retI (np := 18) (x := 0) (by decide +kernel) (by decide) (Or.inr ⟨by decide +kernel, by omega, by omega⟩) ⟨_, rfl, (by decide), ?_⟩
  refine x_ifz (k := 0) (tg := 54) (np := 28) (by decide +kernel) (by decide) (by decide) (fun q176 => ?_) (fun q177 => ?_)
  · have q176 : 2147483649 = 2147483648 := q176
    exfalso; omega
  have q177 : ¬ (2147483649 = 2147483648) := q177
  refine x_iload (np := 29) (x := 3) (by decide +kernel) rfl (by omega) ?_
  refine x_const (np := 31) (x := 9223372081951932426) (a := 2147483658) (by decide +kernel) (by decide) (by decide) ?_
  obtain ⟨u178, q179⟩ : ∃ z, v51 = 2147483648 + z := ⟨v51 - 2147483648, by omega⟩
  refine x_imul (np := 32) (x := 0) (i := u178) (j := 10) (v := (2147483648 + 10 * u178)) (by decide +kernel) (by omega) (by omega) (by omega) (by omega) (by omega) (by decide) ?_
  refine x_aload (np := 33) (x := 0) (by decide +kernel) rfl (x_nc_le (by decide)) ?_
  refine x_aload (np := 34) (x := 0) (by decide +kernel) rfl (x_nc_le (by decide)) ?_
  refine x_getC (np := 37) (x := 450) (f := 2) (q := (h 1 2)) (by decide +kernel) (by decide) (by decide +kernel) rfl (fun l181 => ?_)
  refine x_iload (np := 39) (x := 4) (by decide +kernel) rfl (by decide) ?_
  refine x_iadd (np := 40) (x := 0) (v := (1 + (h 1 2))) (by decide +kernel) l4 (by decide) (by omega) (by omega) ?_
  refine x_nI (t := 6) (mj := 81) (n := 2) (rc := 8) (ml := 2) (nr := 1) (np := 43) (as := [x_r 1, iv_c (1 + (h 1 2))]) (rest := [iv_c (2147483648 + 10 * u178)]) (lo1 := [x_r 1, iv_c (1 + (h 1 2))]) (by decide +kernel) (by decide) (by decide +kernel) (x_rb_of (by decide +kernel)) rfl rfl (x_wr (by decide) (x_wi (by omega) x_wn)) (x_wi (by omega) x_wn) (by decide) rfl ?_
  refine x_iload (np := 1) (x := 1) (by decide +kernel) rfl (by omega) ?_
  refine x_aload (np := 2) (x := 0) (by decide +kernel) rfl (x_nc_le (by decide)) ?_
  refine x_getC (np := 5) (x := 449) (f := 1) (q := (h 1 1)) (by decide +kernel) (by decide) (by decide +kernel) rfl (fun l182 => ?_)
  refine x_icmp (k := 3) (tg := 17) (np := 8) (by decide +kernel) (by decide) (by omega) l6 (fun q183 => ?_) (fun q184 => ?_)
  · have q183 : (h 1 1) ≤ (1 + (h 1 2)) := q183
    exfalso; omega
  have q184 : ¬ ((h 1 1) ≤ (1 + (h 1 2))) := q184
  refine x_aload (np := 9) (x := 0) (by decide +kernel) rfl (x_nc_le (by decide)) ?_
  have q185 : h 1 0 = 2 := by have z := jB (e := 0) 0 hJ rg_1_0_0_1 (by decide) (by decide); omega
  refine x_getR (np := 12) (x := 448) (f := 0) (q := 2) (by decide +kernel) (by decide) (by decide +kernel) q185 ?_
  refine x_iload (np := 13) (x := 1) (by decide +kernel) rfl (by omega) ?_
  refine x_aldC (np := 14) (x := 0) (n := 400) (i := (1 + u19)) (q := (h 2 (1 + u19))) (by decide +kernel) (by decide +kernel) (by omega) (by omega) (by decide) rfl (fun l186 => ?_)
  refine x_goto (np := 17) (x := 18) (by decide +kernel) ?_
  refine x_retI (np := 19) (x := 0) (by decide +kernel) l97 (Or.inl (by decide +kernel)) ⟨_, rfl, l97, ?_⟩
  refine x_iadd (np := 44) (x := 0) (v := (10 * u178 + (h 2 (1 + u19)))) (by decide +kernel) (by omega) l97 (by omega) (by omega) ?_
  refine x_const (np := 46) (x := 9223372245160689712) (a := 2147483696) (by decide +kernel) (by decide) (by decide) ?_
  obtain ⟨v187, q188⟩ : ∃ z, z + 2147483696 = (10 * u178 + (h 2 (1 + u19))) + 2147483648 := ⟨(10 * u178 + (h 2 (1 + u19))) + 2147483648 - 2147483696, by omega⟩
  refine x_isub (np := 47) (x := 0) (v := v187) (by decide +kernel) (by omega) (by decide) (by omega) (by omega) ?_
  refine x_istore (np := 48) (x := 3) (lo' := [x_r 1, iv_c a1, iv_c a2, iv_c v187, iv_c 2147483649]) (by decide +kernel) (by omega) (Nat.le_of_ble_eq_true rfl) rfl ?_
  refine x_iinc (np := 51) (i := 4) (j := 2147483649) (v := 2147483650) (lo' := [x_r 1, iv_c a1, iv_c a2, iv_c v187, iv_c 2147483650]) (by decide +kernel) (by decide) (by decide) rfl (by decide) (by omega) (by omega) rfl ?_
  refine x_goto (np := 54) (x := 5) (by decide +kernel) ?_
  refine x_iload (np := 7) (x := 4) (by decide +kernel) rfl (by decide) ?_
  refine x_const (np := 8) (x := 9223372051887161347) (a := 2147483651) (by decide +kernel) (by decide) (by decide) ?_
  refine x_icmp (k := 4) (tg := 54) (np := 11) (by decide +kernel) (by decide) (by decide) (by decide) (fun q189 => ?_) (fun q190 => ?_)
  · have q189 : 2147483651 < 2147483650 := q189
    exfalso; omega
  have q190 : ¬ (2147483651 < 2147483650) := q190
  refine x_aload (np := 12) (x := 0) (by decide +kernel) rfl (x_nc_le (by decide)) ?_
  refine x_aload (np := 13) (x := 0) (by decide +kernel) rfl (x_nc_le (by decide)) ?_
  refine x_getC (np := 16) (x := 450) (f := 2) (q := (h 1 2)) (by decide +kernel) (by decide) (by decide +kernel) rfl (fun l191 => ?_)
  refine x_iload (np := 18) (x := 4) (by decide +kernel) rfl (by decide) ?_
  refine x_iadd (np := 19) (x := 0) (v := (2 + (h 1 2))) (by decide +kernel) l4 (by decide) (by omega) (by omega) ?_
  refine x_nI (t := 6) (mj := 81) (n := 2) (rc := 8) (ml := 2) (nr := 0) (np := 22) (as := [x_r 1, iv_c (2 + (h 1 2))]) (rest := []) (lo1 := [x_r 1, iv_c (2 + (h 1 2))]) (by decide +kernel) (by decide) (by decide +kernel) (x_rb_of (by decide +kernel)) rfl rfl (x_wr (by decide) (x_wi (by omega) x_wn)) x_wn (by decide) rfl ?_
  refine x_iload (np := 1) (x := 1) (by decide +kernel) rfl (by omega) ?_
  refine x_aload (np := 2) (x := 0) (by decide +kernel) rfl (x_nc_le (by decide)) ?_
  refine x_getC (np := 5) (x := 449) (f := 1) (q := (h 1 1)) (by decide +kernel) (by decide) (by decide +kernel) rfl (fun l192 => ?_)
  refine x_icmp (k := 3) (tg := 17) (np := 8) (by decide +kernel) (by decide) (by omega) l6 (fun q193 => ?_) (fun q194 => ?_)
  · have q193 : (h 1 1) ≤ (2 + (h 1 2)) := q193
    refine x_const (np := 18) (x := 9223372034707292159) (a := 2147483647) (by decide +kernel) (by decide) (by decide) ?_
    refine x_retI (np := 19) (x := 0) (by decide +kernel) (by decide) (Or.inl (by decide +kernel)) ⟨_, rfl, (by decide), ?_⟩
    refine x_nI (t := 0) (mj := 82) (n := 1) (rc := 0) (ml := 1) (nr := 0) (np := 25) (as := [iv_c 2147483647]) (rest := []) (lo1 := [iv_c 2147483647]) (by decide +kernel) (by decide) (by decide +kernel) (Or.inl rfl) rfl rfl (x_wi (by decide) x_wn) x_wn (by decide) rfl ?_
    refine x_iload (np := 1) (x := 0) (by decide +kernel) rfl (by decide) ?_
    refine x_const (np := 3) (x := 9223372245160689712) (a := 2147483696) (by decide +kernel) (by decide) (by decide) ?_
    refine x_icmp (k := 2) (tg := 16) (np := 6) (by decide +kernel) (by decide) (by decide) (by decide) (fun q195 => ?_) (fun q196 => ?_)
    · have q195 : 2147483647 < 2147483696 := q195
      refine x_const (np := 17) (x := 9223372039002259456) (a := 2147483648) (by decide +kernel) (by decide) (by decide) ?_
      refine x_retI (np := 18) (x := 0) (by decide +kernel) (by decide) (Or.inr ⟨by decide +kernel, by omega, by omega⟩) ⟨_, rfl, (by decide), ?_⟩
      refine x_ifz (k := 0) (tg := 54) (np := 28) (by decide +kernel) (by decide) (by decide) (fun q197 => ?_) (fun q198 => ?_)
      · have q197 : 2147483648 = 2147483648 := q197
        refine x_iload (np := 56) (x := 4) (by decide +kernel) rfl (by decide) ?_
        refine x_ifz (k := 0) (tg := 75) (np := 59) (by decide +kernel) (by decide) (by decide) (fun q199 => ?_) (fun q200 => ?_)
        · have q199 : 2147483650 = 2147483648 := q199
          exfalso; omega
        have q200 : ¬ (2147483650 = 2147483648) := q200
        refine x_iload (np := 61) (x := 4) (by decide +kernel) rfl (by decide) ?_
        refine x_const (np := 62) (x := 9223372051887161347) (a := 2147483651) (by decide +kernel) (by decide) (by decide) ?_
        refine x_icmp (k := 4) (tg := 75) (np := 65) (by decide +kernel) (by decide) (by decide) (by decide) (fun q201 => ?_) (fun q202 => ?_)
        · have q201 : 2147483651 < 2147483650 := q201
          exfalso; omega
        have q202 : ¬ (2147483651 < 2147483650) := q202
        refine x_iload (np := 66) (x := 3) (by decide +kernel) rfl (by omega) ?_
        refine x_iload (np := 67) (x := 1) (by decide +kernel) rfl la1 ?_
        refine x_icmp (k := 2) (tg := 75) (np := 70) (by decide +kernel) (by decide) (by omega) la1 (fun q203 => ?_) (fun q204 => ?_)
        · have q203 : v187 < a1 := q203
          refine x_const (np := 76) (x := 9223372034707292159) (a := 2147483647) (by decide +kernel) (by decide) (by decide) ?_
          have z205 := hT.1
          have z206 := Tp.at (p := (h 1 2 + 0)) (u := u19) hT (by omega) (by omega)
          have g207 : Dg tB tN (h 1 2 + 0) := ⟨by omega, by omega, by omega⟩
          have z208 := Tp.at (p := (h 1 2 + 1)) (u := (1 + u19)) hT (by omega) (by omega)
          have g209 : Dg tB tN (h 1 2 + 1) := ⟨by omega, by omega, by omega⟩
          have z210 := hT.1
          have g211 : ¬ Dg tB tN (h 1 2 + 2) := fun z => by have z1 := z.1; have z2 := z.2.1; have z3 := z.2.2; omega
          have z212 := nv2 (B := tB) (p := h 1 2)
          refine x_retI (np := 77) (x := 0) (by decide +kernel) (by decide) (Or.inl (by decide +kernel)) ⟨_, rfl, (by decide), ?_⟩
          exact ⟨hJ, hF, (by omega), (by omega), (fun z => by omega), (fun z => by omega), (Nr.nor (by omega) (Nu.mk2 g207 g209 g211) (by omega))⟩
        have q204 : ¬ (v187 < a1) := q204
        refine x_iload (np := 71) (x := 3) (by decide +kernel) rfl (by omega) ?_
        refine x_iload (np := 72) (x := 2) (by decide +kernel) rfl la2 ?_
        refine x_icmp (k := 5) (tg := 77) (np := 75) (by decide +kernel) (by decide) (by omega) la2 (fun q213 => ?_) (fun q214 => ?_)
        · have q213 : v187 ≤ a2 := q213
          refine x_aload (np := 78) (x := 0) (by decide +kernel) rfl (x_nc_le (by decide)) ?_
          refine x_aload (np := 79) (x := 0) (by decide +kernel) rfl (x_nc_le (by decide)) ?_
          refine x_getC (np := 82) (x := 450) (f := 2) (q := (h 1 2)) (by decide +kernel) (by decide) (by decide +kernel) rfl (fun l215 => ?_)
          refine x_iload (np := 84) (x := 4) (by decide +kernel) rfl (by decide) ?_
          refine x_iadd (np := 85) (x := 0) (v := (2 + (h 1 2))) (by decide +kernel) l4 (by decide) (by omega) (by omega) ?_
          refine x_cV (t := 6) (mj := 80) (n := 2) (rc := 8) (ml := 2) (nr := 0) (np := 88) (as := [x_r 1, iv_c (2 + (h 1 2))]) (rest := []) (lo1 := [x_r 1, iv_c (2 + (h 1 2))]) (by decide +kernel) (by decide) (by decide +kernel) (x_rb_of (by decide +kernel)) rfl rfl (x_wr (by decide) (x_wi (by omega) x_wn)) x_wn (by decide) rfl (c80_1 hJ  (by omega) hT) (fun h219 q218 => ?_)
          obtain ⟨j220, f221, c224, c225⟩ := q218
          have f226 := Fr.trans hF f221 (by decide)
          have b227 := jB (e := 2) 0 j220 rg_1_2_0_1 (by omega) (by omega)
          refine x_iload (np := 89) (x := 3) (by decide +kernel) rfl (by omega) ?_
          have z228 := hT.1
          have z229 := Tp.at (p := (h 1 2 + 0)) (u := u19) hT (by omega) (by omega)
          have g230 : Dg tB tN (h 1 2 + 0) := ⟨by omega, by omega, by omega⟩
          have z231 := Tp.at (p := (h 1 2 + 1)) (u := (1 + u19)) hT (by omega) (by omega)
          have g232 : Dg tB tN (h 1 2 + 1) := ⟨by omega, by omega, by omega⟩
          have z233 := hT.1
          have g234 : ¬ Dg tB tN (h 1 2 + 2) := fun z => by have z1 := z.1; have z2 := z.2.1; have z3 := z.2.2; omega
          have z235 := nv2 (B := tB) (p := h 1 2)
          refine x_retI (np := 90) (x := 0) (by decide +kernel) (by omega) (Or.inl (by decide +kernel)) ⟨_, rfl, (by omega), ?_⟩
          exact ⟨j220, f226, (by omega), (by omega), (fun z => by omega), (fun z => by omega), (Nr.yes (Nu.mk2 g230 g232 g234) (by omega) (by omega) (by omega) c225 (by omega))⟩
        have q214 : ¬ (v187 ≤ a2) := q214
        refine x_const (np := 76) (x := 9223372034707292159) (a := 2147483647) (by decide +kernel) (by decide) (by decide) ?_
        have z236 := hT.1
        have z237 := Tp.at (p := (h 1 2 + 0)) (u := u19) hT (by omega) (by omega)
        have g238 : Dg tB tN (h 1 2 + 0) := ⟨by omega, by omega, by omega⟩
        have z239 := Tp.at (p := (h 1 2 + 1)) (u := (1 + u19)) hT (by omega) (by omega)
        have g240 : Dg tB tN (h 1 2 + 1) := ⟨by omega, by omega, by omega⟩
        have z241 := hT.1
        have g242 : ¬ Dg tB tN (h 1 2 + 2) := fun z => by have z1 := z.1; have z2 := z.2.1; have z3 := z.2.2; omega
        have z243 := nv2 (B := tB) (p := h 1 2)
        refine x_retI (np := 77) (x := 0) (by decide +kernel) (by decide) (Or.inl (by decide +kernel)) ⟨_, rfl, (by decide), ?_⟩
        exact ⟨hJ, hF, (by omega), (by omega), (fun z => by omega), (fun z => by omega), (Nr.nor (by omega) (Nu.mk2 g238 g240 g242) (by omega))⟩
      have q198 : ¬ (2147483648 = 2147483648) := q198
      exfalso; omega
    have q196 : ¬ (2147483647 < 2147483696) := q196
    exfalso; omega
  have q194 : ¬ ((h 1 1) ≤ (2 + (h 1 2))) := q194
  refine x_aload (np := 9) (x := 0) (by decide +kernel) rfl (x_nc_le (by decide)) ?_
  have q244 : h 1 0 = 2 := by have z := jB (e := 0) 0 hJ rg_1_0_0_1 (by decide) (by decide); omega
  refine x_getR (np := 12) (x := 448) (f := 0) (q := 2) (by decide +kernel) (by decide) (by decide +kernel) q244 ?_
  refine x_iload (np := 13) (x := 1) (by decide +kernel) rfl (by omega) ?_
  refine x_aldC (np := 14) (x := 0) (n := 400) (i := (2 + u19)) (q := (h 2 (2 + u19))) (by decide +kernel) (by decide +kernel) (by omega) (by omega) (by decide) rfl (fun l245 => ?_)
  refine x_goto (np := 17) (x := 18) (by decide +kernel) ?_
  refine x_retI (np := 19) (x := 0) (by decide +kernel) l245 (Or.inl (by decide +kernel)) ⟨_, rfl, l245, ?_⟩
  refine x_nI (t := 0) (mj := 82) (n := 1) (rc := 0) (ml := 1) (nr := 0) (np := 25) (as := [iv_c (h 2 (2 + u19))]) (rest := []) (lo1 := [iv_c (h 2 (2 + u19))]) (by decide +kernel) (by decide) (by decide +kernel) (Or.inl rfl) rfl rfl (x_wi l245 x_wn) x_wn (by decide) rfl ?_
  refine x_iload (np := 1) (x := 0) (by decide +kernel) rfl l245 ?_
  refine x_const (np := 3) (x := 9223372245160689712) (a := 2147483696) (by decide +kernel) (by decide) (by decide) ?_
  refine x_icmp (k := 2) (tg := 16) (np := 6) (by decide +kernel) (by decide) l245 (by decide) (fun q246 => ?_) (fun q247 => ?_)
  · have q246 : (h 2 (2 + u19)) < 2147483696 := q246
    refine x_const (np := 17) (x := 9223372039002259456) (a := 2147483648) (by decide +kernel) (by decide) (by decide) ?_
    refine x_retI (np := 18) (x := 0) (by decide +kernel) (by decide) (Or.inr ⟨by decide +kernel, by omega, by omega⟩) ⟨_, rfl, (by decide), ?_⟩
    refine x_ifz (k := 0) (tg := 54) (np := 28) (by decide +kernel) (by decide) (by decide) (fun q248 => ?_) (fun q249 => ?_)
    · have q248 : 2147483648 = 2147483648 := q248
      refine x_iload (np := 56) (x := 4) (by decide +kernel) rfl (by decide) ?_
      refine x_ifz (k := 0) (tg := 75) (np := 59) (by decide +kernel) (by decide) (by decide) (fun q250 => ?_) (fun q251 => ?_)
      · have q250 : 2147483650 = 2147483648 := q250
        exfalso; omega
      have q251 : ¬ (2147483650 = 2147483648) := q251
      refine x_iload (np := 61) (x := 4) (by decide +kernel) rfl (by decide) ?_
      refine x_const (np := 62) (x := 9223372051887161347) (a := 2147483651) (by decide +kernel) (by decide) (by decide) ?_
      refine x_icmp (k := 4) (tg := 75) (np := 65) (by decide +kernel) (by decide) (by decide) (by decide) (fun q252 => ?_) (fun q253 => ?_)
      · have q252 : 2147483651 < 2147483650 := q252
        exfalso; omega
      have q253 : ¬ (2147483651 < 2147483650) := q253
      refine x_iload (np := 66) (x := 3) (by decide +kernel) rfl (by omega) ?_
      refine x_iload (np := 67) (x := 1) (by decide +kernel) rfl la1 ?_
      refine x_icmp (k := 2) (tg := 75) (np := 70) (by decide +kernel) (by decide) (by omega) la1 (fun q254 => ?_) (fun q255 => ?_)
      · have q254 : v187 < a1 := q254
        refine x_const (np := 76) (x := 9223372034707292159) (a := 2147483647) (by decide +kernel) (by decide) (by decide) ?_
        have z256 := hT.1
        have z257 := Tp.at (p := (h 1 2 + 0)) (u := u19) hT (by omega) (by omega)
        have g258 : Dg tB tN (h 1 2 + 0) := ⟨by omega, by omega, by omega⟩
        have z259 := Tp.at (p := (h 1 2 + 1)) (u := (1 + u19)) hT (by omega) (by omega)
        have g260 : Dg tB tN (h 1 2 + 1) := ⟨by omega, by omega, by omega⟩
        have z261 := hT.1
        have z262 := Tp.at (p := (h 1 2 + 2)) (u := (2 + u19)) hT (by omega) (by omega)
        have g263 : ¬ Dg tB tN (h 1 2 + 2) := fun z => by have z1 := z.1; have z2 := z.2.1; have z3 := z.2.2; omega
        have z264 := nv2 (B := tB) (p := h 1 2)
        refine x_retI (np := 77) (x := 0) (by decide +kernel) (by decide) (Or.inl (by decide +kernel)) ⟨_, rfl, (by decide), ?_⟩
        exact ⟨hJ, hF, (by omega), (by omega), (fun z => by omega), (fun z => by omega), (Nr.nor (by omega) (Nu.mk2 g258 g260 g263) (by omega))⟩
      have q255 : ¬ (v187 < a1) := q255
      refine x_iload (np := 71) (x := 3) (by decide +kernel) rfl (by omega) ?_
      refine x_iload (np := 72) (x := 2) (by decide +kernel) rfl la2 ?_
      refine x_icmp (k := 5) (tg := 77) (np := 75) (by decide +kernel) (by decide) (by omega) la2 (fun q265 => ?_) (fun q266 => ?_)
      · have q265 : v187 ≤ a2 := q265
        refine x_aload (np := 78) (x := 0) (by decide +kernel) rfl (x_nc_le (by decide)) ?_
        refine x_aload (np := 79) (x := 0) (by decide +kernel) rfl (x_nc_le (by decide)) ?_
        refine x_getC (np := 82) (x := 450) (f := 2) (q := (h 1 2)) (by decide +kernel) (by decide) (by decide +kernel) rfl (fun l267 => ?_)
        refine x_iload (np := 84) (x := 4) (by decide +kernel) rfl (by decide) ?_
        refine x_iadd (np := 85) (x := 0) (v := (2 + (h 1 2))) (by decide +kernel) l4 (by decide) (by omega) (by omega) ?_
        refine x_cV (t := 6) (mj := 80) (n := 2) (rc := 8) (ml := 2) (nr := 0) (np := 88) (as := [x_r 1, iv_c (2 + (h 1 2))]) (rest := []) (lo1 := [x_r 1, iv_c (2 + (h 1 2))]) (by decide +kernel) (by decide) (by decide +kernel) (x_rb_of (by decide +kernel)) rfl rfl (x_wr (by decide) (x_wi (by omega) x_wn)) x_wn (by decide) rfl (c80_1 hJ  (by omega) hT) (fun h271 q270 => ?_)
        obtain ⟨j272, f273, c276, c277⟩ := q270
        have f278 := Fr.trans hF f273 (by decide)
        have b279 := jB (e := 2) 0 j272 rg_1_2_0_1 (by omega) (by omega)
        refine x_iload (np := 89) (x := 3) (by decide +kernel) rfl (by omega) ?_
        have z280 := hT.1
        have z281 := Tp.at (p := (h 1 2 + 0)) (u := u19) hT (by omega) (by omega)
        have g282 : Dg tB tN (h 1 2 + 0) := ⟨by omega, by omega, by omega⟩
        have z283 := Tp.at (p := (h 1 2 + 1)) (u := (1 + u19)) hT (by omega) (by omega)
        have g284 : Dg tB tN (h 1 2 + 1) := ⟨by omega, by omega, by omega⟩
        have z285 := hT.1
        have z286 := Tp.at (p := (h 1 2 + 2)) (u := (2 + u19)) hT (by omega) (by omega)
        have g287 : ¬ Dg tB tN (h 1 2 + 2) := fun z => by have z1 := z.1; have z2 := z.2.1; have z3 := z.2.2; omega
        have z288 := nv2 (B := tB) (p := h 1 2)
        refine x_retI (np := 90) (x := 0) (by decide +kernel) (by omega) (Or.inl (by decide +kernel)) ⟨_, rfl, (by omega), ?_⟩
        exact ⟨j272, f278, (by omega), (by omega), (fun z => by omega), (fun z => by omega), (Nr.yes (Nu.mk2 g282 g284 g287) (by omega) (by omega) (by omega) c277 (by omega))⟩
      have q266 : ¬ (v187 ≤ a2) := q266
      refine x_const (np := 76) (x := 9223372034707292159) (a := 2147483647) (by decide +kernel) (by decide) (by decide) ?_
      have z289 := hT.1
      have z290 := Tp.at (p := (h 1 2 + 0)) (u := u19) hT (by omega) (by omega)
      have g291 : Dg tB tN (h 1 2 + 0) := ⟨by omega, by omega, by omega⟩
      have z292 := Tp.at (p := (h 1 2 + 1)) (u := (1 + u19)) hT (by omega) (by omega)
      have g293 : Dg tB tN (h 1 2 + 1) := ⟨by omega, by omega, by omega⟩
      have z294 := hT.1
      have z295 := Tp.at (p := (h 1 2 + 2)) (u := (2 + u19)) hT (by omega) (by omega)
      have g296 : ¬ Dg tB tN (h 1 2 + 2) := fun z => by have z1 := z.1; have z2 := z.2.1; have z3 := z.2.2; omega
      have z297 := nv2 (B := tB) (p := h 1 2)
      refine x_retI (np := 77) (x := 0) (by decide +kernel) (by decide) (Or.inl (by decide +kernel)) ⟨_, rfl, (by decide), ?_⟩
      exact ⟨hJ, hF, (by omega), (by omega), (fun z => by omega), (fun z => by omega), (Nr.nor (by omega) (Nu.mk2 g291 g293 g296) (by omega))⟩
    have q249 : ¬ (2147483648 = 2147483648) := q249
    exfalso; omega
  have q247 : ¬ ((h 2 (2 + u19)) < 2147483696) := q247
  refine x_iload (np := 7) (x := 0) (by decide +kernel) rfl l245 ?_
  refine x_const (np := 9) (x := 9223372283815395385) (a := 2147483705) (by decide +kernel) (by decide) (by decide) ?_
  refine x_icmp (k := 4) (tg := 16) (np := 12) (by decide +kernel) (by decide) l245 (by decide) (fun q298 => ?_) (fun q299 => ?_)
  · have q298 : 2147483705 < (h 2 (2 + u19)) := q298
    refine x_const (np := 17) (x := 9223372039002259456) (a := 2147483648) (by decide +kernel) (by decide) (by decide) ?_
    refine x_retI (np := 18) (x := 0) (by decide +kernel) (by decide) (Or.inr ⟨by decide +kernel, by omega, by omega⟩) ⟨_, rfl, (by decide), ?_⟩
    refine x_ifz (k := 0) (tg := 54) (np := 28) (by decide +kernel) (by decide) (by decide) (fun q300 => ?_) (fun q301 => ?_)
    · have q300 : 2147483648 = 2147483648 := q300
      refine x_iload (np := 56) (x := 4) (by decide +kernel) rfl (by decide) ?_
      refine x_ifz (k := 0) (tg := 75) (np := 59) (by decide +kernel) (by decide) (by decide) (fun q302 => ?_) (fun q303 => ?_)
      · have q302 : 2147483650 = 2147483648 := q302
        exfalso; omega
      have q303 : ¬ (2147483650 = 2147483648) := q303
      refine x_iload (np := 61) (x := 4) (by decide +kernel) rfl (by decide) ?_
      refine x_const (np := 62) (x := 9223372051887161347) (a := 2147483651) (by decide +kernel) (by decide) (by decide) ?_
      refine x_icmp (k := 4) (tg := 75) (np := 65) (by decide +kernel) (by decide) (by decide) (by decide) (fun q304 => ?_) (fun q305 => ?_)
      · have q304 : 2147483651 < 2147483650 := q304
        exfalso; omega
      have q305 : ¬ (2147483651 < 2147483650) := q305
      refine x_iload (np := 66) (x := 3) (by decide +kernel) rfl (by omega) ?_
      refine x_iload (np := 67) (x := 1) (by decide +kernel) rfl la1 ?_
      refine x_icmp (k := 2) (tg := 75) (np := 70) (by decide +kernel) (by decide) (by omega) la1 (fun q306 => ?_) (fun q307 => ?_)
      · have q306 : v187 < a1 := q306
        refine x_const (np := 76) (x := 9223372034707292159) (a := 2147483647) (by decide +kernel) (by decide) (by decide) ?_
        have z308 := hT.1
        have z309 := Tp.at (p := (h 1 2 + 0)) (u := u19) hT (by omega) (by omega)
        have g310 : Dg tB tN (h 1 2 + 0) := ⟨by omega, by omega, by omega⟩
        have z311 := Tp.at (p := (h 1 2 + 1)) (u := (1 + u19)) hT (by omega) (by omega)
        have g312 : Dg tB tN (h 1 2 + 1) := ⟨by omega, by omega, by omega⟩
        have z313 := hT.1
        have z314 := Tp.at (p := (h 1 2 + 2)) (u := (2 + u19)) hT (by omega) (by omega)
        have g315 : ¬ Dg tB tN (h 1 2 + 2) := fun z => by have z1 := z.1; have z2 := z.2.1; have z3 := z.2.2; omega
        have z316 := nv2 (B := tB) (p := h 1 2)
        refine x_retI (np := 77) (x := 0) (by decide +kernel) (by decide) (Or.inl (by decide +kernel)) ⟨_, rfl, (by decide), ?_⟩
        exact ⟨hJ, hF, (by omega), (by omega), (fun z => by omega), (fun z => by omega), (Nr.nor (by omega) (Nu.mk2 g310 g312 g315) (by omega))⟩
      have q307 : ¬ (v187 < a1) := q307
      refine x_iload (np := 71) (x := 3) (by decide +kernel) rfl (by omega) ?_
      refine x_iload (np := 72) (x := 2) (by decide +kernel) rfl la2 ?_
      refine x_icmp (k := 5) (tg := 77) (np := 75) (by decide +kernel) (by decide) (by omega) la2 (fun q317 => ?_) (fun q318 => ?_)
      · have q317 : v187 ≤ a2 := q317
        refine x_aload (np := 78) (x := 0) (by decide +kernel) rfl (x_nc_le (by decide)) ?_
        refine x_aload (np := 79) (x := 0) (by decide +kernel) rfl (x_nc_le (by decide)) ?_
        refine x_getC (np := 82) (x := 450) (f := 2) (q := (h 1 2)) (by decide +kernel) (by decide) (by decide +kernel) rfl (fun l319 => ?_)
        refine x_iload (np := 84) (x := 4) (by decide +kernel) rfl (by decide) ?_
        refine x_iadd (np := 85) (x := 0) (v := (2 + (h 1 2))) (by decide +kernel) l4 (by decide) (by omega) (by omega) ?_
        refine x_cV (t := 6) (mj := 80) (n := 2) (rc := 8) (ml := 2) (nr := 0) (np := 88) (as := [x_r 1, iv_c (2 + (h 1 2))]) (rest := []) (lo1 := [x_r 1, iv_c (2 + (h 1 2))]) (by decide +kernel) (by decide) (by decide +kernel) (x_rb_of (by decide +kernel)) rfl rfl (x_wr (by decide) (x_wi (by omega) x_wn)) x_wn (by decide) rfl (c80_1 hJ  (by omega) hT) (fun h323 q322 => ?_)
        obtain ⟨j324, f325, c328, c329⟩ := q322
        have f330 := Fr.trans hF f325 (by decide)
        have b331 := jB (e := 2) 0 j324 rg_1_2_0_1 (by omega) (by omega)
        refine x_iload (np := 89) (x := 3) (by decide +kernel) rfl (by omega) ?_
        have z332 := hT.1
        have z333 := Tp.at (p := (h 1 2 + 0)) (u := u19) hT (by omega) (by omega)
        have g334 : Dg tB tN (h 1 2 + 0) := ⟨by omega, by omega, by omega⟩
        have z335 := Tp.at (p := (h 1 2 + 1)) (u := (1 + u19)) hT (by omega) (by omega)
        have g336 : Dg tB tN (h 1 2 + 1) := ⟨by omega, by omega, by omega⟩
        have z337 := hT.1
        have z338 := Tp.at (p := (h 1 2 + 2)) (u := (2 + u19)) hT (by omega) (by omega)
        have g339 : ¬ Dg tB tN (h 1 2 + 2) := fun z => by have z1 := z.1; have z2 := z.2.1; have z3 := z.2.2; omega
        have z340 := nv2 (B := tB) (p := h 1 2)
        refine x_retI (np := 90) (x := 0) (by decide +kernel) (by omega) (Or.inl (by decide +kernel)) ⟨_, rfl, (by omega), ?_⟩
        exact ⟨j324, f330, (by omega), (by omega), (fun z => by omega), (fun z => by omega), (Nr.yes (Nu.mk2 g334 g336 g339) (by omega) (by omega) (by omega) c329 (by omega))⟩
      have q318 : ¬ (v187 ≤ a2) := q318
      refine x_const (np := 76) (x := 9223372034707292159) (a := 2147483647) (by decide +kernel) (by decide) (by decide) ?_
      have z341 := hT.1
      have z342 := Tp.at (p := (h 1 2 + 0)) (u := u19) hT (by omega) (by omega)
      have g343 : Dg tB tN (h 1 2 + 0) := ⟨by omega, by omega, by omega⟩
      have z344 := Tp.at (p := (h 1 2 + 1)) (u := (1 + u19)) hT (by omega) (by omega)
      have g345 : Dg tB tN (h 1 2 + 1) := ⟨by omega, by omega, by omega⟩
      have z346 := hT.1
      have z347 := Tp.at (p := (h 1 2 + 2)) (u := (2 + u19)) hT (by omega) (by omega)
      have g348 : ¬ Dg tB tN (h 1 2 + 2) := fun z => by have z1 := z.1; have z2 := z.2.1; have z3 := z.2.2; omega
      have z349 := nv2 (B := tB) (p := h 1 2)
      refine x_retI (np := 77) (x := 0) (by decide +kernel) (by decide) (Or.inl (by decide +kernel)) ⟨_, rfl, (by decide), ?_⟩
      exact ⟨hJ, hF, (by omega), (by omega), (fun z => by omega), (fun z => by omega), (Nr.nor (by omega) (Nu.mk2 g343 g345 g348) (by omega))⟩
    have q301 : ¬ (2147483648 = 2147483648) := q301
    exfalso; omega
  have q299 : ¬ (2147483705 < (h 2 (2 + u19))) := q299
  refine x_const (np := 13) (x := 9223372043297226753) (a := 2147483649) (by decide +kernel) (by decide) (by decide) ?_
  refine x_goto (np := 16) (x := 17) (by decide +kernel) ?_
  refine x_retI (np := 18) (x := 0) (by decide +kernel) (by decide) (Or.inr ⟨by decide +kernel, by omega, by omega⟩) ⟨_, rfl, (by decide), ?_⟩
  refine x_ifz (k := 0) (tg := 54) (np := 28) (by decide +kernel) (by decide) (by decide) (fun q350 => ?_) (fun q351 => ?_)
  · have q350 : 2147483649 = 2147483648 := q350
    exfalso; omega
  have q351 : ¬ (2147483649 = 2147483648) := q351
  refine x_iload (np := 29) (x := 3) (by decide +kernel) rfl (by omega) ?_
  refine x_const (np := 31) (x := 9223372081951932426) (a := 2147483658) (by decide +kernel) (by decide) (by decide) ?_
  obtain ⟨u352, q353⟩ : ∃ z, v187 = 2147483648 + z := ⟨v187 - 2147483648, by omega⟩
  refine x_imul (np := 32) (x := 0) (i := u352) (j := 10) (v := (2147483648 + 10 * u352)) (by decide +kernel) (by omega) (by omega) (by omega) (by omega) (by omega) (by decide) ?_
  refine x_aload (np := 33) (x := 0) (by decide +kernel) rfl (x_nc_le (by decide)) ?_
  refine x_aload (np := 34) (x := 0) (by decide +kernel) rfl (x_nc_le (by decide)) ?_
  refine x_getC (np := 37) (x := 450) (f := 2) (q := (h 1 2)) (by decide +kernel) (by decide) (by decide +kernel) rfl (fun l355 => ?_)
  refine x_iload (np := 39) (x := 4) (by decide +kernel) rfl (by decide) ?_
  refine x_iadd (np := 40) (x := 0) (v := (2 + (h 1 2))) (by decide +kernel) l4 (by decide) (by omega) (by omega) ?_
  refine x_nI (t := 6) (mj := 81) (n := 2) (rc := 8) (ml := 2) (nr := 1) (np := 43) (as := [x_r 1, iv_c (2 + (h 1 2))]) (rest := [iv_c (2147483648 + 10 * u352)]) (lo1 := [x_r 1, iv_c (2 + (h 1 2))]) (by decide +kernel) (by decide) (by decide +kernel) (x_rb_of (by decide +kernel)) rfl rfl (x_wr (by decide) (x_wi (by omega) x_wn)) (x_wi (by omega) x_wn) (by decide) rfl ?_
  refine x_iload (np := 1) (x := 1) (by decide +kernel) rfl (by omega) ?_
  refine x_aload (np := 2) (x := 0) (by decide +kernel) rfl (x_nc_le (by decide)) ?_
  refine x_getC (np := 5) (x := 449) (f := 1) (q := (h 1 1)) (by decide +kernel) (by decide) (by decide +kernel) rfl (fun l356 => ?_)
  refine x_icmp (k := 3) (tg := 17) (np := 8) (by decide +kernel) (by decide) (by omega) l6 (fun q357 => ?_) (fun q358 => ?_)
  · have q357 : (h 1 1) ≤ (2 + (h 1 2)) := q357
    exfalso; omega
  have q358 : ¬ ((h 1 1) ≤ (2 + (h 1 2))) := q358
  refine x_aload (np := 9) (x := 0) (by decide +kernel) rfl (x_nc_le (by decide)) ?_
  have q359 : h 1 0 = 2 := by have z := jB (e := 0) 0 hJ rg_1_0_0_1 (by decide) (by decide); omega
  refine x_getR (np := 12) (x := 448) (f := 0) (q := 2) (by decide +kernel) (by decide) (by decide +kernel) q359 ?_
  refine x_iload (np := 13) (x := 1) (by decide +kernel) rfl (by omega) ?_
  refine x_aldC (np := 14) (x := 0) (n := 400) (i := (2 + u19)) (q := (h 2 (2 + u19))) (by decide +kernel) (by decide +kernel) (by omega) (by omega) (by decide) rfl (fun l360 => ?_)
  refine x_goto (np := 17) (x := 18) (by decide +kernel) ?_
  refine x_retI (np := 19) (x := 0) (by decide +kernel) l245 (Or.inl (by decide +kernel)) ⟨_, rfl, l245, ?_⟩
  refine x_iadd (np := 44) (x := 0) (v := (10 * u352 + (h 2 (2 + u19)))) (by decide +kernel) (by omega) l245 (by omega) (by omega) ?_
  refine x_const (np := 46) (x := 9223372245160689712) (a := 2147483696) (by decide +kernel) (by decide) (by decide) ?_
  obtain ⟨v361, q362⟩ : ∃ z, z + 2147483696 = (10 * u352 + (h 2 (2 + u19))) + 2147483648 := ⟨(10 * u352 + (h 2 (2 + u19))) + 2147483648 - 2147483696, by omega⟩
  refine x_isub (np := 47) (x := 0) (v := v361) (by decide +kernel) (by omega) (by decide) (by omega) (by omega) ?_
  refine x_istore (np := 48) (x := 3) (lo' := [x_r 1, iv_c a1, iv_c a2, iv_c v361, iv_c 2147483650]) (by decide +kernel) (by omega) (Nat.le_of_ble_eq_true rfl) rfl ?_
  refine x_iinc (np := 51) (i := 4) (j := 2147483649) (v := 2147483651) (lo' := [x_r 1, iv_c a1, iv_c a2, iv_c v361, iv_c 2147483651]) (by decide +kernel) (by decide) (by decide) rfl (by decide) (by omega) (by omega) rfl ?_
  refine x_goto (np := 54) (x := 5) (by decide +kernel) ?_
  refine x_iload (np := 7) (x := 4) (by decide +kernel) rfl (by decide) ?_
  refine x_const (np := 8) (x := 9223372051887161347) (a := 2147483651) (by decide +kernel) (by decide) (by decide) ?_
  refine x_icmp (k := 4) (tg := 54) (np := 11) (by decide +kernel) (by decide) (by decide) (by decide) (fun q363 => ?_) (fun q364 => ?_)
  · have q363 : 2147483651 < 2147483651 := q363
    exfalso; omega
  have q364 : ¬ (2147483651 < 2147483651) := q364
  refine x_aload (np := 12) (x := 0) (by decide +kernel) rfl (x_nc_le (by decide)) ?_
  refine x_aload (np := 13) (x := 0) (by decide +kernel) rfl (x_nc_le (by decide)) ?_
  refine x_getC (np := 16) (x := 450) (f := 2) (q := (h 1 2)) (by decide +kernel) (by decide) (by decide +kernel) rfl (fun l365 => ?_)
  refine x_iload (np := 18) (x := 4) (by decide +kernel) rfl (by decide) ?_
  refine x_iadd (np := 19) (x := 0) (v := (3 + (h 1 2))) (by decide +kernel) l4 (by decide) (by omega) (by omega) ?_
  refine x_nI (t := 6) (mj := 81) (n := 2) (rc := 8) (ml := 2) (nr := 0) (np := 22) (as := [x_r 1, iv_c (3 + (h 1 2))]) (rest := []) (lo1 := [x_r 1, iv_c (3 + (h 1 2))]) (by decide +kernel) (by decide) (by decide +kernel) (x_rb_of (by decide +kernel)) rfl rfl (x_wr (by decide) (x_wi (by omega) x_wn)) x_wn (by decide) rfl ?_
  refine x_iload (np := 1) (x := 1) (by decide +kernel) rfl (by omega) ?_
  refine x_aload (np := 2) (x := 0) (by decide +kernel) rfl (x_nc_le (by decide)) ?_
  refine x_getC (np := 5) (x := 449) (f := 1) (q := (h 1 1)) (by decide +kernel) (by decide) (by decide +kernel) rfl (fun l366 => ?_)
  refine x_icmp (k := 3) (tg := 17) (np := 8) (by decide +kernel) (by decide) (by omega) l6 (fun q367 => ?_) (fun q368 => ?_)
  · have q367 : (h 1 1) ≤ (3 + (h 1 2)) := q367
    refine x_const (np := 18) (x := 9223372034707292159) (a := 2147483647) (by decide +kernel) (by decide) (by decide) ?_
    refine x_retI (np := 19) (x := 0) (by decide +kernel) (by decide) (Or.inl (by decide +kernel)) ⟨_, rfl, (by decide), ?_⟩
    refine x_nI (t := 0) (mj := 82) (n := 1) (rc := 0) (ml := 1) (nr := 0) (np := 25) (as := [iv_c 2147483647]) (rest := []) (lo1 := [iv_c 2147483647]) (by decide +kernel) (by decide) (by decide +kernel) (Or.inl rfl) rfl rfl (x_wi (by decide) x_wn) x_wn (by decide) rfl ?_
    refine x_iload (np := 1) (x := 0) (by decide +kernel) rfl (by decide) ?_
    refine x_const (np := 3) (x := 9223372245160689712) (a := 2147483696) (by decide +kernel) (by decide) (by decide) ?_
    refine x_icmp (k := 2) (tg := 16) (np := 6) (by decide +kernel) (by decide) (by decide) (by decide) (fun q369 => ?_) (fun q370 => ?_)
    · have q369 : 2147483647 < 2147483696 := q369
      refine x_const (np := 17) (x := 9223372039002259456) (a := 2147483648) (by decide +kernel) (by decide) (by decide) ?_
      refine x_retI (np := 18) (x := 0) (by decide +kernel) (by decide) (Or.inr ⟨by decide +kernel, by omega, by omega⟩) ⟨_, rfl, (by decide), ?_⟩
      refine x_ifz (k := 0) (tg := 54) (np := 28) (by decide +kernel) (by decide) (by decide) (fun q371 => ?_) (fun q372 => ?_)
      · have q371 : 2147483648 = 2147483648 := q371
        refine x_iload (np := 56) (x := 4) (by decide +kernel) rfl (by decide) ?_
        refine x_ifz (k := 0) (tg := 75) (np := 59) (by decide +kernel) (by decide) (by decide) (fun q373 => ?_) (fun q374 => ?_)
        · have q373 : 2147483651 = 2147483648 := q373
          exfalso; omega
        have q374 : ¬ (2147483651 = 2147483648) := q374
        refine x_iload (np := 61) (x := 4) (by decide +kernel) rfl (by decide) ?_
        refine x_const (np := 62) (x := 9223372051887161347) (a := 2147483651) (by decide +kernel) (by decide) (by decide) ?_
        refine x_icmp (k := 4) (tg := 75) (np := 65) (by decide +kernel) (by decide) (by decide) (by decide) (fun q375 => ?_) (fun q376 => ?_)
        · have q375 : 2147483651 < 2147483651 := q375
          exfalso; omega
        have q376 : ¬ (2147483651 < 2147483651) := q376
        refine x_iload (np := 66) (x := 3) (by decide +kernel) rfl (by omega) ?_
        refine x_iload (np := 67) (x := 1) (by decide +kernel) rfl la1 ?_
        refine x_icmp (k := 2) (tg := 75) (np := 70) (by decide +kernel) (by decide) (by omega) la1 (fun q377 => ?_) (fun q378 => ?_)
        · have q377 : v361 < a1 := q377
          refine x_const (np := 76) (x := 9223372034707292159) (a := 2147483647) (by decide +kernel) (by decide) (by decide) ?_
          have z379 := hT.1
          have z380 := Tp.at (p := (h 1 2 + 0)) (u := u19) hT (by omega) (by omega)
          have g381 : Dg tB tN (h 1 2 + 0) := ⟨by omega, by omega, by omega⟩
          have z382 := Tp.at (p := (h 1 2 + 1)) (u := (1 + u19)) hT (by omega) (by omega)
          have g383 : Dg tB tN (h 1 2 + 1) := ⟨by omega, by omega, by omega⟩
          have z384 := Tp.at (p := (h 1 2 + 2)) (u := (2 + u19)) hT (by omega) (by omega)
          have g385 : Dg tB tN (h 1 2 + 2) := ⟨by omega, by omega, by omega⟩
          have z386 := hT.1
          have g387 : ¬ Dg tB tN (h 1 2 + 3) := fun z => by have z1 := z.1; have z2 := z.2.1; have z3 := z.2.2; omega
          have z388 := nv3 (B := tB) (p := h 1 2)
          refine x_retI (np := 77) (x := 0) (by decide +kernel) (by decide) (Or.inl (by decide +kernel)) ⟨_, rfl, (by decide), ?_⟩
          exact ⟨hJ, hF, (by omega), (by omega), (fun z => by omega), (fun z => by omega), (Nr.nor (by omega) (Nu.mk3 g381 g383 g385 g387) (by omega))⟩
        have q378 : ¬ (v361 < a1) := q378
        refine x_iload (np := 71) (x := 3) (by decide +kernel) rfl (by omega) ?_
        refine x_iload (np := 72) (x := 2) (by decide +kernel) rfl la2 ?_
        refine x_icmp (k := 5) (tg := 77) (np := 75) (by decide +kernel) (by decide) (by omega) la2 (fun q389 => ?_) (fun q390 => ?_)
        · have q389 : v361 ≤ a2 := q389
          refine x_aload (np := 78) (x := 0) (by decide +kernel) rfl (x_nc_le (by decide)) ?_
          refine x_aload (np := 79) (x := 0) (by decide +kernel) rfl (x_nc_le (by decide)) ?_
          refine x_getC (np := 82) (x := 450) (f := 2) (q := (h 1 2)) (by decide +kernel) (by decide) (by decide +kernel) rfl (fun l391 => ?_)
          refine x_iload (np := 84) (x := 4) (by decide +kernel) rfl (by decide) ?_
          refine x_iadd (np := 85) (x := 0) (v := (3 + (h 1 2))) (by decide +kernel) l4 (by decide) (by omega) (by omega) ?_
          refine x_cV (t := 6) (mj := 80) (n := 2) (rc := 8) (ml := 2) (nr := 0) (np := 88) (as := [x_r 1, iv_c (3 + (h 1 2))]) (rest := []) (lo1 := [x_r 1, iv_c (3 + (h 1 2))]) (by decide +kernel) (by decide) (by decide +kernel) (x_rb_of (by decide +kernel)) rfl rfl (x_wr (by decide) (x_wi (by omega) x_wn)) x_wn (by decide) rfl (c80_1 hJ  (by omega) hT) (fun h395 q394 => ?_)
          obtain ⟨j396, f397, c400, c401⟩ := q394
          have f402 := Fr.trans hF f397 (by decide)
          have b403 := jB (e := 2) 0 j396 rg_1_2_0_1 (by omega) (by omega)
          refine x_iload (np := 89) (x := 3) (by decide +kernel) rfl (by omega) ?_
          have z404 := hT.1
          have z405 := Tp.at (p := (h 1 2 + 0)) (u := u19) hT (by omega) (by omega)
          have g406 : Dg tB tN (h 1 2 + 0) := ⟨by omega, by omega, by omega⟩
          have z407 := Tp.at (p := (h 1 2 + 1)) (u := (1 + u19)) hT (by omega) (by omega)
          have g408 : Dg tB tN (h 1 2 + 1) := ⟨by omega, by omega, by omega⟩
          have z409 := Tp.at (p := (h 1 2 + 2)) (u := (2 + u19)) hT (by omega) (by omega)
          have g410 : Dg tB tN (h 1 2 + 2) := ⟨by omega, by omega, by omega⟩
          have z411 := hT.1
          have g412 : ¬ Dg tB tN (h 1 2 + 3) := fun z => by have z1 := z.1; have z2 := z.2.1; have z3 := z.2.2; omega
          have z413 := nv3 (B := tB) (p := h 1 2)
          refine x_retI (np := 90) (x := 0) (by decide +kernel) (by omega) (Or.inl (by decide +kernel)) ⟨_, rfl, (by omega), ?_⟩
          exact ⟨j396, f402, (by omega), (by omega), (fun z => by omega), (fun z => by omega), (Nr.yes (Nu.mk3 g406 g408 g410 g412) (by omega) (by omega) (by omega) c401 (by omega))⟩
        have q390 : ¬ (v361 ≤ a2) := q390
        refine x_const (np := 76) (x := 9223372034707292159) (a := 2147483647) (by decide +kernel) (by decide) (by decide) ?_
        have z414 := hT.1
        have z415 := Tp.at (p := (h 1 2 + 0)) (u := u19) hT (by omega) (by omega)
        have g416 : Dg tB tN (h 1 2 + 0) := ⟨by omega, by omega, by omega⟩
        have z417 := Tp.at (p := (h 1 2 + 1)) (u := (1 + u19)) hT (by omega) (by omega)
        have g418 : Dg tB tN (h 1 2 + 1) := ⟨by omega, by omega, by omega⟩
        have z419 := Tp.at (p := (h 1 2 + 2)) (u := (2 + u19)) hT (by omega) (by omega)
        have g420 : Dg tB tN (h 1 2 + 2) := ⟨by omega, by omega, by omega⟩
        have z421 := hT.1
        have g422 : ¬ Dg tB tN (h 1 2 + 3) := fun z => by have z1 := z.1; have z2 := z.2.1; have z3 := z.2.2; omega
        have z423 := nv3 (B := tB) (p := h 1 2)
        refine x_retI (np := 77) (x := 0) (by decide +kernel) (by decide) (Or.inl (by decide +kernel)) ⟨_, rfl, (by decide), ?_⟩
        exact ⟨hJ, hF, (by omega), (by omega), (fun z => by omega), (fun z => by omega), (Nr.nor (by omega) (Nu.mk3 g416 g418 g420 g422) (by omega))⟩
      have q372 : ¬ (2147483648 = 2147483648) := q372
      exfalso; omega
    have q370 : ¬ (2147483647 < 2147483696) := q370
    exfalso; omega
  have q368 : ¬ ((h 1 1) ≤ (3 + (h 1 2))) := q368
  refine x_aload (np := 9) (x := 0) (by decide +kernel) rfl (x_nc_le (by decide)) ?_
  have q424 : h 1 0 = 2 := by have z := jB (e := 0) 0 hJ rg_1_0_0_1 (by decide) (by decide); omega
  refine x_getR (np := 12) (x := 448) (f := 0) (q := 2) (by decide +kernel) (by decide) (by decide +kernel) q424 ?_
  refine x_iload (np := 13) (x := 1) (by decide +kernel) rfl (by omega) ?_
  refine x_aldC (np := 14) (x := 0) (n := 400) (i := (3 + u19)) (q := (h 2 (3 + u19))) (by decide +kernel) (by decide +kernel) (by omega) (by omega) (by decide) rfl (fun l425 => ?_)
  refine x_goto (np := 17) (x := 18) (by decide +kernel) ?_
  refine x_retI (np := 19) (x := 0) (by decide +kernel) l425 (Or.inl (by decide +kernel)) ⟨_, rfl, l425, ?_⟩
  refine x_nI (t := 0) (mj := 82) (n := 1) (rc := 0) (ml := 1) (nr := 0) (np := 25) (as := [iv_c (h 2 (3 + u19))]) (rest := []) (lo1 := [iv_c (h 2 (3 + u19))]) (by decide +kernel) (by decide) (by decide +kernel) (Or.inl rfl) rfl rfl (x_wi l425 x_wn) x_wn (by decide) rfl ?_
  refine x_iload (np := 1) (x := 0) (by decide +kernel) rfl l425 ?_
  refine x_const (np := 3) (x := 9223372245160689712) (a := 2147483696) (by decide +kernel) (by decide) (by decide) ?_
  refine x_icmp (k := 2) (tg := 16) (np := 6) (by decide +kernel) (by decide) l425 (by decide) (fun q426 => ?_) (fun q427 => ?_)
  · have q426 : (h 2 (3 + u19)) < 2147483696 := q426
    refine x_const (np := 17) (x := 9223372039002259456) (a := 2147483648) (by decide +kernel) (by decide) (by decide) ?_
    refine x_retI (np := 18) (x := 0) (by decide +kernel) (by decide) (Or.inr ⟨by decide +kernel, by omega, by omega⟩) ⟨_, rfl, (by decide), ?_⟩
    refine x_ifz (k := 0) (tg := 54) (np := 28) (by decide +kernel) (by decide) (by decide) (fun q428 => ?_) (fun q429 => ?_)
    · have q428 : 2147483648 = 2147483648 := q428
      refine x_iload (np := 56) (x := 4) (by decide +kernel) rfl (by decide) ?_
      refine x_ifz (k := 0) (tg := 75) (np := 59) (by decide +kernel) (by decide) (by decide) (fun q430 => ?_) (fun q431 => ?_)
      · have q430 : 2147483651 = 2147483648 := q430
        exfalso; omega
      have q431 : ¬ (2147483651 = 2147483648) := q431
      refine x_iload (np := 61) (x := 4) (by decide +kernel) rfl (by decide) ?_
      refine x_const (np := 62) (x := 9223372051887161347) (a := 2147483651) (by decide +kernel) (by decide) (by decide) ?_
      refine x_icmp (k := 4) (tg := 75) (np := 65) (by decide +kernel) (by decide) (by decide) (by decide) (fun q432 => ?_) (fun q433 => ?_)
      · have q432 : 2147483651 < 2147483651 := q432
        exfalso; omega
      have q433 : ¬ (2147483651 < 2147483651) := q433
      refine x_iload (np := 66) (x := 3) (by decide +kernel) rfl (by omega) ?_
      refine x_iload (np := 67) (x := 1) (by decide +kernel) rfl la1 ?_
      refine x_icmp (k := 2) (tg := 75) (np := 70) (by decide +kernel) (by decide) (by omega) la1 (fun q434 => ?_) (fun q435 => ?_)
      · have q434 : v361 < a1 := q434
        refine x_const (np := 76) (x := 9223372034707292159) (a := 2147483647) (by decide +kernel) (by decide) (by decide) ?_
        have z436 := hT.1
        have z437 := Tp.at (p := (h 1 2 + 0)) (u := u19) hT (by omega) (by omega)
        have g438 : Dg tB tN (h 1 2 + 0) := ⟨by omega, by omega, by omega⟩
        have z439 := Tp.at (p := (h 1 2 + 1)) (u := (1 + u19)) hT (by omega) (by omega)
        have g440 : Dg tB tN (h 1 2 + 1) := ⟨by omega, by omega, by omega⟩
        have z441 := Tp.at (p := (h 1 2 + 2)) (u := (2 + u19)) hT (by omega) (by omega)
        have g442 : Dg tB tN (h 1 2 + 2) := ⟨by omega, by omega, by omega⟩
        have z443 := hT.1
        have z444 := Tp.at (p := (h 1 2 + 3)) (u := (3 + u19)) hT (by omega) (by omega)
        have g445 : ¬ Dg tB tN (h 1 2 + 3) := fun z => by have z1 := z.1; have z2 := z.2.1; have z3 := z.2.2; omega
        have z446 := nv3 (B := tB) (p := h 1 2)
        refine x_retI (np := 77) (x := 0) (by decide +kernel) (by decide) (Or.inl (by decide +kernel)) ⟨_, rfl, (by decide), ?_⟩
        exact ⟨hJ, hF, (by omega), (by omega), (fun z => by omega), (fun z => by omega), (Nr.nor (by omega) (Nu.mk3 g438 g440 g442 g445) (by omega))⟩
      have q435 : ¬ (v361 < a1) := q435
      refine x_iload (np := 71) (x := 3) (by decide +kernel) rfl (by omega) ?_
      refine x_iload (np := 72) (x := 2) (by decide +kernel) rfl la2 ?_
      refine x_icmp (k := 5) (tg := 77) (np := 75) (by decide +kernel) (by decide) (by omega) la2 (fun q447 => ?_) (fun q448 => ?_)
      · have q447 : v361 ≤ a2 := q447
        refine x_aload (np := 78) (x := 0) (by decide +kernel) rfl (x_nc_le (by decide)) ?_
        refine x_aload (np := 79) (x := 0) (by decide +kernel) rfl (x_nc_le (by decide)) ?_
        refine x_getC (np := 82) (x := 450) (f := 2) (q := (h 1 2)) (by decide +kernel) (by decide) (by decide +kernel) rfl (fun l449 => ?_)
        refine x_iload (np := 84) (x := 4) (by decide +kernel) rfl (by decide) ?_
        refine x_iadd (np := 85) (x := 0) (v := (3 + (h 1 2))) (by decide +kernel) l4 (by decide) (by omega) (by omega) ?_
        refine x_cV (t := 6) (mj := 80) (n := 2) (rc := 8) (ml := 2) (nr := 0) (np := 88) (as := [x_r 1, iv_c (3 + (h 1 2))]) (rest := []) (lo1 := [x_r 1, iv_c (3 + (h 1 2))]) (by decide +kernel) (by decide) (by decide +kernel) (x_rb_of (by decide +kernel)) rfl rfl (x_wr (by decide) (x_wi (by omega) x_wn)) x_wn (by decide) rfl (c80_1 hJ  (by omega) hT) (fun h453 q452 => ?_)
        obtain ⟨j454, f455, c458, c459⟩ := q452
        have f460 := Fr.trans hF f455 (by decide)
        have b461 := jB (e := 2) 0 j454 rg_1_2_0_1 (by omega) (by omega)
        refine x_iload (np := 89) (x := 3) (by decide +kernel) rfl (by omega) ?_
        have z462 := hT.1
        have z463 := Tp.at (p := (h 1 2 + 0)) (u := u19) hT (by omega) (by omega)
        have g464 : Dg tB tN (h 1 2 + 0) := ⟨by omega, by omega, by omega⟩
        have z465 := Tp.at (p := (h 1 2 + 1)) (u := (1 + u19)) hT (by omega) (by omega)
        have g466 : Dg tB tN (h 1 2 + 1) := ⟨by omega, by omega, by omega⟩
        have z467 := Tp.at (p := (h 1 2 + 2)) (u := (2 + u19)) hT (by omega) (by omega)
        have g468 : Dg tB tN (h 1 2 + 2) := ⟨by omega, by omega, by omega⟩
        have z469 := hT.1
        have z470 := Tp.at (p := (h 1 2 + 3)) (u := (3 + u19)) hT (by omega) (by omega)
        have g471 : ¬ Dg tB tN (h 1 2 + 3) := fun z => by have z1 := z.1; have z2 := z.2.1; have z3 := z.2.2; omega
        have z472 := nv3 (B := tB) (p := h 1 2)
        refine x_retI (np := 90) (x := 0) (by decide +kernel) (by omega) (Or.inl (by decide +kernel)) ⟨_, rfl, (by omega), ?_⟩
        exact ⟨j454, f460, (by omega), (by omega), (fun z => by omega), (fun z => by omega), (Nr.yes (Nu.mk3 g464 g466 g468 g471) (by omega) (by omega) (by omega) c459 (by omega))⟩
      have q448 : ¬ (v361 ≤ a2) := q448
      refine x_const (np := 76) (x := 9223372034707292159) (a := 2147483647) (by decide +kernel) (by decide) (by decide) ?_
      have z473 := hT.1
      have z474 := Tp.at (p := (h 1 2 + 0)) (u := u19) hT (by omega) (by omega)
      have g475 : Dg tB tN (h 1 2 + 0) := ⟨by omega, by omega, by omega⟩
      have z476 := Tp.at (p := (h 1 2 + 1)) (u := (1 + u19)) hT (by omega) (by omega)
      have g477 : Dg tB tN (h 1 2 + 1) := ⟨by omega, by omega, by omega⟩
      have z478 := Tp.at (p := (h 1 2 + 2)) (u := (2 + u19)) hT (by omega) (by omega)
      have g479 : Dg tB tN (h 1 2 + 2) := ⟨by omega, by omega, by omega⟩
      have z480 := hT.1
      have z481 := Tp.at (p := (h 1 2 + 3)) (u := (3 + u19)) hT (by omega) (by omega)
      have g482 : ¬ Dg tB tN (h 1 2 + 3) := fun z => by have z1 := z.1; have z2 := z.2.1; have z3 := z.2.2; omega
      have z483 := nv3 (B := tB) (p := h 1 2)
      refine x_retI (np := 77) (x := 0) (by decide +kernel) (by decide) (Or.inl (by decide +kernel)) ⟨_, rfl, (by decide), ?_⟩
      exact ⟨hJ, hF, (by omega), (by omega), (fun z => by omega), (fun z => by omega), (Nr.nor (by omega) (Nu.mk3 g475 g477 g479 g482) (by omega))⟩
    have q429 : ¬ (2147483648 = 2147483648) := q429
    exfalso; omega
  have q427 : ¬ ((h 2 (3 + u19)) < 2147483696) := q427
  refine x_iload (np := 7) (x := 0) (by decide +kernel) rfl l425 ?_
  refine x_const (np := 9) (x := 9223372283815395385) (a := 2147483705) (by decide +kernel) (by decide) (by decide) ?_
  refine x_icmp (k := 4) (tg := 16) (np := 12) (by decide +kernel) (by decide) l425 (by decide) (fun q484 => ?_) (fun q485 => ?_)
  · have q484 : 2147483705 < (h 2 (3 + u19)) := q484
    refine x_const (np := 17) (x := 9223372039002259456) (a := 2147483648) (by decide +kernel) (by decide) (by decide) ?_
    refine x_retI (np := 18) (x := 0) (by decide +kernel) (by decide) (Or.inr ⟨by decide +kernel, by omega, by omega⟩) ⟨_, rfl, (by decide), ?_⟩
    refine x_ifz (k := 0) (tg := 54) (np := 28) (by decide +kernel) (by decide) (by decide) (fun q486 => ?_) (fun q487 => ?_)
    · have q486 : 2147483648 = 2147483648 := q486
      refine x_iload (np := 56) (x := 4) (by decide +kernel) rfl (by decide) ?_
      refine x_ifz (k := 0) (tg := 75) (np := 59) (by decide +kernel) (by decide) (by decide) (fun q488 => ?_) (fun q489 => ?_)
      · have q488 : 2147483651 = 2147483648 := q488
        exfalso; omega
      have q489 : ¬ (2147483651 = 2147483648) := q489
      refine x_iload (np := 61) (x := 4) (by decide +kernel) rfl (by decide) ?_
      refine x_const (np := 62) (x := 9223372051887161347) (a := 2147483651) (by decide +kernel) (by decide) (by decide) ?_
      refine x_icmp (k := 4) (tg := 75) (np := 65) (by decide +kernel) (by decide) (by decide) (by decide) (fun q490 => ?_) (fun q491 => ?_)
      · have q490 : 2147483651 < 2147483651 := q490
        exfalso; omega
      have q491 : ¬ (2147483651 < 2147483651) := q491
      refine x_iload (np := 66) (x := 3) (by decide +kernel) rfl (by omega) ?_
      refine x_iload (np := 67) (x := 1) (by decide +kernel) rfl la1 ?_
      refine x_icmp (k := 2) (tg := 75) (np := 70) (by decide +kernel) (by decide) (by omega) la1 (fun q492 => ?_) (fun q493 => ?_)
      · have q492 : v361 < a1 := q492
        refine x_const (np := 76) (x := 9223372034707292159) (a := 2147483647) (by decide +kernel) (by decide) (by decide) ?_
        have z494 := hT.1
        have z495 := Tp.at (p := (h 1 2 + 0)) (u := u19) hT (by omega) (by omega)
        have g496 : Dg tB tN (h 1 2 + 0) := ⟨by omega, by omega, by omega⟩
        have z497 := Tp.at (p := (h 1 2 + 1)) (u := (1 + u19)) hT (by omega) (by omega)
        have g498 : Dg tB tN (h 1 2 + 1) := ⟨by omega, by omega, by omega⟩
        have z499 := Tp.at (p := (h 1 2 + 2)) (u := (2 + u19)) hT (by omega) (by omega)
        have g500 : Dg tB tN (h 1 2 + 2) := ⟨by omega, by omega, by omega⟩
        have z501 := hT.1
        have z502 := Tp.at (p := (h 1 2 + 3)) (u := (3 + u19)) hT (by omega) (by omega)
        have g503 : ¬ Dg tB tN (h 1 2 + 3) := fun z => by have z1 := z.1; have z2 := z.2.1; have z3 := z.2.2; omega
        have z504 := nv3 (B := tB) (p := h 1 2)
        refine x_retI (np := 77) (x := 0) (by decide +kernel) (by decide) (Or.inl (by decide +kernel)) ⟨_, rfl, (by decide), ?_⟩
        exact ⟨hJ, hF, (by omega), (by omega), (fun z => by omega), (fun z => by omega), (Nr.nor (by omega) (Nu.mk3 g496 g498 g500 g503) (by omega))⟩
      have q493 : ¬ (v361 < a1) := q493
      refine x_iload (np := 71) (x := 3) (by decide +kernel) rfl (by omega) ?_
      refine x_iload (np := 72) (x := 2) (by decide +kernel) rfl la2 ?_
      refine x_icmp (k := 5) (tg := 77) (np := 75) (by decide +kernel) (by decide) (by omega) la2 (fun q505 => ?_) (fun q506 => ?_)
      · have q505 : v361 ≤ a2 := q505
        refine x_aload (np := 78) (x := 0) (by decide +kernel) rfl (x_nc_le (by decide)) ?_
        refine x_aload (np := 79) (x := 0) (by decide +kernel) rfl (x_nc_le (by decide)) ?_
        refine x_getC (np := 82) (x := 450) (f := 2) (q := (h 1 2)) (by decide +kernel) (by decide) (by decide +kernel) rfl (fun l507 => ?_)
        refine x_iload (np := 84) (x := 4) (by decide +kernel) rfl (by decide) ?_
        refine x_iadd (np := 85) (x := 0) (v := (3 + (h 1 2))) (by decide +kernel) l4 (by decide) (by omega) (by omega) ?_
        refine x_cV (t := 6) (mj := 80) (n := 2) (rc := 8) (ml := 2) (nr := 0) (np := 88) (as := [x_r 1, iv_c (3 + (h 1 2))]) (rest := []) (lo1 := [x_r 1, iv_c (3 + (h 1 2))]) (by decide +kernel) (by decide) (by decide +kernel) (x_rb_of (by decide +kernel)) rfl rfl (x_wr (by decide) (x_wi (by omega) x_wn)) x_wn (by decide) rfl (c80_1 hJ  (by omega) hT) (fun h511 q510 => ?_)
        obtain ⟨j512, f513, c516, c517⟩ := q510
        have f518 := Fr.trans hF f513 (by decide)
        have b519 := jB (e := 2) 0 j512 rg_1_2_0_1 (by omega) (by omega)
        refine x_iload (np := 89) (x := 3) (by decide +kernel) rfl (by omega) ?_
        have z520 := hT.1
        have z521 := Tp.at (p := (h 1 2 + 0)) (u := u19) hT (by omega) (by omega)
        have g522 : Dg tB tN (h 1 2 + 0) := ⟨by omega, by omega, by omega⟩
        have z523 := Tp.at (p := (h 1 2 + 1)) (u := (1 + u19)) hT (by omega) (by omega)
        have g524 : Dg tB tN (h 1 2 + 1) := ⟨by omega, by omega, by omega⟩
        have z525 := Tp.at (p := (h 1 2 + 2)) (u := (2 + u19)) hT (by omega) (by omega)
        have g526 : Dg tB tN (h 1 2 + 2) := ⟨by omega, by omega, by omega⟩
        have z527 := hT.1
        have z528 := Tp.at (p := (h 1 2 + 3)) (u := (3 + u19)) hT (by omega) (by omega)
        have g529 : ¬ Dg tB tN (h 1 2 + 3) := fun z => by have z1 := z.1; have z2 := z.2.1; have z3 := z.2.2; omega
        have z530 := nv3 (B := tB) (p := h 1 2)
        refine x_retI (np := 90) (x := 0) (by decide +kernel) (by omega) (Or.inl (by decide +kernel)) ⟨_, rfl, (by omega), ?_⟩
        exact ⟨j512, f518, (by omega), (by omega), (fun z => by omega), (fun z => by omega), (Nr.yes (Nu.mk3 g522 g524 g526 g529) (by omega) (by omega) (by omega) c517 (by omega))⟩
      have q506 : ¬ (v361 ≤ a2) := q506
      refine x_const (np := 76) (x := 9223372034707292159) (a := 2147483647) (by decide +kernel) (by decide) (by decide) ?_
      have z531 := hT.1
      have z532 := Tp.at (p := (h 1 2 + 0)) (u := u19) hT (by omega) (by omega)
      have g533 : Dg tB tN (h 1 2 + 0) := ⟨by omega, by omega, by omega⟩
      have z534 := Tp.at (p := (h 1 2 + 1)) (u := (1 + u19)) hT (by omega) (by omega)
      have g535 : Dg tB tN (h 1 2 + 1) := ⟨by omega, by omega, by omega⟩
      have z536 := Tp.at (p := (h 1 2 + 2)) (u := (2 + u19)) hT (by omega) (by omega)
      have g537 : Dg tB tN (h 1 2 + 2) := ⟨by omega, by omega, by omega⟩
      have z538 := hT.1
      have z539 := Tp.at (p := (h 1 2 + 3)) (u := (3 + u19)) hT (by omega) (by omega)
      have g540 : ¬ Dg tB tN (h 1 2 + 3) := fun z => by have z1 := z.1; have z2 := z.2.1; have z3 := z.2.2; omega
      have z541 := nv3 (B := tB) (p := h 1 2)
      refine x_retI (np := 77) (x := 0) (by decide +kernel) (by decide) (Or.inl (by decide +kernel)) ⟨_, rfl, (by decide), ?_⟩
      exact ⟨hJ, hF, (by omega), (by omega), (fun z => by omega), (fun z => by omega), (Nr.nor (by omega) (Nu.mk3 g533 g535 g537 g540) (by omega))⟩
    have q487 : ¬ (2147483648 = 2147483648) := q487
    exfalso; omega
  have q485 : ¬ (2147483705 < (h 2 (3 + u19))) := q485
  refine x_const (np := 13) (x := 9223372043297226753) (a := 2147483649) (by decide +kernel) (by decide) (by decide) ?_
  refine x_goto (np := 16) (x := 17) (by decide +kernel) ?_
  refine x_retI (np := 18) (x := 0) (by decide +kernel) (by decide) (Or.inr ⟨by decide +kernel, by omega, by omega⟩) ⟨_, rfl, (by decide), ?_⟩
  refine x_ifz (k := 0) (tg := 54) (np := 28) (by decide +kernel) (by decide) (by decide) (fun q542 => ?_) (fun q543 => ?_)
  · have q542 : 2147483649 = 2147483648 := q542
    exfalso; omega
  have q543 : ¬ (2147483649 = 2147483648) := q543
  refine x_iload (np := 29) (x := 3) (by decide +kernel) rfl (by omega) ?_
  refine x_const (np := 31) (x := 9223372081951932426) (a := 2147483658) (by decide +kernel) (by decide) (by decide) ?_
  obtain ⟨u544, q545⟩ : ∃ z, v361 = 2147483648 + z := ⟨v361 - 2147483648, by omega⟩
  refine x_imul (np := 32) (x := 0) (i := u544) (j := 10) (v := (2147483648 + 10 * u544)) (by decide +kernel) (by omega) (by omega) (by omega) (by omega) (by omega) (by decide) ?_
  refine x_aload (np := 33) (x := 0) (by decide +kernel) rfl (x_nc_le (by decide)) ?_
  refine x_aload (np := 34) (x := 0) (by decide +kernel) rfl (x_nc_le (by decide)) ?_
  refine x_getC (np := 37) (x := 450) (f := 2) (q := (h 1 2)) (by decide +kernel) (by decide) (by decide +kernel) rfl (fun l547 => ?_)
  refine x_iload (np := 39) (x := 4) (by decide +kernel) rfl (by decide) ?_
  refine x_iadd (np := 40) (x := 0) (v := (3 + (h 1 2))) (by decide +kernel) l4 (by decide) (by omega) (by omega) ?_
  refine x_nI (t := 6) (mj := 81) (n := 2) (rc := 8) (ml := 2) (nr := 1) (np := 43) (as := [x_r 1, iv_c (3 + (h 1 2))]) (rest := [iv_c (2147483648 + 10 * u544)]) (lo1 := [x_r 1, iv_c (3 + (h 1 2))]) (by decide +kernel) (by decide) (by decide +kernel) (x_rb_of (by decide +kernel)) rfl rfl (x_wr (by decide) (x_wi (by omega) x_wn)) (x_wi (by omega) x_wn) (by decide) rfl ?_
  refine x_iload (np := 1) (x := 1) (by decide +kernel) rfl (by omega) ?_
  refine x_aload (np := 2) (x := 0) (by decide +kernel) rfl (x_nc_le (by decide)) ?_
  refine x_getC (np := 5) (x := 449) (f := 1) (q := (h 1 1)) (by decide +kernel) (by decide) (by decide +kernel) rfl (fun l548 => ?_)
  refine x_icmp (k := 3) (tg := 17) (np := 8) (by decide +kernel) (by decide) (by omega) l6 (fun q549 => ?_) (fun q550 => ?_)
  · have q549 : (h 1 1) ≤ (3 + (h 1 2)) := q549
    exfalso; omega
  have q550 : ¬ ((h 1 1) ≤ (3 + (h 1 2))) := q550
  refine x_aload (np := 9) (x := 0) (by decide +kernel) rfl (x_nc_le (by decide)) ?_
  have q551 : h 1 0 = 2 := by have z := jB (e := 0) 0 hJ rg_1_0_0_1 (by decide) (by decide); omega
  refine x_getR (np := 12) (x := 448) (f := 0) (q := 2) (by decide +kernel) (by decide) (by decide +kernel) q551 ?_
  refine x_iload (np := 13) (x := 1) (by decide +kernel) rfl (by omega) ?_
  refine x_aldC (np := 14) (x := 0) (n := 400) (i := (3 + u19)) (q := (h 2 (3 + u19))) (by decide +kernel) (by decide +kernel) (by omega) (by omega) (by decide) rfl (fun l552 => ?_)
  refine x_goto (np := 17) (x := 18) (by decide +kernel) ?_
  refine x_retI (np := 19) (x := 0) (by decide +kernel) l425 (Or.inl (by decide +kernel)) ⟨_, rfl, l425, ?_⟩
  refine x_iadd (np := 44) (x := 0) (v := (10 * u544 + (h 2 (3 + u19)))) (by decide +kernel) (by omega) l425 (by omega) (by omega) ?_
  refine x_const (np := 46) (x := 9223372245160689712) (a := 2147483696) (by decide +kernel) (by decide) (by decide) ?_
  obtain ⟨v553, q554⟩ : ∃ z, z + 2147483696 = (10 * u544 + (h 2 (3 + u19))) + 2147483648 := ⟨(10 * u544 + (h 2 (3 + u19))) + 2147483648 - 2147483696, by omega⟩
  refine x_isub (np := 47) (x := 0) (v := v553) (by decide +kernel) (by omega) (by decide) (by omega) (by omega) ?_
  refine x_istore (np := 48) (x := 3) (lo' := [x_r 1, iv_c a1, iv_c a2, iv_c v553, iv_c 2147483651]) (by decide +kernel) (by omega) (Nat.le_of_ble_eq_true rfl) rfl ?_
  refine x_iinc (np := 51) (i := 4) (j := 2147483649) (v := 2147483652) (lo' := [x_r 1, iv_c a1, iv_c a2, iv_c v553, iv_c 2147483652]) (by decide +kernel) (by decide) (by decide) rfl (by decide) (by omega) (by omega) rfl ?_
  refine x_goto (np := 54) (x := 5) (by decide +kernel) ?_
  refine x_iload (np := 7) (x := 4) (by decide +kernel) rfl (by decide) ?_
  refine x_const (np := 8) (x := 9223372051887161347) (a := 2147483651) (by decide +kernel) (by decide) (by decide) ?_
  refine x_icmp (k := 4) (tg := 54) (np := 11) (by decide +kernel) (by decide) (by decide) (by decide) (fun q555 => ?_) (fun q556 => ?_)
  · have q555 : 2147483651 < 2147483652 := q555
    refine x_iload (np := 56) (x := 4) (by decide +kernel) rfl (by decide) ?_
    refine x_ifz (k := 0) (tg := 75) (np := 59) (by decide +kernel) (by decide) (by decide) (fun q557 => ?_) (fun q558 => ?_)
    · have q557 : 2147483652 = 2147483648 := q557
      exfalso; omega
    have q558 : ¬ (2147483652 = 2147483648) := q558
    refine x_iload (np := 61) (x := 4) (by decide +kernel) rfl (by decide) ?_
    refine x_const (np := 62) (x := 9223372051887161347) (a := 2147483651) (by decide +kernel) (by decide) (by decide) ?_
    refine x_icmp (k := 4) (tg := 75) (np := 65) (by decide +kernel) (by decide) (by decide) (by decide) (fun q559 => ?_) (fun q560 => ?_)
    · have q559 : 2147483651 < 2147483652 := q559
      refine x_const (np := 76) (x := 9223372034707292159) (a := 2147483647) (by decide +kernel) (by decide) (by decide) ?_
      have z561 := hT.1
      have z562 := Tp.at (p := (h 1 2 + 0)) (u := u19) hT (by omega) (by omega)
      have g563 : Dg tB tN (h 1 2 + 0) := ⟨by omega, by omega, by omega⟩
      have z564 := Tp.at (p := (h 1 2 + 1)) (u := (1 + u19)) hT (by omega) (by omega)
      have g565 : Dg tB tN (h 1 2 + 1) := ⟨by omega, by omega, by omega⟩
      have z566 := Tp.at (p := (h 1 2 + 2)) (u := (2 + u19)) hT (by omega) (by omega)
      have g567 : Dg tB tN (h 1 2 + 2) := ⟨by omega, by omega, by omega⟩
      have z568 := Tp.at (p := (h 1 2 + 3)) (u := (3 + u19)) hT (by omega) (by omega)
      have g569 : Dg tB tN (h 1 2 + 3) := ⟨by omega, by omega, by omega⟩
      refine x_retI (np := 77) (x := 0) (by decide +kernel) (by decide) (Or.inl (by decide +kernel)) ⟨_, rfl, (by decide), ?_⟩
      exact ⟨hJ, hF, (by omega), (by omega), (fun z => by omega), (fun z => by omega), (Nr.nob (by omega) (Nb.mk4 g563 g565 g567 g569))⟩
    have q560 : ¬ (2147483651 < 2147483652) := q560
    exfalso; omega
  have q556 : ¬ (2147483651 < 2147483652) := q556
  exfalso; omega
set_option maxHeartbeats 0 in
/-- LentNames$TownReader.readSighting()Z -/
theorem c100_61 {sc : Nat × Nat} {d  : Nat} {h : xh} {tB : Nat → Nat} {tN : Nat} (hJ : J h) (hr0 : (rv h 5) + 1 ≤ 2147483658) (hT : Tp tB tN h) : X sc 100 (d + 7) (xI fun r h' => J h' ∧ Fr 281474976710817 h h' ∧ (2147483648 ≤ r ∧ r ≤ 2147483649) ∧ (rv h' 0 = rv h 0) ∧ (rv h' 1 = rv h 1) ∧ (rv h' 2 = rv h 2) ∧ (rv h' 3 = rv h 3) ∧ (rv h' 4 = rv h 4) ∧ (r = 2147483649 → rv h' 5 = rv h 5 + 1) ∧ seen9 tB tN (rv h 0) (h 1 2) (rs r (h' 1 2)) ∧ Ot (h 61 1) h h') 0 0 0 [x_r 61, 147573952589676412928] [] h := by
  have hF := Fr.refl 281474976710817 h
  have t1 : tw (h 61 1) := hJ.2.2.2.2.1
  have b2 := jB (e := 2) 0 hJ (rg_T7_2_0_1 t1) (by omega) (by omega)
  have e3 : rv h 5 = (h ((h 61 1) + 7) 2) := (congrArg (fun z => svq h z 5) rfl).trans rfl
  refine x_aload (np := 1) (x := 0) (by decide +kernel) rfl (x_nc_le (by decide)) ?_
  refine x_getR (np := 4) (x := 577) (f := 1) (q := (h 61 1)) (by decide +kernel) (by decide) (by decide +kernel) rfl ?_
  have q4 : h (h 61 1) 3 = ((h 61 1) + 7) := tf_0_3 hJ t1
  refine x_getR (np := 7) (x := 515) (f := 3) (q := ((h 61 1) + 7)) (by decide +kernel) (by decide) (tg_0_515_3_1 t1) q4 ?_
  refine x_cI (t := 6) (mj := 67) (n := 1) (rc := 7) (ml := 2) (nr := 0) (np := 10) (as := [x_r ((h 61 1) + 7)]) (rest := []) (lo1 := [x_r ((h 61 1) + 7), 147573952589676412928]) (by decide +kernel) (by decide) (by decide +kernel) (x_rb_of (tr_7_7 t1)) rfl rfl (x_wr (tn_7 t1) x_wn) x_wn (by decide) rfl (c67_T7 hJ t1 (by omega)) (fun v5 h8 l6 q7 => ?_)
  obtain ⟨j9, f10, b11, c12, c13, c14, c15, c16, c17, c18, c19⟩ := q7
  have f20 := Fr.trans hF f10 (by decide)
  have b21 := jB (e := 7) 0 hJ (rg_T0_7_0_1 t1) (by omega) (by omega)
  have b22 := jB (e := 7) 0 j9 (rg_T0_7_0_1 t1) (by omega) (by omega)
  have b23 := jB (e := 2) 0 hJ (rg_T1_2_0_1 t1) (by omega) (by omega)
  have b24 := jB (e := 2) 0 j9 (rg_T1_2_0_1 t1) (by omega) (by omega)
  have b25 := jB (e := 2) 0 hJ (rg_T3_2_0_1 t1) (by omega) (by omega)
  have b26 := jB (e := 2) 0 j9 (rg_T3_2_0_1 t1) (by omega) (by omega)
  have b27 := jB (e := 2) 0 hJ (rg_T5_2_0_1 t1) (by omega) (by omega)
  have b28 := jB (e := 2) 0 j9 (rg_T5_2_0_1 t1) (by omega) (by omega)
  have b29 := jB (e := 2) 0 j9 (rg_T7_2_0_1 t1) (by omega) (by omega)
  refine x_istore (np := 11) (x := 1) (lo' := [x_r 61, iv_c v5]) (by decide +kernel) l6 (Nat.le_of_ble_eq_true rfl) rfl ?_
  refine x_aload (np := 12) (x := 0) (by decide +kernel) rfl (x_nc_le (by decide)) ?_
  refine x_aload (np := 13) (x := 0) (by decide +kernel) rfl (x_nc_le (by decide)) ?_
  have q30 : h8 61 1 = h 61 1 := f10 61 1 (by decide +kernel)
  refine x_getR (np := 16) (x := 577) (f := 1) (q := (h 61 1)) (by decide +kernel) (by decide) (by decide +kernel) q30 ?_
  have q31 : h8 (h 61 1) 3 = ((h 61 1) + 7) := tf_0_3 j9 t1
  refine x_getR (np := 19) (x := 515) (f := 3) (q := ((h 61 1) + 7)) (by decide +kernel) (by decide) (tg_0_515_3_1 t1) q31 ?_
  refine x_iload (np := 20) (x := 1) (by decide +kernel) rfl l6 ?_
  refine x_const (np := 21) (x := 9223372039002259456) (a := 2147483648) (by decide +kernel) (by decide) (by decide) ?_
  refine x_const (np := 22) (x := 9223372039002259456) (a := 2147483648) (by decide +kernel) (by decide) (by decide) ?_
  refine x_aload (np := 23) (x := 0) (by decide +kernel) rfl (x_nc_le (by decide)) ?_
  have q32 : h8 61 1 = h 61 1 := f10 61 1 (by decide +kernel)
  refine x_getR (np := 26) (x := 577) (f := 1) (q := (h 61 1)) (by decide +kernel) (by decide) (by decide +kernel) q32 ?_
  refine x_getC (np := 29) (x := 519) (f := 7) (q := (h8 (h 61 1) 7)) (by decide +kernel) (by decide) (tg_0_519_7_0 t1) rfl (fun l33 => ?_)
  refine x_const (np := 30) (x := 9223372043297226753) (a := 2147483649) (by decide +kernel) (by decide) (by decide) ?_
  obtain ⟨v34, q35⟩ : ∃ z, z + 2147483649 = (h8 (h 61 1) 7) + 2147483648 := ⟨(h8 (h 61 1) 7) + 2147483648 - 2147483649, by omega⟩
  refine x_isub (np := 31) (x := 0) (v := v34) (by decide +kernel) l33 (by decide) (by omega) (by omega) ?_
  refine x_nI (t := 6) (mj := 102) (n := 6) (rc := 10) (ml := 7) (nr := 0) (np := 34) (as := [x_r 61, x_r ((h 61 1) + 7), iv_c v5, iv_c 2147483648, iv_c 2147483648, iv_c v34]) (rest := []) (lo1 := [x_r 61, x_r ((h 61 1) + 7), iv_c v5, iv_c 2147483648, iv_c 2147483648, iv_c v34, 147573952589676412928]) (by decide +kernel) (by decide) (by decide +kernel) (x_rb_of (by decide +kernel)) rfl rfl (x_wr (by decide) (x_wr (tn_7 t1) (x_wi l6 (x_wi (by decide) (x_wi (by decide) (x_wi (by omega) x_wn)))))) x_wn (by decide) rfl ?_
  refine x_aload (np := 1) (x := 0) (by decide +kernel) rfl (x_nc_le (by decide)) ?_
  have q36 : h8 61 0 = 1 := by have z := jB (e := 0) 0 j9 rg_61_0_0_1 (by decide) (by decide); omega
  refine x_getR (np := 4) (x := 576) (f := 0) (q := 1) (by decide +kernel) (by decide) (by decide +kernel) q36 ?_
  refine x_iload (np := 6) (x := 4) (by decide +kernel) rfl (by decide) ?_
  refine x_iload (np := 8) (x := 5) (by decide +kernel) rfl (by omega) ?_
  have m40 := Tp.fr hT f10 (by decide) (by decide)
  refine x_cI (t := 6) (mj := 79) (n := 3) (rc := 8) (ml := 5) (nr := 0) (np := 11) (as := [x_r 1, iv_c 2147483648, iv_c v34]) (rest := []) (lo1 := [x_r 1, iv_c 2147483648, iv_c v34, 147573952589676412928, 147573952589676412928]) (by decide +kernel) (by decide) (by decide +kernel) (x_rb_of (by decide +kernel)) rfl rfl (x_wr (by decide) (x_wi (by decide) (x_wi (by omega) x_wn))) x_wn (by decide) rfl (c79_1_c0 j9   (by omega) m40) (fun v37 h41 l38 q39 => ?_)
  obtain ⟨j42, f43, b44, c45, c46, c47, c48⟩ := q39
  have f49 := Fr.trans f20 f43 (by decide)
  have q50 : h8 1 2 = h 1 2 := jK 0 f10 rg_1_2_0_1 (by omega) (by omega) (by decide)
  have b51 := jB (e := 2) 0 hJ rg_1_2_0_1 (by omega) (by omega)
  have b52 := jB (e := 2) 0 j42 rg_1_2_0_1 (by omega) (by omega)
  have q53 : h8 1 2 = h 1 2 := jK 0 f10 rg_1_2_0_1 (by omega) (by omega) (by decide)
  refine x_istore (np := 13) (x := 6) (lo' := [x_r 61, x_r ((h 61 1) + 7), iv_c v5, iv_c 2147483648, iv_c 2147483648, iv_c v34, iv_c v37]) (by decide +kernel) l38 (Nat.le_of_ble_eq_true rfl) rfl ?_
  refine x_iload (np := 15) (x := 6) (by decide +kernel) rfl l38 ?_
  refine x_const (np := 16) (x := 9223372034707292159) (a := 2147483647) (by decide +kernel) (by decide) (by decide) ?_
  refine x_icmp (k := 1) (tg := 21) (np := 19) (by decide +kernel) (by decide) l38 (by decide) (fun q54 => ?_) (fun q55 => ?_)
  · have q54 : v37 ≠ 2147483647 := q54
    have b56 := c46 (by omega)
    refine x_aload (np := 22) (x := 1) (by decide +kernel) rfl (x_nc_le (tn_7 t1)) ?_
    refine x_iload (np := 23) (x := 2) (by decide +kernel) rfl l6 ?_
    refine x_iload (np := 24) (x := 3) (by decide +kernel) rfl (by decide) ?_
    refine x_iload (np := 26) (x := 6) (by decide +kernel) rfl l38 ?_
    refine x_nV (t := 6) (mj := 69) (n := 4) (rc := 7) (ml := 5) (nr := 0) (np := 29) (as := [x_r ((h 61 1) + 7), iv_c v5, iv_c 2147483648, iv_c v37]) (rest := []) (lo1 := [x_r ((h 61 1) + 7), iv_c v5, iv_c 2147483648, iv_c v37, 147573952589676412928]) (by decide +kernel) (by decide) (by decide +kernel) (x_rb_of (tr_7_7 t1)) rfl rfl (x_wr (tn_7 t1) (x_wi l6 (x_wi (by decide) (x_wi l38 x_wn)))) x_wn (by decide) rfl ?_
    refine x_iload (np := 1) (x := 1) (by decide +kernel) rfl l6 ?_
    refine x_ifz (k := 2) (tg := 28) (np := 4) (by decide +kernel) (by decide) l6 (fun q57 => ?_) (fun q58 => ?_)
    · have q57 : v5 < 2147483648 := q57
      exfalso; omega
    have q58 : ¬ (v5 < 2147483648) := q58
    refine x_iload (np := 5) (x := 1) (by decide +kernel) rfl l6 ?_
    refine x_aload (np := 6) (x := 0) (by decide +kernel) rfl (x_nc_le (tn_7 t1)) ?_
    have q59 : h41 ((h 61 1) + 7) 2 = h8 ((h 61 1) + 7) 2 := jK 0 f43 (rg_T7_2_0_1 t1) (by omega) (by omega) (by decide)
    refine x_getC (np := 9) (x := 386) (f := 2) (q := (h8 ((h 61 1) + 7) 2)) (by decide +kernel) (by decide) (tg_7_386_2_0 t1) q59 (fun l60 => ?_)
    refine x_icmp (k := 3) (tg := 28) (np := 12) (by decide +kernel) (by decide) l6 l60 (fun q61 => ?_) (fun q62 => ?_)
    · have q61 : (h8 ((h 61 1) + 7) 2) ≤ v5 := q61
      exfalso; omega
    have q62 : ¬ ((h8 ((h 61 1) + 7) 2) ≤ v5) := q62
    refine x_iload (np := 13) (x := 2) (by decide +kernel) rfl (by decide) ?_
    refine x_ifz (k := 2) (tg := 28) (np := 16) (by decide +kernel) (by decide) (by decide) (fun q63 => ?_) (fun q64 => ?_)
    · have q63 : 2147483648 < 2147483648 := q63
      exfalso; omega
    have q64 : ¬ (2147483648 < 2147483648) := q64
    refine x_iload (np := 17) (x := 2) (by decide +kernel) rfl (by decide) ?_
    refine x_aload (np := 18) (x := 0) (by decide +kernel) rfl (x_nc_le (tn_7 t1)) ?_
    have q65 : h41 ((h 61 1) + 7) 0 = h8 ((h 61 1) + 7) 0 := jK 0 f43 (rg_T7_0_0_1 t1) (by omega) (by omega) (by decide)
    have b66 := jB (e := 0) 0 j9 (rg_T7_0_0_1 t1) (by omega) (by omega)
    have q67 : (h8 ((h 61 1) + 7) 0) = 2147483652 := by omega
    refine x_getC (np := 21) (x := 384) (f := 0) (q := 2147483652) (by decide +kernel) (by decide) (tg_7_384_0_0 t1) (q65.trans q67) (fun l68 => ?_)
    refine x_icmp (k := 3) (tg := 28) (np := 24) (by decide +kernel) (by decide) (by decide) (by decide) (fun q69 => ?_) (fun q70 => ?_)
    · have q69 : 2147483652 ≤ 2147483648 := q69
      exfalso; omega
    have q70 : ¬ (2147483652 ≤ 2147483648) := q70
    refine x_const (np := 25) (x := 9223372043297226753) (a := 2147483649) (by decide +kernel) (by decide) (by decide) ?_
    refine x_goto (np := 28) (x := 29) (by decide +kernel) ?_
    refine x_istore (np := 31) (x := 4) (lo' := [x_r ((h 61 1) + 7), iv_c v5, iv_c 2147483648, iv_c v37, iv_c 2147483649]) (by decide +kernel) (by decide) (Nat.le_of_ble_eq_true rfl) rfl ?_
    refine x_iload (np := 33) (x := 4) (by decide +kernel) rfl (by decide) ?_
    refine x_ifz (k := 0) (tg := 50) (np := 36) (by decide +kernel) (by decide) (by decide) (fun q71 => ?_) (fun q72 => ?_)
    · have q71 : 2147483649 = 2147483648 := q71
      exfalso; omega
    have q72 : ¬ (2147483649 = 2147483648) := q72
    refine x_aload (np := 37) (x := 0) (by decide +kernel) rfl (x_nc_le (tn_7 t1)) ?_
    have q73 : h41 ((h 61 1) + 7) 1 = ((h 61 1) + 8) := tf_7_1 j42 t1
    refine x_getR (np := 40) (x := 385) (f := 1) (q := ((h 61 1) + 8)) (by decide +kernel) (by decide) (tg_7_385_1_1 t1) q73 ?_
    refine x_iload (np := 41) (x := 1) (by decide +kernel) rfl l6 ?_
    refine x_aload (np := 42) (x := 0) (by decide +kernel) rfl (x_nc_le (tn_7 t1)) ?_
    have q74 : h41 ((h 61 1) + 7) 0 = h8 ((h 61 1) + 7) 0 := jK 0 f43 (rg_T7_0_0_1 t1) (by omega) (by omega) (by decide)
    refine x_getC (np := 45) (x := 384) (f := 0) (q := 2147483652) (by decide +kernel) (by decide) (tg_7_384_0_0 t1) (q74.trans q67) (fun l75 => ?_)
    obtain ⟨u76, q77⟩ : ∃ z, v5 = 2147483648 + z := ⟨v5 - 2147483648, by omega⟩
    refine x_imul (np := 46) (x := 0) (i := u76) (j := 4) (v := (2147483648 + 4 * u76)) (by decide +kernel) (by omega) (by omega) (by omega) (by omega) l6 (by decide) ?_
    refine x_iload (np := 47) (x := 2) (by decide +kernel) rfl (by decide) ?_
    refine x_iadd (np := 48) (x := 0) (v := (2147483648 + 4 * u76)) (by decide +kernel) (by omega) (by decide) (by omega) (by omega) ?_
    refine x_iload (np := 49) (x := 3) (by decide +kernel) rfl l38 ?_
    refine x_ast (np := 50) (x := 0) (kd := 1) (n := 40) (i := (4 * u76)) (by decide +kernel) (Or.inl rfl) (ta_8_40 t1) (by omega) (by omega) (by decide) l38 (fun z => absurd z (by decide)) ?_
    have j80 := jU (e := (4 * u76)) (v := v37) u76 j42 (rg_T8_0_4_10 t1) (by omega) (by omega) (by omega)
    have f82 := jF (e := (4 * u76)) (v := v37) u76 f49 (rg_T8_0_4_10 t1) (by omega) (by omega) (by decide)
    generalize e81 : x_up h41 ((h 61 1) + 8) (4 * u76) v37 = h79 at j80 f82 ⊢
    refine x_retV (np := 51) (x := 0) (by decide +kernel) (by decide +kernel) ⟨rfl, ?_⟩
    refine x_const (np := 30) (x := 9223372043297226753) (a := 2147483649) (by decide +kernel) (by decide) (by decide) ?_
    refine x_retI (np := 31) (x := 0) (by decide +kernel) (by decide) (Or.inr ⟨by decide +kernel, by omega, by omega⟩) ⟨_, rfl, (by decide), ?_⟩
    refine x_ifz (k := 0) (tg := 88) (np := 37) (by decide +kernel) (by decide) (by decide) (fun q83 => ?_) (fun q84 => ?_)
    · have q83 : 2147483649 = 2147483648 := q83
      exfalso; omega
    have q84 : ¬ (2147483649 = 2147483648) := q84
    refine x_aload (np := 38) (x := 0) (by decide +kernel) rfl (x_nc_le (by decide)) ?_
    have q85 : h79 61 0 = 1 := by have z := jB (e := 0) 0 j80 rg_61_0_0_1 (by decide) (by decide); omega
    refine x_getR (np := 41) (x := 576) (f := 0) (q := 1) (by decide +kernel) (by decide) (by decide +kernel) q85 ?_
    refine x_ldcB (i := 2) (idx := 111) (tx := "day") (by rw [tb_y100]; exact List.mem_of_getElem? (i := 2) rfl) (by decide) (by rw [tb_b100]; decide +kernel) ?_
    have m90 := Tp.fr m40 f43 (by decide) (by decide)
    have m89 : Tp tB tN h79 := by rw [← e81]; exact Tp.oth m90 (tne_8_2 t1) (fun z => absurd z.1 (tne_8_1 t1))
    refine x_cI (t := 6) (mj := 78) (n := 2) (rc := 8) (ml := 2) (nr := 0) (np := 46) (as := [x_r 1, x_b (2 + 1)]) (rest := []) (lo1 := [x_r 1, x_b (2 + 1)]) (by decide +kernel) (by decide) (by decide +kernel) (x_rb_of (by decide +kernel)) rfl rfl (x_wr (by decide) (x_wB (by decide) x_wn)) x_wn (by decide) rfl (c78_1_S0 j80  (by decide) m89) (fun v86 h91 l87 q88 => ?_)
    obtain ⟨j92, f93, b94, c95, c96, c97⟩ := q88
    have f98 := Fr.trans f82 f93 (by decide)
    have q99 : h79 1 2 = h41 1 2 := by rw [← e81]; exact x_up_k (Ne.symm (tne_8_1 t1))
    have b100 := jB (e := 2) 0 j92 rg_1_2_0_1 (by omega) (by omega)
    have b101 : iv_tl 2 = 3 := by decide
    have q102 : h79 1 2 = h41 1 2 := by rw [← e81]; exact x_up_k (Ne.symm (tne_8_1 t1))
    refine x_ifz (k := 0) (tg := 88) (np := 49) (by decide +kernel) (by decide) l87 (fun q103 => ?_) (fun q104 => ?_)
    · have q103 : v86 = 2147483648 := q103
      have b105 := c96 (by omega)
      refine x_const (np := 89) (x := 9223372039002259456) (a := 2147483648) (by decide +kernel) (by decide) (by decide) ?_
      have e106 : rv h 0 = (h (h 61 1) 7) := (congrArg (fun z => svq h z 0) rfl).trans rfl
      have q107 : h91 61 1 = h79 61 1 := f93 61 1 (by decide +kernel)
      have q108 : h79 61 1 = h41 61 1 := by rw [← e81]; exact x_up_k (Ne.symm (tne_8_61 t1))
      have q109 : h41 61 1 = h8 61 1 := f43 61 1 (by decide +kernel)
      have q110 : h8 61 1 = h 61 1 := f10 61 1 (by decide +kernel)
      have q111 : h91 (h 61 1) 7 = h79 (h 61 1) 7 := jK 0 f93 (rg_T0_7_0_1 t1) (by omega) (by omega) (by decide)
      have q112 : h79 (h 61 1) 7 = h41 (h 61 1) 7 := by rw [← e81]; exact x_up_k tof_0_8
      have q113 : h41 (h 61 1) 7 = h8 (h 61 1) 7 := jK 0 f43 (rg_T0_7_0_1 t1) (by omega) (by omega) (by decide)
      have e114 : rv h91 0 = (h8 (h 61 1) 7) := (congrArg (fun z => svq h91 z 0) (((q107.trans q108).trans q109).trans q110)).trans ((q111.trans q112).trans q113)
      have e115 : rv h 1 = (h (h 61 1) 8) := (congrArg (fun z => svq h z 1) rfl).trans rfl
      have q116 : h91 61 1 = h79 61 1 := f93 61 1 (by decide +kernel)
      have q117 : h79 61 1 = h41 61 1 := by rw [← e81]; exact x_up_k (Ne.symm (tne_8_61 t1))
      have q118 : h41 61 1 = h8 61 1 := f43 61 1 (by decide +kernel)
      have q119 : h8 61 1 = h 61 1 := f10 61 1 (by decide +kernel)
      have q120 : h91 (h 61 1) 8 = h79 (h 61 1) 8 := jK 0 f93 (rg_T0_8_0_1 t1) (by omega) (by omega) (by decide)
      have q121 : h79 (h 61 1) 8 = h41 (h 61 1) 8 := by rw [← e81]; exact x_up_k tof_0_8
      have q122 : h41 (h 61 1) 8 = h8 (h 61 1) 8 := jK 0 f43 (rg_T0_8_0_1 t1) (by omega) (by omega) (by decide)
      have e123 : rv h91 1 = (h8 (h 61 1) 8) := (congrArg (fun z => svq h91 z 1) (((q116.trans q117).trans q118).trans q119)).trans ((q120.trans q121).trans q122)
      have e124 : rv h 2 = (h ((h 61 1) + 1) 2) := (congrArg (fun z => svq h z 2) rfl).trans rfl
      have q125 : h91 61 1 = h79 61 1 := f93 61 1 (by decide +kernel)
      have q126 : h79 61 1 = h41 61 1 := by rw [← e81]; exact x_up_k (Ne.symm (tne_8_61 t1))
      have q127 : h41 61 1 = h8 61 1 := f43 61 1 (by decide +kernel)
      have q128 : h8 61 1 = h 61 1 := f10 61 1 (by decide +kernel)
      have q129 : h91 ((h 61 1) + 1) 2 = h79 ((h 61 1) + 1) 2 := jK 0 f93 (rg_T1_2_0_1 t1) (by omega) (by omega) (by decide)
      have q130 : h79 ((h 61 1) + 1) 2 = h41 ((h 61 1) + 1) 2 := by rw [← e81]; exact x_up_k tof_1_8
      have q131 : h41 ((h 61 1) + 1) 2 = h8 ((h 61 1) + 1) 2 := jK 0 f43 (rg_T1_2_0_1 t1) (by omega) (by omega) (by decide)
      have e132 : rv h91 2 = (h8 ((h 61 1) + 1) 2) := (congrArg (fun z => svq h91 z 2) (((q125.trans q126).trans q127).trans q128)).trans ((q129.trans q130).trans q131)
      have e133 : rv h 3 = (h ((h 61 1) + 3) 2) := (congrArg (fun z => svq h z 3) rfl).trans rfl
      have q134 : h91 61 1 = h79 61 1 := f93 61 1 (by decide +kernel)
      have q135 : h79 61 1 = h41 61 1 := by rw [← e81]; exact x_up_k (Ne.symm (tne_8_61 t1))
      have q136 : h41 61 1 = h8 61 1 := f43 61 1 (by decide +kernel)
      have q137 : h8 61 1 = h 61 1 := f10 61 1 (by decide +kernel)
      have q138 : h91 ((h 61 1) + 3) 2 = h79 ((h 61 1) + 3) 2 := jK 0 f93 (rg_T3_2_0_1 t1) (by omega) (by omega) (by decide)
      have q139 : h79 ((h 61 1) + 3) 2 = h41 ((h 61 1) + 3) 2 := by rw [← e81]; exact x_up_k tof_3_8
      have q140 : h41 ((h 61 1) + 3) 2 = h8 ((h 61 1) + 3) 2 := jK 0 f43 (rg_T3_2_0_1 t1) (by omega) (by omega) (by decide)
      have e141 : rv h91 3 = (h8 ((h 61 1) + 3) 2) := (congrArg (fun z => svq h91 z 3) (((q134.trans q135).trans q136).trans q137)).trans ((q138.trans q139).trans q140)
      have e142 : rv h 4 = (h ((h 61 1) + 5) 2) := (congrArg (fun z => svq h z 4) rfl).trans rfl
      have q143 : h91 61 1 = h79 61 1 := f93 61 1 (by decide +kernel)
      have q144 : h79 61 1 = h41 61 1 := by rw [← e81]; exact x_up_k (Ne.symm (tne_8_61 t1))
      have q145 : h41 61 1 = h8 61 1 := f43 61 1 (by decide +kernel)
      have q146 : h8 61 1 = h 61 1 := f10 61 1 (by decide +kernel)
      have q147 : h91 ((h 61 1) + 5) 2 = h79 ((h 61 1) + 5) 2 := jK 0 f93 (rg_T5_2_0_1 t1) (by omega) (by omega) (by decide)
      have q148 : h79 ((h 61 1) + 5) 2 = h41 ((h 61 1) + 5) 2 := by rw [← e81]; exact x_up_k tof_5_8
      have q149 : h41 ((h 61 1) + 5) 2 = h8 ((h 61 1) + 5) 2 := jK 0 f43 (rg_T5_2_0_1 t1) (by omega) (by omega) (by decide)
      have e150 : rv h91 4 = (h8 ((h 61 1) + 5) 2) := (congrArg (fun z => svq h91 z 4) (((q143.trans q144).trans q145).trans q146)).trans ((q147.trans q148).trans q149)
      have q151 : h91 61 1 = h79 61 1 := f93 61 1 (by decide +kernel)
      have q152 : h79 61 1 = h41 61 1 := by rw [← e81]; exact x_up_k (Ne.symm (tne_8_61 t1))
      have q153 : h41 61 1 = h8 61 1 := f43 61 1 (by decide +kernel)
      have q154 : h8 61 1 = h 61 1 := f10 61 1 (by decide +kernel)
      have q155 : h91 ((h 61 1) + 7) 2 = h79 ((h 61 1) + 7) 2 := jK 0 f93 (rg_T7_2_0_1 t1) (by omega) (by omega) (by decide)
      have q156 : h79 ((h 61 1) + 7) 2 = h41 ((h 61 1) + 7) 2 := by rw [← e81]; exact x_up_k tof_7_8
      have q157 : h41 ((h 61 1) + 7) 2 = h8 ((h 61 1) + 7) 2 := jK 0 f43 (rg_T7_2_0_1 t1) (by omega) (by omega) (by decide)
      have e158 : rv h91 5 = (h8 ((h 61 1) + 7) 2) := (congrArg (fun z => svq h91 z 5) (((q151.trans q152).trans q153).trans q154)).trans ((q155.trans q156).trans q157)
      have q159 : h8 1 2 = h 1 2 := jK 0 f10 rg_1_2_0_1 (by omega) (by omega) (by decide)
      have q160 : h79 1 2 = h41 1 2 := by rw [← e81]; exact x_up_k (Ne.symm (tne_8_1 t1))
      obtain ⟨w161, e162⟩ := Tk.no c97 (by omega)
      have m163 : Ot (h 61 1) h h8 := Ot.trans Ot.refl (c19)
      have m164 : Ot (h 61 1) h h41 := Ot.fr m163 f43 (by decide)
      have m165 : Ot (h 61 1) h h79 := by rw [← e81]; exact Ot.up (o := 8) m164 t1 (by decide) rfl
      have m166 : Ot (h 61 1) h h91 := Ot.fr m165 f93 (by decide)
      refine x_retI (np := 90) (x := 0) (by decide +kernel) (by decide) (Or.inr ⟨by decide +kernel, by omega, by omega⟩) ⟨_, rfl, (by decide), ?_⟩
      exact ⟨j92, f98, (by omega), (by omega), (by omega), (by omega), (by omega), (by omega), (fun z => by omega), (nm9.y c48 (by omega) (by omega) (show h8 1 2 = h 1 2 by omega) (by omega) rfl (wd9.f w161 (show h79 1 2 = h41 1 2 by omega) (by omega))), m166⟩
    have q104 : ¬ (v86 = 2147483648) := q104
    have b167 := c95 (by omega)
    refine x_aload (np := 50) (x := 0) (by decide +kernel) rfl (x_nc_le (by decide)) ?_
    refine x_aload (np := 51) (x := 0) (by decide +kernel) rfl (x_nc_le (by decide)) ?_
    have q168 : h91 61 1 = h79 61 1 := f93 61 1 (by decide +kernel)
    have q169 : h79 61 1 = h41 61 1 := by rw [← e81]; exact x_up_k (Ne.symm (tne_8_61 t1))
    have q170 : h41 61 1 = h8 61 1 := f43 61 1 (by decide +kernel)
    have q171 : h8 61 1 = h 61 1 := f10 61 1 (by decide +kernel)
    refine x_getR (np := 54) (x := 577) (f := 1) (q := (h 61 1)) (by decide +kernel) (by decide) (by decide +kernel) (((q168.trans q169).trans q170).trans q171) ?_
    have q172 : h91 (h 61 1) 3 = ((h 61 1) + 7) := tf_0_3 j92 t1
    refine x_getR (np := 57) (x := 515) (f := 3) (q := ((h 61 1) + 7)) (by decide +kernel) (by decide) (tg_0_515_3_1 t1) q172 ?_
    refine x_iload (np := 58) (x := 1) (by decide +kernel) rfl l6 ?_
    refine x_const (np := 59) (x := 9223372043297226753) (a := 2147483649) (by decide +kernel) (by decide) (by decide) ?_
    refine x_const (np := 60) (x := 9223372039002259456) (a := 2147483648) (by decide +kernel) (by decide) (by decide) ?_
    refine x_const (np := 62) (x := 9223372086246899723) (a := 2147483659) (by decide +kernel) (by decide) (by decide) ?_
    refine x_nI (t := 6) (mj := 102) (n := 6) (rc := 10) (ml := 7) (nr := 0) (np := 65) (as := [x_r 61, x_r ((h 61 1) + 7), iv_c v5, iv_c 2147483649, iv_c 2147483648, iv_c 2147483659]) (rest := []) (lo1 := [x_r 61, x_r ((h 61 1) + 7), iv_c v5, iv_c 2147483649, iv_c 2147483648, iv_c 2147483659, 147573952589676412928]) (by decide +kernel) (by decide) (by decide +kernel) (x_rb_of (by decide +kernel)) rfl rfl (x_wr (by decide) (x_wr (tn_7 t1) (x_wi l6 (x_wi (by decide) (x_wi (by decide) (x_wi (by decide) x_wn)))))) x_wn (by decide) rfl ?_
    refine x_aload (np := 1) (x := 0) (by decide +kernel) rfl (x_nc_le (by decide)) ?_
    have q173 : h91 61 0 = 1 := by have z := jB (e := 0) 0 j92 rg_61_0_0_1 (by decide) (by decide); omega
    refine x_getR (np := 4) (x := 576) (f := 0) (q := 1) (by decide +kernel) (by decide) (by decide +kernel) q173 ?_
    refine x_iload (np := 6) (x := 4) (by decide +kernel) rfl (by decide) ?_
    refine x_iload (np := 8) (x := 5) (by decide +kernel) rfl (by decide) ?_
    have m177 := Tp.fr m89 f93 (by decide) (by decide)
    refine x_cI (t := 6) (mj := 79) (n := 3) (rc := 8) (ml := 5) (nr := 0) (np := 11) (as := [x_r 1, iv_c 2147483648, iv_c 2147483659]) (rest := []) (lo1 := [x_r 1, iv_c 2147483648, iv_c 2147483659, 147573952589676412928, 147573952589676412928]) (by decide +kernel) (by decide) (by decide +kernel) (x_rb_of (by decide +kernel)) rfl rfl (x_wr (by decide) (x_wi (by decide) (x_wi (by decide) x_wn))) x_wn (by decide) rfl (c79_1_c0 j92   (by omega) m177) (fun v174 h178 l175 q176 => ?_)
    obtain ⟨j179, f180, b181, c182, c183, c184, c185⟩ := q176
    have f186 := Fr.trans f98 f180 (by decide)
    have b187 := jB (e := 2) 0 j179 rg_1_2_0_1 (by omega) (by omega)
    refine x_istore (np := 13) (x := 6) (lo' := [x_r 61, x_r ((h 61 1) + 7), iv_c v5, iv_c 2147483649, iv_c 2147483648, iv_c 2147483659, iv_c v174]) (by decide +kernel) l175 (Nat.le_of_ble_eq_true rfl) rfl ?_
    refine x_iload (np := 15) (x := 6) (by decide +kernel) rfl l175 ?_
    refine x_const (np := 16) (x := 9223372034707292159) (a := 2147483647) (by decide +kernel) (by decide) (by decide) ?_
    refine x_icmp (k := 1) (tg := 21) (np := 19) (by decide +kernel) (by decide) l175 (by decide) (fun q188 => ?_) (fun q189 => ?_)
    · have q188 : v174 ≠ 2147483647 := q188
      have b190 := c183 (by omega)
      refine x_aload (np := 22) (x := 1) (by decide +kernel) rfl (x_nc_le (tn_7 t1)) ?_
      refine x_iload (np := 23) (x := 2) (by decide +kernel) rfl l6 ?_
      refine x_iload (np := 24) (x := 3) (by decide +kernel) rfl (by decide) ?_
      refine x_iload (np := 26) (x := 6) (by decide +kernel) rfl l175 ?_
      refine x_nV (t := 6) (mj := 69) (n := 4) (rc := 7) (ml := 5) (nr := 0) (np := 29) (as := [x_r ((h 61 1) + 7), iv_c v5, iv_c 2147483649, iv_c v174]) (rest := []) (lo1 := [x_r ((h 61 1) + 7), iv_c v5, iv_c 2147483649, iv_c v174, 147573952589676412928]) (by decide +kernel) (by decide) (by decide +kernel) (x_rb_of (tr_7_7 t1)) rfl rfl (x_wr (tn_7 t1) (x_wi l6 (x_wi (by decide) (x_wi l175 x_wn)))) x_wn (by decide) rfl ?_
      refine x_iload (np := 1) (x := 1) (by decide +kernel) rfl l6 ?_
      refine x_ifz (k := 2) (tg := 28) (np := 4) (by decide +kernel) (by decide) l6 (fun q191 => ?_) (fun q192 => ?_)
      · have q191 : v5 < 2147483648 := q191
        exfalso; omega
      have q192 : ¬ (v5 < 2147483648) := q192
      refine x_iload (np := 5) (x := 1) (by decide +kernel) rfl l6 ?_
      refine x_aload (np := 6) (x := 0) (by decide +kernel) rfl (x_nc_le (tn_7 t1)) ?_
      have q193 : h178 ((h 61 1) + 7) 2 = h91 ((h 61 1) + 7) 2 := jK 0 f180 (rg_T7_2_0_1 t1) (by omega) (by omega) (by decide)
      have q194 : h91 ((h 61 1) + 7) 2 = h79 ((h 61 1) + 7) 2 := jK 0 f93 (rg_T7_2_0_1 t1) (by omega) (by omega) (by decide)
      have q195 : h79 ((h 61 1) + 7) 2 = h41 ((h 61 1) + 7) 2 := by rw [← e81]; exact x_up_k tof_7_8
      have q196 : h41 ((h 61 1) + 7) 2 = h8 ((h 61 1) + 7) 2 := jK 0 f43 (rg_T7_2_0_1 t1) (by omega) (by omega) (by decide)
      refine x_getC (np := 9) (x := 386) (f := 2) (q := (h8 ((h 61 1) + 7) 2)) (by decide +kernel) (by decide) (tg_7_386_2_0 t1) (((q193.trans q194).trans q195).trans q196) (fun l197 => ?_)
      refine x_icmp (k := 3) (tg := 28) (np := 12) (by decide +kernel) (by decide) l6 l60 (fun q198 => ?_) (fun q199 => ?_)
      · have q198 : (h8 ((h 61 1) + 7) 2) ≤ v5 := q198
        exfalso; omega
      have q199 : ¬ ((h8 ((h 61 1) + 7) 2) ≤ v5) := q199
      refine x_iload (np := 13) (x := 2) (by decide +kernel) rfl (by decide) ?_
      refine x_ifz (k := 2) (tg := 28) (np := 16) (by decide +kernel) (by decide) (by decide) (fun q200 => ?_) (fun q201 => ?_)
      · have q200 : 2147483649 < 2147483648 := q200
        exfalso; omega
      have q201 : ¬ (2147483649 < 2147483648) := q201
      refine x_iload (np := 17) (x := 2) (by decide +kernel) rfl (by decide) ?_
      refine x_aload (np := 18) (x := 0) (by decide +kernel) rfl (x_nc_le (tn_7 t1)) ?_
      have q202 : h178 ((h 61 1) + 7) 0 = h91 ((h 61 1) + 7) 0 := jK 0 f180 (rg_T7_0_0_1 t1) (by omega) (by omega) (by decide)
      have q203 : h91 ((h 61 1) + 7) 0 = h79 ((h 61 1) + 7) 0 := jK 0 f93 (rg_T7_0_0_1 t1) (by omega) (by omega) (by decide)
      have q204 : h79 ((h 61 1) + 7) 0 = h41 ((h 61 1) + 7) 0 := by rw [← e81]; exact x_up_k tof_7_8
      have q205 : h41 ((h 61 1) + 7) 0 = h8 ((h 61 1) + 7) 0 := jK 0 f43 (rg_T7_0_0_1 t1) (by omega) (by omega) (by decide)
      refine x_getC (np := 21) (x := 384) (f := 0) (q := 2147483652) (by decide +kernel) (by decide) (tg_7_384_0_0 t1) ((((q202.trans q203).trans q204).trans q205).trans q67) (fun l206 => ?_)
      refine x_icmp (k := 3) (tg := 28) (np := 24) (by decide +kernel) (by decide) (by decide) (by decide) (fun q207 => ?_) (fun q208 => ?_)
      · have q207 : 2147483652 ≤ 2147483649 := q207
        exfalso; omega
      have q208 : ¬ (2147483652 ≤ 2147483649) := q208
      refine x_const (np := 25) (x := 9223372043297226753) (a := 2147483649) (by decide +kernel) (by decide) (by decide) ?_
      refine x_goto (np := 28) (x := 29) (by decide +kernel) ?_
      refine x_istore (np := 31) (x := 4) (lo' := [x_r ((h 61 1) + 7), iv_c v5, iv_c 2147483649, iv_c v174, iv_c 2147483649]) (by decide +kernel) (by decide) (Nat.le_of_ble_eq_true rfl) rfl ?_
      refine x_iload (np := 33) (x := 4) (by decide +kernel) rfl (by decide) ?_
      refine x_ifz (k := 0) (tg := 50) (np := 36) (by decide +kernel) (by decide) (by decide) (fun q209 => ?_) (fun q210 => ?_)
      · have q209 : 2147483649 = 2147483648 := q209
        exfalso; omega
      have q210 : ¬ (2147483649 = 2147483648) := q210
      refine x_aload (np := 37) (x := 0) (by decide +kernel) rfl (x_nc_le (tn_7 t1)) ?_
      have q211 : h178 ((h 61 1) + 7) 1 = ((h 61 1) + 8) := tf_7_1 j179 t1
      refine x_getR (np := 40) (x := 385) (f := 1) (q := ((h 61 1) + 8)) (by decide +kernel) (by decide) (tg_7_385_1_1 t1) q211 ?_
      refine x_iload (np := 41) (x := 1) (by decide +kernel) rfl l6 ?_
      refine x_aload (np := 42) (x := 0) (by decide +kernel) rfl (x_nc_le (tn_7 t1)) ?_
      have q212 : h178 ((h 61 1) + 7) 0 = h91 ((h 61 1) + 7) 0 := jK 0 f180 (rg_T7_0_0_1 t1) (by omega) (by omega) (by decide)
      have q213 : h91 ((h 61 1) + 7) 0 = h79 ((h 61 1) + 7) 0 := jK 0 f93 (rg_T7_0_0_1 t1) (by omega) (by omega) (by decide)
      have q214 : h79 ((h 61 1) + 7) 0 = h41 ((h 61 1) + 7) 0 := by rw [← e81]; exact x_up_k tof_7_8
      have q215 : h41 ((h 61 1) + 7) 0 = h8 ((h 61 1) + 7) 0 := jK 0 f43 (rg_T7_0_0_1 t1) (by omega) (by omega) (by decide)
      refine x_getC (np := 45) (x := 384) (f := 0) (q := 2147483652) (by decide +kernel) (by decide) (tg_7_384_0_0 t1) ((((q212.trans q213).trans q214).trans q215).trans q67) (fun l216 => ?_)
      refine x_imul (np := 46) (x := 0) (i := u76) (j := 4) (v := (2147483648 + 4 * u76)) (by decide +kernel) (by omega) (by omega) (by omega) (by omega) l6 (by decide) ?_
      refine x_iload (np := 47) (x := 2) (by decide +kernel) rfl (by decide) ?_
      refine x_iadd (np := 48) (x := 0) (v := (2147483649 + 4 * u76)) (by decide +kernel) (by omega) (by decide) (by omega) (by omega) ?_
      refine x_iload (np := 49) (x := 3) (by decide +kernel) rfl l175 ?_
      refine x_ast (np := 50) (x := 0) (kd := 1) (n := 40) (i := (1 + 4 * u76)) (by decide +kernel) (Or.inl rfl) (ta_8_40 t1) (by omega) (by omega) (by decide) l175 (fun z => absurd z (by decide)) ?_
      have j219 := jU (e := (1 + 4 * u76)) (v := v174) u76 j179 (rg_T8_1_4_10 t1) (by omega) (by omega) (by omega)
      have f221 := jF (e := (1 + 4 * u76)) (v := v174) u76 f186 (rg_T8_1_4_10 t1) (by omega) (by omega) (by decide)
      generalize e220 : x_up h178 ((h 61 1) + 8) (1 + 4 * u76) v174 = h218 at j219 f221 ⊢
      refine x_retV (np := 51) (x := 0) (by decide +kernel) (by decide +kernel) ⟨rfl, ?_⟩
      refine x_const (np := 30) (x := 9223372043297226753) (a := 2147483649) (by decide +kernel) (by decide) (by decide) ?_
      refine x_retI (np := 31) (x := 0) (by decide +kernel) (by decide) (Or.inr ⟨by decide +kernel, by omega, by omega⟩) ⟨_, rfl, (by decide), ?_⟩
      refine x_ifz (k := 0) (tg := 88) (np := 68) (by decide +kernel) (by decide) (by decide) (fun q222 => ?_) (fun q223 => ?_)
      · have q222 : 2147483649 = 2147483648 := q222
        exfalso; omega
      have q223 : ¬ (2147483649 = 2147483648) := q223
      refine x_aload (np := 69) (x := 0) (by decide +kernel) rfl (x_nc_le (by decide)) ?_
      have q224 : h218 61 0 = 1 := by have z := jB (e := 0) 0 j219 rg_61_0_0_1 (by decide) (by decide); omega
      refine x_getR (np := 72) (x := 576) (f := 0) (q := 1) (by decide +kernel) (by decide) (by decide +kernel) q224 ?_
      refine x_ldcB (i := 14) (idx := 157) (tx := "as") (by rw [tb_y100]; exact List.mem_of_getElem? (i := 14) rfl) (by decide) (by rw [tb_b100]; decide +kernel) ?_
      have m229 := Tp.fr m177 f180 (by decide) (by decide)
      have m228 : Tp tB tN h218 := by rw [← e220]; exact Tp.oth m229 (tne_8_2 t1) (fun z => absurd z.1 (tne_8_1 t1))
      refine x_cI (t := 6) (mj := 78) (n := 2) (rc := 8) (ml := 2) (nr := 0) (np := 77) (as := [x_r 1, x_b (14 + 1)]) (rest := []) (lo1 := [x_r 1, x_b (14 + 1)]) (by decide +kernel) (by decide) (by decide +kernel) (x_rb_of (by decide +kernel)) rfl rfl (x_wr (by decide) (x_wB (by decide) x_wn)) x_wn (by decide) rfl (c78_1_S0 j219  (by decide) m228) (fun v225 h230 l226 q227 => ?_)
      obtain ⟨j231, f232, b233, c234, c235, c236⟩ := q227
      have f237 := Fr.trans f221 f232 (by decide)
      have q238 : h218 1 2 = h178 1 2 := by rw [← e220]; exact x_up_k (Ne.symm (tne_8_1 t1))
      have b239 := jB (e := 2) 0 j231 rg_1_2_0_1 (by omega) (by omega)
      have b240 : iv_tl 14 = 2 := by decide
      have q241 : h218 1 2 = h178 1 2 := by rw [← e220]; exact x_up_k (Ne.symm (tne_8_1 t1))
      refine x_ifz (k := 0) (tg := 88) (np := 80) (by decide +kernel) (by decide) l226 (fun q242 => ?_) (fun q243 => ?_)
      · have q242 : v225 = 2147483648 := q242
        have b244 := c235 (by omega)
        refine x_const (np := 89) (x := 9223372039002259456) (a := 2147483648) (by decide +kernel) (by decide) (by decide) ?_
        have e245 : rv h 0 = (h (h 61 1) 7) := (congrArg (fun z => svq h z 0) rfl).trans rfl
        have q246 : h230 61 1 = h218 61 1 := f232 61 1 (by decide +kernel)
        have q247 : h218 61 1 = h178 61 1 := by rw [← e220]; exact x_up_k (Ne.symm (tne_8_61 t1))
        have q248 : h178 61 1 = h91 61 1 := f180 61 1 (by decide +kernel)
        have q249 : h91 61 1 = h79 61 1 := f93 61 1 (by decide +kernel)
        have q250 : h79 61 1 = h41 61 1 := by rw [← e81]; exact x_up_k (Ne.symm (tne_8_61 t1))
        have q251 : h41 61 1 = h8 61 1 := f43 61 1 (by decide +kernel)
        have q252 : h8 61 1 = h 61 1 := f10 61 1 (by decide +kernel)
        have q253 : h230 (h 61 1) 7 = h218 (h 61 1) 7 := jK 0 f232 (rg_T0_7_0_1 t1) (by omega) (by omega) (by decide)
        have q254 : h218 (h 61 1) 7 = h178 (h 61 1) 7 := by rw [← e220]; exact x_up_k tof_0_8
        have q255 : h178 (h 61 1) 7 = h91 (h 61 1) 7 := jK 0 f180 (rg_T0_7_0_1 t1) (by omega) (by omega) (by decide)
        have q256 : h91 (h 61 1) 7 = h79 (h 61 1) 7 := jK 0 f93 (rg_T0_7_0_1 t1) (by omega) (by omega) (by decide)
        have q257 : h79 (h 61 1) 7 = h41 (h 61 1) 7 := by rw [← e81]; exact x_up_k tof_0_8
        have q258 : h41 (h 61 1) 7 = h8 (h 61 1) 7 := jK 0 f43 (rg_T0_7_0_1 t1) (by omega) (by omega) (by decide)
        have e259 : rv h230 0 = (h8 (h 61 1) 7) := (congrArg (fun z => svq h230 z 0) ((((((q246.trans q247).trans q248).trans q249).trans q250).trans q251).trans q252)).trans (((((q253.trans q254).trans q255).trans q256).trans q257).trans q258)
        have e260 : rv h 1 = (h (h 61 1) 8) := (congrArg (fun z => svq h z 1) rfl).trans rfl
        have q261 : h230 61 1 = h218 61 1 := f232 61 1 (by decide +kernel)
        have q262 : h218 61 1 = h178 61 1 := by rw [← e220]; exact x_up_k (Ne.symm (tne_8_61 t1))
        have q263 : h178 61 1 = h91 61 1 := f180 61 1 (by decide +kernel)
        have q264 : h91 61 1 = h79 61 1 := f93 61 1 (by decide +kernel)
        have q265 : h79 61 1 = h41 61 1 := by rw [← e81]; exact x_up_k (Ne.symm (tne_8_61 t1))
        have q266 : h41 61 1 = h8 61 1 := f43 61 1 (by decide +kernel)
        have q267 : h8 61 1 = h 61 1 := f10 61 1 (by decide +kernel)
        have q268 : h230 (h 61 1) 8 = h218 (h 61 1) 8 := jK 0 f232 (rg_T0_8_0_1 t1) (by omega) (by omega) (by decide)
        have q269 : h218 (h 61 1) 8 = h178 (h 61 1) 8 := by rw [← e220]; exact x_up_k tof_0_8
        have q270 : h178 (h 61 1) 8 = h91 (h 61 1) 8 := jK 0 f180 (rg_T0_8_0_1 t1) (by omega) (by omega) (by decide)
        have q271 : h91 (h 61 1) 8 = h79 (h 61 1) 8 := jK 0 f93 (rg_T0_8_0_1 t1) (by omega) (by omega) (by decide)
        have q272 : h79 (h 61 1) 8 = h41 (h 61 1) 8 := by rw [← e81]; exact x_up_k tof_0_8
        have q273 : h41 (h 61 1) 8 = h8 (h 61 1) 8 := jK 0 f43 (rg_T0_8_0_1 t1) (by omega) (by omega) (by decide)
        have e274 : rv h230 1 = (h8 (h 61 1) 8) := (congrArg (fun z => svq h230 z 1) ((((((q261.trans q262).trans q263).trans q264).trans q265).trans q266).trans q267)).trans (((((q268.trans q269).trans q270).trans q271).trans q272).trans q273)
        have e275 : rv h 2 = (h ((h 61 1) + 1) 2) := (congrArg (fun z => svq h z 2) rfl).trans rfl
        have q276 : h230 61 1 = h218 61 1 := f232 61 1 (by decide +kernel)
        have q277 : h218 61 1 = h178 61 1 := by rw [← e220]; exact x_up_k (Ne.symm (tne_8_61 t1))
        have q278 : h178 61 1 = h91 61 1 := f180 61 1 (by decide +kernel)
        have q279 : h91 61 1 = h79 61 1 := f93 61 1 (by decide +kernel)
        have q280 : h79 61 1 = h41 61 1 := by rw [← e81]; exact x_up_k (Ne.symm (tne_8_61 t1))
        have q281 : h41 61 1 = h8 61 1 := f43 61 1 (by decide +kernel)
        have q282 : h8 61 1 = h 61 1 := f10 61 1 (by decide +kernel)
        have q283 : h230 ((h 61 1) + 1) 2 = h218 ((h 61 1) + 1) 2 := jK 0 f232 (rg_T1_2_0_1 t1) (by omega) (by omega) (by decide)
        have q284 : h218 ((h 61 1) + 1) 2 = h178 ((h 61 1) + 1) 2 := by rw [← e220]; exact x_up_k tof_1_8
        have q285 : h178 ((h 61 1) + 1) 2 = h91 ((h 61 1) + 1) 2 := jK 0 f180 (rg_T1_2_0_1 t1) (by omega) (by omega) (by decide)
        have q286 : h91 ((h 61 1) + 1) 2 = h79 ((h 61 1) + 1) 2 := jK 0 f93 (rg_T1_2_0_1 t1) (by omega) (by omega) (by decide)
        have q287 : h79 ((h 61 1) + 1) 2 = h41 ((h 61 1) + 1) 2 := by rw [← e81]; exact x_up_k tof_1_8
        have q288 : h41 ((h 61 1) + 1) 2 = h8 ((h 61 1) + 1) 2 := jK 0 f43 (rg_T1_2_0_1 t1) (by omega) (by omega) (by decide)
        have e289 : rv h230 2 = (h8 ((h 61 1) + 1) 2) := (congrArg (fun z => svq h230 z 2) ((((((q276.trans q277).trans q278).trans q279).trans q280).trans q281).trans q282)).trans (((((q283.trans q284).trans q285).trans q286).trans q287).trans q288)
        have e290 : rv h 3 = (h ((h 61 1) + 3) 2) := (congrArg (fun z => svq h z 3) rfl).trans rfl
        have q291 : h230 61 1 = h218 61 1 := f232 61 1 (by decide +kernel)
        have q292 : h218 61 1 = h178 61 1 := by rw [← e220]; exact x_up_k (Ne.symm (tne_8_61 t1))
        have q293 : h178 61 1 = h91 61 1 := f180 61 1 (by decide +kernel)
        have q294 : h91 61 1 = h79 61 1 := f93 61 1 (by decide +kernel)
        have q295 : h79 61 1 = h41 61 1 := by rw [← e81]; exact x_up_k (Ne.symm (tne_8_61 t1))
        have q296 : h41 61 1 = h8 61 1 := f43 61 1 (by decide +kernel)
        have q297 : h8 61 1 = h 61 1 := f10 61 1 (by decide +kernel)
        have q298 : h230 ((h 61 1) + 3) 2 = h218 ((h 61 1) + 3) 2 := jK 0 f232 (rg_T3_2_0_1 t1) (by omega) (by omega) (by decide)
        have q299 : h218 ((h 61 1) + 3) 2 = h178 ((h 61 1) + 3) 2 := by rw [← e220]; exact x_up_k tof_3_8
        have q300 : h178 ((h 61 1) + 3) 2 = h91 ((h 61 1) + 3) 2 := jK 0 f180 (rg_T3_2_0_1 t1) (by omega) (by omega) (by decide)
        have q301 : h91 ((h 61 1) + 3) 2 = h79 ((h 61 1) + 3) 2 := jK 0 f93 (rg_T3_2_0_1 t1) (by omega) (by omega) (by decide)
        have q302 : h79 ((h 61 1) + 3) 2 = h41 ((h 61 1) + 3) 2 := by rw [← e81]; exact x_up_k tof_3_8
        have q303 : h41 ((h 61 1) + 3) 2 = h8 ((h 61 1) + 3) 2 := jK 0 f43 (rg_T3_2_0_1 t1) (by omega) (by omega) (by decide)
        have e304 : rv h230 3 = (h8 ((h 61 1) + 3) 2) := (congrArg (fun z => svq h230 z 3) ((((((q291.trans q292).trans q293).trans q294).trans q295).trans q296).trans q297)).trans (((((q298.trans q299).trans q300).trans q301).trans q302).trans q303)
        have e305 : rv h 4 = (h ((h 61 1) + 5) 2) := (congrArg (fun z => svq h z 4) rfl).trans rfl
        have q306 : h230 61 1 = h218 61 1 := f232 61 1 (by decide +kernel)
        have q307 : h218 61 1 = h178 61 1 := by rw [← e220]; exact x_up_k (Ne.symm (tne_8_61 t1))
        have q308 : h178 61 1 = h91 61 1 := f180 61 1 (by decide +kernel)
        have q309 : h91 61 1 = h79 61 1 := f93 61 1 (by decide +kernel)
        have q310 : h79 61 1 = h41 61 1 := by rw [← e81]; exact x_up_k (Ne.symm (tne_8_61 t1))
        have q311 : h41 61 1 = h8 61 1 := f43 61 1 (by decide +kernel)
        have q312 : h8 61 1 = h 61 1 := f10 61 1 (by decide +kernel)
        have q313 : h230 ((h 61 1) + 5) 2 = h218 ((h 61 1) + 5) 2 := jK 0 f232 (rg_T5_2_0_1 t1) (by omega) (by omega) (by decide)
        have q314 : h218 ((h 61 1) + 5) 2 = h178 ((h 61 1) + 5) 2 := by rw [← e220]; exact x_up_k tof_5_8
        have q315 : h178 ((h 61 1) + 5) 2 = h91 ((h 61 1) + 5) 2 := jK 0 f180 (rg_T5_2_0_1 t1) (by omega) (by omega) (by decide)
        have q316 : h91 ((h 61 1) + 5) 2 = h79 ((h 61 1) + 5) 2 := jK 0 f93 (rg_T5_2_0_1 t1) (by omega) (by omega) (by decide)
        have q317 : h79 ((h 61 1) + 5) 2 = h41 ((h 61 1) + 5) 2 := by rw [← e81]; exact x_up_k tof_5_8
        have q318 : h41 ((h 61 1) + 5) 2 = h8 ((h 61 1) + 5) 2 := jK 0 f43 (rg_T5_2_0_1 t1) (by omega) (by omega) (by decide)
        have e319 : rv h230 4 = (h8 ((h 61 1) + 5) 2) := (congrArg (fun z => svq h230 z 4) ((((((q306.trans q307).trans q308).trans q309).trans q310).trans q311).trans q312)).trans (((((q313.trans q314).trans q315).trans q316).trans q317).trans q318)
        have q320 : h230 61 1 = h218 61 1 := f232 61 1 (by decide +kernel)
        have q321 : h218 61 1 = h178 61 1 := by rw [← e220]; exact x_up_k (Ne.symm (tne_8_61 t1))
        have q322 : h178 61 1 = h91 61 1 := f180 61 1 (by decide +kernel)
        have q323 : h91 61 1 = h79 61 1 := f93 61 1 (by decide +kernel)
        have q324 : h79 61 1 = h41 61 1 := by rw [← e81]; exact x_up_k (Ne.symm (tne_8_61 t1))
        have q325 : h41 61 1 = h8 61 1 := f43 61 1 (by decide +kernel)
        have q326 : h8 61 1 = h 61 1 := f10 61 1 (by decide +kernel)
        have q327 : h230 ((h 61 1) + 7) 2 = h218 ((h 61 1) + 7) 2 := jK 0 f232 (rg_T7_2_0_1 t1) (by omega) (by omega) (by decide)
        have q328 : h218 ((h 61 1) + 7) 2 = h178 ((h 61 1) + 7) 2 := by rw [← e220]; exact x_up_k tof_7_8
        have q329 : h178 ((h 61 1) + 7) 2 = h91 ((h 61 1) + 7) 2 := jK 0 f180 (rg_T7_2_0_1 t1) (by omega) (by omega) (by decide)
        have q330 : h91 ((h 61 1) + 7) 2 = h79 ((h 61 1) + 7) 2 := jK 0 f93 (rg_T7_2_0_1 t1) (by omega) (by omega) (by decide)
        have q331 : h79 ((h 61 1) + 7) 2 = h41 ((h 61 1) + 7) 2 := by rw [← e81]; exact x_up_k tof_7_8
        have q332 : h41 ((h 61 1) + 7) 2 = h8 ((h 61 1) + 7) 2 := jK 0 f43 (rg_T7_2_0_1 t1) (by omega) (by omega) (by decide)
        have e333 : rv h230 5 = (h8 ((h 61 1) + 7) 2) := (congrArg (fun z => svq h230 z 5) ((((((q320.trans q321).trans q322).trans q323).trans q324).trans q325).trans q326)).trans (((((q327.trans q328).trans q329).trans q330).trans q331).trans q332)
        have q334 : h8 1 2 = h 1 2 := jK 0 f10 rg_1_2_0_1 (by omega) (by omega) (by decide)
        have q335 : h79 1 2 = h41 1 2 := by rw [← e81]; exact x_up_k (Ne.symm (tne_8_1 t1))
        obtain ⟨w336, e337⟩ := Tk.yes c97 (by omega)
        have q338 : h218 1 2 = h178 1 2 := by rw [← e220]; exact x_up_k (Ne.symm (tne_8_1 t1))
        obtain ⟨w339, e340⟩ := Tk.no c236 (by omega)
        have m341 : Ot (h 61 1) h h8 := Ot.trans Ot.refl (c19)
        have m342 : Ot (h 61 1) h h41 := Ot.fr m341 f43 (by decide)
        have m343 : Ot (h 61 1) h h79 := by rw [← e81]; exact Ot.up (o := 8) m342 t1 (by decide) rfl
        have m344 : Ot (h 61 1) h h91 := Ot.fr m343 f93 (by decide)
        have m345 : Ot (h 61 1) h h178 := Ot.fr m344 f180 (by decide)
        have m346 : Ot (h 61 1) h h218 := by rw [← e220]; exact Ot.up (o := 8) m345 t1 (by decide) rfl
        have m347 : Ot (h 61 1) h h230 := Ot.fr m346 f232 (by decide)
        refine x_retI (np := 90) (x := 0) (by decide +kernel) (by decide) (Or.inr ⟨by decide +kernel, by omega, by omega⟩) ⟨_, rfl, (by decide), ?_⟩
        exact ⟨j231, f237, (by omega), (by omega), (by omega), (by omega), (by omega), (by omega), (fun z => by omega), (nm9.y c48 (by omega) (by omega) (show h8 1 2 = h 1 2 by omega) (by omega) rfl (wd9.y w336 (show h79 1 2 = h41 1 2 by omega) e337 rfl (nm9.y c185 (by omega) (by omega) rfl (by omega) rfl (wd9.f w339 (show h218 1 2 = h178 1 2 by omega) (by omega))))), m347⟩
      have q243 : ¬ (v225 = 2147483648) := q243
      have b348 := c234 (by omega)
      refine x_aload (np := 81) (x := 0) (by decide +kernel) rfl (x_nc_le (by decide)) ?_
      refine x_iload (np := 82) (x := 1) (by decide +kernel) rfl l6 ?_
      have m352 := Tp.fr m228 f232 (by decide) (by decide)
      refine x_cI (t := 6) (mj := 101) (n := 2) (rc := 10) (ml := 5) (nr := 0) (np := 85) (as := [x_r 61, iv_c v5]) (rest := []) (lo1 := [x_r 61, iv_c v5, 147573952589676412928, 147573952589676412928, 147573952589676412928]) (by decide +kernel) (by decide) (by decide +kernel) (x_rb_of (by decide +kernel)) rfl rfl (x_wr (by decide) (x_wi l6 x_wn)) x_wn (by decide) rfl (c101_61 j231  (by omega) m352) (fun v349 h353 l350 q351 => ?_)
      obtain ⟨j354, f355, b356, c357, c358⟩ := q351
      have f359 := Fr.trans f237 f355 (by decide)
      have q360 : h230 61 1 = h218 61 1 := f232 61 1 (by decide +kernel)
      have q361 : h218 61 1 = h178 61 1 := by rw [← e220]; exact x_up_k (Ne.symm (tne_8_61 t1))
      have q362 : h178 61 1 = h91 61 1 := f180 61 1 (by decide +kernel)
      have q363 : h91 61 1 = h79 61 1 := f93 61 1 (by decide +kernel)
      have q364 : h79 61 1 = h41 61 1 := by rw [← e81]; exact x_up_k (Ne.symm (tne_8_61 t1))
      have q365 : h41 61 1 = h8 61 1 := f43 61 1 (by decide +kernel)
      have q366 : h8 61 1 = h 61 1 := f10 61 1 (by decide +kernel)
      have q367 : h230 ((h 61 1) + 8) (1 + 4 * u76) = h218 ((h 61 1) + 8) (1 + 4 * u76) := jK u76 f232 (rg_T8_1_4_10 t1) (by omega) (by omega) (by decide)
      have q368 : h218 ((h 61 1) + 8) (1 + 4 * u76) = v174 := by rw [← e220]; exact x_up_at
      have z369 := c358 (h 61 1) u76 ((((((q360.trans q361).trans q362).trans q363).trans q364).trans q365).trans q366) (by omega)
      refine x_ifz (k := 1) (tg := 90) (np := 88) (by decide +kernel) (by decide) l350 (fun q370 => ?_) (fun q371 => ?_)
      · have q370 : v349 ≠ 2147483648 := q370
        refine x_aload (np := 91) (x := 0) (by decide +kernel) rfl (x_nc_le (by decide)) ?_
        have q372 : h353 61 0 = 1 := by have z := jB (e := 0) 0 j354 rg_61_0_0_1 (by decide) (by decide); omega
        refine x_getR (np := 94) (x := 576) (f := 0) (q := 1) (by decide +kernel) (by decide) (by decide +kernel) q372 ?_
        refine x_ldcB (i := 16) (idx := 163) (tx := "known") (by rw [tb_y100]; exact List.mem_of_getElem? (i := 16) rfl) (by decide) (by rw [tb_b100]; decide +kernel) ?_
        have m376 := Tp.fr m352 f355 (by decide) (by decide)
        refine x_cI (t := 6) (mj := 78) (n := 2) (rc := 8) (ml := 2) (nr := 0) (np := 99) (as := [x_r 1, x_b (16 + 1)]) (rest := []) (lo1 := [x_r 1, x_b (16 + 1)]) (by decide +kernel) (by decide) (by decide +kernel) (x_rb_of (by decide +kernel)) rfl rfl (x_wr (by decide) (x_wB (by decide) x_wn)) x_wn (by decide) rfl (c78_1_S0 j354  (by decide) m376) (fun v373 h377 l374 q375 => ?_)
        obtain ⟨j378, f379, b380, c381, c382, c383⟩ := q375
        have f384 := Fr.trans f359 f379 (by decide)
        have b385 := jB (e := 2) 0 j354 rg_1_2_0_1 (by omega) (by omega)
        have b386 := jB (e := 2) 0 j378 rg_1_2_0_1 (by omega) (by omega)
        have b387 : iv_tl 16 = 5 := by decide
        refine x_ifz (k := 0) (tg := 136) (np := 102) (by decide +kernel) (by decide) l374 (fun q388 => ?_) (fun q389 => ?_)
        · have q388 : v373 = 2147483648 := q388
          have b390 := c382 (by omega)
          refine x_const (np := 137) (x := 9223372039002259456) (a := 2147483648) (by decide +kernel) (by decide) (by decide) ?_
          have e391 : rv h 0 = (h (h 61 1) 7) := (congrArg (fun z => svq h z 0) rfl).trans rfl
          have q392 : h377 61 1 = h353 61 1 := f379 61 1 (by decide +kernel)
          have q393 : h353 61 1 = h230 61 1 := f355 61 1 (by decide +kernel)
          have q394 : h230 61 1 = h218 61 1 := f232 61 1 (by decide +kernel)
          have q395 : h218 61 1 = h178 61 1 := by rw [← e220]; exact x_up_k (Ne.symm (tne_8_61 t1))
          have q396 : h178 61 1 = h91 61 1 := f180 61 1 (by decide +kernel)
          have q397 : h91 61 1 = h79 61 1 := f93 61 1 (by decide +kernel)
          have q398 : h79 61 1 = h41 61 1 := by rw [← e81]; exact x_up_k (Ne.symm (tne_8_61 t1))
          have q399 : h41 61 1 = h8 61 1 := f43 61 1 (by decide +kernel)
          have q400 : h8 61 1 = h 61 1 := f10 61 1 (by decide +kernel)
          have q401 : h377 (h 61 1) 7 = h353 (h 61 1) 7 := jK 0 f379 (rg_T0_7_0_1 t1) (by omega) (by omega) (by decide)
          have q402 : h353 (h 61 1) 7 = h230 (h 61 1) 7 := jK 0 f355 (rg_T0_7_0_1 t1) (by omega) (by omega) (by decide)
          have q403 : h230 (h 61 1) 7 = h218 (h 61 1) 7 := jK 0 f232 (rg_T0_7_0_1 t1) (by omega) (by omega) (by decide)
          have q404 : h218 (h 61 1) 7 = h178 (h 61 1) 7 := by rw [← e220]; exact x_up_k tof_0_8
          have q405 : h178 (h 61 1) 7 = h91 (h 61 1) 7 := jK 0 f180 (rg_T0_7_0_1 t1) (by omega) (by omega) (by decide)
          have q406 : h91 (h 61 1) 7 = h79 (h 61 1) 7 := jK 0 f93 (rg_T0_7_0_1 t1) (by omega) (by omega) (by decide)
          have q407 : h79 (h 61 1) 7 = h41 (h 61 1) 7 := by rw [← e81]; exact x_up_k tof_0_8
          have q408 : h41 (h 61 1) 7 = h8 (h 61 1) 7 := jK 0 f43 (rg_T0_7_0_1 t1) (by omega) (by omega) (by decide)
          have e409 : rv h377 0 = (h8 (h 61 1) 7) := (congrArg (fun z => svq h377 z 0) ((((((((q392.trans q393).trans q394).trans q395).trans q396).trans q397).trans q398).trans q399).trans q400)).trans (((((((q401.trans q402).trans q403).trans q404).trans q405).trans q406).trans q407).trans q408)
          have e410 : rv h 1 = (h (h 61 1) 8) := (congrArg (fun z => svq h z 1) rfl).trans rfl
          have q411 : h377 61 1 = h353 61 1 := f379 61 1 (by decide +kernel)
          have q412 : h353 61 1 = h230 61 1 := f355 61 1 (by decide +kernel)
          have q413 : h230 61 1 = h218 61 1 := f232 61 1 (by decide +kernel)
          have q414 : h218 61 1 = h178 61 1 := by rw [← e220]; exact x_up_k (Ne.symm (tne_8_61 t1))
          have q415 : h178 61 1 = h91 61 1 := f180 61 1 (by decide +kernel)
          have q416 : h91 61 1 = h79 61 1 := f93 61 1 (by decide +kernel)
          have q417 : h79 61 1 = h41 61 1 := by rw [← e81]; exact x_up_k (Ne.symm (tne_8_61 t1))
          have q418 : h41 61 1 = h8 61 1 := f43 61 1 (by decide +kernel)
          have q419 : h8 61 1 = h 61 1 := f10 61 1 (by decide +kernel)
          have q420 : h377 (h 61 1) 8 = h353 (h 61 1) 8 := jK 0 f379 (rg_T0_8_0_1 t1) (by omega) (by omega) (by decide)
          have q421 : h353 (h 61 1) 8 = h230 (h 61 1) 8 := jK 0 f355 (rg_T0_8_0_1 t1) (by omega) (by omega) (by decide)
          have q422 : h230 (h 61 1) 8 = h218 (h 61 1) 8 := jK 0 f232 (rg_T0_8_0_1 t1) (by omega) (by omega) (by decide)
          have q423 : h218 (h 61 1) 8 = h178 (h 61 1) 8 := by rw [← e220]; exact x_up_k tof_0_8
          have q424 : h178 (h 61 1) 8 = h91 (h 61 1) 8 := jK 0 f180 (rg_T0_8_0_1 t1) (by omega) (by omega) (by decide)
          have q425 : h91 (h 61 1) 8 = h79 (h 61 1) 8 := jK 0 f93 (rg_T0_8_0_1 t1) (by omega) (by omega) (by decide)
          have q426 : h79 (h 61 1) 8 = h41 (h 61 1) 8 := by rw [← e81]; exact x_up_k tof_0_8
          have q427 : h41 (h 61 1) 8 = h8 (h 61 1) 8 := jK 0 f43 (rg_T0_8_0_1 t1) (by omega) (by omega) (by decide)
          have e428 : rv h377 1 = (h8 (h 61 1) 8) := (congrArg (fun z => svq h377 z 1) ((((((((q411.trans q412).trans q413).trans q414).trans q415).trans q416).trans q417).trans q418).trans q419)).trans (((((((q420.trans q421).trans q422).trans q423).trans q424).trans q425).trans q426).trans q427)
          have e429 : rv h 2 = (h ((h 61 1) + 1) 2) := (congrArg (fun z => svq h z 2) rfl).trans rfl
          have q430 : h377 61 1 = h353 61 1 := f379 61 1 (by decide +kernel)
          have q431 : h353 61 1 = h230 61 1 := f355 61 1 (by decide +kernel)
          have q432 : h230 61 1 = h218 61 1 := f232 61 1 (by decide +kernel)
          have q433 : h218 61 1 = h178 61 1 := by rw [← e220]; exact x_up_k (Ne.symm (tne_8_61 t1))
          have q434 : h178 61 1 = h91 61 1 := f180 61 1 (by decide +kernel)
          have q435 : h91 61 1 = h79 61 1 := f93 61 1 (by decide +kernel)
          have q436 : h79 61 1 = h41 61 1 := by rw [← e81]; exact x_up_k (Ne.symm (tne_8_61 t1))
          have q437 : h41 61 1 = h8 61 1 := f43 61 1 (by decide +kernel)
          have q438 : h8 61 1 = h 61 1 := f10 61 1 (by decide +kernel)
          have q439 : h377 ((h 61 1) + 1) 2 = h353 ((h 61 1) + 1) 2 := jK 0 f379 (rg_T1_2_0_1 t1) (by omega) (by omega) (by decide)
          have q440 : h353 ((h 61 1) + 1) 2 = h230 ((h 61 1) + 1) 2 := jK 0 f355 (rg_T1_2_0_1 t1) (by omega) (by omega) (by decide)
          have q441 : h230 ((h 61 1) + 1) 2 = h218 ((h 61 1) + 1) 2 := jK 0 f232 (rg_T1_2_0_1 t1) (by omega) (by omega) (by decide)
          have q442 : h218 ((h 61 1) + 1) 2 = h178 ((h 61 1) + 1) 2 := by rw [← e220]; exact x_up_k tof_1_8
          have q443 : h178 ((h 61 1) + 1) 2 = h91 ((h 61 1) + 1) 2 := jK 0 f180 (rg_T1_2_0_1 t1) (by omega) (by omega) (by decide)
          have q444 : h91 ((h 61 1) + 1) 2 = h79 ((h 61 1) + 1) 2 := jK 0 f93 (rg_T1_2_0_1 t1) (by omega) (by omega) (by decide)
          have q445 : h79 ((h 61 1) + 1) 2 = h41 ((h 61 1) + 1) 2 := by rw [← e81]; exact x_up_k tof_1_8
          have q446 : h41 ((h 61 1) + 1) 2 = h8 ((h 61 1) + 1) 2 := jK 0 f43 (rg_T1_2_0_1 t1) (by omega) (by omega) (by decide)
          have e447 : rv h377 2 = (h8 ((h 61 1) + 1) 2) := (congrArg (fun z => svq h377 z 2) ((((((((q430.trans q431).trans q432).trans q433).trans q434).trans q435).trans q436).trans q437).trans q438)).trans (((((((q439.trans q440).trans q441).trans q442).trans q443).trans q444).trans q445).trans q446)
          have e448 : rv h 3 = (h ((h 61 1) + 3) 2) := (congrArg (fun z => svq h z 3) rfl).trans rfl
          have q449 : h377 61 1 = h353 61 1 := f379 61 1 (by decide +kernel)
          have q450 : h353 61 1 = h230 61 1 := f355 61 1 (by decide +kernel)
          have q451 : h230 61 1 = h218 61 1 := f232 61 1 (by decide +kernel)
          have q452 : h218 61 1 = h178 61 1 := by rw [← e220]; exact x_up_k (Ne.symm (tne_8_61 t1))
          have q453 : h178 61 1 = h91 61 1 := f180 61 1 (by decide +kernel)
          have q454 : h91 61 1 = h79 61 1 := f93 61 1 (by decide +kernel)
          have q455 : h79 61 1 = h41 61 1 := by rw [← e81]; exact x_up_k (Ne.symm (tne_8_61 t1))
          have q456 : h41 61 1 = h8 61 1 := f43 61 1 (by decide +kernel)
          have q457 : h8 61 1 = h 61 1 := f10 61 1 (by decide +kernel)
          have q458 : h377 ((h 61 1) + 3) 2 = h353 ((h 61 1) + 3) 2 := jK 0 f379 (rg_T3_2_0_1 t1) (by omega) (by omega) (by decide)
          have q459 : h353 ((h 61 1) + 3) 2 = h230 ((h 61 1) + 3) 2 := jK 0 f355 (rg_T3_2_0_1 t1) (by omega) (by omega) (by decide)
          have q460 : h230 ((h 61 1) + 3) 2 = h218 ((h 61 1) + 3) 2 := jK 0 f232 (rg_T3_2_0_1 t1) (by omega) (by omega) (by decide)
          have q461 : h218 ((h 61 1) + 3) 2 = h178 ((h 61 1) + 3) 2 := by rw [← e220]; exact x_up_k tof_3_8
          have q462 : h178 ((h 61 1) + 3) 2 = h91 ((h 61 1) + 3) 2 := jK 0 f180 (rg_T3_2_0_1 t1) (by omega) (by omega) (by decide)
          have q463 : h91 ((h 61 1) + 3) 2 = h79 ((h 61 1) + 3) 2 := jK 0 f93 (rg_T3_2_0_1 t1) (by omega) (by omega) (by decide)
          have q464 : h79 ((h 61 1) + 3) 2 = h41 ((h 61 1) + 3) 2 := by rw [← e81]; exact x_up_k tof_3_8
          have q465 : h41 ((h 61 1) + 3) 2 = h8 ((h 61 1) + 3) 2 := jK 0 f43 (rg_T3_2_0_1 t1) (by omega) (by omega) (by decide)
          have e466 : rv h377 3 = (h8 ((h 61 1) + 3) 2) := (congrArg (fun z => svq h377 z 3) ((((((((q449.trans q450).trans q451).trans q452).trans q453).trans q454).trans q455).trans q456).trans q457)).trans (((((((q458.trans q459).trans q460).trans q461).trans q462).trans q463).trans q464).trans q465)
          have e467 : rv h 4 = (h ((h 61 1) + 5) 2) := (congrArg (fun z => svq h z 4) rfl).trans rfl
          have q468 : h377 61 1 = h353 61 1 := f379 61 1 (by decide +kernel)
          have q469 : h353 61 1 = h230 61 1 := f355 61 1 (by decide +kernel)
          have q470 : h230 61 1 = h218 61 1 := f232 61 1 (by decide +kernel)
          have q471 : h218 61 1 = h178 61 1 := by rw [← e220]; exact x_up_k (Ne.symm (tne_8_61 t1))
          have q472 : h178 61 1 = h91 61 1 := f180 61 1 (by decide +kernel)
          have q473 : h91 61 1 = h79 61 1 := f93 61 1 (by decide +kernel)
          have q474 : h79 61 1 = h41 61 1 := by rw [← e81]; exact x_up_k (Ne.symm (tne_8_61 t1))
          have q475 : h41 61 1 = h8 61 1 := f43 61 1 (by decide +kernel)
          have q476 : h8 61 1 = h 61 1 := f10 61 1 (by decide +kernel)
          have q477 : h377 ((h 61 1) + 5) 2 = h353 ((h 61 1) + 5) 2 := jK 0 f379 (rg_T5_2_0_1 t1) (by omega) (by omega) (by decide)
          have q478 : h353 ((h 61 1) + 5) 2 = h230 ((h 61 1) + 5) 2 := jK 0 f355 (rg_T5_2_0_1 t1) (by omega) (by omega) (by decide)
          have q479 : h230 ((h 61 1) + 5) 2 = h218 ((h 61 1) + 5) 2 := jK 0 f232 (rg_T5_2_0_1 t1) (by omega) (by omega) (by decide)
          have q480 : h218 ((h 61 1) + 5) 2 = h178 ((h 61 1) + 5) 2 := by rw [← e220]; exact x_up_k tof_5_8
          have q481 : h178 ((h 61 1) + 5) 2 = h91 ((h 61 1) + 5) 2 := jK 0 f180 (rg_T5_2_0_1 t1) (by omega) (by omega) (by decide)
          have q482 : h91 ((h 61 1) + 5) 2 = h79 ((h 61 1) + 5) 2 := jK 0 f93 (rg_T5_2_0_1 t1) (by omega) (by omega) (by decide)
          have q483 : h79 ((h 61 1) + 5) 2 = h41 ((h 61 1) + 5) 2 := by rw [← e81]; exact x_up_k tof_5_8
          have q484 : h41 ((h 61 1) + 5) 2 = h8 ((h 61 1) + 5) 2 := jK 0 f43 (rg_T5_2_0_1 t1) (by omega) (by omega) (by decide)
          have e485 : rv h377 4 = (h8 ((h 61 1) + 5) 2) := (congrArg (fun z => svq h377 z 4) ((((((((q468.trans q469).trans q470).trans q471).trans q472).trans q473).trans q474).trans q475).trans q476)).trans (((((((q477.trans q478).trans q479).trans q480).trans q481).trans q482).trans q483).trans q484)
          have q486 : h377 61 1 = h353 61 1 := f379 61 1 (by decide +kernel)
          have q487 : h353 61 1 = h230 61 1 := f355 61 1 (by decide +kernel)
          have q488 : h230 61 1 = h218 61 1 := f232 61 1 (by decide +kernel)
          have q489 : h218 61 1 = h178 61 1 := by rw [← e220]; exact x_up_k (Ne.symm (tne_8_61 t1))
          have q490 : h178 61 1 = h91 61 1 := f180 61 1 (by decide +kernel)
          have q491 : h91 61 1 = h79 61 1 := f93 61 1 (by decide +kernel)
          have q492 : h79 61 1 = h41 61 1 := by rw [← e81]; exact x_up_k (Ne.symm (tne_8_61 t1))
          have q493 : h41 61 1 = h8 61 1 := f43 61 1 (by decide +kernel)
          have q494 : h8 61 1 = h 61 1 := f10 61 1 (by decide +kernel)
          have q495 : h377 ((h 61 1) + 7) 2 = h353 ((h 61 1) + 7) 2 := jK 0 f379 (rg_T7_2_0_1 t1) (by omega) (by omega) (by decide)
          have q496 : h353 ((h 61 1) + 7) 2 = h230 ((h 61 1) + 7) 2 := jK 0 f355 (rg_T7_2_0_1 t1) (by omega) (by omega) (by decide)
          have q497 : h230 ((h 61 1) + 7) 2 = h218 ((h 61 1) + 7) 2 := jK 0 f232 (rg_T7_2_0_1 t1) (by omega) (by omega) (by decide)
          have q498 : h218 ((h 61 1) + 7) 2 = h178 ((h 61 1) + 7) 2 := by rw [← e220]; exact x_up_k tof_7_8
          have q499 : h178 ((h 61 1) + 7) 2 = h91 ((h 61 1) + 7) 2 := jK 0 f180 (rg_T7_2_0_1 t1) (by omega) (by omega) (by decide)
          have q500 : h91 ((h 61 1) + 7) 2 = h79 ((h 61 1) + 7) 2 := jK 0 f93 (rg_T7_2_0_1 t1) (by omega) (by omega) (by decide)
          have q501 : h79 ((h 61 1) + 7) 2 = h41 ((h 61 1) + 7) 2 := by rw [← e81]; exact x_up_k tof_7_8
          have q502 : h41 ((h 61 1) + 7) 2 = h8 ((h 61 1) + 7) 2 := jK 0 f43 (rg_T7_2_0_1 t1) (by omega) (by omega) (by decide)
          have e503 : rv h377 5 = (h8 ((h 61 1) + 7) 2) := (congrArg (fun z => svq h377 z 5) ((((((((q486.trans q487).trans q488).trans q489).trans q490).trans q491).trans q492).trans q493).trans q494)).trans (((((((q495.trans q496).trans q497).trans q498).trans q499).trans q500).trans q501).trans q502)
          have q504 : h8 1 2 = h 1 2 := jK 0 f10 rg_1_2_0_1 (by omega) (by omega) (by decide)
          have q505 : h79 1 2 = h41 1 2 := by rw [← e81]; exact x_up_k (Ne.symm (tne_8_1 t1))
          obtain ⟨w506, e507⟩ := Tk.yes c97 (by omega)
          have q508 : h218 1 2 = h178 1 2 := by rw [← e220]; exact x_up_k (Ne.symm (tne_8_1 t1))
          obtain ⟨w509, e510⟩ := Tk.yes c236 (by omega)
          have q511 : h230 61 1 = h218 61 1 := f232 61 1 (by decide +kernel)
          have q512 : h218 61 1 = h178 61 1 := by rw [← e220]; exact x_up_k (Ne.symm (tne_8_61 t1))
          have q513 : h178 61 1 = h91 61 1 := f180 61 1 (by decide +kernel)
          have q514 : h91 61 1 = h79 61 1 := f93 61 1 (by decide +kernel)
          have q515 : h79 61 1 = h41 61 1 := by rw [← e81]; exact x_up_k (Ne.symm (tne_8_61 t1))
          have q516 : h41 61 1 = h8 61 1 := f43 61 1 (by decide +kernel)
          have q517 : h8 61 1 = h 61 1 := f10 61 1 (by decide +kernel)
          have q518 : h230 (h 61 1) 7 = h218 (h 61 1) 7 := jK 0 f232 (rg_T0_7_0_1 t1) (by omega) (by omega) (by decide)
          have q519 : h218 (h 61 1) 7 = h178 (h 61 1) 7 := by rw [← e220]; exact x_up_k tof_0_8
          have q520 : h178 (h 61 1) 7 = h91 (h 61 1) 7 := jK 0 f180 (rg_T0_7_0_1 t1) (by omega) (by omega) (by decide)
          have q521 : h91 (h 61 1) 7 = h79 (h 61 1) 7 := jK 0 f93 (rg_T0_7_0_1 t1) (by omega) (by omega) (by decide)
          have q522 : h79 (h 61 1) 7 = h41 (h 61 1) 7 := by rw [← e81]; exact x_up_k tof_0_8
          have q523 : h41 (h 61 1) 7 = h8 (h 61 1) 7 := jK 0 f43 (rg_T0_7_0_1 t1) (by omega) (by omega) (by decide)
          have e524 : rv h230 0 = (h8 (h 61 1) 7) := (congrArg (fun z => svq h230 z 0) ((((((q511.trans q512).trans q513).trans q514).trans q515).trans q516).trans q517)).trans (((((q518.trans q519).trans q520).trans q521).trans q522).trans q523)
          obtain ⟨w525, e526⟩ := Tk.no c383 (by omega)
          have m527 : Ot (h 61 1) h h8 := Ot.trans Ot.refl (c19)
          have m528 : Ot (h 61 1) h h41 := Ot.fr m527 f43 (by decide)
          have m529 : Ot (h 61 1) h h79 := by rw [← e81]; exact Ot.up (o := 8) m528 t1 (by decide) rfl
          have m530 : Ot (h 61 1) h h91 := Ot.fr m529 f93 (by decide)
          have m531 : Ot (h 61 1) h h178 := Ot.fr m530 f180 (by decide)
          have m532 : Ot (h 61 1) h h218 := by rw [← e220]; exact Ot.up (o := 8) m531 t1 (by decide) rfl
          have m533 : Ot (h 61 1) h h230 := Ot.fr m532 f232 (by decide)
          have m534 : Ot (h 61 1) h h353 := Ot.fr m533 f355 (by decide)
          have m535 : Ot (h 61 1) h h377 := Ot.fr m534 f379 (by decide)
          refine x_retI (np := 138) (x := 0) (by decide +kernel) (by decide) (Or.inr ⟨by decide +kernel, by omega, by omega⟩) ⟨_, rfl, (by decide), ?_⟩
          exact ⟨j378, f384, (by omega), (by omega), (by omega), (by omega), (by omega), (by omega), (fun z => by omega), (nm9.y c48 (by omega) (by omega) (show h8 1 2 = h 1 2 by omega) (by omega) rfl (wd9.y w506 (show h79 1 2 = h41 1 2 by omega) e507 rfl (nm9.y c185 (by omega) (by omega) rfl (by omega) rfl (wd9.y w509 (show h218 1 2 = h178 1 2 by omega) e510 rfl (bl9.y c357 (by omega) rfl (by omega) rfl (wd9.f w525 rfl (by omega))))))), m535⟩
        have q389 : ¬ (v373 = 2147483648) := q389
        have b536 := c381 (by omega)
        refine x_aload (np := 103) (x := 0) (by decide +kernel) rfl (x_nc_le (by decide)) ?_
        refine x_aload (np := 104) (x := 0) (by decide +kernel) rfl (x_nc_le (by decide)) ?_
        have q537 : h377 61 1 = h353 61 1 := f379 61 1 (by decide +kernel)
        have q538 : h353 61 1 = h230 61 1 := f355 61 1 (by decide +kernel)
        have q539 : h230 61 1 = h218 61 1 := f232 61 1 (by decide +kernel)
        have q540 : h218 61 1 = h178 61 1 := by rw [← e220]; exact x_up_k (Ne.symm (tne_8_61 t1))
        have q541 : h178 61 1 = h91 61 1 := f180 61 1 (by decide +kernel)
        have q542 : h91 61 1 = h79 61 1 := f93 61 1 (by decide +kernel)
        have q543 : h79 61 1 = h41 61 1 := by rw [← e81]; exact x_up_k (Ne.symm (tne_8_61 t1))
        have q544 : h41 61 1 = h8 61 1 := f43 61 1 (by decide +kernel)
        have q545 : h8 61 1 = h 61 1 := f10 61 1 (by decide +kernel)
        refine x_getR (np := 107) (x := 577) (f := 1) (q := (h 61 1)) (by decide +kernel) (by decide) (by decide +kernel) ((((((((q537.trans q538).trans q539).trans q540).trans q541).trans q542).trans q543).trans q544).trans q545) ?_
        have q546 : h377 (h 61 1) 3 = ((h 61 1) + 7) := tf_0_3 j378 t1
        refine x_getR (np := 110) (x := 515) (f := 3) (q := ((h 61 1) + 7)) (by decide +kernel) (by decide) (tg_0_515_3_1 t1) q546 ?_
        refine x_iload (np := 111) (x := 1) (by decide +kernel) rfl l6 ?_
        refine x_const (np := 112) (x := 9223372051887161347) (a := 2147483651) (by decide +kernel) (by decide) (by decide) ?_
        refine x_aload (np := 113) (x := 0) (by decide +kernel) rfl (x_nc_le (by decide)) ?_
        have q547 : h377 61 1 = h353 61 1 := f379 61 1 (by decide +kernel)
        have q548 : h353 61 1 = h230 61 1 := f355 61 1 (by decide +kernel)
        have q549 : h230 61 1 = h218 61 1 := f232 61 1 (by decide +kernel)
        have q550 : h218 61 1 = h178 61 1 := by rw [← e220]; exact x_up_k (Ne.symm (tne_8_61 t1))
        have q551 : h178 61 1 = h91 61 1 := f180 61 1 (by decide +kernel)
        have q552 : h91 61 1 = h79 61 1 := f93 61 1 (by decide +kernel)
        have q553 : h79 61 1 = h41 61 1 := by rw [← e81]; exact x_up_k (Ne.symm (tne_8_61 t1))
        have q554 : h41 61 1 = h8 61 1 := f43 61 1 (by decide +kernel)
        have q555 : h8 61 1 = h 61 1 := f10 61 1 (by decide +kernel)
        refine x_getR (np := 116) (x := 577) (f := 1) (q := (h 61 1)) (by decide +kernel) (by decide) (by decide +kernel) ((((((((q547.trans q548).trans q549).trans q550).trans q551).trans q552).trans q553).trans q554).trans q555) ?_
        have q556 : h377 (h 61 1) 3 = ((h 61 1) + 7) := tf_0_3 j378 t1
        refine x_getR (np := 119) (x := 515) (f := 3) (q := ((h 61 1) + 7)) (by decide +kernel) (by decide) (tg_0_515_3_1 t1) q556 ?_
        refine x_iload (np := 120) (x := 1) (by decide +kernel) rfl l6 ?_
        refine x_const (np := 121) (x := 9223372043297226753) (a := 2147483649) (by decide +kernel) (by decide) (by decide) ?_
        refine x_nI (t := 6) (mj := 68) (n := 3) (rc := 7) (ml := 4) (nr := 4) (np := 124) (as := [x_r ((h 61 1) + 7), iv_c v5, iv_c 2147483649]) (rest := [iv_c 2147483651, iv_c v5, x_r ((h 61 1) + 7), x_r 61]) (lo1 := [x_r ((h 61 1) + 7), iv_c v5, iv_c 2147483649, 147573952589676412928]) (by decide +kernel) (by decide) (by decide +kernel) (x_rb_of (tr_7_7 t1)) rfl rfl (x_wr (tn_7 t1) (x_wi l6 (x_wi (by decide) x_wn))) (x_wi (by decide) (x_wi l6 (x_wr (tn_7 t1) (x_wr (by decide) x_wn)))) (by decide) rfl ?_
        refine x_iload (np := 1) (x := 1) (by decide +kernel) rfl l6 ?_
        refine x_ifz (k := 2) (tg := 28) (np := 4) (by decide +kernel) (by decide) l6 (fun q565 => ?_) (fun q566 => ?_)
        · have q565 : v5 < 2147483648 := q565
          exfalso; omega
        have q566 : ¬ (v5 < 2147483648) := q566
        refine x_iload (np := 5) (x := 1) (by decide +kernel) rfl l6 ?_
        refine x_aload (np := 6) (x := 0) (by decide +kernel) rfl (x_nc_le (tn_7 t1)) ?_
        have q567 : h377 ((h 61 1) + 7) 2 = h353 ((h 61 1) + 7) 2 := jK 0 f379 (rg_T7_2_0_1 t1) (by omega) (by omega) (by decide)
        have q568 : h353 ((h 61 1) + 7) 2 = h230 ((h 61 1) + 7) 2 := jK 0 f355 (rg_T7_2_0_1 t1) (by omega) (by omega) (by decide)
        have q569 : h230 ((h 61 1) + 7) 2 = h218 ((h 61 1) + 7) 2 := jK 0 f232 (rg_T7_2_0_1 t1) (by omega) (by omega) (by decide)
        have q570 : h218 ((h 61 1) + 7) 2 = h178 ((h 61 1) + 7) 2 := by rw [← e220]; exact x_up_k tof_7_8
        have q571 : h178 ((h 61 1) + 7) 2 = h91 ((h 61 1) + 7) 2 := jK 0 f180 (rg_T7_2_0_1 t1) (by omega) (by omega) (by decide)
        have q572 : h91 ((h 61 1) + 7) 2 = h79 ((h 61 1) + 7) 2 := jK 0 f93 (rg_T7_2_0_1 t1) (by omega) (by omega) (by decide)
        have q573 : h79 ((h 61 1) + 7) 2 = h41 ((h 61 1) + 7) 2 := by rw [← e81]; exact x_up_k tof_7_8
        have q574 : h41 ((h 61 1) + 7) 2 = h8 ((h 61 1) + 7) 2 := jK 0 f43 (rg_T7_2_0_1 t1) (by omega) (by omega) (by decide)
        refine x_getC (np := 9) (x := 386) (f := 2) (q := (h8 ((h 61 1) + 7) 2)) (by decide +kernel) (by decide) (tg_7_386_2_0 t1) (((((((q567.trans q568).trans q569).trans q570).trans q571).trans q572).trans q573).trans q574) (fun l575 => ?_)
        refine x_icmp (k := 3) (tg := 28) (np := 12) (by decide +kernel) (by decide) l6 l60 (fun q576 => ?_) (fun q577 => ?_)
        · have q576 : (h8 ((h 61 1) + 7) 2) ≤ v5 := q576
          exfalso; omega
        have q577 : ¬ ((h8 ((h 61 1) + 7) 2) ≤ v5) := q577
        refine x_iload (np := 13) (x := 2) (by decide +kernel) rfl (by decide) ?_
        refine x_ifz (k := 2) (tg := 28) (np := 16) (by decide +kernel) (by decide) (by decide) (fun q578 => ?_) (fun q579 => ?_)
        · have q578 : 2147483649 < 2147483648 := q578
          exfalso; omega
        have q579 : ¬ (2147483649 < 2147483648) := q579
        refine x_iload (np := 17) (x := 2) (by decide +kernel) rfl (by decide) ?_
        refine x_aload (np := 18) (x := 0) (by decide +kernel) rfl (x_nc_le (tn_7 t1)) ?_
        have q580 : h377 ((h 61 1) + 7) 0 = h353 ((h 61 1) + 7) 0 := jK 0 f379 (rg_T7_0_0_1 t1) (by omega) (by omega) (by decide)
        have b581 := jB (e := 0) 0 j354 (rg_T7_0_0_1 t1) (by omega) (by omega)
        have q582 : (h353 ((h 61 1) + 7) 0) = 2147483652 := by omega
        refine x_getC (np := 21) (x := 384) (f := 0) (q := 2147483652) (by decide +kernel) (by decide) (tg_7_384_0_0 t1) (q580.trans q582) (fun l583 => ?_)
        refine x_icmp (k := 3) (tg := 28) (np := 24) (by decide +kernel) (by decide) (by decide) (by decide) (fun q584 => ?_) (fun q585 => ?_)
        · have q584 : 2147483652 ≤ 2147483649 := q584
          exfalso; omega
        have q585 : ¬ (2147483652 ≤ 2147483649) := q585
        refine x_const (np := 25) (x := 9223372043297226753) (a := 2147483649) (by decide +kernel) (by decide) (by decide) ?_
        refine x_goto (np := 28) (x := 29) (by decide +kernel) ?_
        refine x_istore (np := 30) (x := 3) (lo' := [x_r ((h 61 1) + 7), iv_c v5, iv_c 2147483649, iv_c 2147483649]) (by decide +kernel) (by decide) (Nat.le_of_ble_eq_true rfl) rfl ?_
        refine x_iload (np := 31) (x := 3) (by decide +kernel) rfl (by decide) ?_
        refine x_ifz (k := 0) (tg := 50) (np := 34) (by decide +kernel) (by decide) (by decide) (fun q586 => ?_) (fun q587 => ?_)
        · have q586 : 2147483649 = 2147483648 := q586
          exfalso; omega
        have q587 : ¬ (2147483649 = 2147483648) := q587
        refine x_aload (np := 35) (x := 0) (by decide +kernel) rfl (x_nc_le (tn_7 t1)) ?_
        have q588 : h377 ((h 61 1) + 7) 1 = ((h 61 1) + 8) := tf_7_1 j378 t1
        refine x_getR (np := 38) (x := 385) (f := 1) (q := ((h 61 1) + 8)) (by decide +kernel) (by decide) (tg_7_385_1_1 t1) q588 ?_
        refine x_iload (np := 39) (x := 1) (by decide +kernel) rfl l6 ?_
        refine x_aload (np := 40) (x := 0) (by decide +kernel) rfl (x_nc_le (tn_7 t1)) ?_
        have q589 : h377 ((h 61 1) + 7) 0 = h353 ((h 61 1) + 7) 0 := jK 0 f379 (rg_T7_0_0_1 t1) (by omega) (by omega) (by decide)
        refine x_getC (np := 43) (x := 384) (f := 0) (q := 2147483652) (by decide +kernel) (by decide) (tg_7_384_0_0 t1) (q589.trans q582) (fun l590 => ?_)
        refine x_imul (np := 44) (x := 0) (i := u76) (j := 4) (v := (2147483648 + 4 * u76)) (by decide +kernel) (by omega) (by omega) (by omega) (by omega) l6 (by decide) ?_
        refine x_iload (np := 45) (x := 2) (by decide +kernel) rfl (by decide) ?_
        refine x_iadd (np := 46) (x := 0) (v := (2147483649 + 4 * u76)) (by decide +kernel) (by omega) (by decide) (by omega) (by omega) ?_
        have q592 : h377 ((h 61 1) + 8) (1 + 4 * u76) = h353 ((h 61 1) + 8) (1 + 4 * u76) := jK u76 f379 (rg_T8_1_4_10 t1) (by omega) (by omega) (by decide)
        refine x_aldC (np := 47) (x := 0) (n := 40) (i := (1 + 4 * u76)) (q := ((h353 ((h 61 1) + 8) (1 + 4 * u76)))) (by decide +kernel) (ta_8_40 t1) (by omega) (by omega) (by decide) q592 (fun l593 => ?_)
        refine x_goto (np := 50) (x := 51) (by decide +kernel) ?_
        refine x_retI (np := 52) (x := 0) (by decide +kernel) l593 (Or.inl (by decide +kernel)) ⟨_, rfl, l593, ?_⟩
        refine x_const (np := 126) (x := 9223372086246899723) (a := 2147483659) (by decide +kernel) (by decide) (by decide) ?_
        refine x_nI (t := 6) (mj := 102) (n := 6) (rc := 10) (ml := 7) (nr := 0) (np := 129) (as := [x_r 61, x_r ((h 61 1) + 7), iv_c v5, iv_c 2147483651, iv_c ((h353 ((h 61 1) + 8) (1 + 4 * u76))), iv_c 2147483659]) (rest := []) (lo1 := [x_r 61, x_r ((h 61 1) + 7), iv_c v5, iv_c 2147483651, iv_c ((h353 ((h 61 1) + 8) (1 + 4 * u76))), iv_c 2147483659, 147573952589676412928]) (by decide +kernel) (by decide) (by decide +kernel) (x_rb_of (by decide +kernel)) rfl rfl (x_wr (by decide) (x_wr (tn_7 t1) (x_wi l6 (x_wi (by decide) (x_wi l593 (x_wi (by decide) x_wn)))))) x_wn (by decide) rfl ?_
        refine x_aload (np := 1) (x := 0) (by decide +kernel) rfl (x_nc_le (by decide)) ?_
        have q594 : h377 61 0 = 1 := by have z := jB (e := 0) 0 j378 rg_61_0_0_1 (by decide) (by decide); omega
        refine x_getR (np := 4) (x := 576) (f := 0) (q := 1) (by decide +kernel) (by decide) (by decide +kernel) q594 ?_
        refine x_iload (np := 6) (x := 4) (by decide +kernel) rfl l593 ?_
        refine x_iload (np := 8) (x := 5) (by decide +kernel) rfl (by decide) ?_
        have m598 := Tp.fr m376 f379 (by decide) (by decide)
        refine x_cI (t := 6) (mj := 79) (n := 3) (rc := 8) (ml := 5) (nr := 0) (np := 11) (as := [x_r 1, iv_c ((h353 ((h 61 1) + 8) (1 + 4 * u76))), iv_c 2147483659]) (rest := []) (lo1 := [x_r 1, iv_c ((h353 ((h 61 1) + 8) (1 + 4 * u76))), iv_c 2147483659, 147573952589676412928, 147573952589676412928]) (by decide +kernel) (by decide) (by decide +kernel) (x_rb_of (by decide +kernel)) rfl rfl (x_wr (by decide) (x_wi l593 (x_wi (by decide) x_wn))) x_wn (by decide) rfl (c79_1 j378  (by omega) (by omega) m598) (fun v595 h599 l596 q597 => ?_)
        obtain ⟨j600, f601, b602, c603, c604, c605, c606⟩ := q597
        have f607 := Fr.trans f384 f601 (by decide)
        have b608 := jB (e := 2) 0 j600 rg_1_2_0_1 (by omega) (by omega)
        refine x_istore (np := 13) (x := 6) (lo' := [x_r 61, x_r ((h 61 1) + 7), iv_c v5, iv_c 2147483651, iv_c ((h353 ((h 61 1) + 8) (1 + 4 * u76))), iv_c 2147483659, iv_c v595]) (by decide +kernel) l596 (Nat.le_of_ble_eq_true rfl) rfl ?_
        refine x_iload (np := 15) (x := 6) (by decide +kernel) rfl l596 ?_
        refine x_const (np := 16) (x := 9223372034707292159) (a := 2147483647) (by decide +kernel) (by decide) (by decide) ?_
        refine x_icmp (k := 1) (tg := 21) (np := 19) (by decide +kernel) (by decide) l596 (by decide) (fun q609 => ?_) (fun q610 => ?_)
        · have q609 : v595 ≠ 2147483647 := q609
          have b611 := c604 (by omega)
          refine x_aload (np := 22) (x := 1) (by decide +kernel) rfl (x_nc_le (tn_7 t1)) ?_
          refine x_iload (np := 23) (x := 2) (by decide +kernel) rfl l6 ?_
          refine x_iload (np := 24) (x := 3) (by decide +kernel) rfl (by decide) ?_
          refine x_iload (np := 26) (x := 6) (by decide +kernel) rfl l596 ?_
          refine x_nV (t := 6) (mj := 69) (n := 4) (rc := 7) (ml := 5) (nr := 0) (np := 29) (as := [x_r ((h 61 1) + 7), iv_c v5, iv_c 2147483651, iv_c v595]) (rest := []) (lo1 := [x_r ((h 61 1) + 7), iv_c v5, iv_c 2147483651, iv_c v595, 147573952589676412928]) (by decide +kernel) (by decide) (by decide +kernel) (x_rb_of (tr_7_7 t1)) rfl rfl (x_wr (tn_7 t1) (x_wi l6 (x_wi (by decide) (x_wi l596 x_wn)))) x_wn (by decide) rfl ?_
          refine x_iload (np := 1) (x := 1) (by decide +kernel) rfl l6 ?_
          refine x_ifz (k := 2) (tg := 28) (np := 4) (by decide +kernel) (by decide) l6 (fun q612 => ?_) (fun q613 => ?_)
          · have q612 : v5 < 2147483648 := q612
            exfalso; omega
          have q613 : ¬ (v5 < 2147483648) := q613
          refine x_iload (np := 5) (x := 1) (by decide +kernel) rfl l6 ?_
          refine x_aload (np := 6) (x := 0) (by decide +kernel) rfl (x_nc_le (tn_7 t1)) ?_
          have q614 : h599 ((h 61 1) + 7) 2 = h377 ((h 61 1) + 7) 2 := jK 0 f601 (rg_T7_2_0_1 t1) (by omega) (by omega) (by decide)
          have q615 : h377 ((h 61 1) + 7) 2 = h353 ((h 61 1) + 7) 2 := jK 0 f379 (rg_T7_2_0_1 t1) (by omega) (by omega) (by decide)
          have q616 : h353 ((h 61 1) + 7) 2 = h230 ((h 61 1) + 7) 2 := jK 0 f355 (rg_T7_2_0_1 t1) (by omega) (by omega) (by decide)
          have q617 : h230 ((h 61 1) + 7) 2 = h218 ((h 61 1) + 7) 2 := jK 0 f232 (rg_T7_2_0_1 t1) (by omega) (by omega) (by decide)
          have q618 : h218 ((h 61 1) + 7) 2 = h178 ((h 61 1) + 7) 2 := by rw [← e220]; exact x_up_k tof_7_8
          have q619 : h178 ((h 61 1) + 7) 2 = h91 ((h 61 1) + 7) 2 := jK 0 f180 (rg_T7_2_0_1 t1) (by omega) (by omega) (by decide)
          have q620 : h91 ((h 61 1) + 7) 2 = h79 ((h 61 1) + 7) 2 := jK 0 f93 (rg_T7_2_0_1 t1) (by omega) (by omega) (by decide)
          have q621 : h79 ((h 61 1) + 7) 2 = h41 ((h 61 1) + 7) 2 := by rw [← e81]; exact x_up_k tof_7_8
          have q622 : h41 ((h 61 1) + 7) 2 = h8 ((h 61 1) + 7) 2 := jK 0 f43 (rg_T7_2_0_1 t1) (by omega) (by omega) (by decide)
          refine x_getC (np := 9) (x := 386) (f := 2) (q := (h8 ((h 61 1) + 7) 2)) (by decide +kernel) (by decide) (tg_7_386_2_0 t1) ((((((((q614.trans q615).trans q616).trans q617).trans q618).trans q619).trans q620).trans q621).trans q622) (fun l623 => ?_)
          refine x_icmp (k := 3) (tg := 28) (np := 12) (by decide +kernel) (by decide) l6 l60 (fun q624 => ?_) (fun q625 => ?_)
          · have q624 : (h8 ((h 61 1) + 7) 2) ≤ v5 := q624
            exfalso; omega
          have q625 : ¬ ((h8 ((h 61 1) + 7) 2) ≤ v5) := q625
          refine x_iload (np := 13) (x := 2) (by decide +kernel) rfl (by decide) ?_
          refine x_ifz (k := 2) (tg := 28) (np := 16) (by decide +kernel) (by decide) (by decide) (fun q626 => ?_) (fun q627 => ?_)
          · have q626 : 2147483651 < 2147483648 := q626
            exfalso; omega
          have q627 : ¬ (2147483651 < 2147483648) := q627
          refine x_iload (np := 17) (x := 2) (by decide +kernel) rfl (by decide) ?_
          refine x_aload (np := 18) (x := 0) (by decide +kernel) rfl (x_nc_le (tn_7 t1)) ?_
          have q628 : h599 ((h 61 1) + 7) 0 = h377 ((h 61 1) + 7) 0 := jK 0 f601 (rg_T7_0_0_1 t1) (by omega) (by omega) (by decide)
          have q629 : h377 ((h 61 1) + 7) 0 = h353 ((h 61 1) + 7) 0 := jK 0 f379 (rg_T7_0_0_1 t1) (by omega) (by omega) (by decide)
          refine x_getC (np := 21) (x := 384) (f := 0) (q := 2147483652) (by decide +kernel) (by decide) (tg_7_384_0_0 t1) ((q628.trans q629).trans q582) (fun l630 => ?_)
          refine x_icmp (k := 3) (tg := 28) (np := 24) (by decide +kernel) (by decide) (by decide) (by decide) (fun q631 => ?_) (fun q632 => ?_)
          · have q631 : 2147483652 ≤ 2147483651 := q631
            exfalso; omega
          have q632 : ¬ (2147483652 ≤ 2147483651) := q632
          refine x_const (np := 25) (x := 9223372043297226753) (a := 2147483649) (by decide +kernel) (by decide) (by decide) ?_
          refine x_goto (np := 28) (x := 29) (by decide +kernel) ?_
          refine x_istore (np := 31) (x := 4) (lo' := [x_r ((h 61 1) + 7), iv_c v5, iv_c 2147483651, iv_c v595, iv_c 2147483649]) (by decide +kernel) (by decide) (Nat.le_of_ble_eq_true rfl) rfl ?_
          refine x_iload (np := 33) (x := 4) (by decide +kernel) rfl (by decide) ?_
          refine x_ifz (k := 0) (tg := 50) (np := 36) (by decide +kernel) (by decide) (by decide) (fun q633 => ?_) (fun q634 => ?_)
          · have q633 : 2147483649 = 2147483648 := q633
            exfalso; omega
          have q634 : ¬ (2147483649 = 2147483648) := q634
          refine x_aload (np := 37) (x := 0) (by decide +kernel) rfl (x_nc_le (tn_7 t1)) ?_
          have q635 : h599 ((h 61 1) + 7) 1 = ((h 61 1) + 8) := tf_7_1 j600 t1
          refine x_getR (np := 40) (x := 385) (f := 1) (q := ((h 61 1) + 8)) (by decide +kernel) (by decide) (tg_7_385_1_1 t1) q635 ?_
          refine x_iload (np := 41) (x := 1) (by decide +kernel) rfl l6 ?_
          refine x_aload (np := 42) (x := 0) (by decide +kernel) rfl (x_nc_le (tn_7 t1)) ?_
          have q636 : h599 ((h 61 1) + 7) 0 = h377 ((h 61 1) + 7) 0 := jK 0 f601 (rg_T7_0_0_1 t1) (by omega) (by omega) (by decide)
          have q637 : h377 ((h 61 1) + 7) 0 = h353 ((h 61 1) + 7) 0 := jK 0 f379 (rg_T7_0_0_1 t1) (by omega) (by omega) (by decide)
          refine x_getC (np := 45) (x := 384) (f := 0) (q := 2147483652) (by decide +kernel) (by decide) (tg_7_384_0_0 t1) ((q636.trans q637).trans q582) (fun l638 => ?_)
          refine x_imul (np := 46) (x := 0) (i := u76) (j := 4) (v := (2147483648 + 4 * u76)) (by decide +kernel) (by omega) (by omega) (by omega) (by omega) l6 (by decide) ?_
          refine x_iload (np := 47) (x := 2) (by decide +kernel) rfl (by decide) ?_
          refine x_iadd (np := 48) (x := 0) (v := (2147483651 + 4 * u76)) (by decide +kernel) (by omega) (by decide) (by omega) (by omega) ?_
          refine x_iload (np := 49) (x := 3) (by decide +kernel) rfl l596 ?_
          refine x_ast (np := 50) (x := 0) (kd := 1) (n := 40) (i := (3 + 4 * u76)) (by decide +kernel) (Or.inl rfl) (ta_8_40 t1) (by omega) (by omega) (by decide) l596 (fun z => absurd z (by decide)) ?_
          have j641 := jU (e := (3 + 4 * u76)) (v := v595) u76 j600 (rg_T8_3_4_10 t1) (by omega) (by omega) (by omega)
          have f643 := jF (e := (3 + 4 * u76)) (v := v595) u76 f607 (rg_T8_3_4_10 t1) (by omega) (by omega) (by decide)
          generalize e642 : x_up h599 ((h 61 1) + 8) (3 + 4 * u76) v595 = h640 at j641 f643 ⊢
          refine x_retV (np := 51) (x := 0) (by decide +kernel) (by decide +kernel) ⟨rfl, ?_⟩
          refine x_const (np := 30) (x := 9223372043297226753) (a := 2147483649) (by decide +kernel) (by decide) (by decide) ?_
          refine x_retI (np := 31) (x := 0) (by decide +kernel) (by decide) (Or.inr ⟨by decide +kernel, by omega, by omega⟩) ⟨_, rfl, (by decide), ?_⟩
          refine x_ifz (k := 0) (tg := 136) (np := 132) (by decide +kernel) (by decide) (by decide) (fun q644 => ?_) (fun q645 => ?_)
          · have q644 : 2147483649 = 2147483648 := q644
            exfalso; omega
          have q645 : ¬ (2147483649 = 2147483648) := q645
          refine x_const (np := 133) (x := 9223372043297226753) (a := 2147483649) (by decide +kernel) (by decide) (by decide) ?_
          refine x_goto (np := 136) (x := 137) (by decide +kernel) ?_
          have e646 : rv h 0 = (h (h 61 1) 7) := (congrArg (fun z => svq h z 0) rfl).trans rfl
          have q647 : h640 61 1 = h599 61 1 := by rw [← e642]; exact x_up_k (Ne.symm (tne_8_61 t1))
          have q648 : h599 61 1 = h377 61 1 := f601 61 1 (by decide +kernel)
          have q649 : h377 61 1 = h353 61 1 := f379 61 1 (by decide +kernel)
          have q650 : h353 61 1 = h230 61 1 := f355 61 1 (by decide +kernel)
          have q651 : h230 61 1 = h218 61 1 := f232 61 1 (by decide +kernel)
          have q652 : h218 61 1 = h178 61 1 := by rw [← e220]; exact x_up_k (Ne.symm (tne_8_61 t1))
          have q653 : h178 61 1 = h91 61 1 := f180 61 1 (by decide +kernel)
          have q654 : h91 61 1 = h79 61 1 := f93 61 1 (by decide +kernel)
          have q655 : h79 61 1 = h41 61 1 := by rw [← e81]; exact x_up_k (Ne.symm (tne_8_61 t1))
          have q656 : h41 61 1 = h8 61 1 := f43 61 1 (by decide +kernel)
          have q657 : h8 61 1 = h 61 1 := f10 61 1 (by decide +kernel)
          have q658 : h640 (h 61 1) 7 = h599 (h 61 1) 7 := by rw [← e642]; exact x_up_k tof_0_8
          have q659 : h599 (h 61 1) 7 = h377 (h 61 1) 7 := jK 0 f601 (rg_T0_7_0_1 t1) (by omega) (by omega) (by decide)
          have q660 : h377 (h 61 1) 7 = h353 (h 61 1) 7 := jK 0 f379 (rg_T0_7_0_1 t1) (by omega) (by omega) (by decide)
          have q661 : h353 (h 61 1) 7 = h230 (h 61 1) 7 := jK 0 f355 (rg_T0_7_0_1 t1) (by omega) (by omega) (by decide)
          have q662 : h230 (h 61 1) 7 = h218 (h 61 1) 7 := jK 0 f232 (rg_T0_7_0_1 t1) (by omega) (by omega) (by decide)
          have q663 : h218 (h 61 1) 7 = h178 (h 61 1) 7 := by rw [← e220]; exact x_up_k tof_0_8
          have q664 : h178 (h 61 1) 7 = h91 (h 61 1) 7 := jK 0 f180 (rg_T0_7_0_1 t1) (by omega) (by omega) (by decide)
          have q665 : h91 (h 61 1) 7 = h79 (h 61 1) 7 := jK 0 f93 (rg_T0_7_0_1 t1) (by omega) (by omega) (by decide)
          have q666 : h79 (h 61 1) 7 = h41 (h 61 1) 7 := by rw [← e81]; exact x_up_k tof_0_8
          have q667 : h41 (h 61 1) 7 = h8 (h 61 1) 7 := jK 0 f43 (rg_T0_7_0_1 t1) (by omega) (by omega) (by decide)
          have e668 : rv h640 0 = (h8 (h 61 1) 7) := (congrArg (fun z => svq h640 z 0) ((((((((((q647.trans q648).trans q649).trans q650).trans q651).trans q652).trans q653).trans q654).trans q655).trans q656).trans q657)).trans (((((((((q658.trans q659).trans q660).trans q661).trans q662).trans q663).trans q664).trans q665).trans q666).trans q667)
          have e669 : rv h 1 = (h (h 61 1) 8) := (congrArg (fun z => svq h z 1) rfl).trans rfl
          have q670 : h640 61 1 = h599 61 1 := by rw [← e642]; exact x_up_k (Ne.symm (tne_8_61 t1))
          have q671 : h599 61 1 = h377 61 1 := f601 61 1 (by decide +kernel)
          have q672 : h377 61 1 = h353 61 1 := f379 61 1 (by decide +kernel)
          have q673 : h353 61 1 = h230 61 1 := f355 61 1 (by decide +kernel)
          have q674 : h230 61 1 = h218 61 1 := f232 61 1 (by decide +kernel)
          have q675 : h218 61 1 = h178 61 1 := by rw [← e220]; exact x_up_k (Ne.symm (tne_8_61 t1))
          have q676 : h178 61 1 = h91 61 1 := f180 61 1 (by decide +kernel)
          have q677 : h91 61 1 = h79 61 1 := f93 61 1 (by decide +kernel)
          have q678 : h79 61 1 = h41 61 1 := by rw [← e81]; exact x_up_k (Ne.symm (tne_8_61 t1))
          have q679 : h41 61 1 = h8 61 1 := f43 61 1 (by decide +kernel)
          have q680 : h8 61 1 = h 61 1 := f10 61 1 (by decide +kernel)
          have q681 : h640 (h 61 1) 8 = h599 (h 61 1) 8 := by rw [← e642]; exact x_up_k tof_0_8
          have q682 : h599 (h 61 1) 8 = h377 (h 61 1) 8 := jK 0 f601 (rg_T0_8_0_1 t1) (by omega) (by omega) (by decide)
          have q683 : h377 (h 61 1) 8 = h353 (h 61 1) 8 := jK 0 f379 (rg_T0_8_0_1 t1) (by omega) (by omega) (by decide)
          have q684 : h353 (h 61 1) 8 = h230 (h 61 1) 8 := jK 0 f355 (rg_T0_8_0_1 t1) (by omega) (by omega) (by decide)
          have q685 : h230 (h 61 1) 8 = h218 (h 61 1) 8 := jK 0 f232 (rg_T0_8_0_1 t1) (by omega) (by omega) (by decide)
          have q686 : h218 (h 61 1) 8 = h178 (h 61 1) 8 := by rw [← e220]; exact x_up_k tof_0_8
          have q687 : h178 (h 61 1) 8 = h91 (h 61 1) 8 := jK 0 f180 (rg_T0_8_0_1 t1) (by omega) (by omega) (by decide)
          have q688 : h91 (h 61 1) 8 = h79 (h 61 1) 8 := jK 0 f93 (rg_T0_8_0_1 t1) (by omega) (by omega) (by decide)
          have q689 : h79 (h 61 1) 8 = h41 (h 61 1) 8 := by rw [← e81]; exact x_up_k tof_0_8
          have q690 : h41 (h 61 1) 8 = h8 (h 61 1) 8 := jK 0 f43 (rg_T0_8_0_1 t1) (by omega) (by omega) (by decide)
          have e691 : rv h640 1 = (h8 (h 61 1) 8) := (congrArg (fun z => svq h640 z 1) ((((((((((q670.trans q671).trans q672).trans q673).trans q674).trans q675).trans q676).trans q677).trans q678).trans q679).trans q680)).trans (((((((((q681.trans q682).trans q683).trans q684).trans q685).trans q686).trans q687).trans q688).trans q689).trans q690)
          have e692 : rv h 2 = (h ((h 61 1) + 1) 2) := (congrArg (fun z => svq h z 2) rfl).trans rfl
          have q693 : h640 61 1 = h599 61 1 := by rw [← e642]; exact x_up_k (Ne.symm (tne_8_61 t1))
          have q694 : h599 61 1 = h377 61 1 := f601 61 1 (by decide +kernel)
          have q695 : h377 61 1 = h353 61 1 := f379 61 1 (by decide +kernel)
          have q696 : h353 61 1 = h230 61 1 := f355 61 1 (by decide +kernel)
          have q697 : h230 61 1 = h218 61 1 := f232 61 1 (by decide +kernel)
          have q698 : h218 61 1 = h178 61 1 := by rw [← e220]; exact x_up_k (Ne.symm (tne_8_61 t1))
          have q699 : h178 61 1 = h91 61 1 := f180 61 1 (by decide +kernel)
          have q700 : h91 61 1 = h79 61 1 := f93 61 1 (by decide +kernel)
          have q701 : h79 61 1 = h41 61 1 := by rw [← e81]; exact x_up_k (Ne.symm (tne_8_61 t1))
          have q702 : h41 61 1 = h8 61 1 := f43 61 1 (by decide +kernel)
          have q703 : h8 61 1 = h 61 1 := f10 61 1 (by decide +kernel)
          have q704 : h640 ((h 61 1) + 1) 2 = h599 ((h 61 1) + 1) 2 := by rw [← e642]; exact x_up_k tof_1_8
          have q705 : h599 ((h 61 1) + 1) 2 = h377 ((h 61 1) + 1) 2 := jK 0 f601 (rg_T1_2_0_1 t1) (by omega) (by omega) (by decide)
          have q706 : h377 ((h 61 1) + 1) 2 = h353 ((h 61 1) + 1) 2 := jK 0 f379 (rg_T1_2_0_1 t1) (by omega) (by omega) (by decide)
          have q707 : h353 ((h 61 1) + 1) 2 = h230 ((h 61 1) + 1) 2 := jK 0 f355 (rg_T1_2_0_1 t1) (by omega) (by omega) (by decide)
          have q708 : h230 ((h 61 1) + 1) 2 = h218 ((h 61 1) + 1) 2 := jK 0 f232 (rg_T1_2_0_1 t1) (by omega) (by omega) (by decide)
          have q709 : h218 ((h 61 1) + 1) 2 = h178 ((h 61 1) + 1) 2 := by rw [← e220]; exact x_up_k tof_1_8
          have q710 : h178 ((h 61 1) + 1) 2 = h91 ((h 61 1) + 1) 2 := jK 0 f180 (rg_T1_2_0_1 t1) (by omega) (by omega) (by decide)
          have q711 : h91 ((h 61 1) + 1) 2 = h79 ((h 61 1) + 1) 2 := jK 0 f93 (rg_T1_2_0_1 t1) (by omega) (by omega) (by decide)
          have q712 : h79 ((h 61 1) + 1) 2 = h41 ((h 61 1) + 1) 2 := by rw [← e81]; exact x_up_k tof_1_8
          have q713 : h41 ((h 61 1) + 1) 2 = h8 ((h 61 1) + 1) 2 := jK 0 f43 (rg_T1_2_0_1 t1) (by omega) (by omega) (by decide)
          have e714 : rv h640 2 = (h8 ((h 61 1) + 1) 2) := (congrArg (fun z => svq h640 z 2) ((((((((((q693.trans q694).trans q695).trans q696).trans q697).trans q698).trans q699).trans q700).trans q701).trans q702).trans q703)).trans (((((((((q704.trans q705).trans q706).trans q707).trans q708).trans q709).trans q710).trans q711).trans q712).trans q713)
          have e715 : rv h 3 = (h ((h 61 1) + 3) 2) := (congrArg (fun z => svq h z 3) rfl).trans rfl
          have q716 : h640 61 1 = h599 61 1 := by rw [← e642]; exact x_up_k (Ne.symm (tne_8_61 t1))
          have q717 : h599 61 1 = h377 61 1 := f601 61 1 (by decide +kernel)
          have q718 : h377 61 1 = h353 61 1 := f379 61 1 (by decide +kernel)
          have q719 : h353 61 1 = h230 61 1 := f355 61 1 (by decide +kernel)
          have q720 : h230 61 1 = h218 61 1 := f232 61 1 (by decide +kernel)
          have q721 : h218 61 1 = h178 61 1 := by rw [← e220]; exact x_up_k (Ne.symm (tne_8_61 t1))
          have q722 : h178 61 1 = h91 61 1 := f180 61 1 (by decide +kernel)
          have q723 : h91 61 1 = h79 61 1 := f93 61 1 (by decide +kernel)
          have q724 : h79 61 1 = h41 61 1 := by rw [← e81]; exact x_up_k (Ne.symm (tne_8_61 t1))
          have q725 : h41 61 1 = h8 61 1 := f43 61 1 (by decide +kernel)
          have q726 : h8 61 1 = h 61 1 := f10 61 1 (by decide +kernel)
          have q727 : h640 ((h 61 1) + 3) 2 = h599 ((h 61 1) + 3) 2 := by rw [← e642]; exact x_up_k tof_3_8
          have q728 : h599 ((h 61 1) + 3) 2 = h377 ((h 61 1) + 3) 2 := jK 0 f601 (rg_T3_2_0_1 t1) (by omega) (by omega) (by decide)
          have q729 : h377 ((h 61 1) + 3) 2 = h353 ((h 61 1) + 3) 2 := jK 0 f379 (rg_T3_2_0_1 t1) (by omega) (by omega) (by decide)
          have q730 : h353 ((h 61 1) + 3) 2 = h230 ((h 61 1) + 3) 2 := jK 0 f355 (rg_T3_2_0_1 t1) (by omega) (by omega) (by decide)
          have q731 : h230 ((h 61 1) + 3) 2 = h218 ((h 61 1) + 3) 2 := jK 0 f232 (rg_T3_2_0_1 t1) (by omega) (by omega) (by decide)
          have q732 : h218 ((h 61 1) + 3) 2 = h178 ((h 61 1) + 3) 2 := by rw [← e220]; exact x_up_k tof_3_8
          have q733 : h178 ((h 61 1) + 3) 2 = h91 ((h 61 1) + 3) 2 := jK 0 f180 (rg_T3_2_0_1 t1) (by omega) (by omega) (by decide)
          have q734 : h91 ((h 61 1) + 3) 2 = h79 ((h 61 1) + 3) 2 := jK 0 f93 (rg_T3_2_0_1 t1) (by omega) (by omega) (by decide)
          have q735 : h79 ((h 61 1) + 3) 2 = h41 ((h 61 1) + 3) 2 := by rw [← e81]; exact x_up_k tof_3_8
          have q736 : h41 ((h 61 1) + 3) 2 = h8 ((h 61 1) + 3) 2 := jK 0 f43 (rg_T3_2_0_1 t1) (by omega) (by omega) (by decide)
          have e737 : rv h640 3 = (h8 ((h 61 1) + 3) 2) := (congrArg (fun z => svq h640 z 3) ((((((((((q716.trans q717).trans q718).trans q719).trans q720).trans q721).trans q722).trans q723).trans q724).trans q725).trans q726)).trans (((((((((q727.trans q728).trans q729).trans q730).trans q731).trans q732).trans q733).trans q734).trans q735).trans q736)
          have e738 : rv h 4 = (h ((h 61 1) + 5) 2) := (congrArg (fun z => svq h z 4) rfl).trans rfl
          have q739 : h640 61 1 = h599 61 1 := by rw [← e642]; exact x_up_k (Ne.symm (tne_8_61 t1))
          have q740 : h599 61 1 = h377 61 1 := f601 61 1 (by decide +kernel)
          have q741 : h377 61 1 = h353 61 1 := f379 61 1 (by decide +kernel)
          have q742 : h353 61 1 = h230 61 1 := f355 61 1 (by decide +kernel)
          have q743 : h230 61 1 = h218 61 1 := f232 61 1 (by decide +kernel)
          have q744 : h218 61 1 = h178 61 1 := by rw [← e220]; exact x_up_k (Ne.symm (tne_8_61 t1))
          have q745 : h178 61 1 = h91 61 1 := f180 61 1 (by decide +kernel)
          have q746 : h91 61 1 = h79 61 1 := f93 61 1 (by decide +kernel)
          have q747 : h79 61 1 = h41 61 1 := by rw [← e81]; exact x_up_k (Ne.symm (tne_8_61 t1))
          have q748 : h41 61 1 = h8 61 1 := f43 61 1 (by decide +kernel)
          have q749 : h8 61 1 = h 61 1 := f10 61 1 (by decide +kernel)
          have q750 : h640 ((h 61 1) + 5) 2 = h599 ((h 61 1) + 5) 2 := by rw [← e642]; exact x_up_k tof_5_8
          have q751 : h599 ((h 61 1) + 5) 2 = h377 ((h 61 1) + 5) 2 := jK 0 f601 (rg_T5_2_0_1 t1) (by omega) (by omega) (by decide)
          have q752 : h377 ((h 61 1) + 5) 2 = h353 ((h 61 1) + 5) 2 := jK 0 f379 (rg_T5_2_0_1 t1) (by omega) (by omega) (by decide)
          have q753 : h353 ((h 61 1) + 5) 2 = h230 ((h 61 1) + 5) 2 := jK 0 f355 (rg_T5_2_0_1 t1) (by omega) (by omega) (by decide)
          have q754 : h230 ((h 61 1) + 5) 2 = h218 ((h 61 1) + 5) 2 := jK 0 f232 (rg_T5_2_0_1 t1) (by omega) (by omega) (by decide)
          have q755 : h218 ((h 61 1) + 5) 2 = h178 ((h 61 1) + 5) 2 := by rw [← e220]; exact x_up_k tof_5_8
          have q756 : h178 ((h 61 1) + 5) 2 = h91 ((h 61 1) + 5) 2 := jK 0 f180 (rg_T5_2_0_1 t1) (by omega) (by omega) (by decide)
          have q757 : h91 ((h 61 1) + 5) 2 = h79 ((h 61 1) + 5) 2 := jK 0 f93 (rg_T5_2_0_1 t1) (by omega) (by omega) (by decide)
          have q758 : h79 ((h 61 1) + 5) 2 = h41 ((h 61 1) + 5) 2 := by rw [← e81]; exact x_up_k tof_5_8
          have q759 : h41 ((h 61 1) + 5) 2 = h8 ((h 61 1) + 5) 2 := jK 0 f43 (rg_T5_2_0_1 t1) (by omega) (by omega) (by decide)
          have e760 : rv h640 4 = (h8 ((h 61 1) + 5) 2) := (congrArg (fun z => svq h640 z 4) ((((((((((q739.trans q740).trans q741).trans q742).trans q743).trans q744).trans q745).trans q746).trans q747).trans q748).trans q749)).trans (((((((((q750.trans q751).trans q752).trans q753).trans q754).trans q755).trans q756).trans q757).trans q758).trans q759)
          have q761 : h640 61 1 = h599 61 1 := by rw [← e642]; exact x_up_k (Ne.symm (tne_8_61 t1))
          have q762 : h599 61 1 = h377 61 1 := f601 61 1 (by decide +kernel)
          have q763 : h377 61 1 = h353 61 1 := f379 61 1 (by decide +kernel)
          have q764 : h353 61 1 = h230 61 1 := f355 61 1 (by decide +kernel)
          have q765 : h230 61 1 = h218 61 1 := f232 61 1 (by decide +kernel)
          have q766 : h218 61 1 = h178 61 1 := by rw [← e220]; exact x_up_k (Ne.symm (tne_8_61 t1))
          have q767 : h178 61 1 = h91 61 1 := f180 61 1 (by decide +kernel)
          have q768 : h91 61 1 = h79 61 1 := f93 61 1 (by decide +kernel)
          have q769 : h79 61 1 = h41 61 1 := by rw [← e81]; exact x_up_k (Ne.symm (tne_8_61 t1))
          have q770 : h41 61 1 = h8 61 1 := f43 61 1 (by decide +kernel)
          have q771 : h8 61 1 = h 61 1 := f10 61 1 (by decide +kernel)
          have q772 : h640 ((h 61 1) + 7) 2 = h599 ((h 61 1) + 7) 2 := by rw [← e642]; exact x_up_k tof_7_8
          have q773 : h599 ((h 61 1) + 7) 2 = h377 ((h 61 1) + 7) 2 := jK 0 f601 (rg_T7_2_0_1 t1) (by omega) (by omega) (by decide)
          have q774 : h377 ((h 61 1) + 7) 2 = h353 ((h 61 1) + 7) 2 := jK 0 f379 (rg_T7_2_0_1 t1) (by omega) (by omega) (by decide)
          have q775 : h353 ((h 61 1) + 7) 2 = h230 ((h 61 1) + 7) 2 := jK 0 f355 (rg_T7_2_0_1 t1) (by omega) (by omega) (by decide)
          have q776 : h230 ((h 61 1) + 7) 2 = h218 ((h 61 1) + 7) 2 := jK 0 f232 (rg_T7_2_0_1 t1) (by omega) (by omega) (by decide)
          have q777 : h218 ((h 61 1) + 7) 2 = h178 ((h 61 1) + 7) 2 := by rw [← e220]; exact x_up_k tof_7_8
          have q778 : h178 ((h 61 1) + 7) 2 = h91 ((h 61 1) + 7) 2 := jK 0 f180 (rg_T7_2_0_1 t1) (by omega) (by omega) (by decide)
          have q779 : h91 ((h 61 1) + 7) 2 = h79 ((h 61 1) + 7) 2 := jK 0 f93 (rg_T7_2_0_1 t1) (by omega) (by omega) (by decide)
          have q780 : h79 ((h 61 1) + 7) 2 = h41 ((h 61 1) + 7) 2 := by rw [← e81]; exact x_up_k tof_7_8
          have q781 : h41 ((h 61 1) + 7) 2 = h8 ((h 61 1) + 7) 2 := jK 0 f43 (rg_T7_2_0_1 t1) (by omega) (by omega) (by decide)
          have e782 : rv h640 5 = (h8 ((h 61 1) + 7) 2) := (congrArg (fun z => svq h640 z 5) ((((((((((q761.trans q762).trans q763).trans q764).trans q765).trans q766).trans q767).trans q768).trans q769).trans q770).trans q771)).trans (((((((((q772.trans q773).trans q774).trans q775).trans q776).trans q777).trans q778).trans q779).trans q780).trans q781)
          have q783 : h8 1 2 = h 1 2 := jK 0 f10 rg_1_2_0_1 (by omega) (by omega) (by decide)
          have q784 : h79 1 2 = h41 1 2 := by rw [← e81]; exact x_up_k (Ne.symm (tne_8_1 t1))
          obtain ⟨w785, e786⟩ := Tk.yes c97 (by omega)
          have q787 : h218 1 2 = h178 1 2 := by rw [← e220]; exact x_up_k (Ne.symm (tne_8_1 t1))
          obtain ⟨w788, e789⟩ := Tk.yes c236 (by omega)
          have q790 : h230 61 1 = h218 61 1 := f232 61 1 (by decide +kernel)
          have q791 : h218 61 1 = h178 61 1 := by rw [← e220]; exact x_up_k (Ne.symm (tne_8_61 t1))
          have q792 : h178 61 1 = h91 61 1 := f180 61 1 (by decide +kernel)
          have q793 : h91 61 1 = h79 61 1 := f93 61 1 (by decide +kernel)
          have q794 : h79 61 1 = h41 61 1 := by rw [← e81]; exact x_up_k (Ne.symm (tne_8_61 t1))
          have q795 : h41 61 1 = h8 61 1 := f43 61 1 (by decide +kernel)
          have q796 : h8 61 1 = h 61 1 := f10 61 1 (by decide +kernel)
          have q797 : h230 (h 61 1) 7 = h218 (h 61 1) 7 := jK 0 f232 (rg_T0_7_0_1 t1) (by omega) (by omega) (by decide)
          have q798 : h218 (h 61 1) 7 = h178 (h 61 1) 7 := by rw [← e220]; exact x_up_k tof_0_8
          have q799 : h178 (h 61 1) 7 = h91 (h 61 1) 7 := jK 0 f180 (rg_T0_7_0_1 t1) (by omega) (by omega) (by decide)
          have q800 : h91 (h 61 1) 7 = h79 (h 61 1) 7 := jK 0 f93 (rg_T0_7_0_1 t1) (by omega) (by omega) (by decide)
          have q801 : h79 (h 61 1) 7 = h41 (h 61 1) 7 := by rw [← e81]; exact x_up_k tof_0_8
          have q802 : h41 (h 61 1) 7 = h8 (h 61 1) 7 := jK 0 f43 (rg_T0_7_0_1 t1) (by omega) (by omega) (by decide)
          have e803 : rv h230 0 = (h8 (h 61 1) 7) := (congrArg (fun z => svq h230 z 0) ((((((q790.trans q791).trans q792).trans q793).trans q794).trans q795).trans q796)).trans (((((q797.trans q798).trans q799).trans q800).trans q801).trans q802)
          obtain ⟨w804, e805⟩ := Tk.yes c383 (by omega)
          have q806 : h640 1 2 = h599 1 2 := by rw [← e642]; exact x_up_k (Ne.symm (tne_8_1 t1))
          have m807 : Ot (h 61 1) h h8 := Ot.trans Ot.refl (c19)
          have m808 : Ot (h 61 1) h h41 := Ot.fr m807 f43 (by decide)
          have m809 : Ot (h 61 1) h h79 := by rw [← e81]; exact Ot.up (o := 8) m808 t1 (by decide) rfl
          have m810 : Ot (h 61 1) h h91 := Ot.fr m809 f93 (by decide)
          have m811 : Ot (h 61 1) h h178 := Ot.fr m810 f180 (by decide)
          have m812 : Ot (h 61 1) h h218 := by rw [← e220]; exact Ot.up (o := 8) m811 t1 (by decide) rfl
          have m813 : Ot (h 61 1) h h230 := Ot.fr m812 f232 (by decide)
          have m814 : Ot (h 61 1) h h353 := Ot.fr m813 f355 (by decide)
          have m815 : Ot (h 61 1) h h377 := Ot.fr m814 f379 (by decide)
          have m816 : Ot (h 61 1) h h599 := Ot.fr m815 f601 (by decide)
          have m817 : Ot (h 61 1) h h640 := by rw [← e642]; exact Ot.up (o := 8) m816 t1 (by decide) rfl
          refine x_retI (np := 138) (x := 0) (by decide +kernel) (by decide) (Or.inr ⟨by decide +kernel, by omega, by omega⟩) ⟨_, rfl, (by decide), ?_⟩
          exact ⟨j641, f643, (by omega), (by omega), (by omega), (by omega), (by omega), (by omega), (fun z => by omega), (nm9.y c48 (by omega) (by omega) (show h8 1 2 = h 1 2 by omega) (by omega) rfl (wd9.y w785 (show h79 1 2 = h41 1 2 by omega) e786 rfl (nm9.y c185 (by omega) (by omega) rfl (by omega) rfl (wd9.y w788 (show h218 1 2 = h178 1 2 by omega) e789 rfl (bl9.y c357 (by omega) rfl (by omega) rfl (wd9.y w804 rfl e805 rfl (nm9.y c606 (by omega) (by omega) rfl (by omega) rfl (fin9.mk (by omega) (show h599 1 2 = h640 1 2 by omega))))))))), m817⟩
        have q610 : ¬ (v595 ≠ 2147483647) := q610
        have b818 := c605 (by omega)
        refine x_const (np := 20) (x := 9223372039002259456) (a := 2147483648) (by decide +kernel) (by decide) (by decide) ?_
        refine x_retI (np := 21) (x := 0) (by decide +kernel) (by decide) (Or.inr ⟨by decide +kernel, by omega, by omega⟩) ⟨_, rfl, (by decide), ?_⟩
        refine x_ifz (k := 0) (tg := 136) (np := 132) (by decide +kernel) (by decide) (by decide) (fun q819 => ?_) (fun q820 => ?_)
        · have q819 : 2147483648 = 2147483648 := q819
          refine x_const (np := 137) (x := 9223372039002259456) (a := 2147483648) (by decide +kernel) (by decide) (by decide) ?_
          have e821 : rv h 0 = (h (h 61 1) 7) := (congrArg (fun z => svq h z 0) rfl).trans rfl
          have q822 : h599 61 1 = h377 61 1 := f601 61 1 (by decide +kernel)
          have q823 : h377 61 1 = h353 61 1 := f379 61 1 (by decide +kernel)
          have q824 : h353 61 1 = h230 61 1 := f355 61 1 (by decide +kernel)
          have q825 : h230 61 1 = h218 61 1 := f232 61 1 (by decide +kernel)
          have q826 : h218 61 1 = h178 61 1 := by rw [← e220]; exact x_up_k (Ne.symm (tne_8_61 t1))
          have q827 : h178 61 1 = h91 61 1 := f180 61 1 (by decide +kernel)
          have q828 : h91 61 1 = h79 61 1 := f93 61 1 (by decide +kernel)
          have q829 : h79 61 1 = h41 61 1 := by rw [← e81]; exact x_up_k (Ne.symm (tne_8_61 t1))
          have q830 : h41 61 1 = h8 61 1 := f43 61 1 (by decide +kernel)
          have q831 : h8 61 1 = h 61 1 := f10 61 1 (by decide +kernel)
          have q832 : h599 (h 61 1) 7 = h377 (h 61 1) 7 := jK 0 f601 (rg_T0_7_0_1 t1) (by omega) (by omega) (by decide)
          have q833 : h377 (h 61 1) 7 = h353 (h 61 1) 7 := jK 0 f379 (rg_T0_7_0_1 t1) (by omega) (by omega) (by decide)
          have q834 : h353 (h 61 1) 7 = h230 (h 61 1) 7 := jK 0 f355 (rg_T0_7_0_1 t1) (by omega) (by omega) (by decide)
          have q835 : h230 (h 61 1) 7 = h218 (h 61 1) 7 := jK 0 f232 (rg_T0_7_0_1 t1) (by omega) (by omega) (by decide)
          have q836 : h218 (h 61 1) 7 = h178 (h 61 1) 7 := by rw [← e220]; exact x_up_k tof_0_8
          have q837 : h178 (h 61 1) 7 = h91 (h 61 1) 7 := jK 0 f180 (rg_T0_7_0_1 t1) (by omega) (by omega) (by decide)
          have q838 : h91 (h 61 1) 7 = h79 (h 61 1) 7 := jK 0 f93 (rg_T0_7_0_1 t1) (by omega) (by omega) (by decide)
          have q839 : h79 (h 61 1) 7 = h41 (h 61 1) 7 := by rw [← e81]; exact x_up_k tof_0_8
          have q840 : h41 (h 61 1) 7 = h8 (h 61 1) 7 := jK 0 f43 (rg_T0_7_0_1 t1) (by omega) (by omega) (by decide)
          have e841 : rv h599 0 = (h8 (h 61 1) 7) := (congrArg (fun z => svq h599 z 0) (((((((((q822.trans q823).trans q824).trans q825).trans q826).trans q827).trans q828).trans q829).trans q830).trans q831)).trans ((((((((q832.trans q833).trans q834).trans q835).trans q836).trans q837).trans q838).trans q839).trans q840)
          have e842 : rv h 1 = (h (h 61 1) 8) := (congrArg (fun z => svq h z 1) rfl).trans rfl
          have q843 : h599 61 1 = h377 61 1 := f601 61 1 (by decide +kernel)
          have q844 : h377 61 1 = h353 61 1 := f379 61 1 (by decide +kernel)
          have q845 : h353 61 1 = h230 61 1 := f355 61 1 (by decide +kernel)
          have q846 : h230 61 1 = h218 61 1 := f232 61 1 (by decide +kernel)
          have q847 : h218 61 1 = h178 61 1 := by rw [← e220]; exact x_up_k (Ne.symm (tne_8_61 t1))
          have q848 : h178 61 1 = h91 61 1 := f180 61 1 (by decide +kernel)
          have q849 : h91 61 1 = h79 61 1 := f93 61 1 (by decide +kernel)
          have q850 : h79 61 1 = h41 61 1 := by rw [← e81]; exact x_up_k (Ne.symm (tne_8_61 t1))
          have q851 : h41 61 1 = h8 61 1 := f43 61 1 (by decide +kernel)
          have q852 : h8 61 1 = h 61 1 := f10 61 1 (by decide +kernel)
          have q853 : h599 (h 61 1) 8 = h377 (h 61 1) 8 := jK 0 f601 (rg_T0_8_0_1 t1) (by omega) (by omega) (by decide)
          have q854 : h377 (h 61 1) 8 = h353 (h 61 1) 8 := jK 0 f379 (rg_T0_8_0_1 t1) (by omega) (by omega) (by decide)
          have q855 : h353 (h 61 1) 8 = h230 (h 61 1) 8 := jK 0 f355 (rg_T0_8_0_1 t1) (by omega) (by omega) (by decide)
          have q856 : h230 (h 61 1) 8 = h218 (h 61 1) 8 := jK 0 f232 (rg_T0_8_0_1 t1) (by omega) (by omega) (by decide)
          have q857 : h218 (h 61 1) 8 = h178 (h 61 1) 8 := by rw [← e220]; exact x_up_k tof_0_8
          have q858 : h178 (h 61 1) 8 = h91 (h 61 1) 8 := jK 0 f180 (rg_T0_8_0_1 t1) (by omega) (by omega) (by decide)
          have q859 : h91 (h 61 1) 8 = h79 (h 61 1) 8 := jK 0 f93 (rg_T0_8_0_1 t1) (by omega) (by omega) (by decide)
          have q860 : h79 (h 61 1) 8 = h41 (h 61 1) 8 := by rw [← e81]; exact x_up_k tof_0_8
          have q861 : h41 (h 61 1) 8 = h8 (h 61 1) 8 := jK 0 f43 (rg_T0_8_0_1 t1) (by omega) (by omega) (by decide)
          have e862 : rv h599 1 = (h8 (h 61 1) 8) := (congrArg (fun z => svq h599 z 1) (((((((((q843.trans q844).trans q845).trans q846).trans q847).trans q848).trans q849).trans q850).trans q851).trans q852)).trans ((((((((q853.trans q854).trans q855).trans q856).trans q857).trans q858).trans q859).trans q860).trans q861)
          have e863 : rv h 2 = (h ((h 61 1) + 1) 2) := (congrArg (fun z => svq h z 2) rfl).trans rfl
          have q864 : h599 61 1 = h377 61 1 := f601 61 1 (by decide +kernel)
          have q865 : h377 61 1 = h353 61 1 := f379 61 1 (by decide +kernel)
          have q866 : h353 61 1 = h230 61 1 := f355 61 1 (by decide +kernel)
          have q867 : h230 61 1 = h218 61 1 := f232 61 1 (by decide +kernel)
          have q868 : h218 61 1 = h178 61 1 := by rw [← e220]; exact x_up_k (Ne.symm (tne_8_61 t1))
          have q869 : h178 61 1 = h91 61 1 := f180 61 1 (by decide +kernel)
          have q870 : h91 61 1 = h79 61 1 := f93 61 1 (by decide +kernel)
          have q871 : h79 61 1 = h41 61 1 := by rw [← e81]; exact x_up_k (Ne.symm (tne_8_61 t1))
          have q872 : h41 61 1 = h8 61 1 := f43 61 1 (by decide +kernel)
          have q873 : h8 61 1 = h 61 1 := f10 61 1 (by decide +kernel)
          have q874 : h599 ((h 61 1) + 1) 2 = h377 ((h 61 1) + 1) 2 := jK 0 f601 (rg_T1_2_0_1 t1) (by omega) (by omega) (by decide)
          have q875 : h377 ((h 61 1) + 1) 2 = h353 ((h 61 1) + 1) 2 := jK 0 f379 (rg_T1_2_0_1 t1) (by omega) (by omega) (by decide)
          have q876 : h353 ((h 61 1) + 1) 2 = h230 ((h 61 1) + 1) 2 := jK 0 f355 (rg_T1_2_0_1 t1) (by omega) (by omega) (by decide)
          have q877 : h230 ((h 61 1) + 1) 2 = h218 ((h 61 1) + 1) 2 := jK 0 f232 (rg_T1_2_0_1 t1) (by omega) (by omega) (by decide)
          have q878 : h218 ((h 61 1) + 1) 2 = h178 ((h 61 1) + 1) 2 := by rw [← e220]; exact x_up_k tof_1_8
          have q879 : h178 ((h 61 1) + 1) 2 = h91 ((h 61 1) + 1) 2 := jK 0 f180 (rg_T1_2_0_1 t1) (by omega) (by omega) (by decide)
          have q880 : h91 ((h 61 1) + 1) 2 = h79 ((h 61 1) + 1) 2 := jK 0 f93 (rg_T1_2_0_1 t1) (by omega) (by omega) (by decide)
          have q881 : h79 ((h 61 1) + 1) 2 = h41 ((h 61 1) + 1) 2 := by rw [← e81]; exact x_up_k tof_1_8
          have q882 : h41 ((h 61 1) + 1) 2 = h8 ((h 61 1) + 1) 2 := jK 0 f43 (rg_T1_2_0_1 t1) (by omega) (by omega) (by decide)
          have e883 : rv h599 2 = (h8 ((h 61 1) + 1) 2) := (congrArg (fun z => svq h599 z 2) (((((((((q864.trans q865).trans q866).trans q867).trans q868).trans q869).trans q870).trans q871).trans q872).trans q873)).trans ((((((((q874.trans q875).trans q876).trans q877).trans q878).trans q879).trans q880).trans q881).trans q882)
          have e884 : rv h 3 = (h ((h 61 1) + 3) 2) := (congrArg (fun z => svq h z 3) rfl).trans rfl
          have q885 : h599 61 1 = h377 61 1 := f601 61 1 (by decide +kernel)
          have q886 : h377 61 1 = h353 61 1 := f379 61 1 (by decide +kernel)
          have q887 : h353 61 1 = h230 61 1 := f355 61 1 (by decide +kernel)
          have q888 : h230 61 1 = h218 61 1 := f232 61 1 (by decide +kernel)
          have q889 : h218 61 1 = h178 61 1 := by rw [← e220]; exact x_up_k (Ne.symm (tne_8_61 t1))
          have q890 : h178 61 1 = h91 61 1 := f180 61 1 (by decide +kernel)
          have q891 : h91 61 1 = h79 61 1 := f93 61 1 (by decide +kernel)
          have q892 : h79 61 1 = h41 61 1 := by rw [← e81]; exact x_up_k (Ne.symm (tne_8_61 t1))
          have q893 : h41 61 1 = h8 61 1 := f43 61 1 (by decide +kernel)
          have q894 : h8 61 1 = h 61 1 := f10 61 1 (by decide +kernel)
          have q895 : h599 ((h 61 1) + 3) 2 = h377 ((h 61 1) + 3) 2 := jK 0 f601 (rg_T3_2_0_1 t1) (by omega) (by omega) (by decide)
          have q896 : h377 ((h 61 1) + 3) 2 = h353 ((h 61 1) + 3) 2 := jK 0 f379 (rg_T3_2_0_1 t1) (by omega) (by omega) (by decide)
          have q897 : h353 ((h 61 1) + 3) 2 = h230 ((h 61 1) + 3) 2 := jK 0 f355 (rg_T3_2_0_1 t1) (by omega) (by omega) (by decide)
          have q898 : h230 ((h 61 1) + 3) 2 = h218 ((h 61 1) + 3) 2 := jK 0 f232 (rg_T3_2_0_1 t1) (by omega) (by omega) (by decide)
          have q899 : h218 ((h 61 1) + 3) 2 = h178 ((h 61 1) + 3) 2 := by rw [← e220]; exact x_up_k tof_3_8
          have q900 : h178 ((h 61 1) + 3) 2 = h91 ((h 61 1) + 3) 2 := jK 0 f180 (rg_T3_2_0_1 t1) (by omega) (by omega) (by decide)
          have q901 : h91 ((h 61 1) + 3) 2 = h79 ((h 61 1) + 3) 2 := jK 0 f93 (rg_T3_2_0_1 t1) (by omega) (by omega) (by decide)
          have q902 : h79 ((h 61 1) + 3) 2 = h41 ((h 61 1) + 3) 2 := by rw [← e81]; exact x_up_k tof_3_8
          have q903 : h41 ((h 61 1) + 3) 2 = h8 ((h 61 1) + 3) 2 := jK 0 f43 (rg_T3_2_0_1 t1) (by omega) (by omega) (by decide)
          have e904 : rv h599 3 = (h8 ((h 61 1) + 3) 2) := (congrArg (fun z => svq h599 z 3) (((((((((q885.trans q886).trans q887).trans q888).trans q889).trans q890).trans q891).trans q892).trans q893).trans q894)).trans ((((((((q895.trans q896).trans q897).trans q898).trans q899).trans q900).trans q901).trans q902).trans q903)
          have e905 : rv h 4 = (h ((h 61 1) + 5) 2) := (congrArg (fun z => svq h z 4) rfl).trans rfl
          have q906 : h599 61 1 = h377 61 1 := f601 61 1 (by decide +kernel)
          have q907 : h377 61 1 = h353 61 1 := f379 61 1 (by decide +kernel)
          have q908 : h353 61 1 = h230 61 1 := f355 61 1 (by decide +kernel)
          have q909 : h230 61 1 = h218 61 1 := f232 61 1 (by decide +kernel)
          have q910 : h218 61 1 = h178 61 1 := by rw [← e220]; exact x_up_k (Ne.symm (tne_8_61 t1))
          have q911 : h178 61 1 = h91 61 1 := f180 61 1 (by decide +kernel)
          have q912 : h91 61 1 = h79 61 1 := f93 61 1 (by decide +kernel)
          have q913 : h79 61 1 = h41 61 1 := by rw [← e81]; exact x_up_k (Ne.symm (tne_8_61 t1))
          have q914 : h41 61 1 = h8 61 1 := f43 61 1 (by decide +kernel)
          have q915 : h8 61 1 = h 61 1 := f10 61 1 (by decide +kernel)
          have q916 : h599 ((h 61 1) + 5) 2 = h377 ((h 61 1) + 5) 2 := jK 0 f601 (rg_T5_2_0_1 t1) (by omega) (by omega) (by decide)
          have q917 : h377 ((h 61 1) + 5) 2 = h353 ((h 61 1) + 5) 2 := jK 0 f379 (rg_T5_2_0_1 t1) (by omega) (by omega) (by decide)
          have q918 : h353 ((h 61 1) + 5) 2 = h230 ((h 61 1) + 5) 2 := jK 0 f355 (rg_T5_2_0_1 t1) (by omega) (by omega) (by decide)
          have q919 : h230 ((h 61 1) + 5) 2 = h218 ((h 61 1) + 5) 2 := jK 0 f232 (rg_T5_2_0_1 t1) (by omega) (by omega) (by decide)
          have q920 : h218 ((h 61 1) + 5) 2 = h178 ((h 61 1) + 5) 2 := by rw [← e220]; exact x_up_k tof_5_8
          have q921 : h178 ((h 61 1) + 5) 2 = h91 ((h 61 1) + 5) 2 := jK 0 f180 (rg_T5_2_0_1 t1) (by omega) (by omega) (by decide)
          have q922 : h91 ((h 61 1) + 5) 2 = h79 ((h 61 1) + 5) 2 := jK 0 f93 (rg_T5_2_0_1 t1) (by omega) (by omega) (by decide)
          have q923 : h79 ((h 61 1) + 5) 2 = h41 ((h 61 1) + 5) 2 := by rw [← e81]; exact x_up_k tof_5_8
          have q924 : h41 ((h 61 1) + 5) 2 = h8 ((h 61 1) + 5) 2 := jK 0 f43 (rg_T5_2_0_1 t1) (by omega) (by omega) (by decide)
          have e925 : rv h599 4 = (h8 ((h 61 1) + 5) 2) := (congrArg (fun z => svq h599 z 4) (((((((((q906.trans q907).trans q908).trans q909).trans q910).trans q911).trans q912).trans q913).trans q914).trans q915)).trans ((((((((q916.trans q917).trans q918).trans q919).trans q920).trans q921).trans q922).trans q923).trans q924)
          have q926 : h599 61 1 = h377 61 1 := f601 61 1 (by decide +kernel)
          have q927 : h377 61 1 = h353 61 1 := f379 61 1 (by decide +kernel)
          have q928 : h353 61 1 = h230 61 1 := f355 61 1 (by decide +kernel)
          have q929 : h230 61 1 = h218 61 1 := f232 61 1 (by decide +kernel)
          have q930 : h218 61 1 = h178 61 1 := by rw [← e220]; exact x_up_k (Ne.symm (tne_8_61 t1))
          have q931 : h178 61 1 = h91 61 1 := f180 61 1 (by decide +kernel)
          have q932 : h91 61 1 = h79 61 1 := f93 61 1 (by decide +kernel)
          have q933 : h79 61 1 = h41 61 1 := by rw [← e81]; exact x_up_k (Ne.symm (tne_8_61 t1))
          have q934 : h41 61 1 = h8 61 1 := f43 61 1 (by decide +kernel)
          have q935 : h8 61 1 = h 61 1 := f10 61 1 (by decide +kernel)
          have q936 : h599 ((h 61 1) + 7) 2 = h377 ((h 61 1) + 7) 2 := jK 0 f601 (rg_T7_2_0_1 t1) (by omega) (by omega) (by decide)
          have q937 : h377 ((h 61 1) + 7) 2 = h353 ((h 61 1) + 7) 2 := jK 0 f379 (rg_T7_2_0_1 t1) (by omega) (by omega) (by decide)
          have q938 : h353 ((h 61 1) + 7) 2 = h230 ((h 61 1) + 7) 2 := jK 0 f355 (rg_T7_2_0_1 t1) (by omega) (by omega) (by decide)
          have q939 : h230 ((h 61 1) + 7) 2 = h218 ((h 61 1) + 7) 2 := jK 0 f232 (rg_T7_2_0_1 t1) (by omega) (by omega) (by decide)
          have q940 : h218 ((h 61 1) + 7) 2 = h178 ((h 61 1) + 7) 2 := by rw [← e220]; exact x_up_k tof_7_8
          have q941 : h178 ((h 61 1) + 7) 2 = h91 ((h 61 1) + 7) 2 := jK 0 f180 (rg_T7_2_0_1 t1) (by omega) (by omega) (by decide)
          have q942 : h91 ((h 61 1) + 7) 2 = h79 ((h 61 1) + 7) 2 := jK 0 f93 (rg_T7_2_0_1 t1) (by omega) (by omega) (by decide)
          have q943 : h79 ((h 61 1) + 7) 2 = h41 ((h 61 1) + 7) 2 := by rw [← e81]; exact x_up_k tof_7_8
          have q944 : h41 ((h 61 1) + 7) 2 = h8 ((h 61 1) + 7) 2 := jK 0 f43 (rg_T7_2_0_1 t1) (by omega) (by omega) (by decide)
          have e945 : rv h599 5 = (h8 ((h 61 1) + 7) 2) := (congrArg (fun z => svq h599 z 5) (((((((((q926.trans q927).trans q928).trans q929).trans q930).trans q931).trans q932).trans q933).trans q934).trans q935)).trans ((((((((q936.trans q937).trans q938).trans q939).trans q940).trans q941).trans q942).trans q943).trans q944)
          have q946 : h8 1 2 = h 1 2 := jK 0 f10 rg_1_2_0_1 (by omega) (by omega) (by decide)
          have q947 : h79 1 2 = h41 1 2 := by rw [← e81]; exact x_up_k (Ne.symm (tne_8_1 t1))
          obtain ⟨w948, e949⟩ := Tk.yes c97 (by omega)
          have q950 : h218 1 2 = h178 1 2 := by rw [← e220]; exact x_up_k (Ne.symm (tne_8_1 t1))
          obtain ⟨w951, e952⟩ := Tk.yes c236 (by omega)
          have q953 : h230 61 1 = h218 61 1 := f232 61 1 (by decide +kernel)
          have q954 : h218 61 1 = h178 61 1 := by rw [← e220]; exact x_up_k (Ne.symm (tne_8_61 t1))
          have q955 : h178 61 1 = h91 61 1 := f180 61 1 (by decide +kernel)
          have q956 : h91 61 1 = h79 61 1 := f93 61 1 (by decide +kernel)
          have q957 : h79 61 1 = h41 61 1 := by rw [← e81]; exact x_up_k (Ne.symm (tne_8_61 t1))
          have q958 : h41 61 1 = h8 61 1 := f43 61 1 (by decide +kernel)
          have q959 : h8 61 1 = h 61 1 := f10 61 1 (by decide +kernel)
          have q960 : h230 (h 61 1) 7 = h218 (h 61 1) 7 := jK 0 f232 (rg_T0_7_0_1 t1) (by omega) (by omega) (by decide)
          have q961 : h218 (h 61 1) 7 = h178 (h 61 1) 7 := by rw [← e220]; exact x_up_k tof_0_8
          have q962 : h178 (h 61 1) 7 = h91 (h 61 1) 7 := jK 0 f180 (rg_T0_7_0_1 t1) (by omega) (by omega) (by decide)
          have q963 : h91 (h 61 1) 7 = h79 (h 61 1) 7 := jK 0 f93 (rg_T0_7_0_1 t1) (by omega) (by omega) (by decide)
          have q964 : h79 (h 61 1) 7 = h41 (h 61 1) 7 := by rw [← e81]; exact x_up_k tof_0_8
          have q965 : h41 (h 61 1) 7 = h8 (h 61 1) 7 := jK 0 f43 (rg_T0_7_0_1 t1) (by omega) (by omega) (by decide)
          have e966 : rv h230 0 = (h8 (h 61 1) 7) := (congrArg (fun z => svq h230 z 0) ((((((q953.trans q954).trans q955).trans q956).trans q957).trans q958).trans q959)).trans (((((q960.trans q961).trans q962).trans q963).trans q964).trans q965)
          obtain ⟨w967, e968⟩ := Tk.yes c383 (by omega)
          have m969 : Ot (h 61 1) h h8 := Ot.trans Ot.refl (c19)
          have m970 : Ot (h 61 1) h h41 := Ot.fr m969 f43 (by decide)
          have m971 : Ot (h 61 1) h h79 := by rw [← e81]; exact Ot.up (o := 8) m970 t1 (by decide) rfl
          have m972 : Ot (h 61 1) h h91 := Ot.fr m971 f93 (by decide)
          have m973 : Ot (h 61 1) h h178 := Ot.fr m972 f180 (by decide)
          have m974 : Ot (h 61 1) h h218 := by rw [← e220]; exact Ot.up (o := 8) m973 t1 (by decide) rfl
          have m975 : Ot (h 61 1) h h230 := Ot.fr m974 f232 (by decide)
          have m976 : Ot (h 61 1) h h353 := Ot.fr m975 f355 (by decide)
          have m977 : Ot (h 61 1) h h377 := Ot.fr m976 f379 (by decide)
          have m978 : Ot (h 61 1) h h599 := Ot.fr m977 f601 (by decide)
          refine x_retI (np := 138) (x := 0) (by decide +kernel) (by decide) (Or.inr ⟨by decide +kernel, by omega, by omega⟩) ⟨_, rfl, (by decide), ?_⟩
          exact ⟨j600, f607, (by omega), (by omega), (by omega), (by omega), (by omega), (by omega), (fun z => by omega), (nm9.y c48 (by omega) (by omega) (show h8 1 2 = h 1 2 by omega) (by omega) rfl (wd9.y w948 (show h79 1 2 = h41 1 2 by omega) e949 rfl (nm9.y c185 (by omega) (by omega) rfl (by omega) rfl (wd9.y w951 (show h218 1 2 = h178 1 2 by omega) e952 rfl (bl9.y c357 (by omega) rfl (by omega) rfl (wd9.y w967 rfl e968 rfl (nm9.f c606 (by omega) (by omega) rfl (by omega) (by omega)))))))), m978⟩
        have q820 : ¬ (2147483648 = 2147483648) := q820
        exfalso; omega
      have q371 : ¬ (v349 ≠ 2147483648) := q371
      refine x_const (np := 89) (x := 9223372039002259456) (a := 2147483648) (by decide +kernel) (by decide) (by decide) ?_
      have e979 : rv h 0 = (h (h 61 1) 7) := (congrArg (fun z => svq h z 0) rfl).trans rfl
      have q980 : h353 61 1 = h230 61 1 := f355 61 1 (by decide +kernel)
      have q981 : h230 61 1 = h218 61 1 := f232 61 1 (by decide +kernel)
      have q982 : h218 61 1 = h178 61 1 := by rw [← e220]; exact x_up_k (Ne.symm (tne_8_61 t1))
      have q983 : h178 61 1 = h91 61 1 := f180 61 1 (by decide +kernel)
      have q984 : h91 61 1 = h79 61 1 := f93 61 1 (by decide +kernel)
      have q985 : h79 61 1 = h41 61 1 := by rw [← e81]; exact x_up_k (Ne.symm (tne_8_61 t1))
      have q986 : h41 61 1 = h8 61 1 := f43 61 1 (by decide +kernel)
      have q987 : h8 61 1 = h 61 1 := f10 61 1 (by decide +kernel)
      have q988 : h353 (h 61 1) 7 = h230 (h 61 1) 7 := jK 0 f355 (rg_T0_7_0_1 t1) (by omega) (by omega) (by decide)
      have q989 : h230 (h 61 1) 7 = h218 (h 61 1) 7 := jK 0 f232 (rg_T0_7_0_1 t1) (by omega) (by omega) (by decide)
      have q990 : h218 (h 61 1) 7 = h178 (h 61 1) 7 := by rw [← e220]; exact x_up_k tof_0_8
      have q991 : h178 (h 61 1) 7 = h91 (h 61 1) 7 := jK 0 f180 (rg_T0_7_0_1 t1) (by omega) (by omega) (by decide)
      have q992 : h91 (h 61 1) 7 = h79 (h 61 1) 7 := jK 0 f93 (rg_T0_7_0_1 t1) (by omega) (by omega) (by decide)
      have q993 : h79 (h 61 1) 7 = h41 (h 61 1) 7 := by rw [← e81]; exact x_up_k tof_0_8
      have q994 : h41 (h 61 1) 7 = h8 (h 61 1) 7 := jK 0 f43 (rg_T0_7_0_1 t1) (by omega) (by omega) (by decide)
      have e995 : rv h353 0 = (h8 (h 61 1) 7) := (congrArg (fun z => svq h353 z 0) (((((((q980.trans q981).trans q982).trans q983).trans q984).trans q985).trans q986).trans q987)).trans ((((((q988.trans q989).trans q990).trans q991).trans q992).trans q993).trans q994)
      have e996 : rv h 1 = (h (h 61 1) 8) := (congrArg (fun z => svq h z 1) rfl).trans rfl
      have q997 : h353 61 1 = h230 61 1 := f355 61 1 (by decide +kernel)
      have q998 : h230 61 1 = h218 61 1 := f232 61 1 (by decide +kernel)
      have q999 : h218 61 1 = h178 61 1 := by rw [← e220]; exact x_up_k (Ne.symm (tne_8_61 t1))
      have q1000 : h178 61 1 = h91 61 1 := f180 61 1 (by decide +kernel)
      have q1001 : h91 61 1 = h79 61 1 := f93 61 1 (by decide +kernel)
      have q1002 : h79 61 1 = h41 61 1 := by rw [← e81]; exact x_up_k (Ne.symm (tne_8_61 t1))
      have q1003 : h41 61 1 = h8 61 1 := f43 61 1 (by decide +kernel)
      have q1004 : h8 61 1 = h 61 1 := f10 61 1 (by decide +kernel)
      have q1005 : h353 (h 61 1) 8 = h230 (h 61 1) 8 := jK 0 f355 (rg_T0_8_0_1 t1) (by omega) (by omega) (by decide)
      have q1006 : h230 (h 61 1) 8 = h218 (h 61 1) 8 := jK 0 f232 (rg_T0_8_0_1 t1) (by omega) (by omega) (by decide)
      have q1007 : h218 (h 61 1) 8 = h178 (h 61 1) 8 := by rw [← e220]; exact x_up_k tof_0_8
      have q1008 : h178 (h 61 1) 8 = h91 (h 61 1) 8 := jK 0 f180 (rg_T0_8_0_1 t1) (by omega) (by omega) (by decide)
      have q1009 : h91 (h 61 1) 8 = h79 (h 61 1) 8 := jK 0 f93 (rg_T0_8_0_1 t1) (by omega) (by omega) (by decide)
      have q1010 : h79 (h 61 1) 8 = h41 (h 61 1) 8 := by rw [← e81]; exact x_up_k tof_0_8
      have q1011 : h41 (h 61 1) 8 = h8 (h 61 1) 8 := jK 0 f43 (rg_T0_8_0_1 t1) (by omega) (by omega) (by decide)
      have e1012 : rv h353 1 = (h8 (h 61 1) 8) := (congrArg (fun z => svq h353 z 1) (((((((q997.trans q998).trans q999).trans q1000).trans q1001).trans q1002).trans q1003).trans q1004)).trans ((((((q1005.trans q1006).trans q1007).trans q1008).trans q1009).trans q1010).trans q1011)
      have e1013 : rv h 2 = (h ((h 61 1) + 1) 2) := (congrArg (fun z => svq h z 2) rfl).trans rfl
      have q1014 : h353 61 1 = h230 61 1 := f355 61 1 (by decide +kernel)
      have q1015 : h230 61 1 = h218 61 1 := f232 61 1 (by decide +kernel)
      have q1016 : h218 61 1 = h178 61 1 := by rw [← e220]; exact x_up_k (Ne.symm (tne_8_61 t1))
      have q1017 : h178 61 1 = h91 61 1 := f180 61 1 (by decide +kernel)
      have q1018 : h91 61 1 = h79 61 1 := f93 61 1 (by decide +kernel)
      have q1019 : h79 61 1 = h41 61 1 := by rw [← e81]; exact x_up_k (Ne.symm (tne_8_61 t1))
      have q1020 : h41 61 1 = h8 61 1 := f43 61 1 (by decide +kernel)
      have q1021 : h8 61 1 = h 61 1 := f10 61 1 (by decide +kernel)
      have q1022 : h353 ((h 61 1) + 1) 2 = h230 ((h 61 1) + 1) 2 := jK 0 f355 (rg_T1_2_0_1 t1) (by omega) (by omega) (by decide)
      have q1023 : h230 ((h 61 1) + 1) 2 = h218 ((h 61 1) + 1) 2 := jK 0 f232 (rg_T1_2_0_1 t1) (by omega) (by omega) (by decide)
      have q1024 : h218 ((h 61 1) + 1) 2 = h178 ((h 61 1) + 1) 2 := by rw [← e220]; exact x_up_k tof_1_8
      have q1025 : h178 ((h 61 1) + 1) 2 = h91 ((h 61 1) + 1) 2 := jK 0 f180 (rg_T1_2_0_1 t1) (by omega) (by omega) (by decide)
      have q1026 : h91 ((h 61 1) + 1) 2 = h79 ((h 61 1) + 1) 2 := jK 0 f93 (rg_T1_2_0_1 t1) (by omega) (by omega) (by decide)
      have q1027 : h79 ((h 61 1) + 1) 2 = h41 ((h 61 1) + 1) 2 := by rw [← e81]; exact x_up_k tof_1_8
      have q1028 : h41 ((h 61 1) + 1) 2 = h8 ((h 61 1) + 1) 2 := jK 0 f43 (rg_T1_2_0_1 t1) (by omega) (by omega) (by decide)
      have e1029 : rv h353 2 = (h8 ((h 61 1) + 1) 2) := (congrArg (fun z => svq h353 z 2) (((((((q1014.trans q1015).trans q1016).trans q1017).trans q1018).trans q1019).trans q1020).trans q1021)).trans ((((((q1022.trans q1023).trans q1024).trans q1025).trans q1026).trans q1027).trans q1028)
      have e1030 : rv h 3 = (h ((h 61 1) + 3) 2) := (congrArg (fun z => svq h z 3) rfl).trans rfl
      have q1031 : h353 61 1 = h230 61 1 := f355 61 1 (by decide +kernel)
      have q1032 : h230 61 1 = h218 61 1 := f232 61 1 (by decide +kernel)
      have q1033 : h218 61 1 = h178 61 1 := by rw [← e220]; exact x_up_k (Ne.symm (tne_8_61 t1))
      have q1034 : h178 61 1 = h91 61 1 := f180 61 1 (by decide +kernel)
      have q1035 : h91 61 1 = h79 61 1 := f93 61 1 (by decide +kernel)
      have q1036 : h79 61 1 = h41 61 1 := by rw [← e81]; exact x_up_k (Ne.symm (tne_8_61 t1))
      have q1037 : h41 61 1 = h8 61 1 := f43 61 1 (by decide +kernel)
      have q1038 : h8 61 1 = h 61 1 := f10 61 1 (by decide +kernel)
      have q1039 : h353 ((h 61 1) + 3) 2 = h230 ((h 61 1) + 3) 2 := jK 0 f355 (rg_T3_2_0_1 t1) (by omega) (by omega) (by decide)
      have q1040 : h230 ((h 61 1) + 3) 2 = h218 ((h 61 1) + 3) 2 := jK 0 f232 (rg_T3_2_0_1 t1) (by omega) (by omega) (by decide)
      have q1041 : h218 ((h 61 1) + 3) 2 = h178 ((h 61 1) + 3) 2 := by rw [← e220]; exact x_up_k tof_3_8
      have q1042 : h178 ((h 61 1) + 3) 2 = h91 ((h 61 1) + 3) 2 := jK 0 f180 (rg_T3_2_0_1 t1) (by omega) (by omega) (by decide)
      have q1043 : h91 ((h 61 1) + 3) 2 = h79 ((h 61 1) + 3) 2 := jK 0 f93 (rg_T3_2_0_1 t1) (by omega) (by omega) (by decide)
      have q1044 : h79 ((h 61 1) + 3) 2 = h41 ((h 61 1) + 3) 2 := by rw [← e81]; exact x_up_k tof_3_8
      have q1045 : h41 ((h 61 1) + 3) 2 = h8 ((h 61 1) + 3) 2 := jK 0 f43 (rg_T3_2_0_1 t1) (by omega) (by omega) (by decide)
      have e1046 : rv h353 3 = (h8 ((h 61 1) + 3) 2) := (congrArg (fun z => svq h353 z 3) (((((((q1031.trans q1032).trans q1033).trans q1034).trans q1035).trans q1036).trans q1037).trans q1038)).trans ((((((q1039.trans q1040).trans q1041).trans q1042).trans q1043).trans q1044).trans q1045)
      have e1047 : rv h 4 = (h ((h 61 1) + 5) 2) := (congrArg (fun z => svq h z 4) rfl).trans rfl
      have q1048 : h353 61 1 = h230 61 1 := f355 61 1 (by decide +kernel)
      have q1049 : h230 61 1 = h218 61 1 := f232 61 1 (by decide +kernel)
      have q1050 : h218 61 1 = h178 61 1 := by rw [← e220]; exact x_up_k (Ne.symm (tne_8_61 t1))
      have q1051 : h178 61 1 = h91 61 1 := f180 61 1 (by decide +kernel)
      have q1052 : h91 61 1 = h79 61 1 := f93 61 1 (by decide +kernel)
      have q1053 : h79 61 1 = h41 61 1 := by rw [← e81]; exact x_up_k (Ne.symm (tne_8_61 t1))
      have q1054 : h41 61 1 = h8 61 1 := f43 61 1 (by decide +kernel)
      have q1055 : h8 61 1 = h 61 1 := f10 61 1 (by decide +kernel)
      have q1056 : h353 ((h 61 1) + 5) 2 = h230 ((h 61 1) + 5) 2 := jK 0 f355 (rg_T5_2_0_1 t1) (by omega) (by omega) (by decide)
      have q1057 : h230 ((h 61 1) + 5) 2 = h218 ((h 61 1) + 5) 2 := jK 0 f232 (rg_T5_2_0_1 t1) (by omega) (by omega) (by decide)
      have q1058 : h218 ((h 61 1) + 5) 2 = h178 ((h 61 1) + 5) 2 := by rw [← e220]; exact x_up_k tof_5_8
      have q1059 : h178 ((h 61 1) + 5) 2 = h91 ((h 61 1) + 5) 2 := jK 0 f180 (rg_T5_2_0_1 t1) (by omega) (by omega) (by decide)
      have q1060 : h91 ((h 61 1) + 5) 2 = h79 ((h 61 1) + 5) 2 := jK 0 f93 (rg_T5_2_0_1 t1) (by omega) (by omega) (by decide)
      have q1061 : h79 ((h 61 1) + 5) 2 = h41 ((h 61 1) + 5) 2 := by rw [← e81]; exact x_up_k tof_5_8
      have q1062 : h41 ((h 61 1) + 5) 2 = h8 ((h 61 1) + 5) 2 := jK 0 f43 (rg_T5_2_0_1 t1) (by omega) (by omega) (by decide)
      have e1063 : rv h353 4 = (h8 ((h 61 1) + 5) 2) := (congrArg (fun z => svq h353 z 4) (((((((q1048.trans q1049).trans q1050).trans q1051).trans q1052).trans q1053).trans q1054).trans q1055)).trans ((((((q1056.trans q1057).trans q1058).trans q1059).trans q1060).trans q1061).trans q1062)
      have q1064 : h353 61 1 = h230 61 1 := f355 61 1 (by decide +kernel)
      have q1065 : h230 61 1 = h218 61 1 := f232 61 1 (by decide +kernel)
      have q1066 : h218 61 1 = h178 61 1 := by rw [← e220]; exact x_up_k (Ne.symm (tne_8_61 t1))
      have q1067 : h178 61 1 = h91 61 1 := f180 61 1 (by decide +kernel)
      have q1068 : h91 61 1 = h79 61 1 := f93 61 1 (by decide +kernel)
      have q1069 : h79 61 1 = h41 61 1 := by rw [← e81]; exact x_up_k (Ne.symm (tne_8_61 t1))
      have q1070 : h41 61 1 = h8 61 1 := f43 61 1 (by decide +kernel)
      have q1071 : h8 61 1 = h 61 1 := f10 61 1 (by decide +kernel)
      have q1072 : h353 ((h 61 1) + 7) 2 = h230 ((h 61 1) + 7) 2 := jK 0 f355 (rg_T7_2_0_1 t1) (by omega) (by omega) (by decide)
      have q1073 : h230 ((h 61 1) + 7) 2 = h218 ((h 61 1) + 7) 2 := jK 0 f232 (rg_T7_2_0_1 t1) (by omega) (by omega) (by decide)
      have q1074 : h218 ((h 61 1) + 7) 2 = h178 ((h 61 1) + 7) 2 := by rw [← e220]; exact x_up_k tof_7_8
      have q1075 : h178 ((h 61 1) + 7) 2 = h91 ((h 61 1) + 7) 2 := jK 0 f180 (rg_T7_2_0_1 t1) (by omega) (by omega) (by decide)
      have q1076 : h91 ((h 61 1) + 7) 2 = h79 ((h 61 1) + 7) 2 := jK 0 f93 (rg_T7_2_0_1 t1) (by omega) (by omega) (by decide)
      have q1077 : h79 ((h 61 1) + 7) 2 = h41 ((h 61 1) + 7) 2 := by rw [← e81]; exact x_up_k tof_7_8
      have q1078 : h41 ((h 61 1) + 7) 2 = h8 ((h 61 1) + 7) 2 := jK 0 f43 (rg_T7_2_0_1 t1) (by omega) (by omega) (by decide)
      have e1079 : rv h353 5 = (h8 ((h 61 1) + 7) 2) := (congrArg (fun z => svq h353 z 5) (((((((q1064.trans q1065).trans q1066).trans q1067).trans q1068).trans q1069).trans q1070).trans q1071)).trans ((((((q1072.trans q1073).trans q1074).trans q1075).trans q1076).trans q1077).trans q1078)
      have q1080 : h8 1 2 = h 1 2 := jK 0 f10 rg_1_2_0_1 (by omega) (by omega) (by decide)
      have q1081 : h79 1 2 = h41 1 2 := by rw [← e81]; exact x_up_k (Ne.symm (tne_8_1 t1))
      obtain ⟨w1082, e1083⟩ := Tk.yes c97 (by omega)
      have q1084 : h218 1 2 = h178 1 2 := by rw [← e220]; exact x_up_k (Ne.symm (tne_8_1 t1))
      obtain ⟨w1085, e1086⟩ := Tk.yes c236 (by omega)
      have q1087 : h230 61 1 = h218 61 1 := f232 61 1 (by decide +kernel)
      have q1088 : h218 61 1 = h178 61 1 := by rw [← e220]; exact x_up_k (Ne.symm (tne_8_61 t1))
      have q1089 : h178 61 1 = h91 61 1 := f180 61 1 (by decide +kernel)
      have q1090 : h91 61 1 = h79 61 1 := f93 61 1 (by decide +kernel)
      have q1091 : h79 61 1 = h41 61 1 := by rw [← e81]; exact x_up_k (Ne.symm (tne_8_61 t1))
      have q1092 : h41 61 1 = h8 61 1 := f43 61 1 (by decide +kernel)
      have q1093 : h8 61 1 = h 61 1 := f10 61 1 (by decide +kernel)
      have q1094 : h230 (h 61 1) 7 = h218 (h 61 1) 7 := jK 0 f232 (rg_T0_7_0_1 t1) (by omega) (by omega) (by decide)
      have q1095 : h218 (h 61 1) 7 = h178 (h 61 1) 7 := by rw [← e220]; exact x_up_k tof_0_8
      have q1096 : h178 (h 61 1) 7 = h91 (h 61 1) 7 := jK 0 f180 (rg_T0_7_0_1 t1) (by omega) (by omega) (by decide)
      have q1097 : h91 (h 61 1) 7 = h79 (h 61 1) 7 := jK 0 f93 (rg_T0_7_0_1 t1) (by omega) (by omega) (by decide)
      have q1098 : h79 (h 61 1) 7 = h41 (h 61 1) 7 := by rw [← e81]; exact x_up_k tof_0_8
      have q1099 : h41 (h 61 1) 7 = h8 (h 61 1) 7 := jK 0 f43 (rg_T0_7_0_1 t1) (by omega) (by omega) (by decide)
      have e1100 : rv h230 0 = (h8 (h 61 1) 7) := (congrArg (fun z => svq h230 z 0) ((((((q1087.trans q1088).trans q1089).trans q1090).trans q1091).trans q1092).trans q1093)).trans (((((q1094.trans q1095).trans q1096).trans q1097).trans q1098).trans q1099)
      have m1101 : Ot (h 61 1) h h8 := Ot.trans Ot.refl (c19)
      have m1102 : Ot (h 61 1) h h41 := Ot.fr m1101 f43 (by decide)
      have m1103 : Ot (h 61 1) h h79 := by rw [← e81]; exact Ot.up (o := 8) m1102 t1 (by decide) rfl
      have m1104 : Ot (h 61 1) h h91 := Ot.fr m1103 f93 (by decide)
      have m1105 : Ot (h 61 1) h h178 := Ot.fr m1104 f180 (by decide)
      have m1106 : Ot (h 61 1) h h218 := by rw [← e220]; exact Ot.up (o := 8) m1105 t1 (by decide) rfl
      have m1107 : Ot (h 61 1) h h230 := Ot.fr m1106 f232 (by decide)
      have m1108 : Ot (h 61 1) h h353 := Ot.fr m1107 f355 (by decide)
      refine x_retI (np := 90) (x := 0) (by decide +kernel) (by decide) (Or.inr ⟨by decide +kernel, by omega, by omega⟩) ⟨_, rfl, (by decide), ?_⟩
      exact ⟨j354, f359, (by omega), (by omega), (by omega), (by omega), (by omega), (by omega), (fun z => by omega), (nm9.y c48 (by omega) (by omega) (show h8 1 2 = h 1 2 by omega) (by omega) rfl (wd9.y w1082 (show h79 1 2 = h41 1 2 by omega) e1083 rfl (nm9.y c185 (by omega) (by omega) rfl (by omega) rfl (wd9.y w1085 (show h218 1 2 = h178 1 2 by omega) e1086 rfl (bl9.f c357 (by omega) rfl (by omega) (by omega)))))), m1108⟩
    have q189 : ¬ (v174 ≠ 2147483647) := q189
    have b1109 := c184 (by omega)
    refine x_const (np := 20) (x := 9223372039002259456) (a := 2147483648) (by decide +kernel) (by decide) (by decide) ?_
    refine x_retI (np := 21) (x := 0) (by decide +kernel) (by decide) (Or.inr ⟨by decide +kernel, by omega, by omega⟩) ⟨_, rfl, (by decide), ?_⟩
    refine x_ifz (k := 0) (tg := 88) (np := 68) (by decide +kernel) (by decide) (by decide) (fun q1110 => ?_) (fun q1111 => ?_)
    · have q1110 : 2147483648 = 2147483648 := q1110
      refine x_const (np := 89) (x := 9223372039002259456) (a := 2147483648) (by decide +kernel) (by decide) (by decide) ?_
      have e1112 : rv h 0 = (h (h 61 1) 7) := (congrArg (fun z => svq h z 0) rfl).trans rfl
      have q1113 : h178 61 1 = h91 61 1 := f180 61 1 (by decide +kernel)
      have q1114 : h91 61 1 = h79 61 1 := f93 61 1 (by decide +kernel)
      have q1115 : h79 61 1 = h41 61 1 := by rw [← e81]; exact x_up_k (Ne.symm (tne_8_61 t1))
      have q1116 : h41 61 1 = h8 61 1 := f43 61 1 (by decide +kernel)
      have q1117 : h8 61 1 = h 61 1 := f10 61 1 (by decide +kernel)
      have q1118 : h178 (h 61 1) 7 = h91 (h 61 1) 7 := jK 0 f180 (rg_T0_7_0_1 t1) (by omega) (by omega) (by decide)
      have q1119 : h91 (h 61 1) 7 = h79 (h 61 1) 7 := jK 0 f93 (rg_T0_7_0_1 t1) (by omega) (by omega) (by decide)
      have q1120 : h79 (h 61 1) 7 = h41 (h 61 1) 7 := by rw [← e81]; exact x_up_k tof_0_8
      have q1121 : h41 (h 61 1) 7 = h8 (h 61 1) 7 := jK 0 f43 (rg_T0_7_0_1 t1) (by omega) (by omega) (by decide)
      have e1122 : rv h178 0 = (h8 (h 61 1) 7) := (congrArg (fun z => svq h178 z 0) ((((q1113.trans q1114).trans q1115).trans q1116).trans q1117)).trans (((q1118.trans q1119).trans q1120).trans q1121)
      have e1123 : rv h 1 = (h (h 61 1) 8) := (congrArg (fun z => svq h z 1) rfl).trans rfl
      have q1124 : h178 61 1 = h91 61 1 := f180 61 1 (by decide +kernel)
      have q1125 : h91 61 1 = h79 61 1 := f93 61 1 (by decide +kernel)
      have q1126 : h79 61 1 = h41 61 1 := by rw [← e81]; exact x_up_k (Ne.symm (tne_8_61 t1))
      have q1127 : h41 61 1 = h8 61 1 := f43 61 1 (by decide +kernel)
      have q1128 : h8 61 1 = h 61 1 := f10 61 1 (by decide +kernel)
      have q1129 : h178 (h 61 1) 8 = h91 (h 61 1) 8 := jK 0 f180 (rg_T0_8_0_1 t1) (by omega) (by omega) (by decide)
      have q1130 : h91 (h 61 1) 8 = h79 (h 61 1) 8 := jK 0 f93 (rg_T0_8_0_1 t1) (by omega) (by omega) (by decide)
      have q1131 : h79 (h 61 1) 8 = h41 (h 61 1) 8 := by rw [← e81]; exact x_up_k tof_0_8
      have q1132 : h41 (h 61 1) 8 = h8 (h 61 1) 8 := jK 0 f43 (rg_T0_8_0_1 t1) (by omega) (by omega) (by decide)
      have e1133 : rv h178 1 = (h8 (h 61 1) 8) := (congrArg (fun z => svq h178 z 1) ((((q1124.trans q1125).trans q1126).trans q1127).trans q1128)).trans (((q1129.trans q1130).trans q1131).trans q1132)
      have e1134 : rv h 2 = (h ((h 61 1) + 1) 2) := (congrArg (fun z => svq h z 2) rfl).trans rfl
      have q1135 : h178 61 1 = h91 61 1 := f180 61 1 (by decide +kernel)
      have q1136 : h91 61 1 = h79 61 1 := f93 61 1 (by decide +kernel)
      have q1137 : h79 61 1 = h41 61 1 := by rw [← e81]; exact x_up_k (Ne.symm (tne_8_61 t1))
      have q1138 : h41 61 1 = h8 61 1 := f43 61 1 (by decide +kernel)
      have q1139 : h8 61 1 = h 61 1 := f10 61 1 (by decide +kernel)
      have q1140 : h178 ((h 61 1) + 1) 2 = h91 ((h 61 1) + 1) 2 := jK 0 f180 (rg_T1_2_0_1 t1) (by omega) (by omega) (by decide)
      have q1141 : h91 ((h 61 1) + 1) 2 = h79 ((h 61 1) + 1) 2 := jK 0 f93 (rg_T1_2_0_1 t1) (by omega) (by omega) (by decide)
      have q1142 : h79 ((h 61 1) + 1) 2 = h41 ((h 61 1) + 1) 2 := by rw [← e81]; exact x_up_k tof_1_8
      have q1143 : h41 ((h 61 1) + 1) 2 = h8 ((h 61 1) + 1) 2 := jK 0 f43 (rg_T1_2_0_1 t1) (by omega) (by omega) (by decide)
      have e1144 : rv h178 2 = (h8 ((h 61 1) + 1) 2) := (congrArg (fun z => svq h178 z 2) ((((q1135.trans q1136).trans q1137).trans q1138).trans q1139)).trans (((q1140.trans q1141).trans q1142).trans q1143)
      have e1145 : rv h 3 = (h ((h 61 1) + 3) 2) := (congrArg (fun z => svq h z 3) rfl).trans rfl
      have q1146 : h178 61 1 = h91 61 1 := f180 61 1 (by decide +kernel)
      have q1147 : h91 61 1 = h79 61 1 := f93 61 1 (by decide +kernel)
      have q1148 : h79 61 1 = h41 61 1 := by rw [← e81]; exact x_up_k (Ne.symm (tne_8_61 t1))
      have q1149 : h41 61 1 = h8 61 1 := f43 61 1 (by decide +kernel)
      have q1150 : h8 61 1 = h 61 1 := f10 61 1 (by decide +kernel)
      have q1151 : h178 ((h 61 1) + 3) 2 = h91 ((h 61 1) + 3) 2 := jK 0 f180 (rg_T3_2_0_1 t1) (by omega) (by omega) (by decide)
      have q1152 : h91 ((h 61 1) + 3) 2 = h79 ((h 61 1) + 3) 2 := jK 0 f93 (rg_T3_2_0_1 t1) (by omega) (by omega) (by decide)
      have q1153 : h79 ((h 61 1) + 3) 2 = h41 ((h 61 1) + 3) 2 := by rw [← e81]; exact x_up_k tof_3_8
      have q1154 : h41 ((h 61 1) + 3) 2 = h8 ((h 61 1) + 3) 2 := jK 0 f43 (rg_T3_2_0_1 t1) (by omega) (by omega) (by decide)
      have e1155 : rv h178 3 = (h8 ((h 61 1) + 3) 2) := (congrArg (fun z => svq h178 z 3) ((((q1146.trans q1147).trans q1148).trans q1149).trans q1150)).trans (((q1151.trans q1152).trans q1153).trans q1154)
      have e1156 : rv h 4 = (h ((h 61 1) + 5) 2) := (congrArg (fun z => svq h z 4) rfl).trans rfl
      have q1157 : h178 61 1 = h91 61 1 := f180 61 1 (by decide +kernel)
      have q1158 : h91 61 1 = h79 61 1 := f93 61 1 (by decide +kernel)
      have q1159 : h79 61 1 = h41 61 1 := by rw [← e81]; exact x_up_k (Ne.symm (tne_8_61 t1))
      have q1160 : h41 61 1 = h8 61 1 := f43 61 1 (by decide +kernel)
      have q1161 : h8 61 1 = h 61 1 := f10 61 1 (by decide +kernel)
      have q1162 : h178 ((h 61 1) + 5) 2 = h91 ((h 61 1) + 5) 2 := jK 0 f180 (rg_T5_2_0_1 t1) (by omega) (by omega) (by decide)
      have q1163 : h91 ((h 61 1) + 5) 2 = h79 ((h 61 1) + 5) 2 := jK 0 f93 (rg_T5_2_0_1 t1) (by omega) (by omega) (by decide)
      have q1164 : h79 ((h 61 1) + 5) 2 = h41 ((h 61 1) + 5) 2 := by rw [← e81]; exact x_up_k tof_5_8
      have q1165 : h41 ((h 61 1) + 5) 2 = h8 ((h 61 1) + 5) 2 := jK 0 f43 (rg_T5_2_0_1 t1) (by omega) (by omega) (by decide)
      have e1166 : rv h178 4 = (h8 ((h 61 1) + 5) 2) := (congrArg (fun z => svq h178 z 4) ((((q1157.trans q1158).trans q1159).trans q1160).trans q1161)).trans (((q1162.trans q1163).trans q1164).trans q1165)
      have q1167 : h178 61 1 = h91 61 1 := f180 61 1 (by decide +kernel)
      have q1168 : h91 61 1 = h79 61 1 := f93 61 1 (by decide +kernel)
      have q1169 : h79 61 1 = h41 61 1 := by rw [← e81]; exact x_up_k (Ne.symm (tne_8_61 t1))
      have q1170 : h41 61 1 = h8 61 1 := f43 61 1 (by decide +kernel)
      have q1171 : h8 61 1 = h 61 1 := f10 61 1 (by decide +kernel)
      have q1172 : h178 ((h 61 1) + 7) 2 = h91 ((h 61 1) + 7) 2 := jK 0 f180 (rg_T7_2_0_1 t1) (by omega) (by omega) (by decide)
      have q1173 : h91 ((h 61 1) + 7) 2 = h79 ((h 61 1) + 7) 2 := jK 0 f93 (rg_T7_2_0_1 t1) (by omega) (by omega) (by decide)
      have q1174 : h79 ((h 61 1) + 7) 2 = h41 ((h 61 1) + 7) 2 := by rw [← e81]; exact x_up_k tof_7_8
      have q1175 : h41 ((h 61 1) + 7) 2 = h8 ((h 61 1) + 7) 2 := jK 0 f43 (rg_T7_2_0_1 t1) (by omega) (by omega) (by decide)
      have e1176 : rv h178 5 = (h8 ((h 61 1) + 7) 2) := (congrArg (fun z => svq h178 z 5) ((((q1167.trans q1168).trans q1169).trans q1170).trans q1171)).trans (((q1172.trans q1173).trans q1174).trans q1175)
      have q1177 : h8 1 2 = h 1 2 := jK 0 f10 rg_1_2_0_1 (by omega) (by omega) (by decide)
      have q1178 : h79 1 2 = h41 1 2 := by rw [← e81]; exact x_up_k (Ne.symm (tne_8_1 t1))
      obtain ⟨w1179, e1180⟩ := Tk.yes c97 (by omega)
      have m1181 : Ot (h 61 1) h h8 := Ot.trans Ot.refl (c19)
      have m1182 : Ot (h 61 1) h h41 := Ot.fr m1181 f43 (by decide)
      have m1183 : Ot (h 61 1) h h79 := by rw [← e81]; exact Ot.up (o := 8) m1182 t1 (by decide) rfl
      have m1184 : Ot (h 61 1) h h91 := Ot.fr m1183 f93 (by decide)
      have m1185 : Ot (h 61 1) h h178 := Ot.fr m1184 f180 (by decide)
      refine x_retI (np := 90) (x := 0) (by decide +kernel) (by decide) (Or.inr ⟨by decide +kernel, by omega, by omega⟩) ⟨_, rfl, (by decide), ?_⟩
      exact ⟨j179, f186, (by omega), (by omega), (by omega), (by omega), (by omega), (by omega), (fun z => by omega), (nm9.y c48 (by omega) (by omega) (show h8 1 2 = h 1 2 by omega) (by omega) rfl (wd9.y w1179 (show h79 1 2 = h41 1 2 by omega) e1180 rfl (nm9.f c185 (by omega) (by omega) rfl (by omega) (by omega)))), m1185⟩
    have q1111 : ¬ (2147483648 = 2147483648) := q1111
    exfalso; omega
  have q55 : ¬ (v37 ≠ 2147483647) := q55
  have b1186 := c47 (by omega)
  refine x_const (np := 20) (x := 9223372039002259456) (a := 2147483648) (by decide +kernel) (by decide) (by decide) ?_
  refine x_retI (np := 21) (x := 0) (by decide +kernel) (by decide) (Or.inr ⟨by decide +kernel, by omega, by omega⟩) ⟨_, rfl, (by decide), ?_⟩
  refine x_ifz (k := 0) (tg := 88) (np := 37) (by decide +kernel) (by decide) (by decide) (fun q1187 => ?_) (fun q1188 => ?_)
  · have q1187 : 2147483648 = 2147483648 := q1187
    refine x_const (np := 89) (x := 9223372039002259456) (a := 2147483648) (by decide +kernel) (by decide) (by decide) ?_
    have e1189 : rv h 0 = (h (h 61 1) 7) := (congrArg (fun z => svq h z 0) rfl).trans rfl
    have q1190 : h41 61 1 = h8 61 1 := f43 61 1 (by decide +kernel)
    have q1191 : h8 61 1 = h 61 1 := f10 61 1 (by decide +kernel)
    have q1192 : h41 (h 61 1) 7 = h8 (h 61 1) 7 := jK 0 f43 (rg_T0_7_0_1 t1) (by omega) (by omega) (by decide)
    have e1193 : rv h41 0 = (h8 (h 61 1) 7) := (congrArg (fun z => svq h41 z 0) (q1190.trans q1191)).trans q1192
    have e1194 : rv h 1 = (h (h 61 1) 8) := (congrArg (fun z => svq h z 1) rfl).trans rfl
    have q1195 : h41 61 1 = h8 61 1 := f43 61 1 (by decide +kernel)
    have q1196 : h8 61 1 = h 61 1 := f10 61 1 (by decide +kernel)
    have q1197 : h41 (h 61 1) 8 = h8 (h 61 1) 8 := jK 0 f43 (rg_T0_8_0_1 t1) (by omega) (by omega) (by decide)
    have e1198 : rv h41 1 = (h8 (h 61 1) 8) := (congrArg (fun z => svq h41 z 1) (q1195.trans q1196)).trans q1197
    have e1199 : rv h 2 = (h ((h 61 1) + 1) 2) := (congrArg (fun z => svq h z 2) rfl).trans rfl
    have q1200 : h41 61 1 = h8 61 1 := f43 61 1 (by decide +kernel)
    have q1201 : h8 61 1 = h 61 1 := f10 61 1 (by decide +kernel)
    have q1202 : h41 ((h 61 1) + 1) 2 = h8 ((h 61 1) + 1) 2 := jK 0 f43 (rg_T1_2_0_1 t1) (by omega) (by omega) (by decide)
    have e1203 : rv h41 2 = (h8 ((h 61 1) + 1) 2) := (congrArg (fun z => svq h41 z 2) (q1200.trans q1201)).trans q1202
    have e1204 : rv h 3 = (h ((h 61 1) + 3) 2) := (congrArg (fun z => svq h z 3) rfl).trans rfl
    have q1205 : h41 61 1 = h8 61 1 := f43 61 1 (by decide +kernel)
    have q1206 : h8 61 1 = h 61 1 := f10 61 1 (by decide +kernel)
    have q1207 : h41 ((h 61 1) + 3) 2 = h8 ((h 61 1) + 3) 2 := jK 0 f43 (rg_T3_2_0_1 t1) (by omega) (by omega) (by decide)
    have e1208 : rv h41 3 = (h8 ((h 61 1) + 3) 2) := (congrArg (fun z => svq h41 z 3) (q1205.trans q1206)).trans q1207
    have e1209 : rv h 4 = (h ((h 61 1) + 5) 2) := (congrArg (fun z => svq h z 4) rfl).trans rfl
    have q1210 : h41 61 1 = h8 61 1 := f43 61 1 (by decide +kernel)
    have q1211 : h8 61 1 = h 61 1 := f10 61 1 (by decide +kernel)
    have q1212 : h41 ((h 61 1) + 5) 2 = h8 ((h 61 1) + 5) 2 := jK 0 f43 (rg_T5_2_0_1 t1) (by omega) (by omega) (by decide)
    have e1213 : rv h41 4 = (h8 ((h 61 1) + 5) 2) := (congrArg (fun z => svq h41 z 4) (q1210.trans q1211)).trans q1212
    have q1214 : h41 61 1 = h8 61 1 := f43 61 1 (by decide +kernel)
    have q1215 : h8 61 1 = h 61 1 := f10 61 1 (by decide +kernel)
    have q1216 : h41 ((h 61 1) + 7) 2 = h8 ((h 61 1) + 7) 2 := jK 0 f43 (rg_T7_2_0_1 t1) (by omega) (by omega) (by decide)
    have e1217 : rv h41 5 = (h8 ((h 61 1) + 7) 2) := (congrArg (fun z => svq h41 z 5) (q1214.trans q1215)).trans q1216
    have q1218 : h8 1 2 = h 1 2 := jK 0 f10 rg_1_2_0_1 (by omega) (by omega) (by decide)
    have m1219 : Ot (h 61 1) h h8 := Ot.trans Ot.refl (c19)
    have m1220 : Ot (h 61 1) h h41 := Ot.fr m1219 f43 (by decide)
    refine x_retI (np := 90) (x := 0) (by decide +kernel) (by decide) (Or.inr ⟨by decide +kernel, by omega, by omega⟩) ⟨_, rfl, (by decide), ?_⟩
    exact ⟨j42, f49, (by omega), (by omega), (by omega), (by omega), (by omega), (by omega), (fun z => by omega), (nm9.f c48 (by omega) (by omega) (show h8 1 2 = h 1 2 by omega) (by omega) (by omega)), m1220⟩
  have q1188 : ¬ (2147483648 = 2147483648) := q1188
  exfalso; omega
