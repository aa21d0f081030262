/-! ===== methods ===== -/
set_option maxHeartbeats 0 in
/-- LentNames$Table.put(III)V -/
theorem c69_T1_c6 {sc : Nat × Nat} {d ra0 a1 a3 : Nat} {h : xh} (hJ : J h) (ta0 : tw ra0) (ba1 : 2147483648 ≤ a1 ∧ a1 ≤ 2147483667) (ba3 : 2147483648 ≤ a3 ∧ a3 ≤ 2147483660) : X sc 69 d (xV fun h' => J h' ∧ Fr 129 h h') 0 0 0 [x_r (ra0 + 1), iv_c a1, iv_c 2147483654, iv_c a3, 147573952589676412928] [] h := by
  have la1 : a1 < 4294967296 := by first | decide | omega
  have la3 : a3 < 4294967296 := by first | decide | omega
  have hF := Fr.refl 129 h
  refine x_iload (np := 1) (x := 1) (by decide +kernel) rfl la1 ?_
  refine x_ifz (k := 2) (tg := 28) (np := 4) (by decide +kernel) (by decide) la1 (fun q1 => ?_) (fun q2 => ?_)
  · have q1 : a1 < 2147483648 := q1
    exfalso; omega
  have q2 : ¬ (a1 < 2147483648) := q2
  refine x_iload (np := 5) (x := 1) (by decide +kernel) rfl la1 ?_
  refine x_aload (np := 6) (x := 0) (by decide +kernel) rfl (x_nc_le (tn_1 ta0)) ?_
  have b3 := jB (e := 2) 0 hJ (rg_T1_2_0_1 ta0) (by first | decide | omega) (by first | decide | omega)
  refine x_getC (np := 9) (x := 386) (f := 2) (q := (h (ra0 + 1) 2)) (by decide +kernel) (by decide) (tg_1_386_2_0 ta0) rfl (fun l4 => ?_)
  refine x_icmp (k := 3) (tg := 28) (np := 12) (by decide +kernel) (by decide) la1 l4 (fun q5 => ?_) (fun q6 => ?_)
  · have q5 : (h (ra0 + 1) 2) ≤ a1 := q5
    refine x_const (np := 29) (x := 9223372039002259456) (a := 2147483648) (by decide +kernel) (by decide) (by decide) ?_
    refine x_istore (np := 31) (x := 4) (lo' := [x_r (ra0 + 1), iv_c a1, iv_c 2147483654, iv_c a3, iv_c 2147483648]) (by decide +kernel) (by decide) (Nat.le_of_ble_eq_true rfl) rfl ?_
    refine x_iload (np := 33) (x := 4) (by decide +kernel) rfl (by decide) ?_
    refine x_ifz (k := 0) (tg := 50) (np := 36) (by decide +kernel) (by decide) (by decide) (fun q7 => ?_) (fun q8 => ?_)
    · have q7 : 2147483648 = 2147483648 := q7
      refine x_retV (np := 51) (x := 0) (by decide +kernel) (by decide +kernel) ⟨rfl, ?_⟩
      exact ⟨hJ, hF⟩
    have q8 : ¬ (2147483648 = 2147483648) := q8
    exfalso; omega
  have q6 : ¬ ((h (ra0 + 1) 2) ≤ a1) := q6
  refine x_iload (np := 13) (x := 2) (by decide +kernel) rfl (by decide) ?_
  refine x_ifz (k := 2) (tg := 28) (np := 16) (by decide +kernel) (by decide) (by decide) (fun q9 => ?_) (fun q10 => ?_)
  · have q9 : 2147483654 < 2147483648 := q9
    exfalso; omega
  have q10 : ¬ (2147483654 < 2147483648) := q10
  refine x_iload (np := 17) (x := 2) (by decide +kernel) rfl (by decide) ?_
  refine x_aload (np := 18) (x := 0) (by decide +kernel) rfl (x_nc_le (tn_1 ta0)) ?_
  have b11 := jB (e := 0) 0 hJ (rg_T1_0_0_1 ta0) (by first | decide | omega) (by first | decide | omega)
  have q12 : (h (ra0 + 1) 0) = 2147483655 := by first | decide | omega
  refine x_getC (np := 21) (x := 384) (f := 0) (q := 2147483655) (by decide +kernel) (by decide) (tg_1_384_0_0 ta0) q12 (fun l13 => ?_)
  refine x_icmp (k := 3) (tg := 28) (np := 24) (by decide +kernel) (by decide) (by decide) (by decide) (fun q14 => ?_) (fun q15 => ?_)
  · have q14 : 2147483655 ≤ 2147483654 := q14
    exfalso; omega
  have q15 : ¬ (2147483655 ≤ 2147483654) := q15
  refine x_const (np := 25) (x := 9223372043297226753) (a := 2147483649) (by decide +kernel) (by decide) (by decide) ?_
  refine x_goto (np := 28) (x := 29) (by decide +kernel) ?_
  refine x_istore (np := 31) (x := 4) (lo' := [x_r (ra0 + 1), iv_c a1, iv_c 2147483654, iv_c a3, iv_c 2147483649]) (by decide +kernel) (by decide) (Nat.le_of_ble_eq_true rfl) rfl ?_
  refine x_iload (np := 33) (x := 4) (by decide +kernel) rfl (by decide) ?_
  refine x_ifz (k := 0) (tg := 50) (np := 36) (by decide +kernel) (by decide) (by decide) (fun q16 => ?_) (fun q17 => ?_)
  · have q16 : 2147483649 = 2147483648 := q16
    exfalso; omega
  have q17 : ¬ (2147483649 = 2147483648) := q17
  refine x_aload (np := 37) (x := 0) (by decide +kernel) rfl (x_nc_le (tn_1 ta0)) ?_
  have q18 : h (ra0 + 1) 1 = (ra0 + 2) := tf_1_1 hJ ta0
  refine x_getR (np := 40) (x := 385) (f := 1) (q := (ra0 + 2)) (by decide +kernel) (by decide) (tg_1_385_1_1 ta0) q18 ?_
  refine x_iload (np := 41) (x := 1) (by decide +kernel) rfl la1 ?_
  refine x_aload (np := 42) (x := 0) (by decide +kernel) rfl (x_nc_le (tn_1 ta0)) ?_
  refine x_getC (np := 45) (x := 384) (f := 0) (q := 2147483655) (by decide +kernel) (by decide) (tg_1_384_0_0 ta0) q12 (fun l19 => ?_)
  obtain ⟨u20, q21⟩ : ∃ z, a1 = 2147483648 + z := ⟨a1 - 2147483648, by first | decide | omega⟩
  refine x_imul (np := 46) (x := 0) (i := u20) (j := 7) (v := (2147483648 + 7 * u20)) (by decide +kernel) (by first | decide | omega) (by first | decide | omega) (by first | decide | omega) (by first | decide | omega) la1 (by decide) ?_
  refine x_iload (np := 47) (x := 2) (by decide +kernel) rfl (by decide) ?_
  refine x_iadd (np := 48) (x := 0) (v := (2147483654 + 7 * u20)) (by decide +kernel) (by first | decide | omega) (by decide) (by first | decide | omega) (by first | decide | omega) ?_
  refine x_iload (np := 49) (x := 3) (by decide +kernel) rfl la3 ?_
  refine x_ast (np := 50) (x := 0) (kd := 1) (n := 140) (i := (6 + 7 * u20)) (by decide +kernel) (Or.inl rfl) (ta_2_140 ta0) (by first | decide | omega) (by first | decide | omega) (by decide) la3 (fun z => absurd z (by decide)) ?_
  have j24 := jU (e := (6 + 7 * u20)) (v := a3) u20 hJ (rg_T2_6_7_20 ta0) (by first | decide | omega) (by first | decide | omega) (by first | decide | omega)
  have f26 := jF (e := (6 + 7 * u20)) (v := a3) u20 hF (rg_T2_6_7_20 ta0) (by first | decide | omega) (by first | decide | omega) (by decide)
  generalize e25 : x_up h (ra0 + 2) (6 + 7 * u20) a3 = h23 at j24 f26 ⊢
  refine x_retV (np := 51) (x := 0) (by decide +kernel) (by decide +kernel) ⟨rfl, ?_⟩
  exact ⟨j24, f26⟩
set_option maxHeartbeats 0 in
/-- LentNames$TownReader.readLate()Z -/
theorem c95_61 {sc : Nat × Nat} {d  : Nat} {h : xh} {tB : Nat → Nat} {tN : Nat} (hJ : J h) (hT : Tp tB tN h) : X sc 95 (d + 6) (xI fun r h' => J h' ∧ Fr 161 h h' ∧ (2147483648 ≤ r ∧ r ≤ 2147483649) ∧ late9 tB tN (rv h 2) (h 1 2) (rs r (h' 1 2))) 0 0 0 [x_r 61, 147573952589676412928] [] h := by
  have hF := Fr.refl 161 h
  refine x_aload (np := 1) (x := 0) (by decide +kernel) rfl (x_nc_le (by decide)) ?_
  have q1 : h 61 0 = 1 := by have z := jB (e := 0) 0 hJ rg_61_0_0_1 (by decide) (by decide); omega
  refine x_getR (np := 4) (x := 576) (f := 0) (q := 1) (by decide +kernel) (by decide) (by decide +kernel) q1 ?_
  refine x_const (np := 5) (x := 9223372039002259456) (a := 2147483648) (by decide +kernel) (by decide) (by decide) ?_
  refine x_aload (np := 6) (x := 0) (by decide +kernel) rfl (x_nc_le (by decide)) ?_
  have t2 : tw (h 61 1) := hJ.2.2.2.2.1
  refine x_getR (np := 9) (x := 577) (f := 1) (q := (h 61 1)) (by decide +kernel) (by decide) (by decide +kernel) rfl ?_
  have q3 : h (h 61 1) 0 = ((h 61 1) + 1) := tf_0_0 hJ t2
  refine x_getR (np := 12) (x := 512) (f := 0) (q := ((h 61 1) + 1)) (by decide +kernel) (by decide) (tg_0_512_0_1 t2) q3 ?_
  have b4 := jB (e := 2) 0 hJ (rg_T1_2_0_1 t2) (by first | decide | omega) (by first | decide | omega)
  refine x_getC (np := 15) (x := 386) (f := 2) (q := (h ((h 61 1) + 1) 2)) (by decide +kernel) (by decide) (tg_1_386_2_0 t2) rfl (fun l5 => ?_)
  refine x_const (np := 16) (x := 9223372043297226753) (a := 2147483649) (by decide +kernel) (by decide) (by decide) ?_
  obtain ⟨v6, q7⟩ : ∃ z, z + 2147483649 = (h ((h 61 1) + 1) 2) + 2147483648 := ⟨(h ((h 61 1) + 1) 2) + 2147483648 - 2147483649, by first | decide | omega⟩
  refine x_isub (np := 17) (x := 0) (v := v6) (by decide +kernel) l5 (by decide) (by first | decide | omega) (by first | decide | omega) ?_
  refine x_cI (t := 6) (mj := 79) (n := 3) (rc := 8) (ml := 5) (nr := 0) (np := 20) (as := [x_r 1, iv_c 2147483648, iv_c v6]) (rest := []) (lo1 := [x_r 1, iv_c 2147483648, iv_c v6, 147573952589676412928, 147573952589676412928]) (by decide +kernel) (by decide) (by decide +kernel) (x_rb_of (by decide +kernel)) rfl rfl (x_wr (by decide) (x_wi (by decide) (x_wi (by first | decide | omega) x_wn))) x_wn (by decide) rfl (c79_1_c0 hJ   (by first | decide | omega) hT) (fun v8 h11 l9 q10 => ?_)
  obtain ⟨j12, f13, b14, c15, c16, c17, c18⟩ := q10
  have f19 := Fr.trans hF f13 (by decide)
  have b20 := jB (e := 2) 0 hJ rg_1_2_0_1 (by first | decide | omega) (by first | decide | omega)
  have b21 := jB (e := 2) 0 j12 rg_1_2_0_1 (by first | decide | omega) (by first | decide | omega)
  refine x_istore (np := 21) (x := 1) (lo' := [x_r 61, iv_c v8]) (by decide +kernel) l9 (Nat.le_of_ble_eq_true rfl) rfl ?_
  refine x_iload (np := 22) (x := 1) (by decide +kernel) rfl l9 ?_
  refine x_const (np := 23) (x := 9223372034707292159) (a := 2147483647) (by decide +kernel) (by decide) (by decide) ?_
  refine x_icmp (k := 0) (tg := 62) (np := 26) (by decide +kernel) (by decide) l9 (by decide) (fun q22 => ?_) (fun q23 => ?_)
  · have q22 : v8 = 2147483647 := q22
    have b24 := c17 (by first | decide | omega)
    refine x_const (np := 63) (x := 9223372039002259456) (a := 2147483648) (by decide +kernel) (by decide) (by decide) ?_
    have e25 : rv h 2 = (h ((h 61 1) + 1) 2) := (congrArg (fun z => svq h z 2) rfl).trans rfl
    refine x_retI (np := 64) (x := 0) (by decide +kernel) (by decide) (Or.inr ⟨by decide +kernel, by first | decide | omega, by first | decide | omega⟩) ⟨_, rfl, (by decide), ?_⟩
    exact ⟨j12, f19, (by first | decide | omega), (nm9.f c18 (by first | decide | omega) (by first | decide | omega) rfl (by first | decide | omega) (by first | decide | omega))⟩
  have q23 : ¬ (v8 = 2147483647) := q23
  have b26 := c16 (by first | decide | omega)
  refine x_aload (np := 27) (x := 0) (by decide +kernel) rfl (x_nc_le (by decide)) ?_
  have q27 : h11 61 0 = 1 := by have z := jB (e := 0) 0 j12 rg_61_0_0_1 (by decide) (by decide); omega
  refine x_getR (np := 30) (x := 576) (f := 0) (q := 1) (by decide +kernel) (by decide) (by decide +kernel) q27 ?_
  refine x_ldcB (i := 18) (idx := 130) (tx := "by") (by rw [tb_y95]; exact List.mem_of_getElem? (i := 18) rfl) (by decide) (by rw [tb_b95]; decide +kernel) ?_
  have m31 := Tp.fr hT f13 (by decide) (by decide)
  refine x_cI (t := 6) (mj := 78) (n := 2) (rc := 8) (ml := 2) (nr := 0) (np := 35) (as := [x_r 1, x_b (18 + 1)]) (rest := []) (lo1 := [x_r 1, x_b (18 + 1)]) (by decide +kernel) (by decide) (by decide +kernel) (x_rb_of (by decide +kernel)) rfl rfl (x_wr (by decide) (x_wB (by decide) x_wn)) x_wn (by decide) rfl (c78_1_S0 j12  (by decide) m31) (fun v28 h32 l29 q30 => ?_)
  obtain ⟨j33, f34, b35, c36, c37, c38⟩ := q30
  have f39 := Fr.trans f19 f34 (by decide)
  have b40 := jB (e := 2) 0 j33 rg_1_2_0_1 (by first | decide | omega) (by first | decide | omega)
  have b41 : iv_tl 18 = 2 := by decide
  refine x_ifz (k := 0) (tg := 62) (np := 38) (by decide +kernel) (by decide) l29 (fun q42 => ?_) (fun q43 => ?_)
  · have q42 : v28 = 2147483648 := q42
    have b44 := c37 (by first | decide | omega)
    refine x_const (np := 63) (x := 9223372039002259456) (a := 2147483648) (by decide +kernel) (by decide) (by decide) ?_
    have e45 : rv h 2 = (h ((h 61 1) + 1) 2) := (congrArg (fun z => svq h z 2) rfl).trans rfl
    obtain ⟨w46, e47⟩ := Tk.no c38 (by first | decide | omega)
    refine x_retI (np := 64) (x := 0) (by decide +kernel) (by decide) (Or.inr ⟨by decide +kernel, by first | decide | omega, by first | decide | omega⟩) ⟨_, rfl, (by decide), ?_⟩
    exact ⟨j33, f39, (by first | decide | omega), (nm9.y c18 (by first | decide | omega) (by first | decide | omega) rfl (by first | decide | omega) rfl (wd9.f w46 rfl (by first | decide | omega)))⟩
  have q43 : ¬ (v28 = 2147483648) := q43
  have b48 := c36 (by first | decide | omega)
  refine x_aload (np := 39) (x := 0) (by decide +kernel) rfl (x_nc_le (by decide)) ?_
  refine x_aload (np := 40) (x := 0) (by decide +kernel) rfl (x_nc_le (by decide)) ?_
  have q49 : h32 61 1 = h11 61 1 := f34 61 1 (by decide +kernel)
  have q50 : h11 61 1 = h 61 1 := f13 61 1 (by decide +kernel)
  refine x_getR (np := 43) (x := 577) (f := 1) (q := (h 61 1)) (by decide +kernel) (by decide) (by decide +kernel) (q49.trans q50) ?_
  have q51 : h32 (h 61 1) 0 = ((h 61 1) + 1) := tf_0_0 j33 t2
  refine x_getR (np := 46) (x := 512) (f := 0) (q := ((h 61 1) + 1)) (by decide +kernel) (by decide) (tg_0_512_0_1 t2) q51 ?_
  refine x_iload (np := 47) (x := 1) (by decide +kernel) rfl l9 ?_
  refine x_const (np := 49) (x := 9223372064772063238) (a := 2147483654) (by decide +kernel) (by decide) (by decide) ?_
  refine x_const (np := 50) (x := 9223372043297226753) (a := 2147483649) (by decide +kernel) (by decide) (by decide) ?_
  refine x_const (np := 52) (x := 9223372090541867020) (a := 2147483660) (by decide +kernel) (by decide) (by decide) ?_
  refine x_nI (t := 6) (mj := 102) (n := 6) (rc := 10) (ml := 7) (nr := 0) (np := 55) (as := [x_r 61, x_r ((h 61 1) + 1), iv_c v8, iv_c 2147483654, iv_c 2147483649, iv_c 2147483660]) (rest := []) (lo1 := [x_r 61, x_r ((h 61 1) + 1), iv_c v8, iv_c 2147483654, iv_c 2147483649, iv_c 2147483660, 147573952589676412928]) (by decide +kernel) (by decide) (by decide +kernel) (x_rb_of (by decide +kernel)) rfl rfl (x_wr (by decide) (x_wr (tn_1 t2) (x_wi l9 (x_wi (by decide) (x_wi (by decide) (x_wi (by decide) x_wn)))))) x_wn (by decide) rfl ?_
  refine x_aload (np := 1) (x := 0) (by decide +kernel) rfl (x_nc_le (by decide)) ?_
  have q52 : h32 61 0 = 1 := by have z := jB (e := 0) 0 j33 rg_61_0_0_1 (by decide) (by decide); omega
  refine x_getR (np := 4) (x := 576) (f := 0) (q := 1) (by decide +kernel) (by decide) (by decide +kernel) q52 ?_
  refine x_iload (np := 6) (x := 4) (by decide +kernel) rfl (by decide) ?_
  refine x_iload (np := 8) (x := 5) (by decide +kernel) rfl (by decide) ?_
  have m56 := Tp.fr m31 f34 (by decide) (by decide)
  refine x_cI (t := 6) (mj := 79) (n := 3) (rc := 8) (ml := 5) (nr := 0) (np := 11) (as := [x_r 1, iv_c 2147483649, iv_c 2147483660]) (rest := []) (lo1 := [x_r 1, iv_c 2147483649, iv_c 2147483660, 147573952589676412928, 147573952589676412928]) (by decide +kernel) (by decide) (by decide +kernel) (x_rb_of (by decide +kernel)) rfl rfl (x_wr (by decide) (x_wi (by decide) (x_wi (by decide) x_wn))) x_wn (by decide) rfl (c79_1_c1 j33   (by first | decide | omega) m56) (fun v53 h57 l54 q55 => ?_)
  obtain ⟨j58, f59, b60, c61, c62, c63, c64⟩ := q55
  have f65 := Fr.trans f39 f59 (by decide)
  have b66 := jB (e := 2) 0 j58 rg_1_2_0_1 (by first | decide | omega) (by first | decide | omega)
  refine x_istore (np := 13) (x := 6) (lo' := [x_r 61, x_r ((h 61 1) + 1), iv_c v8, iv_c 2147483654, iv_c 2147483649, iv_c 2147483660, iv_c v53]) (by decide +kernel) l54 (Nat.le_of_ble_eq_true rfl) rfl ?_
  refine x_iload (np := 15) (x := 6) (by decide +kernel) rfl l54 ?_
  refine x_const (np := 16) (x := 9223372034707292159) (a := 2147483647) (by decide +kernel) (by decide) (by decide) ?_
  refine x_icmp (k := 1) (tg := 21) (np := 19) (by decide +kernel) (by decide) l54 (by decide) (fun q67 => ?_) (fun q68 => ?_)
  · have q67 : v53 ≠ 2147483647 := q67
    have b69 := c62 (by first | decide | omega)
    refine x_aload (np := 22) (x := 1) (by decide +kernel) rfl (x_nc_le (tn_1 t2)) ?_
    refine x_iload (np := 23) (x := 2) (by decide +kernel) rfl l9 ?_
    refine x_iload (np := 24) (x := 3) (by decide +kernel) rfl (by decide) ?_
    refine x_iload (np := 26) (x := 6) (by decide +kernel) rfl l54 ?_
    refine x_cV (t := 6) (mj := 69) (n := 4) (rc := 7) (ml := 5) (nr := 0) (np := 29) (as := [x_r ((h 61 1) + 1), iv_c v8, iv_c 2147483654, iv_c v53]) (rest := []) (lo1 := [x_r ((h 61 1) + 1), iv_c v8, iv_c 2147483654, iv_c v53, 147573952589676412928]) (by decide +kernel) (by decide) (by decide +kernel) (x_rb_of (tr_1_7 t2)) rfl rfl (x_wr (tn_1 t2) (x_wi l9 (x_wi (by decide) (x_wi l54 x_wn)))) x_wn (by decide) rfl (c69_T1_c6 j58 t2 (by first | decide | omega)  (by first | decide | omega)) (fun h73 q72 => ?_)
    obtain ⟨j74, f75⟩ := q72
    have f78 := Fr.trans f65 f75 (by decide)
    refine x_const (np := 30) (x := 9223372043297226753) (a := 2147483649) (by decide +kernel) (by decide) (by decide) ?_
    refine x_retI (np := 31) (x := 0) (by decide +kernel) (by decide) (Or.inr ⟨by decide +kernel, by first | decide | omega, by first | decide | omega⟩) ⟨_, rfl, (by decide), ?_⟩
    refine x_ifz (k := 0) (tg := 62) (np := 58) (by decide +kernel) (by decide) (by decide) (fun q79 => ?_) (fun q80 => ?_)
    · have q79 : 2147483649 = 2147483648 := q79
      exfalso; omega
    have q80 : ¬ (2147483649 = 2147483648) := q80
    refine x_const (np := 59) (x := 9223372043297226753) (a := 2147483649) (by decide +kernel) (by decide) (by decide) ?_
    refine x_goto (np := 62) (x := 63) (by decide +kernel) ?_
    have e81 : rv h 2 = (h ((h 61 1) + 1) 2) := (congrArg (fun z => svq h z 2) rfl).trans rfl
    obtain ⟨w82, e83⟩ := Tk.yes c38 (by first | decide | omega)
    have q84 : h73 1 2 = h57 1 2 := jK 0 f75 rg_1_2_0_1 (by first | decide | omega) (by first | decide | omega) (by decide)
    refine x_retI (np := 64) (x := 0) (by decide +kernel) (by decide) (Or.inr ⟨by decide +kernel, by first | decide | omega, by first | decide | omega⟩) ⟨_, rfl, (by decide), ?_⟩
    exact ⟨j74, f78, (by first | decide | omega), (nm9.y c18 (by first | decide | omega) (by first | decide | omega) rfl (by first | decide | omega) rfl (wd9.y w82 rfl e83 rfl (nm9.y c64 (by first | decide | omega) (by first | decide | omega) rfl (by first | decide | omega) rfl (fin9.mk (by first | decide | omega) (show h57 1 2 = h73 1 2 by first | decide | omega)))))⟩
  have q68 : ¬ (v53 ≠ 2147483647) := q68
  have b85 := c63 (by first | decide | omega)
  refine x_const (np := 20) (x := 9223372039002259456) (a := 2147483648) (by decide +kernel) (by decide) (by decide) ?_
  refine x_retI (np := 21) (x := 0) (by decide +kernel) (by decide) (Or.inr ⟨by decide +kernel, by first | decide | omega, by first | decide | omega⟩) ⟨_, rfl, (by decide), ?_⟩
  refine x_ifz (k := 0) (tg := 62) (np := 58) (by decide +kernel) (by decide) (by decide) (fun q86 => ?_) (fun q87 => ?_)
  · have q86 : 2147483648 = 2147483648 := q86
    refine x_const (np := 63) (x := 9223372039002259456) (a := 2147483648) (by decide +kernel) (by decide) (by decide) ?_
    have e88 : rv h 2 = (h ((h 61 1) + 1) 2) := (congrArg (fun z => svq h z 2) rfl).trans rfl
    obtain ⟨w89, e90⟩ := Tk.yes c38 (by first | decide | omega)
    refine x_retI (np := 64) (x := 0) (by decide +kernel) (by decide) (Or.inr ⟨by decide +kernel, by first | decide | omega, by first | decide | omega⟩) ⟨_, rfl, (by decide), ?_⟩
    exact ⟨j58, f65, (by first | decide | omega), (nm9.y c18 (by first | decide | omega) (by first | decide | omega) rfl (by first | decide | omega) rfl (wd9.y w89 rfl e90 rfl (nm9.f c64 (by first | decide | omega) (by first | decide | omega) rfl (by first | decide | omega) (by first | decide | omega))))⟩
  have q87 : ¬ (2147483648 = 2147483648) := q87
  exfalso; omega
set_option maxHeartbeats 0 in
/-- LentNames$Table.addRow()I -/
theorem c67_T7 {sc : Nat × Nat} {d ra0 : Nat} {h : xh} (hJ : J h) (ta0 : tw ra0) (hr0 : (h (ra0 + 7) 2) + 1 ≤ 2147483658) : X sc 67 (d + 1) (xI fun r h' => J h' ∧ Fr 36310271995674624 h h' ∧ (2147483648 ≤ r ∧ r ≤ 2147483657) ∧ (h' ra0 7 = h ra0 7) ∧ (h' ra0 8 = h ra0 8) ∧ (h' (ra0 + 1) 2 = h (ra0 + 1) 2) ∧ (h' (ra0 + 3) 2 = h (ra0 + 3) 2) ∧ (h' (ra0 + 5) 2 = h (ra0 + 5) 2) ∧ (h' (ra0 + 7) 2 = h (ra0 + 7) 2 + 1) ∧ (r + 1 = h' (ra0 + 7) 2) ∧ Ot ra0 h h' ∧ (∀ u, u < 10 → 2147483648 + u ≠ h (ra0 + 7) 2 → aq h' ra0 u = aq h ra0 u) ∧ (∀ u, u < 10 → 2147483648 + u ≠ h (ra0 + 7) 2 → bq h' ra0 u = bq h ra0 u)) 0 0 0 [x_r (ra0 + 7), 147573952589676412928] [] h := by
  have hF := Fr.refl 36310271995674624 h
  have b1 := jB (e := 2) 0 hJ (rg_T7_2_0_1 ta0) (by first | decide | omega) (by first | decide | omega)
  refine x_aload (np := 1) (x := 0) (by decide +kernel) rfl (x_nc_le (tn_7 ta0)) ?_
  refine x_nI (t := 6) (mj := 66) (n := 1) (rc := 7) (ml := 1) (nr := 0) (np := 4) (as := [x_r (ra0 + 7)]) (rest := []) (lo1 := [x_r (ra0 + 7)]) (by decide +kernel) (by decide) (by decide +kernel) (x_rb_of (tr_7_7 ta0)) rfl rfl (x_wr (tn_7 ta0) x_wn) x_wn (by decide) rfl ?_
  refine x_aload (np := 1) (x := 0) (by decide +kernel) rfl (x_nc_le (tn_7 ta0)) ?_
  refine x_getC (np := 4) (x := 386) (f := 2) (q := (h (ra0 + 7) 2)) (by decide +kernel) (by decide) (tg_7_386_2_0 ta0) rfl (fun l2 => ?_)
  refine x_const (np := 5) (x := 9223372043297226753) (a := 2147483649) (by decide +kernel) (by decide) (by decide) ?_
  refine x_iadd (np := 6) (x := 0) (v := (1 + (h (ra0 + 7) 2))) (by decide +kernel) l2 (by decide) (by first | decide | omega) (by first | decide | omega) ?_
  refine x_aload (np := 7) (x := 0) (by decide +kernel) rfl (x_nc_le (tn_7 ta0)) ?_
  have b3 := jB (e := 0) 0 hJ (rg_T7_0_0_1 ta0) (by first | decide | omega) (by first | decide | omega)
  have q4 : (h (ra0 + 7) 0) = 2147483652 := by first | decide | omega
  refine x_getC (np := 10) (x := 384) (f := 0) (q := 2147483652) (by decide +kernel) (by decide) (tg_7_384_0_0 ta0) q4 (fun l5 => ?_)
  obtain ⟨u6, q7⟩ : ∃ z, (h (ra0 + 7) 2) = 2147483648 + z := ⟨(h (ra0 + 7) 2) - 2147483648, by first | decide | omega⟩
  refine x_imul (np := 11) (x := 0) (i := (1 + u6)) (j := 4) (v := (2147483652 + 4 * u6)) (by decide +kernel) (by first | decide | omega) (by first | decide | omega) (by first | decide | omega) (by first | decide | omega) (by first | decide | omega) (by decide) ?_
  refine x_aload (np := 12) (x := 0) (by decide +kernel) rfl (x_nc_le (tn_7 ta0)) ?_
  have q9 : h (ra0 + 7) 1 = (ra0 + 8) := tf_7_1 hJ ta0
  refine x_getR (np := 15) (x := 385) (f := 1) (q := (ra0 + 8)) (by decide +kernel) (by decide) (tg_7_385_1_1 ta0) q9 ?_
  refine x_alen (np := 16) (x := 0) (n := 40) (by decide +kernel) (tn_8 ta0) (tl_8 ta0).1 (tl_8 ta0).2 (by decide) ?_
  show X _ _ _ _ _ _ _ _ [iv_c 2147483688, iv_c (2147483652 + 4 * u6)] _
  refine x_icmp (k := 5) (tg := 23) (np := 19) (by decide +kernel) (by decide) (by first | decide | omega) (by decide) (fun q10 => ?_) (fun q11 => ?_)
  · have q10 : (2147483652 + 4 * u6) ≤ 2147483688 := q10
    refine x_const (np := 24) (x := 9223372039002259456) (a := 2147483648) (by decide +kernel) (by decide) (by decide) ?_
    refine x_retI (np := 25) (x := 0) (by decide +kernel) (by decide) (Or.inr ⟨by decide +kernel, by first | decide | omega, by first | decide | omega⟩) ⟨_, rfl, (by decide), ?_⟩
    refine x_ifz (k := 0) (tg := 9) (np := 7) (by decide +kernel) (by decide) (by decide) (fun q12 => ?_) (fun q13 => ?_)
    · have q12 : 2147483648 = 2147483648 := q12
      refine x_aload (np := 10) (x := 0) (by decide +kernel) rfl (x_nc_le (tn_7 ta0)) ?_
      refine x_dup (np := 11) (x := 0) (by decide +kernel) (by have z := x_nc_le (k := (ra0 + 7)) (tn_7 ta0); unfold x_r; omega) ?_
      refine x_getC (np := 14) (x := 386) (f := 2) (q := (h (ra0 + 7) 2)) (by decide +kernel) (by decide) (tg_7_386_2_0 ta0) rfl (fun l14 => ?_)
      refine x_const (np := 15) (x := 9223372043297226753) (a := 2147483649) (by decide +kernel) (by decide) (by decide) ?_
      refine x_iadd (np := 16) (x := 0) (v := (1 + (h (ra0 + 7) 2))) (by decide +kernel) l2 (by decide) (by first | decide | omega) (by first | decide | omega) ?_
      refine x_putI (np := 19) (x := 386) (f := 2) (by decide +kernel) (tg_7_386_2_0 ta0) (by first | decide | omega) (Or.inl (by decide)) ?_
      have j16 := jU (e := 2) (v := (1 + (h (ra0 + 7) 2))) 0 hJ (rg_T7_2_0_1 ta0) (by first | decide | omega) (by first | decide | omega) (by first | decide | omega)
      have f18 := jF (e := 2) (v := (1 + (h (ra0 + 7) 2))) 0 hF (rg_T7_2_0_1 ta0) (by first | decide | omega) (by first | decide | omega) (by decide)
      generalize e17 : x_up h (ra0 + 7) 2 (1 + (h (ra0 + 7) 2)) = h15 at j16 f18 ⊢
      refine x_const (np := 20) (x := 9223372039002259456) (a := 2147483648) (by decide +kernel) (by decide) (by decide) ?_
      refine x_istore (np := 21) (x := 1) (lo' := [x_r (ra0 + 7), iv_c 2147483648]) (by decide +kernel) (by decide) (Nat.le_of_ble_eq_true rfl) rfl ?_
      have p180 : ∀ (n : Nat) (v175 : Nat) (h177 : xh), 4294967296 - v175 < n → (2147483648 ≤ v175 ∧ v175 ≤ 2147483652) → J h177 → Fr 36028797018963968 h15 h177 → Ot ra0 h h177 → (∀ u, u < 10 → 2147483648 + u ≠ h (ra0 + 7) 2 → aq h177 ra0 u = aq h ra0 u) → (∀ u, u < 10 → 2147483648 + u ≠ h (ra0 + 7) 2 → bq h177 ra0 u = bq h ra0 u) → X sc 67 (d + 1) (xI fun r h' => J h' ∧ Fr 36310271995674624 h h' ∧ (2147483648 ≤ r ∧ r ≤ 2147483657) ∧ (h' ra0 7 = h ra0 7) ∧ (h' ra0 8 = h ra0 8) ∧ (h' (ra0 + 1) 2 = h (ra0 + 1) 2) ∧ (h' (ra0 + 3) 2 = h (ra0 + 3) 2) ∧ (h' (ra0 + 5) 2 = h (ra0 + 5) 2) ∧ (h' (ra0 + 7) 2 = h (ra0 + 7) 2 + 1) ∧ (r + 1 = h' (ra0 + 7) 2) ∧ Ot ra0 h h' ∧ (∀ u, u < 10 → 2147483648 + u ≠ h (ra0 + 7) 2 → aq h' ra0 u = aq h ra0 u) ∧ (∀ u, u < 10 → 2147483648 + u ≠ h (ra0 + 7) 2 → bq h' ra0 u = bq h ra0 u)) 0 0 21 [x_r (ra0 + 7), iv_c v175] [] h177 := by
        intro n
        induction n with
        | zero => intro v175 h177 q184; exact absurd q184 (Nat.not_lt_zero _)
        | succ n i185 =>
          intro v175 h177 q184 b176 j179 f178 m181 m182 m183
          have f186 := Fr.trans f18 f178 (by decide)
          refine x_iload (np := 22) (x := 1) (by decide +kernel) rfl (by first | decide | omega) ?_
          refine x_aload (np := 23) (x := 0) (by decide +kernel) rfl (x_nc_le (tn_7 ta0)) ?_
          have q187 : h177 (ra0 + 7) 0 = h15 (ra0 + 7) 0 := jK 0 f178 (rg_T7_0_0_1 ta0) (by first | decide | omega) (by first | decide | omega) (by decide)
          have q188 : h15 (ra0 + 7) 0 = h (ra0 + 7) 0 := by rw [← e17]; exact x_up_i (by first | decide | omega)
          refine x_getC (np := 26) (x := 384) (f := 0) (q := 2147483652) (by decide +kernel) (by decide) (tg_7_384_0_0 ta0) ((q187.trans q188).trans q4) (fun l189 => ?_)
          refine x_icmp (k := 3) (tg := 47) (np := 29) (by decide +kernel) (by decide) (by first | decide | omega) (by decide) (fun q190 => ?_) (fun q191 => ?_)
          · have q190 : 2147483652 ≤ v175 := q190
            refine x_aload (np := 48) (x := 0) (by decide +kernel) rfl (x_nc_le (tn_7 ta0)) ?_
            have q192 : h177 (ra0 + 7) 2 = h15 (ra0 + 7) 2 := jK 0 f178 (rg_T7_2_0_1 ta0) (by first | decide | omega) (by first | decide | omega) (by decide)
            have q193 : h15 (ra0 + 7) 2 = (1 + (h (ra0 + 7) 2)) := by rw [← e17]; exact x_up_at
            refine x_getC (np := 51) (x := 386) (f := 2) (q := (1 + (h (ra0 + 7) 2))) (by decide +kernel) (by decide) (tg_7_386_2_0 ta0) (q192.trans q193) (fun l194 => ?_)
            refine x_const (np := 52) (x := 9223372043297226753) (a := 2147483649) (by decide +kernel) (by decide) (by decide) ?_
            refine x_isub (np := 53) (x := 0) (v := (h (ra0 + 7) 2)) (by decide +kernel) (by first | decide | omega) (by decide) (by first | decide | omega) (by first | decide | omega) ?_
            have b195 := jB (e := 7) 0 hJ (rg_T0_7_0_1 ta0) (by first | decide | omega) (by first | decide | omega)
            have q196 : h177 ra0 7 = h15 ra0 7 := jK 0 f178 (rg_T0_7_0_1 ta0) (by first | decide | omega) (by first | decide | omega) (by decide)
            have q197 : h15 ra0 7 = h ra0 7 := by rw [← e17]; exact x_up_k tof_0_7
            have q198 : h177 ra0 8 = h15 ra0 8 := jK 0 f178 (rg_T0_8_0_1 ta0) (by first | decide | omega) (by first | decide | omega) (by decide)
            have q199 : h15 ra0 8 = h ra0 8 := by rw [← e17]; exact x_up_k tof_0_7
            have b200 := jB (e := 2) 0 hJ (rg_T1_2_0_1 ta0) (by first | decide | omega) (by first | decide | omega)
            have q201 : h177 (ra0 + 1) 2 = h15 (ra0 + 1) 2 := jK 0 f178 (rg_T1_2_0_1 ta0) (by first | decide | omega) (by first | decide | omega) (by decide)
            have q202 : h15 (ra0 + 1) 2 = h (ra0 + 1) 2 := by rw [← e17]; exact x_up_k tof_1_7
            have b203 := jB (e := 2) 0 hJ (rg_T3_2_0_1 ta0) (by first | decide | omega) (by first | decide | omega)
            have q204 : h177 (ra0 + 3) 2 = h15 (ra0 + 3) 2 := jK 0 f178 (rg_T3_2_0_1 ta0) (by first | decide | omega) (by first | decide | omega) (by decide)
            have q205 : h15 (ra0 + 3) 2 = h (ra0 + 3) 2 := by rw [← e17]; exact x_up_k tof_3_7
            have b206 := jB (e := 2) 0 hJ (rg_T5_2_0_1 ta0) (by first | decide | omega) (by first | decide | omega)
            have q207 : h177 (ra0 + 5) 2 = h15 (ra0 + 5) 2 := jK 0 f178 (rg_T5_2_0_1 ta0) (by first | decide | omega) (by first | decide | omega) (by decide)
            have q208 : h15 (ra0 + 5) 2 = h (ra0 + 5) 2 := by rw [← e17]; exact x_up_k tof_5_7
            have q209 : h177 (ra0 + 7) 2 = h15 (ra0 + 7) 2 := jK 0 f178 (rg_T7_2_0_1 ta0) (by first | decide | omega) (by first | decide | omega) (by decide)
            have q210 : h15 (ra0 + 7) 2 = (1 + (h (ra0 + 7) 2)) := by rw [← e17]; exact x_up_at
            have q211 : h177 (ra0 + 7) 2 = h15 (ra0 + 7) 2 := jK 0 f178 (rg_T7_2_0_1 ta0) (by first | decide | omega) (by first | decide | omega) (by decide)
            have q212 : h15 (ra0 + 7) 2 = (1 + (h (ra0 + 7) 2)) := by rw [← e17]; exact x_up_at
            have m213 : ∀ u, u < 10 → 2147483648 + u ≠ h (ra0 + 7) 2 → aq h177 ra0 u = aq h ra0 u := fun u hu hne => (m182 u hu hne)
            have m214 : ∀ u, u < 10 → 2147483648 + u ≠ h (ra0 + 7) 2 → bq h177 ra0 u = bq h ra0 u := fun u hu hne => (m183 u hu hne)
            refine x_retI (np := 54) (x := 0) (by decide +kernel) l2 (Or.inl (by decide +kernel)) ⟨_, rfl, l2, ?_⟩
            exact ⟨j179, f186, (by first | decide | omega), (by first | decide | omega), (by first | decide | omega), (by first | decide | omega), (by first | decide | omega), (by first | decide | omega), (by first | decide | omega), (by first | decide | omega), m181, m213, m214⟩
          have q191 : ¬ (2147483652 ≤ v175) := q191
          refine x_aload (np := 30) (x := 0) (by decide +kernel) rfl (x_nc_le (tn_7 ta0)) ?_
          refine x_aload (np := 31) (x := 0) (by decide +kernel) rfl (x_nc_le (tn_7 ta0)) ?_
          have q215 : h177 (ra0 + 7) 2 = h15 (ra0 + 7) 2 := jK 0 f178 (rg_T7_2_0_1 ta0) (by first | decide | omega) (by first | decide | omega) (by decide)
          have q216 : h15 (ra0 + 7) 2 = (1 + (h (ra0 + 7) 2)) := by rw [← e17]; exact x_up_at
          refine x_getC (np := 34) (x := 386) (f := 2) (q := (1 + (h (ra0 + 7) 2))) (by decide +kernel) (by decide) (tg_7_386_2_0 ta0) (q215.trans q216) (fun l217 => ?_)
          refine x_const (np := 35) (x := 9223372043297226753) (a := 2147483649) (by decide +kernel) (by decide) (by decide) ?_
          refine x_isub (np := 36) (x := 0) (v := (h (ra0 + 7) 2)) (by decide +kernel) (by first | decide | omega) (by decide) (by first | decide | omega) (by first | decide | omega) ?_
          refine x_iload (np := 37) (x := 1) (by decide +kernel) rfl (by first | decide | omega) ?_
          refine x_const (np := 38) (x := 9223372039002259456) (a := 2147483648) (by decide +kernel) (by decide) (by decide) ?_
          refine x_nV (t := 6) (mj := 69) (n := 4) (rc := 7) (ml := 5) (nr := 0) (np := 41) (as := [x_r (ra0 + 7), iv_c (h (ra0 + 7) 2), iv_c v175, iv_c 2147483648]) (rest := []) (lo1 := [x_r (ra0 + 7), iv_c (h (ra0 + 7) 2), iv_c v175, iv_c 2147483648, 147573952589676412928]) (by decide +kernel) (by decide) (by decide +kernel) (x_rb_of (tr_7_7 ta0)) rfl rfl (x_wr (tn_7 ta0) (x_wi l2 (x_wi (by first | decide | omega) (x_wi (by decide) x_wn)))) x_wn (by decide) rfl ?_
          refine x_iload (np := 1) (x := 1) (by decide +kernel) rfl l2 ?_
          refine x_ifz (k := 2) (tg := 28) (np := 4) (by decide +kernel) (by decide) l2 (fun q218 => ?_) (fun q219 => ?_)
          · have q218 : (h (ra0 + 7) 2) < 2147483648 := q218
            exfalso; omega
          have q219 : ¬ ((h (ra0 + 7) 2) < 2147483648) := q219
          refine x_iload (np := 5) (x := 1) (by decide +kernel) rfl l2 ?_
          refine x_aload (np := 6) (x := 0) (by decide +kernel) rfl (x_nc_le (tn_7 ta0)) ?_
          have q220 : h177 (ra0 + 7) 2 = h15 (ra0 + 7) 2 := jK 0 f178 (rg_T7_2_0_1 ta0) (by first | decide | omega) (by first | decide | omega) (by decide)
          have q221 : h15 (ra0 + 7) 2 = (1 + (h (ra0 + 7) 2)) := by rw [← e17]; exact x_up_at
          refine x_getC (np := 9) (x := 386) (f := 2) (q := (1 + (h (ra0 + 7) 2))) (by decide +kernel) (by decide) (tg_7_386_2_0 ta0) (q220.trans q221) (fun l222 => ?_)
          refine x_icmp (k := 3) (tg := 28) (np := 12) (by decide +kernel) (by decide) l2 (by first | decide | omega) (fun q223 => ?_) (fun q224 => ?_)
          · have q223 : (1 + (h (ra0 + 7) 2)) ≤ (h (ra0 + 7) 2) := q223
            exfalso; omega
          have q224 : ¬ ((1 + (h (ra0 + 7) 2)) ≤ (h (ra0 + 7) 2)) := q224
          refine x_iload (np := 13) (x := 2) (by decide +kernel) rfl (by first | decide | omega) ?_
          refine x_ifz (k := 2) (tg := 28) (np := 16) (by decide +kernel) (by decide) (by first | decide | omega) (fun q225 => ?_) (fun q226 => ?_)
          · have q225 : v175 < 2147483648 := q225
            exfalso; omega
          have q226 : ¬ (v175 < 2147483648) := q226
          refine x_iload (np := 17) (x := 2) (by decide +kernel) rfl (by first | decide | omega) ?_
          refine x_aload (np := 18) (x := 0) (by decide +kernel) rfl (x_nc_le (tn_7 ta0)) ?_
          have q227 : h177 (ra0 + 7) 0 = h15 (ra0 + 7) 0 := jK 0 f178 (rg_T7_0_0_1 ta0) (by first | decide | omega) (by first | decide | omega) (by decide)
          have q228 : h15 (ra0 + 7) 0 = h (ra0 + 7) 0 := by rw [← e17]; exact x_up_i (by first | decide | omega)
          refine x_getC (np := 21) (x := 384) (f := 0) (q := 2147483652) (by decide +kernel) (by decide) (tg_7_384_0_0 ta0) ((q227.trans q228).trans q4) (fun l229 => ?_)
          refine x_icmp (k := 3) (tg := 28) (np := 24) (by decide +kernel) (by decide) (by first | decide | omega) (by decide) (fun q230 => ?_) (fun q231 => ?_)
          · have q230 : 2147483652 ≤ v175 := q230
            exfalso; omega
          have q231 : ¬ (2147483652 ≤ v175) := q231
          refine x_const (np := 25) (x := 9223372043297226753) (a := 2147483649) (by decide +kernel) (by decide) (by decide) ?_
          refine x_goto (np := 28) (x := 29) (by decide +kernel) ?_
          refine x_istore (np := 31) (x := 4) (lo' := [x_r (ra0 + 7), iv_c (h (ra0 + 7) 2), iv_c v175, iv_c 2147483648, iv_c 2147483649]) (by decide +kernel) (by decide) (Nat.le_of_ble_eq_true rfl) rfl ?_
          refine x_iload (np := 33) (x := 4) (by decide +kernel) rfl (by decide) ?_
          refine x_ifz (k := 0) (tg := 50) (np := 36) (by decide +kernel) (by decide) (by decide) (fun q232 => ?_) (fun q233 => ?_)
          · have q232 : 2147483649 = 2147483648 := q232
            exfalso; omega
          have q233 : ¬ (2147483649 = 2147483648) := q233
          refine x_aload (np := 37) (x := 0) (by decide +kernel) rfl (x_nc_le (tn_7 ta0)) ?_
          have q234 : h177 (ra0 + 7) 1 = (ra0 + 8) := tf_7_1 j179 ta0
          refine x_getR (np := 40) (x := 385) (f := 1) (q := (ra0 + 8)) (by decide +kernel) (by decide) (tg_7_385_1_1 ta0) q234 ?_
          refine x_iload (np := 41) (x := 1) (by decide +kernel) rfl l2 ?_
          refine x_aload (np := 42) (x := 0) (by decide +kernel) rfl (x_nc_le (tn_7 ta0)) ?_
          have q235 : h177 (ra0 + 7) 0 = h15 (ra0 + 7) 0 := jK 0 f178 (rg_T7_0_0_1 ta0) (by first | decide | omega) (by first | decide | omega) (by decide)
          have q236 : h15 (ra0 + 7) 0 = h (ra0 + 7) 0 := by rw [← e17]; exact x_up_i (by first | decide | omega)
          refine x_getC (np := 45) (x := 384) (f := 0) (q := 2147483652) (by decide +kernel) (by decide) (tg_7_384_0_0 ta0) ((q235.trans q236).trans q4) (fun l237 => ?_)
          refine x_imul (np := 46) (x := 0) (i := u6) (j := 4) (v := (2147483648 + 4 * u6)) (by decide +kernel) (by first | decide | omega) (by first | decide | omega) (by first | decide | omega) (by first | decide | omega) l2 (by decide) ?_
          refine x_iload (np := 47) (x := 2) (by decide +kernel) rfl (by first | decide | omega) ?_
          refine x_iadd (np := 48) (x := 0) (v := (4 * u6 + v175)) (by decide +kernel) (by first | decide | omega) (by first | decide | omega) (by first | decide | omega) (by first | decide | omega) ?_
          refine x_iload (np := 49) (x := 3) (by decide +kernel) rfl (by decide) ?_
          obtain ⟨u239, q240⟩ : ∃ z, v175 = 2147483648 + z := ⟨v175 - 2147483648, by first | decide | omega⟩
          refine x_ast (np := 50) (x := 0) (kd := 1) (n := 40) (i := (4 * u6 + u239)) (by decide +kernel) (Or.inl rfl) (ta_8_40 ta0) (by first | decide | omega) (by first | decide | omega) (by decide) (by decide) (fun z => absurd z (by decide)) ?_
          have j242 := jUw (e := (4 * u6 + u239)) (v := 2147483648) j179 (rw_T8 ta0) (by first | decide | omega) (by first | decide | omega)
          have f244 := jFw (e := (4 * u6 + u239)) (v := 2147483648) f186 (rw_T8 ta0) (by first | decide | omega) (by decide)
          have f245 := jFw (e := (4 * u6 + u239)) (v := 2147483648) f178 (rw_T8 ta0) (by first | decide | omega) (by decide)
          generalize e243 : x_up h177 (ra0 + 8) (4 * u6 + u239) 2147483648 = h241 at j242 f244 f245 ⊢
          refine x_retV (np := 51) (x := 0) (by decide +kernel) (by decide +kernel) ⟨rfl, ?_⟩
          refine x_iinc (np := 44) (i := 1) (j := 2147483649) (v := (1 + v175)) (lo' := [x_r (ra0 + 7), iv_c (1 + v175)]) (by decide +kernel) (by decide) (by decide) rfl (by first | decide | omega) (by first | decide | omega) (by first | decide | omega) rfl ?_
          refine x_goto (np := 47) (x := 21) (by decide +kernel) ?_
          have m246 : Ot ra0 h h241 := by rw [← e243]; exact Ot.up (o := 8) m181 ta0 (by decide) rfl
          have m247 : ∀ u, u < 10 → 2147483648 + u ≠ h (ra0 + 7) 2 → aq h241 ra0 u = aq h ra0 u := fun u hu hne => (Eq.trans (show aq h241 ra0 u = aq h177 ra0 u by rw [← e243]; exact aq_i (by first | decide | omega)) (m182 u hu hne))
          have m248 : ∀ u, u < 10 → 2147483648 + u ≠ h (ra0 + 7) 2 → bq h241 ra0 u = bq h ra0 u := fun u hu hne => (Eq.trans (show bq h241 ra0 u = bq h177 ra0 u by rw [← e243]; exact bq_i (by first | decide | omega)) (m183 u hu hne))
          exact i185 (1 + v175) h241 (by first | decide | omega) (by first | decide | omega) j242 f245 m246 m247 m248
      have m249 : Ot ra0 h h15 := by rw [← e17]; exact Ot.up (o := 7) Ot.refl ta0 (by decide) rfl
      have m250 : ∀ u, u < 10 → 2147483648 + u ≠ h (ra0 + 7) 2 → aq h15 ra0 u = aq h ra0 u := fun u hu hne => (show aq h15 ra0 u = aq h ra0 u by rw [← e17]; exact aq_k (@ne_oo ra0 8 7 (by decide)))
      have m251 : ∀ u, u < 10 → 2147483648 + u ≠ h (ra0 + 7) 2 → bq h15 ra0 u = bq h ra0 u := fun u hu hne => (show bq h15 ra0 u = bq h ra0 u by rw [← e17]; exact bq_k (@ne_oo ra0 8 7 (by decide)))
      exact p180 _ 2147483648 h15 (Nat.lt_succ_self _) (by first | decide | omega) j16 (Fr.refl _ _) m249 m250 m251
    have q13 : ¬ (2147483648 = 2147483648) := q13
    exfalso; omega
  have q11 : ¬ ((2147483652 + 4 * u6) ≤ 2147483688) := q11
  exfalso; omega
set_option maxHeartbeats 0 in
/-- LentNames$TownReader.readBodies(I)Z -/
theorem c101_61 {sc : Nat × Nat} {d a1 : Nat} {h : xh} {tB : Nat → Nat} {tN : Nat} (hJ : J h) (ba1 : 2147483648 ≤ a1 ∧ a1 ≤ 2147483657) (hT : Tp tB tN h) : X sc 101 (d + 6) (xI fun r h' => J h' ∧ Fr 36028797018964001 h h' ∧ (2147483648 ≤ r ∧ r ≤ 2147483649) ∧ Bl tB tN (rv h 0 - 1) (h 1 2) (rs r (h' 1 2)) ∧ (∀ b u, h 61 1 = b → a1 = 2147483648 + u → h' (b + 8) (1 + 4 * u) = h (b + 8) (1 + 4 * u)) ∧ Ot (h 61 1) h h' ∧ (r = 2147483649 → ∀ b u, h 61 1 = b → a1 = 2147483648 + u → a1 < h (b + 7) 2 → Bv tB tN (rv h 0 - 1) (h 1 2) 2147483648 (h' 1 2) (h' (b + 8) (2 + 4 * u)) ∧ (∀ w, w < 10 → aq h' b w = aq h b w) ∧ ∀ w, w < 10 → w ≠ u → bq h' b w = bq h b w)) 0 0 0 [x_r 61, iv_c a1, 147573952589676412928, 147573952589676412928, 147573952589676412928] [] h := by
  have la1 : a1 < 4294967296 := by first | decide | omega
  have hF := Fr.refl 36028797018964001 h
  refine x_const (np := 1) (x := 9223372039002259456) (a := 2147483648) (by decide +kernel) (by decide) (by decide) ?_
  refine x_istore (np := 2) (x := 2) (lo' := [x_r 61, iv_c a1, iv_c 2147483648, 147573952589676412928, 147573952589676412928]) (by decide +kernel) (by decide) (Nat.le_of_ble_eq_true rfl) rfl ?_
  refine x_const (np := 3) (x := 9223372039002259456) (a := 2147483648) (by decide +kernel) (by decide) (by decide) ?_
  refine x_istore (np := 4) (x := 3) (lo' := [x_r 61, iv_c a1, iv_c 2147483648, iv_c 2147483648, 147573952589676412928]) (by decide +kernel) (by decide) (Nat.le_of_ble_eq_true rfl) rfl ?_
  have p1300 : ∀ (n : Nat) (v1292 : Nat) (v1294 : Nat) (w1296 : Nat) (h1297 : xh), 4294967296 - v1294 < n → (0 ≤ v1292 ∧ v1292 ≤ 4294967295) → (2147483648 ≤ v1294 ∧ v1294 ≤ 2147483788) → 3 * v1294 ≤ h1297 1 2 + 4294967296 → J h1297 → Fr 33 h h1297 → Bq tB tN (rv h 0 - 1) (h1297 1 2) (h 1 2) → Bw tB tN (rv h 0 - 1) (h1297 1 2) v1292 (h 1 2) 2147483648 → X sc 101 (d + 6) (xI fun r h' => J h' ∧ Fr 36028797018964001 h h' ∧ (2147483648 ≤ r ∧ r ≤ 2147483649) ∧ Bl tB tN (rv h 0 - 1) (h 1 2) (rs r (h' 1 2)) ∧ (∀ b u, h 61 1 = b → a1 = 2147483648 + u → h' (b + 8) (1 + 4 * u) = h (b + 8) (1 + 4 * u)) ∧ Ot (h 61 1) h h' ∧ (r = 2147483649 → ∀ b u, h 61 1 = b → a1 = 2147483648 + u → a1 < h (b + 7) 2 → Bv tB tN (rv h 0 - 1) (h 1 2) 2147483648 (h' 1 2) (h' (b + 8) (2 + 4 * u)) ∧ (∀ w, w < 10 → aq h' b w = aq h b w) ∧ ∀ w, w < 10 → w ≠ u → bq h' b w = bq h b w)) 0 0 4 [x_r 61, iv_c a1, iv_c v1292, iv_c v1294, w1296] [] h1297 := by
    intro n
    induction n with
    | zero => intro v1292 v1294 w1296 h1297 q1304; exact absurd q1304 (Nat.not_lt_zero _)
    | succ n i1305 =>
      intro v1292 v1294 w1296 h1297 q1304 b1293 b1295 b1301 j1299 f1298 m1302 m1303
      have f1306 := Fr.trans hF f1298 (by decide)
      have b1307 := jB (e := 2) 0 j1299 rg_1_2_0_1 (by first | decide | omega) (by first | decide | omega)
      have q1308 : h1297 61 1 = h 61 1 := f1298 61 1 (by decide +kernel)
      have t1309 : tw (h 61 1) := hJ.2.2.2.2.1
      have q1310 : h1297 (h 61 1) 7 = h (h 61 1) 7 := jK 0 f1298 (rg_T0_7_0_1 t1309) (by first | decide | omega) (by first | decide | omega) (by decide)
      have b1311 := jB (e := 7) 0 hJ (rg_T0_7_0_1 t1309) (by first | decide | omega) (by first | decide | omega)
      have e1312 : rv h1297 0 = (h (h 61 1) 7) := (congrArg (fun z => svq h1297 z 0) q1308).trans q1310
      have e1313 : rv h 0 = (h (h 61 1) 7) := (congrArg (fun z => svq h z 0) rfl).trans rfl
      refine x_iload (np := 5) (x := 3) (by decide +kernel) rfl (by first | decide | omega) ?_
      refine x_const (np := 8) (x := 9223373756989178256) (a := 2147484048) (by decide +kernel) (by decide) (by decide) ?_
      refine x_icmp (k := 3) (tg := 66) (np := 11) (by decide +kernel) (by decide) (by first | decide | omega) (by decide) (fun q1314 => ?_) (fun q1315 => ?_)
      · have q1314 : 2147484048 ≤ v1294 := q1314
        exfalso; omega
      have q1315 : ¬ (2147484048 ≤ v1294) := q1315
      refine x_aload (np := 12) (x := 0) (by decide +kernel) rfl (x_nc_le (by decide)) ?_
      have q1316 : h1297 61 0 = 1 := by have z := jB (e := 0) 0 j1299 rg_61_0_0_1 (by decide) (by decide); omega
      refine x_getR (np := 15) (x := 576) (f := 0) (q := 1) (by decide +kernel) (by decide) (by decide +kernel) q1316 ?_
      refine x_const (np := 16) (x := 9223372039002259456) (a := 2147483648) (by decide +kernel) (by decide) (by decide) ?_
      refine x_aload (np := 17) (x := 0) (by decide +kernel) rfl (x_nc_le (by decide)) ?_
      have q1317 : h1297 61 1 = h 61 1 := f1298 61 1 (by decide +kernel)
      refine x_getR (np := 20) (x := 577) (f := 1) (q := (h 61 1)) (by decide +kernel) (by decide) (by decide +kernel) q1317 ?_
      have q1318 : h1297 (h 61 1) 7 = h (h 61 1) 7 := jK 0 f1298 (rg_T0_7_0_1 t1309) (by first | decide | omega) (by first | decide | omega) (by decide)
      refine x_getC (np := 23) (x := 519) (f := 7) (q := (h (h 61 1) 7)) (by decide +kernel) (by decide) (tg_0_519_7_0 t1309) q1318 (fun l1319 => ?_)
      refine x_const (np := 24) (x := 9223372043297226753) (a := 2147483649) (by decide +kernel) (by decide) (by decide) ?_
      obtain ⟨v1320, q1321⟩ : ∃ z, z + 2147483649 = (h (h 61 1) 7) + 2147483648 := ⟨(h (h 61 1) 7) + 2147483648 - 2147483649, by first | decide | omega⟩
      refine x_isub (np := 25) (x := 0) (v := v1320) (by decide +kernel) l1319 (by decide) (by first | decide | omega) (by first | decide | omega) ?_
      have m1325 := Tp.fr hT f1298 (by decide) (by decide)
      refine x_cI (t := 6) (mj := 79) (n := 3) (rc := 8) (ml := 5) (nr := 0) (np := 28) (as := [x_r 1, iv_c 2147483648, iv_c v1320]) (rest := []) (lo1 := [x_r 1, iv_c 2147483648, iv_c v1320, 147573952589676412928, 147573952589676412928]) (by decide +kernel) (by decide) (by decide +kernel) (x_rb_of (by decide +kernel)) rfl rfl (x_wr (by decide) (x_wi (by decide) (x_wi (by first | decide | omega) x_wn))) x_wn (by decide) rfl (c79_1_c0 j1299   (by first | decide | omega) m1325) (fun v1322 h1326 l1323 q1324 => ?_)
      obtain ⟨j1327, f1328, b1329, c1330, c1331, c1332, c1333⟩ := q1324
      have f1334 := Fr.trans f1306 f1328 (by decide)
      have f1335 := Fr.trans f1298 f1328 (by decide)
      have b1336 := jB (e := 2) 0 j1327 rg_1_2_0_1 (by first | decide | omega) (by first | decide | omega)
      refine x_istore (np := 30) (x := 4) (lo' := [x_r 61, iv_c a1, iv_c v1292, iv_c v1294, iv_c v1322]) (by decide +kernel) l1323 (Nat.le_of_ble_eq_true rfl) rfl ?_
      refine x_iload (np := 32) (x := 4) (by decide +kernel) rfl l1323 ?_
      refine x_const (np := 33) (x := 9223372034707292159) (a := 2147483647) (by decide +kernel) (by decide) (by decide) ?_
      refine x_icmp (k := 1) (tg := 38) (np := 36) (by decide +kernel) (by decide) l1323 (by decide) (fun q1337 => ?_) (fun q1338 => ?_)
      · have q1337 : v1322 ≠ 2147483647 := q1337
        have b1339 := c1331 (by first | decide | omega)
        refine x_iload (np := 39) (x := 2) (by decide +kernel) rfl (by first | decide | omega) ?_
        refine x_const (np := 40) (x := 9223372043297226753) (a := 2147483649) (by decide +kernel) (by decide) (by decide) ?_
        refine x_iload (np := 42) (x := 4) (by decide +kernel) rfl l1323 ?_
        refine x_shlE (np := 43) (by decide +kernel) (by decide) l1323 (fun l1340 => ?_)
        have b1341 := bsl_b (x := v1322) (by first | decide | omega) (by first | decide | omega)
        refine x_orE (np := 44) (by decide +kernel) (by first | decide | omega) l1340 (fun l1342 => ?_)
        refine x_istore (np := 45) (x := 2) (lo' := [x_r 61, iv_c a1, iv_c (bor v1292 (bsl 2147483649 v1322)), iv_c v1294, iv_c v1322]) (by decide +kernel) l1342 (Nat.le_of_ble_eq_true rfl) rfl ?_
        refine x_aload (np := 46) (x := 0) (by decide +kernel) rfl (x_nc_le (by decide)) ?_
        have q1343 : h1326 61 0 = 1 := by have z := jB (e := 0) 0 j1327 rg_61_0_0_1 (by decide) (by decide); omega
        refine x_getR (np := 49) (x := 576) (f := 0) (q := 1) (by decide +kernel) (by decide) (by decide +kernel) q1343 ?_
        refine x_ldcB (i := 15) (idx := 165) (tx := "or") (by rw [tb_y101]; exact List.mem_of_getElem? (i := 15) rfl) (by decide) (by rw [tb_b101]; decide +kernel) ?_
        have m1347 := Tp.fr m1325 f1328 (by decide) (by decide)
        refine x_cI (t := 6) (mj := 78) (n := 2) (rc := 8) (ml := 2) (nr := 0) (np := 54) (as := [x_r 1, x_b (15 + 1)]) (rest := []) (lo1 := [x_r 1, x_b (15 + 1)]) (by decide +kernel) (by decide) (by decide +kernel) (x_rb_of (by decide +kernel)) rfl rfl (x_wr (by decide) (x_wB (by decide) x_wn)) x_wn (by decide) rfl (c78_1_S0 j1327  (by decide) m1347) (fun v1344 h1348 l1345 q1346 => ?_)
        obtain ⟨j1349, f1350, b1351, c1352, c1353, c1354⟩ := q1346
        have f1355 := Fr.trans f1334 f1350 (by decide)
        have f1356 := Fr.trans f1335 f1350 (by decide)
        have b1357 := jB (e := 2) 0 j1349 rg_1_2_0_1 (by first | decide | omega) (by first | decide | omega)
        have b1358 : iv_tl 15 = 2 := by decide
        refine x_ifz (k := 1) (tg := 60) (np := 57) (by decide +kernel) (by decide) l1345 (fun q1359 => ?_) (fun q1360 => ?_)
        · have q1359 : v1344 ≠ 2147483648 := q1359
          have b1361 := c1352 (by first | decide | omega)
          refine x_iinc (np := 63) (i := 3) (j := 2147483649) (v := (1 + v1294)) (lo' := [x_r 61, iv_c a1, iv_c (bor v1292 (bsl 2147483649 v1322)), iv_c (1 + v1294), iv_c v1322]) (by decide +kernel) (by decide) (by decide) rfl (by first | decide | omega) (by first | decide | omega) (by first | decide | omega) rfl ?_
          refine x_goto (np := 66) (x := 4) (by decide +kernel) ?_
          obtain ⟨w1362, e1363⟩ := Tk.yes c1354 (by first | decide | omega)
          obtain ⟨w1364, e1365⟩ := Tk.yes c1354 (by first | decide | omega)
          exact i1305 (bor v1292 (bsl 2147483649 v1322)) (1 + v1294) (iv_c v1322) h1348 (by first | decide | omega) (by first | decide | omega) (by first | decide | omega) (by first | decide | omega) j1349 f1356 (Bq.go m1302 c1333 (by first | decide | omega) (by first | decide | omega) rfl (by first | decide | omega) w1362 rfl e1363 rfl) (Bw.go m1303 c1333 (by first | decide | omega) (by first | decide | omega) rfl (by first | decide | omega) w1364 rfl e1365 rfl (by first | decide | omega))
        have q1360 : ¬ (v1344 ≠ 2147483648) := q1360
        have b1366 := c1353 (by first | decide | omega)
        refine x_goto (np := 60) (x := 66) (by decide +kernel) ?_
        refine x_aload (np := 67) (x := 0) (by decide +kernel) rfl (x_nc_le (by decide)) ?_
        have q1367 : h1348 61 1 = h1326 61 1 := f1350 61 1 (by decide +kernel)
        have q1368 : h1326 61 1 = h1297 61 1 := f1328 61 1 (by decide +kernel)
        have q1369 : h1297 61 1 = h 61 1 := f1298 61 1 (by decide +kernel)
        refine x_getR (np := 70) (x := 577) (f := 1) (q := (h 61 1)) (by decide +kernel) (by decide) (by decide +kernel) ((q1367.trans q1368).trans q1369) ?_
        have q1370 : h1348 (h 61 1) 3 = ((h 61 1) + 7) := tf_0_3 j1349 t1309
        refine x_getR (np := 73) (x := 515) (f := 3) (q := ((h 61 1) + 7)) (by decide +kernel) (by decide) (tg_0_515_3_1 t1309) q1370 ?_
        refine x_iload (np := 74) (x := 1) (by decide +kernel) rfl la1 ?_
        refine x_const (np := 75) (x := 9223372047592194050) (a := 2147483650) (by decide +kernel) (by decide) (by decide) ?_
        refine x_iload (np := 76) (x := 2) (by decide +kernel) rfl l1342 ?_
        refine x_nV (t := 6) (mj := 69) (n := 4) (rc := 7) (ml := 5) (nr := 0) (np := 79) (as := [x_r ((h 61 1) + 7), iv_c a1, iv_c 2147483650, iv_c (bor v1292 (bsl 2147483649 v1322))]) (rest := []) (lo1 := [x_r ((h 61 1) + 7), iv_c a1, iv_c 2147483650, iv_c (bor v1292 (bsl 2147483649 v1322)), 147573952589676412928]) (by decide +kernel) (by decide) (by decide +kernel) (x_rb_of (tr_7_7 t1309)) rfl rfl (x_wr (tn_7 t1309) (x_wi la1 (x_wi (by decide) (x_wi l1342 x_wn)))) x_wn (by decide) rfl ?_
        refine x_iload (np := 1) (x := 1) (by decide +kernel) rfl la1 ?_
        refine x_ifz (k := 2) (tg := 28) (np := 4) (by decide +kernel) (by decide) la1 (fun q1371 => ?_) (fun q1372 => ?_)
        · have q1371 : a1 < 2147483648 := q1371
          exfalso; omega
        have q1372 : ¬ (a1 < 2147483648) := q1372
        refine x_iload (np := 5) (x := 1) (by decide +kernel) rfl la1 ?_
        refine x_aload (np := 6) (x := 0) (by decide +kernel) rfl (x_nc_le (tn_7 t1309)) ?_
        have q1373 : h1348 ((h 61 1) + 7) 2 = h1326 ((h 61 1) + 7) 2 := jK 0 f1350 (rg_T7_2_0_1 t1309) (by first | decide | omega) (by first | decide | omega) (by decide)
        have q1374 : h1326 ((h 61 1) + 7) 2 = h1297 ((h 61 1) + 7) 2 := jK 0 f1328 (rg_T7_2_0_1 t1309) (by first | decide | omega) (by first | decide | omega) (by decide)
        have q1375 : h1297 ((h 61 1) + 7) 2 = h ((h 61 1) + 7) 2 := jK 0 f1298 (rg_T7_2_0_1 t1309) (by first | decide | omega) (by first | decide | omega) (by decide)
        have b1376 := jB (e := 2) 0 hJ (rg_T7_2_0_1 t1309) (by first | decide | omega) (by first | decide | omega)
        refine x_getC (np := 9) (x := 386) (f := 2) (q := (h ((h 61 1) + 7) 2)) (by decide +kernel) (by decide) (tg_7_386_2_0 t1309) ((q1373.trans q1374).trans q1375) (fun l1377 => ?_)
        refine x_icmp (k := 3) (tg := 28) (np := 12) (by decide +kernel) (by decide) la1 l1377 (fun q1378 => ?_) (fun q1379 => ?_)
        · have q1378 : (h ((h 61 1) + 7) 2) ≤ a1 := q1378
          refine x_const (np := 29) (x := 9223372039002259456) (a := 2147483648) (by decide +kernel) (by decide) (by decide) ?_
          refine x_istore (np := 31) (x := 4) (lo' := [x_r ((h 61 1) + 7), iv_c a1, iv_c 2147483650, iv_c (bor v1292 (bsl 2147483649 v1322)), iv_c 2147483648]) (by decide +kernel) (by decide) (Nat.le_of_ble_eq_true rfl) rfl ?_
          refine x_iload (np := 33) (x := 4) (by decide +kernel) rfl (by decide) ?_
          refine x_ifz (k := 0) (tg := 50) (np := 36) (by decide +kernel) (by decide) (by decide) (fun q1380 => ?_) (fun q1381 => ?_)
          · have q1380 : 2147483648 = 2147483648 := q1380
            refine x_retV (np := 51) (x := 0) (by decide +kernel) (by decide +kernel) ⟨rfl, ?_⟩
            refine x_const (np := 80) (x := 9223372043297226753) (a := 2147483649) (by decide +kernel) (by decide) (by decide) ?_
            obtain ⟨w1382, e1383⟩ := Tk.no c1354 (by first | decide | omega)
            obtain ⟨u1384, q1385⟩ : ∃ z, a1 = 2147483648 + z := ⟨a1 - 2147483648, by first | decide | omega⟩
            have q1386 : h1348 ((h 61 1) + 8) (1 + 4 * u1384) = h1326 ((h 61 1) + 8) (1 + 4 * u1384) := jK u1384 f1350 (rg_T8_1_4_10 t1309) (by first | decide | omega) (by first | decide | omega) (by decide)
            have q1387 : h1326 ((h 61 1) + 8) (1 + 4 * u1384) = h1297 ((h 61 1) + 8) (1 + 4 * u1384) := jK u1384 f1328 (rg_T8_1_4_10 t1309) (by first | decide | omega) (by first | decide | omega) (by decide)
            have q1388 : h1297 ((h 61 1) + 8) (1 + 4 * u1384) = h ((h 61 1) + 8) (1 + 4 * u1384) := jK u1384 f1298 (rg_T8_1_4_10 t1309) (by first | decide | omega) (by first | decide | omega) (by decide)
            have m1389 : Ot (h 61 1) h h1297 := Ot.fr Ot.refl f1298 (by decide)
            have m1390 : Ot (h 61 1) h h1326 := Ot.fr m1389 f1328 (by decide)
            have m1391 : Ot (h 61 1) h h1348 := Ot.fr m1390 f1350 (by decide)
            obtain ⟨w1392, e1393⟩ := Tk.no c1354 (by first | decide | omega)
            have q1394 : h1348 ((h 61 1) + 8) (2 + 4 * u1384) = h1326 ((h 61 1) + 8) (2 + 4 * u1384) := jK u1384 f1350 (rg_T8_2_4_10 t1309) (by first | decide | omega) (by first | decide | omega) (by decide)
            have q1395 : h1326 ((h 61 1) + 8) (2 + 4 * u1384) = h1297 ((h 61 1) + 8) (2 + 4 * u1384) := jK u1384 f1328 (rg_T8_2_4_10 t1309) (by first | decide | omega) (by first | decide | omega) (by decide)
            have q1396 : h1297 ((h 61 1) + 8) (2 + 4 * u1384) = h ((h 61 1) + 8) (2 + 4 * u1384) := jK u1384 f1298 (rg_T8_2_4_10 t1309) (by first | decide | omega) (by first | decide | omega) (by decide)
            refine x_retI (np := 81) (x := 0) (by decide +kernel) (by decide) (Or.inr ⟨by decide +kernel, by first | decide | omega, by first | decide | omega⟩) ⟨_, rfl, (by decide), ?_⟩
            exact ⟨j1349, f1355, (by first | decide | omega), (Bq.fin m1302 c1333 (by first | decide | omega) (by first | decide | omega) rfl (by first | decide | omega) w1382 rfl (by first | decide | omega) (show h1326 1 2 = h1348 1 2 by first | decide | omega)), (fun b u e1 e2 => by rw [← e1, show u = u1384 by first | decide | omega]; exact ((q1386.trans q1387).trans q1388)), m1391, (fun _ b u e1 e2 e3 => absurd e3 (by rw [← e1]; omega))⟩
          have q1381 : ¬ (2147483648 = 2147483648) := q1381
          exfalso; omega
        have q1379 : ¬ ((h ((h 61 1) + 7) 2) ≤ a1) := q1379
        refine x_iload (np := 13) (x := 2) (by decide +kernel) rfl (by decide) ?_
        refine x_ifz (k := 2) (tg := 28) (np := 16) (by decide +kernel) (by decide) (by decide) (fun q1397 => ?_) (fun q1398 => ?_)
        · have q1397 : 2147483650 < 2147483648 := q1397
          exfalso; omega
        have q1398 : ¬ (2147483650 < 2147483648) := q1398
        refine x_iload (np := 17) (x := 2) (by decide +kernel) rfl (by decide) ?_
        refine x_aload (np := 18) (x := 0) (by decide +kernel) rfl (x_nc_le (tn_7 t1309)) ?_
        have q1399 : h1348 ((h 61 1) + 7) 0 = h1326 ((h 61 1) + 7) 0 := jK 0 f1350 (rg_T7_0_0_1 t1309) (by first | decide | omega) (by first | decide | omega) (by decide)
        have q1400 : h1326 ((h 61 1) + 7) 0 = h1297 ((h 61 1) + 7) 0 := jK 0 f1328 (rg_T7_0_0_1 t1309) (by first | decide | omega) (by first | decide | omega) (by decide)
        have q1401 : h1297 ((h 61 1) + 7) 0 = h ((h 61 1) + 7) 0 := jK 0 f1298 (rg_T7_0_0_1 t1309) (by first | decide | omega) (by first | decide | omega) (by decide)
        have b1402 := jB (e := 0) 0 hJ (rg_T7_0_0_1 t1309) (by first | decide | omega) (by first | decide | omega)
        have q1403 : (h ((h 61 1) + 7) 0) = 2147483652 := by first | decide | omega
        refine x_getC (np := 21) (x := 384) (f := 0) (q := 2147483652) (by decide +kernel) (by decide) (tg_7_384_0_0 t1309) (((q1399.trans q1400).trans q1401).trans q1403) (fun l1404 => ?_)
        refine x_icmp (k := 3) (tg := 28) (np := 24) (by decide +kernel) (by decide) (by decide) (by decide) (fun q1405 => ?_) (fun q1406 => ?_)
        · have q1405 : 2147483652 ≤ 2147483650 := q1405
          exfalso; omega
        have q1406 : ¬ (2147483652 ≤ 2147483650) := q1406
        refine x_const (np := 25) (x := 9223372043297226753) (a := 2147483649) (by decide +kernel) (by decide) (by decide) ?_
        refine x_goto (np := 28) (x := 29) (by decide +kernel) ?_
        refine x_istore (np := 31) (x := 4) (lo' := [x_r ((h 61 1) + 7), iv_c a1, iv_c 2147483650, iv_c (bor v1292 (bsl 2147483649 v1322)), iv_c 2147483649]) (by decide +kernel) (by decide) (Nat.le_of_ble_eq_true rfl) rfl ?_
        refine x_iload (np := 33) (x := 4) (by decide +kernel) rfl (by decide) ?_
        refine x_ifz (k := 0) (tg := 50) (np := 36) (by decide +kernel) (by decide) (by decide) (fun q1407 => ?_) (fun q1408 => ?_)
        · have q1407 : 2147483649 = 2147483648 := q1407
          exfalso; omega
        have q1408 : ¬ (2147483649 = 2147483648) := q1408
        refine x_aload (np := 37) (x := 0) (by decide +kernel) rfl (x_nc_le (tn_7 t1309)) ?_
        have q1409 : h1348 ((h 61 1) + 7) 1 = ((h 61 1) + 8) := tf_7_1 j1349 t1309
        refine x_getR (np := 40) (x := 385) (f := 1) (q := ((h 61 1) + 8)) (by decide +kernel) (by decide) (tg_7_385_1_1 t1309) q1409 ?_
        refine x_iload (np := 41) (x := 1) (by decide +kernel) rfl la1 ?_
        refine x_aload (np := 42) (x := 0) (by decide +kernel) rfl (x_nc_le (tn_7 t1309)) ?_
        have q1410 : h1348 ((h 61 1) + 7) 0 = h1326 ((h 61 1) + 7) 0 := jK 0 f1350 (rg_T7_0_0_1 t1309) (by first | decide | omega) (by first | decide | omega) (by decide)
        have q1411 : h1326 ((h 61 1) + 7) 0 = h1297 ((h 61 1) + 7) 0 := jK 0 f1328 (rg_T7_0_0_1 t1309) (by first | decide | omega) (by first | decide | omega) (by decide)
        have q1412 : h1297 ((h 61 1) + 7) 0 = h ((h 61 1) + 7) 0 := jK 0 f1298 (rg_T7_0_0_1 t1309) (by first | decide | omega) (by first | decide | omega) (by decide)
        refine x_getC (np := 45) (x := 384) (f := 0) (q := 2147483652) (by decide +kernel) (by decide) (tg_7_384_0_0 t1309) (((q1410.trans q1411).trans q1412).trans q1403) (fun l1413 => ?_)
        obtain ⟨u1414, q1415⟩ : ∃ z, a1 = 2147483648 + z := ⟨a1 - 2147483648, by first | decide | omega⟩
        refine x_imul (np := 46) (x := 0) (i := u1414) (j := 4) (v := (2147483648 + 4 * u1414)) (by decide +kernel) (by first | decide | omega) (by first | decide | omega) (by first | decide | omega) (by first | decide | omega) la1 (by decide) ?_
        refine x_iload (np := 47) (x := 2) (by decide +kernel) rfl (by decide) ?_
        refine x_iadd (np := 48) (x := 0) (v := (2147483650 + 4 * u1414)) (by decide +kernel) (by first | decide | omega) (by decide) (by first | decide | omega) (by first | decide | omega) ?_
        refine x_iload (np := 49) (x := 3) (by decide +kernel) rfl l1342 ?_
        refine x_ast (np := 50) (x := 0) (kd := 1) (n := 40) (i := (2 + 4 * u1414)) (by decide +kernel) (Or.inl rfl) (ta_8_40 t1309) (by first | decide | omega) (by first | decide | omega) (by decide) l1342 (fun z => absurd z (by decide)) ?_
        have j1418 := jU (e := (2 + 4 * u1414)) (v := (bor v1292 (bsl 2147483649 v1322))) u1414 j1349 (rg_T8_2_4_10 t1309) (by first | decide | omega) (by first | decide | omega) (by first | decide | omega)
        have f1420 := jF (e := (2 + 4 * u1414)) (v := (bor v1292 (bsl 2147483649 v1322))) u1414 f1355 (rg_T8_2_4_10 t1309) (by first | decide | omega) (by first | decide | omega) (by decide)
        generalize e1419 : x_up h1348 ((h 61 1) + 8) (2 + 4 * u1414) (bor v1292 (bsl 2147483649 v1322)) = h1417 at j1418 f1420 ⊢
        refine x_retV (np := 51) (x := 0) (by decide +kernel) (by decide +kernel) ⟨rfl, ?_⟩
        refine x_const (np := 80) (x := 9223372043297226753) (a := 2147483649) (by decide +kernel) (by decide) (by decide) ?_
        obtain ⟨w1421, e1422⟩ := Tk.no c1354 (by first | decide | omega)
        have q1423 : h1417 1 2 = h1348 1 2 := by rw [← e1419]; exact x_up_k (Ne.symm (tne_8_1 t1309))
        have q1424 : h1417 ((h 61 1) + 8) (1 + 4 * u1414) = h1348 ((h 61 1) + 8) (1 + 4 * u1414) := by rw [← e1419]; exact x_up_i (by first | decide | omega)
        have q1425 : h1348 ((h 61 1) + 8) (1 + 4 * u1414) = h1326 ((h 61 1) + 8) (1 + 4 * u1414) := jK u1414 f1350 (rg_T8_1_4_10 t1309) (by first | decide | omega) (by first | decide | omega) (by decide)
        have q1426 : h1326 ((h 61 1) + 8) (1 + 4 * u1414) = h1297 ((h 61 1) + 8) (1 + 4 * u1414) := jK u1414 f1328 (rg_T8_1_4_10 t1309) (by first | decide | omega) (by first | decide | omega) (by decide)
        have q1427 : h1297 ((h 61 1) + 8) (1 + 4 * u1414) = h ((h 61 1) + 8) (1 + 4 * u1414) := jK u1414 f1298 (rg_T8_1_4_10 t1309) (by first | decide | omega) (by first | decide | omega) (by decide)
        have m1428 : Ot (h 61 1) h h1297 := Ot.fr Ot.refl f1298 (by decide)
        have m1429 : Ot (h 61 1) h h1326 := Ot.fr m1428 f1328 (by decide)
        have m1430 : Ot (h 61 1) h h1348 := Ot.fr m1429 f1350 (by decide)
        have m1431 : Ot (h 61 1) h h1417 := by rw [← e1419]; exact Ot.up (o := 8) m1430 t1309 (by decide) rfl
        obtain ⟨w1432, e1433⟩ := Tk.no c1354 (by first | decide | omega)
        have q1434 : h1417 ((h 61 1) + 8) (2 + 4 * u1414) = (bor v1292 (bsl 2147483649 v1322)) := by rw [← e1419]; exact x_up_at
        have q1436 : h1417 1 2 = h1348 1 2 := by rw [← e1419]; exact x_up_k (Ne.symm (tne_8_1 t1309))
        have y1435 : Bv tB tN (rv h 0 - 1) (h 1 2) 2147483648 (h1417 1 2) (h1417 ((h 61 1) + 8) (2 + 4 * u1414)) := Bw.fin m1303 c1333 (by first | decide | omega) (by first | decide | omega) rfl (by first | decide | omega) w1432 rfl (show h1326 1 2 = h1417 1 2 by first | decide | omega) (by first | decide | omega)
        have m1437 : ∀ u, u < 10 → aq h1417 (h 61 1) u = aq h (h 61 1) u := fun u hu => (Eq.trans (show aq h1417 (h 61 1) u = aq h1348 (h 61 1) u by rw [← e1419]; exact aq_i (by first | decide | omega)) (Eq.trans (aq_gr t1309 f1350 (by decide) u hu) (Eq.trans (aq_gr t1309 f1328 (by decide) u hu) (aq_gr t1309 f1298 (by decide) u hu))))
        have m1438 : ∀ u, u < 10 → u ≠ u1414 → bq h1417 (h 61 1) u = bq h (h 61 1) u := fun u hu hne => (Eq.trans (show bq h1417 (h 61 1) u = bq h1348 (h 61 1) u by rw [← e1419]; exact bq_i (by first | decide | omega)) (Eq.trans (bq_gr t1309 f1350 (by decide) u hu) (Eq.trans (bq_gr t1309 f1328 (by decide) u hu) (bq_gr t1309 f1298 (by decide) u hu))))
        refine x_retI (np := 81) (x := 0) (by decide +kernel) (by decide) (Or.inr ⟨by decide +kernel, by first | decide | omega, by first | decide | omega⟩) ⟨_, rfl, (by decide), ?_⟩
        exact ⟨j1418, f1420, (by first | decide | omega), (Bq.fin m1302 c1333 (by first | decide | omega) (by first | decide | omega) rfl (by first | decide | omega) w1421 rfl (by first | decide | omega) (show h1326 1 2 = h1417 1 2 by first | decide | omega)), (fun b u e1 e2 => by rw [← e1, show u = u1414 by first | decide | omega]; exact (((q1424.trans q1425).trans q1426).trans q1427)), m1431, (fun _ b u e1 e2 e3 => by rw [← e1, show u = u1414 by first | decide | omega]; exact ⟨y1435, m1437, m1438⟩)⟩
      have q1338 : ¬ (v1322 ≠ 2147483647) := q1338
      have b1439 := c1332 (by first | decide | omega)
      refine x_const (np := 37) (x := 9223372039002259456) (a := 2147483648) (by decide +kernel) (by decide) (by decide) ?_
      obtain ⟨u1440, q1441⟩ : ∃ z, a1 = 2147483648 + z := ⟨a1 - 2147483648, by first | decide | omega⟩
      have q1442 : h1326 ((h 61 1) + 8) (1 + 4 * u1440) = h1297 ((h 61 1) + 8) (1 + 4 * u1440) := jK u1440 f1328 (rg_T8_1_4_10 t1309) (by first | decide | omega) (by first | decide | omega) (by decide)
      have q1443 : h1297 ((h 61 1) + 8) (1 + 4 * u1440) = h ((h 61 1) + 8) (1 + 4 * u1440) := jK u1440 f1298 (rg_T8_1_4_10 t1309) (by first | decide | omega) (by first | decide | omega) (by decide)
      have m1444 : Ot (h 61 1) h h1297 := Ot.fr Ot.refl f1298 (by decide)
      have m1445 : Ot (h 61 1) h h1326 := Ot.fr m1444 f1328 (by decide)
      refine x_retI (np := 38) (x := 0) (by decide +kernel) (by decide) (Or.inr ⟨by decide +kernel, by first | decide | omega, by first | decide | omega⟩) ⟨_, rfl, (by decide), ?_⟩
      exact ⟨j1327, f1334, (by first | decide | omega), (Bq.no m1302 c1333 (by first | decide | omega) (by first | decide | omega) rfl (by first | decide | omega) (by first | decide | omega)), (fun b u e1 e2 => by rw [← e1, show u = u1440 by first | decide | omega]; exact (q1442.trans q1443)), m1445, (fun z => absurd z (by first | decide | omega))⟩
  have b1446 := jB (e := 2) 0 hJ rg_1_2_0_1 (by first | decide | omega) (by first | decide | omega)
  exact p1300 _ 2147483648 2147483648 147573952589676412928 h (Nat.lt_succ_self _) (by first | decide | omega) (by first | decide | omega) (by first | decide | omega) hJ (Fr.refl _ _) (Bq.zero rfl) (Bw.zero rfl rfl)
set_option maxHeartbeats 0 in
/-- LentNames$Tape.takesNumber(II)I -/
theorem c79_1 {sc : Nat × Nat} {d a1 a2 : Nat} {h : xh} {tB : Nat → Nat} {tN : Nat} (hJ : J h) (ba1 : 2147483648 ≤ a1 ∧ a1 ≤ 2147483659) (ba2 : 2147483659 ≤ a2 ∧ a2 ≤ 2147483659) (hT : Tp tB tN h) : X sc 79 (d + 1) (xI fun r h' => J h' ∧ Fr 33 h h' ∧ (2147483647 ≤ r ∧ r ≤ 2147483659) ∧ (r ≤ a2) ∧ (2147483648 ≤ r → h 1 2 + 1 ≤ h' 1 2) ∧ (r = 2147483647 → h' 1 2 = h 1 2) ∧ Nr tB tN a1 a2 (h 1 2) r (h' 1 2)) 0 0 0 [x_r 1, iv_c a1, iv_c a2, 147573952589676412928, 147573952589676412928] [] h := by
  have la1 : a1 < 4294967296 := by first | decide | omega
  have la2 : a2 < 4294967296 := by first | decide | omega
  have hF := Fr.refl 33 h
  refine x_const (np := 1) (x := 9223372039002259456) (a := 2147483648) (by decide +kernel) (by decide) (by decide) ?_
  refine x_istore (np := 2) (x := 3) (lo' := [x_r 1, iv_c a1, iv_c a2, iv_c 2147483648, 147573952589676412928]) (by decide +kernel) (by decide) (Nat.le_of_ble_eq_true rfl) rfl ?_
  refine x_const (np := 3) (x := 9223372039002259456) (a := 2147483648) (by decide +kernel) (by decide) (by decide) ?_
  refine x_istore (np := 5) (x := 4) (lo' := [x_r 1, iv_c a1, iv_c a2, iv_c 2147483648, iv_c 2147483648]) (by decide +kernel) (by decide) (Nat.le_of_ble_eq_true rfl) rfl ?_
  refine x_iload (np := 7) (x := 4) (by decide +kernel) rfl (by decide) ?_
  refine x_const (np := 8) (x := 9223372051887161347) (a := 2147483651) (by decide +kernel) (by decide) (by decide) ?_
  refine x_icmp (k := 4) (tg := 54) (np := 11) (by decide +kernel) (by decide) (by decide) (by decide) (fun q1 => ?_) (fun q2 => ?_)
  · have q1 : 2147483651 < 2147483648 := q1
    exfalso; omega
  have q2 : ¬ (2147483651 < 2147483648) := q2
  refine x_aload (np := 12) (x := 0) (by decide +kernel) rfl (x_nc_le (by decide)) ?_
  refine x_aload (np := 13) (x := 0) (by decide +kernel) rfl (x_nc_le (by decide)) ?_
  have b3 := jB (e := 2) 0 hJ rg_1_2_0_1 (by first | decide | omega) (by first | decide | omega)
  refine x_getC (np := 16) (x := 450) (f := 2) (q := (h 1 2)) (by decide +kernel) (by decide) (by decide +kernel) rfl (fun l4 => ?_)
  refine x_iload (np := 18) (x := 4) (by decide +kernel) rfl (by decide) ?_
  refine x_iadd (np := 19) (x := 0) (v := (h 1 2)) (by decide +kernel) l4 (by decide) (by first | decide | omega) (by first | decide | omega) ?_
  refine x_nI (t := 6) (mj := 81) (n := 2) (rc := 8) (ml := 2) (nr := 0) (np := 22) (as := [x_r 1, iv_c (h 1 2)]) (rest := []) (lo1 := [x_r 1, iv_c (h 1 2)]) (by decide +kernel) (by decide) (by decide +kernel) (x_rb_of (by decide +kernel)) rfl rfl (x_wr (by decide) (x_wi l4 x_wn)) x_wn (by decide) rfl ?_
  refine x_iload (np := 1) (x := 1) (by decide +kernel) rfl l4 ?_
  refine x_aload (np := 2) (x := 0) (by decide +kernel) rfl (x_nc_le (by decide)) ?_
  have b5 := jB (e := 1) 0 hJ rg_1_1_0_1 (by first | decide | omega) (by first | decide | omega)
  refine x_getC (np := 5) (x := 449) (f := 1) (q := (h 1 1)) (by decide +kernel) (by decide) (by decide +kernel) rfl (fun l6 => ?_)
  refine x_icmp (k := 3) (tg := 17) (np := 8) (by decide +kernel) (by decide) l4 l6 (fun q7 => ?_) (fun q8 => ?_)
  · have q7 : (h 1 1) ≤ (h 1 2) := q7
    refine x_const (np := 18) (x := 9223372034707292159) (a := 2147483647) (by decide +kernel) (by decide) (by decide) ?_
    refine x_retI (np := 19) (x := 0) (by decide +kernel) (by decide) (Or.inl (by decide +kernel)) ⟨_, rfl, (by decide), ?_⟩
    refine x_nI (t := 0) (mj := 82) (n := 1) (rc := 0) (ml := 1) (nr := 0) (np := 25) (as := [iv_c 2147483647]) (rest := []) (lo1 := [iv_c 2147483647]) (by decide +kernel) (by decide) (by decide +kernel) (Or.inl rfl) rfl rfl (x_wi (by decide) x_wn) x_wn (by decide) rfl ?_
    refine x_iload (np := 1) (x := 0) (by decide +kernel) rfl (by decide) ?_
    refine x_const (np := 3) (x := 9223372245160689712) (a := 2147483696) (by decide +kernel) (by decide) (by decide) ?_
    refine x_icmp (k := 2) (tg := 16) (np := 6) (by decide +kernel) (by decide) (by decide) (by decide) (fun q9 => ?_) (fun q10 => ?_)
    · have q9 : 2147483647 < 2147483696 := q9
      refine x_const (np := 17) (x := 9223372039002259456) (a := 2147483648) (by decide +kernel) (by decide) (by decide) ?_
      refine x_retI (np := 18) (x := 0) (by decide +kernel) (by decide) (Or.inr ⟨by decide +kernel, by first | decide | omega, by first | decide | omega⟩) ⟨_, rfl, (by decide), ?_⟩
      refine x_ifz (k := 0) (tg := 54) (np := 28) (by decide +kernel) (by decide) (by decide) (fun q11 => ?_) (fun q12 => ?_)
      · have q11 : 2147483648 = 2147483648 := q11
        refine x_iload (np := 56) (x := 4) (by decide +kernel) rfl (by decide) ?_
        refine x_ifz (k := 0) (tg := 75) (np := 59) (by decide +kernel) (by decide) (by decide) (fun q13 => ?_) (fun q14 => ?_)
        · have q13 : 2147483648 = 2147483648 := q13
          refine x_const (np := 76) (x := 9223372034707292159) (a := 2147483647) (by decide +kernel) (by decide) (by decide) ?_
          have z15 := hT.1
          have z16 := hT.1
          have g17 : ¬ Dg tB tN (h 1 2 + 0) := fun z => by have z1 := z.1; have z2 := z.2.1; have z3 := z.2.2; omega
          refine x_retI (np := 77) (x := 0) (by decide +kernel) (by decide) (Or.inl (by decide +kernel)) ⟨_, rfl, (by decide), ?_⟩
          exact ⟨hJ, hF, (by first | decide | omega), (by first | decide | omega), (fun z => by first | decide | omega), (fun z => by first | decide | omega), (Nr.nob (by first | decide | omega) (Nb.mk0 g17))⟩
        have q14 : ¬ (2147483648 = 2147483648) := q14
        exfalso; omega
      have q12 : ¬ (2147483648 = 2147483648) := q12
      exfalso; omega
    have q10 : ¬ (2147483647 < 2147483696) := q10
    exfalso; omega
  have q8 : ¬ ((h 1 1) ≤ (h 1 2)) := q8
  refine x_aload (np := 9) (x := 0) (by decide +kernel) rfl (x_nc_le (by decide)) ?_
  have q18 : h 1 0 = 2 := by have z := jB (e := 0) 0 hJ rg_1_0_0_1 (by decide) (by decide); omega
  refine x_getR (np := 12) (x := 448) (f := 0) (q := 2) (by decide +kernel) (by decide) (by decide +kernel) q18 ?_
  refine x_iload (np := 13) (x := 1) (by decide +kernel) rfl l4 ?_
  obtain ⟨u19, q20⟩ : ∃ z, (h 1 2) = 2147483648 + z := ⟨(h 1 2) - 2147483648, by first | decide | omega⟩
  refine x_aldC (np := 14) (x := 0) (n := 400) (i := u19) (q := (h 2 u19)) (by decide +kernel) (by decide +kernel) (by first | decide | omega) (by first | decide | omega) (by decide) rfl (fun l21 => ?_)
  refine x_goto (np := 17) (x := 18) (by decide +kernel) ?_
  refine x_retI (np := 19) (x := 0) (by decide +kernel) l21 (Or.inl (by decide +kernel)) ⟨_, rfl, l21, ?_⟩
  refine x_nI (t := 0) (mj := 82) (n := 1) (rc := 0) (ml := 1) (nr := 0) (np := 25) (as := [iv_c (h 2 u19)]) (rest := []) (lo1 := [iv_c (h 2 u19)]) (by decide +kernel) (by decide) (by decide +kernel) (Or.inl rfl) rfl rfl (x_wi l21 x_wn) x_wn (by decide) rfl ?_
  refine x_iload (np := 1) (x := 0) (by decide +kernel) rfl l21 ?_
  refine x_const (np := 3) (x := 9223372245160689712) (a := 2147483696) (by decide +kernel) (by decide) (by decide) ?_
  refine x_icmp (k := 2) (tg := 16) (np := 6) (by decide +kernel) (by decide) l21 (by decide) (fun q22 => ?_) (fun q23 => ?_)
  · have q22 : (h 2 u19) < 2147483696 := q22
    refine x_const (np := 17) (x := 9223372039002259456) (a := 2147483648) (by decide +kernel) (by decide) (by decide) ?_
    refine x_retI (np := 18) (x := 0) (by decide +kernel) (by decide) (Or.inr ⟨by decide +kernel, by first | decide | omega, by first | decide | omega⟩) ⟨_, rfl, (by decide), ?_⟩
    refine x_ifz (k := 0) (tg := 54) (np := 28) (by decide +kernel) (by decide) (by decide) (fun q24 => ?_) (fun q25 => ?_)
    · have q24 : 2147483648 = 2147483648 := q24
      refine x_iload (np := 56) (x := 4) (by decide +kernel) rfl (by decide) ?_
      refine x_ifz (k := 0) (tg := 75) (np := 59) (by decide +kernel) (by decide) (by decide) (fun q26 => ?_) (fun q27 => ?_)
      · have q26 : 2147483648 = 2147483648 := q26
        refine x_const (np := 76) (x := 9223372034707292159) (a := 2147483647) (by decide +kernel) (by decide) (by decide) ?_
        have z28 := hT.1
        have z29 := hT.1
        have z30 := Tp.at (p := (h 1 2 + 0)) (u := u19) hT (by first | decide | omega) (by first | decide | omega)
        have g31 : ¬ Dg tB tN (h 1 2 + 0) := fun z => by have z1 := z.1; have z2 := z.2.1; have z3 := z.2.2; omega
        refine x_retI (np := 77) (x := 0) (by decide +kernel) (by decide) (Or.inl (by decide +kernel)) ⟨_, rfl, (by decide), ?_⟩
        exact ⟨hJ, hF, (by first | decide | omega), (by first | decide | omega), (fun z => by first | decide | omega), (fun z => by first | decide | omega), (Nr.nob (by first | decide | omega) (Nb.mk0 g31))⟩
      have q27 : ¬ (2147483648 = 2147483648) := q27
      exfalso; omega
    have q25 : ¬ (2147483648 = 2147483648) := q25
    exfalso; omega
  have q23 : ¬ ((h 2 u19) < 2147483696) := q23
  refine x_iload (np := 7) (x := 0) (by decide +kernel) rfl l21 ?_
  refine x_const (np := 9) (x := 9223372283815395385) (a := 2147483705) (by decide +kernel) (by decide) (by decide) ?_
  refine x_icmp (k := 4) (tg := 16) (np := 12) (by decide +kernel) (by decide) l21 (by decide) (fun q32 => ?_) (fun q33 => ?_)
  · have q32 : 2147483705 < (h 2 u19) := q32
    refine x_const (np := 17) (x := 9223372039002259456) (a := 2147483648) (by decide +kernel) (by decide) (by decide) ?_
    refine x_retI (np := 18) (x := 0) (by decide +kernel) (by decide) (Or.inr ⟨by decide +kernel, by first | decide | omega, by first | decide | omega⟩) ⟨_, rfl, (by decide), ?_⟩
    refine x_ifz (k := 0) (tg := 54) (np := 28) (by decide +kernel) (by decide) (by decide) (fun q34 => ?_) (fun q35 => ?_)
    · have q34 : 2147483648 = 2147483648 := q34
      refine x_iload (np := 56) (x := 4) (by decide +kernel) rfl (by decide) ?_
      refine x_ifz (k := 0) (tg := 75) (np := 59) (by decide +kernel) (by decide) (by decide) (fun q36 => ?_) (fun q37 => ?_)
      · have q36 : 2147483648 = 2147483648 := q36
        refine x_const (np := 76) (x := 9223372034707292159) (a := 2147483647) (by decide +kernel) (by decide) (by decide) ?_
        have z38 := hT.1
        have z39 := hT.1
        have z40 := Tp.at (p := (h 1 2 + 0)) (u := u19) hT (by first | decide | omega) (by first | decide | omega)
        have g41 : ¬ Dg tB tN (h 1 2 + 0) := fun z => by have z1 := z.1; have z2 := z.2.1; have z3 := z.2.2; omega
        refine x_retI (np := 77) (x := 0) (by decide +kernel) (by decide) (Or.inl (by decide +kernel)) ⟨_, rfl, (by decide), ?_⟩
        exact ⟨hJ, hF, (by first | decide | omega), (by first | decide | omega), (fun z => by first | decide | omega), (fun z => by first | decide | omega), (Nr.nob (by first | decide | omega) (Nb.mk0 g41))⟩
      have q37 : ¬ (2147483648 = 2147483648) := q37
      exfalso; omega
    have q35 : ¬ (2147483648 = 2147483648) := q35
    exfalso; omega
  have q33 : ¬ (2147483705 < (h 2 u19)) := q33
  refine x_const (np := 13) (x := 9223372043297226753) (a := 2147483649) (by decide +kernel) (by decide) (by decide) ?_
  refine x_goto (np := 16) (x := 17) (by decide +kernel) ?_
  refine x_retI (np := 18) (x := 0) (by decide +kernel) (by decide) (Or.inr ⟨by decide +kernel, by first | decide | omega, by first | decide | omega⟩) ⟨_, rfl, (by decide), ?_⟩
  refine x_ifz (k := 0) (tg := 54) (np := 28) (by decide +kernel) (by decide) (by decide) (fun q42 => ?_) (fun q43 => ?_)
  · have q42 : 2147483649 = 2147483648 := q42
    exfalso; omega
  have q43 : ¬ (2147483649 = 2147483648) := q43
  refine x_iload (np := 29) (x := 3) (by decide +kernel) rfl (by decide) ?_
  refine x_const (np := 31) (x := 9223372081951932426) (a := 2147483658) (by decide +kernel) (by decide) (by decide) ?_
  refine x_imul (np := 32) (x := 0) (i := 0) (j := 10) (v := 2147483648) (by decide +kernel) (by first | decide | omega) (by first | decide | omega) (by first | decide | omega) (by first | decide | omega) (by decide) (by decide) ?_
  refine x_aload (np := 33) (x := 0) (by decide +kernel) rfl (x_nc_le (by decide)) ?_
  refine x_aload (np := 34) (x := 0) (by decide +kernel) rfl (x_nc_le (by decide)) ?_
  refine x_getC (np := 37) (x := 450) (f := 2) (q := (h 1 2)) (by decide +kernel) (by decide) (by decide +kernel) rfl (fun l45 => ?_)
  refine x_iload (np := 39) (x := 4) (by decide +kernel) rfl (by decide) ?_
  refine x_iadd (np := 40) (x := 0) (v := (h 1 2)) (by decide +kernel) l4 (by decide) (by first | decide | omega) (by first | decide | omega) ?_
  refine x_nI (t := 6) (mj := 81) (n := 2) (rc := 8) (ml := 2) (nr := 1) (np := 43) (as := [x_r 1, iv_c (h 1 2)]) (rest := [iv_c 2147483648]) (lo1 := [x_r 1, iv_c (h 1 2)]) (by decide +kernel) (by decide) (by decide +kernel) (x_rb_of (by decide +kernel)) rfl rfl (x_wr (by decide) (x_wi l4 x_wn)) (x_wi (by decide) x_wn) (by decide) rfl ?_
  refine x_iload (np := 1) (x := 1) (by decide +kernel) rfl l4 ?_
  refine x_aload (np := 2) (x := 0) (by decide +kernel) rfl (x_nc_le (by decide)) ?_
  refine x_getC (np := 5) (x := 449) (f := 1) (q := (h 1 1)) (by decide +kernel) (by decide) (by decide +kernel) rfl (fun l46 => ?_)
  refine x_icmp (k := 3) (tg := 17) (np := 8) (by decide +kernel) (by decide) l4 l6 (fun q47 => ?_) (fun q48 => ?_)
  · have q47 : (h 1 1) ≤ (h 1 2) := q47
    exfalso; omega
  have q48 : ¬ ((h 1 1) ≤ (h 1 2)) := q48
  refine x_aload (np := 9) (x := 0) (by decide +kernel) rfl (x_nc_le (by decide)) ?_
  have q49 : h 1 0 = 2 := by have z := jB (e := 0) 0 hJ rg_1_0_0_1 (by decide) (by decide); omega
  refine x_getR (np := 12) (x := 448) (f := 0) (q := 2) (by decide +kernel) (by decide) (by decide +kernel) q49 ?_
  refine x_iload (np := 13) (x := 1) (by decide +kernel) rfl l4 ?_
  refine x_aldC (np := 14) (x := 0) (n := 400) (i := u19) (q := (h 2 u19)) (by decide +kernel) (by decide +kernel) (by first | decide | omega) (by first | decide | omega) (by decide) rfl (fun l50 => ?_)
  refine x_goto (np := 17) (x := 18) (by decide +kernel) ?_
  refine x_retI (np := 19) (x := 0) (by decide +kernel) l21 (Or.inl (by decide +kernel)) ⟨_, rfl, l21, ?_⟩
  refine x_iadd (np := 44) (x := 0) (v := (h 2 u19)) (by decide +kernel) (by decide) l21 (by first | decide | omega) (by first | decide | omega) ?_
  refine x_const (np := 46) (x := 9223372245160689712) (a := 2147483696) (by decide +kernel) (by decide) (by decide) ?_
  obtain ⟨v51, q52⟩ : ∃ z, z + 2147483696 = (h 2 u19) + 2147483648 := ⟨(h 2 u19) + 2147483648 - 2147483696, by first | decide | omega⟩
  refine x_isub (np := 47) (x := 0) (v := v51) (by decide +kernel) l21 (by decide) (by first | decide | omega) (by first | decide | omega) ?_
  refine x_istore (np := 48) (x := 3) (lo' := [x_r 1, iv_c a1, iv_c a2, iv_c v51, iv_c 2147483648]) (by decide +kernel) (by first | decide | omega) (Nat.le_of_ble_eq_true rfl) rfl ?_
  refine x_iinc (np := 51) (i := 4) (j := 2147483649) (v := 2147483649) (lo' := [x_r 1, iv_c a1, iv_c a2, iv_c v51, iv_c 2147483649]) (by decide +kernel) (by decide) (by decide) rfl (by decide) (by first | decide | omega) (by first | decide | omega) rfl ?_
  refine x_goto (np := 54) (x := 5) (by decide +kernel) ?_
  refine x_iload (np := 7) (x := 4) (by decide +kernel) rfl (by decide) ?_
  refine x_const (np := 8) (x := 9223372051887161347) (a := 2147483651) (by decide +kernel) (by decide) (by decide) ?_
  refine x_icmp (k := 4) (tg := 54) (np := 11) (by decide +kernel) (by decide) (by decide) (by decide) (fun q53 => ?_) (fun q54 => ?_)
  · have q53 : 2147483651 < 2147483649 := q53
    exfalso; omega
  have q54 : ¬ (2147483651 < 2147483649) := q54
  refine x_aload (np := 12) (x := 0) (by decide +kernel) rfl (x_nc_le (by decide)) ?_
  refine x_aload (np := 13) (x := 0) (by decide +kernel) rfl (x_nc_le (by decide)) ?_
  refine x_getC (np := 16) (x := 450) (f := 2) (q := (h 1 2)) (by decide +kernel) (by decide) (by decide +kernel) rfl (fun l55 => ?_)
  refine x_iload (np := 18) (x := 4) (by decide +kernel) rfl (by decide) ?_
  refine x_iadd (np := 19) (x := 0) (v := (1 + (h 1 2))) (by decide +kernel) l4 (by decide) (by first | decide | omega) (by first | decide | omega) ?_
  refine x_nI (t := 6) (mj := 81) (n := 2) (rc := 8) (ml := 2) (nr := 0) (np := 22) (as := [x_r 1, iv_c (1 + (h 1 2))]) (rest := []) (lo1 := [x_r 1, iv_c (1 + (h 1 2))]) (by decide +kernel) (by decide) (by decide +kernel) (x_rb_of (by decide +kernel)) rfl rfl (x_wr (by decide) (x_wi (by first | decide | omega) x_wn)) x_wn (by decide) rfl ?_
  refine x_iload (np := 1) (x := 1) (by decide +kernel) rfl (by first | decide | omega) ?_
  refine x_aload (np := 2) (x := 0) (by decide +kernel) rfl (x_nc_le (by decide)) ?_
  refine x_getC (np := 5) (x := 449) (f := 1) (q := (h 1 1)) (by decide +kernel) (by decide) (by decide +kernel) rfl (fun l56 => ?_)
  refine x_icmp (k := 3) (tg := 17) (np := 8) (by decide +kernel) (by decide) (by first | decide | omega) l6 (fun q57 => ?_) (fun q58 => ?_)
  · have q57 : (h 1 1) ≤ (1 + (h 1 2)) := q57
    refine x_const (np := 18) (x := 9223372034707292159) (a := 2147483647) (by decide +kernel) (by decide) (by decide) ?_
    refine x_retI (np := 19) (x := 0) (by decide +kernel) (by decide) (Or.inl (by decide +kernel)) ⟨_, rfl, (by decide), ?_⟩
    refine x_nI (t := 0) (mj := 82) (n := 1) (rc := 0) (ml := 1) (nr := 0) (np := 25) (as := [iv_c 2147483647]) (rest := []) (lo1 := [iv_c 2147483647]) (by decide +kernel) (by decide) (by decide +kernel) (Or.inl rfl) rfl rfl (x_wi (by decide) x_wn) x_wn (by decide) rfl ?_
    refine x_iload (np := 1) (x := 0) (by decide +kernel) rfl (by decide) ?_
    refine x_const (np := 3) (x := 9223372245160689712) (a := 2147483696) (by decide +kernel) (by decide) (by decide) ?_
    refine x_icmp (k := 2) (tg := 16) (np := 6) (by decide +kernel) (by decide) (by decide) (by decide) (fun q59 => ?_) (fun q60 => ?_)
    · have q59 : 2147483647 < 2147483696 := q59
      refine x_const (np := 17) (x := 9223372039002259456) (a := 2147483648) (by decide +kernel) (by decide) (by decide) ?_
      refine x_retI (np := 18) (x := 0) (by decide +kernel) (by decide) (Or.inr ⟨by decide +kernel, by first | decide | omega, by first | decide | omega⟩) ⟨_, rfl, (by decide), ?_⟩
      refine x_ifz (k := 0) (tg := 54) (np := 28) (by decide +kernel) (by decide) (by decide) (fun q61 => ?_) (fun q62 => ?_)
      · have q61 : 2147483648 = 2147483648 := q61
        refine x_iload (np := 56) (x := 4) (by decide +kernel) rfl (by decide) ?_
        refine x_ifz (k := 0) (tg := 75) (np := 59) (by decide +kernel) (by decide) (by decide) (fun q63 => ?_) (fun q64 => ?_)
        · have q63 : 2147483649 = 2147483648 := q63
          exfalso; omega
        have q64 : ¬ (2147483649 = 2147483648) := q64
        refine x_iload (np := 61) (x := 4) (by decide +kernel) rfl (by decide) ?_
        refine x_const (np := 62) (x := 9223372051887161347) (a := 2147483651) (by decide +kernel) (by decide) (by decide) ?_
        refine x_icmp (k := 4) (tg := 75) (np := 65) (by decide +kernel) (by decide) (by decide) (by decide) (fun q65 => ?_) (fun q66 => ?_)
        · have q65 : 2147483651 < 2147483649 := q65
          exfalso; omega
        have q66 : ¬ (2147483651 < 2147483649) := q66
        refine x_iload (np := 66) (x := 3) (by decide +kernel) rfl (by first | decide | omega) ?_
        refine x_iload (np := 67) (x := 1) (by decide +kernel) rfl la1 ?_
        refine x_icmp (k := 2) (tg := 75) (np := 70) (by decide +kernel) (by decide) (by first | decide | omega) la1 (fun q67 => ?_) (fun q68 => ?_)
        · have q67 : v51 < a1 := q67
          refine x_const (np := 76) (x := 9223372034707292159) (a := 2147483647) (by decide +kernel) (by decide) (by decide) ?_
          have z69 := hT.1
          have z70 := Tp.at (p := (h 1 2 + 0)) (u := u19) hT (by first | decide | omega) (by first | decide | omega)
          have g71 : Dg tB tN (h 1 2 + 0) := ⟨by first | decide | omega, by first | decide | omega, by first | decide | omega⟩
          have z72 := hT.1
          have g73 : ¬ Dg tB tN (h 1 2 + 1) := fun z => by have z1 := z.1; have z2 := z.2.1; have z3 := z.2.2; omega
          have z74 := nv1 (B := tB) (p := h 1 2)
          refine x_retI (np := 77) (x := 0) (by decide +kernel) (by decide) (Or.inl (by decide +kernel)) ⟨_, rfl, (by decide), ?_⟩
          exact ⟨hJ, hF, (by first | decide | omega), (by first | decide | omega), (fun z => by first | decide | omega), (fun z => by first | decide | omega), (Nr.nor (by first | decide | omega) (Nu.mk1 g71 g73) (by first | decide | omega))⟩
        have q68 : ¬ (v51 < a1) := q68
        refine x_iload (np := 71) (x := 3) (by decide +kernel) rfl (by first | decide | omega) ?_
        refine x_iload (np := 72) (x := 2) (by decide +kernel) rfl la2 ?_
        refine x_icmp (k := 5) (tg := 77) (np := 75) (by decide +kernel) (by decide) (by first | decide | omega) la2 (fun q75 => ?_) (fun q76 => ?_)
        · have q75 : v51 ≤ a2 := q75
          refine x_aload (np := 78) (x := 0) (by decide +kernel) rfl (x_nc_le (by decide)) ?_
          refine x_aload (np := 79) (x := 0) (by decide +kernel) rfl (x_nc_le (by decide)) ?_
          refine x_getC (np := 82) (x := 450) (f := 2) (q := (h 1 2)) (by decide +kernel) (by decide) (by decide +kernel) rfl (fun l77 => ?_)
          refine x_iload (np := 84) (x := 4) (by decide +kernel) rfl (by decide) ?_
          refine x_iadd (np := 85) (x := 0) (v := (1 + (h 1 2))) (by decide +kernel) l4 (by decide) (by first | decide | omega) (by first | decide | omega) ?_
          refine x_cV (t := 6) (mj := 80) (n := 2) (rc := 8) (ml := 2) (nr := 0) (np := 88) (as := [x_r 1, iv_c (1 + (h 1 2))]) (rest := []) (lo1 := [x_r 1, iv_c (1 + (h 1 2))]) (by decide +kernel) (by decide) (by decide +kernel) (x_rb_of (by decide +kernel)) rfl rfl (x_wr (by decide) (x_wi (by first | decide | omega) x_wn)) x_wn (by decide) rfl (c80_1 hJ  (by first | decide | omega) hT) (fun h81 q80 => ?_)
          obtain ⟨j82, f83, c86, c87⟩ := q80
          have f88 := Fr.trans hF f83 (by decide)
          have b89 := jB (e := 2) 0 j82 rg_1_2_0_1 (by first | decide | omega) (by first | decide | omega)
          refine x_iload (np := 89) (x := 3) (by decide +kernel) rfl (by first | decide | omega) ?_
          have z90 := hT.1
          have z91 := Tp.at (p := (h 1 2 + 0)) (u := u19) hT (by first | decide | omega) (by first | decide | omega)
          have g92 : Dg tB tN (h 1 2 + 0) := ⟨by first | decide | omega, by first | decide | omega, by first | decide | omega⟩
          have z93 := hT.1
          have g94 : ¬ Dg tB tN (h 1 2 + 1) := fun z => by have z1 := z.1; have z2 := z.2.1; have z3 := z.2.2; omega
          have z95 := nv1 (B := tB) (p := h 1 2)
          refine x_retI (np := 90) (x := 0) (by decide +kernel) (by first | decide | omega) (Or.inl (by decide +kernel)) ⟨_, rfl, (by first | decide | omega), ?_⟩
          exact ⟨j82, f88, (by first | decide | omega), (by first | decide | omega), (fun z => by first | decide | omega), (fun z => by first | decide | omega), (Nr.yes (Nu.mk1 g92 g94) (by first | decide | omega) (by first | decide | omega) (by first | decide | omega) c87 (by first | decide | omega))⟩
        have q76 : ¬ (v51 ≤ a2) := q76
        exfalso; omega
      have q62 : ¬ (2147483648 = 2147483648) := q62
      exfalso; omega
    have q60 : ¬ (2147483647 < 2147483696) := q60
    exfalso; omega
  have q58 : ¬ ((h 1 1) ≤ (1 + (h 1 2))) := q58
  refine x_aload (np := 9) (x := 0) (by decide +kernel) rfl (x_nc_le (by decide)) ?_
  have q96 : h 1 0 = 2 := by have z := jB (e := 0) 0 hJ rg_1_0_0_1 (by decide) (by decide); omega
  refine x_getR (np := 12) (x := 448) (f := 0) (q := 2) (by decide +kernel) (by decide) (by decide +kernel) q96 ?_
  refine x_iload (np := 13) (x := 1) (by decide +kernel) rfl (by first | decide | omega) ?_
  refine x_aldC (np := 14) (x := 0) (n := 400) (i := (1 + u19)) (q := (h 2 (1 + u19))) (by decide +kernel) (by decide +kernel) (by first | decide | omega) (by first | decide | omega) (by decide) rfl (fun l97 => ?_)
  refine x_goto (np := 17) (x := 18) (by decide +kernel) ?_
  refine x_retI (np := 19) (x := 0) (by decide +kernel) l97 (Or.inl (by decide +kernel)) ⟨_, rfl, l97, ?_⟩
  refine x_nI (t := 0) (mj := 82) (n := 1) (rc := 0) (ml := 1) (nr := 0) (np := 25) (as := [iv_c (h 2 (1 + u19))]) (rest := []) (lo1 := [iv_c (h 2 (1 + u19))]) (by decide +kernel) (by decide) (by decide +kernel) (Or.inl rfl) rfl rfl (x_wi l97 x_wn) x_wn (by decide) rfl ?_
  refine x_iload (np := 1) (x := 0) (by decide +kernel) rfl l97 ?_
  refine x_const (np := 3) (x := 9223372245160689712) (a := 2147483696) (by decide +kernel) (by decide) (by decide) ?_
  refine x_icmp (k := 2) (tg := 16) (np := 6) (by decide +kernel) (by decide) l97 (by decide) (fun q98 => ?_) (fun q99 => ?_)
  · have q98 : (h 2 (1 + u19)) < 2147483696 := q98
    refine x_const (np := 17) (x := 9223372039002259456) (a := 2147483648) (by decide +kernel) (by decide) (by decide) ?_
    refine x_retI (np := 18) (x := 0) (by decide +kernel) (by decide) (Or.inr ⟨by decide +kernel, by first | decide | omega, by first | decide | omega⟩) ⟨_, rfl, (by decide), ?_⟩
    refine x_ifz (k := 0) (tg := 54) (np := 28) (by decide +kernel) (by decide) (by decide) (fun q100 => ?_) (fun q101 => ?_)
    · have q100 : 2147483648 = 2147483648 := q100
      refine x_iload (np := 56) (x := 4) (by decide +kernel) rfl (by decide) ?_
      refine x_ifz (k := 0) (tg := 75) (np := 59) (by decide +kernel) (by decide) (by decide) (fun q102 => ?_) (fun q103 => ?_)
      · have q102 : 2147483649 = 2147483648 := q102
        exfalso; omega
      have q103 : ¬ (2147483649 = 2147483648) := q103
      refine x_iload (np := 61) (x := 4) (by decide +kernel) rfl (by decide) ?_
      refine x_const (np := 62) (x := 9223372051887161347) (a := 2147483651) (by decide +kernel) (by decide) (by decide) ?_
      refine x_icmp (k := 4) (tg := 75) (np := 65) (by decide +kernel) (by decide) (by decide) (by decide) (fun q104 => ?_) (fun q105 => ?_)
      · have q104 : 2147483651 < 2147483649 := q104
        exfalso; omega
      have q105 : ¬ (2147483651 < 2147483649) := q105
      refine x_iload (np := 66) (x := 3) (by decide +kernel) rfl (by first | decide | omega) ?_
      refine x_iload (np := 67) (x := 1) (by decide +kernel) rfl la1 ?_
      refine x_icmp (k := 2) (tg := 75) (np := 70) (by decide +kernel) (by decide) (by first | decide | omega) la1 (fun q106 => ?_) (fun q107 => ?_)
      · have q106 : v51 < a1 := q106
        refine x_const (np := 76) (x := 9223372034707292159) (a := 2147483647) (by decide +kernel) (by decide) (by decide) ?_
        have z108 := hT.1
        have z109 := Tp.at (p := (h 1 2 + 0)) (u := u19) hT (by first | decide | omega) (by first | decide | omega)
        have g110 : Dg tB tN (h 1 2 + 0) := ⟨by first | decide | omega, by first | decide | omega, by first | decide | omega⟩
        have z111 := hT.1
        have z112 := Tp.at (p := (h 1 2 + 1)) (u := (1 + u19)) hT (by first | decide | omega) (by first | decide | omega)
        have g113 : ¬ Dg tB tN (h 1 2 + 1) := fun z => by have z1 := z.1; have z2 := z.2.1; have z3 := z.2.2; omega
        have z114 := nv1 (B := tB) (p := h 1 2)
        refine x_retI (np := 77) (x := 0) (by decide +kernel) (by decide) (Or.inl (by decide +kernel)) ⟨_, rfl, (by decide), ?_⟩
        exact ⟨hJ, hF, (by first | decide | omega), (by first | decide | omega), (fun z => by first | decide | omega), (fun z => by first | decide | omega), (Nr.nor (by first | decide | omega) (Nu.mk1 g110 g113) (by first | decide | omega))⟩
      have q107 : ¬ (v51 < a1) := q107
      refine x_iload (np := 71) (x := 3) (by decide +kernel) rfl (by first | decide | omega) ?_
      refine x_iload (np := 72) (x := 2) (by decide +kernel) rfl la2 ?_
      refine x_icmp (k := 5) (tg := 77) (np := 75) (by decide +kernel) (by decide) (by first | decide | omega) la2 (fun q115 => ?_) (fun q116 => ?_)
      · have q115 : v51 ≤ a2 := q115
        refine x_aload (np := 78) (x := 0) (by decide +kernel) rfl (x_nc_le (by decide)) ?_
        refine x_aload (np := 79) (x := 0) (by decide +kernel) rfl (x_nc_le (by decide)) ?_
        refine x_getC (np := 82) (x := 450) (f := 2) (q := (h 1 2)) (by decide +kernel) (by decide) (by decide +kernel) rfl (fun l117 => ?_)
        refine x_iload (np := 84) (x := 4) (by decide +kernel) rfl (by decide) ?_
        refine x_iadd (np := 85) (x := 0) (v := (1 + (h 1 2))) (by decide +kernel) l4 (by decide) (by first | decide | omega) (by first | decide | omega) ?_
        refine x_cV (t := 6) (mj := 80) (n := 2) (rc := 8) (ml := 2) (nr := 0) (np := 88) (as := [x_r 1, iv_c (1 + (h 1 2))]) (rest := []) (lo1 := [x_r 1, iv_c (1 + (h 1 2))]) (by decide +kernel) (by decide) (by decide +kernel) (x_rb_of (by decide +kernel)) rfl rfl (x_wr (by decide) (x_wi (by first | decide | omega) x_wn)) x_wn (by decide) rfl (c80_1 hJ  (by first | decide | omega) hT) (fun h121 q120 => ?_)
        obtain ⟨j122, f123, c126, c127⟩ := q120
        have f128 := Fr.trans hF f123 (by decide)
        have b129 := jB (e := 2) 0 j122 rg_1_2_0_1 (by first | decide | omega) (by first | decide | omega)
        refine x_iload (np := 89) (x := 3) (by decide +kernel) rfl (by first | decide | omega) ?_
        have z130 := hT.1
        have z131 := Tp.at (p := (h 1 2 + 0)) (u := u19) hT (by first | decide | omega) (by first | decide | omega)
        have g132 : Dg tB tN (h 1 2 + 0) := ⟨by first | decide | omega, by first | decide | omega, by first | decide | omega⟩
        have z133 := hT.1
        have z134 := Tp.at (p := (h 1 2 + 1)) (u := (1 + u19)) hT (by first | decide | omega) (by first | decide | omega)
        have g135 : ¬ Dg tB tN (h 1 2 + 1) := fun z => by have z1 := z.1; have z2 := z.2.1; have z3 := z.2.2; omega
        have z136 := nv1 (B := tB) (p := h 1 2)
        refine x_retI (np := 90) (x := 0) (by decide +kernel) (by first | decide | omega) (Or.inl (by decide +kernel)) ⟨_, rfl, (by first | decide | omega), ?_⟩
        exact ⟨j122, f128, (by first | decide | omega), (by first | decide | omega), (fun z => by first | decide | omega), (fun z => by first | decide | omega), (Nr.yes (Nu.mk1 g132 g135) (by first | decide | omega) (by first | decide | omega) (by first | decide | omega) c127 (by first | decide | omega))⟩
      have q116 : ¬ (v51 ≤ a2) := q116
      exfalso; omega
    have q101 : ¬ (2147483648 = 2147483648) := q101
    exfalso; omega
  have q99 : ¬ ((h 2 (1 + u19)) < 2147483696) := q99
  refine x_iload (np := 7) (x := 0) (by decide +kernel) rfl l97 ?_
  refine x_const (np := 9) (x := 9223372283815395385) (a := 2147483705) (by decide +kernel) (by decide) (by decide) ?_
  refine x_icmp (k := 4) (tg := 16) (np := 12) (by decide +kernel) (by decide) l97 (by decide) (fun q137 => ?_) (fun q138 => ?_)
  · have q137 : 2147483705 < (h 2 (1 + u19)) := q137
    refine x_const (np := 17) (x := 9223372039002259456) (a := 2147483648) (by decide +kernel) (by decide) (by decide) ?_
    refine x_retI (np := 18) (x := 0) (by decide +kernel) (by decide) (Or.inr ⟨by decide +kernel, by first | decide | omega, by first | decide | omega⟩) ⟨_, rfl, (by decide), ?_⟩
    refine x_ifz (k := 0) (tg := 54) (np := 28) (by decide +kernel) (by decide) (by decide) (fun q139 => ?_) (fun q140 => ?_)
    · have q139 : 2147483648 = 2147483648 := q139
      refine x_iload (np := 56) (x := 4) (by decide +kernel) rfl (by decide) ?_
      refine x_ifz (k := 0) (tg := 75) (np := 59) (by decide +kernel) (by decide) (by decide) (fun q141 => ?_) (fun q142 => ?_)
      · have q141 : 2147483649 = 2147483648 := q141
        exfalso; omega
      have q142 : ¬ (2147483649 = 2147483648) := q142
      refine x_iload (np := 61) (x := 4) (by decide +kernel) rfl (by decide) ?_
      refine x_const (np := 62) (x := 9223372051887161347) (a := 2147483651) (by decide +kernel) (by decide) (by decide) ?_
      refine x_icmp (k := 4) (tg := 75) (np := 65) (by decide +kernel) (by decide) (by decide) (by decide) (fun q143 => ?_) (fun q144 => ?_)
      · have q143 : 2147483651 < 2147483649 := q143
        exfalso; omega
      have q144 : ¬ (2147483651 < 2147483649) := q144
      refine x_iload (np := 66) (x := 3) (by decide +kernel) rfl (by first | decide | omega) ?_
      refine x_iload (np := 67) (x := 1) (by decide +kernel) rfl la1 ?_
      refine x_icmp (k := 2) (tg := 75) (np := 70) (by decide +kernel) (by decide) (by first | decide | omega) la1 (fun q145 => ?_) (fun q146 => ?_)
      · have q145 : v51 < a1 := q145
        refine x_const (np := 76) (x := 9223372034707292159) (a := 2147483647) (by decide +kernel) (by decide) (by decide) ?_
        have z147 := hT.1
        have z148 := Tp.at (p := (h 1 2 + 0)) (u := u19) hT (by first | decide | omega) (by first | decide | omega)
        have g149 : Dg tB tN (h 1 2 + 0) := ⟨by first | decide | omega, by first | decide | omega, by first | decide | omega⟩
        have z150 := hT.1
        have z151 := Tp.at (p := (h 1 2 + 1)) (u := (1 + u19)) hT (by first | decide | omega) (by first | decide | omega)
        have g152 : ¬ Dg tB tN (h 1 2 + 1) := fun z => by have z1 := z.1; have z2 := z.2.1; have z3 := z.2.2; omega
        have z153 := nv1 (B := tB) (p := h 1 2)
        refine x_retI (np := 77) (x := 0) (by decide +kernel) (by decide) (Or.inl (by decide +kernel)) ⟨_, rfl, (by decide), ?_⟩
        exact ⟨hJ, hF, (by first | decide | omega), (by first | decide | omega), (fun z => by first | decide | omega), (fun z => by first | decide | omega), (Nr.nor (by first | decide | omega) (Nu.mk1 g149 g152) (by first | decide | omega))⟩
      have q146 : ¬ (v51 < a1) := q146
      refine x_iload (np := 71) (x := 3) (by decide +kernel) rfl (by first | decide | omega) ?_
      refine x_iload (np := 72) (x := 2) (by decide +kernel) rfl la2 ?_
      refine x_icmp (k := 5) (tg := 77) (np := 75) (by decide +kernel) (by decide) (by first | decide | omega) la2 (fun q154 => ?_) (fun q155 => ?_)
      · have q154 : v51 ≤ a2 := q154
        refine x_aload (np := 78) (x := 0) (by decide +kernel) rfl (x_nc_le (by decide)) ?_
        refine x_aload (np := 79) (x := 0) (by decide +kernel) rfl (x_nc_le (by decide)) ?_
        refine x_getC (np := 82) (x := 450) (f := 2) (q := (h 1 2)) (by decide +kernel) (by decide) (by decide +kernel) rfl (fun l156 => ?_)
        refine x_iload (np := 84) (x := 4) (by decide +kernel) rfl (by decide) ?_
        refine x_iadd (np := 85) (x := 0) (v := (1 + (h 1 2))) (by decide +kernel) l4 (by decide) (by first | decide | omega) (by first | decide | omega) ?_
        refine x_cV (t := 6) (mj := 80) (n := 2) (rc := 8) (ml := 2) (nr := 0) (np := 88) (as := [x_r 1, iv_c (1 + (h 1 2))]) (rest := []) (lo1 := [x_r 1, iv_c (1 + (h 1 2))]) (by decide +kernel) (by decide) (by decide +kernel) (x_rb_of (by decide +kernel)) rfl rfl (x_wr (by decide) (x_wi (by first | decide | omega) x_wn)) x_wn (by decide) rfl (c80_1 hJ  (by first | decide | omega) hT) (fun h160 q159 => ?_)
        obtain ⟨j161, f162, c165, c166⟩ := q159
        have f167 := Fr.trans hF f162 (by decide)
        have b168 := jB (e := 2) 0 j161 rg_1_2_0_1 (by first | decide | omega) (by first | decide | omega)
        refine x_iload (np := 89) (x := 3) (by decide +kernel) rfl (by first | decide | omega) ?_
        have z169 := hT.1
        have z170 := Tp.at (p := (h 1 2 + 0)) (u := u19) hT (by first | decide | omega) (by first | decide | omega)
        have g171 : Dg tB tN (h 1 2 + 0) := ⟨by first | decide | omega, by first | decide | omega, by first | decide | omega⟩
        have z172 := hT.1
        have z173 := Tp.at (p := (h 1 2 + 1)) (u := (1 + u19)) hT (by first | decide | omega) (by first | decide | omega)
        have g174 : ¬ Dg tB tN (h 1 2 + 1) := fun z => by have z1 := z.1; have z2 := z.2.1; have z3 := z.2.2; omega
        have z175 := nv1 (B := tB) (p := h 1 2)
        refine x_retI (np := 90) (x := 0) (by decide +kernel) (by first | decide | omega) (Or.inl (by decide +kernel)) ⟨_, rfl, (by first | decide | omega), ?_⟩
        exact ⟨j161, f167, (by first | decide | omega), (by first | decide | omega), (fun z => by first | decide | omega), (fun z => by first | decide | omega), (Nr.yes (Nu.mk1 g171 g174) (by first | decide | omega) (by first | decide | omega) (by first | decide | omega) c166 (by first | decide | omega))⟩
      have q155 : ¬ (v51 ≤ a2) := q155
      exfalso; omega
    have q140 : ¬ (2147483648 = 2147483648) := q140
    exfalso; omega
  have q138 : ¬ (2147483705 < (h 2 (1 + u19))) := q138
  refine x_const (np := 13) (x := 9223372043297226753) (a := 2147483649) (by decide +kernel) (by decide) (by decide) ?_
  refine x_goto (np := 16) (x := 17) (by decide +kernel) ?_
  refine x_retI (np := 18) (x := 0) (by decide +kernel) (by decide) (Or.inr ⟨by decide +kernel, by first | decide | omega, by first | decide | omega⟩) ⟨_, rfl, (by decide), ?_⟩
  refine x_ifz (k := 0) (tg := 54) (np := 28) (by decide +kernel) (by decide) (by decide) (fun q176 => ?_) (fun q177 => ?_)
  · have q176 : 2147483649 = 2147483648 := q176
    exfalso; omega
  have q177 : ¬ (2147483649 = 2147483648) := q177
  refine x_iload (np := 29) (x := 3) (by decide +kernel) rfl (by first | decide | omega) ?_
  refine x_const (np := 31) (x := 9223372081951932426) (a := 2147483658) (by decide +kernel) (by decide) (by decide) ?_
  obtain ⟨u178, q179⟩ : ∃ z, v51 = 2147483648 + z := ⟨v51 - 2147483648, by first | decide | omega⟩
  refine x_imul (np := 32) (x := 0) (i := u178) (j := 10) (v := (2147483648 + 10 * u178)) (by decide +kernel) (by first | decide | omega) (by first | decide | omega) (by first | decide | omega) (by first | decide | omega) (by first | decide | omega) (by decide) ?_
  refine x_aload (np := 33) (x := 0) (by decide +kernel) rfl (x_nc_le (by decide)) ?_
  refine x_aload (np := 34) (x := 0) (by decide +kernel) rfl (x_nc_le (by decide)) ?_
  refine x_getC (np := 37) (x := 450) (f := 2) (q := (h 1 2)) (by decide +kernel) (by decide) (by decide +kernel) rfl (fun l181 => ?_)
  refine x_iload (np := 39) (x := 4) (by decide +kernel) rfl (by decide) ?_
  refine x_iadd (np := 40) (x := 0) (v := (1 + (h 1 2))) (by decide +kernel) l4 (by decide) (by first | decide | omega) (by first | decide | omega) ?_
  refine x_nI (t := 6) (mj := 81) (n := 2) (rc := 8) (ml := 2) (nr := 1) (np := 43) (as := [x_r 1, iv_c (1 + (h 1 2))]) (rest := [iv_c (2147483648 + 10 * u178)]) (lo1 := [x_r 1, iv_c (1 + (h 1 2))]) (by decide +kernel) (by decide) (by decide +kernel) (x_rb_of (by decide +kernel)) rfl rfl (x_wr (by decide) (x_wi (by first | decide | omega) x_wn)) (x_wi (by first | decide | omega) x_wn) (by decide) rfl ?_
  refine x_iload (np := 1) (x := 1) (by decide +kernel) rfl (by first | decide | omega) ?_
  refine x_aload (np := 2) (x := 0) (by decide +kernel) rfl (x_nc_le (by decide)) ?_
  refine x_getC (np := 5) (x := 449) (f := 1) (q := (h 1 1)) (by decide +kernel) (by decide) (by decide +kernel) rfl (fun l182 => ?_)
  refine x_icmp (k := 3) (tg := 17) (np := 8) (by decide +kernel) (by decide) (by first | decide | omega) l6 (fun q183 => ?_) (fun q184 => ?_)
  · have q183 : (h 1 1) ≤ (1 + (h 1 2)) := q183
    exfalso; omega
  have q184 : ¬ ((h 1 1) ≤ (1 + (h 1 2))) := q184
  refine x_aload (np := 9) (x := 0) (by decide +kernel) rfl (x_nc_le (by decide)) ?_
  have q185 : h 1 0 = 2 := by have z := jB (e := 0) 0 hJ rg_1_0_0_1 (by decide) (by decide); omega
  refine x_getR (np := 12) (x := 448) (f := 0) (q := 2) (by decide +kernel) (by decide) (by decide +kernel) q185 ?_
  refine x_iload (np := 13) (x := 1) (by decide +kernel) rfl (by first | decide | omega) ?_
  refine x_aldC (np := 14) (x := 0) (n := 400) (i := (1 + u19)) (q := (h 2 (1 + u19))) (by decide +kernel) (by decide +kernel) (by first | decide | omega) (by first | decide | omega) (by decide) rfl (fun l186 => ?_)
  refine x_goto (np := 17) (x := 18) (by decide +kernel) ?_
  refine x_retI (np := 19) (x := 0) (by decide +kernel) l97 (Or.inl (by decide +kernel)) ⟨_, rfl, l97, ?_⟩
  refine x_iadd (np := 44) (x := 0) (v := (10 * u178 + (h 2 (1 + u19)))) (by decide +kernel) (by first | decide | omega) l97 (by first | decide | omega) (by first | decide | omega) ?_
  refine x_const (np := 46) (x := 9223372245160689712) (a := 2147483696) (by decide +kernel) (by decide) (by decide) ?_
  obtain ⟨v187, q188⟩ : ∃ z, z + 2147483696 = (10 * u178 + (h 2 (1 + u19))) + 2147483648 := ⟨(10 * u178 + (h 2 (1 + u19))) + 2147483648 - 2147483696, by first | decide | omega⟩
  refine x_isub (np := 47) (x := 0) (v := v187) (by decide +kernel) (by first | decide | omega) (by decide) (by first | decide | omega) (by first | decide | omega) ?_
  refine x_istore (np := 48) (x := 3) (lo' := [x_r 1, iv_c a1, iv_c a2, iv_c v187, iv_c 2147483649]) (by decide +kernel) (by first | decide | omega) (Nat.le_of_ble_eq_true rfl) rfl ?_
  refine x_iinc (np := 51) (i := 4) (j := 2147483649) (v := 2147483650) (lo' := [x_r 1, iv_c a1, iv_c a2, iv_c v187, iv_c 2147483650]) (by decide +kernel) (by decide) (by decide) rfl (by decide) (by first | decide | omega) (by first | decide | omega) rfl ?_
  refine x_goto (np := 54) (x := 5) (by decide +kernel) ?_
  refine x_iload (np := 7) (x := 4) (by decide +kernel) rfl (by decide) ?_
  refine x_const (np := 8) (x := 9223372051887161347) (a := 2147483651) (by decide +kernel) (by decide) (by decide) ?_
  refine x_icmp (k := 4) (tg := 54) (np := 11) (by decide +kernel) (by decide) (by decide) (by decide) (fun q189 => ?_) (fun q190 => ?_)
  · have q189 : 2147483651 < 2147483650 := q189
    exfalso; omega
  have q190 : ¬ (2147483651 < 2147483650) := q190
  refine x_aload (np := 12) (x := 0) (by decide +kernel) rfl (x_nc_le (by decide)) ?_
  refine x_aload (np := 13) (x := 0) (by decide +kernel) rfl (x_nc_le (by decide)) ?_
  refine x_getC (np := 16) (x := 450) (f := 2) (q := (h 1 2)) (by decide +kernel) (by decide) (by decide +kernel) rfl (fun l191 => ?_)
  refine x_iload (np := 18) (x := 4) (by decide +kernel) rfl (by decide) ?_
  refine x_iadd (np := 19) (x := 0) (v := (2 + (h 1 2))) (by decide +kernel) l4 (by decide) (by first | decide | omega) (by first | decide | omega) ?_
  refine x_nI (t := 6) (mj := 81) (n := 2) (rc := 8) (ml := 2) (nr := 0) (np := 22) (as := [x_r 1, iv_c (2 + (h 1 2))]) (rest := []) (lo1 := [x_r 1, iv_c (2 + (h 1 2))]) (by decide +kernel) (by decide) (by decide +kernel) (x_rb_of (by decide +kernel)) rfl rfl (x_wr (by decide) (x_wi (by first | decide | omega) x_wn)) x_wn (by decide) rfl ?_
  refine x_iload (np := 1) (x := 1) (by decide +kernel) rfl (by first | decide | omega) ?_
  refine x_aload (np := 2) (x := 0) (by decide +kernel) rfl (x_nc_le (by decide)) ?_
  refine x_getC (np := 5) (x := 449) (f := 1) (q := (h 1 1)) (by decide +kernel) (by decide) (by decide +kernel) rfl (fun l192 => ?_)
  refine x_icmp (k := 3) (tg := 17) (np := 8) (by decide +kernel) (by decide) (by first | decide | omega) l6 (fun q193 => ?_) (fun q194 => ?_)
  · have q193 : (h 1 1) ≤ (2 + (h 1 2)) := q193
    refine x_const (np := 18) (x := 9223372034707292159) (a := 2147483647) (by decide +kernel) (by decide) (by decide) ?_
    refine x_retI (np := 19) (x := 0) (by decide +kernel) (by decide) (Or.inl (by decide +kernel)) ⟨_, rfl, (by decide), ?_⟩
    refine x_nI (t := 0) (mj := 82) (n := 1) (rc := 0) (ml := 1) (nr := 0) (np := 25) (as := [iv_c 2147483647]) (rest := []) (lo1 := [iv_c 2147483647]) (by decide +kernel) (by decide) (by decide +kernel) (Or.inl rfl) rfl rfl (x_wi (by decide) x_wn) x_wn (by decide) rfl ?_
    refine x_iload (np := 1) (x := 0) (by decide +kernel) rfl (by decide) ?_
    refine x_const (np := 3) (x := 9223372245160689712) (a := 2147483696) (by decide +kernel) (by decide) (by decide) ?_
    refine x_icmp (k := 2) (tg := 16) (np := 6) (by decide +kernel) (by decide) (by decide) (by decide) (fun q195 => ?_) (fun q196 => ?_)
    · have q195 : 2147483647 < 2147483696 := q195
      refine x_const (np := 17) (x := 9223372039002259456) (a := 2147483648) (by decide +kernel) (by decide) (by decide) ?_
      refine x_retI (np := 18) (x := 0) (by decide +kernel) (by decide) (Or.inr ⟨by decide +kernel, by first | decide | omega, by first | decide | omega⟩) ⟨_, rfl, (by decide), ?_⟩
      refine x_ifz (k := 0) (tg := 54) (np := 28) (by decide +kernel) (by decide) (by decide) (fun q197 => ?_) (fun q198 => ?_)
      · have q197 : 2147483648 = 2147483648 := q197
        refine x_iload (np := 56) (x := 4) (by decide +kernel) rfl (by decide) ?_
        refine x_ifz (k := 0) (tg := 75) (np := 59) (by decide +kernel) (by decide) (by decide) (fun q199 => ?_) (fun q200 => ?_)
        · have q199 : 2147483650 = 2147483648 := q199
          exfalso; omega
        have q200 : ¬ (2147483650 = 2147483648) := q200
        refine x_iload (np := 61) (x := 4) (by decide +kernel) rfl (by decide) ?_
        refine x_const (np := 62) (x := 9223372051887161347) (a := 2147483651) (by decide +kernel) (by decide) (by decide) ?_
        refine x_icmp (k := 4) (tg := 75) (np := 65) (by decide +kernel) (by decide) (by decide) (by decide) (fun q201 => ?_) (fun q202 => ?_)
        · have q201 : 2147483651 < 2147483650 := q201
          exfalso; omega
        have q202 : ¬ (2147483651 < 2147483650) := q202
        refine x_iload (np := 66) (x := 3) (by decide +kernel) rfl (by first | decide | omega) ?_
        refine x_iload (np := 67) (x := 1) (by decide +kernel) rfl la1 ?_
        refine x_icmp (k := 2) (tg := 75) (np := 70) (by decide +kernel) (by decide) (by first | decide | omega) la1 (fun q203 => ?_) (fun q204 => ?_)
        · have q203 : v187 < a1 := q203
          refine x_const (np := 76) (x := 9223372034707292159) (a := 2147483647) (by decide +kernel) (by decide) (by decide) ?_
          have z205 := hT.1
          have z206 := Tp.at (p := (h 1 2 + 0)) (u := u19) hT (by first | decide | omega) (by first | decide | omega)
          have g207 : Dg tB tN (h 1 2 + 0) := ⟨by first | decide | omega, by first | decide | omega, by first | decide | omega⟩
          have z208 := Tp.at (p := (h 1 2 + 1)) (u := (1 + u19)) hT (by first | decide | omega) (by first | decide | omega)
          have g209 : Dg tB tN (h 1 2 + 1) := ⟨by first | decide | omega, by first | decide | omega, by first | decide | omega⟩
          have z210 := hT.1
          have g211 : ¬ Dg tB tN (h 1 2 + 2) := fun z => by have z1 := z.1; have z2 := z.2.1; have z3 := z.2.2; omega
          have z212 := nv2 (B := tB) (p := h 1 2)
          refine x_retI (np := 77) (x := 0) (by decide +kernel) (by decide) (Or.inl (by decide +kernel)) ⟨_, rfl, (by decide), ?_⟩
          exact ⟨hJ, hF, (by first | decide | omega), (by first | decide | omega), (fun z => by first | decide | omega), (fun z => by first | decide | omega), (Nr.nor (by first | decide | omega) (Nu.mk2 g207 g209 g211) (by first | decide | omega))⟩
        have q204 : ¬ (v187 < a1) := q204
        refine x_iload (np := 71) (x := 3) (by decide +kernel) rfl (by first | decide | omega) ?_
        refine x_iload (np := 72) (x := 2) (by decide +kernel) rfl la2 ?_
        refine x_icmp (k := 5) (tg := 77) (np := 75) (by decide +kernel) (by decide) (by first | decide | omega) la2 (fun q213 => ?_) (fun q214 => ?_)
        · have q213 : v187 ≤ a2 := q213
          refine x_aload (np := 78) (x := 0) (by decide +kernel) rfl (x_nc_le (by decide)) ?_
          refine x_aload (np := 79) (x := 0) (by decide +kernel) rfl (x_nc_le (by decide)) ?_
          refine x_getC (np := 82) (x := 450) (f := 2) (q := (h 1 2)) (by decide +kernel) (by decide) (by decide +kernel) rfl (fun l215 => ?_)
          refine x_iload (np := 84) (x := 4) (by decide +kernel) rfl (by decide) ?_
          refine x_iadd (np := 85) (x := 0) (v := (2 + (h 1 2))) (by decide +kernel) l4 (by decide) (by first | decide | omega) (by first | decide | omega) ?_
          refine x_cV (t := 6) (mj := 80) (n := 2) (rc := 8) (ml := 2) (nr := 0) (np := 88) (as := [x_r 1, iv_c (2 + (h 1 2))]) (rest := []) (lo1 := [x_r 1, iv_c (2 + (h 1 2))]) (by decide +kernel) (by decide) (by decide +kernel) (x_rb_of (by decide +kernel)) rfl rfl (x_wr (by decide) (x_wi (by first | decide | omega) x_wn)) x_wn (by decide) rfl (c80_1 hJ  (by first | decide | omega) hT) (fun h219 q218 => ?_)
          obtain ⟨j220, f221, c224, c225⟩ := q218
          have f226 := Fr.trans hF f221 (by decide)
          have b227 := jB (e := 2) 0 j220 rg_1_2_0_1 (by first | decide | omega) (by first | decide | omega)
          refine x_iload (np := 89) (x := 3) (by decide +kernel) rfl (by first | decide | omega) ?_
          have z228 := hT.1
          have z229 := Tp.at (p := (h 1 2 + 0)) (u := u19) hT (by first | decide | omega) (by first | decide | omega)
          have g230 : Dg tB tN (h 1 2 + 0) := ⟨by first | decide | omega, by first | decide | omega, by first | decide | omega⟩
          have z231 := Tp.at (p := (h 1 2 + 1)) (u := (1 + u19)) hT (by first | decide | omega) (by first | decide | omega)
          have g232 : Dg tB tN (h 1 2 + 1) := ⟨by first | decide | omega, by first | decide | omega, by first | decide | omega⟩
          have z233 := hT.1
          have g234 : ¬ Dg tB tN (h 1 2 + 2) := fun z => by have z1 := z.1; have z2 := z.2.1; have z3 := z.2.2; omega
          have z235 := nv2 (B := tB) (p := h 1 2)
          refine x_retI (np := 90) (x := 0) (by decide +kernel) (by first | decide | omega) (Or.inl (by decide +kernel)) ⟨_, rfl, (by first | decide | omega), ?_⟩
          exact ⟨j220, f226, (by first | decide | omega), (by first | decide | omega), (fun z => by first | decide | omega), (fun z => by first | decide | omega), (Nr.yes (Nu.mk2 g230 g232 g234) (by first | decide | omega) (by first | decide | omega) (by first | decide | omega) c225 (by first | decide | omega))⟩
        have q214 : ¬ (v187 ≤ a2) := q214
        refine x_const (np := 76) (x := 9223372034707292159) (a := 2147483647) (by decide +kernel) (by decide) (by decide) ?_
        have z236 := hT.1
        have z237 := Tp.at (p := (h 1 2 + 0)) (u := u19) hT (by first | decide | omega) (by first | decide | omega)
        have g238 : Dg tB tN (h 1 2 + 0) := ⟨by first | decide | omega, by first | decide | omega, by first | decide | omega⟩
        have z239 := Tp.at (p := (h 1 2 + 1)) (u := (1 + u19)) hT (by first | decide | omega) (by first | decide | omega)
        have g240 : Dg tB tN (h 1 2 + 1) := ⟨by first | decide | omega, by first | decide | omega, by first | decide | omega⟩
        have z241 := hT.1
        have g242 : ¬ Dg tB tN (h 1 2 + 2) := fun z => by have z1 := z.1; have z2 := z.2.1; have z3 := z.2.2; omega
        have z243 := nv2 (B := tB) (p := h 1 2)
        refine x_retI (np := 77) (x := 0) (by decide +kernel) (by decide) (Or.inl (by decide +kernel)) ⟨_, rfl, (by decide), ?_⟩
        exact ⟨hJ, hF, (by first | decide | omega), (by first | decide | omega), (fun z => by first | decide | omega), (fun z => by first | decide | omega), (Nr.nor (by first | decide | omega) (Nu.mk2 g238 g240 g242) (by first | decide | omega))⟩
      have q198 : ¬ (2147483648 = 2147483648) := q198
      exfalso; omega
    have q196 : ¬ (2147483647 < 2147483696) := q196
    exfalso; omega
  have q194 : ¬ ((h 1 1) ≤ (2 + (h 1 2))) := q194
  refine x_aload (np := 9) (x := 0) (by decide +kernel) rfl (x_nc_le (by decide)) ?_
  have q244 : h 1 0 = 2 := by have z := jB (e := 0) 0 hJ rg_1_0_0_1 (by decide) (by decide); omega
  refine x_getR (np := 12) (x := 448) (f := 0) (q := 2) (by decide +kernel) (by decide) (by decide +kernel) q244 ?_
  refine x_iload (np := 13) (x := 1) (by decide +kernel) rfl (by first | decide | omega) ?_
  refine x_aldC (np := 14) (x := 0) (n := 400) (i := (2 + u19)) (q := (h 2 (2 + u19))) (by decide +kernel) (by decide +kernel) (by first | decide | omega) (by first | decide | omega) (by decide) rfl (fun l245 => ?_)
  refine x_goto (np := 17) (x := 18) (by decide +kernel) ?_
  refine x_retI (np := 19) (x := 0) (by decide +kernel) l245 (Or.inl (by decide +kernel)) ⟨_, rfl, l245, ?_⟩
  refine x_nI (t := 0) (mj := 82) (n := 1) (rc := 0) (ml := 1) (nr := 0) (np := 25) (as := [iv_c (h 2 (2 + u19))]) (rest := []) (lo1 := [iv_c (h 2 (2 + u19))]) (by decide +kernel) (by decide) (by decide +kernel) (Or.inl rfl) rfl rfl (x_wi l245 x_wn) x_wn (by decide) rfl ?_
  refine x_iload (np := 1) (x := 0) (by decide +kernel) rfl l245 ?_
  refine x_const (np := 3) (x := 9223372245160689712) (a := 2147483696) (by decide +kernel) (by decide) (by decide) ?_
  refine x_icmp (k := 2) (tg := 16) (np := 6) (by decide +kernel) (by decide) l245 (by decide) (fun q246 => ?_) (fun q247 => ?_)
  · have q246 : (h 2 (2 + u19)) < 2147483696 := q246
    refine x_const (np := 17) (x := 9223372039002259456) (a := 2147483648) (by decide +kernel) (by decide) (by decide) ?_
    refine x_retI (np := 18) (x := 0) (by decide +kernel) (by decide) (Or.inr ⟨by decide +kernel, by first | decide | omega, by first | decide | omega⟩) ⟨_, rfl, (by decide), ?_⟩
    refine x_ifz (k := 0) (tg := 54) (np := 28) (by decide +kernel) (by decide) (by decide) (fun q248 => ?_) (fun q249 => ?_)
    · have q248 : 2147483648 = 2147483648 := q248
      refine x_iload (np := 56) (x := 4) (by decide +kernel) rfl (by decide) ?_
      refine x_ifz (k := 0) (tg := 75) (np := 59) (by decide +kernel) (by decide) (by decide) (fun q250 => ?_) (fun q251 => ?_)
      · have q250 : 2147483650 = 2147483648 := q250
        exfalso; omega
      have q251 : ¬ (2147483650 = 2147483648) := q251
      refine x_iload (np := 61) (x := 4) (by decide +kernel) rfl (by decide) ?_
      refine x_const (np := 62) (x := 9223372051887161347) (a := 2147483651) (by decide +kernel) (by decide) (by decide) ?_
      refine x_icmp (k := 4) (tg := 75) (np := 65) (by decide +kernel) (by decide) (by decide) (by decide) (fun q252 => ?_) (fun q253 => ?_)
      · have q252 : 2147483651 < 2147483650 := q252
        exfalso; omega
      have q253 : ¬ (2147483651 < 2147483650) := q253
      refine x_iload (np := 66) (x := 3) (by decide +kernel) rfl (by first | decide | omega) ?_
      refine x_iload (np := 67) (x := 1) (by decide +kernel) rfl la1 ?_
      refine x_icmp (k := 2) (tg := 75) (np := 70) (by decide +kernel) (by decide) (by first | decide | omega) la1 (fun q254 => ?_) (fun q255 => ?_)
      · have q254 : v187 < a1 := q254
        refine x_const (np := 76) (x := 9223372034707292159) (a := 2147483647) (by decide +kernel) (by decide) (by decide) ?_
        have z256 := hT.1
        have z257 := Tp.at (p := (h 1 2 + 0)) (u := u19) hT (by first | decide | omega) (by first | decide | omega)
        have g258 : Dg tB tN (h 1 2 + 0) := ⟨by first | decide | omega, by first | decide | omega, by first | decide | omega⟩
        have z259 := Tp.at (p := (h 1 2 + 1)) (u := (1 + u19)) hT (by first | decide | omega) (by first | decide | omega)
        have g260 : Dg tB tN (h 1 2 + 1) := ⟨by first | decide | omega, by first | decide | omega, by first | decide | omega⟩
        have z261 := hT.1
        have z262 := Tp.at (p := (h 1 2 + 2)) (u := (2 + u19)) hT (by first | decide | omega) (by first | decide | omega)
        have g263 : ¬ Dg tB tN (h 1 2 + 2) := fun z => by have z1 := z.1; have z2 := z.2.1; have z3 := z.2.2; omega
        have z264 := nv2 (B := tB) (p := h 1 2)
        refine x_retI (np := 77) (x := 0) (by decide +kernel) (by decide) (Or.inl (by decide +kernel)) ⟨_, rfl, (by decide), ?_⟩
        exact ⟨hJ, hF, (by first | decide | omega), (by first | decide | omega), (fun z => by first | decide | omega), (fun z => by first | decide | omega), (Nr.nor (by first | decide | omega) (Nu.mk2 g258 g260 g263) (by first | decide | omega))⟩
      have q255 : ¬ (v187 < a1) := q255
      refine x_iload (np := 71) (x := 3) (by decide +kernel) rfl (by first | decide | omega) ?_
      refine x_iload (np := 72) (x := 2) (by decide +kernel) rfl la2 ?_
      refine x_icmp (k := 5) (tg := 77) (np := 75) (by decide +kernel) (by decide) (by first | decide | omega) la2 (fun q265 => ?_) (fun q266 => ?_)
      · have q265 : v187 ≤ a2 := q265
        refine x_aload (np := 78) (x := 0) (by decide +kernel) rfl (x_nc_le (by decide)) ?_
        refine x_aload (np := 79) (x := 0) (by decide +kernel) rfl (x_nc_le (by decide)) ?_
        refine x_getC (np := 82) (x := 450) (f := 2) (q := (h 1 2)) (by decide +kernel) (by decide) (by decide +kernel) rfl (fun l267 => ?_)
        refine x_iload (np := 84) (x := 4) (by decide +kernel) rfl (by decide) ?_
        refine x_iadd (np := 85) (x := 0) (v := (2 + (h 1 2))) (by decide +kernel) l4 (by decide) (by first | decide | omega) (by first | decide | omega) ?_
        refine x_cV (t := 6) (mj := 80) (n := 2) (rc := 8) (ml := 2) (nr := 0) (np := 88) (as := [x_r 1, iv_c (2 + (h 1 2))]) (rest := []) (lo1 := [x_r 1, iv_c (2 + (h 1 2))]) (by decide +kernel) (by decide) (by decide +kernel) (x_rb_of (by decide +kernel)) rfl rfl (x_wr (by decide) (x_wi (by first | decide | omega) x_wn)) x_wn (by decide) rfl (c80_1 hJ  (by first | decide | omega) hT) (fun h271 q270 => ?_)
        obtain ⟨j272, f273, c276, c277⟩ := q270
        have f278 := Fr.trans hF f273 (by decide)
        have b279 := jB (e := 2) 0 j272 rg_1_2_0_1 (by first | decide | omega) (by first | decide | omega)
        refine x_iload (np := 89) (x := 3) (by decide +kernel) rfl (by first | decide | omega) ?_
        have z280 := hT.1
        have z281 := Tp.at (p := (h 1 2 + 0)) (u := u19) hT (by first | decide | omega) (by first | decide | omega)
        have g282 : Dg tB tN (h 1 2 + 0) := ⟨by first | decide | omega, by first | decide | omega, by first | decide | omega⟩
        have z283 := Tp.at (p := (h 1 2 + 1)) (u := (1 + u19)) hT (by first | decide | omega) (by first | decide | omega)
        have g284 : Dg tB tN (h 1 2 + 1) := ⟨by first | decide | omega, by first | decide | omega, by first | decide | omega⟩
        have z285 := hT.1
        have z286 := Tp.at (p := (h 1 2 + 2)) (u := (2 + u19)) hT (by first | decide | omega) (by first | decide | omega)
        have g287 : ¬ Dg tB tN (h 1 2 + 2) := fun z => by have z1 := z.1; have z2 := z.2.1; have z3 := z.2.2; omega
        have z288 := nv2 (B := tB) (p := h 1 2)
        refine x_retI (np := 90) (x := 0) (by decide +kernel) (by first | decide | omega) (Or.inl (by decide +kernel)) ⟨_, rfl, (by first | decide | omega), ?_⟩
        exact ⟨j272, f278, (by first | decide | omega), (by first | decide | omega), (fun z => by first | decide | omega), (fun z => by first | decide | omega), (Nr.yes (Nu.mk2 g282 g284 g287) (by first | decide | omega) (by first | decide | omega) (by first | decide | omega) c277 (by first | decide | omega))⟩
      have q266 : ¬ (v187 ≤ a2) := q266
      refine x_const (np := 76) (x := 9223372034707292159) (a := 2147483647) (by decide +kernel) (by decide) (by decide) ?_
      have z289 := hT.1
      have z290 := Tp.at (p := (h 1 2 + 0)) (u := u19) hT (by first | decide | omega) (by first | decide | omega)
      have g291 : Dg tB tN (h 1 2 + 0) := ⟨by first | decide | omega, by first | decide | omega, by first | decide | omega⟩
      have z292 := Tp.at (p := (h 1 2 + 1)) (u := (1 + u19)) hT (by first | decide | omega) (by first | decide | omega)
      have g293 : Dg tB tN (h 1 2 + 1) := ⟨by first | decide | omega, by first | decide | omega, by first | decide | omega⟩
      have z294 := hT.1
      have z295 := Tp.at (p := (h 1 2 + 2)) (u := (2 + u19)) hT (by first | decide | omega) (by first | decide | omega)
      have g296 : ¬ Dg tB tN (h 1 2 + 2) := fun z => by have z1 := z.1; have z2 := z.2.1; have z3 := z.2.2; omega
      have z297 := nv2 (B := tB) (p := h 1 2)
      refine x_retI (np := 77) (x := 0) (by decide +kernel) (by decide) (Or.inl (by decide +kernel)) ⟨_, rfl, (by decide), ?_⟩
      exact ⟨hJ, hF, (by first | decide | omega), (by first | decide | omega), (fun z => by first | decide | omega), (fun z => by first | decide | omega), (Nr.nor (by first | decide | omega) (Nu.mk2 g291 g293 g296) (by first | decide | omega))⟩
    have q249 : ¬ (2147483648 = 2147483648) := q249
    exfalso; omega
  have q247 : ¬ ((h 2 (2 + u19)) < 2147483696) := q247
  refine x_iload (np := 7) (x := 0) (by decide +kernel) rfl l245 ?_
  refine x_const (np := 9) (x := 9223372283815395385) (a := 2147483705) (by decide +kernel) (by decide) (by decide) ?_
  refine x_icmp (k := 4) (tg := 16) (np := 12) (by decide +kernel) (by decide) l245 (by decide) (fun q298 => ?_) (fun q299 => ?_)
  · have q298 : 2147483705 < (h 2 (2 + u19)) := q298
    refine x_const (np := 17) (x := 9223372039002259456) (a := 2147483648) (by decide +kernel) (by decide) (by decide) ?_
    refine x_retI (np := 18) (x := 0) (by decide +kernel) (by decide) (Or.inr ⟨by decide +kernel, by first | decide | omega, by first | decide | omega⟩) ⟨_, rfl, (by decide), ?_⟩
    refine x_ifz (k := 0) (tg := 54) (np := 28) (by decide +kernel) (by decide) (by decide) (fun q300 => ?_) (fun q301 => ?_)
    · have q300 : 2147483648 = 2147483648 := q300
      refine x_iload (np := 56) (x := 4) (by decide +kernel) rfl (by decide) ?_
      refine x_ifz (k := 0) (tg := 75) (np := 59) (by decide +kernel) (by decide) (by decide) (fun q302 => ?_) (fun q303 => ?_)
      · have q302 : 2147483650 = 2147483648 := q302
        exfalso; omega
      have q303 : ¬ (2147483650 = 2147483648) := q303
      refine x_iload (np := 61) (x := 4) (by decide +kernel) rfl (by decide) ?_
      refine x_const (np := 62) (x := 9223372051887161347) (a := 2147483651) (by decide +kernel) (by decide) (by decide) ?_
      refine x_icmp (k := 4) (tg := 75) (np := 65) (by decide +kernel) (by decide) (by decide) (by decide) (fun q304 => ?_) (fun q305 => ?_)
      · have q304 : 2147483651 < 2147483650 := q304
        exfalso; omega
      have q305 : ¬ (2147483651 < 2147483650) := q305
      refine x_iload (np := 66) (x := 3) (by decide +kernel) rfl (by first | decide | omega) ?_
      refine x_iload (np := 67) (x := 1) (by decide +kernel) rfl la1 ?_
      refine x_icmp (k := 2) (tg := 75) (np := 70) (by decide +kernel) (by decide) (by first | decide | omega) la1 (fun q306 => ?_) (fun q307 => ?_)
      · have q306 : v187 < a1 := q306
        refine x_const (np := 76) (x := 9223372034707292159) (a := 2147483647) (by decide +kernel) (by decide) (by decide) ?_
        have z308 := hT.1
        have z309 := Tp.at (p := (h 1 2 + 0)) (u := u19) hT (by first | decide | omega) (by first | decide | omega)
        have g310 : Dg tB tN (h 1 2 + 0) := ⟨by first | decide | omega, by first | decide | omega, by first | decide | omega⟩
        have z311 := Tp.at (p := (h 1 2 + 1)) (u := (1 + u19)) hT (by first | decide | omega) (by first | decide | omega)
        have g312 : Dg tB tN (h 1 2 + 1) := ⟨by first | decide | omega, by first | decide | omega, by first | decide | omega⟩
        have z313 := hT.1
        have z314 := Tp.at (p := (h 1 2 + 2)) (u := (2 + u19)) hT (by first | decide | omega) (by first | decide | omega)
        have g315 : ¬ Dg tB tN (h 1 2 + 2) := fun z => by have z1 := z.1; have z2 := z.2.1; have z3 := z.2.2; omega
        have z316 := nv2 (B := tB) (p := h 1 2)
        refine x_retI (np := 77) (x := 0) (by decide +kernel) (by decide) (Or.inl (by decide +kernel)) ⟨_, rfl, (by decide), ?_⟩
        exact ⟨hJ, hF, (by first | decide | omega), (by first | decide | omega), (fun z => by first | decide | omega), (fun z => by first | decide | omega), (Nr.nor (by first | decide | omega) (Nu.mk2 g310 g312 g315) (by first | decide | omega))⟩
      have q307 : ¬ (v187 < a1) := q307
      refine x_iload (np := 71) (x := 3) (by decide +kernel) rfl (by first | decide | omega) ?_
      refine x_iload (np := 72) (x := 2) (by decide +kernel) rfl la2 ?_
      refine x_icmp (k := 5) (tg := 77) (np := 75) (by decide +kernel) (by decide) (by first | decide | omega) la2 (fun q317 => ?_) (fun q318 => ?_)
      · have q317 : v187 ≤ a2 := q317
        refine x_aload (np := 78) (x := 0) (by decide +kernel) rfl (x_nc_le (by decide)) ?_
        refine x_aload (np := 79) (x := 0) (by decide +kernel) rfl (x_nc_le (by decide)) ?_
        refine x_getC (np := 82) (x := 450) (f := 2) (q := (h 1 2)) (by decide +kernel) (by decide) (by decide +kernel) rfl (fun l319 => ?_)
        refine x_iload (np := 84) (x := 4) (by decide +kernel) rfl (by decide) ?_
        refine x_iadd (np := 85) (x := 0) (v := (2 + (h 1 2))) (by decide +kernel) l4 (by decide) (by first | decide | omega) (by first | decide | omega) ?_
        refine x_cV (t := 6) (mj := 80) (n := 2) (rc := 8) (ml := 2) (nr := 0) (np := 88) (as := [x_r 1, iv_c (2 + (h 1 2))]) (rest := []) (lo1 := [x_r 1, iv_c (2 + (h 1 2))]) (by decide +kernel) (by decide) (by decide +kernel) (x_rb_of (by decide +kernel)) rfl rfl (x_wr (by decide) (x_wi (by first | decide | omega) x_wn)) x_wn (by decide) rfl (c80_1 hJ  (by first | decide | omega) hT) (fun h323 q322 => ?_)
        obtain ⟨j324, f325, c328, c329⟩ := q322
        have f330 := Fr.trans hF f325 (by decide)
        have b331 := jB (e := 2) 0 j324 rg_1_2_0_1 (by first | decide | omega) (by first | decide | omega)
        refine x_iload (np := 89) (x := 3) (by decide +kernel) rfl (by first | decide | omega) ?_
        have z332 := hT.1
        have z333 := Tp.at (p := (h 1 2 + 0)) (u := u19) hT (by first | decide | omega) (by first | decide | omega)
        have g334 : Dg tB tN (h 1 2 + 0) := ⟨by first | decide | omega, by first | decide | omega, by first | decide | omega⟩
        have z335 := Tp.at (p := (h 1 2 + 1)) (u := (1 + u19)) hT (by first | decide | omega) (by first | decide | omega)
        have g336 : Dg tB tN (h 1 2 + 1) := ⟨by first | decide | omega, by first | decide | omega, by first | decide | omega⟩
        have z337 := hT.1
        have z338 := Tp.at (p := (h 1 2 + 2)) (u := (2 + u19)) hT (by first | decide | omega) (by first | decide | omega)
        have g339 : ¬ Dg tB tN (h 1 2 + 2) := fun z => by have z1 := z.1; have z2 := z.2.1; have z3 := z.2.2; omega
        have z340 := nv2 (B := tB) (p := h 1 2)
        refine x_retI (np := 90) (x := 0) (by decide +kernel) (by first | decide | omega) (Or.inl (by decide +kernel)) ⟨_, rfl, (by first | decide | omega), ?_⟩
        exact ⟨j324, f330, (by first | decide | omega), (by first | decide | omega), (fun z => by first | decide | omega), (fun z => by first | decide | omega), (Nr.yes (Nu.mk2 g334 g336 g339) (by first | decide | omega) (by first | decide | omega) (by first | decide | omega) c329 (by first | decide | omega))⟩
      have q318 : ¬ (v187 ≤ a2) := q318
      refine x_const (np := 76) (x := 9223372034707292159) (a := 2147483647) (by decide +kernel) (by decide) (by decide) ?_
      have z341 := hT.1
      have z342 := Tp.at (p := (h 1 2 + 0)) (u := u19) hT (by first | decide | omega) (by first | decide | omega)
      have g343 : Dg tB tN (h 1 2 + 0) := ⟨by first | decide | omega, by first | decide | omega, by first | decide | omega⟩
      have z344 := Tp.at (p := (h 1 2 + 1)) (u := (1 + u19)) hT (by first | decide | omega) (by first | decide | omega)
      have g345 : Dg tB tN (h 1 2 + 1) := ⟨by first | decide | omega, by first | decide | omega, by first | decide | omega⟩
      have z346 := hT.1
      have z347 := Tp.at (p := (h 1 2 + 2)) (u := (2 + u19)) hT (by first | decide | omega) (by first | decide | omega)
      have g348 : ¬ Dg tB tN (h 1 2 + 2) := fun z => by have z1 := z.1; have z2 := z.2.1; have z3 := z.2.2; omega
      have z349 := nv2 (B := tB) (p := h 1 2)
      refine x_retI (np := 77) (x := 0) (by decide +kernel) (by decide) (Or.inl (by decide +kernel)) ⟨_, rfl, (by decide), ?_⟩
      exact ⟨hJ, hF, (by first | decide | omega), (by first | decide | omega), (fun z => by first | decide | omega), (fun z => by first | decide | omega), (Nr.nor (by first | decide | omega) (Nu.mk2 g343 g345 g348) (by first | decide | omega))⟩
    have q301 : ¬ (2147483648 = 2147483648) := q301
    exfalso; omega
  have q299 : ¬ (2147483705 < (h 2 (2 + u19))) := q299
  refine x_const (np := 13) (x := 9223372043297226753) (a := 2147483649) (by decide +kernel) (by decide) (by decide) ?_
  refine x_goto (np := 16) (x := 17) (by decide +kernel) ?_
  refine x_retI (np := 18) (x := 0) (by decide +kernel) (by decide) (Or.inr ⟨by decide +kernel, by first | decide | omega, by first | decide | omega⟩) ⟨_, rfl, (by decide), ?_⟩
  refine x_ifz (k := 0) (tg := 54) (np := 28) (by decide +kernel) (by decide) (by decide) (fun q350 => ?_) (fun q351 => ?_)
  · have q350 : 2147483649 = 2147483648 := q350
    exfalso; omega
  have q351 : ¬ (2147483649 = 2147483648) := q351
  refine x_iload (np := 29) (x := 3) (by decide +kernel) rfl (by first | decide | omega) ?_
  refine x_const (np := 31) (x := 9223372081951932426) (a := 2147483658) (by decide +kernel) (by decide) (by decide) ?_
  obtain ⟨u352, q353⟩ : ∃ z, v187 = 2147483648 + z := ⟨v187 - 2147483648, by first | decide | omega⟩
  refine x_imul (np := 32) (x := 0) (i := u352) (j := 10) (v := (2147483648 + 10 * u352)) (by decide +kernel) (by first | decide | omega) (by first | decide | omega) (by first | decide | omega) (by first | decide | omega) (by first | decide | omega) (by decide) ?_
  refine x_aload (np := 33) (x := 0) (by decide +kernel) rfl (x_nc_le (by decide)) ?_
  refine x_aload (np := 34) (x := 0) (by decide +kernel) rfl (x_nc_le (by decide)) ?_
  refine x_getC (np := 37) (x := 450) (f := 2) (q := (h 1 2)) (by decide +kernel) (by decide) (by decide +kernel) rfl (fun l355 => ?_)
  refine x_iload (np := 39) (x := 4) (by decide +kernel) rfl (by decide) ?_
  refine x_iadd (np := 40) (x := 0) (v := (2 + (h 1 2))) (by decide +kernel) l4 (by decide) (by first | decide | omega) (by first | decide | omega) ?_
  refine x_nI (t := 6) (mj := 81) (n := 2) (rc := 8) (ml := 2) (nr := 1) (np := 43) (as := [x_r 1, iv_c (2 + (h 1 2))]) (rest := [iv_c (2147483648 + 10 * u352)]) (lo1 := [x_r 1, iv_c (2 + (h 1 2))]) (by decide +kernel) (by decide) (by decide +kernel) (x_rb_of (by decide +kernel)) rfl rfl (x_wr (by decide) (x_wi (by first | decide | omega) x_wn)) (x_wi (by first | decide | omega) x_wn) (by decide) rfl ?_
  refine x_iload (np := 1) (x := 1) (by decide +kernel) rfl (by first | decide | omega) ?_
  refine x_aload (np := 2) (x := 0) (by decide +kernel) rfl (x_nc_le (by decide)) ?_
  refine x_getC (np := 5) (x := 449) (f := 1) (q := (h 1 1)) (by decide +kernel) (by decide) (by decide +kernel) rfl (fun l356 => ?_)
  refine x_icmp (k := 3) (tg := 17) (np := 8) (by decide +kernel) (by decide) (by first | decide | omega) l6 (fun q357 => ?_) (fun q358 => ?_)
  · have q357 : (h 1 1) ≤ (2 + (h 1 2)) := q357
    exfalso; omega
  have q358 : ¬ ((h 1 1) ≤ (2 + (h 1 2))) := q358
  refine x_aload (np := 9) (x := 0) (by decide +kernel) rfl (x_nc_le (by decide)) ?_
  have q359 : h 1 0 = 2 := by have z := jB (e := 0) 0 hJ rg_1_0_0_1 (by decide) (by decide); omega
  refine x_getR (np := 12) (x := 448) (f := 0) (q := 2) (by decide +kernel) (by decide) (by decide +kernel) q359 ?_
  refine x_iload (np := 13) (x := 1) (by decide +kernel) rfl (by first | decide | omega) ?_
  refine x_aldC (np := 14) (x := 0) (n := 400) (i := (2 + u19)) (q := (h 2 (2 + u19))) (by decide +kernel) (by decide +kernel) (by first | decide | omega) (by first | decide | omega) (by decide) rfl (fun l360 => ?_)
  refine x_goto (np := 17) (x := 18) (by decide +kernel) ?_
  refine x_retI (np := 19) (x := 0) (by decide +kernel) l245 (Or.inl (by decide +kernel)) ⟨_, rfl, l245, ?_⟩
  refine x_iadd (np := 44) (x := 0) (v := (10 * u352 + (h 2 (2 + u19)))) (by decide +kernel) (by first | decide | omega) l245 (by first | decide | omega) (by first | decide | omega) ?_
  refine x_const (np := 46) (x := 9223372245160689712) (a := 2147483696) (by decide +kernel) (by decide) (by decide) ?_
  obtain ⟨v361, q362⟩ : ∃ z, z + 2147483696 = (10 * u352 + (h 2 (2 + u19))) + 2147483648 := ⟨(10 * u352 + (h 2 (2 + u19))) + 2147483648 - 2147483696, by first | decide | omega⟩
  refine x_isub (np := 47) (x := 0) (v := v361) (by decide +kernel) (by first | decide | omega) (by decide) (by first | decide | omega) (by first | decide | omega) ?_
  refine x_istore (np := 48) (x := 3) (lo' := [x_r 1, iv_c a1, iv_c a2, iv_c v361, iv_c 2147483650]) (by decide +kernel) (by first | decide | omega) (Nat.le_of_ble_eq_true rfl) rfl ?_
  refine x_iinc (np := 51) (i := 4) (j := 2147483649) (v := 2147483651) (lo' := [x_r 1, iv_c a1, iv_c a2, iv_c v361, iv_c 2147483651]) (by decide +kernel) (by decide) (by decide) rfl (by decide) (by first | decide | omega) (by first | decide | omega) rfl ?_
  refine x_goto (np := 54) (x := 5) (by decide +kernel) ?_
  refine x_iload (np := 7) (x := 4) (by decide +kernel) rfl (by decide) ?_
  refine x_const (np := 8) (x := 9223372051887161347) (a := 2147483651) (by decide +kernel) (by decide) (by decide) ?_
  refine x_icmp (k := 4) (tg := 54) (np := 11) (by decide +kernel) (by decide) (by decide) (by decide) (fun q363 => ?_) (fun q364 => ?_)
  · have q363 : 2147483651 < 2147483651 := q363
    exfalso; omega
  have q364 : ¬ (2147483651 < 2147483651) := q364
  refine x_aload (np := 12) (x := 0) (by decide +kernel) rfl (x_nc_le (by decide)) ?_
  refine x_aload (np := 13) (x := 0) (by decide +kernel) rfl (x_nc_le (by decide)) ?_
  refine x_getC (np := 16) (x := 450) (f := 2) (q := (h 1 2)) (by decide +kernel) (by decide) (by decide +kernel) rfl (fun l365 => ?_)
  refine x_iload (np := 18) (x := 4) (by decide +kernel) rfl (by decide) ?_
  refine x_iadd (np := 19) (x := 0) (v := (3 + (h 1 2))) (by decide +kernel) l4 (by decide) (by first | decide | omega) (by first | decide | omega) ?_
  refine x_nI (t := 6) (mj := 81) (n := 2) (rc := 8) (ml := 2) (nr := 0) (np := 22) (as := [x_r 1, iv_c (3 + (h 1 2))]) (rest := []) (lo1 := [x_r 1, iv_c (3 + (h 1 2))]) (by decide +kernel) (by decide) (by decide +kernel) (x_rb_of (by decide +kernel)) rfl rfl (x_wr (by decide) (x_wi (by first | decide | omega) x_wn)) x_wn (by decide) rfl ?_
  refine x_iload (np := 1) (x := 1) (by decide +kernel) rfl (by first | decide | omega) ?_
  refine x_aload (np := 2) (x := 0) (by decide +kernel) rfl (x_nc_le (by decide)) ?_
  refine x_getC (np := 5) (x := 449) (f := 1) (q := (h 1 1)) (by decide +kernel) (by decide) (by decide +kernel) rfl (fun l366 => ?_)
  refine x_icmp (k := 3) (tg := 17) (np := 8) (by decide +kernel) (by decide) (by first | decide | omega) l6 (fun q367 => ?_) (fun q368 => ?_)
  · have q367 : (h 1 1) ≤ (3 + (h 1 2)) := q367
    refine x_const (np := 18) (x := 9223372034707292159) (a := 2147483647) (by decide +kernel) (by decide) (by decide) ?_
    refine x_retI (np := 19) (x := 0) (by decide +kernel) (by decide) (Or.inl (by decide +kernel)) ⟨_, rfl, (by decide), ?_⟩
    refine x_nI (t := 0) (mj := 82) (n := 1) (rc := 0) (ml := 1) (nr := 0) (np := 25) (as := [iv_c 2147483647]) (rest := []) (lo1 := [iv_c 2147483647]) (by decide +kernel) (by decide) (by decide +kernel) (Or.inl rfl) rfl rfl (x_wi (by decide) x_wn) x_wn (by decide) rfl ?_
    refine x_iload (np := 1) (x := 0) (by decide +kernel) rfl (by decide) ?_
    refine x_const (np := 3) (x := 9223372245160689712) (a := 2147483696) (by decide +kernel) (by decide) (by decide) ?_
    refine x_icmp (k := 2) (tg := 16) (np := 6) (by decide +kernel) (by decide) (by decide) (by decide) (fun q369 => ?_) (fun q370 => ?_)
    · have q369 : 2147483647 < 2147483696 := q369
      refine x_const (np := 17) (x := 9223372039002259456) (a := 2147483648) (by decide +kernel) (by decide) (by decide) ?_
      refine x_retI (np := 18) (x := 0) (by decide +kernel) (by decide) (Or.inr ⟨by decide +kernel, by first | decide | omega, by first | decide | omega⟩) ⟨_, rfl, (by decide), ?_⟩
      refine x_ifz (k := 0) (tg := 54) (np := 28) (by decide +kernel) (by decide) (by decide) (fun q371 => ?_) (fun q372 => ?_)
      · have q371 : 2147483648 = 2147483648 := q371
        refine x_iload (np := 56) (x := 4) (by decide +kernel) rfl (by decide) ?_
        refine x_ifz (k := 0) (tg := 75) (np := 59) (by decide +kernel) (by decide) (by decide) (fun q373 => ?_) (fun q374 => ?_)
        · have q373 : 2147483651 = 2147483648 := q373
          exfalso; omega
        have q374 : ¬ (2147483651 = 2147483648) := q374
        refine x_iload (np := 61) (x := 4) (by decide +kernel) rfl (by decide) ?_
        refine x_const (np := 62) (x := 9223372051887161347) (a := 2147483651) (by decide +kernel) (by decide) (by decide) ?_
        refine x_icmp (k := 4) (tg := 75) (np := 65) (by decide +kernel) (by decide) (by decide) (by decide) (fun q375 => ?_) (fun q376 => ?_)
        · have q375 : 2147483651 < 2147483651 := q375
          exfalso; omega
        have q376 : ¬ (2147483651 < 2147483651) := q376
        refine x_iload (np := 66) (x := 3) (by decide +kernel) rfl (by first | decide | omega) ?_
        refine x_iload (np := 67) (x := 1) (by decide +kernel) rfl la1 ?_
        refine x_icmp (k := 2) (tg := 75) (np := 70) (by decide +kernel) (by decide) (by first | decide | omega) la1 (fun q377 => ?_) (fun q378 => ?_)
        · have q377 : v361 < a1 := q377
          refine x_const (np := 76) (x := 9223372034707292159) (a := 2147483647) (by decide +kernel) (by decide) (by decide) ?_
          have z379 := hT.1
          have z380 := Tp.at (p := (h 1 2 + 0)) (u := u19) hT (by first | decide | omega) (by first | decide | omega)
          have g381 : Dg tB tN (h 1 2 + 0) := ⟨by first | decide | omega, by first | decide | omega, by first | decide | omega⟩
          have z382 := Tp.at (p := (h 1 2 + 1)) (u := (1 + u19)) hT (by first | decide | omega) (by first | decide | omega)
          have g383 : Dg tB tN (h 1 2 + 1) := ⟨by first | decide | omega, by first | decide | omega, by first | decide | omega⟩
          have z384 := Tp.at (p := (h 1 2 + 2)) (u := (2 + u19)) hT (by first | decide | omega) (by first | decide | omega)
          have g385 : Dg tB tN (h 1 2 + 2) := ⟨by first | decide | omega, by first | decide | omega, by first | decide | omega⟩
          have z386 := hT.1
          have g387 : ¬ Dg tB tN (h 1 2 + 3) := fun z => by have z1 := z.1; have z2 := z.2.1; have z3 := z.2.2; omega
          have z388 := nv3 (B := tB) (p := h 1 2)
          refine x_retI (np := 77) (x := 0) (by decide +kernel) (by decide) (Or.inl (by decide +kernel)) ⟨_, rfl, (by decide), ?_⟩
          exact ⟨hJ, hF, (by first | decide | omega), (by first | decide | omega), (fun z => by first | decide | omega), (fun z => by first | decide | omega), (Nr.nor (by first | decide | omega) (Nu.mk3 g381 g383 g385 g387) (by first | decide | omega))⟩
        have q378 : ¬ (v361 < a1) := q378
        refine x_iload (np := 71) (x := 3) (by decide +kernel) rfl (by first | decide | omega) ?_
        refine x_iload (np := 72) (x := 2) (by decide +kernel) rfl la2 ?_
        refine x_icmp (k := 5) (tg := 77) (np := 75) (by decide +kernel) (by decide) (by first | decide | omega) la2 (fun q389 => ?_) (fun q390 => ?_)
        · have q389 : v361 ≤ a2 := q389
          refine x_aload (np := 78) (x := 0) (by decide +kernel) rfl (x_nc_le (by decide)) ?_
          refine x_aload (np := 79) (x := 0) (by decide +kernel) rfl (x_nc_le (by decide)) ?_
          refine x_getC (np := 82) (x := 450) (f := 2) (q := (h 1 2)) (by decide +kernel) (by decide) (by decide +kernel) rfl (fun l391 => ?_)
          refine x_iload (np := 84) (x := 4) (by decide +kernel) rfl (by decide) ?_
          refine x_iadd (np := 85) (x := 0) (v := (3 + (h 1 2))) (by decide +kernel) l4 (by decide) (by first | decide | omega) (by first | decide | omega) ?_
          refine x_cV (t := 6) (mj := 80) (n := 2) (rc := 8) (ml := 2) (nr := 0) (np := 88) (as := [x_r 1, iv_c (3 + (h 1 2))]) (rest := []) (lo1 := [x_r 1, iv_c (3 + (h 1 2))]) (by decide +kernel) (by decide) (by decide +kernel) (x_rb_of (by decide +kernel)) rfl rfl (x_wr (by decide) (x_wi (by first | decide | omega) x_wn)) x_wn (by decide) rfl (c80_1 hJ  (by first | decide | omega) hT) (fun h395 q394 => ?_)
          obtain ⟨j396, f397, c400, c401⟩ := q394
          have f402 := Fr.trans hF f397 (by decide)
          have b403 := jB (e := 2) 0 j396 rg_1_2_0_1 (by first | decide | omega) (by first | decide | omega)
          refine x_iload (np := 89) (x := 3) (by decide +kernel) rfl (by first | decide | omega) ?_
          have z404 := hT.1
          have z405 := Tp.at (p := (h 1 2 + 0)) (u := u19) hT (by first | decide | omega) (by first | decide | omega)
          have g406 : Dg tB tN (h 1 2 + 0) := ⟨by first | decide | omega, by first | decide | omega, by first | decide | omega⟩
          have z407 := Tp.at (p := (h 1 2 + 1)) (u := (1 + u19)) hT (by first | decide | omega) (by first | decide | omega)
          have g408 : Dg tB tN (h 1 2 + 1) := ⟨by first | decide | omega, by first | decide | omega, by first | decide | omega⟩
          have z409 := Tp.at (p := (h 1 2 + 2)) (u := (2 + u19)) hT (by first | decide | omega) (by first | decide | omega)
          have g410 : Dg tB tN (h 1 2 + 2) := ⟨by first | decide | omega, by first | decide | omega, by first | decide | omega⟩
          have z411 := hT.1
          have g412 : ¬ Dg tB tN (h 1 2 + 3) := fun z => by have z1 := z.1; have z2 := z.2.1; have z3 := z.2.2; omega
          have z413 := nv3 (B := tB) (p := h 1 2)
          refine x_retI (np := 90) (x := 0) (by decide +kernel) (by first | decide | omega) (Or.inl (by decide +kernel)) ⟨_, rfl, (by first | decide | omega), ?_⟩
          exact ⟨j396, f402, (by first | decide | omega), (by first | decide | omega), (fun z => by first | decide | omega), (fun z => by first | decide | omega), (Nr.yes (Nu.mk3 g406 g408 g410 g412) (by first | decide | omega) (by first | decide | omega) (by first | decide | omega) c401 (by first | decide | omega))⟩
        have q390 : ¬ (v361 ≤ a2) := q390
        refine x_const (np := 76) (x := 9223372034707292159) (a := 2147483647) (by decide +kernel) (by decide) (by decide) ?_
        have z414 := hT.1
        have z415 := Tp.at (p := (h 1 2 + 0)) (u := u19) hT (by first | decide | omega) (by first | decide | omega)
        have g416 : Dg tB tN (h 1 2 + 0) := ⟨by first | decide | omega, by first | decide | omega, by first | decide | omega⟩
        have z417 := Tp.at (p := (h 1 2 + 1)) (u := (1 + u19)) hT (by first | decide | omega) (by first | decide | omega)
        have g418 : Dg tB tN (h 1 2 + 1) := ⟨by first | decide | omega, by first | decide | omega, by first | decide | omega⟩
        have z419 := Tp.at (p := (h 1 2 + 2)) (u := (2 + u19)) hT (by first | decide | omega) (by first | decide | omega)
        have g420 : Dg tB tN (h 1 2 + 2) := ⟨by first | decide | omega, by first | decide | omega, by first | decide | omega⟩
        have z421 := hT.1
        have g422 : ¬ Dg tB tN (h 1 2 + 3) := fun z => by have z1 := z.1; have z2 := z.2.1; have z3 := z.2.2; omega
        have z423 := nv3 (B := tB) (p := h 1 2)
        refine x_retI (np := 77) (x := 0) (by decide +kernel) (by decide) (Or.inl (by decide +kernel)) ⟨_, rfl, (by decide), ?_⟩
        exact ⟨hJ, hF, (by first | decide | omega), (by first | decide | omega), (fun z => by first | decide | omega), (fun z => by first | decide | omega), (Nr.nor (by first | decide | omega) (Nu.mk3 g416 g418 g420 g422) (by first | decide | omega))⟩
      have q372 : ¬ (2147483648 = 2147483648) := q372
      exfalso; omega
    have q370 : ¬ (2147483647 < 2147483696) := q370
    exfalso; omega
  have q368 : ¬ ((h 1 1) ≤ (3 + (h 1 2))) := q368
  refine x_aload (np := 9) (x := 0) (by decide +kernel) rfl (x_nc_le (by decide)) ?_
  have q424 : h 1 0 = 2 := by have z := jB (e := 0) 0 hJ rg_1_0_0_1 (by decide) (by decide); omega
  refine x_getR (np := 12) (x := 448) (f := 0) (q := 2) (by decide +kernel) (by decide) (by decide +kernel) q424 ?_
  refine x_iload (np := 13) (x := 1) (by decide +kernel) rfl (by first | decide | omega) ?_
  refine x_aldC (np := 14) (x := 0) (n := 400) (i := (3 + u19)) (q := (h 2 (3 + u19))) (by decide +kernel) (by decide +kernel) (by first | decide | omega) (by first | decide | omega) (by decide) rfl (fun l425 => ?_)
  refine x_goto (np := 17) (x := 18) (by decide +kernel) ?_
  refine x_retI (np := 19) (x := 0) (by decide +kernel) l425 (Or.inl (by decide +kernel)) ⟨_, rfl, l425, ?_⟩
  refine x_nI (t := 0) (mj := 82) (n := 1) (rc := 0) (ml := 1) (nr := 0) (np := 25) (as := [iv_c (h 2 (3 + u19))]) (rest := []) (lo1 := [iv_c (h 2 (3 + u19))]) (by decide +kernel) (by decide) (by decide +kernel) (Or.inl rfl) rfl rfl (x_wi l425 x_wn) x_wn (by decide) rfl ?_
  refine x_iload (np := 1) (x := 0) (by decide +kernel) rfl l425 ?_
  refine x_const (np := 3) (x := 9223372245160689712) (a := 2147483696) (by decide +kernel) (by decide) (by decide) ?_
  refine x_icmp (k := 2) (tg := 16) (np := 6) (by decide +kernel) (by decide) l425 (by decide) (fun q426 => ?_) (fun q427 => ?_)
  · have q426 : (h 2 (3 + u19)) < 2147483696 := q426
    refine x_const (np := 17) (x := 9223372039002259456) (a := 2147483648) (by decide +kernel) (by decide) (by decide) ?_
    refine x_retI (np := 18) (x := 0) (by decide +kernel) (by decide) (Or.inr ⟨by decide +kernel, by first | decide | omega, by first | decide | omega⟩) ⟨_, rfl, (by decide), ?_⟩
    refine x_ifz (k := 0) (tg := 54) (np := 28) (by decide +kernel) (by decide) (by decide) (fun q428 => ?_) (fun q429 => ?_)
    · have q428 : 2147483648 = 2147483648 := q428
      refine x_iload (np := 56) (x := 4) (by decide +kernel) rfl (by decide) ?_
      refine x_ifz (k := 0) (tg := 75) (np := 59) (by decide +kernel) (by decide) (by decide) (fun q430 => ?_) (fun q431 => ?_)
      · have q430 : 2147483651 = 2147483648 := q430
        exfalso; omega
      have q431 : ¬ (2147483651 = 2147483648) := q431
      refine x_iload (np := 61) (x := 4) (by decide +kernel) rfl (by decide) ?_
      refine x_const (np := 62) (x := 9223372051887161347) (a := 2147483651) (by decide +kernel) (by decide) (by decide) ?_
      refine x_icmp (k := 4) (tg := 75) (np := 65) (by decide +kernel) (by decide) (by decide) (by decide) (fun q432 => ?_) (fun q433 => ?_)
      · have q432 : 2147483651 < 2147483651 := q432
        exfalso; omega
      have q433 : ¬ (2147483651 < 2147483651) := q433
      refine x_iload (np := 66) (x := 3) (by decide +kernel) rfl (by first | decide | omega) ?_
      refine x_iload (np := 67) (x := 1) (by decide +kernel) rfl la1 ?_
      refine x_icmp (k := 2) (tg := 75) (np := 70) (by decide +kernel) (by decide) (by first | decide | omega) la1 (fun q434 => ?_) (fun q435 => ?_)
      · have q434 : v361 < a1 := q434
        refine x_const (np := 76) (x := 9223372034707292159) (a := 2147483647) (by decide +kernel) (by decide) (by decide) ?_
        have z436 := hT.1
        have z437 := Tp.at (p := (h 1 2 + 0)) (u := u19) hT (by first | decide | omega) (by first | decide | omega)
        have g438 : Dg tB tN (h 1 2 + 0) := ⟨by first | decide | omega, by first | decide | omega, by first | decide | omega⟩
        have z439 := Tp.at (p := (h 1 2 + 1)) (u := (1 + u19)) hT (by first | decide | omega) (by first | decide | omega)
        have g440 : Dg tB tN (h 1 2 + 1) := ⟨by first | decide | omega, by first | decide | omega, by first | decide | omega⟩
        have z441 := Tp.at (p := (h 1 2 + 2)) (u := (2 + u19)) hT (by first | decide | omega) (by first | decide | omega)
        have g442 : Dg tB tN (h 1 2 + 2) := ⟨by first | decide | omega, by first | decide | omega, by first | decide | omega⟩
        have z443 := hT.1
        have z444 := Tp.at (p := (h 1 2 + 3)) (u := (3 + u19)) hT (by first | decide | omega) (by first | decide | omega)
        have g445 : ¬ Dg tB tN (h 1 2 + 3) := fun z => by have z1 := z.1; have z2 := z.2.1; have z3 := z.2.2; omega
        have z446 := nv3 (B := tB) (p := h 1 2)
        refine x_retI (np := 77) (x := 0) (by decide +kernel) (by decide) (Or.inl (by decide +kernel)) ⟨_, rfl, (by decide), ?_⟩
        exact ⟨hJ, hF, (by first | decide | omega), (by first | decide | omega), (fun z => by first | decide | omega), (fun z => by first | decide | omega), (Nr.nor (by first | decide | omega) (Nu.mk3 g438 g440 g442 g445) (by first | decide | omega))⟩
      have q435 : ¬ (v361 < a1) := q435
      refine x_iload (np := 71) (x := 3) (by decide +kernel) rfl (by first | decide | omega) ?_
      refine x_iload (np := 72) (x := 2) (by decide +kernel) rfl la2 ?_
      refine x_icmp (k := 5) (tg := 77) (np := 75) (by decide +kernel) (by decide) (by first | decide | omega) la2 (fun q447 => ?_) (fun q448 => ?_)
      · have q447 : v361 ≤ a2 := q447
        refine x_aload (np := 78) (x := 0) (by decide +kernel) rfl (x_nc_le (by decide)) ?_
        refine x_aload (np := 79) (x := 0) (by decide +kernel) rfl (x_nc_le (by decide)) ?_
        refine x_getC (np := 82) (x := 450) (f := 2) (q := (h 1 2)) (by decide +kernel) (by decide) (by decide +kernel) rfl (fun l449 => ?_)
        refine x_iload (np := 84) (x := 4) (by decide +kernel) rfl (by decide) ?_
        refine x_iadd (np := 85) (x := 0) (v := (3 + (h 1 2))) (by decide +kernel) l4 (by decide) (by first | decide | omega) (by first | decide | omega) ?_
        refine x_cV (t := 6) (mj := 80) (n := 2) (rc := 8) (ml := 2) (nr := 0) (np := 88) (as := [x_r 1, iv_c (3 + (h 1 2))]) (rest := []) (lo1 := [x_r 1, iv_c (3 + (h 1 2))]) (by decide +kernel) (by decide) (by decide +kernel) (x_rb_of (by decide +kernel)) rfl rfl (x_wr (by decide) (x_wi (by first | decide | omega) x_wn)) x_wn (by decide) rfl (c80_1 hJ  (by first | decide | omega) hT) (fun h453 q452 => ?_)
        obtain ⟨j454, f455, c458, c459⟩ := q452
        have f460 := Fr.trans hF f455 (by decide)
        have b461 := jB (e := 2) 0 j454 rg_1_2_0_1 (by first | decide | omega) (by first | decide | omega)
        refine x_iload (np := 89) (x := 3) (by decide +kernel) rfl (by first | decide | omega) ?_
        have z462 := hT.1
        have z463 := Tp.at (p := (h 1 2 + 0)) (u := u19) hT (by first | decide | omega) (by first | decide | omega)
        have g464 : Dg tB tN (h 1 2 + 0) := ⟨by first | decide | omega, by first | decide | omega, by first | decide | omega⟩
        have z465 := Tp.at (p := (h 1 2 + 1)) (u := (1 + u19)) hT (by first | decide | omega) (by first | decide | omega)
        have g466 : Dg tB tN (h 1 2 + 1) := ⟨by first | decide | omega, by first | decide | omega, by first | decide | omega⟩
        have z467 := Tp.at (p := (h 1 2 + 2)) (u := (2 + u19)) hT (by first | decide | omega) (by first | decide | omega)
        have g468 : Dg tB tN (h 1 2 + 2) := ⟨by first | decide | omega, by first | decide | omega, by first | decide | omega⟩
        have z469 := hT.1
        have z470 := Tp.at (p := (h 1 2 + 3)) (u := (3 + u19)) hT (by first | decide | omega) (by first | decide | omega)
        have g471 : ¬ Dg tB tN (h 1 2 + 3) := fun z => by have z1 := z.1; have z2 := z.2.1; have z3 := z.2.2; omega
        have z472 := nv3 (B := tB) (p := h 1 2)
        refine x_retI (np := 90) (x := 0) (by decide +kernel) (by first | decide | omega) (Or.inl (by decide +kernel)) ⟨_, rfl, (by first | decide | omega), ?_⟩
        exact ⟨j454, f460, (by first | decide | omega), (by first | decide | omega), (fun z => by first | decide | omega), (fun z => by first | decide | omega), (Nr.yes (Nu.mk3 g464 g466 g468 g471) (by first | decide | omega) (by first | decide | omega) (by first | decide | omega) c459 (by first | decide | omega))⟩
      have q448 : ¬ (v361 ≤ a2) := q448
      refine x_const (np := 76) (x := 9223372034707292159) (a := 2147483647) (by decide +kernel) (by decide) (by decide) ?_
      have z473 := hT.1
      have z474 := Tp.at (p := (h 1 2 + 0)) (u := u19) hT (by first | decide | omega) (by first | decide | omega)
      have g475 : Dg tB tN (h 1 2 + 0) := ⟨by first | decide | omega, by first | decide | omega, by first | decide | omega⟩
      have z476 := Tp.at (p := (h 1 2 + 1)) (u := (1 + u19)) hT (by first | decide | omega) (by first | decide | omega)
      have g477 : Dg tB tN (h 1 2 + 1) := ⟨by first | decide | omega, by first | decide | omega, by first | decide | omega⟩
      have z478 := Tp.at (p := (h 1 2 + 2)) (u := (2 + u19)) hT (by first | decide | omega) (by first | decide | omega)
      have g479 : Dg tB tN (h 1 2 + 2) := ⟨by first | decide | omega, by first | decide | omega, by first | decide | omega⟩
      have z480 := hT.1
      have z481 := Tp.at (p := (h 1 2 + 3)) (u := (3 + u19)) hT (by first | decide | omega) (by first | decide | omega)
      have g482 : ¬ Dg tB tN (h 1 2 + 3) := fun z => by have z1 := z.1; have z2 := z.2.1; have z3 := z.2.2; omega
      have z483 := nv3 (B := tB) (p := h 1 2)
      refine x_retI (np := 77) (x := 0) (by decide +kernel) (by decide) (Or.inl (by decide +kernel)) ⟨_, rfl, (by decide), ?_⟩
      exact ⟨hJ, hF, (by first | decide | omega), (by first | decide | omega), (fun z => by first | decide | omega), (fun z => by first | decide | omega), (Nr.nor (by first | decide | omega) (Nu.mk3 g475 g477 g479 g482) (by first | decide | omega))⟩
    have q429 : ¬ (2147483648 = 2147483648) := q429
    exfalso; omega
  have q427 : ¬ ((h 2 (3 + u19)) < 2147483696) := q427
  refine x_iload (np := 7) (x := 0) (by decide +kernel) rfl l425 ?_
  refine x_const (np := 9) (x := 9223372283815395385) (a := 2147483705) (by decide +kernel) (by decide) (by decide) ?_
  refine x_icmp (k := 4) (tg := 16) (np := 12) (by decide +kernel) (by decide) l425 (by decide) (fun q484 => ?_) (fun q485 => ?_)
  · have q484 : 2147483705 < (h 2 (3 + u19)) := q484
    refine x_const (np := 17) (x := 9223372039002259456) (a := 2147483648) (by decide +kernel) (by decide) (by decide) ?_
    refine x_retI (np := 18) (x := 0) (by decide +kernel) (by decide) (Or.inr ⟨by decide +kernel, by first | decide | omega, by first | decide | omega⟩) ⟨_, rfl, (by decide), ?_⟩
    refine x_ifz (k := 0) (tg := 54) (np := 28) (by decide +kernel) (by decide) (by decide) (fun q486 => ?_) (fun q487 => ?_)
    · have q486 : 2147483648 = 2147483648 := q486
      refine x_iload (np := 56) (x := 4) (by decide +kernel) rfl (by decide) ?_
      refine x_ifz (k := 0) (tg := 75) (np := 59) (by decide +kernel) (by decide) (by decide) (fun q488 => ?_) (fun q489 => ?_)
      · have q488 : 2147483651 = 2147483648 := q488
        exfalso; omega
      have q489 : ¬ (2147483651 = 2147483648) := q489
      refine x_iload (np := 61) (x := 4) (by decide +kernel) rfl (by decide) ?_
      refine x_const (np := 62) (x := 9223372051887161347) (a := 2147483651) (by decide +kernel) (by decide) (by decide) ?_
      refine x_icmp (k := 4) (tg := 75) (np := 65) (by decide +kernel) (by decide) (by decide) (by decide) (fun q490 => ?_) (fun q491 => ?_)
      · have q490 : 2147483651 < 2147483651 := q490
        exfalso; omega
      have q491 : ¬ (2147483651 < 2147483651) := q491
      refine x_iload (np := 66) (x := 3) (by decide +kernel) rfl (by first | decide | omega) ?_
      refine x_iload (np := 67) (x := 1) (by decide +kernel) rfl la1 ?_
      refine x_icmp (k := 2) (tg := 75) (np := 70) (by decide +kernel) (by decide) (by first | decide | omega) la1 (fun q492 => ?_) (fun q493 => ?_)
      · have q492 : v361 < a1 := q492
        refine x_const (np := 76) (x := 9223372034707292159) (a := 2147483647) (by decide +kernel) (by decide) (by decide) ?_
        have z494 := hT.1
        have z495 := Tp.at (p := (h 1 2 + 0)) (u := u19) hT (by first | decide | omega) (by first | decide | omega)
        have g496 : Dg tB tN (h 1 2 + 0) := ⟨by first | decide | omega, by first | decide | omega, by first | decide | omega⟩
        have z497 := Tp.at (p := (h 1 2 + 1)) (u := (1 + u19)) hT (by first | decide | omega) (by first | decide | omega)
        have g498 : Dg tB tN (h 1 2 + 1) := ⟨by first | decide | omega, by first | decide | omega, by first | decide | omega⟩
        have z499 := Tp.at (p := (h 1 2 + 2)) (u := (2 + u19)) hT (by first | decide | omega) (by first | decide | omega)
        have g500 : Dg tB tN (h 1 2 + 2) := ⟨by first | decide | omega, by first | decide | omega, by first | decide | omega⟩
        have z501 := hT.1
        have z502 := Tp.at (p := (h 1 2 + 3)) (u := (3 + u19)) hT (by first | decide | omega) (by first | decide | omega)
        have g503 : ¬ Dg tB tN (h 1 2 + 3) := fun z => by have z1 := z.1; have z2 := z.2.1; have z3 := z.2.2; omega
        have z504 := nv3 (B := tB) (p := h 1 2)
        refine x_retI (np := 77) (x := 0) (by decide +kernel) (by decide) (Or.inl (by decide +kernel)) ⟨_, rfl, (by decide), ?_⟩
        exact ⟨hJ, hF, (by first | decide | omega), (by first | decide | omega), (fun z => by first | decide | omega), (fun z => by first | decide | omega), (Nr.nor (by first | decide | omega) (Nu.mk3 g496 g498 g500 g503) (by first | decide | omega))⟩
      have q493 : ¬ (v361 < a1) := q493
      refine x_iload (np := 71) (x := 3) (by decide +kernel) rfl (by first | decide | omega) ?_
      refine x_iload (np := 72) (x := 2) (by decide +kernel) rfl la2 ?_
      refine x_icmp (k := 5) (tg := 77) (np := 75) (by decide +kernel) (by decide) (by first | decide | omega) la2 (fun q505 => ?_) (fun q506 => ?_)
      · have q505 : v361 ≤ a2 := q505
        refine x_aload (np := 78) (x := 0) (by decide +kernel) rfl (x_nc_le (by decide)) ?_
        refine x_aload (np := 79) (x := 0) (by decide +kernel) rfl (x_nc_le (by decide)) ?_
        refine x_getC (np := 82) (x := 450) (f := 2) (q := (h 1 2)) (by decide +kernel) (by decide) (by decide +kernel) rfl (fun l507 => ?_)
        refine x_iload (np := 84) (x := 4) (by decide +kernel) rfl (by decide) ?_
        refine x_iadd (np := 85) (x := 0) (v := (3 + (h 1 2))) (by decide +kernel) l4 (by decide) (by first | decide | omega) (by first | decide | omega) ?_
        refine x_cV (t := 6) (mj := 80) (n := 2) (rc := 8) (ml := 2) (nr := 0) (np := 88) (as := [x_r 1, iv_c (3 + (h 1 2))]) (rest := []) (lo1 := [x_r 1, iv_c (3 + (h 1 2))]) (by decide +kernel) (by decide) (by decide +kernel) (x_rb_of (by decide +kernel)) rfl rfl (x_wr (by decide) (x_wi (by first | decide | omega) x_wn)) x_wn (by decide) rfl (c80_1 hJ  (by first | decide | omega) hT) (fun h511 q510 => ?_)
        obtain ⟨j512, f513, c516, c517⟩ := q510
        have f518 := Fr.trans hF f513 (by decide)
        have b519 := jB (e := 2) 0 j512 rg_1_2_0_1 (by first | decide | omega) (by first | decide | omega)
        refine x_iload (np := 89) (x := 3) (by decide +kernel) rfl (by first | decide | omega) ?_
        have z520 := hT.1
        have z521 := Tp.at (p := (h 1 2 + 0)) (u := u19) hT (by first | decide | omega) (by first | decide | omega)
        have g522 : Dg tB tN (h 1 2 + 0) := ⟨by first | decide | omega, by first | decide | omega, by first | decide | omega⟩
        have z523 := Tp.at (p := (h 1 2 + 1)) (u := (1 + u19)) hT (by first | decide | omega) (by first | decide | omega)
        have g524 : Dg tB tN (h 1 2 + 1) := ⟨by first | decide | omega, by first | decide | omega, by first | decide | omega⟩
        have z525 := Tp.at (p := (h 1 2 + 2)) (u := (2 + u19)) hT (by first | decide | omega) (by first | decide | omega)
        have g526 : Dg tB tN (h 1 2 + 2) := ⟨by first | decide | omega, by first | decide | omega, by first | decide | omega⟩
        have z527 := hT.1
        have z528 := Tp.at (p := (h 1 2 + 3)) (u := (3 + u19)) hT (by first | decide | omega) (by first | decide | omega)
        have g529 : ¬ Dg tB tN (h 1 2 + 3) := fun z => by have z1 := z.1; have z2 := z.2.1; have z3 := z.2.2; omega
        have z530 := nv3 (B := tB) (p := h 1 2)
        refine x_retI (np := 90) (x := 0) (by decide +kernel) (by first | decide | omega) (Or.inl (by decide +kernel)) ⟨_, rfl, (by first | decide | omega), ?_⟩
        exact ⟨j512, f518, (by first | decide | omega), (by first | decide | omega), (fun z => by first | decide | omega), (fun z => by first | decide | omega), (Nr.yes (Nu.mk3 g522 g524 g526 g529) (by first | decide | omega) (by first | decide | omega) (by first | decide | omega) c517 (by first | decide | omega))⟩
      have q506 : ¬ (v361 ≤ a2) := q506
      refine x_const (np := 76) (x := 9223372034707292159) (a := 2147483647) (by decide +kernel) (by decide) (by decide) ?_
      have z531 := hT.1
      have z532 := Tp.at (p := (h 1 2 + 0)) (u := u19) hT (by first | decide | omega) (by first | decide | omega)
      have g533 : Dg tB tN (h 1 2 + 0) := ⟨by first | decide | omega, by first | decide | omega, by first | decide | omega⟩
      have z534 := Tp.at (p := (h 1 2 + 1)) (u := (1 + u19)) hT (by first | decide | omega) (by first | decide | omega)
      have g535 : Dg tB tN (h 1 2 + 1) := ⟨by first | decide | omega, by first | decide | omega, by first | decide | omega⟩
      have z536 := Tp.at (p := (h 1 2 + 2)) (u := (2 + u19)) hT (by first | decide | omega) (by first | decide | omega)
      have g537 : Dg tB tN (h 1 2 + 2) := ⟨by first | decide | omega, by first | decide | omega, by first | decide | omega⟩
      have z538 := hT.1
      have z539 := Tp.at (p := (h 1 2 + 3)) (u := (3 + u19)) hT (by first | decide | omega) (by first | decide | omega)
      have g540 : ¬ Dg tB tN (h 1 2 + 3) := fun z => by have z1 := z.1; have z2 := z.2.1; have z3 := z.2.2; omega
      have z541 := nv3 (B := tB) (p := h 1 2)
      refine x_retI (np := 77) (x := 0) (by decide +kernel) (by decide) (Or.inl (by decide +kernel)) ⟨_, rfl, (by decide), ?_⟩
      exact ⟨hJ, hF, (by first | decide | omega), (by first | decide | omega), (fun z => by first | decide | omega), (fun z => by first | decide | omega), (Nr.nor (by first | decide | omega) (Nu.mk3 g533 g535 g537 g540) (by first | decide | omega))⟩
    have q487 : ¬ (2147483648 = 2147483648) := q487
    exfalso; omega
  have q485 : ¬ (2147483705 < (h 2 (3 + u19))) := q485
  refine x_const (np := 13) (x := 9223372043297226753) (a := 2147483649) (by decide +kernel) (by decide) (by decide) ?_
  refine x_goto (np := 16) (x := 17) (by decide +kernel) ?_
  refine x_retI (np := 18) (x := 0) (by decide +kernel) (by decide) (Or.inr ⟨by decide +kernel, by first | decide | omega, by first | decide | omega⟩) ⟨_, rfl, (by decide), ?_⟩
  refine x_ifz (k := 0) (tg := 54) (np := 28) (by decide +kernel) (by decide) (by decide) (fun q542 => ?_) (fun q543 => ?_)
  · have q542 : 2147483649 = 2147483648 := q542
    exfalso; omega
  have q543 : ¬ (2147483649 = 2147483648) := q543
  refine x_iload (np := 29) (x := 3) (by decide +kernel) rfl (by first | decide | omega) ?_
  refine x_const (np := 31) (x := 9223372081951932426) (a := 2147483658) (by decide +kernel) (by decide) (by decide) ?_
  obtain ⟨u544, q545⟩ : ∃ z, v361 = 2147483648 + z := ⟨v361 - 2147483648, by first | decide | omega⟩
  refine x_imul (np := 32) (x := 0) (i := u544) (j := 10) (v := (2147483648 + 10 * u544)) (by decide +kernel) (by first | decide | omega) (by first | decide | omega) (by first | decide | omega) (by first | decide | omega) (by first | decide | omega) (by decide) ?_
  refine x_aload (np := 33) (x := 0) (by decide +kernel) rfl (x_nc_le (by decide)) ?_
  refine x_aload (np := 34) (x := 0) (by decide +kernel) rfl (x_nc_le (by decide)) ?_
  refine x_getC (np := 37) (x := 450) (f := 2) (q := (h 1 2)) (by decide +kernel) (by decide) (by decide +kernel) rfl (fun l547 => ?_)
  refine x_iload (np := 39) (x := 4) (by decide +kernel) rfl (by decide) ?_
  refine x_iadd (np := 40) (x := 0) (v := (3 + (h 1 2))) (by decide +kernel) l4 (by decide) (by first | decide | omega) (by first | decide | omega) ?_
  refine x_nI (t := 6) (mj := 81) (n := 2) (rc := 8) (ml := 2) (nr := 1) (np := 43) (as := [x_r 1, iv_c (3 + (h 1 2))]) (rest := [iv_c (2147483648 + 10 * u544)]) (lo1 := [x_r 1, iv_c (3 + (h 1 2))]) (by decide +kernel) (by decide) (by decide +kernel) (x_rb_of (by decide +kernel)) rfl rfl (x_wr (by decide) (x_wi (by first | decide | omega) x_wn)) (x_wi (by first | decide | omega) x_wn) (by decide) rfl ?_
  refine x_iload (np := 1) (x := 1) (by decide +kernel) rfl (by first | decide | omega) ?_
  refine x_aload (np := 2) (x := 0) (by decide +kernel) rfl (x_nc_le (by decide)) ?_
  refine x_getC (np := 5) (x := 449) (f := 1) (q := (h 1 1)) (by decide +kernel) (by decide) (by decide +kernel) rfl (fun l548 => ?_)
  refine x_icmp (k := 3) (tg := 17) (np := 8) (by decide +kernel) (by decide) (by first | decide | omega) l6 (fun q549 => ?_) (fun q550 => ?_)
  · have q549 : (h 1 1) ≤ (3 + (h 1 2)) := q549
    exfalso; omega
  have q550 : ¬ ((h 1 1) ≤ (3 + (h 1 2))) := q550
  refine x_aload (np := 9) (x := 0) (by decide +kernel) rfl (x_nc_le (by decide)) ?_
  have q551 : h 1 0 = 2 := by have z := jB (e := 0) 0 hJ rg_1_0_0_1 (by decide) (by decide); omega
  refine x_getR (np := 12) (x := 448) (f := 0) (q := 2) (by decide +kernel) (by decide) (by decide +kernel) q551 ?_
  refine x_iload (np := 13) (x := 1) (by decide +kernel) rfl (by first | decide | omega) ?_
  refine x_aldC (np := 14) (x := 0) (n := 400) (i := (3 + u19)) (q := (h 2 (3 + u19))) (by decide +kernel) (by decide +kernel) (by first | decide | omega) (by first | decide | omega) (by decide) rfl (fun l552 => ?_)
  refine x_goto (np := 17) (x := 18) (by decide +kernel) ?_
  refine x_retI (np := 19) (x := 0) (by decide +kernel) l425 (Or.inl (by decide +kernel)) ⟨_, rfl, l425, ?_⟩
  refine x_iadd (np := 44) (x := 0) (v := (10 * u544 + (h 2 (3 + u19)))) (by decide +kernel) (by first | decide | omega) l425 (by first | decide | omega) (by first | decide | omega) ?_
  refine x_const (np := 46) (x := 9223372245160689712) (a := 2147483696) (by decide +kernel) (by decide) (by decide) ?_
  obtain ⟨v553, q554⟩ : ∃ z, z + 2147483696 = (10 * u544 + (h 2 (3 + u19))) + 2147483648 := ⟨(10 * u544 + (h 2 (3 + u19))) + 2147483648 - 2147483696, by first | decide | omega⟩
  refine x_isub (np := 47) (x := 0) (v := v553) (by decide +kernel) (by first | decide | omega) (by decide) (by first | decide | omega) (by first | decide | omega) ?_
  refine x_istore (np := 48) (x := 3) (lo' := [x_r 1, iv_c a1, iv_c a2, iv_c v553, iv_c 2147483651]) (by decide +kernel) (by first | decide | omega) (Nat.le_of_ble_eq_true rfl) rfl ?_
  refine x_iinc (np := 51) (i := 4) (j := 2147483649) (v := 2147483652) (lo' := [x_r 1, iv_c a1, iv_c a2, iv_c v553, iv_c 2147483652]) (by decide +kernel) (by decide) (by decide) rfl (by decide) (by first | decide | omega) (by first | decide | omega) rfl ?_
  refine x_goto (np := 54) (x := 5) (by decide +kernel) ?_
  refine x_iload (np := 7) (x := 4) (by decide +kernel) rfl (by decide) ?_
  refine x_const (np := 8) (x := 9223372051887161347) (a := 2147483651) (by decide +kernel) (by decide) (by decide) ?_
  refine x_icmp (k := 4) (tg := 54) (np := 11) (by decide +kernel) (by decide) (by decide) (by decide) (fun q555 => ?_) (fun q556 => ?_)
  · have q555 : 2147483651 < 2147483652 := q555
    refine x_iload (np := 56) (x := 4) (by decide +kernel) rfl (by decide) ?_
    refine x_ifz (k := 0) (tg := 75) (np := 59) (by decide +kernel) (by decide) (by decide) (fun q557 => ?_) (fun q558 => ?_)
    · have q557 : 2147483652 = 2147483648 := q557
      exfalso; omega
    have q558 : ¬ (2147483652 = 2147483648) := q558
    refine x_iload (np := 61) (x := 4) (by decide +kernel) rfl (by decide) ?_
    refine x_const (np := 62) (x := 9223372051887161347) (a := 2147483651) (by decide +kernel) (by decide) (by decide) ?_
    refine x_icmp (k := 4) (tg := 75) (np := 65) (by decide +kernel) (by decide) (by decide) (by decide) (fun q559 => ?_) (fun q560 => ?_)
    · have q559 : 2147483651 < 2147483652 := q559
      refine x_const (np := 76) (x := 9223372034707292159) (a := 2147483647) (by decide +kernel) (by decide) (by decide) ?_
      have z561 := hT.1
      have z562 := Tp.at (p := (h 1 2 + 0)) (u := u19) hT (by first | decide | omega) (by first | decide | omega)
      have g563 : Dg tB tN (h 1 2 + 0) := ⟨by first | decide | omega, by first | decide | omega, by first | decide | omega⟩
      have z564 := Tp.at (p := (h 1 2 + 1)) (u := (1 + u19)) hT (by first | decide | omega) (by first | decide | omega)
      have g565 : Dg tB tN (h 1 2 + 1) := ⟨by first | decide | omega, by first | decide | omega, by first | decide | omega⟩
      have z566 := Tp.at (p := (h 1 2 + 2)) (u := (2 + u19)) hT (by first | decide | omega) (by first | decide | omega)
      have g567 : Dg tB tN (h 1 2 + 2) := ⟨by first | decide | omega, by first | decide | omega, by first | decide | omega⟩
      have z568 := Tp.at (p := (h 1 2 + 3)) (u := (3 + u19)) hT (by first | decide | omega) (by first | decide | omega)
      have g569 : Dg tB tN (h 1 2 + 3) := ⟨by first | decide | omega, by first | decide | omega, by first | decide | omega⟩
      refine x_retI (np := 77) (x := 0) (by decide +kernel) (by decide) (Or.inl (by decide +kernel)) ⟨_, rfl, (by decide), ?_⟩
      exact ⟨hJ, hF, (by first | decide | omega), (by first | decide | omega), (fun z => by first | decide | omega), (fun z => by first | decide | omega), (Nr.nob (by first | decide | omega) (Nb.mk4 g563 g565 g567 g569))⟩
    have q560 : ¬ (2147483651 < 2147483652) := q560
    exfalso; omega
  have q556 : ¬ (2147483651 < 2147483652) := q556
  exfalso; omega
set_option maxHeartbeats 0 in
/-- LentNames$TownReader.readSighting()Z -/
theorem c100_61 {sc : Nat × Nat} {d  : Nat} {h : xh} {tB : Nat → Nat} {tN : Nat} (hJ : J h) (hr0 : (rv h 5) + 1 ≤ 2147483658) (hT : Tp tB tN h) : X sc 100 (d + 7) (xI fun r h' => J h' ∧ Fr 36310271995674657 h h' ∧ (2147483648 ≤ r ∧ r ≤ 2147483649) ∧ (rv h' 0 = rv h 0) ∧ (rv h' 1 = rv h 1) ∧ (rv h' 2 = rv h 2) ∧ (rv h' 3 = rv h 3) ∧ (rv h' 4 = rv h 4) ∧ (r = 2147483649 → rv h' 5 = rv h 5 + 1) ∧ seen9 tB tN (rv h 0) (h 1 2) (rs r (h' 1 2)) ∧ Ot (h 61 1) h h' ∧ (r = 2147483649 → Sx tB tN (rv h 0) (rv h 5) (h 1 2) (ab (aq h (h 61 1)) (bq h (h 61 1))) (ab (aq h' (h 61 1)) (bq h' (h 61 1))))) 0 0 0 [x_r 61, 147573952589676412928] [] h := by
  have hF := Fr.refl 36310271995674657 h
  have t1 : tw (h 61 1) := hJ.2.2.2.2.1
  have b2 := jB (e := 2) 0 hJ (rg_T7_2_0_1 t1) (by first | decide | omega) (by first | decide | omega)
  have e3 : rv h 5 = (h ((h 61 1) + 7) 2) := (congrArg (fun z => svq h z 5) rfl).trans rfl
  refine x_aload (np := 1) (x := 0) (by decide +kernel) rfl (x_nc_le (by decide)) ?_
  refine x_getR (np := 4) (x := 577) (f := 1) (q := (h 61 1)) (by decide +kernel) (by decide) (by decide +kernel) rfl ?_
  have q4 : h (h 61 1) 3 = ((h 61 1) + 7) := tf_0_3 hJ t1
  refine x_getR (np := 7) (x := 515) (f := 3) (q := ((h 61 1) + 7)) (by decide +kernel) (by decide) (tg_0_515_3_1 t1) q4 ?_
  refine x_cI (t := 6) (mj := 67) (n := 1) (rc := 7) (ml := 2) (nr := 0) (np := 10) (as := [x_r ((h 61 1) + 7)]) (rest := []) (lo1 := [x_r ((h 61 1) + 7), 147573952589676412928]) (by decide +kernel) (by decide) (by decide +kernel) (x_rb_of (tr_7_7 t1)) rfl rfl (x_wr (tn_7 t1) x_wn) x_wn (by decide) rfl (c67_T7 hJ t1 (by first | decide | omega)) (fun v5 h8 l6 q7 => ?_)
  obtain ⟨j9, f10, b11, c12, c13, c14, c15, c16, c17, c18, c19, c20, c21⟩ := q7
  have f22 := Fr.trans hF f10 (by decide)
  have b23 := jB (e := 7) 0 hJ (rg_T0_7_0_1 t1) (by first | decide | omega) (by first | decide | omega)
  have b24 := jB (e := 7) 0 j9 (rg_T0_7_0_1 t1) (by first | decide | omega) (by first | decide | omega)
  have b25 := jB (e := 2) 0 hJ (rg_T1_2_0_1 t1) (by first | decide | omega) (by first | decide | omega)
  have b26 := jB (e := 2) 0 j9 (rg_T1_2_0_1 t1) (by first | decide | omega) (by first | decide | omega)
  have b27 := jB (e := 2) 0 hJ (rg_T3_2_0_1 t1) (by first | decide | omega) (by first | decide | omega)
  have b28 := jB (e := 2) 0 j9 (rg_T3_2_0_1 t1) (by first | decide | omega) (by first | decide | omega)
  have b29 := jB (e := 2) 0 hJ (rg_T5_2_0_1 t1) (by first | decide | omega) (by first | decide | omega)
  have b30 := jB (e := 2) 0 j9 (rg_T5_2_0_1 t1) (by first | decide | omega) (by first | decide | omega)
  have b31 := jB (e := 2) 0 j9 (rg_T7_2_0_1 t1) (by first | decide | omega) (by first | decide | omega)
  refine x_istore (np := 11) (x := 1) (lo' := [x_r 61, iv_c v5]) (by decide +kernel) l6 (Nat.le_of_ble_eq_true rfl) rfl ?_
  refine x_aload (np := 12) (x := 0) (by decide +kernel) rfl (x_nc_le (by decide)) ?_
  refine x_aload (np := 13) (x := 0) (by decide +kernel) rfl (x_nc_le (by decide)) ?_
  have q32 : h8 61 1 = h 61 1 := f10 61 1 (by decide +kernel)
  refine x_getR (np := 16) (x := 577) (f := 1) (q := (h 61 1)) (by decide +kernel) (by decide) (by decide +kernel) q32 ?_
  have q33 : h8 (h 61 1) 3 = ((h 61 1) + 7) := tf_0_3 j9 t1
  refine x_getR (np := 19) (x := 515) (f := 3) (q := ((h 61 1) + 7)) (by decide +kernel) (by decide) (tg_0_515_3_1 t1) q33 ?_
  refine x_iload (np := 20) (x := 1) (by decide +kernel) rfl l6 ?_
  refine x_const (np := 21) (x := 9223372039002259456) (a := 2147483648) (by decide +kernel) (by decide) (by decide) ?_
  refine x_const (np := 22) (x := 9223372039002259456) (a := 2147483648) (by decide +kernel) (by decide) (by decide) ?_
  refine x_aload (np := 23) (x := 0) (by decide +kernel) rfl (x_nc_le (by decide)) ?_
  have q34 : h8 61 1 = h 61 1 := f10 61 1 (by decide +kernel)
  refine x_getR (np := 26) (x := 577) (f := 1) (q := (h 61 1)) (by decide +kernel) (by decide) (by decide +kernel) q34 ?_
  refine x_getC (np := 29) (x := 519) (f := 7) (q := (h8 (h 61 1) 7)) (by decide +kernel) (by decide) (tg_0_519_7_0 t1) rfl (fun l35 => ?_)
  refine x_const (np := 30) (x := 9223372043297226753) (a := 2147483649) (by decide +kernel) (by decide) (by decide) ?_
  obtain ⟨v36, q37⟩ : ∃ z, z + 2147483649 = (h8 (h 61 1) 7) + 2147483648 := ⟨(h8 (h 61 1) 7) + 2147483648 - 2147483649, by first | decide | omega⟩
  refine x_isub (np := 31) (x := 0) (v := v36) (by decide +kernel) l35 (by decide) (by first | decide | omega) (by first | decide | omega) ?_
  refine x_nI (t := 6) (mj := 102) (n := 6) (rc := 10) (ml := 7) (nr := 0) (np := 34) (as := [x_r 61, x_r ((h 61 1) + 7), iv_c v5, iv_c 2147483648, iv_c 2147483648, iv_c v36]) (rest := []) (lo1 := [x_r 61, x_r ((h 61 1) + 7), iv_c v5, iv_c 2147483648, iv_c 2147483648, iv_c v36, 147573952589676412928]) (by decide +kernel) (by decide) (by decide +kernel) (x_rb_of (by decide +kernel)) rfl rfl (x_wr (by decide) (x_wr (tn_7 t1) (x_wi l6 (x_wi (by decide) (x_wi (by decide) (x_wi (by first | decide | omega) x_wn)))))) x_wn (by decide) rfl ?_
  refine x_aload (np := 1) (x := 0) (by decide +kernel) rfl (x_nc_le (by decide)) ?_
  have q38 : h8 61 0 = 1 := by have z := jB (e := 0) 0 j9 rg_61_0_0_1 (by decide) (by decide); omega
  refine x_getR (np := 4) (x := 576) (f := 0) (q := 1) (by decide +kernel) (by decide) (by decide +kernel) q38 ?_
  refine x_iload (np := 6) (x := 4) (by decide +kernel) rfl (by decide) ?_
  refine x_iload (np := 8) (x := 5) (by decide +kernel) rfl (by first | decide | omega) ?_
  have m42 := Tp.fr hT f10 (by decide) (by decide)
  refine x_cI (t := 6) (mj := 79) (n := 3) (rc := 8) (ml := 5) (nr := 0) (np := 11) (as := [x_r 1, iv_c 2147483648, iv_c v36]) (rest := []) (lo1 := [x_r 1, iv_c 2147483648, iv_c v36, 147573952589676412928, 147573952589676412928]) (by decide +kernel) (by decide) (by decide +kernel) (x_rb_of (by decide +kernel)) rfl rfl (x_wr (by decide) (x_wi (by decide) (x_wi (by first | decide | omega) x_wn))) x_wn (by decide) rfl (c79_1_c0 j9   (by first | decide | omega) m42) (fun v39 h43 l40 q41 => ?_)
  obtain ⟨j44, f45, b46, c47, c48, c49, c50⟩ := q41
  have f51 := Fr.trans f22 f45 (by decide)
  have q52 : h8 1 2 = h 1 2 := jK 0 f10 rg_1_2_0_1 (by first | decide | omega) (by first | decide | omega) (by decide)
  have b53 := jB (e := 2) 0 hJ rg_1_2_0_1 (by first | decide | omega) (by first | decide | omega)
  have b54 := jB (e := 2) 0 j44 rg_1_2_0_1 (by first | decide | omega) (by first | decide | omega)
  have q55 : h8 1 2 = h 1 2 := jK 0 f10 rg_1_2_0_1 (by first | decide | omega) (by first | decide | omega) (by decide)
  refine x_istore (np := 13) (x := 6) (lo' := [x_r 61, x_r ((h 61 1) + 7), iv_c v5, iv_c 2147483648, iv_c 2147483648, iv_c v36, iv_c v39]) (by decide +kernel) l40 (Nat.le_of_ble_eq_true rfl) rfl ?_
  refine x_iload (np := 15) (x := 6) (by decide +kernel) rfl l40 ?_
  refine x_const (np := 16) (x := 9223372034707292159) (a := 2147483647) (by decide +kernel) (by decide) (by decide) ?_
  refine x_icmp (k := 1) (tg := 21) (np := 19) (by decide +kernel) (by decide) l40 (by decide) (fun q56 => ?_) (fun q57 => ?_)
  · have q56 : v39 ≠ 2147483647 := q56
    have b58 := c48 (by first | decide | omega)
    refine x_aload (np := 22) (x := 1) (by decide +kernel) rfl (x_nc_le (tn_7 t1)) ?_
    refine x_iload (np := 23) (x := 2) (by decide +kernel) rfl l6 ?_
    refine x_iload (np := 24) (x := 3) (by decide +kernel) rfl (by decide) ?_
    refine x_iload (np := 26) (x := 6) (by decide +kernel) rfl l40 ?_
    refine x_nV (t := 6) (mj := 69) (n := 4) (rc := 7) (ml := 5) (nr := 0) (np := 29) (as := [x_r ((h 61 1) + 7), iv_c v5, iv_c 2147483648, iv_c v39]) (rest := []) (lo1 := [x_r ((h 61 1) + 7), iv_c v5, iv_c 2147483648, iv_c v39, 147573952589676412928]) (by decide +kernel) (by decide) (by decide +kernel) (x_rb_of (tr_7_7 t1)) rfl rfl (x_wr (tn_7 t1) (x_wi l6 (x_wi (by decide) (x_wi l40 x_wn)))) x_wn (by decide) rfl ?_
    refine x_iload (np := 1) (x := 1) (by decide +kernel) rfl l6 ?_
    refine x_ifz (k := 2) (tg := 28) (np := 4) (by decide +kernel) (by decide) l6 (fun q59 => ?_) (fun q60 => ?_)
    · have q59 : v5 < 2147483648 := q59
      exfalso; omega
    have q60 : ¬ (v5 < 2147483648) := q60
    refine x_iload (np := 5) (x := 1) (by decide +kernel) rfl l6 ?_
    refine x_aload (np := 6) (x := 0) (by decide +kernel) rfl (x_nc_le (tn_7 t1)) ?_
    have q61 : h43 ((h 61 1) + 7) 2 = h8 ((h 61 1) + 7) 2 := jK 0 f45 (rg_T7_2_0_1 t1) (by first | decide | omega) (by first | decide | omega) (by decide)
    refine x_getC (np := 9) (x := 386) (f := 2) (q := (h8 ((h 61 1) + 7) 2)) (by decide +kernel) (by decide) (tg_7_386_2_0 t1) q61 (fun l62 => ?_)
    refine x_icmp (k := 3) (tg := 28) (np := 12) (by decide +kernel) (by decide) l6 l62 (fun q63 => ?_) (fun q64 => ?_)
    · have q63 : (h8 ((h 61 1) + 7) 2) ≤ v5 := q63
      exfalso; omega
    have q64 : ¬ ((h8 ((h 61 1) + 7) 2) ≤ v5) := q64
    refine x_iload (np := 13) (x := 2) (by decide +kernel) rfl (by decide) ?_
    refine x_ifz (k := 2) (tg := 28) (np := 16) (by decide +kernel) (by decide) (by decide) (fun q65 => ?_) (fun q66 => ?_)
    · have q65 : 2147483648 < 2147483648 := q65
      exfalso; omega
    have q66 : ¬ (2147483648 < 2147483648) := q66
    refine x_iload (np := 17) (x := 2) (by decide +kernel) rfl (by decide) ?_
    refine x_aload (np := 18) (x := 0) (by decide +kernel) rfl (x_nc_le (tn_7 t1)) ?_
    have q67 : h43 ((h 61 1) + 7) 0 = h8 ((h 61 1) + 7) 0 := jK 0 f45 (rg_T7_0_0_1 t1) (by first | decide | omega) (by first | decide | omega) (by decide)
    have q68 : h8 ((h 61 1) + 7) 0 = h ((h 61 1) + 7) 0 := jK 0 f10 (rg_T7_0_0_1 t1) (by first | decide | omega) (by first | decide | omega) (by decide)
    have b69 := jB (e := 0) 0 hJ (rg_T7_0_0_1 t1) (by first | decide | omega) (by first | decide | omega)
    have q70 : (h ((h 61 1) + 7) 0) = 2147483652 := by first | decide | omega
    refine x_getC (np := 21) (x := 384) (f := 0) (q := 2147483652) (by decide +kernel) (by decide) (tg_7_384_0_0 t1) ((q67.trans q68).trans q70) (fun l71 => ?_)
    refine x_icmp (k := 3) (tg := 28) (np := 24) (by decide +kernel) (by decide) (by decide) (by decide) (fun q72 => ?_) (fun q73 => ?_)
    · have q72 : 2147483652 ≤ 2147483648 := q72
      exfalso; omega
    have q73 : ¬ (2147483652 ≤ 2147483648) := q73
    refine x_const (np := 25) (x := 9223372043297226753) (a := 2147483649) (by decide +kernel) (by decide) (by decide) ?_
    refine x_goto (np := 28) (x := 29) (by decide +kernel) ?_
    refine x_istore (np := 31) (x := 4) (lo' := [x_r ((h 61 1) + 7), iv_c v5, iv_c 2147483648, iv_c v39, iv_c 2147483649]) (by decide +kernel) (by decide) (Nat.le_of_ble_eq_true rfl) rfl ?_
    refine x_iload (np := 33) (x := 4) (by decide +kernel) rfl (by decide) ?_
    refine x_ifz (k := 0) (tg := 50) (np := 36) (by decide +kernel) (by decide) (by decide) (fun q74 => ?_) (fun q75 => ?_)
    · have q74 : 2147483649 = 2147483648 := q74
      exfalso; omega
    have q75 : ¬ (2147483649 = 2147483648) := q75
    refine x_aload (np := 37) (x := 0) (by decide +kernel) rfl (x_nc_le (tn_7 t1)) ?_
    have q76 : h43 ((h 61 1) + 7) 1 = ((h 61 1) + 8) := tf_7_1 j44 t1
    refine x_getR (np := 40) (x := 385) (f := 1) (q := ((h 61 1) + 8)) (by decide +kernel) (by decide) (tg_7_385_1_1 t1) q76 ?_
    refine x_iload (np := 41) (x := 1) (by decide +kernel) rfl l6 ?_
    refine x_aload (np := 42) (x := 0) (by decide +kernel) rfl (x_nc_le (tn_7 t1)) ?_
    have q77 : h43 ((h 61 1) + 7) 0 = h8 ((h 61 1) + 7) 0 := jK 0 f45 (rg_T7_0_0_1 t1) (by first | decide | omega) (by first | decide | omega) (by decide)
    have q78 : h8 ((h 61 1) + 7) 0 = h ((h 61 1) + 7) 0 := jK 0 f10 (rg_T7_0_0_1 t1) (by first | decide | omega) (by first | decide | omega) (by decide)
    refine x_getC (np := 45) (x := 384) (f := 0) (q := 2147483652) (by decide +kernel) (by decide) (tg_7_384_0_0 t1) ((q77.trans q78).trans q70) (fun l79 => ?_)
    obtain ⟨u80, q81⟩ : ∃ z, v5 = 2147483648 + z := ⟨v5 - 2147483648, by first | decide | omega⟩
    refine x_imul (np := 46) (x := 0) (i := u80) (j := 4) (v := (2147483648 + 4 * u80)) (by decide +kernel) (by first | decide | omega) (by first | decide | omega) (by first | decide | omega) (by first | decide | omega) l6 (by decide) ?_
    refine x_iload (np := 47) (x := 2) (by decide +kernel) rfl (by decide) ?_
    refine x_iadd (np := 48) (x := 0) (v := (2147483648 + 4 * u80)) (by decide +kernel) (by first | decide | omega) (by decide) (by first | decide | omega) (by first | decide | omega) ?_
    refine x_iload (np := 49) (x := 3) (by decide +kernel) rfl l40 ?_
    refine x_ast (np := 50) (x := 0) (kd := 1) (n := 40) (i := (4 * u80)) (by decide +kernel) (Or.inl rfl) (ta_8_40 t1) (by first | decide | omega) (by first | decide | omega) (by decide) l40 (fun z => absurd z (by decide)) ?_
    have j84 := jU (e := (4 * u80)) (v := v39) u80 j44 (rg_T8_0_4_10 t1) (by first | decide | omega) (by first | decide | omega) (by first | decide | omega)
    have f86 := jF (e := (4 * u80)) (v := v39) u80 f51 (rg_T8_0_4_10 t1) (by first | decide | omega) (by first | decide | omega) (by decide)
    generalize e85 : x_up h43 ((h 61 1) + 8) (4 * u80) v39 = h83 at j84 f86 ⊢
    refine x_retV (np := 51) (x := 0) (by decide +kernel) (by decide +kernel) ⟨rfl, ?_⟩
    refine x_const (np := 30) (x := 9223372043297226753) (a := 2147483649) (by decide +kernel) (by decide) (by decide) ?_
    refine x_retI (np := 31) (x := 0) (by decide +kernel) (by decide) (Or.inr ⟨by decide +kernel, by first | decide | omega, by first | decide | omega⟩) ⟨_, rfl, (by decide), ?_⟩
    refine x_ifz (k := 0) (tg := 88) (np := 37) (by decide +kernel) (by decide) (by decide) (fun q87 => ?_) (fun q88 => ?_)
    · have q87 : 2147483649 = 2147483648 := q87
      exfalso; omega
    have q88 : ¬ (2147483649 = 2147483648) := q88
    refine x_aload (np := 38) (x := 0) (by decide +kernel) rfl (x_nc_le (by decide)) ?_
    have q89 : h83 61 0 = 1 := by have z := jB (e := 0) 0 j84 rg_61_0_0_1 (by decide) (by decide); omega
    refine x_getR (np := 41) (x := 576) (f := 0) (q := 1) (by decide +kernel) (by decide) (by decide +kernel) q89 ?_
    refine x_ldcB (i := 2) (idx := 111) (tx := "day") (by rw [tb_y100]; exact List.mem_of_getElem? (i := 2) rfl) (by decide) (by rw [tb_b100]; decide +kernel) ?_
    have m94 := Tp.fr m42 f45 (by decide) (by decide)
    have m93 : Tp tB tN h83 := by rw [← e85]; exact Tp.oth m94 (tne_8_2 t1) (fun z => absurd z.1 (tne_8_1 t1))
    refine x_cI (t := 6) (mj := 78) (n := 2) (rc := 8) (ml := 2) (nr := 0) (np := 46) (as := [x_r 1, x_b (2 + 1)]) (rest := []) (lo1 := [x_r 1, x_b (2 + 1)]) (by decide +kernel) (by decide) (by decide +kernel) (x_rb_of (by decide +kernel)) rfl rfl (x_wr (by decide) (x_wB (by decide) x_wn)) x_wn (by decide) rfl (c78_1_S0 j84  (by decide) m93) (fun v90 h95 l91 q92 => ?_)
    obtain ⟨j96, f97, b98, c99, c100, c101⟩ := q92
    have f102 := Fr.trans f86 f97 (by decide)
    have q103 : h83 1 2 = h43 1 2 := by rw [← e85]; exact x_up_k (Ne.symm (tne_8_1 t1))
    have b104 := jB (e := 2) 0 j96 rg_1_2_0_1 (by first | decide | omega) (by first | decide | omega)
    have b105 : iv_tl 2 = 3 := by decide
    have q106 : h83 1 2 = h43 1 2 := by rw [← e85]; exact x_up_k (Ne.symm (tne_8_1 t1))
    refine x_ifz (k := 0) (tg := 88) (np := 49) (by decide +kernel) (by decide) l91 (fun q107 => ?_) (fun q108 => ?_)
    · have q107 : v90 = 2147483648 := q107
      have b109 := c100 (by first | decide | omega)
      refine x_const (np := 89) (x := 9223372039002259456) (a := 2147483648) (by decide +kernel) (by decide) (by decide) ?_
      have e110 : rv h 0 = (h (h 61 1) 7) := (congrArg (fun z => svq h z 0) rfl).trans rfl
      have q111 : h95 61 1 = h83 61 1 := f97 61 1 (by decide +kernel)
      have q112 : h83 61 1 = h43 61 1 := by rw [← e85]; exact x_up_k (Ne.symm (tne_8_61 t1))
      have q113 : h43 61 1 = h8 61 1 := f45 61 1 (by decide +kernel)
      have q114 : h8 61 1 = h 61 1 := f10 61 1 (by decide +kernel)
      have q115 : h95 (h 61 1) 7 = h83 (h 61 1) 7 := jK 0 f97 (rg_T0_7_0_1 t1) (by first | decide | omega) (by first | decide | omega) (by decide)
      have q116 : h83 (h 61 1) 7 = h43 (h 61 1) 7 := by rw [← e85]; exact x_up_k tof_0_8
      have q117 : h43 (h 61 1) 7 = h8 (h 61 1) 7 := jK 0 f45 (rg_T0_7_0_1 t1) (by first | decide | omega) (by first | decide | omega) (by decide)
      have e118 : rv h95 0 = (h8 (h 61 1) 7) := (congrArg (fun z => svq h95 z 0) (((q111.trans q112).trans q113).trans q114)).trans ((q115.trans q116).trans q117)
      have e119 : rv h 1 = (h (h 61 1) 8) := (congrArg (fun z => svq h z 1) rfl).trans rfl
      have q120 : h95 61 1 = h83 61 1 := f97 61 1 (by decide +kernel)
      have q121 : h83 61 1 = h43 61 1 := by rw [← e85]; exact x_up_k (Ne.symm (tne_8_61 t1))
      have q122 : h43 61 1 = h8 61 1 := f45 61 1 (by decide +kernel)
      have q123 : h8 61 1 = h 61 1 := f10 61 1 (by decide +kernel)
      have q124 : h95 (h 61 1) 8 = h83 (h 61 1) 8 := jK 0 f97 (rg_T0_8_0_1 t1) (by first | decide | omega) (by first | decide | omega) (by decide)
      have q125 : h83 (h 61 1) 8 = h43 (h 61 1) 8 := by rw [← e85]; exact x_up_k tof_0_8
      have q126 : h43 (h 61 1) 8 = h8 (h 61 1) 8 := jK 0 f45 (rg_T0_8_0_1 t1) (by first | decide | omega) (by first | decide | omega) (by decide)
      have e127 : rv h95 1 = (h8 (h 61 1) 8) := (congrArg (fun z => svq h95 z 1) (((q120.trans q121).trans q122).trans q123)).trans ((q124.trans q125).trans q126)
      have e128 : rv h 2 = (h ((h 61 1) + 1) 2) := (congrArg (fun z => svq h z 2) rfl).trans rfl
      have q129 : h95 61 1 = h83 61 1 := f97 61 1 (by decide +kernel)
      have q130 : h83 61 1 = h43 61 1 := by rw [← e85]; exact x_up_k (Ne.symm (tne_8_61 t1))
      have q131 : h43 61 1 = h8 61 1 := f45 61 1 (by decide +kernel)
      have q132 : h8 61 1 = h 61 1 := f10 61 1 (by decide +kernel)
      have q133 : h95 ((h 61 1) + 1) 2 = h83 ((h 61 1) + 1) 2 := jK 0 f97 (rg_T1_2_0_1 t1) (by first | decide | omega) (by first | decide | omega) (by decide)
      have q134 : h83 ((h 61 1) + 1) 2 = h43 ((h 61 1) + 1) 2 := by rw [← e85]; exact x_up_k tof_1_8
      have q135 : h43 ((h 61 1) + 1) 2 = h8 ((h 61 1) + 1) 2 := jK 0 f45 (rg_T1_2_0_1 t1) (by first | decide | omega) (by first | decide | omega) (by decide)
      have e136 : rv h95 2 = (h8 ((h 61 1) + 1) 2) := (congrArg (fun z => svq h95 z 2) (((q129.trans q130).trans q131).trans q132)).trans ((q133.trans q134).trans q135)
      have e137 : rv h 3 = (h ((h 61 1) + 3) 2) := (congrArg (fun z => svq h z 3) rfl).trans rfl
      have q138 : h95 61 1 = h83 61 1 := f97 61 1 (by decide +kernel)
      have q139 : h83 61 1 = h43 61 1 := by rw [← e85]; exact x_up_k (Ne.symm (tne_8_61 t1))
      have q140 : h43 61 1 = h8 61 1 := f45 61 1 (by decide +kernel)
      have q141 : h8 61 1 = h 61 1 := f10 61 1 (by decide +kernel)
      have q142 : h95 ((h 61 1) + 3) 2 = h83 ((h 61 1) + 3) 2 := jK 0 f97 (rg_T3_2_0_1 t1) (by first | decide | omega) (by first | decide | omega) (by decide)
      have q143 : h83 ((h 61 1) + 3) 2 = h43 ((h 61 1) + 3) 2 := by rw [← e85]; exact x_up_k tof_3_8
      have q144 : h43 ((h 61 1) + 3) 2 = h8 ((h 61 1) + 3) 2 := jK 0 f45 (rg_T3_2_0_1 t1) (by first | decide | omega) (by first | decide | omega) (by decide)
      have e145 : rv h95 3 = (h8 ((h 61 1) + 3) 2) := (congrArg (fun z => svq h95 z 3) (((q138.trans q139).trans q140).trans q141)).trans ((q142.trans q143).trans q144)
      have e146 : rv h 4 = (h ((h 61 1) + 5) 2) := (congrArg (fun z => svq h z 4) rfl).trans rfl
      have q147 : h95 61 1 = h83 61 1 := f97 61 1 (by decide +kernel)
      have q148 : h83 61 1 = h43 61 1 := by rw [← e85]; exact x_up_k (Ne.symm (tne_8_61 t1))
      have q149 : h43 61 1 = h8 61 1 := f45 61 1 (by decide +kernel)
      have q150 : h8 61 1 = h 61 1 := f10 61 1 (by decide +kernel)
      have q151 : h95 ((h 61 1) + 5) 2 = h83 ((h 61 1) + 5) 2 := jK 0 f97 (rg_T5_2_0_1 t1) (by first | decide | omega) (by first | decide | omega) (by decide)
      have q152 : h83 ((h 61 1) + 5) 2 = h43 ((h 61 1) + 5) 2 := by rw [← e85]; exact x_up_k tof_5_8
      have q153 : h43 ((h 61 1) + 5) 2 = h8 ((h 61 1) + 5) 2 := jK 0 f45 (rg_T5_2_0_1 t1) (by first | decide | omega) (by first | decide | omega) (by decide)
      have e154 : rv h95 4 = (h8 ((h 61 1) + 5) 2) := (congrArg (fun z => svq h95 z 4) (((q147.trans q148).trans q149).trans q150)).trans ((q151.trans q152).trans q153)
      have q155 : h95 61 1 = h83 61 1 := f97 61 1 (by decide +kernel)
      have q156 : h83 61 1 = h43 61 1 := by rw [← e85]; exact x_up_k (Ne.symm (tne_8_61 t1))
      have q157 : h43 61 1 = h8 61 1 := f45 61 1 (by decide +kernel)
      have q158 : h8 61 1 = h 61 1 := f10 61 1 (by decide +kernel)
      have q159 : h95 ((h 61 1) + 7) 2 = h83 ((h 61 1) + 7) 2 := jK 0 f97 (rg_T7_2_0_1 t1) (by first | decide | omega) (by first | decide | omega) (by decide)
      have q160 : h83 ((h 61 1) + 7) 2 = h43 ((h 61 1) + 7) 2 := by rw [← e85]; exact x_up_k tof_7_8
      have q161 : h43 ((h 61 1) + 7) 2 = h8 ((h 61 1) + 7) 2 := jK 0 f45 (rg_T7_2_0_1 t1) (by first | decide | omega) (by first | decide | omega) (by decide)
      have e162 : rv h95 5 = (h8 ((h 61 1) + 7) 2) := (congrArg (fun z => svq h95 z 5) (((q155.trans q156).trans q157).trans q158)).trans ((q159.trans q160).trans q161)
      have q163 : h8 1 2 = h 1 2 := jK 0 f10 rg_1_2_0_1 (by first | decide | omega) (by first | decide | omega) (by decide)
      have q164 : h83 1 2 = h43 1 2 := by rw [← e85]; exact x_up_k (Ne.symm (tne_8_1 t1))
      obtain ⟨w165, e166⟩ := Tk.no c101 (by first | decide | omega)
      have m167 : Ot (h 61 1) h h8 := Ot.trans Ot.refl (c19)
      have m168 : Ot (h 61 1) h h43 := Ot.fr m167 f45 (by decide)
      have m169 : Ot (h 61 1) h h83 := by rw [← e85]; exact Ot.up (o := 8) m168 t1 (by decide) rfl
      have m170 : Ot (h 61 1) h h95 := Ot.fr m169 f97 (by decide)
      refine x_retI (np := 90) (x := 0) (by decide +kernel) (by decide) (Or.inr ⟨by decide +kernel, by first | decide | omega, by first | decide | omega⟩) ⟨_, rfl, (by decide), ?_⟩
      exact ⟨j96, f102, (by first | decide | omega), (by first | decide | omega), (by first | decide | omega), (by first | decide | omega), (by first | decide | omega), (by first | decide | omega), (fun z => by first | decide | omega), (nm9.y c50 (by first | decide | omega) (by first | decide | omega) (show h8 1 2 = h 1 2 by first | decide | omega) (by first | decide | omega) rfl (wd9.f w165 (show h83 1 2 = h43 1 2 by first | decide | omega) (by first | decide | omega))), m170, (fun z => absurd z (by first | decide | omega))⟩
    have q108 : ¬ (v90 = 2147483648) := q108
    have b171 := c99 (by first | decide | omega)
    refine x_aload (np := 50) (x := 0) (by decide +kernel) rfl (x_nc_le (by decide)) ?_
    refine x_aload (np := 51) (x := 0) (by decide +kernel) rfl (x_nc_le (by decide)) ?_
    have q172 : h95 61 1 = h83 61 1 := f97 61 1 (by decide +kernel)
    have q173 : h83 61 1 = h43 61 1 := by rw [← e85]; exact x_up_k (Ne.symm (tne_8_61 t1))
    have q174 : h43 61 1 = h8 61 1 := f45 61 1 (by decide +kernel)
    have q175 : h8 61 1 = h 61 1 := f10 61 1 (by decide +kernel)
    refine x_getR (np := 54) (x := 577) (f := 1) (q := (h 61 1)) (by decide +kernel) (by decide) (by decide +kernel) (((q172.trans q173).trans q174).trans q175) ?_
    have q176 : h95 (h 61 1) 3 = ((h 61 1) + 7) := tf_0_3 j96 t1
    refine x_getR (np := 57) (x := 515) (f := 3) (q := ((h 61 1) + 7)) (by decide +kernel) (by decide) (tg_0_515_3_1 t1) q176 ?_
    refine x_iload (np := 58) (x := 1) (by decide +kernel) rfl l6 ?_
    refine x_const (np := 59) (x := 9223372043297226753) (a := 2147483649) (by decide +kernel) (by decide) (by decide) ?_
    refine x_const (np := 60) (x := 9223372039002259456) (a := 2147483648) (by decide +kernel) (by decide) (by decide) ?_
    refine x_const (np := 62) (x := 9223372086246899723) (a := 2147483659) (by decide +kernel) (by decide) (by decide) ?_
    refine x_nI (t := 6) (mj := 102) (n := 6) (rc := 10) (ml := 7) (nr := 0) (np := 65) (as := [x_r 61, x_r ((h 61 1) + 7), iv_c v5, iv_c 2147483649, iv_c 2147483648, iv_c 2147483659]) (rest := []) (lo1 := [x_r 61, x_r ((h 61 1) + 7), iv_c v5, iv_c 2147483649, iv_c 2147483648, iv_c 2147483659, 147573952589676412928]) (by decide +kernel) (by decide) (by decide +kernel) (x_rb_of (by decide +kernel)) rfl rfl (x_wr (by decide) (x_wr (tn_7 t1) (x_wi l6 (x_wi (by decide) (x_wi (by decide) (x_wi (by decide) x_wn)))))) x_wn (by decide) rfl ?_
    refine x_aload (np := 1) (x := 0) (by decide +kernel) rfl (x_nc_le (by decide)) ?_
    have q177 : h95 61 0 = 1 := by have z := jB (e := 0) 0 j96 rg_61_0_0_1 (by decide) (by decide); omega
    refine x_getR (np := 4) (x := 576) (f := 0) (q := 1) (by decide +kernel) (by decide) (by decide +kernel) q177 ?_
    refine x_iload (np := 6) (x := 4) (by decide +kernel) rfl (by decide) ?_
    refine x_iload (np := 8) (x := 5) (by decide +kernel) rfl (by decide) ?_
    have m181 := Tp.fr m93 f97 (by decide) (by decide)
    refine x_cI (t := 6) (mj := 79) (n := 3) (rc := 8) (ml := 5) (nr := 0) (np := 11) (as := [x_r 1, iv_c 2147483648, iv_c 2147483659]) (rest := []) (lo1 := [x_r 1, iv_c 2147483648, iv_c 2147483659, 147573952589676412928, 147573952589676412928]) (by decide +kernel) (by decide) (by decide +kernel) (x_rb_of (by decide +kernel)) rfl rfl (x_wr (by decide) (x_wi (by decide) (x_wi (by decide) x_wn))) x_wn (by decide) rfl (c79_1_c0 j96   (by first | decide | omega) m181) (fun v178 h182 l179 q180 => ?_)
    obtain ⟨j183, f184, b185, c186, c187, c188, c189⟩ := q180
    have f190 := Fr.trans f102 f184 (by decide)
    have b191 := jB (e := 2) 0 j183 rg_1_2_0_1 (by first | decide | omega) (by first | decide | omega)
    refine x_istore (np := 13) (x := 6) (lo' := [x_r 61, x_r ((h 61 1) + 7), iv_c v5, iv_c 2147483649, iv_c 2147483648, iv_c 2147483659, iv_c v178]) (by decide +kernel) l179 (Nat.le_of_ble_eq_true rfl) rfl ?_
    refine x_iload (np := 15) (x := 6) (by decide +kernel) rfl l179 ?_
    refine x_const (np := 16) (x := 9223372034707292159) (a := 2147483647) (by decide +kernel) (by decide) (by decide) ?_
    refine x_icmp (k := 1) (tg := 21) (np := 19) (by decide +kernel) (by decide) l179 (by decide) (fun q192 => ?_) (fun q193 => ?_)
    · have q192 : v178 ≠ 2147483647 := q192
      have b194 := c187 (by first | decide | omega)
      refine x_aload (np := 22) (x := 1) (by decide +kernel) rfl (x_nc_le (tn_7 t1)) ?_
      refine x_iload (np := 23) (x := 2) (by decide +kernel) rfl l6 ?_
      refine x_iload (np := 24) (x := 3) (by decide +kernel) rfl (by decide) ?_
      refine x_iload (np := 26) (x := 6) (by decide +kernel) rfl l179 ?_
      refine x_nV (t := 6) (mj := 69) (n := 4) (rc := 7) (ml := 5) (nr := 0) (np := 29) (as := [x_r ((h 61 1) + 7), iv_c v5, iv_c 2147483649, iv_c v178]) (rest := []) (lo1 := [x_r ((h 61 1) + 7), iv_c v5, iv_c 2147483649, iv_c v178, 147573952589676412928]) (by decide +kernel) (by decide) (by decide +kernel) (x_rb_of (tr_7_7 t1)) rfl rfl (x_wr (tn_7 t1) (x_wi l6 (x_wi (by decide) (x_wi l179 x_wn)))) x_wn (by decide) rfl ?_
      refine x_iload (np := 1) (x := 1) (by decide +kernel) rfl l6 ?_
      refine x_ifz (k := 2) (tg := 28) (np := 4) (by decide +kernel) (by decide) l6 (fun q195 => ?_) (fun q196 => ?_)
      · have q195 : v5 < 2147483648 := q195
        exfalso; omega
      have q196 : ¬ (v5 < 2147483648) := q196
      refine x_iload (np := 5) (x := 1) (by decide +kernel) rfl l6 ?_
      refine x_aload (np := 6) (x := 0) (by decide +kernel) rfl (x_nc_le (tn_7 t1)) ?_
      have q197 : h182 ((h 61 1) + 7) 2 = h95 ((h 61 1) + 7) 2 := jK 0 f184 (rg_T7_2_0_1 t1) (by first | decide | omega) (by first | decide | omega) (by decide)
      have q198 : h95 ((h 61 1) + 7) 2 = h83 ((h 61 1) + 7) 2 := jK 0 f97 (rg_T7_2_0_1 t1) (by first | decide | omega) (by first | decide | omega) (by decide)
      have q199 : h83 ((h 61 1) + 7) 2 = h43 ((h 61 1) + 7) 2 := by rw [← e85]; exact x_up_k tof_7_8
      have q200 : h43 ((h 61 1) + 7) 2 = h8 ((h 61 1) + 7) 2 := jK 0 f45 (rg_T7_2_0_1 t1) (by first | decide | omega) (by first | decide | omega) (by decide)
      refine x_getC (np := 9) (x := 386) (f := 2) (q := (h8 ((h 61 1) + 7) 2)) (by decide +kernel) (by decide) (tg_7_386_2_0 t1) (((q197.trans q198).trans q199).trans q200) (fun l201 => ?_)
      refine x_icmp (k := 3) (tg := 28) (np := 12) (by decide +kernel) (by decide) l6 l62 (fun q202 => ?_) (fun q203 => ?_)
      · have q202 : (h8 ((h 61 1) + 7) 2) ≤ v5 := q202
        exfalso; omega
      have q203 : ¬ ((h8 ((h 61 1) + 7) 2) ≤ v5) := q203
      refine x_iload (np := 13) (x := 2) (by decide +kernel) rfl (by decide) ?_
      refine x_ifz (k := 2) (tg := 28) (np := 16) (by decide +kernel) (by decide) (by decide) (fun q204 => ?_) (fun q205 => ?_)
      · have q204 : 2147483649 < 2147483648 := q204
        exfalso; omega
      have q205 : ¬ (2147483649 < 2147483648) := q205
      refine x_iload (np := 17) (x := 2) (by decide +kernel) rfl (by decide) ?_
      refine x_aload (np := 18) (x := 0) (by decide +kernel) rfl (x_nc_le (tn_7 t1)) ?_
      have q206 : h182 ((h 61 1) + 7) 0 = h95 ((h 61 1) + 7) 0 := jK 0 f184 (rg_T7_0_0_1 t1) (by first | decide | omega) (by first | decide | omega) (by decide)
      have q207 : h95 ((h 61 1) + 7) 0 = h83 ((h 61 1) + 7) 0 := jK 0 f97 (rg_T7_0_0_1 t1) (by first | decide | omega) (by first | decide | omega) (by decide)
      have q208 : h83 ((h 61 1) + 7) 0 = h43 ((h 61 1) + 7) 0 := by rw [← e85]; exact x_up_k tof_7_8
      have q209 : h43 ((h 61 1) + 7) 0 = h8 ((h 61 1) + 7) 0 := jK 0 f45 (rg_T7_0_0_1 t1) (by first | decide | omega) (by first | decide | omega) (by decide)
      have q210 : h8 ((h 61 1) + 7) 0 = h ((h 61 1) + 7) 0 := jK 0 f10 (rg_T7_0_0_1 t1) (by first | decide | omega) (by first | decide | omega) (by decide)
      refine x_getC (np := 21) (x := 384) (f := 0) (q := 2147483652) (by decide +kernel) (by decide) (tg_7_384_0_0 t1) (((((q206.trans q207).trans q208).trans q209).trans q210).trans q70) (fun l211 => ?_)
      refine x_icmp (k := 3) (tg := 28) (np := 24) (by decide +kernel) (by decide) (by decide) (by decide) (fun q212 => ?_) (fun q213 => ?_)
      · have q212 : 2147483652 ≤ 2147483649 := q212
        exfalso; omega
      have q213 : ¬ (2147483652 ≤ 2147483649) := q213
      refine x_const (np := 25) (x := 9223372043297226753) (a := 2147483649) (by decide +kernel) (by decide) (by decide) ?_
      refine x_goto (np := 28) (x := 29) (by decide +kernel) ?_
      refine x_istore (np := 31) (x := 4) (lo' := [x_r ((h 61 1) + 7), iv_c v5, iv_c 2147483649, iv_c v178, iv_c 2147483649]) (by decide +kernel) (by decide) (Nat.le_of_ble_eq_true rfl) rfl ?_
      refine x_iload (np := 33) (x := 4) (by decide +kernel) rfl (by decide) ?_
      refine x_ifz (k := 0) (tg := 50) (np := 36) (by decide +kernel) (by decide) (by decide) (fun q214 => ?_) (fun q215 => ?_)
      · have q214 : 2147483649 = 2147483648 := q214
        exfalso; omega
      have q215 : ¬ (2147483649 = 2147483648) := q215
      refine x_aload (np := 37) (x := 0) (by decide +kernel) rfl (x_nc_le (tn_7 t1)) ?_
      have q216 : h182 ((h 61 1) + 7) 1 = ((h 61 1) + 8) := tf_7_1 j183 t1
      refine x_getR (np := 40) (x := 385) (f := 1) (q := ((h 61 1) + 8)) (by decide +kernel) (by decide) (tg_7_385_1_1 t1) q216 ?_
      refine x_iload (np := 41) (x := 1) (by decide +kernel) rfl l6 ?_
      refine x_aload (np := 42) (x := 0) (by decide +kernel) rfl (x_nc_le (tn_7 t1)) ?_
      have q217 : h182 ((h 61 1) + 7) 0 = h95 ((h 61 1) + 7) 0 := jK 0 f184 (rg_T7_0_0_1 t1) (by first | decide | omega) (by first | decide | omega) (by decide)
      have q218 : h95 ((h 61 1) + 7) 0 = h83 ((h 61 1) + 7) 0 := jK 0 f97 (rg_T7_0_0_1 t1) (by first | decide | omega) (by first | decide | omega) (by decide)
      have q219 : h83 ((h 61 1) + 7) 0 = h43 ((h 61 1) + 7) 0 := by rw [← e85]; exact x_up_k tof_7_8
      have q220 : h43 ((h 61 1) + 7) 0 = h8 ((h 61 1) + 7) 0 := jK 0 f45 (rg_T7_0_0_1 t1) (by first | decide | omega) (by first | decide | omega) (by decide)
      have q221 : h8 ((h 61 1) + 7) 0 = h ((h 61 1) + 7) 0 := jK 0 f10 (rg_T7_0_0_1 t1) (by first | decide | omega) (by first | decide | omega) (by decide)
      refine x_getC (np := 45) (x := 384) (f := 0) (q := 2147483652) (by decide +kernel) (by decide) (tg_7_384_0_0 t1) (((((q217.trans q218).trans q219).trans q220).trans q221).trans q70) (fun l222 => ?_)
      refine x_imul (np := 46) (x := 0) (i := u80) (j := 4) (v := (2147483648 + 4 * u80)) (by decide +kernel) (by first | decide | omega) (by first | decide | omega) (by first | decide | omega) (by first | decide | omega) l6 (by decide) ?_
      refine x_iload (np := 47) (x := 2) (by decide +kernel) rfl (by decide) ?_
      refine x_iadd (np := 48) (x := 0) (v := (2147483649 + 4 * u80)) (by decide +kernel) (by first | decide | omega) (by decide) (by first | decide | omega) (by first | decide | omega) ?_
      refine x_iload (np := 49) (x := 3) (by decide +kernel) rfl l179 ?_
      refine x_ast (np := 50) (x := 0) (kd := 1) (n := 40) (i := (1 + 4 * u80)) (by decide +kernel) (Or.inl rfl) (ta_8_40 t1) (by first | decide | omega) (by first | decide | omega) (by decide) l179 (fun z => absurd z (by decide)) ?_
      have j225 := jU (e := (1 + 4 * u80)) (v := v178) u80 j183 (rg_T8_1_4_10 t1) (by first | decide | omega) (by first | decide | omega) (by first | decide | omega)
      have f227 := jF (e := (1 + 4 * u80)) (v := v178) u80 f190 (rg_T8_1_4_10 t1) (by first | decide | omega) (by first | decide | omega) (by decide)
      generalize e226 : x_up h182 ((h 61 1) + 8) (1 + 4 * u80) v178 = h224 at j225 f227 ⊢
      refine x_retV (np := 51) (x := 0) (by decide +kernel) (by decide +kernel) ⟨rfl, ?_⟩
      refine x_const (np := 30) (x := 9223372043297226753) (a := 2147483649) (by decide +kernel) (by decide) (by decide) ?_
      refine x_retI (np := 31) (x := 0) (by decide +kernel) (by decide) (Or.inr ⟨by decide +kernel, by first | decide | omega, by first | decide | omega⟩) ⟨_, rfl, (by decide), ?_⟩
      refine x_ifz (k := 0) (tg := 88) (np := 68) (by decide +kernel) (by decide) (by decide) (fun q228 => ?_) (fun q229 => ?_)
      · have q228 : 2147483649 = 2147483648 := q228
        exfalso; omega
      have q229 : ¬ (2147483649 = 2147483648) := q229
      refine x_aload (np := 69) (x := 0) (by decide +kernel) rfl (x_nc_le (by decide)) ?_
      have q230 : h224 61 0 = 1 := by have z := jB (e := 0) 0 j225 rg_61_0_0_1 (by decide) (by decide); omega
      refine x_getR (np := 72) (x := 576) (f := 0) (q := 1) (by decide +kernel) (by decide) (by decide +kernel) q230 ?_
      refine x_ldcB (i := 14) (idx := 157) (tx := "as") (by rw [tb_y100]; exact List.mem_of_getElem? (i := 14) rfl) (by decide) (by rw [tb_b100]; decide +kernel) ?_
      have m235 := Tp.fr m181 f184 (by decide) (by decide)
      have m234 : Tp tB tN h224 := by rw [← e226]; exact Tp.oth m235 (tne_8_2 t1) (fun z => absurd z.1 (tne_8_1 t1))
      refine x_cI (t := 6) (mj := 78) (n := 2) (rc := 8) (ml := 2) (nr := 0) (np := 77) (as := [x_r 1, x_b (14 + 1)]) (rest := []) (lo1 := [x_r 1, x_b (14 + 1)]) (by decide +kernel) (by decide) (by decide +kernel) (x_rb_of (by decide +kernel)) rfl rfl (x_wr (by decide) (x_wB (by decide) x_wn)) x_wn (by decide) rfl (c78_1_S0 j225  (by decide) m234) (fun v231 h236 l232 q233 => ?_)
      obtain ⟨j237, f238, b239, c240, c241, c242⟩ := q233
      have f243 := Fr.trans f227 f238 (by decide)
      have q244 : h224 1 2 = h182 1 2 := by rw [← e226]; exact x_up_k (Ne.symm (tne_8_1 t1))
      have b245 := jB (e := 2) 0 j237 rg_1_2_0_1 (by first | decide | omega) (by first | decide | omega)
      have b246 : iv_tl 14 = 2 := by decide
      have q247 : h224 1 2 = h182 1 2 := by rw [← e226]; exact x_up_k (Ne.symm (tne_8_1 t1))
      refine x_ifz (k := 0) (tg := 88) (np := 80) (by decide +kernel) (by decide) l232 (fun q248 => ?_) (fun q249 => ?_)
      · have q248 : v231 = 2147483648 := q248
        have b250 := c241 (by first | decide | omega)
        refine x_const (np := 89) (x := 9223372039002259456) (a := 2147483648) (by decide +kernel) (by decide) (by decide) ?_
        have e251 : rv h 0 = (h (h 61 1) 7) := (congrArg (fun z => svq h z 0) rfl).trans rfl
        have q252 : h236 61 1 = h224 61 1 := f238 61 1 (by decide +kernel)
        have q253 : h224 61 1 = h182 61 1 := by rw [← e226]; exact x_up_k (Ne.symm (tne_8_61 t1))
        have q254 : h182 61 1 = h95 61 1 := f184 61 1 (by decide +kernel)
        have q255 : h95 61 1 = h83 61 1 := f97 61 1 (by decide +kernel)
        have q256 : h83 61 1 = h43 61 1 := by rw [← e85]; exact x_up_k (Ne.symm (tne_8_61 t1))
        have q257 : h43 61 1 = h8 61 1 := f45 61 1 (by decide +kernel)
        have q258 : h8 61 1 = h 61 1 := f10 61 1 (by decide +kernel)
        have q259 : h236 (h 61 1) 7 = h224 (h 61 1) 7 := jK 0 f238 (rg_T0_7_0_1 t1) (by first | decide | omega) (by first | decide | omega) (by decide)
        have q260 : h224 (h 61 1) 7 = h182 (h 61 1) 7 := by rw [← e226]; exact x_up_k tof_0_8
        have q261 : h182 (h 61 1) 7 = h95 (h 61 1) 7 := jK 0 f184 (rg_T0_7_0_1 t1) (by first | decide | omega) (by first | decide | omega) (by decide)
        have q262 : h95 (h 61 1) 7 = h83 (h 61 1) 7 := jK 0 f97 (rg_T0_7_0_1 t1) (by first | decide | omega) (by first | decide | omega) (by decide)
        have q263 : h83 (h 61 1) 7 = h43 (h 61 1) 7 := by rw [← e85]; exact x_up_k tof_0_8
        have q264 : h43 (h 61 1) 7 = h8 (h 61 1) 7 := jK 0 f45 (rg_T0_7_0_1 t1) (by first | decide | omega) (by first | decide | omega) (by decide)
        have e265 : rv h236 0 = (h8 (h 61 1) 7) := (congrArg (fun z => svq h236 z 0) ((((((q252.trans q253).trans q254).trans q255).trans q256).trans q257).trans q258)).trans (((((q259.trans q260).trans q261).trans q262).trans q263).trans q264)
        have e266 : rv h 1 = (h (h 61 1) 8) := (congrArg (fun z => svq h z 1) rfl).trans rfl
        have q267 : h236 61 1 = h224 61 1 := f238 61 1 (by decide +kernel)
        have q268 : h224 61 1 = h182 61 1 := by rw [← e226]; exact x_up_k (Ne.symm (tne_8_61 t1))
        have q269 : h182 61 1 = h95 61 1 := f184 61 1 (by decide +kernel)
        have q270 : h95 61 1 = h83 61 1 := f97 61 1 (by decide +kernel)
        have q271 : h83 61 1 = h43 61 1 := by rw [← e85]; exact x_up_k (Ne.symm (tne_8_61 t1))
        have q272 : h43 61 1 = h8 61 1 := f45 61 1 (by decide +kernel)
        have q273 : h8 61 1 = h 61 1 := f10 61 1 (by decide +kernel)
        have q274 : h236 (h 61 1) 8 = h224 (h 61 1) 8 := jK 0 f238 (rg_T0_8_0_1 t1) (by first | decide | omega) (by first | decide | omega) (by decide)
        have q275 : h224 (h 61 1) 8 = h182 (h 61 1) 8 := by rw [← e226]; exact x_up_k tof_0_8
        have q276 : h182 (h 61 1) 8 = h95 (h 61 1) 8 := jK 0 f184 (rg_T0_8_0_1 t1) (by first | decide | omega) (by first | decide | omega) (by decide)
        have q277 : h95 (h 61 1) 8 = h83 (h 61 1) 8 := jK 0 f97 (rg_T0_8_0_1 t1) (by first | decide | omega) (by first | decide | omega) (by decide)
        have q278 : h83 (h 61 1) 8 = h43 (h 61 1) 8 := by rw [← e85]; exact x_up_k tof_0_8
        have q279 : h43 (h 61 1) 8 = h8 (h 61 1) 8 := jK 0 f45 (rg_T0_8_0_1 t1) (by first | decide | omega) (by first | decide | omega) (by decide)
        have e280 : rv h236 1 = (h8 (h 61 1) 8) := (congrArg (fun z => svq h236 z 1) ((((((q267.trans q268).trans q269).trans q270).trans q271).trans q272).trans q273)).trans (((((q274.trans q275).trans q276).trans q277).trans q278).trans q279)
        have e281 : rv h 2 = (h ((h 61 1) + 1) 2) := (congrArg (fun z => svq h z 2) rfl).trans rfl
        have q282 : h236 61 1 = h224 61 1 := f238 61 1 (by decide +kernel)
        have q283 : h224 61 1 = h182 61 1 := by rw [← e226]; exact x_up_k (Ne.symm (tne_8_61 t1))
        have q284 : h182 61 1 = h95 61 1 := f184 61 1 (by decide +kernel)
        have q285 : h95 61 1 = h83 61 1 := f97 61 1 (by decide +kernel)
        have q286 : h83 61 1 = h43 61 1 := by rw [← e85]; exact x_up_k (Ne.symm (tne_8_61 t1))
        have q287 : h43 61 1 = h8 61 1 := f45 61 1 (by decide +kernel)
        have q288 : h8 61 1 = h 61 1 := f10 61 1 (by decide +kernel)
        have q289 : h236 ((h 61 1) + 1) 2 = h224 ((h 61 1) + 1) 2 := jK 0 f238 (rg_T1_2_0_1 t1) (by first | decide | omega) (by first | decide | omega) (by decide)
        have q290 : h224 ((h 61 1) + 1) 2 = h182 ((h 61 1) + 1) 2 := by rw [← e226]; exact x_up_k tof_1_8
        have q291 : h182 ((h 61 1) + 1) 2 = h95 ((h 61 1) + 1) 2 := jK 0 f184 (rg_T1_2_0_1 t1) (by first | decide | omega) (by first | decide | omega) (by decide)
        have q292 : h95 ((h 61 1) + 1) 2 = h83 ((h 61 1) + 1) 2 := jK 0 f97 (rg_T1_2_0_1 t1) (by first | decide | omega) (by first | decide | omega) (by decide)
        have q293 : h83 ((h 61 1) + 1) 2 = h43 ((h 61 1) + 1) 2 := by rw [← e85]; exact x_up_k tof_1_8
        have q294 : h43 ((h 61 1) + 1) 2 = h8 ((h 61 1) + 1) 2 := jK 0 f45 (rg_T1_2_0_1 t1) (by first | decide | omega) (by first | decide | omega) (by decide)
        have e295 : rv h236 2 = (h8 ((h 61 1) + 1) 2) := (congrArg (fun z => svq h236 z 2) ((((((q282.trans q283).trans q284).trans q285).trans q286).trans q287).trans q288)).trans (((((q289.trans q290).trans q291).trans q292).trans q293).trans q294)
        have e296 : rv h 3 = (h ((h 61 1) + 3) 2) := (congrArg (fun z => svq h z 3) rfl).trans rfl
        have q297 : h236 61 1 = h224 61 1 := f238 61 1 (by decide +kernel)
        have q298 : h224 61 1 = h182 61 1 := by rw [← e226]; exact x_up_k (Ne.symm (tne_8_61 t1))
        have q299 : h182 61 1 = h95 61 1 := f184 61 1 (by decide +kernel)
        have q300 : h95 61 1 = h83 61 1 := f97 61 1 (by decide +kernel)
        have q301 : h83 61 1 = h43 61 1 := by rw [← e85]; exact x_up_k (Ne.symm (tne_8_61 t1))
        have q302 : h43 61 1 = h8 61 1 := f45 61 1 (by decide +kernel)
        have q303 : h8 61 1 = h 61 1 := f10 61 1 (by decide +kernel)
        have q304 : h236 ((h 61 1) + 3) 2 = h224 ((h 61 1) + 3) 2 := jK 0 f238 (rg_T3_2_0_1 t1) (by first | decide | omega) (by first | decide | omega) (by decide)
        have q305 : h224 ((h 61 1) + 3) 2 = h182 ((h 61 1) + 3) 2 := by rw [← e226]; exact x_up_k tof_3_8
        have q306 : h182 ((h 61 1) + 3) 2 = h95 ((h 61 1) + 3) 2 := jK 0 f184 (rg_T3_2_0_1 t1) (by first | decide | omega) (by first | decide | omega) (by decide)
        have q307 : h95 ((h 61 1) + 3) 2 = h83 ((h 61 1) + 3) 2 := jK 0 f97 (rg_T3_2_0_1 t1) (by first | decide | omega) (by first | decide | omega) (by decide)
        have q308 : h83 ((h 61 1) + 3) 2 = h43 ((h 61 1) + 3) 2 := by rw [← e85]; exact x_up_k tof_3_8
        have q309 : h43 ((h 61 1) + 3) 2 = h8 ((h 61 1) + 3) 2 := jK 0 f45 (rg_T3_2_0_1 t1) (by first | decide | omega) (by first | decide | omega) (by decide)
        have e310 : rv h236 3 = (h8 ((h 61 1) + 3) 2) := (congrArg (fun z => svq h236 z 3) ((((((q297.trans q298).trans q299).trans q300).trans q301).trans q302).trans q303)).trans (((((q304.trans q305).trans q306).trans q307).trans q308).trans q309)
        have e311 : rv h 4 = (h ((h 61 1) + 5) 2) := (congrArg (fun z => svq h z 4) rfl).trans rfl
        have q312 : h236 61 1 = h224 61 1 := f238 61 1 (by decide +kernel)
        have q313 : h224 61 1 = h182 61 1 := by rw [← e226]; exact x_up_k (Ne.symm (tne_8_61 t1))
        have q314 : h182 61 1 = h95 61 1 := f184 61 1 (by decide +kernel)
        have q315 : h95 61 1 = h83 61 1 := f97 61 1 (by decide +kernel)
        have q316 : h83 61 1 = h43 61 1 := by rw [← e85]; exact x_up_k (Ne.symm (tne_8_61 t1))
        have q317 : h43 61 1 = h8 61 1 := f45 61 1 (by decide +kernel)
        have q318 : h8 61 1 = h 61 1 := f10 61 1 (by decide +kernel)
        have q319 : h236 ((h 61 1) + 5) 2 = h224 ((h 61 1) + 5) 2 := jK 0 f238 (rg_T5_2_0_1 t1) (by first | decide | omega) (by first | decide | omega) (by decide)
        have q320 : h224 ((h 61 1) + 5) 2 = h182 ((h 61 1) + 5) 2 := by rw [← e226]; exact x_up_k tof_5_8
        have q321 : h182 ((h 61 1) + 5) 2 = h95 ((h 61 1) + 5) 2 := jK 0 f184 (rg_T5_2_0_1 t1) (by first | decide | omega) (by first | decide | omega) (by decide)
        have q322 : h95 ((h 61 1) + 5) 2 = h83 ((h 61 1) + 5) 2 := jK 0 f97 (rg_T5_2_0_1 t1) (by first | decide | omega) (by first | decide | omega) (by decide)
        have q323 : h83 ((h 61 1) + 5) 2 = h43 ((h 61 1) + 5) 2 := by rw [← e85]; exact x_up_k tof_5_8
        have q324 : h43 ((h 61 1) + 5) 2 = h8 ((h 61 1) + 5) 2 := jK 0 f45 (rg_T5_2_0_1 t1) (by first | decide | omega) (by first | decide | omega) (by decide)
        have e325 : rv h236 4 = (h8 ((h 61 1) + 5) 2) := (congrArg (fun z => svq h236 z 4) ((((((q312.trans q313).trans q314).trans q315).trans q316).trans q317).trans q318)).trans (((((q319.trans q320).trans q321).trans q322).trans q323).trans q324)
        have q326 : h236 61 1 = h224 61 1 := f238 61 1 (by decide +kernel)
        have q327 : h224 61 1 = h182 61 1 := by rw [← e226]; exact x_up_k (Ne.symm (tne_8_61 t1))
        have q328 : h182 61 1 = h95 61 1 := f184 61 1 (by decide +kernel)
        have q329 : h95 61 1 = h83 61 1 := f97 61 1 (by decide +kernel)
        have q330 : h83 61 1 = h43 61 1 := by rw [← e85]; exact x_up_k (Ne.symm (tne_8_61 t1))
        have q331 : h43 61 1 = h8 61 1 := f45 61 1 (by decide +kernel)
        have q332 : h8 61 1 = h 61 1 := f10 61 1 (by decide +kernel)
        have q333 : h236 ((h 61 1) + 7) 2 = h224 ((h 61 1) + 7) 2 := jK 0 f238 (rg_T7_2_0_1 t1) (by first | decide | omega) (by first | decide | omega) (by decide)
        have q334 : h224 ((h 61 1) + 7) 2 = h182 ((h 61 1) + 7) 2 := by rw [← e226]; exact x_up_k tof_7_8
        have q335 : h182 ((h 61 1) + 7) 2 = h95 ((h 61 1) + 7) 2 := jK 0 f184 (rg_T7_2_0_1 t1) (by first | decide | omega) (by first | decide | omega) (by decide)
        have q336 : h95 ((h 61 1) + 7) 2 = h83 ((h 61 1) + 7) 2 := jK 0 f97 (rg_T7_2_0_1 t1) (by first | decide | omega) (by first | decide | omega) (by decide)
        have q337 : h83 ((h 61 1) + 7) 2 = h43 ((h 61 1) + 7) 2 := by rw [← e85]; exact x_up_k tof_7_8
        have q338 : h43 ((h 61 1) + 7) 2 = h8 ((h 61 1) + 7) 2 := jK 0 f45 (rg_T7_2_0_1 t1) (by first | decide | omega) (by first | decide | omega) (by decide)
        have e339 : rv h236 5 = (h8 ((h 61 1) + 7) 2) := (congrArg (fun z => svq h236 z 5) ((((((q326.trans q327).trans q328).trans q329).trans q330).trans q331).trans q332)).trans (((((q333.trans q334).trans q335).trans q336).trans q337).trans q338)
        have q340 : h8 1 2 = h 1 2 := jK 0 f10 rg_1_2_0_1 (by first | decide | omega) (by first | decide | omega) (by decide)
        have q341 : h83 1 2 = h43 1 2 := by rw [← e85]; exact x_up_k (Ne.symm (tne_8_1 t1))
        obtain ⟨w342, e343⟩ := Tk.yes c101 (by first | decide | omega)
        have q344 : h224 1 2 = h182 1 2 := by rw [← e226]; exact x_up_k (Ne.symm (tne_8_1 t1))
        obtain ⟨w345, e346⟩ := Tk.no c242 (by first | decide | omega)
        have m347 : Ot (h 61 1) h h8 := Ot.trans Ot.refl (c19)
        have m348 : Ot (h 61 1) h h43 := Ot.fr m347 f45 (by decide)
        have m349 : Ot (h 61 1) h h83 := by rw [← e85]; exact Ot.up (o := 8) m348 t1 (by decide) rfl
        have m350 : Ot (h 61 1) h h95 := Ot.fr m349 f97 (by decide)
        have m351 : Ot (h 61 1) h h182 := Ot.fr m350 f184 (by decide)
        have m352 : Ot (h 61 1) h h224 := by rw [← e226]; exact Ot.up (o := 8) m351 t1 (by decide) rfl
        have m353 : Ot (h 61 1) h h236 := Ot.fr m352 f238 (by decide)
        refine x_retI (np := 90) (x := 0) (by decide +kernel) (by decide) (Or.inr ⟨by decide +kernel, by first | decide | omega, by first | decide | omega⟩) ⟨_, rfl, (by decide), ?_⟩
        exact ⟨j237, f243, (by first | decide | omega), (by first | decide | omega), (by first | decide | omega), (by first | decide | omega), (by first | decide | omega), (by first | decide | omega), (fun z => by first | decide | omega), (nm9.y c50 (by first | decide | omega) (by first | decide | omega) (show h8 1 2 = h 1 2 by first | decide | omega) (by first | decide | omega) rfl (wd9.y w342 (show h83 1 2 = h43 1 2 by first | decide | omega) e343 rfl (nm9.y c189 (by first | decide | omega) (by first | decide | omega) rfl (by first | decide | omega) rfl (wd9.f w345 (show h224 1 2 = h182 1 2 by first | decide | omega) (by first | decide | omega))))), m353, (fun z => absurd z (by first | decide | omega))⟩
      have q249 : ¬ (v231 = 2147483648) := q249
      have b354 := c240 (by first | decide | omega)
      refine x_aload (np := 81) (x := 0) (by decide +kernel) rfl (x_nc_le (by decide)) ?_
      refine x_iload (np := 82) (x := 1) (by decide +kernel) rfl l6 ?_
      have m358 := Tp.fr m234 f238 (by decide) (by decide)
      refine x_cI (t := 6) (mj := 101) (n := 2) (rc := 10) (ml := 5) (nr := 0) (np := 85) (as := [x_r 61, iv_c v5]) (rest := []) (lo1 := [x_r 61, iv_c v5, 147573952589676412928, 147573952589676412928, 147573952589676412928]) (by decide +kernel) (by decide) (by decide +kernel) (x_rb_of (by decide +kernel)) rfl rfl (x_wr (by decide) (x_wi l6 x_wn)) x_wn (by decide) rfl (c101_61 j237  (by first | decide | omega) m358) (fun v355 h359 l356 q357 => ?_)
      obtain ⟨j360, f361, b362, c363, c364, c365, c366⟩ := q357
      have f367 := Fr.trans f243 f361 (by decide)
      have q368 : h236 61 1 = h224 61 1 := f238 61 1 (by decide +kernel)
      have q369 : h224 61 1 = h182 61 1 := by rw [← e226]; exact x_up_k (Ne.symm (tne_8_61 t1))
      have q370 : h182 61 1 = h95 61 1 := f184 61 1 (by decide +kernel)
      have q371 : h95 61 1 = h83 61 1 := f97 61 1 (by decide +kernel)
      have q372 : h83 61 1 = h43 61 1 := by rw [← e85]; exact x_up_k (Ne.symm (tne_8_61 t1))
      have q373 : h43 61 1 = h8 61 1 := f45 61 1 (by decide +kernel)
      have q374 : h8 61 1 = h 61 1 := f10 61 1 (by decide +kernel)
      have q375 : h236 61 1 = h224 61 1 := f238 61 1 (by decide +kernel)
      have q376 : h224 61 1 = h182 61 1 := by rw [← e226]; exact x_up_k (Ne.symm (tne_8_61 t1))
      have q377 : h182 61 1 = h95 61 1 := f184 61 1 (by decide +kernel)
      have q378 : h95 61 1 = h83 61 1 := f97 61 1 (by decide +kernel)
      have q379 : h83 61 1 = h43 61 1 := by rw [← e85]; exact x_up_k (Ne.symm (tne_8_61 t1))
      have q380 : h43 61 1 = h8 61 1 := f45 61 1 (by decide +kernel)
      have q381 : h8 61 1 = h 61 1 := f10 61 1 (by decide +kernel)
      have q382 : h236 ((h 61 1) + 7) 2 = h224 ((h 61 1) + 7) 2 := jK 0 f238 (rg_T7_2_0_1 t1) (by first | decide | omega) (by first | decide | omega) (by decide)
      have q383 : h224 ((h 61 1) + 7) 2 = h182 ((h 61 1) + 7) 2 := by rw [← e226]; exact x_up_k tof_7_8
      have q384 : h182 ((h 61 1) + 7) 2 = h95 ((h 61 1) + 7) 2 := jK 0 f184 (rg_T7_2_0_1 t1) (by first | decide | omega) (by first | decide | omega) (by decide)
      have q385 : h95 ((h 61 1) + 7) 2 = h83 ((h 61 1) + 7) 2 := jK 0 f97 (rg_T7_2_0_1 t1) (by first | decide | omega) (by first | decide | omega) (by decide)
      have q386 : h83 ((h 61 1) + 7) 2 = h43 ((h 61 1) + 7) 2 := by rw [← e85]; exact x_up_k tof_7_8
      have q387 : h43 ((h 61 1) + 7) 2 = h8 ((h 61 1) + 7) 2 := jK 0 f45 (rg_T7_2_0_1 t1) (by first | decide | omega) (by first | decide | omega) (by decide)
      have q388 : h236 ((h 61 1) + 8) (1 + 4 * u80) = h224 ((h 61 1) + 8) (1 + 4 * u80) := jK u80 f238 (rg_T8_1_4_10 t1) (by first | decide | omega) (by first | decide | omega) (by decide)
      have q389 : h224 ((h 61 1) + 8) (1 + 4 * u80) = v178 := by rw [← e226]; exact x_up_at
      have z390 := c364 (h 61 1) u80 ((((((q368.trans q369).trans q370).trans q371).trans q372).trans q373).trans q374) (by first | decide | omega)
      refine x_ifz (k := 1) (tg := 90) (np := 88) (by decide +kernel) (by decide) l356 (fun q391 => ?_) (fun q392 => ?_)
      · have q391 : v355 ≠ 2147483648 := q391
        refine x_aload (np := 91) (x := 0) (by decide +kernel) rfl (x_nc_le (by decide)) ?_
        have q393 : h359 61 0 = 1 := by have z := jB (e := 0) 0 j360 rg_61_0_0_1 (by decide) (by decide); omega
        refine x_getR (np := 94) (x := 576) (f := 0) (q := 1) (by decide +kernel) (by decide) (by decide +kernel) q393 ?_
        refine x_ldcB (i := 16) (idx := 163) (tx := "known") (by rw [tb_y100]; exact List.mem_of_getElem? (i := 16) rfl) (by decide) (by rw [tb_b100]; decide +kernel) ?_
        have m397 := Tp.fr m358 f361 (by decide) (by decide)
        refine x_cI (t := 6) (mj := 78) (n := 2) (rc := 8) (ml := 2) (nr := 0) (np := 99) (as := [x_r 1, x_b (16 + 1)]) (rest := []) (lo1 := [x_r 1, x_b (16 + 1)]) (by decide +kernel) (by decide) (by decide +kernel) (x_rb_of (by decide +kernel)) rfl rfl (x_wr (by decide) (x_wB (by decide) x_wn)) x_wn (by decide) rfl (c78_1_S0 j360  (by decide) m397) (fun v394 h398 l395 q396 => ?_)
        obtain ⟨j399, f400, b401, c402, c403, c404⟩ := q396
        have f405 := Fr.trans f367 f400 (by decide)
        have b406 := jB (e := 2) 0 j360 rg_1_2_0_1 (by first | decide | omega) (by first | decide | omega)
        have b407 := jB (e := 2) 0 j399 rg_1_2_0_1 (by first | decide | omega) (by first | decide | omega)
        have b408 : iv_tl 16 = 5 := by decide
        refine x_ifz (k := 0) (tg := 136) (np := 102) (by decide +kernel) (by decide) l395 (fun q409 => ?_) (fun q410 => ?_)
        · have q409 : v394 = 2147483648 := q409
          have b411 := c403 (by first | decide | omega)
          refine x_const (np := 137) (x := 9223372039002259456) (a := 2147483648) (by decide +kernel) (by decide) (by decide) ?_
          have e412 : rv h 0 = (h (h 61 1) 7) := (congrArg (fun z => svq h z 0) rfl).trans rfl
          have q413 : h398 61 1 = h359 61 1 := f400 61 1 (by decide +kernel)
          have q414 : h359 61 1 = h236 61 1 := f361 61 1 (by decide +kernel)
          have q415 : h236 61 1 = h224 61 1 := f238 61 1 (by decide +kernel)
          have q416 : h224 61 1 = h182 61 1 := by rw [← e226]; exact x_up_k (Ne.symm (tne_8_61 t1))
          have q417 : h182 61 1 = h95 61 1 := f184 61 1 (by decide +kernel)
          have q418 : h95 61 1 = h83 61 1 := f97 61 1 (by decide +kernel)
          have q419 : h83 61 1 = h43 61 1 := by rw [← e85]; exact x_up_k (Ne.symm (tne_8_61 t1))
          have q420 : h43 61 1 = h8 61 1 := f45 61 1 (by decide +kernel)
          have q421 : h8 61 1 = h 61 1 := f10 61 1 (by decide +kernel)
          have q422 : h398 (h 61 1) 7 = h359 (h 61 1) 7 := jK 0 f400 (rg_T0_7_0_1 t1) (by first | decide | omega) (by first | decide | omega) (by decide)
          have q423 : h359 (h 61 1) 7 = h236 (h 61 1) 7 := jK 0 f361 (rg_T0_7_0_1 t1) (by first | decide | omega) (by first | decide | omega) (by decide)
          have q424 : h236 (h 61 1) 7 = h224 (h 61 1) 7 := jK 0 f238 (rg_T0_7_0_1 t1) (by first | decide | omega) (by first | decide | omega) (by decide)
          have q425 : h224 (h 61 1) 7 = h182 (h 61 1) 7 := by rw [← e226]; exact x_up_k tof_0_8
          have q426 : h182 (h 61 1) 7 = h95 (h 61 1) 7 := jK 0 f184 (rg_T0_7_0_1 t1) (by first | decide | omega) (by first | decide | omega) (by decide)
          have q427 : h95 (h 61 1) 7 = h83 (h 61 1) 7 := jK 0 f97 (rg_T0_7_0_1 t1) (by first | decide | omega) (by first | decide | omega) (by decide)
          have q428 : h83 (h 61 1) 7 = h43 (h 61 1) 7 := by rw [← e85]; exact x_up_k tof_0_8
          have q429 : h43 (h 61 1) 7 = h8 (h 61 1) 7 := jK 0 f45 (rg_T0_7_0_1 t1) (by first | decide | omega) (by first | decide | omega) (by decide)
          have e430 : rv h398 0 = (h8 (h 61 1) 7) := (congrArg (fun z => svq h398 z 0) ((((((((q413.trans q414).trans q415).trans q416).trans q417).trans q418).trans q419).trans q420).trans q421)).trans (((((((q422.trans q423).trans q424).trans q425).trans q426).trans q427).trans q428).trans q429)
          have e431 : rv h 1 = (h (h 61 1) 8) := (congrArg (fun z => svq h z 1) rfl).trans rfl
          have q432 : h398 61 1 = h359 61 1 := f400 61 1 (by decide +kernel)
          have q433 : h359 61 1 = h236 61 1 := f361 61 1 (by decide +kernel)
          have q434 : h236 61 1 = h224 61 1 := f238 61 1 (by decide +kernel)
          have q435 : h224 61 1 = h182 61 1 := by rw [← e226]; exact x_up_k (Ne.symm (tne_8_61 t1))
          have q436 : h182 61 1 = h95 61 1 := f184 61 1 (by decide +kernel)
          have q437 : h95 61 1 = h83 61 1 := f97 61 1 (by decide +kernel)
          have q438 : h83 61 1 = h43 61 1 := by rw [← e85]; exact x_up_k (Ne.symm (tne_8_61 t1))
          have q439 : h43 61 1 = h8 61 1 := f45 61 1 (by decide +kernel)
          have q440 : h8 61 1 = h 61 1 := f10 61 1 (by decide +kernel)
          have q441 : h398 (h 61 1) 8 = h359 (h 61 1) 8 := jK 0 f400 (rg_T0_8_0_1 t1) (by first | decide | omega) (by first | decide | omega) (by decide)
          have q442 : h359 (h 61 1) 8 = h236 (h 61 1) 8 := jK 0 f361 (rg_T0_8_0_1 t1) (by first | decide | omega) (by first | decide | omega) (by decide)
          have q443 : h236 (h 61 1) 8 = h224 (h 61 1) 8 := jK 0 f238 (rg_T0_8_0_1 t1) (by first | decide | omega) (by first | decide | omega) (by decide)
          have q444 : h224 (h 61 1) 8 = h182 (h 61 1) 8 := by rw [← e226]; exact x_up_k tof_0_8
          have q445 : h182 (h 61 1) 8 = h95 (h 61 1) 8 := jK 0 f184 (rg_T0_8_0_1 t1) (by first | decide | omega) (by first | decide | omega) (by decide)
          have q446 : h95 (h 61 1) 8 = h83 (h 61 1) 8 := jK 0 f97 (rg_T0_8_0_1 t1) (by first | decide | omega) (by first | decide | omega) (by decide)
          have q447 : h83 (h 61 1) 8 = h43 (h 61 1) 8 := by rw [← e85]; exact x_up_k tof_0_8
          have q448 : h43 (h 61 1) 8 = h8 (h 61 1) 8 := jK 0 f45 (rg_T0_8_0_1 t1) (by first | decide | omega) (by first | decide | omega) (by decide)
          have e449 : rv h398 1 = (h8 (h 61 1) 8) := (congrArg (fun z => svq h398 z 1) ((((((((q432.trans q433).trans q434).trans q435).trans q436).trans q437).trans q438).trans q439).trans q440)).trans (((((((q441.trans q442).trans q443).trans q444).trans q445).trans q446).trans q447).trans q448)
          have e450 : rv h 2 = (h ((h 61 1) + 1) 2) := (congrArg (fun z => svq h z 2) rfl).trans rfl
          have q451 : h398 61 1 = h359 61 1 := f400 61 1 (by decide +kernel)
          have q452 : h359 61 1 = h236 61 1 := f361 61 1 (by decide +kernel)
          have q453 : h236 61 1 = h224 61 1 := f238 61 1 (by decide +kernel)
          have q454 : h224 61 1 = h182 61 1 := by rw [← e226]; exact x_up_k (Ne.symm (tne_8_61 t1))
          have q455 : h182 61 1 = h95 61 1 := f184 61 1 (by decide +kernel)
          have q456 : h95 61 1 = h83 61 1 := f97 61 1 (by decide +kernel)
          have q457 : h83 61 1 = h43 61 1 := by rw [← e85]; exact x_up_k (Ne.symm (tne_8_61 t1))
          have q458 : h43 61 1 = h8 61 1 := f45 61 1 (by decide +kernel)
          have q459 : h8 61 1 = h 61 1 := f10 61 1 (by decide +kernel)
          have q460 : h398 ((h 61 1) + 1) 2 = h359 ((h 61 1) + 1) 2 := jK 0 f400 (rg_T1_2_0_1 t1) (by first | decide | omega) (by first | decide | omega) (by decide)
          have q461 : h359 ((h 61 1) + 1) 2 = h236 ((h 61 1) + 1) 2 := jK 0 f361 (rg_T1_2_0_1 t1) (by first | decide | omega) (by first | decide | omega) (by decide)
          have q462 : h236 ((h 61 1) + 1) 2 = h224 ((h 61 1) + 1) 2 := jK 0 f238 (rg_T1_2_0_1 t1) (by first | decide | omega) (by first | decide | omega) (by decide)
          have q463 : h224 ((h 61 1) + 1) 2 = h182 ((h 61 1) + 1) 2 := by rw [← e226]; exact x_up_k tof_1_8
          have q464 : h182 ((h 61 1) + 1) 2 = h95 ((h 61 1) + 1) 2 := jK 0 f184 (rg_T1_2_0_1 t1) (by first | decide | omega) (by first | decide | omega) (by decide)
          have q465 : h95 ((h 61 1) + 1) 2 = h83 ((h 61 1) + 1) 2 := jK 0 f97 (rg_T1_2_0_1 t1) (by first | decide | omega) (by first | decide | omega) (by decide)
          have q466 : h83 ((h 61 1) + 1) 2 = h43 ((h 61 1) + 1) 2 := by rw [← e85]; exact x_up_k tof_1_8
          have q467 : h43 ((h 61 1) + 1) 2 = h8 ((h 61 1) + 1) 2 := jK 0 f45 (rg_T1_2_0_1 t1) (by first | decide | omega) (by first | decide | omega) (by decide)
          have e468 : rv h398 2 = (h8 ((h 61 1) + 1) 2) := (congrArg (fun z => svq h398 z 2) ((((((((q451.trans q452).trans q453).trans q454).trans q455).trans q456).trans q457).trans q458).trans q459)).trans (((((((q460.trans q461).trans q462).trans q463).trans q464).trans q465).trans q466).trans q467)
          have e469 : rv h 3 = (h ((h 61 1) + 3) 2) := (congrArg (fun z => svq h z 3) rfl).trans rfl
          have q470 : h398 61 1 = h359 61 1 := f400 61 1 (by decide +kernel)
          have q471 : h359 61 1 = h236 61 1 := f361 61 1 (by decide +kernel)
          have q472 : h236 61 1 = h224 61 1 := f238 61 1 (by decide +kernel)
          have q473 : h224 61 1 = h182 61 1 := by rw [← e226]; exact x_up_k (Ne.symm (tne_8_61 t1))
          have q474 : h182 61 1 = h95 61 1 := f184 61 1 (by decide +kernel)
          have q475 : h95 61 1 = h83 61 1 := f97 61 1 (by decide +kernel)
          have q476 : h83 61 1 = h43 61 1 := by rw [← e85]; exact x_up_k (Ne.symm (tne_8_61 t1))
          have q477 : h43 61 1 = h8 61 1 := f45 61 1 (by decide +kernel)
          have q478 : h8 61 1 = h 61 1 := f10 61 1 (by decide +kernel)
          have q479 : h398 ((h 61 1) + 3) 2 = h359 ((h 61 1) + 3) 2 := jK 0 f400 (rg_T3_2_0_1 t1) (by first | decide | omega) (by first | decide | omega) (by decide)
          have q480 : h359 ((h 61 1) + 3) 2 = h236 ((h 61 1) + 3) 2 := jK 0 f361 (rg_T3_2_0_1 t1) (by first | decide | omega) (by first | decide | omega) (by decide)
          have q481 : h236 ((h 61 1) + 3) 2 = h224 ((h 61 1) + 3) 2 := jK 0 f238 (rg_T3_2_0_1 t1) (by first | decide | omega) (by first | decide | omega) (by decide)
          have q482 : h224 ((h 61 1) + 3) 2 = h182 ((h 61 1) + 3) 2 := by rw [← e226]; exact x_up_k tof_3_8
          have q483 : h182 ((h 61 1) + 3) 2 = h95 ((h 61 1) + 3) 2 := jK 0 f184 (rg_T3_2_0_1 t1) (by first | decide | omega) (by first | decide | omega) (by decide)
          have q484 : h95 ((h 61 1) + 3) 2 = h83 ((h 61 1) + 3) 2 := jK 0 f97 (rg_T3_2_0_1 t1) (by first | decide | omega) (by first | decide | omega) (by decide)
          have q485 : h83 ((h 61 1) + 3) 2 = h43 ((h 61 1) + 3) 2 := by rw [← e85]; exact x_up_k tof_3_8
          have q486 : h43 ((h 61 1) + 3) 2 = h8 ((h 61 1) + 3) 2 := jK 0 f45 (rg_T3_2_0_1 t1) (by first | decide | omega) (by first | decide | omega) (by decide)
          have e487 : rv h398 3 = (h8 ((h 61 1) + 3) 2) := (congrArg (fun z => svq h398 z 3) ((((((((q470.trans q471).trans q472).trans q473).trans q474).trans q475).trans q476).trans q477).trans q478)).trans (((((((q479.trans q480).trans q481).trans q482).trans q483).trans q484).trans q485).trans q486)
          have e488 : rv h 4 = (h ((h 61 1) + 5) 2) := (congrArg (fun z => svq h z 4) rfl).trans rfl
          have q489 : h398 61 1 = h359 61 1 := f400 61 1 (by decide +kernel)
          have q490 : h359 61 1 = h236 61 1 := f361 61 1 (by decide +kernel)
          have q491 : h236 61 1 = h224 61 1 := f238 61 1 (by decide +kernel)
          have q492 : h224 61 1 = h182 61 1 := by rw [← e226]; exact x_up_k (Ne.symm (tne_8_61 t1))
          have q493 : h182 61 1 = h95 61 1 := f184 61 1 (by decide +kernel)
          have q494 : h95 61 1 = h83 61 1 := f97 61 1 (by decide +kernel)
          have q495 : h83 61 1 = h43 61 1 := by rw [← e85]; exact x_up_k (Ne.symm (tne_8_61 t1))
          have q496 : h43 61 1 = h8 61 1 := f45 61 1 (by decide +kernel)
          have q497 : h8 61 1 = h 61 1 := f10 61 1 (by decide +kernel)
          have q498 : h398 ((h 61 1) + 5) 2 = h359 ((h 61 1) + 5) 2 := jK 0 f400 (rg_T5_2_0_1 t1) (by first | decide | omega) (by first | decide | omega) (by decide)
          have q499 : h359 ((h 61 1) + 5) 2 = h236 ((h 61 1) + 5) 2 := jK 0 f361 (rg_T5_2_0_1 t1) (by first | decide | omega) (by first | decide | omega) (by decide)
          have q500 : h236 ((h 61 1) + 5) 2 = h224 ((h 61 1) + 5) 2 := jK 0 f238 (rg_T5_2_0_1 t1) (by first | decide | omega) (by first | decide | omega) (by decide)
          have q501 : h224 ((h 61 1) + 5) 2 = h182 ((h 61 1) + 5) 2 := by rw [← e226]; exact x_up_k tof_5_8
          have q502 : h182 ((h 61 1) + 5) 2 = h95 ((h 61 1) + 5) 2 := jK 0 f184 (rg_T5_2_0_1 t1) (by first | decide | omega) (by first | decide | omega) (by decide)
          have q503 : h95 ((h 61 1) + 5) 2 = h83 ((h 61 1) + 5) 2 := jK 0 f97 (rg_T5_2_0_1 t1) (by first | decide | omega) (by first | decide | omega) (by decide)
          have q504 : h83 ((h 61 1) + 5) 2 = h43 ((h 61 1) + 5) 2 := by rw [← e85]; exact x_up_k tof_5_8
          have q505 : h43 ((h 61 1) + 5) 2 = h8 ((h 61 1) + 5) 2 := jK 0 f45 (rg_T5_2_0_1 t1) (by first | decide | omega) (by first | decide | omega) (by decide)
          have e506 : rv h398 4 = (h8 ((h 61 1) + 5) 2) := (congrArg (fun z => svq h398 z 4) ((((((((q489.trans q490).trans q491).trans q492).trans q493).trans q494).trans q495).trans q496).trans q497)).trans (((((((q498.trans q499).trans q500).trans q501).trans q502).trans q503).trans q504).trans q505)
          have q507 : h398 61 1 = h359 61 1 := f400 61 1 (by decide +kernel)
          have q508 : h359 61 1 = h236 61 1 := f361 61 1 (by decide +kernel)
          have q509 : h236 61 1 = h224 61 1 := f238 61 1 (by decide +kernel)
          have q510 : h224 61 1 = h182 61 1 := by rw [← e226]; exact x_up_k (Ne.symm (tne_8_61 t1))
          have q511 : h182 61 1 = h95 61 1 := f184 61 1 (by decide +kernel)
          have q512 : h95 61 1 = h83 61 1 := f97 61 1 (by decide +kernel)
          have q513 : h83 61 1 = h43 61 1 := by rw [← e85]; exact x_up_k (Ne.symm (tne_8_61 t1))
          have q514 : h43 61 1 = h8 61 1 := f45 61 1 (by decide +kernel)
          have q515 : h8 61 1 = h 61 1 := f10 61 1 (by decide +kernel)
          have q516 : h398 ((h 61 1) + 7) 2 = h359 ((h 61 1) + 7) 2 := jK 0 f400 (rg_T7_2_0_1 t1) (by first | decide | omega) (by first | decide | omega) (by decide)
          have q517 : h359 ((h 61 1) + 7) 2 = h236 ((h 61 1) + 7) 2 := jK 0 f361 (rg_T7_2_0_1 t1) (by first | decide | omega) (by first | decide | omega) (by decide)
          have q518 : h236 ((h 61 1) + 7) 2 = h224 ((h 61 1) + 7) 2 := jK 0 f238 (rg_T7_2_0_1 t1) (by first | decide | omega) (by first | decide | omega) (by decide)
          have q519 : h224 ((h 61 1) + 7) 2 = h182 ((h 61 1) + 7) 2 := by rw [← e226]; exact x_up_k tof_7_8
          have q520 : h182 ((h 61 1) + 7) 2 = h95 ((h 61 1) + 7) 2 := jK 0 f184 (rg_T7_2_0_1 t1) (by first | decide | omega) (by first | decide | omega) (by decide)
          have q521 : h95 ((h 61 1) + 7) 2 = h83 ((h 61 1) + 7) 2 := jK 0 f97 (rg_T7_2_0_1 t1) (by first | decide | omega) (by first | decide | omega) (by decide)
          have q522 : h83 ((h 61 1) + 7) 2 = h43 ((h 61 1) + 7) 2 := by rw [← e85]; exact x_up_k tof_7_8
          have q523 : h43 ((h 61 1) + 7) 2 = h8 ((h 61 1) + 7) 2 := jK 0 f45 (rg_T7_2_0_1 t1) (by first | decide | omega) (by first | decide | omega) (by decide)
          have e524 : rv h398 5 = (h8 ((h 61 1) + 7) 2) := (congrArg (fun z => svq h398 z 5) ((((((((q507.trans q508).trans q509).trans q510).trans q511).trans q512).trans q513).trans q514).trans q515)).trans (((((((q516.trans q517).trans q518).trans q519).trans q520).trans q521).trans q522).trans q523)
          have q525 : h8 1 2 = h 1 2 := jK 0 f10 rg_1_2_0_1 (by first | decide | omega) (by first | decide | omega) (by decide)
          have q526 : h83 1 2 = h43 1 2 := by rw [← e85]; exact x_up_k (Ne.symm (tne_8_1 t1))
          obtain ⟨w527, e528⟩ := Tk.yes c101 (by first | decide | omega)
          have q529 : h224 1 2 = h182 1 2 := by rw [← e226]; exact x_up_k (Ne.symm (tne_8_1 t1))
          obtain ⟨w530, e531⟩ := Tk.yes c242 (by first | decide | omega)
          have q532 : h236 61 1 = h224 61 1 := f238 61 1 (by decide +kernel)
          have q533 : h224 61 1 = h182 61 1 := by rw [← e226]; exact x_up_k (Ne.symm (tne_8_61 t1))
          have q534 : h182 61 1 = h95 61 1 := f184 61 1 (by decide +kernel)
          have q535 : h95 61 1 = h83 61 1 := f97 61 1 (by decide +kernel)
          have q536 : h83 61 1 = h43 61 1 := by rw [← e85]; exact x_up_k (Ne.symm (tne_8_61 t1))
          have q537 : h43 61 1 = h8 61 1 := f45 61 1 (by decide +kernel)
          have q538 : h8 61 1 = h 61 1 := f10 61 1 (by decide +kernel)
          have q539 : h236 (h 61 1) 7 = h224 (h 61 1) 7 := jK 0 f238 (rg_T0_7_0_1 t1) (by first | decide | omega) (by first | decide | omega) (by decide)
          have q540 : h224 (h 61 1) 7 = h182 (h 61 1) 7 := by rw [← e226]; exact x_up_k tof_0_8
          have q541 : h182 (h 61 1) 7 = h95 (h 61 1) 7 := jK 0 f184 (rg_T0_7_0_1 t1) (by first | decide | omega) (by first | decide | omega) (by decide)
          have q542 : h95 (h 61 1) 7 = h83 (h 61 1) 7 := jK 0 f97 (rg_T0_7_0_1 t1) (by first | decide | omega) (by first | decide | omega) (by decide)
          have q543 : h83 (h 61 1) 7 = h43 (h 61 1) 7 := by rw [← e85]; exact x_up_k tof_0_8
          have q544 : h43 (h 61 1) 7 = h8 (h 61 1) 7 := jK 0 f45 (rg_T0_7_0_1 t1) (by first | decide | omega) (by first | decide | omega) (by decide)
          have e545 : rv h236 0 = (h8 (h 61 1) 7) := (congrArg (fun z => svq h236 z 0) ((((((q532.trans q533).trans q534).trans q535).trans q536).trans q537).trans q538)).trans (((((q539.trans q540).trans q541).trans q542).trans q543).trans q544)
          obtain ⟨w546, e547⟩ := Tk.no c404 (by first | decide | omega)
          have m548 : Ot (h 61 1) h h8 := Ot.trans Ot.refl (c19)
          have m549 : Ot (h 61 1) h h43 := Ot.fr m548 f45 (by decide)
          have m550 : Ot (h 61 1) h h83 := by rw [← e85]; exact Ot.up (o := 8) m549 t1 (by decide) rfl
          have m551 : Ot (h 61 1) h h95 := Ot.fr m550 f97 (by decide)
          have m552 : Ot (h 61 1) h h182 := Ot.fr m551 f184 (by decide)
          have m553 : Ot (h 61 1) h h224 := by rw [← e226]; exact Ot.up (o := 8) m552 t1 (by decide) rfl
          have m554 : Ot (h 61 1) h h236 := Ot.fr m553 f238 (by decide)
          have m555 : Ot (h 61 1) h h359 := Ot.trans m554 (Ot.cast c365 ((((((q375.trans q376).trans q377).trans q378).trans q379).trans q380).trans q381))
          have m556 : Ot (h 61 1) h h398 := Ot.fr m555 f400 (by decide)
          refine x_retI (np := 138) (x := 0) (by decide +kernel) (by decide) (Or.inr ⟨by decide +kernel, by first | decide | omega, by first | decide | omega⟩) ⟨_, rfl, (by decide), ?_⟩
          exact ⟨j399, f405, (by first | decide | omega), (by first | decide | omega), (by first | decide | omega), (by first | decide | omega), (by first | decide | omega), (by first | decide | omega), (fun z => by first | decide | omega), (nm9.y c50 (by first | decide | omega) (by first | decide | omega) (show h8 1 2 = h 1 2 by first | decide | omega) (by first | decide | omega) rfl (wd9.y w527 (show h83 1 2 = h43 1 2 by first | decide | omega) e528 rfl (nm9.y c189 (by first | decide | omega) (by first | decide | omega) rfl (by first | decide | omega) rfl (wd9.y w530 (show h224 1 2 = h182 1 2 by first | decide | omega) e531 rfl (bl9.y c363 (by first | decide | omega) rfl (by first | decide | omega) rfl (wd9.f w546 rfl (by first | decide | omega))))))), m556, (fun z => absurd z (by first | decide | omega))⟩
        have q410 : ¬ (v394 = 2147483648) := q410
        have b557 := c402 (by first | decide | omega)
        refine x_aload (np := 103) (x := 0) (by decide +kernel) rfl (x_nc_le (by decide)) ?_
        refine x_aload (np := 104) (x := 0) (by decide +kernel) rfl (x_nc_le (by decide)) ?_
        have q558 : h398 61 1 = h359 61 1 := f400 61 1 (by decide +kernel)
        have q559 : h359 61 1 = h236 61 1 := f361 61 1 (by decide +kernel)
        have q560 : h236 61 1 = h224 61 1 := f238 61 1 (by decide +kernel)
        have q561 : h224 61 1 = h182 61 1 := by rw [← e226]; exact x_up_k (Ne.symm (tne_8_61 t1))
        have q562 : h182 61 1 = h95 61 1 := f184 61 1 (by decide +kernel)
        have q563 : h95 61 1 = h83 61 1 := f97 61 1 (by decide +kernel)
        have q564 : h83 61 1 = h43 61 1 := by rw [← e85]; exact x_up_k (Ne.symm (tne_8_61 t1))
        have q565 : h43 61 1 = h8 61 1 := f45 61 1 (by decide +kernel)
        have q566 : h8 61 1 = h 61 1 := f10 61 1 (by decide +kernel)
        refine x_getR (np := 107) (x := 577) (f := 1) (q := (h 61 1)) (by decide +kernel) (by decide) (by decide +kernel) ((((((((q558.trans q559).trans q560).trans q561).trans q562).trans q563).trans q564).trans q565).trans q566) ?_
        have q567 : h398 (h 61 1) 3 = ((h 61 1) + 7) := tf_0_3 j399 t1
        refine x_getR (np := 110) (x := 515) (f := 3) (q := ((h 61 1) + 7)) (by decide +kernel) (by decide) (tg_0_515_3_1 t1) q567 ?_
        refine x_iload (np := 111) (x := 1) (by decide +kernel) rfl l6 ?_
        refine x_const (np := 112) (x := 9223372051887161347) (a := 2147483651) (by decide +kernel) (by decide) (by decide) ?_
        refine x_aload (np := 113) (x := 0) (by decide +kernel) rfl (x_nc_le (by decide)) ?_
        have q568 : h398 61 1 = h359 61 1 := f400 61 1 (by decide +kernel)
        have q569 : h359 61 1 = h236 61 1 := f361 61 1 (by decide +kernel)
        have q570 : h236 61 1 = h224 61 1 := f238 61 1 (by decide +kernel)
        have q571 : h224 61 1 = h182 61 1 := by rw [← e226]; exact x_up_k (Ne.symm (tne_8_61 t1))
        have q572 : h182 61 1 = h95 61 1 := f184 61 1 (by decide +kernel)
        have q573 : h95 61 1 = h83 61 1 := f97 61 1 (by decide +kernel)
        have q574 : h83 61 1 = h43 61 1 := by rw [← e85]; exact x_up_k (Ne.symm (tne_8_61 t1))
        have q575 : h43 61 1 = h8 61 1 := f45 61 1 (by decide +kernel)
        have q576 : h8 61 1 = h 61 1 := f10 61 1 (by decide +kernel)
        refine x_getR (np := 116) (x := 577) (f := 1) (q := (h 61 1)) (by decide +kernel) (by decide) (by decide +kernel) ((((((((q568.trans q569).trans q570).trans q571).trans q572).trans q573).trans q574).trans q575).trans q576) ?_
        have q577 : h398 (h 61 1) 3 = ((h 61 1) + 7) := tf_0_3 j399 t1
        refine x_getR (np := 119) (x := 515) (f := 3) (q := ((h 61 1) + 7)) (by decide +kernel) (by decide) (tg_0_515_3_1 t1) q577 ?_
        refine x_iload (np := 120) (x := 1) (by decide +kernel) rfl l6 ?_
        refine x_const (np := 121) (x := 9223372043297226753) (a := 2147483649) (by decide +kernel) (by decide) (by decide) ?_
        refine x_nI (t := 6) (mj := 68) (n := 3) (rc := 7) (ml := 4) (nr := 4) (np := 124) (as := [x_r ((h 61 1) + 7), iv_c v5, iv_c 2147483649]) (rest := [iv_c 2147483651, iv_c v5, x_r ((h 61 1) + 7), x_r 61]) (lo1 := [x_r ((h 61 1) + 7), iv_c v5, iv_c 2147483649, 147573952589676412928]) (by decide +kernel) (by decide) (by decide +kernel) (x_rb_of (tr_7_7 t1)) rfl rfl (x_wr (tn_7 t1) (x_wi l6 (x_wi (by decide) x_wn))) (x_wi (by decide) (x_wi l6 (x_wr (tn_7 t1) (x_wr (by decide) x_wn)))) (by decide) rfl ?_
        refine x_iload (np := 1) (x := 1) (by decide +kernel) rfl l6 ?_
        refine x_ifz (k := 2) (tg := 28) (np := 4) (by decide +kernel) (by decide) l6 (fun q586 => ?_) (fun q587 => ?_)
        · have q586 : v5 < 2147483648 := q586
          exfalso; omega
        have q587 : ¬ (v5 < 2147483648) := q587
        refine x_iload (np := 5) (x := 1) (by decide +kernel) rfl l6 ?_
        refine x_aload (np := 6) (x := 0) (by decide +kernel) rfl (x_nc_le (tn_7 t1)) ?_
        have q588 : h398 ((h 61 1) + 7) 2 = h359 ((h 61 1) + 7) 2 := jK 0 f400 (rg_T7_2_0_1 t1) (by first | decide | omega) (by first | decide | omega) (by decide)
        have q589 : h359 ((h 61 1) + 7) 2 = h236 ((h 61 1) + 7) 2 := jK 0 f361 (rg_T7_2_0_1 t1) (by first | decide | omega) (by first | decide | omega) (by decide)
        have q590 : h236 ((h 61 1) + 7) 2 = h224 ((h 61 1) + 7) 2 := jK 0 f238 (rg_T7_2_0_1 t1) (by first | decide | omega) (by first | decide | omega) (by decide)
        have q591 : h224 ((h 61 1) + 7) 2 = h182 ((h 61 1) + 7) 2 := by rw [← e226]; exact x_up_k tof_7_8
        have q592 : h182 ((h 61 1) + 7) 2 = h95 ((h 61 1) + 7) 2 := jK 0 f184 (rg_T7_2_0_1 t1) (by first | decide | omega) (by first | decide | omega) (by decide)
        have q593 : h95 ((h 61 1) + 7) 2 = h83 ((h 61 1) + 7) 2 := jK 0 f97 (rg_T7_2_0_1 t1) (by first | decide | omega) (by first | decide | omega) (by decide)
        have q594 : h83 ((h 61 1) + 7) 2 = h43 ((h 61 1) + 7) 2 := by rw [← e85]; exact x_up_k tof_7_8
        have q595 : h43 ((h 61 1) + 7) 2 = h8 ((h 61 1) + 7) 2 := jK 0 f45 (rg_T7_2_0_1 t1) (by first | decide | omega) (by first | decide | omega) (by decide)
        refine x_getC (np := 9) (x := 386) (f := 2) (q := (h8 ((h 61 1) + 7) 2)) (by decide +kernel) (by decide) (tg_7_386_2_0 t1) (((((((q588.trans q589).trans q590).trans q591).trans q592).trans q593).trans q594).trans q595) (fun l596 => ?_)
        refine x_icmp (k := 3) (tg := 28) (np := 12) (by decide +kernel) (by decide) l6 l62 (fun q597 => ?_) (fun q598 => ?_)
        · have q597 : (h8 ((h 61 1) + 7) 2) ≤ v5 := q597
          exfalso; omega
        have q598 : ¬ ((h8 ((h 61 1) + 7) 2) ≤ v5) := q598
        refine x_iload (np := 13) (x := 2) (by decide +kernel) rfl (by decide) ?_
        refine x_ifz (k := 2) (tg := 28) (np := 16) (by decide +kernel) (by decide) (by decide) (fun q599 => ?_) (fun q600 => ?_)
        · have q599 : 2147483649 < 2147483648 := q599
          exfalso; omega
        have q600 : ¬ (2147483649 < 2147483648) := q600
        refine x_iload (np := 17) (x := 2) (by decide +kernel) rfl (by decide) ?_
        refine x_aload (np := 18) (x := 0) (by decide +kernel) rfl (x_nc_le (tn_7 t1)) ?_
        have q601 : h398 ((h 61 1) + 7) 0 = h359 ((h 61 1) + 7) 0 := jK 0 f400 (rg_T7_0_0_1 t1) (by first | decide | omega) (by first | decide | omega) (by decide)
        have q602 : h359 ((h 61 1) + 7) 0 = h236 ((h 61 1) + 7) 0 := jK 0 f361 (rg_T7_0_0_1 t1) (by first | decide | omega) (by first | decide | omega) (by decide)
        have q603 : h236 ((h 61 1) + 7) 0 = h224 ((h 61 1) + 7) 0 := jK 0 f238 (rg_T7_0_0_1 t1) (by first | decide | omega) (by first | decide | omega) (by decide)
        have q604 : h224 ((h 61 1) + 7) 0 = h182 ((h 61 1) + 7) 0 := by rw [← e226]; exact x_up_k tof_7_8
        have q605 : h182 ((h 61 1) + 7) 0 = h95 ((h 61 1) + 7) 0 := jK 0 f184 (rg_T7_0_0_1 t1) (by first | decide | omega) (by first | decide | omega) (by decide)
        have q606 : h95 ((h 61 1) + 7) 0 = h83 ((h 61 1) + 7) 0 := jK 0 f97 (rg_T7_0_0_1 t1) (by first | decide | omega) (by first | decide | omega) (by decide)
        have q607 : h83 ((h 61 1) + 7) 0 = h43 ((h 61 1) + 7) 0 := by rw [← e85]; exact x_up_k tof_7_8
        have q608 : h43 ((h 61 1) + 7) 0 = h8 ((h 61 1) + 7) 0 := jK 0 f45 (rg_T7_0_0_1 t1) (by first | decide | omega) (by first | decide | omega) (by decide)
        have q609 : h8 ((h 61 1) + 7) 0 = h ((h 61 1) + 7) 0 := jK 0 f10 (rg_T7_0_0_1 t1) (by first | decide | omega) (by first | decide | omega) (by decide)
        refine x_getC (np := 21) (x := 384) (f := 0) (q := 2147483652) (by decide +kernel) (by decide) (tg_7_384_0_0 t1) (((((((((q601.trans q602).trans q603).trans q604).trans q605).trans q606).trans q607).trans q608).trans q609).trans q70) (fun l610 => ?_)
        refine x_icmp (k := 3) (tg := 28) (np := 24) (by decide +kernel) (by decide) (by decide) (by decide) (fun q611 => ?_) (fun q612 => ?_)
        · have q611 : 2147483652 ≤ 2147483649 := q611
          exfalso; omega
        have q612 : ¬ (2147483652 ≤ 2147483649) := q612
        refine x_const (np := 25) (x := 9223372043297226753) (a := 2147483649) (by decide +kernel) (by decide) (by decide) ?_
        refine x_goto (np := 28) (x := 29) (by decide +kernel) ?_
        refine x_istore (np := 30) (x := 3) (lo' := [x_r ((h 61 1) + 7), iv_c v5, iv_c 2147483649, iv_c 2147483649]) (by decide +kernel) (by decide) (Nat.le_of_ble_eq_true rfl) rfl ?_
        refine x_iload (np := 31) (x := 3) (by decide +kernel) rfl (by decide) ?_
        refine x_ifz (k := 0) (tg := 50) (np := 34) (by decide +kernel) (by decide) (by decide) (fun q613 => ?_) (fun q614 => ?_)
        · have q613 : 2147483649 = 2147483648 := q613
          exfalso; omega
        have q614 : ¬ (2147483649 = 2147483648) := q614
        refine x_aload (np := 35) (x := 0) (by decide +kernel) rfl (x_nc_le (tn_7 t1)) ?_
        have q615 : h398 ((h 61 1) + 7) 1 = ((h 61 1) + 8) := tf_7_1 j399 t1
        refine x_getR (np := 38) (x := 385) (f := 1) (q := ((h 61 1) + 8)) (by decide +kernel) (by decide) (tg_7_385_1_1 t1) q615 ?_
        refine x_iload (np := 39) (x := 1) (by decide +kernel) rfl l6 ?_
        refine x_aload (np := 40) (x := 0) (by decide +kernel) rfl (x_nc_le (tn_7 t1)) ?_
        have q616 : h398 ((h 61 1) + 7) 0 = h359 ((h 61 1) + 7) 0 := jK 0 f400 (rg_T7_0_0_1 t1) (by first | decide | omega) (by first | decide | omega) (by decide)
        have q617 : h359 ((h 61 1) + 7) 0 = h236 ((h 61 1) + 7) 0 := jK 0 f361 (rg_T7_0_0_1 t1) (by first | decide | omega) (by first | decide | omega) (by decide)
        have q618 : h236 ((h 61 1) + 7) 0 = h224 ((h 61 1) + 7) 0 := jK 0 f238 (rg_T7_0_0_1 t1) (by first | decide | omega) (by first | decide | omega) (by decide)
        have q619 : h224 ((h 61 1) + 7) 0 = h182 ((h 61 1) + 7) 0 := by rw [← e226]; exact x_up_k tof_7_8
        have q620 : h182 ((h 61 1) + 7) 0 = h95 ((h 61 1) + 7) 0 := jK 0 f184 (rg_T7_0_0_1 t1) (by first | decide | omega) (by first | decide | omega) (by decide)
        have q621 : h95 ((h 61 1) + 7) 0 = h83 ((h 61 1) + 7) 0 := jK 0 f97 (rg_T7_0_0_1 t1) (by first | decide | omega) (by first | decide | omega) (by decide)
        have q622 : h83 ((h 61 1) + 7) 0 = h43 ((h 61 1) + 7) 0 := by rw [← e85]; exact x_up_k tof_7_8
        have q623 : h43 ((h 61 1) + 7) 0 = h8 ((h 61 1) + 7) 0 := jK 0 f45 (rg_T7_0_0_1 t1) (by first | decide | omega) (by first | decide | omega) (by decide)
        have q624 : h8 ((h 61 1) + 7) 0 = h ((h 61 1) + 7) 0 := jK 0 f10 (rg_T7_0_0_1 t1) (by first | decide | omega) (by first | decide | omega) (by decide)
        refine x_getC (np := 43) (x := 384) (f := 0) (q := 2147483652) (by decide +kernel) (by decide) (tg_7_384_0_0 t1) (((((((((q616.trans q617).trans q618).trans q619).trans q620).trans q621).trans q622).trans q623).trans q624).trans q70) (fun l625 => ?_)
        refine x_imul (np := 44) (x := 0) (i := u80) (j := 4) (v := (2147483648 + 4 * u80)) (by decide +kernel) (by first | decide | omega) (by first | decide | omega) (by first | decide | omega) (by first | decide | omega) l6 (by decide) ?_
        refine x_iload (np := 45) (x := 2) (by decide +kernel) rfl (by decide) ?_
        refine x_iadd (np := 46) (x := 0) (v := (2147483649 + 4 * u80)) (by decide +kernel) (by first | decide | omega) (by decide) (by first | decide | omega) (by first | decide | omega) ?_
        have q627 : h398 ((h 61 1) + 8) (1 + 4 * u80) = h359 ((h 61 1) + 8) (1 + 4 * u80) := jK u80 f400 (rg_T8_1_4_10 t1) (by first | decide | omega) (by first | decide | omega) (by decide)
        refine x_aldC (np := 47) (x := 0) (n := 40) (i := (1 + 4 * u80)) (q := ((h359 ((h 61 1) + 8) (1 + 4 * u80)))) (by decide +kernel) (ta_8_40 t1) (by first | decide | omega) (by first | decide | omega) (by decide) q627 (fun l628 => ?_)
        refine x_goto (np := 50) (x := 51) (by decide +kernel) ?_
        refine x_retI (np := 52) (x := 0) (by decide +kernel) l628 (Or.inl (by decide +kernel)) ⟨_, rfl, l628, ?_⟩
        refine x_const (np := 126) (x := 9223372086246899723) (a := 2147483659) (by decide +kernel) (by decide) (by decide) ?_
        refine x_nI (t := 6) (mj := 102) (n := 6) (rc := 10) (ml := 7) (nr := 0) (np := 129) (as := [x_r 61, x_r ((h 61 1) + 7), iv_c v5, iv_c 2147483651, iv_c ((h359 ((h 61 1) + 8) (1 + 4 * u80))), iv_c 2147483659]) (rest := []) (lo1 := [x_r 61, x_r ((h 61 1) + 7), iv_c v5, iv_c 2147483651, iv_c ((h359 ((h 61 1) + 8) (1 + 4 * u80))), iv_c 2147483659, 147573952589676412928]) (by decide +kernel) (by decide) (by decide +kernel) (x_rb_of (by decide +kernel)) rfl rfl (x_wr (by decide) (x_wr (tn_7 t1) (x_wi l6 (x_wi (by decide) (x_wi l628 (x_wi (by decide) x_wn)))))) x_wn (by decide) rfl ?_
        refine x_aload (np := 1) (x := 0) (by decide +kernel) rfl (x_nc_le (by decide)) ?_
        have q629 : h398 61 0 = 1 := by have z := jB (e := 0) 0 j399 rg_61_0_0_1 (by decide) (by decide); omega
        refine x_getR (np := 4) (x := 576) (f := 0) (q := 1) (by decide +kernel) (by decide) (by decide +kernel) q629 ?_
        refine x_iload (np := 6) (x := 4) (by decide +kernel) rfl l628 ?_
        refine x_iload (np := 8) (x := 5) (by decide +kernel) rfl (by decide) ?_
        have m633 := Tp.fr m397 f400 (by decide) (by decide)
        refine x_cI (t := 6) (mj := 79) (n := 3) (rc := 8) (ml := 5) (nr := 0) (np := 11) (as := [x_r 1, iv_c ((h359 ((h 61 1) + 8) (1 + 4 * u80))), iv_c 2147483659]) (rest := []) (lo1 := [x_r 1, iv_c ((h359 ((h 61 1) + 8) (1 + 4 * u80))), iv_c 2147483659, 147573952589676412928, 147573952589676412928]) (by decide +kernel) (by decide) (by decide +kernel) (x_rb_of (by decide +kernel)) rfl rfl (x_wr (by decide) (x_wi l628 (x_wi (by decide) x_wn))) x_wn (by decide) rfl (c79_1 j399  (by first | decide | omega) (by first | decide | omega) m633) (fun v630 h634 l631 q632 => ?_)
        obtain ⟨j635, f636, b637, c638, c639, c640, c641⟩ := q632
        have f642 := Fr.trans f405 f636 (by decide)
        have b643 := jB (e := 2) 0 j635 rg_1_2_0_1 (by first | decide | omega) (by first | decide | omega)
        refine x_istore (np := 13) (x := 6) (lo' := [x_r 61, x_r ((h 61 1) + 7), iv_c v5, iv_c 2147483651, iv_c ((h359 ((h 61 1) + 8) (1 + 4 * u80))), iv_c 2147483659, iv_c v630]) (by decide +kernel) l631 (Nat.le_of_ble_eq_true rfl) rfl ?_
        refine x_iload (np := 15) (x := 6) (by decide +kernel) rfl l631 ?_
        refine x_const (np := 16) (x := 9223372034707292159) (a := 2147483647) (by decide +kernel) (by decide) (by decide) ?_
        refine x_icmp (k := 1) (tg := 21) (np := 19) (by decide +kernel) (by decide) l631 (by decide) (fun q644 => ?_) (fun q645 => ?_)
        · have q644 : v630 ≠ 2147483647 := q644
          have b646 := c639 (by first | decide | omega)
          refine x_aload (np := 22) (x := 1) (by decide +kernel) rfl (x_nc_le (tn_7 t1)) ?_
          refine x_iload (np := 23) (x := 2) (by decide +kernel) rfl l6 ?_
          refine x_iload (np := 24) (x := 3) (by decide +kernel) rfl (by decide) ?_
          refine x_iload (np := 26) (x := 6) (by decide +kernel) rfl l631 ?_
          refine x_nV (t := 6) (mj := 69) (n := 4) (rc := 7) (ml := 5) (nr := 0) (np := 29) (as := [x_r ((h 61 1) + 7), iv_c v5, iv_c 2147483651, iv_c v630]) (rest := []) (lo1 := [x_r ((h 61 1) + 7), iv_c v5, iv_c 2147483651, iv_c v630, 147573952589676412928]) (by decide +kernel) (by decide) (by decide +kernel) (x_rb_of (tr_7_7 t1)) rfl rfl (x_wr (tn_7 t1) (x_wi l6 (x_wi (by decide) (x_wi l631 x_wn)))) x_wn (by decide) rfl ?_
          refine x_iload (np := 1) (x := 1) (by decide +kernel) rfl l6 ?_
          refine x_ifz (k := 2) (tg := 28) (np := 4) (by decide +kernel) (by decide) l6 (fun q647 => ?_) (fun q648 => ?_)
          · have q647 : v5 < 2147483648 := q647
            exfalso; omega
          have q648 : ¬ (v5 < 2147483648) := q648
          refine x_iload (np := 5) (x := 1) (by decide +kernel) rfl l6 ?_
          refine x_aload (np := 6) (x := 0) (by decide +kernel) rfl (x_nc_le (tn_7 t1)) ?_
          have q649 : h634 ((h 61 1) + 7) 2 = h398 ((h 61 1) + 7) 2 := jK 0 f636 (rg_T7_2_0_1 t1) (by first | decide | omega) (by first | decide | omega) (by decide)
          have q650 : h398 ((h 61 1) + 7) 2 = h359 ((h 61 1) + 7) 2 := jK 0 f400 (rg_T7_2_0_1 t1) (by first | decide | omega) (by first | decide | omega) (by decide)
          have q651 : h359 ((h 61 1) + 7) 2 = h236 ((h 61 1) + 7) 2 := jK 0 f361 (rg_T7_2_0_1 t1) (by first | decide | omega) (by first | decide | omega) (by decide)
          have q652 : h236 ((h 61 1) + 7) 2 = h224 ((h 61 1) + 7) 2 := jK 0 f238 (rg_T7_2_0_1 t1) (by first | decide | omega) (by first | decide | omega) (by decide)
          have q653 : h224 ((h 61 1) + 7) 2 = h182 ((h 61 1) + 7) 2 := by rw [← e226]; exact x_up_k tof_7_8
          have q654 : h182 ((h 61 1) + 7) 2 = h95 ((h 61 1) + 7) 2 := jK 0 f184 (rg_T7_2_0_1 t1) (by first | decide | omega) (by first | decide | omega) (by decide)
          have q655 : h95 ((h 61 1) + 7) 2 = h83 ((h 61 1) + 7) 2 := jK 0 f97 (rg_T7_2_0_1 t1) (by first | decide | omega) (by first | decide | omega) (by decide)
          have q656 : h83 ((h 61 1) + 7) 2 = h43 ((h 61 1) + 7) 2 := by rw [← e85]; exact x_up_k tof_7_8
          have q657 : h43 ((h 61 1) + 7) 2 = h8 ((h 61 1) + 7) 2 := jK 0 f45 (rg_T7_2_0_1 t1) (by first | decide | omega) (by first | decide | omega) (by decide)
          refine x_getC (np := 9) (x := 386) (f := 2) (q := (h8 ((h 61 1) + 7) 2)) (by decide +kernel) (by decide) (tg_7_386_2_0 t1) ((((((((q649.trans q650).trans q651).trans q652).trans q653).trans q654).trans q655).trans q656).trans q657) (fun l658 => ?_)
          refine x_icmp (k := 3) (tg := 28) (np := 12) (by decide +kernel) (by decide) l6 l62 (fun q659 => ?_) (fun q660 => ?_)
          · have q659 : (h8 ((h 61 1) + 7) 2) ≤ v5 := q659
            exfalso; omega
          have q660 : ¬ ((h8 ((h 61 1) + 7) 2) ≤ v5) := q660
          refine x_iload (np := 13) (x := 2) (by decide +kernel) rfl (by decide) ?_
          refine x_ifz (k := 2) (tg := 28) (np := 16) (by decide +kernel) (by decide) (by decide) (fun q661 => ?_) (fun q662 => ?_)
          · have q661 : 2147483651 < 2147483648 := q661
            exfalso; omega
          have q662 : ¬ (2147483651 < 2147483648) := q662
          refine x_iload (np := 17) (x := 2) (by decide +kernel) rfl (by decide) ?_
          refine x_aload (np := 18) (x := 0) (by decide +kernel) rfl (x_nc_le (tn_7 t1)) ?_
          have q663 : h634 ((h 61 1) + 7) 0 = h398 ((h 61 1) + 7) 0 := jK 0 f636 (rg_T7_0_0_1 t1) (by first | decide | omega) (by first | decide | omega) (by decide)
          have q664 : h398 ((h 61 1) + 7) 0 = h359 ((h 61 1) + 7) 0 := jK 0 f400 (rg_T7_0_0_1 t1) (by first | decide | omega) (by first | decide | omega) (by decide)
          have q665 : h359 ((h 61 1) + 7) 0 = h236 ((h 61 1) + 7) 0 := jK 0 f361 (rg_T7_0_0_1 t1) (by first | decide | omega) (by first | decide | omega) (by decide)
          have q666 : h236 ((h 61 1) + 7) 0 = h224 ((h 61 1) + 7) 0 := jK 0 f238 (rg_T7_0_0_1 t1) (by first | decide | omega) (by first | decide | omega) (by decide)
          have q667 : h224 ((h 61 1) + 7) 0 = h182 ((h 61 1) + 7) 0 := by rw [← e226]; exact x_up_k tof_7_8
          have q668 : h182 ((h 61 1) + 7) 0 = h95 ((h 61 1) + 7) 0 := jK 0 f184 (rg_T7_0_0_1 t1) (by first | decide | omega) (by first | decide | omega) (by decide)
          have q669 : h95 ((h 61 1) + 7) 0 = h83 ((h 61 1) + 7) 0 := jK 0 f97 (rg_T7_0_0_1 t1) (by first | decide | omega) (by first | decide | omega) (by decide)
          have q670 : h83 ((h 61 1) + 7) 0 = h43 ((h 61 1) + 7) 0 := by rw [← e85]; exact x_up_k tof_7_8
          have q671 : h43 ((h 61 1) + 7) 0 = h8 ((h 61 1) + 7) 0 := jK 0 f45 (rg_T7_0_0_1 t1) (by first | decide | omega) (by first | decide | omega) (by decide)
          have q672 : h8 ((h 61 1) + 7) 0 = h ((h 61 1) + 7) 0 := jK 0 f10 (rg_T7_0_0_1 t1) (by first | decide | omega) (by first | decide | omega) (by decide)
          refine x_getC (np := 21) (x := 384) (f := 0) (q := 2147483652) (by decide +kernel) (by decide) (tg_7_384_0_0 t1) ((((((((((q663.trans q664).trans q665).trans q666).trans q667).trans q668).trans q669).trans q670).trans q671).trans q672).trans q70) (fun l673 => ?_)
          refine x_icmp (k := 3) (tg := 28) (np := 24) (by decide +kernel) (by decide) (by decide) (by decide) (fun q674 => ?_) (fun q675 => ?_)
          · have q674 : 2147483652 ≤ 2147483651 := q674
            exfalso; omega
          have q675 : ¬ (2147483652 ≤ 2147483651) := q675
          refine x_const (np := 25) (x := 9223372043297226753) (a := 2147483649) (by decide +kernel) (by decide) (by decide) ?_
          refine x_goto (np := 28) (x := 29) (by decide +kernel) ?_
          refine x_istore (np := 31) (x := 4) (lo' := [x_r ((h 61 1) + 7), iv_c v5, iv_c 2147483651, iv_c v630, iv_c 2147483649]) (by decide +kernel) (by decide) (Nat.le_of_ble_eq_true rfl) rfl ?_
          refine x_iload (np := 33) (x := 4) (by decide +kernel) rfl (by decide) ?_
          refine x_ifz (k := 0) (tg := 50) (np := 36) (by decide +kernel) (by decide) (by decide) (fun q676 => ?_) (fun q677 => ?_)
          · have q676 : 2147483649 = 2147483648 := q676
            exfalso; omega
          have q677 : ¬ (2147483649 = 2147483648) := q677
          refine x_aload (np := 37) (x := 0) (by decide +kernel) rfl (x_nc_le (tn_7 t1)) ?_
          have q678 : h634 ((h 61 1) + 7) 1 = ((h 61 1) + 8) := tf_7_1 j635 t1
          refine x_getR (np := 40) (x := 385) (f := 1) (q := ((h 61 1) + 8)) (by decide +kernel) (by decide) (tg_7_385_1_1 t1) q678 ?_
          refine x_iload (np := 41) (x := 1) (by decide +kernel) rfl l6 ?_
          refine x_aload (np := 42) (x := 0) (by decide +kernel) rfl (x_nc_le (tn_7 t1)) ?_
          have q679 : h634 ((h 61 1) + 7) 0 = h398 ((h 61 1) + 7) 0 := jK 0 f636 (rg_T7_0_0_1 t1) (by first | decide | omega) (by first | decide | omega) (by decide)
          have q680 : h398 ((h 61 1) + 7) 0 = h359 ((h 61 1) + 7) 0 := jK 0 f400 (rg_T7_0_0_1 t1) (by first | decide | omega) (by first | decide | omega) (by decide)
          have q681 : h359 ((h 61 1) + 7) 0 = h236 ((h 61 1) + 7) 0 := jK 0 f361 (rg_T7_0_0_1 t1) (by first | decide | omega) (by first | decide | omega) (by decide)
          have q682 : h236 ((h 61 1) + 7) 0 = h224 ((h 61 1) + 7) 0 := jK 0 f238 (rg_T7_0_0_1 t1) (by first | decide | omega) (by first | decide | omega) (by decide)
          have q683 : h224 ((h 61 1) + 7) 0 = h182 ((h 61 1) + 7) 0 := by rw [← e226]; exact x_up_k tof_7_8
          have q684 : h182 ((h 61 1) + 7) 0 = h95 ((h 61 1) + 7) 0 := jK 0 f184 (rg_T7_0_0_1 t1) (by first | decide | omega) (by first | decide | omega) (by decide)
          have q685 : h95 ((h 61 1) + 7) 0 = h83 ((h 61 1) + 7) 0 := jK 0 f97 (rg_T7_0_0_1 t1) (by first | decide | omega) (by first | decide | omega) (by decide)
          have q686 : h83 ((h 61 1) + 7) 0 = h43 ((h 61 1) + 7) 0 := by rw [← e85]; exact x_up_k tof_7_8
          have q687 : h43 ((h 61 1) + 7) 0 = h8 ((h 61 1) + 7) 0 := jK 0 f45 (rg_T7_0_0_1 t1) (by first | decide | omega) (by first | decide | omega) (by decide)
          have q688 : h8 ((h 61 1) + 7) 0 = h ((h 61 1) + 7) 0 := jK 0 f10 (rg_T7_0_0_1 t1) (by first | decide | omega) (by first | decide | omega) (by decide)
          refine x_getC (np := 45) (x := 384) (f := 0) (q := 2147483652) (by decide +kernel) (by decide) (tg_7_384_0_0 t1) ((((((((((q679.trans q680).trans q681).trans q682).trans q683).trans q684).trans q685).trans q686).trans q687).trans q688).trans q70) (fun l689 => ?_)
          refine x_imul (np := 46) (x := 0) (i := u80) (j := 4) (v := (2147483648 + 4 * u80)) (by decide +kernel) (by first | decide | omega) (by first | decide | omega) (by first | decide | omega) (by first | decide | omega) l6 (by decide) ?_
          refine x_iload (np := 47) (x := 2) (by decide +kernel) rfl (by decide) ?_
          refine x_iadd (np := 48) (x := 0) (v := (2147483651 + 4 * u80)) (by decide +kernel) (by first | decide | omega) (by decide) (by first | decide | omega) (by first | decide | omega) ?_
          refine x_iload (np := 49) (x := 3) (by decide +kernel) rfl l631 ?_
          refine x_ast (np := 50) (x := 0) (kd := 1) (n := 40) (i := (3 + 4 * u80)) (by decide +kernel) (Or.inl rfl) (ta_8_40 t1) (by first | decide | omega) (by first | decide | omega) (by decide) l631 (fun z => absurd z (by decide)) ?_
          have j692 := jU (e := (3 + 4 * u80)) (v := v630) u80 j635 (rg_T8_3_4_10 t1) (by first | decide | omega) (by first | decide | omega) (by first | decide | omega)
          have f694 := jF (e := (3 + 4 * u80)) (v := v630) u80 f642 (rg_T8_3_4_10 t1) (by first | decide | omega) (by first | decide | omega) (by decide)
          generalize e693 : x_up h634 ((h 61 1) + 8) (3 + 4 * u80) v630 = h691 at j692 f694 ⊢
          refine x_retV (np := 51) (x := 0) (by decide +kernel) (by decide +kernel) ⟨rfl, ?_⟩
          refine x_const (np := 30) (x := 9223372043297226753) (a := 2147483649) (by decide +kernel) (by decide) (by decide) ?_
          refine x_retI (np := 31) (x := 0) (by decide +kernel) (by decide) (Or.inr ⟨by decide +kernel, by first | decide | omega, by first | decide | omega⟩) ⟨_, rfl, (by decide), ?_⟩
          refine x_ifz (k := 0) (tg := 136) (np := 132) (by decide +kernel) (by decide) (by decide) (fun q695 => ?_) (fun q696 => ?_)
          · have q695 : 2147483649 = 2147483648 := q695
            exfalso; omega
          have q696 : ¬ (2147483649 = 2147483648) := q696
          refine x_const (np := 133) (x := 9223372043297226753) (a := 2147483649) (by decide +kernel) (by decide) (by decide) ?_
          refine x_goto (np := 136) (x := 137) (by decide +kernel) ?_
          have e697 : rv h 0 = (h (h 61 1) 7) := (congrArg (fun z => svq h z 0) rfl).trans rfl
          have q698 : h691 61 1 = h634 61 1 := by rw [← e693]; exact x_up_k (Ne.symm (tne_8_61 t1))
          have q699 : h634 61 1 = h398 61 1 := f636 61 1 (by decide +kernel)
          have q700 : h398 61 1 = h359 61 1 := f400 61 1 (by decide +kernel)
          have q701 : h359 61 1 = h236 61 1 := f361 61 1 (by decide +kernel)
          have q702 : h236 61 1 = h224 61 1 := f238 61 1 (by decide +kernel)
          have q703 : h224 61 1 = h182 61 1 := by rw [← e226]; exact x_up_k (Ne.symm (tne_8_61 t1))
          have q704 : h182 61 1 = h95 61 1 := f184 61 1 (by decide +kernel)
          have q705 : h95 61 1 = h83 61 1 := f97 61 1 (by decide +kernel)
          have q706 : h83 61 1 = h43 61 1 := by rw [← e85]; exact x_up_k (Ne.symm (tne_8_61 t1))
          have q707 : h43 61 1 = h8 61 1 := f45 61 1 (by decide +kernel)
          have q708 : h8 61 1 = h 61 1 := f10 61 1 (by decide +kernel)
          have q709 : h691 (h 61 1) 7 = h634 (h 61 1) 7 := by rw [← e693]; exact x_up_k tof_0_8
          have q710 : h634 (h 61 1) 7 = h398 (h 61 1) 7 := jK 0 f636 (rg_T0_7_0_1 t1) (by first | decide | omega) (by first | decide | omega) (by decide)
          have q711 : h398 (h 61 1) 7 = h359 (h 61 1) 7 := jK 0 f400 (rg_T0_7_0_1 t1) (by first | decide | omega) (by first | decide | omega) (by decide)
          have q712 : h359 (h 61 1) 7 = h236 (h 61 1) 7 := jK 0 f361 (rg_T0_7_0_1 t1) (by first | decide | omega) (by first | decide | omega) (by decide)
          have q713 : h236 (h 61 1) 7 = h224 (h 61 1) 7 := jK 0 f238 (rg_T0_7_0_1 t1) (by first | decide | omega) (by first | decide | omega) (by decide)
          have q714 : h224 (h 61 1) 7 = h182 (h 61 1) 7 := by rw [← e226]; exact x_up_k tof_0_8
          have q715 : h182 (h 61 1) 7 = h95 (h 61 1) 7 := jK 0 f184 (rg_T0_7_0_1 t1) (by first | decide | omega) (by first | decide | omega) (by decide)
          have q716 : h95 (h 61 1) 7 = h83 (h 61 1) 7 := jK 0 f97 (rg_T0_7_0_1 t1) (by first | decide | omega) (by first | decide | omega) (by decide)
          have q717 : h83 (h 61 1) 7 = h43 (h 61 1) 7 := by rw [← e85]; exact x_up_k tof_0_8
          have q718 : h43 (h 61 1) 7 = h8 (h 61 1) 7 := jK 0 f45 (rg_T0_7_0_1 t1) (by first | decide | omega) (by first | decide | omega) (by decide)
          have e719 : rv h691 0 = (h8 (h 61 1) 7) := (congrArg (fun z => svq h691 z 0) ((((((((((q698.trans q699).trans q700).trans q701).trans q702).trans q703).trans q704).trans q705).trans q706).trans q707).trans q708)).trans (((((((((q709.trans q710).trans q711).trans q712).trans q713).trans q714).trans q715).trans q716).trans q717).trans q718)
          have e720 : rv h 1 = (h (h 61 1) 8) := (congrArg (fun z => svq h z 1) rfl).trans rfl
          have q721 : h691 61 1 = h634 61 1 := by rw [← e693]; exact x_up_k (Ne.symm (tne_8_61 t1))
          have q722 : h634 61 1 = h398 61 1 := f636 61 1 (by decide +kernel)
          have q723 : h398 61 1 = h359 61 1 := f400 61 1 (by decide +kernel)
          have q724 : h359 61 1 = h236 61 1 := f361 61 1 (by decide +kernel)
          have q725 : h236 61 1 = h224 61 1 := f238 61 1 (by decide +kernel)
          have q726 : h224 61 1 = h182 61 1 := by rw [← e226]; exact x_up_k (Ne.symm (tne_8_61 t1))
          have q727 : h182 61 1 = h95 61 1 := f184 61 1 (by decide +kernel)
          have q728 : h95 61 1 = h83 61 1 := f97 61 1 (by decide +kernel)
          have q729 : h83 61 1 = h43 61 1 := by rw [← e85]; exact x_up_k (Ne.symm (tne_8_61 t1))
          have q730 : h43 61 1 = h8 61 1 := f45 61 1 (by decide +kernel)
          have q731 : h8 61 1 = h 61 1 := f10 61 1 (by decide +kernel)
          have q732 : h691 (h 61 1) 8 = h634 (h 61 1) 8 := by rw [← e693]; exact x_up_k tof_0_8
          have q733 : h634 (h 61 1) 8 = h398 (h 61 1) 8 := jK 0 f636 (rg_T0_8_0_1 t1) (by first | decide | omega) (by first | decide | omega) (by decide)
          have q734 : h398 (h 61 1) 8 = h359 (h 61 1) 8 := jK 0 f400 (rg_T0_8_0_1 t1) (by first | decide | omega) (by first | decide | omega) (by decide)
          have q735 : h359 (h 61 1) 8 = h236 (h 61 1) 8 := jK 0 f361 (rg_T0_8_0_1 t1) (by first | decide | omega) (by first | decide | omega) (by decide)
          have q736 : h236 (h 61 1) 8 = h224 (h 61 1) 8 := jK 0 f238 (rg_T0_8_0_1 t1) (by first | decide | omega) (by first | decide | omega) (by decide)
          have q737 : h224 (h 61 1) 8 = h182 (h 61 1) 8 := by rw [← e226]; exact x_up_k tof_0_8
          have q738 : h182 (h 61 1) 8 = h95 (h 61 1) 8 := jK 0 f184 (rg_T0_8_0_1 t1) (by first | decide | omega) (by first | decide | omega) (by decide)
          have q739 : h95 (h 61 1) 8 = h83 (h 61 1) 8 := jK 0 f97 (rg_T0_8_0_1 t1) (by first | decide | omega) (by first | decide | omega) (by decide)
          have q740 : h83 (h 61 1) 8 = h43 (h 61 1) 8 := by rw [← e85]; exact x_up_k tof_0_8
          have q741 : h43 (h 61 1) 8 = h8 (h 61 1) 8 := jK 0 f45 (rg_T0_8_0_1 t1) (by first | decide | omega) (by first | decide | omega) (by decide)
          have e742 : rv h691 1 = (h8 (h 61 1) 8) := (congrArg (fun z => svq h691 z 1) ((((((((((q721.trans q722).trans q723).trans q724).trans q725).trans q726).trans q727).trans q728).trans q729).trans q730).trans q731)).trans (((((((((q732.trans q733).trans q734).trans q735).trans q736).trans q737).trans q738).trans q739).trans q740).trans q741)
          have e743 : rv h 2 = (h ((h 61 1) + 1) 2) := (congrArg (fun z => svq h z 2) rfl).trans rfl
          have q744 : h691 61 1 = h634 61 1 := by rw [← e693]; exact x_up_k (Ne.symm (tne_8_61 t1))
          have q745 : h634 61 1 = h398 61 1 := f636 61 1 (by decide +kernel)
          have q746 : h398 61 1 = h359 61 1 := f400 61 1 (by decide +kernel)
          have q747 : h359 61 1 = h236 61 1 := f361 61 1 (by decide +kernel)
          have q748 : h236 61 1 = h224 61 1 := f238 61 1 (by decide +kernel)
          have q749 : h224 61 1 = h182 61 1 := by rw [← e226]; exact x_up_k (Ne.symm (tne_8_61 t1))
          have q750 : h182 61 1 = h95 61 1 := f184 61 1 (by decide +kernel)
          have q751 : h95 61 1 = h83 61 1 := f97 61 1 (by decide +kernel)
          have q752 : h83 61 1 = h43 61 1 := by rw [← e85]; exact x_up_k (Ne.symm (tne_8_61 t1))
          have q753 : h43 61 1 = h8 61 1 := f45 61 1 (by decide +kernel)
          have q754 : h8 61 1 = h 61 1 := f10 61 1 (by decide +kernel)
          have q755 : h691 ((h 61 1) + 1) 2 = h634 ((h 61 1) + 1) 2 := by rw [← e693]; exact x_up_k tof_1_8
          have q756 : h634 ((h 61 1) + 1) 2 = h398 ((h 61 1) + 1) 2 := jK 0 f636 (rg_T1_2_0_1 t1) (by first | decide | omega) (by first | decide | omega) (by decide)
          have q757 : h398 ((h 61 1) + 1) 2 = h359 ((h 61 1) + 1) 2 := jK 0 f400 (rg_T1_2_0_1 t1) (by first | decide | omega) (by first | decide | omega) (by decide)
          have q758 : h359 ((h 61 1) + 1) 2 = h236 ((h 61 1) + 1) 2 := jK 0 f361 (rg_T1_2_0_1 t1) (by first | decide | omega) (by first | decide | omega) (by decide)
          have q759 : h236 ((h 61 1) + 1) 2 = h224 ((h 61 1) + 1) 2 := jK 0 f238 (rg_T1_2_0_1 t1) (by first | decide | omega) (by first | decide | omega) (by decide)
          have q760 : h224 ((h 61 1) + 1) 2 = h182 ((h 61 1) + 1) 2 := by rw [← e226]; exact x_up_k tof_1_8
          have q761 : h182 ((h 61 1) + 1) 2 = h95 ((h 61 1) + 1) 2 := jK 0 f184 (rg_T1_2_0_1 t1) (by first | decide | omega) (by first | decide | omega) (by decide)
          have q762 : h95 ((h 61 1) + 1) 2 = h83 ((h 61 1) + 1) 2 := jK 0 f97 (rg_T1_2_0_1 t1) (by first | decide | omega) (by first | decide | omega) (by decide)
          have q763 : h83 ((h 61 1) + 1) 2 = h43 ((h 61 1) + 1) 2 := by rw [← e85]; exact x_up_k tof_1_8
          have q764 : h43 ((h 61 1) + 1) 2 = h8 ((h 61 1) + 1) 2 := jK 0 f45 (rg_T1_2_0_1 t1) (by first | decide | omega) (by first | decide | omega) (by decide)
          have e765 : rv h691 2 = (h8 ((h 61 1) + 1) 2) := (congrArg (fun z => svq h691 z 2) ((((((((((q744.trans q745).trans q746).trans q747).trans q748).trans q749).trans q750).trans q751).trans q752).trans q753).trans q754)).trans (((((((((q755.trans q756).trans q757).trans q758).trans q759).trans q760).trans q761).trans q762).trans q763).trans q764)
          have e766 : rv h 3 = (h ((h 61 1) + 3) 2) := (congrArg (fun z => svq h z 3) rfl).trans rfl
          have q767 : h691 61 1 = h634 61 1 := by rw [← e693]; exact x_up_k (Ne.symm (tne_8_61 t1))
          have q768 : h634 61 1 = h398 61 1 := f636 61 1 (by decide +kernel)
          have q769 : h398 61 1 = h359 61 1 := f400 61 1 (by decide +kernel)
          have q770 : h359 61 1 = h236 61 1 := f361 61 1 (by decide +kernel)
          have q771 : h236 61 1 = h224 61 1 := f238 61 1 (by decide +kernel)
          have q772 : h224 61 1 = h182 61 1 := by rw [← e226]; exact x_up_k (Ne.symm (tne_8_61 t1))
          have q773 : h182 61 1 = h95 61 1 := f184 61 1 (by decide +kernel)
          have q774 : h95 61 1 = h83 61 1 := f97 61 1 (by decide +kernel)
          have q775 : h83 61 1 = h43 61 1 := by rw [← e85]; exact x_up_k (Ne.symm (tne_8_61 t1))
          have q776 : h43 61 1 = h8 61 1 := f45 61 1 (by decide +kernel)
          have q777 : h8 61 1 = h 61 1 := f10 61 1 (by decide +kernel)
          have q778 : h691 ((h 61 1) + 3) 2 = h634 ((h 61 1) + 3) 2 := by rw [← e693]; exact x_up_k tof_3_8
          have q779 : h634 ((h 61 1) + 3) 2 = h398 ((h 61 1) + 3) 2 := jK 0 f636 (rg_T3_2_0_1 t1) (by first | decide | omega) (by first | decide | omega) (by decide)
          have q780 : h398 ((h 61 1) + 3) 2 = h359 ((h 61 1) + 3) 2 := jK 0 f400 (rg_T3_2_0_1 t1) (by first | decide | omega) (by first | decide | omega) (by decide)
          have q781 : h359 ((h 61 1) + 3) 2 = h236 ((h 61 1) + 3) 2 := jK 0 f361 (rg_T3_2_0_1 t1) (by first | decide | omega) (by first | decide | omega) (by decide)
          have q782 : h236 ((h 61 1) + 3) 2 = h224 ((h 61 1) + 3) 2 := jK 0 f238 (rg_T3_2_0_1 t1) (by first | decide | omega) (by first | decide | omega) (by decide)
          have q783 : h224 ((h 61 1) + 3) 2 = h182 ((h 61 1) + 3) 2 := by rw [← e226]; exact x_up_k tof_3_8
          have q784 : h182 ((h 61 1) + 3) 2 = h95 ((h 61 1) + 3) 2 := jK 0 f184 (rg_T3_2_0_1 t1) (by first | decide | omega) (by first | decide | omega) (by decide)
          have q785 : h95 ((h 61 1) + 3) 2 = h83 ((h 61 1) + 3) 2 := jK 0 f97 (rg_T3_2_0_1 t1) (by first | decide | omega) (by first | decide | omega) (by decide)
          have q786 : h83 ((h 61 1) + 3) 2 = h43 ((h 61 1) + 3) 2 := by rw [← e85]; exact x_up_k tof_3_8
          have q787 : h43 ((h 61 1) + 3) 2 = h8 ((h 61 1) + 3) 2 := jK 0 f45 (rg_T3_2_0_1 t1) (by first | decide | omega) (by first | decide | omega) (by decide)
          have e788 : rv h691 3 = (h8 ((h 61 1) + 3) 2) := (congrArg (fun z => svq h691 z 3) ((((((((((q767.trans q768).trans q769).trans q770).trans q771).trans q772).trans q773).trans q774).trans q775).trans q776).trans q777)).trans (((((((((q778.trans q779).trans q780).trans q781).trans q782).trans q783).trans q784).trans q785).trans q786).trans q787)
          have e789 : rv h 4 = (h ((h 61 1) + 5) 2) := (congrArg (fun z => svq h z 4) rfl).trans rfl
          have q790 : h691 61 1 = h634 61 1 := by rw [← e693]; exact x_up_k (Ne.symm (tne_8_61 t1))
          have q791 : h634 61 1 = h398 61 1 := f636 61 1 (by decide +kernel)
          have q792 : h398 61 1 = h359 61 1 := f400 61 1 (by decide +kernel)
          have q793 : h359 61 1 = h236 61 1 := f361 61 1 (by decide +kernel)
          have q794 : h236 61 1 = h224 61 1 := f238 61 1 (by decide +kernel)
          have q795 : h224 61 1 = h182 61 1 := by rw [← e226]; exact x_up_k (Ne.symm (tne_8_61 t1))
          have q796 : h182 61 1 = h95 61 1 := f184 61 1 (by decide +kernel)
          have q797 : h95 61 1 = h83 61 1 := f97 61 1 (by decide +kernel)
          have q798 : h83 61 1 = h43 61 1 := by rw [← e85]; exact x_up_k (Ne.symm (tne_8_61 t1))
          have q799 : h43 61 1 = h8 61 1 := f45 61 1 (by decide +kernel)
          have q800 : h8 61 1 = h 61 1 := f10 61 1 (by decide +kernel)
          have q801 : h691 ((h 61 1) + 5) 2 = h634 ((h 61 1) + 5) 2 := by rw [← e693]; exact x_up_k tof_5_8
          have q802 : h634 ((h 61 1) + 5) 2 = h398 ((h 61 1) + 5) 2 := jK 0 f636 (rg_T5_2_0_1 t1) (by first | decide | omega) (by first | decide | omega) (by decide)
          have q803 : h398 ((h 61 1) + 5) 2 = h359 ((h 61 1) + 5) 2 := jK 0 f400 (rg_T5_2_0_1 t1) (by first | decide | omega) (by first | decide | omega) (by decide)
          have q804 : h359 ((h 61 1) + 5) 2 = h236 ((h 61 1) + 5) 2 := jK 0 f361 (rg_T5_2_0_1 t1) (by first | decide | omega) (by first | decide | omega) (by decide)
          have q805 : h236 ((h 61 1) + 5) 2 = h224 ((h 61 1) + 5) 2 := jK 0 f238 (rg_T5_2_0_1 t1) (by first | decide | omega) (by first | decide | omega) (by decide)
          have q806 : h224 ((h 61 1) + 5) 2 = h182 ((h 61 1) + 5) 2 := by rw [← e226]; exact x_up_k tof_5_8
          have q807 : h182 ((h 61 1) + 5) 2 = h95 ((h 61 1) + 5) 2 := jK 0 f184 (rg_T5_2_0_1 t1) (by first | decide | omega) (by first | decide | omega) (by decide)
          have q808 : h95 ((h 61 1) + 5) 2 = h83 ((h 61 1) + 5) 2 := jK 0 f97 (rg_T5_2_0_1 t1) (by first | decide | omega) (by first | decide | omega) (by decide)
          have q809 : h83 ((h 61 1) + 5) 2 = h43 ((h 61 1) + 5) 2 := by rw [← e85]; exact x_up_k tof_5_8
          have q810 : h43 ((h 61 1) + 5) 2 = h8 ((h 61 1) + 5) 2 := jK 0 f45 (rg_T5_2_0_1 t1) (by first | decide | omega) (by first | decide | omega) (by decide)
          have e811 : rv h691 4 = (h8 ((h 61 1) + 5) 2) := (congrArg (fun z => svq h691 z 4) ((((((((((q790.trans q791).trans q792).trans q793).trans q794).trans q795).trans q796).trans q797).trans q798).trans q799).trans q800)).trans (((((((((q801.trans q802).trans q803).trans q804).trans q805).trans q806).trans q807).trans q808).trans q809).trans q810)
          have q812 : h691 61 1 = h634 61 1 := by rw [← e693]; exact x_up_k (Ne.symm (tne_8_61 t1))
          have q813 : h634 61 1 = h398 61 1 := f636 61 1 (by decide +kernel)
          have q814 : h398 61 1 = h359 61 1 := f400 61 1 (by decide +kernel)
          have q815 : h359 61 1 = h236 61 1 := f361 61 1 (by decide +kernel)
          have q816 : h236 61 1 = h224 61 1 := f238 61 1 (by decide +kernel)
          have q817 : h224 61 1 = h182 61 1 := by rw [← e226]; exact x_up_k (Ne.symm (tne_8_61 t1))
          have q818 : h182 61 1 = h95 61 1 := f184 61 1 (by decide +kernel)
          have q819 : h95 61 1 = h83 61 1 := f97 61 1 (by decide +kernel)
          have q820 : h83 61 1 = h43 61 1 := by rw [← e85]; exact x_up_k (Ne.symm (tne_8_61 t1))
          have q821 : h43 61 1 = h8 61 1 := f45 61 1 (by decide +kernel)
          have q822 : h8 61 1 = h 61 1 := f10 61 1 (by decide +kernel)
          have q823 : h691 ((h 61 1) + 7) 2 = h634 ((h 61 1) + 7) 2 := by rw [← e693]; exact x_up_k tof_7_8
          have q824 : h634 ((h 61 1) + 7) 2 = h398 ((h 61 1) + 7) 2 := jK 0 f636 (rg_T7_2_0_1 t1) (by first | decide | omega) (by first | decide | omega) (by decide)
          have q825 : h398 ((h 61 1) + 7) 2 = h359 ((h 61 1) + 7) 2 := jK 0 f400 (rg_T7_2_0_1 t1) (by first | decide | omega) (by first | decide | omega) (by decide)
          have q826 : h359 ((h 61 1) + 7) 2 = h236 ((h 61 1) + 7) 2 := jK 0 f361 (rg_T7_2_0_1 t1) (by first | decide | omega) (by first | decide | omega) (by decide)
          have q827 : h236 ((h 61 1) + 7) 2 = h224 ((h 61 1) + 7) 2 := jK 0 f238 (rg_T7_2_0_1 t1) (by first | decide | omega) (by first | decide | omega) (by decide)
          have q828 : h224 ((h 61 1) + 7) 2 = h182 ((h 61 1) + 7) 2 := by rw [← e226]; exact x_up_k tof_7_8
          have q829 : h182 ((h 61 1) + 7) 2 = h95 ((h 61 1) + 7) 2 := jK 0 f184 (rg_T7_2_0_1 t1) (by first | decide | omega) (by first | decide | omega) (by decide)
          have q830 : h95 ((h 61 1) + 7) 2 = h83 ((h 61 1) + 7) 2 := jK 0 f97 (rg_T7_2_0_1 t1) (by first | decide | omega) (by first | decide | omega) (by decide)
          have q831 : h83 ((h 61 1) + 7) 2 = h43 ((h 61 1) + 7) 2 := by rw [← e85]; exact x_up_k tof_7_8
          have q832 : h43 ((h 61 1) + 7) 2 = h8 ((h 61 1) + 7) 2 := jK 0 f45 (rg_T7_2_0_1 t1) (by first | decide | omega) (by first | decide | omega) (by decide)
          have e833 : rv h691 5 = (h8 ((h 61 1) + 7) 2) := (congrArg (fun z => svq h691 z 5) ((((((((((q812.trans q813).trans q814).trans q815).trans q816).trans q817).trans q818).trans q819).trans q820).trans q821).trans q822)).trans (((((((((q823.trans q824).trans q825).trans q826).trans q827).trans q828).trans q829).trans q830).trans q831).trans q832)
          have q834 : h8 1 2 = h 1 2 := jK 0 f10 rg_1_2_0_1 (by first | decide | omega) (by first | decide | omega) (by decide)
          have q835 : h83 1 2 = h43 1 2 := by rw [← e85]; exact x_up_k (Ne.symm (tne_8_1 t1))
          obtain ⟨w836, e837⟩ := Tk.yes c101 (by first | decide | omega)
          have q838 : h224 1 2 = h182 1 2 := by rw [← e226]; exact x_up_k (Ne.symm (tne_8_1 t1))
          obtain ⟨w839, e840⟩ := Tk.yes c242 (by first | decide | omega)
          have q841 : h236 61 1 = h224 61 1 := f238 61 1 (by decide +kernel)
          have q842 : h224 61 1 = h182 61 1 := by rw [← e226]; exact x_up_k (Ne.symm (tne_8_61 t1))
          have q843 : h182 61 1 = h95 61 1 := f184 61 1 (by decide +kernel)
          have q844 : h95 61 1 = h83 61 1 := f97 61 1 (by decide +kernel)
          have q845 : h83 61 1 = h43 61 1 := by rw [← e85]; exact x_up_k (Ne.symm (tne_8_61 t1))
          have q846 : h43 61 1 = h8 61 1 := f45 61 1 (by decide +kernel)
          have q847 : h8 61 1 = h 61 1 := f10 61 1 (by decide +kernel)
          have q848 : h236 (h 61 1) 7 = h224 (h 61 1) 7 := jK 0 f238 (rg_T0_7_0_1 t1) (by first | decide | omega) (by first | decide | omega) (by decide)
          have q849 : h224 (h 61 1) 7 = h182 (h 61 1) 7 := by rw [← e226]; exact x_up_k tof_0_8
          have q850 : h182 (h 61 1) 7 = h95 (h 61 1) 7 := jK 0 f184 (rg_T0_7_0_1 t1) (by first | decide | omega) (by first | decide | omega) (by decide)
          have q851 : h95 (h 61 1) 7 = h83 (h 61 1) 7 := jK 0 f97 (rg_T0_7_0_1 t1) (by first | decide | omega) (by first | decide | omega) (by decide)
          have q852 : h83 (h 61 1) 7 = h43 (h 61 1) 7 := by rw [← e85]; exact x_up_k tof_0_8
          have q853 : h43 (h 61 1) 7 = h8 (h 61 1) 7 := jK 0 f45 (rg_T0_7_0_1 t1) (by first | decide | omega) (by first | decide | omega) (by decide)
          have e854 : rv h236 0 = (h8 (h 61 1) 7) := (congrArg (fun z => svq h236 z 0) ((((((q841.trans q842).trans q843).trans q844).trans q845).trans q846).trans q847)).trans (((((q848.trans q849).trans q850).trans q851).trans q852).trans q853)
          obtain ⟨w855, e856⟩ := Tk.yes c404 (by first | decide | omega)
          have q857 : h691 1 2 = h634 1 2 := by rw [← e693]; exact x_up_k (Ne.symm (tne_8_1 t1))
          have m858 : Ot (h 61 1) h h8 := Ot.trans Ot.refl (c19)
          have m859 : Ot (h 61 1) h h43 := Ot.fr m858 f45 (by decide)
          have m860 : Ot (h 61 1) h h83 := by rw [← e85]; exact Ot.up (o := 8) m859 t1 (by decide) rfl
          have m861 : Ot (h 61 1) h h95 := Ot.fr m860 f97 (by decide)
          have m862 : Ot (h 61 1) h h182 := Ot.fr m861 f184 (by decide)
          have m863 : Ot (h 61 1) h h224 := by rw [← e226]; exact Ot.up (o := 8) m862 t1 (by decide) rfl
          have m864 : Ot (h 61 1) h h236 := Ot.fr m863 f238 (by decide)
          have m865 : Ot (h 61 1) h h359 := Ot.trans m864 (Ot.cast c365 ((((((q375.trans q376).trans q377).trans q378).trans q379).trans q380).trans q381))
          have m866 : Ot (h 61 1) h h398 := Ot.fr m865 f400 (by decide)
          have m867 : Ot (h 61 1) h h634 := Ot.fr m866 f636 (by decide)
          have m868 : Ot (h 61 1) h h691 := by rw [← e693]; exact Ot.up (o := 8) m867 t1 (by decide) rfl
          have q869 : h236 61 1 = h224 61 1 := f238 61 1 (by decide +kernel)
          have q870 : h224 61 1 = h182 61 1 := by rw [← e226]; exact x_up_k (Ne.symm (tne_8_61 t1))
          have q871 : h182 61 1 = h95 61 1 := f184 61 1 (by decide +kernel)
          have q872 : h95 61 1 = h83 61 1 := f97 61 1 (by decide +kernel)
          have q873 : h83 61 1 = h43 61 1 := by rw [← e85]; exact x_up_k (Ne.symm (tne_8_61 t1))
          have q874 : h43 61 1 = h8 61 1 := f45 61 1 (by decide +kernel)
          have q875 : h8 61 1 = h 61 1 := f10 61 1 (by decide +kernel)
          have q876 : h236 (h 61 1) 7 = h224 (h 61 1) 7 := jK 0 f238 (rg_T0_7_0_1 t1) (by first | decide | omega) (by first | decide | omega) (by decide)
          have q877 : h224 (h 61 1) 7 = h182 (h 61 1) 7 := by rw [← e226]; exact x_up_k tof_0_8
          have q878 : h182 (h 61 1) 7 = h95 (h 61 1) 7 := jK 0 f184 (rg_T0_7_0_1 t1) (by first | decide | omega) (by first | decide | omega) (by decide)
          have q879 : h95 (h 61 1) 7 = h83 (h 61 1) 7 := jK 0 f97 (rg_T0_7_0_1 t1) (by first | decide | omega) (by first | decide | omega) (by decide)
          have q880 : h83 (h 61 1) 7 = h43 (h 61 1) 7 := by rw [← e85]; exact x_up_k tof_0_8
          have q881 : h43 (h 61 1) 7 = h8 (h 61 1) 7 := jK 0 f45 (rg_T0_7_0_1 t1) (by first | decide | omega) (by first | decide | omega) (by decide)
          have q882 : h691 ((h 61 1) + 8) (1 + 4 * u80) = h634 ((h 61 1) + 8) (1 + 4 * u80) := by rw [← e693]; exact x_up_i (by first | decide | omega)
          have q883 : h634 ((h 61 1) + 8) (1 + 4 * u80) = h398 ((h 61 1) + 8) (1 + 4 * u80) := jK u80 f636 (rg_T8_1_4_10 t1) (by first | decide | omega) (by first | decide | omega) (by decide)
          have q884 : h398 ((h 61 1) + 8) (1 + 4 * u80) = h359 ((h 61 1) + 8) (1 + 4 * u80) := jK u80 f400 (rg_T8_1_4_10 t1) (by first | decide | omega) (by first | decide | omega) (by decide)
          have q885 : h691 ((h 61 1) + 8) (2 + 4 * u80) = h634 ((h 61 1) + 8) (2 + 4 * u80) := by rw [← e693]; exact x_up_i (by first | decide | omega)
          have q886 : h634 ((h 61 1) + 8) (2 + 4 * u80) = h398 ((h 61 1) + 8) (2 + 4 * u80) := jK u80 f636 (rg_T8_2_4_10 t1) (by first | decide | omega) (by first | decide | omega) (by decide)
          have q887 : h398 ((h 61 1) + 8) (2 + 4 * u80) = h359 ((h 61 1) + 8) (2 + 4 * u80) := jK u80 f400 (rg_T8_2_4_10 t1) (by first | decide | omega) (by first | decide | omega) (by decide)
          obtain ⟨w888, e889⟩ := Tk.yes c101 (by first | decide | omega)
          obtain ⟨w890, e891⟩ := Tk.yes c242 (by first | decide | omega)
          have m892 : ∀ u, u < 10 → u ≠ u80 → aq h691 (h 61 1) u = aq h (h 61 1) u := fun u hu hne => (Eq.trans (show aq h691 (h 61 1) u = aq h634 (h 61 1) u by rw [← e693]; exact aq_i (by first | decide | omega)) (Eq.trans (aq_gr t1 f636 (by decide) u hu) (Eq.trans (aq_gr t1 f400 (by decide) u hu) (Eq.trans ((c366 (by first | decide | omega) (h 61 1) u80 ((((((q368.trans q369).trans q370).trans q371).trans q372).trans q373).trans q374) (by first | decide | omega) (by first | decide | omega)).2.1 u hu) (Eq.trans (aq_gr t1 f238 (by decide) u hu) (Eq.trans (show aq h224 (h 61 1) u = aq h182 (h 61 1) u by rw [← e226]; exact aq_i (by first | decide | omega)) (Eq.trans (aq_gr t1 f184 (by decide) u hu) (Eq.trans (aq_gr t1 f97 (by decide) u hu) (Eq.trans (show aq h83 (h 61 1) u = aq h43 (h 61 1) u by rw [← e85]; exact aq_i (by first | decide | omega)) (Eq.trans (aq_gr t1 f45 (by decide) u hu) (c20 u hu (by first | decide | omega))))))))))))
          have m893 : ∀ u, u < 10 → u ≠ u80 → bq h691 (h 61 1) u = bq h (h 61 1) u := fun u hu hne => (Eq.trans (show bq h691 (h 61 1) u = bq h634 (h 61 1) u by rw [← e693]; exact bq_i (by first | decide | omega)) (Eq.trans (bq_gr t1 f636 (by decide) u hu) (Eq.trans (bq_gr t1 f400 (by decide) u hu) (Eq.trans ((c366 (by first | decide | omega) (h 61 1) u80 ((((((q368.trans q369).trans q370).trans q371).trans q372).trans q373).trans q374) (by first | decide | omega) (by first | decide | omega)).2.2 u hu (by first | decide | omega)) (Eq.trans (bq_gr t1 f238 (by decide) u hu) (Eq.trans (show bq h224 (h 61 1) u = bq h182 (h 61 1) u by rw [← e226]; exact bq_i (by first | decide | omega)) (Eq.trans (bq_gr t1 f184 (by decide) u hu) (Eq.trans (bq_gr t1 f97 (by decide) u hu) (Eq.trans (show bq h83 (h 61 1) u = bq h43 (h 61 1) u by rw [← e85]; exact bq_i (by first | decide | omega)) (Eq.trans (bq_gr t1 f45 (by decide) u hu) (c21 u hu (by first | decide | omega))))))))))))
          have q894 : h8 1 2 = h 1 2 := jK 0 f10 rg_1_2_0_1 (by first | decide | omega) (by first | decide | omega) (by decide)
          have q895 : h83 1 2 = h43 1 2 := by rw [← e85]; exact x_up_k (Ne.symm (tne_8_1 t1))
          have q896 : h224 1 2 = h182 1 2 := by rw [← e226]; exact x_up_k (Ne.symm (tne_8_1 t1))
          refine x_retI (np := 138) (x := 0) (by decide +kernel) (by decide) (Or.inr ⟨by decide +kernel, by first | decide | omega, by first | decide | omega⟩) ⟨_, rfl, (by decide), ?_⟩
          exact ⟨j692, f694, (by first | decide | omega), (by first | decide | omega), (by first | decide | omega), (by first | decide | omega), (by first | decide | omega), (by first | decide | omega), (fun z => by first | decide | omega), (nm9.y c50 (by first | decide | omega) (by first | decide | omega) (show h8 1 2 = h 1 2 by first | decide | omega) (by first | decide | omega) rfl (wd9.y w836 (show h83 1 2 = h43 1 2 by first | decide | omega) e837 rfl (nm9.y c189 (by first | decide | omega) (by first | decide | omega) rfl (by first | decide | omega) rfl (wd9.y w839 (show h224 1 2 = h182 1 2 by first | decide | omega) e840 rfl (bl9.y c363 (by first | decide | omega) rfl (by first | decide | omega) rfl (wd9.y w855 rfl e856 rfl (nm9.y c641 (by first | decide | omega) (by first | decide | omega) rfl (by first | decide | omega) rfl (fin9.mk (by first | decide | omega) (show h634 1 2 = h691 1 2 by first | decide | omega))))))))), m868, (fun _ => Sx.mk c50 (by first | decide | omega) (by first | decide | omega) (show h8 1 2 = h 1 2 by first | decide | omega) (by first | decide | omega) w888 (show h83 1 2 = h43 1 2 by first | decide | omega) e889 c189 (by first | decide | omega) (by first | decide | omega) rfl (by first | decide | omega) w890 (show h224 1 2 = h182 1 2 by first | decide | omega) e891 (c366 (by first | decide | omega) (h 61 1) u80 ((((((q368.trans q369).trans q370).trans q371).trans q372).trans q373).trans q374) (by first | decide | omega) (by first | decide | omega)).1 (by first | decide | omega) rfl rfl (sx_ab (u := u80) (v := v178) (y := h359 ((h 61 1) + 8) (2 + 4 * u80)) (by first | decide | omega) (by first | decide | omega) (show h691 ((h 61 1) + 8) (1 + 4 * u80) = v178 by first | decide | omega) (show h691 ((h 61 1) + 8) (2 + 4 * u80) = h359 ((h 61 1) + 8) (2 + 4 * u80) by first | decide | omega) m892 m893))⟩
        have q645 : ¬ (v630 ≠ 2147483647) := q645
        have b897 := c640 (by first | decide | omega)
        refine x_const (np := 20) (x := 9223372039002259456) (a := 2147483648) (by decide +kernel) (by decide) (by decide) ?_
        refine x_retI (np := 21) (x := 0) (by decide +kernel) (by decide) (Or.inr ⟨by decide +kernel, by first | decide | omega, by first | decide | omega⟩) ⟨_, rfl, (by decide), ?_⟩
        refine x_ifz (k := 0) (tg := 136) (np := 132) (by decide +kernel) (by decide) (by decide) (fun q898 => ?_) (fun q899 => ?_)
        · have q898 : 2147483648 = 2147483648 := q898
          refine x_const (np := 137) (x := 9223372039002259456) (a := 2147483648) (by decide +kernel) (by decide) (by decide) ?_
          have e900 : rv h 0 = (h (h 61 1) 7) := (congrArg (fun z => svq h z 0) rfl).trans rfl
          have q901 : h634 61 1 = h398 61 1 := f636 61 1 (by decide +kernel)
          have q902 : h398 61 1 = h359 61 1 := f400 61 1 (by decide +kernel)
          have q903 : h359 61 1 = h236 61 1 := f361 61 1 (by decide +kernel)
          have q904 : h236 61 1 = h224 61 1 := f238 61 1 (by decide +kernel)
          have q905 : h224 61 1 = h182 61 1 := by rw [← e226]; exact x_up_k (Ne.symm (tne_8_61 t1))
          have q906 : h182 61 1 = h95 61 1 := f184 61 1 (by decide +kernel)
          have q907 : h95 61 1 = h83 61 1 := f97 61 1 (by decide +kernel)
          have q908 : h83 61 1 = h43 61 1 := by rw [← e85]; exact x_up_k (Ne.symm (tne_8_61 t1))
          have q909 : h43 61 1 = h8 61 1 := f45 61 1 (by decide +kernel)
          have q910 : h8 61 1 = h 61 1 := f10 61 1 (by decide +kernel)
          have q911 : h634 (h 61 1) 7 = h398 (h 61 1) 7 := jK 0 f636 (rg_T0_7_0_1 t1) (by first | decide | omega) (by first | decide | omega) (by decide)
          have q912 : h398 (h 61 1) 7 = h359 (h 61 1) 7 := jK 0 f400 (rg_T0_7_0_1 t1) (by first | decide | omega) (by first | decide | omega) (by decide)
          have q913 : h359 (h 61 1) 7 = h236 (h 61 1) 7 := jK 0 f361 (rg_T0_7_0_1 t1) (by first | decide | omega) (by first | decide | omega) (by decide)
          have q914 : h236 (h 61 1) 7 = h224 (h 61 1) 7 := jK 0 f238 (rg_T0_7_0_1 t1) (by first | decide | omega) (by first | decide | omega) (by decide)
          have q915 : h224 (h 61 1) 7 = h182 (h 61 1) 7 := by rw [← e226]; exact x_up_k tof_0_8
          have q916 : h182 (h 61 1) 7 = h95 (h 61 1) 7 := jK 0 f184 (rg_T0_7_0_1 t1) (by first | decide | omega) (by first | decide | omega) (by decide)
          have q917 : h95 (h 61 1) 7 = h83 (h 61 1) 7 := jK 0 f97 (rg_T0_7_0_1 t1) (by first | decide | omega) (by first | decide | omega) (by decide)
          have q918 : h83 (h 61 1) 7 = h43 (h 61 1) 7 := by rw [← e85]; exact x_up_k tof_0_8
          have q919 : h43 (h 61 1) 7 = h8 (h 61 1) 7 := jK 0 f45 (rg_T0_7_0_1 t1) (by first | decide | omega) (by first | decide | omega) (by decide)
          have e920 : rv h634 0 = (h8 (h 61 1) 7) := (congrArg (fun z => svq h634 z 0) (((((((((q901.trans q902).trans q903).trans q904).trans q905).trans q906).trans q907).trans q908).trans q909).trans q910)).trans ((((((((q911.trans q912).trans q913).trans q914).trans q915).trans q916).trans q917).trans q918).trans q919)
          have e921 : rv h 1 = (h (h 61 1) 8) := (congrArg (fun z => svq h z 1) rfl).trans rfl
          have q922 : h634 61 1 = h398 61 1 := f636 61 1 (by decide +kernel)
          have q923 : h398 61 1 = h359 61 1 := f400 61 1 (by decide +kernel)
          have q924 : h359 61 1 = h236 61 1 := f361 61 1 (by decide +kernel)
          have q925 : h236 61 1 = h224 61 1 := f238 61 1 (by decide +kernel)
          have q926 : h224 61 1 = h182 61 1 := by rw [← e226]; exact x_up_k (Ne.symm (tne_8_61 t1))
          have q927 : h182 61 1 = h95 61 1 := f184 61 1 (by decide +kernel)
          have q928 : h95 61 1 = h83 61 1 := f97 61 1 (by decide +kernel)
          have q929 : h83 61 1 = h43 61 1 := by rw [← e85]; exact x_up_k (Ne.symm (tne_8_61 t1))
          have q930 : h43 61 1 = h8 61 1 := f45 61 1 (by decide +kernel)
          have q931 : h8 61 1 = h 61 1 := f10 61 1 (by decide +kernel)
          have q932 : h634 (h 61 1) 8 = h398 (h 61 1) 8 := jK 0 f636 (rg_T0_8_0_1 t1) (by first | decide | omega) (by first | decide | omega) (by decide)
          have q933 : h398 (h 61 1) 8 = h359 (h 61 1) 8 := jK 0 f400 (rg_T0_8_0_1 t1) (by first | decide | omega) (by first | decide | omega) (by decide)
          have q934 : h359 (h 61 1) 8 = h236 (h 61 1) 8 := jK 0 f361 (rg_T0_8_0_1 t1) (by first | decide | omega) (by first | decide | omega) (by decide)
          have q935 : h236 (h 61 1) 8 = h224 (h 61 1) 8 := jK 0 f238 (rg_T0_8_0_1 t1) (by first | decide | omega) (by first | decide | omega) (by decide)
          have q936 : h224 (h 61 1) 8 = h182 (h 61 1) 8 := by rw [← e226]; exact x_up_k tof_0_8
          have q937 : h182 (h 61 1) 8 = h95 (h 61 1) 8 := jK 0 f184 (rg_T0_8_0_1 t1) (by first | decide | omega) (by first | decide | omega) (by decide)
          have q938 : h95 (h 61 1) 8 = h83 (h 61 1) 8 := jK 0 f97 (rg_T0_8_0_1 t1) (by first | decide | omega) (by first | decide | omega) (by decide)
          have q939 : h83 (h 61 1) 8 = h43 (h 61 1) 8 := by rw [← e85]; exact x_up_k tof_0_8
          have q940 : h43 (h 61 1) 8 = h8 (h 61 1) 8 := jK 0 f45 (rg_T0_8_0_1 t1) (by first | decide | omega) (by first | decide | omega) (by decide)
          have e941 : rv h634 1 = (h8 (h 61 1) 8) := (congrArg (fun z => svq h634 z 1) (((((((((q922.trans q923).trans q924).trans q925).trans q926).trans q927).trans q928).trans q929).trans q930).trans q931)).trans ((((((((q932.trans q933).trans q934).trans q935).trans q936).trans q937).trans q938).trans q939).trans q940)
          have e942 : rv h 2 = (h ((h 61 1) + 1) 2) := (congrArg (fun z => svq h z 2) rfl).trans rfl
          have q943 : h634 61 1 = h398 61 1 := f636 61 1 (by decide +kernel)
          have q944 : h398 61 1 = h359 61 1 := f400 61 1 (by decide +kernel)
          have q945 : h359 61 1 = h236 61 1 := f361 61 1 (by decide +kernel)
          have q946 : h236 61 1 = h224 61 1 := f238 61 1 (by decide +kernel)
          have q947 : h224 61 1 = h182 61 1 := by rw [← e226]; exact x_up_k (Ne.symm (tne_8_61 t1))
          have q948 : h182 61 1 = h95 61 1 := f184 61 1 (by decide +kernel)
          have q949 : h95 61 1 = h83 61 1 := f97 61 1 (by decide +kernel)
          have q950 : h83 61 1 = h43 61 1 := by rw [← e85]; exact x_up_k (Ne.symm (tne_8_61 t1))
          have q951 : h43 61 1 = h8 61 1 := f45 61 1 (by decide +kernel)
          have q952 : h8 61 1 = h 61 1 := f10 61 1 (by decide +kernel)
          have q953 : h634 ((h 61 1) + 1) 2 = h398 ((h 61 1) + 1) 2 := jK 0 f636 (rg_T1_2_0_1 t1) (by first | decide | omega) (by first | decide | omega) (by decide)
          have q954 : h398 ((h 61 1) + 1) 2 = h359 ((h 61 1) + 1) 2 := jK 0 f400 (rg_T1_2_0_1 t1) (by first | decide | omega) (by first | decide | omega) (by decide)
          have q955 : h359 ((h 61 1) + 1) 2 = h236 ((h 61 1) + 1) 2 := jK 0 f361 (rg_T1_2_0_1 t1) (by first | decide | omega) (by first | decide | omega) (by decide)
          have q956 : h236 ((h 61 1) + 1) 2 = h224 ((h 61 1) + 1) 2 := jK 0 f238 (rg_T1_2_0_1 t1) (by first | decide | omega) (by first | decide | omega) (by decide)
          have q957 : h224 ((h 61 1) + 1) 2 = h182 ((h 61 1) + 1) 2 := by rw [← e226]; exact x_up_k tof_1_8
          have q958 : h182 ((h 61 1) + 1) 2 = h95 ((h 61 1) + 1) 2 := jK 0 f184 (rg_T1_2_0_1 t1) (by first | decide | omega) (by first | decide | omega) (by decide)
          have q959 : h95 ((h 61 1) + 1) 2 = h83 ((h 61 1) + 1) 2 := jK 0 f97 (rg_T1_2_0_1 t1) (by first | decide | omega) (by first | decide | omega) (by decide)
          have q960 : h83 ((h 61 1) + 1) 2 = h43 ((h 61 1) + 1) 2 := by rw [← e85]; exact x_up_k tof_1_8
          have q961 : h43 ((h 61 1) + 1) 2 = h8 ((h 61 1) + 1) 2 := jK 0 f45 (rg_T1_2_0_1 t1) (by first | decide | omega) (by first | decide | omega) (by decide)
          have e962 : rv h634 2 = (h8 ((h 61 1) + 1) 2) := (congrArg (fun z => svq h634 z 2) (((((((((q943.trans q944).trans q945).trans q946).trans q947).trans q948).trans q949).trans q950).trans q951).trans q952)).trans ((((((((q953.trans q954).trans q955).trans q956).trans q957).trans q958).trans q959).trans q960).trans q961)
          have e963 : rv h 3 = (h ((h 61 1) + 3) 2) := (congrArg (fun z => svq h z 3) rfl).trans rfl
          have q964 : h634 61 1 = h398 61 1 := f636 61 1 (by decide +kernel)
          have q965 : h398 61 1 = h359 61 1 := f400 61 1 (by decide +kernel)
          have q966 : h359 61 1 = h236 61 1 := f361 61 1 (by decide +kernel)
          have q967 : h236 61 1 = h224 61 1 := f238 61 1 (by decide +kernel)
          have q968 : h224 61 1 = h182 61 1 := by rw [← e226]; exact x_up_k (Ne.symm (tne_8_61 t1))
          have q969 : h182 61 1 = h95 61 1 := f184 61 1 (by decide +kernel)
          have q970 : h95 61 1 = h83 61 1 := f97 61 1 (by decide +kernel)
          have q971 : h83 61 1 = h43 61 1 := by rw [← e85]; exact x_up_k (Ne.symm (tne_8_61 t1))
          have q972 : h43 61 1 = h8 61 1 := f45 61 1 (by decide +kernel)
          have q973 : h8 61 1 = h 61 1 := f10 61 1 (by decide +kernel)
          have q974 : h634 ((h 61 1) + 3) 2 = h398 ((h 61 1) + 3) 2 := jK 0 f636 (rg_T3_2_0_1 t1) (by first | decide | omega) (by first | decide | omega) (by decide)
          have q975 : h398 ((h 61 1) + 3) 2 = h359 ((h 61 1) + 3) 2 := jK 0 f400 (rg_T3_2_0_1 t1) (by first | decide | omega) (by first | decide | omega) (by decide)
          have q976 : h359 ((h 61 1) + 3) 2 = h236 ((h 61 1) + 3) 2 := jK 0 f361 (rg_T3_2_0_1 t1) (by first | decide | omega) (by first | decide | omega) (by decide)
          have q977 : h236 ((h 61 1) + 3) 2 = h224 ((h 61 1) + 3) 2 := jK 0 f238 (rg_T3_2_0_1 t1) (by first | decide | omega) (by first | decide | omega) (by decide)
          have q978 : h224 ((h 61 1) + 3) 2 = h182 ((h 61 1) + 3) 2 := by rw [← e226]; exact x_up_k tof_3_8
          have q979 : h182 ((h 61 1) + 3) 2 = h95 ((h 61 1) + 3) 2 := jK 0 f184 (rg_T3_2_0_1 t1) (by first | decide | omega) (by first | decide | omega) (by decide)
          have q980 : h95 ((h 61 1) + 3) 2 = h83 ((h 61 1) + 3) 2 := jK 0 f97 (rg_T3_2_0_1 t1) (by first | decide | omega) (by first | decide | omega) (by decide)
          have q981 : h83 ((h 61 1) + 3) 2 = h43 ((h 61 1) + 3) 2 := by rw [← e85]; exact x_up_k tof_3_8
          have q982 : h43 ((h 61 1) + 3) 2 = h8 ((h 61 1) + 3) 2 := jK 0 f45 (rg_T3_2_0_1 t1) (by first | decide | omega) (by first | decide | omega) (by decide)
          have e983 : rv h634 3 = (h8 ((h 61 1) + 3) 2) := (congrArg (fun z => svq h634 z 3) (((((((((q964.trans q965).trans q966).trans q967).trans q968).trans q969).trans q970).trans q971).trans q972).trans q973)).trans ((((((((q974.trans q975).trans q976).trans q977).trans q978).trans q979).trans q980).trans q981).trans q982)
          have e984 : rv h 4 = (h ((h 61 1) + 5) 2) := (congrArg (fun z => svq h z 4) rfl).trans rfl
          have q985 : h634 61 1 = h398 61 1 := f636 61 1 (by decide +kernel)
          have q986 : h398 61 1 = h359 61 1 := f400 61 1 (by decide +kernel)
          have q987 : h359 61 1 = h236 61 1 := f361 61 1 (by decide +kernel)
          have q988 : h236 61 1 = h224 61 1 := f238 61 1 (by decide +kernel)
          have q989 : h224 61 1 = h182 61 1 := by rw [← e226]; exact x_up_k (Ne.symm (tne_8_61 t1))
          have q990 : h182 61 1 = h95 61 1 := f184 61 1 (by decide +kernel)
          have q991 : h95 61 1 = h83 61 1 := f97 61 1 (by decide +kernel)
          have q992 : h83 61 1 = h43 61 1 := by rw [← e85]; exact x_up_k (Ne.symm (tne_8_61 t1))
          have q993 : h43 61 1 = h8 61 1 := f45 61 1 (by decide +kernel)
          have q994 : h8 61 1 = h 61 1 := f10 61 1 (by decide +kernel)
          have q995 : h634 ((h 61 1) + 5) 2 = h398 ((h 61 1) + 5) 2 := jK 0 f636 (rg_T5_2_0_1 t1) (by first | decide | omega) (by first | decide | omega) (by decide)
          have q996 : h398 ((h 61 1) + 5) 2 = h359 ((h 61 1) + 5) 2 := jK 0 f400 (rg_T5_2_0_1 t1) (by first | decide | omega) (by first | decide | omega) (by decide)
          have q997 : h359 ((h 61 1) + 5) 2 = h236 ((h 61 1) + 5) 2 := jK 0 f361 (rg_T5_2_0_1 t1) (by first | decide | omega) (by first | decide | omega) (by decide)
          have q998 : h236 ((h 61 1) + 5) 2 = h224 ((h 61 1) + 5) 2 := jK 0 f238 (rg_T5_2_0_1 t1) (by first | decide | omega) (by first | decide | omega) (by decide)
          have q999 : h224 ((h 61 1) + 5) 2 = h182 ((h 61 1) + 5) 2 := by rw [← e226]; exact x_up_k tof_5_8
          have q1000 : h182 ((h 61 1) + 5) 2 = h95 ((h 61 1) + 5) 2 := jK 0 f184 (rg_T5_2_0_1 t1) (by first | decide | omega) (by first | decide | omega) (by decide)
          have q1001 : h95 ((h 61 1) + 5) 2 = h83 ((h 61 1) + 5) 2 := jK 0 f97 (rg_T5_2_0_1 t1) (by first | decide | omega) (by first | decide | omega) (by decide)
          have q1002 : h83 ((h 61 1) + 5) 2 = h43 ((h 61 1) + 5) 2 := by rw [← e85]; exact x_up_k tof_5_8
          have q1003 : h43 ((h 61 1) + 5) 2 = h8 ((h 61 1) + 5) 2 := jK 0 f45 (rg_T5_2_0_1 t1) (by first | decide | omega) (by first | decide | omega) (by decide)
          have e1004 : rv h634 4 = (h8 ((h 61 1) + 5) 2) := (congrArg (fun z => svq h634 z 4) (((((((((q985.trans q986).trans q987).trans q988).trans q989).trans q990).trans q991).trans q992).trans q993).trans q994)).trans ((((((((q995.trans q996).trans q997).trans q998).trans q999).trans q1000).trans q1001).trans q1002).trans q1003)
          have q1005 : h634 61 1 = h398 61 1 := f636 61 1 (by decide +kernel)
          have q1006 : h398 61 1 = h359 61 1 := f400 61 1 (by decide +kernel)
          have q1007 : h359 61 1 = h236 61 1 := f361 61 1 (by decide +kernel)
          have q1008 : h236 61 1 = h224 61 1 := f238 61 1 (by decide +kernel)
          have q1009 : h224 61 1 = h182 61 1 := by rw [← e226]; exact x_up_k (Ne.symm (tne_8_61 t1))
          have q1010 : h182 61 1 = h95 61 1 := f184 61 1 (by decide +kernel)
          have q1011 : h95 61 1 = h83 61 1 := f97 61 1 (by decide +kernel)
          have q1012 : h83 61 1 = h43 61 1 := by rw [← e85]; exact x_up_k (Ne.symm (tne_8_61 t1))
          have q1013 : h43 61 1 = h8 61 1 := f45 61 1 (by decide +kernel)
          have q1014 : h8 61 1 = h 61 1 := f10 61 1 (by decide +kernel)
          have q1015 : h634 ((h 61 1) + 7) 2 = h398 ((h 61 1) + 7) 2 := jK 0 f636 (rg_T7_2_0_1 t1) (by first | decide | omega) (by first | decide | omega) (by decide)
          have q1016 : h398 ((h 61 1) + 7) 2 = h359 ((h 61 1) + 7) 2 := jK 0 f400 (rg_T7_2_0_1 t1) (by first | decide | omega) (by first | decide | omega) (by decide)
          have q1017 : h359 ((h 61 1) + 7) 2 = h236 ((h 61 1) + 7) 2 := jK 0 f361 (rg_T7_2_0_1 t1) (by first | decide | omega) (by first | decide | omega) (by decide)
          have q1018 : h236 ((h 61 1) + 7) 2 = h224 ((h 61 1) + 7) 2 := jK 0 f238 (rg_T7_2_0_1 t1) (by first | decide | omega) (by first | decide | omega) (by decide)
          have q1019 : h224 ((h 61 1) + 7) 2 = h182 ((h 61 1) + 7) 2 := by rw [← e226]; exact x_up_k tof_7_8
          have q1020 : h182 ((h 61 1) + 7) 2 = h95 ((h 61 1) + 7) 2 := jK 0 f184 (rg_T7_2_0_1 t1) (by first | decide | omega) (by first | decide | omega) (by decide)
          have q1021 : h95 ((h 61 1) + 7) 2 = h83 ((h 61 1) + 7) 2 := jK 0 f97 (rg_T7_2_0_1 t1) (by first | decide | omega) (by first | decide | omega) (by decide)
          have q1022 : h83 ((h 61 1) + 7) 2 = h43 ((h 61 1) + 7) 2 := by rw [← e85]; exact x_up_k tof_7_8
          have q1023 : h43 ((h 61 1) + 7) 2 = h8 ((h 61 1) + 7) 2 := jK 0 f45 (rg_T7_2_0_1 t1) (by first | decide | omega) (by first | decide | omega) (by decide)
          have e1024 : rv h634 5 = (h8 ((h 61 1) + 7) 2) := (congrArg (fun z => svq h634 z 5) (((((((((q1005.trans q1006).trans q1007).trans q1008).trans q1009).trans q1010).trans q1011).trans q1012).trans q1013).trans q1014)).trans ((((((((q1015.trans q1016).trans q1017).trans q1018).trans q1019).trans q1020).trans q1021).trans q1022).trans q1023)
          have q1025 : h8 1 2 = h 1 2 := jK 0 f10 rg_1_2_0_1 (by first | decide | omega) (by first | decide | omega) (by decide)
          have q1026 : h83 1 2 = h43 1 2 := by rw [← e85]; exact x_up_k (Ne.symm (tne_8_1 t1))
          obtain ⟨w1027, e1028⟩ := Tk.yes c101 (by first | decide | omega)
          have q1029 : h224 1 2 = h182 1 2 := by rw [← e226]; exact x_up_k (Ne.symm (tne_8_1 t1))
          obtain ⟨w1030, e1031⟩ := Tk.yes c242 (by first | decide | omega)
          have q1032 : h236 61 1 = h224 61 1 := f238 61 1 (by decide +kernel)
          have q1033 : h224 61 1 = h182 61 1 := by rw [← e226]; exact x_up_k (Ne.symm (tne_8_61 t1))
          have q1034 : h182 61 1 = h95 61 1 := f184 61 1 (by decide +kernel)
          have q1035 : h95 61 1 = h83 61 1 := f97 61 1 (by decide +kernel)
          have q1036 : h83 61 1 = h43 61 1 := by rw [← e85]; exact x_up_k (Ne.symm (tne_8_61 t1))
          have q1037 : h43 61 1 = h8 61 1 := f45 61 1 (by decide +kernel)
          have q1038 : h8 61 1 = h 61 1 := f10 61 1 (by decide +kernel)
          have q1039 : h236 (h 61 1) 7 = h224 (h 61 1) 7 := jK 0 f238 (rg_T0_7_0_1 t1) (by first | decide | omega) (by first | decide | omega) (by decide)
          have q1040 : h224 (h 61 1) 7 = h182 (h 61 1) 7 := by rw [← e226]; exact x_up_k tof_0_8
          have q1041 : h182 (h 61 1) 7 = h95 (h 61 1) 7 := jK 0 f184 (rg_T0_7_0_1 t1) (by first | decide | omega) (by first | decide | omega) (by decide)
          have q1042 : h95 (h 61 1) 7 = h83 (h 61 1) 7 := jK 0 f97 (rg_T0_7_0_1 t1) (by first | decide | omega) (by first | decide | omega) (by decide)
          have q1043 : h83 (h 61 1) 7 = h43 (h 61 1) 7 := by rw [← e85]; exact x_up_k tof_0_8
          have q1044 : h43 (h 61 1) 7 = h8 (h 61 1) 7 := jK 0 f45 (rg_T0_7_0_1 t1) (by first | decide | omega) (by first | decide | omega) (by decide)
          have e1045 : rv h236 0 = (h8 (h 61 1) 7) := (congrArg (fun z => svq h236 z 0) ((((((q1032.trans q1033).trans q1034).trans q1035).trans q1036).trans q1037).trans q1038)).trans (((((q1039.trans q1040).trans q1041).trans q1042).trans q1043).trans q1044)
          obtain ⟨w1046, e1047⟩ := Tk.yes c404 (by first | decide | omega)
          have m1048 : Ot (h 61 1) h h8 := Ot.trans Ot.refl (c19)
          have m1049 : Ot (h 61 1) h h43 := Ot.fr m1048 f45 (by decide)
          have m1050 : Ot (h 61 1) h h83 := by rw [← e85]; exact Ot.up (o := 8) m1049 t1 (by decide) rfl
          have m1051 : Ot (h 61 1) h h95 := Ot.fr m1050 f97 (by decide)
          have m1052 : Ot (h 61 1) h h182 := Ot.fr m1051 f184 (by decide)
          have m1053 : Ot (h 61 1) h h224 := by rw [← e226]; exact Ot.up (o := 8) m1052 t1 (by decide) rfl
          have m1054 : Ot (h 61 1) h h236 := Ot.fr m1053 f238 (by decide)
          have m1055 : Ot (h 61 1) h h359 := Ot.trans m1054 (Ot.cast c365 ((((((q375.trans q376).trans q377).trans q378).trans q379).trans q380).trans q381))
          have m1056 : Ot (h 61 1) h h398 := Ot.fr m1055 f400 (by decide)
          have m1057 : Ot (h 61 1) h h634 := Ot.fr m1056 f636 (by decide)
          refine x_retI (np := 138) (x := 0) (by decide +kernel) (by decide) (Or.inr ⟨by decide +kernel, by first | decide | omega, by first | decide | omega⟩) ⟨_, rfl, (by decide), ?_⟩
          exact ⟨j635, f642, (by first | decide | omega), (by first | decide | omega), (by first | decide | omega), (by first | decide | omega), (by first | decide | omega), (by first | decide | omega), (fun z => by first | decide | omega), (nm9.y c50 (by first | decide | omega) (by first | decide | omega) (show h8 1 2 = h 1 2 by first | decide | omega) (by first | decide | omega) rfl (wd9.y w1027 (show h83 1 2 = h43 1 2 by first | decide | omega) e1028 rfl (nm9.y c189 (by first | decide | omega) (by first | decide | omega) rfl (by first | decide | omega) rfl (wd9.y w1030 (show h224 1 2 = h182 1 2 by first | decide | omega) e1031 rfl (bl9.y c363 (by first | decide | omega) rfl (by first | decide | omega) rfl (wd9.y w1046 rfl e1047 rfl (nm9.f c641 (by first | decide | omega) (by first | decide | omega) rfl (by first | decide | omega) (by first | decide | omega)))))))), m1057, (fun z => absurd z (by first | decide | omega))⟩
        have q899 : ¬ (2147483648 = 2147483648) := q899
        exfalso; omega
      have q392 : ¬ (v355 ≠ 2147483648) := q392
      refine x_const (np := 89) (x := 9223372039002259456) (a := 2147483648) (by decide +kernel) (by decide) (by decide) ?_
      have e1058 : rv h 0 = (h (h 61 1) 7) := (congrArg (fun z => svq h z 0) rfl).trans rfl
      have q1059 : h359 61 1 = h236 61 1 := f361 61 1 (by decide +kernel)
      have q1060 : h236 61 1 = h224 61 1 := f238 61 1 (by decide +kernel)
      have q1061 : h224 61 1 = h182 61 1 := by rw [← e226]; exact x_up_k (Ne.symm (tne_8_61 t1))
      have q1062 : h182 61 1 = h95 61 1 := f184 61 1 (by decide +kernel)
      have q1063 : h95 61 1 = h83 61 1 := f97 61 1 (by decide +kernel)
      have q1064 : h83 61 1 = h43 61 1 := by rw [← e85]; exact x_up_k (Ne.symm (tne_8_61 t1))
      have q1065 : h43 61 1 = h8 61 1 := f45 61 1 (by decide +kernel)
      have q1066 : h8 61 1 = h 61 1 := f10 61 1 (by decide +kernel)
      have q1067 : h359 (h 61 1) 7 = h236 (h 61 1) 7 := jK 0 f361 (rg_T0_7_0_1 t1) (by first | decide | omega) (by first | decide | omega) (by decide)
      have q1068 : h236 (h 61 1) 7 = h224 (h 61 1) 7 := jK 0 f238 (rg_T0_7_0_1 t1) (by first | decide | omega) (by first | decide | omega) (by decide)
      have q1069 : h224 (h 61 1) 7 = h182 (h 61 1) 7 := by rw [← e226]; exact x_up_k tof_0_8
      have q1070 : h182 (h 61 1) 7 = h95 (h 61 1) 7 := jK 0 f184 (rg_T0_7_0_1 t1) (by first | decide | omega) (by first | decide | omega) (by decide)
      have q1071 : h95 (h 61 1) 7 = h83 (h 61 1) 7 := jK 0 f97 (rg_T0_7_0_1 t1) (by first | decide | omega) (by first | decide | omega) (by decide)
      have q1072 : h83 (h 61 1) 7 = h43 (h 61 1) 7 := by rw [← e85]; exact x_up_k tof_0_8
      have q1073 : h43 (h 61 1) 7 = h8 (h 61 1) 7 := jK 0 f45 (rg_T0_7_0_1 t1) (by first | decide | omega) (by first | decide | omega) (by decide)
      have e1074 : rv h359 0 = (h8 (h 61 1) 7) := (congrArg (fun z => svq h359 z 0) (((((((q1059.trans q1060).trans q1061).trans q1062).trans q1063).trans q1064).trans q1065).trans q1066)).trans ((((((q1067.trans q1068).trans q1069).trans q1070).trans q1071).trans q1072).trans q1073)
      have e1075 : rv h 1 = (h (h 61 1) 8) := (congrArg (fun z => svq h z 1) rfl).trans rfl
      have q1076 : h359 61 1 = h236 61 1 := f361 61 1 (by decide +kernel)
      have q1077 : h236 61 1 = h224 61 1 := f238 61 1 (by decide +kernel)
      have q1078 : h224 61 1 = h182 61 1 := by rw [← e226]; exact x_up_k (Ne.symm (tne_8_61 t1))
      have q1079 : h182 61 1 = h95 61 1 := f184 61 1 (by decide +kernel)
      have q1080 : h95 61 1 = h83 61 1 := f97 61 1 (by decide +kernel)
      have q1081 : h83 61 1 = h43 61 1 := by rw [← e85]; exact x_up_k (Ne.symm (tne_8_61 t1))
      have q1082 : h43 61 1 = h8 61 1 := f45 61 1 (by decide +kernel)
      have q1083 : h8 61 1 = h 61 1 := f10 61 1 (by decide +kernel)
      have q1084 : h359 (h 61 1) 8 = h236 (h 61 1) 8 := jK 0 f361 (rg_T0_8_0_1 t1) (by first | decide | omega) (by first | decide | omega) (by decide)
      have q1085 : h236 (h 61 1) 8 = h224 (h 61 1) 8 := jK 0 f238 (rg_T0_8_0_1 t1) (by first | decide | omega) (by first | decide | omega) (by decide)
      have q1086 : h224 (h 61 1) 8 = h182 (h 61 1) 8 := by rw [← e226]; exact x_up_k tof_0_8
      have q1087 : h182 (h 61 1) 8 = h95 (h 61 1) 8 := jK 0 f184 (rg_T0_8_0_1 t1) (by first | decide | omega) (by first | decide | omega) (by decide)
      have q1088 : h95 (h 61 1) 8 = h83 (h 61 1) 8 := jK 0 f97 (rg_T0_8_0_1 t1) (by first | decide | omega) (by first | decide | omega) (by decide)
      have q1089 : h83 (h 61 1) 8 = h43 (h 61 1) 8 := by rw [← e85]; exact x_up_k tof_0_8
      have q1090 : h43 (h 61 1) 8 = h8 (h 61 1) 8 := jK 0 f45 (rg_T0_8_0_1 t1) (by first | decide | omega) (by first | decide | omega) (by decide)
      have e1091 : rv h359 1 = (h8 (h 61 1) 8) := (congrArg (fun z => svq h359 z 1) (((((((q1076.trans q1077).trans q1078).trans q1079).trans q1080).trans q1081).trans q1082).trans q1083)).trans ((((((q1084.trans q1085).trans q1086).trans q1087).trans q1088).trans q1089).trans q1090)
      have e1092 : rv h 2 = (h ((h 61 1) + 1) 2) := (congrArg (fun z => svq h z 2) rfl).trans rfl
      have q1093 : h359 61 1 = h236 61 1 := f361 61 1 (by decide +kernel)
      have q1094 : h236 61 1 = h224 61 1 := f238 61 1 (by decide +kernel)
      have q1095 : h224 61 1 = h182 61 1 := by rw [← e226]; exact x_up_k (Ne.symm (tne_8_61 t1))
      have q1096 : h182 61 1 = h95 61 1 := f184 61 1 (by decide +kernel)
      have q1097 : h95 61 1 = h83 61 1 := f97 61 1 (by decide +kernel)
      have q1098 : h83 61 1 = h43 61 1 := by rw [← e85]; exact x_up_k (Ne.symm (tne_8_61 t1))
      have q1099 : h43 61 1 = h8 61 1 := f45 61 1 (by decide +kernel)
      have q1100 : h8 61 1 = h 61 1 := f10 61 1 (by decide +kernel)
      have q1101 : h359 ((h 61 1) + 1) 2 = h236 ((h 61 1) + 1) 2 := jK 0 f361 (rg_T1_2_0_1 t1) (by first | decide | omega) (by first | decide | omega) (by decide)
      have q1102 : h236 ((h 61 1) + 1) 2 = h224 ((h 61 1) + 1) 2 := jK 0 f238 (rg_T1_2_0_1 t1) (by first | decide | omega) (by first | decide | omega) (by decide)
      have q1103 : h224 ((h 61 1) + 1) 2 = h182 ((h 61 1) + 1) 2 := by rw [← e226]; exact x_up_k tof_1_8
      have q1104 : h182 ((h 61 1) + 1) 2 = h95 ((h 61 1) + 1) 2 := jK 0 f184 (rg_T1_2_0_1 t1) (by first | decide | omega) (by first | decide | omega) (by decide)
      have q1105 : h95 ((h 61 1) + 1) 2 = h83 ((h 61 1) + 1) 2 := jK 0 f97 (rg_T1_2_0_1 t1) (by first | decide | omega) (by first | decide | omega) (by decide)
      have q1106 : h83 ((h 61 1) + 1) 2 = h43 ((h 61 1) + 1) 2 := by rw [← e85]; exact x_up_k tof_1_8
      have q1107 : h43 ((h 61 1) + 1) 2 = h8 ((h 61 1) + 1) 2 := jK 0 f45 (rg_T1_2_0_1 t1) (by first | decide | omega) (by first | decide | omega) (by decide)
      have e1108 : rv h359 2 = (h8 ((h 61 1) + 1) 2) := (congrArg (fun z => svq h359 z 2) (((((((q1093.trans q1094).trans q1095).trans q1096).trans q1097).trans q1098).trans q1099).trans q1100)).trans ((((((q1101.trans q1102).trans q1103).trans q1104).trans q1105).trans q1106).trans q1107)
      have e1109 : rv h 3 = (h ((h 61 1) + 3) 2) := (congrArg (fun z => svq h z 3) rfl).trans rfl
      have q1110 : h359 61 1 = h236 61 1 := f361 61 1 (by decide +kernel)
      have q1111 : h236 61 1 = h224 61 1 := f238 61 1 (by decide +kernel)
      have q1112 : h224 61 1 = h182 61 1 := by rw [← e226]; exact x_up_k (Ne.symm (tne_8_61 t1))
      have q1113 : h182 61 1 = h95 61 1 := f184 61 1 (by decide +kernel)
      have q1114 : h95 61 1 = h83 61 1 := f97 61 1 (by decide +kernel)
      have q1115 : h83 61 1 = h43 61 1 := by rw [← e85]; exact x_up_k (Ne.symm (tne_8_61 t1))
      have q1116 : h43 61 1 = h8 61 1 := f45 61 1 (by decide +kernel)
      have q1117 : h8 61 1 = h 61 1 := f10 61 1 (by decide +kernel)
      have q1118 : h359 ((h 61 1) + 3) 2 = h236 ((h 61 1) + 3) 2 := jK 0 f361 (rg_T3_2_0_1 t1) (by first | decide | omega) (by first | decide | omega) (by decide)
      have q1119 : h236 ((h 61 1) + 3) 2 = h224 ((h 61 1) + 3) 2 := jK 0 f238 (rg_T3_2_0_1 t1) (by first | decide | omega) (by first | decide | omega) (by decide)
      have q1120 : h224 ((h 61 1) + 3) 2 = h182 ((h 61 1) + 3) 2 := by rw [← e226]; exact x_up_k tof_3_8
      have q1121 : h182 ((h 61 1) + 3) 2 = h95 ((h 61 1) + 3) 2 := jK 0 f184 (rg_T3_2_0_1 t1) (by first | decide | omega) (by first | decide | omega) (by decide)
      have q1122 : h95 ((h 61 1) + 3) 2 = h83 ((h 61 1) + 3) 2 := jK 0 f97 (rg_T3_2_0_1 t1) (by first | decide | omega) (by first | decide | omega) (by decide)
      have q1123 : h83 ((h 61 1) + 3) 2 = h43 ((h 61 1) + 3) 2 := by rw [← e85]; exact x_up_k tof_3_8
      have q1124 : h43 ((h 61 1) + 3) 2 = h8 ((h 61 1) + 3) 2 := jK 0 f45 (rg_T3_2_0_1 t1) (by first | decide | omega) (by first | decide | omega) (by decide)
      have e1125 : rv h359 3 = (h8 ((h 61 1) + 3) 2) := (congrArg (fun z => svq h359 z 3) (((((((q1110.trans q1111).trans q1112).trans q1113).trans q1114).trans q1115).trans q1116).trans q1117)).trans ((((((q1118.trans q1119).trans q1120).trans q1121).trans q1122).trans q1123).trans q1124)
      have e1126 : rv h 4 = (h ((h 61 1) + 5) 2) := (congrArg (fun z => svq h z 4) rfl).trans rfl
      have q1127 : h359 61 1 = h236 61 1 := f361 61 1 (by decide +kernel)
      have q1128 : h236 61 1 = h224 61 1 := f238 61 1 (by decide +kernel)
      have q1129 : h224 61 1 = h182 61 1 := by rw [← e226]; exact x_up_k (Ne.symm (tne_8_61 t1))
      have q1130 : h182 61 1 = h95 61 1 := f184 61 1 (by decide +kernel)
      have q1131 : h95 61 1 = h83 61 1 := f97 61 1 (by decide +kernel)
      have q1132 : h83 61 1 = h43 61 1 := by rw [← e85]; exact x_up_k (Ne.symm (tne_8_61 t1))
      have q1133 : h43 61 1 = h8 61 1 := f45 61 1 (by decide +kernel)
      have q1134 : h8 61 1 = h 61 1 := f10 61 1 (by decide +kernel)
      have q1135 : h359 ((h 61 1) + 5) 2 = h236 ((h 61 1) + 5) 2 := jK 0 f361 (rg_T5_2_0_1 t1) (by first | decide | omega) (by first | decide | omega) (by decide)
      have q1136 : h236 ((h 61 1) + 5) 2 = h224 ((h 61 1) + 5) 2 := jK 0 f238 (rg_T5_2_0_1 t1) (by first | decide | omega) (by first | decide | omega) (by decide)
      have q1137 : h224 ((h 61 1) + 5) 2 = h182 ((h 61 1) + 5) 2 := by rw [← e226]; exact x_up_k tof_5_8
      have q1138 : h182 ((h 61 1) + 5) 2 = h95 ((h 61 1) + 5) 2 := jK 0 f184 (rg_T5_2_0_1 t1) (by first | decide | omega) (by first | decide | omega) (by decide)
      have q1139 : h95 ((h 61 1) + 5) 2 = h83 ((h 61 1) + 5) 2 := jK 0 f97 (rg_T5_2_0_1 t1) (by first | decide | omega) (by first | decide | omega) (by decide)
      have q1140 : h83 ((h 61 1) + 5) 2 = h43 ((h 61 1) + 5) 2 := by rw [← e85]; exact x_up_k tof_5_8
      have q1141 : h43 ((h 61 1) + 5) 2 = h8 ((h 61 1) + 5) 2 := jK 0 f45 (rg_T5_2_0_1 t1) (by first | decide | omega) (by first | decide | omega) (by decide)
      have e1142 : rv h359 4 = (h8 ((h 61 1) + 5) 2) := (congrArg (fun z => svq h359 z 4) (((((((q1127.trans q1128).trans q1129).trans q1130).trans q1131).trans q1132).trans q1133).trans q1134)).trans ((((((q1135.trans q1136).trans q1137).trans q1138).trans q1139).trans q1140).trans q1141)
      have q1143 : h359 61 1 = h236 61 1 := f361 61 1 (by decide +kernel)
      have q1144 : h236 61 1 = h224 61 1 := f238 61 1 (by decide +kernel)
      have q1145 : h224 61 1 = h182 61 1 := by rw [← e226]; exact x_up_k (Ne.symm (tne_8_61 t1))
      have q1146 : h182 61 1 = h95 61 1 := f184 61 1 (by decide +kernel)
      have q1147 : h95 61 1 = h83 61 1 := f97 61 1 (by decide +kernel)
      have q1148 : h83 61 1 = h43 61 1 := by rw [← e85]; exact x_up_k (Ne.symm (tne_8_61 t1))
      have q1149 : h43 61 1 = h8 61 1 := f45 61 1 (by decide +kernel)
      have q1150 : h8 61 1 = h 61 1 := f10 61 1 (by decide +kernel)
      have q1151 : h359 ((h 61 1) + 7) 2 = h236 ((h 61 1) + 7) 2 := jK 0 f361 (rg_T7_2_0_1 t1) (by first | decide | omega) (by first | decide | omega) (by decide)
      have q1152 : h236 ((h 61 1) + 7) 2 = h224 ((h 61 1) + 7) 2 := jK 0 f238 (rg_T7_2_0_1 t1) (by first | decide | omega) (by first | decide | omega) (by decide)
      have q1153 : h224 ((h 61 1) + 7) 2 = h182 ((h 61 1) + 7) 2 := by rw [← e226]; exact x_up_k tof_7_8
      have q1154 : h182 ((h 61 1) + 7) 2 = h95 ((h 61 1) + 7) 2 := jK 0 f184 (rg_T7_2_0_1 t1) (by first | decide | omega) (by first | decide | omega) (by decide)
      have q1155 : h95 ((h 61 1) + 7) 2 = h83 ((h 61 1) + 7) 2 := jK 0 f97 (rg_T7_2_0_1 t1) (by first | decide | omega) (by first | decide | omega) (by decide)
      have q1156 : h83 ((h 61 1) + 7) 2 = h43 ((h 61 1) + 7) 2 := by rw [← e85]; exact x_up_k tof_7_8
      have q1157 : h43 ((h 61 1) + 7) 2 = h8 ((h 61 1) + 7) 2 := jK 0 f45 (rg_T7_2_0_1 t1) (by first | decide | omega) (by first | decide | omega) (by decide)
      have e1158 : rv h359 5 = (h8 ((h 61 1) + 7) 2) := (congrArg (fun z => svq h359 z 5) (((((((q1143.trans q1144).trans q1145).trans q1146).trans q1147).trans q1148).trans q1149).trans q1150)).trans ((((((q1151.trans q1152).trans q1153).trans q1154).trans q1155).trans q1156).trans q1157)
      have q1159 : h8 1 2 = h 1 2 := jK 0 f10 rg_1_2_0_1 (by first | decide | omega) (by first | decide | omega) (by decide)
      have q1160 : h83 1 2 = h43 1 2 := by rw [← e85]; exact x_up_k (Ne.symm (tne_8_1 t1))
      obtain ⟨w1161, e1162⟩ := Tk.yes c101 (by first | decide | omega)
      have q1163 : h224 1 2 = h182 1 2 := by rw [← e226]; exact x_up_k (Ne.symm (tne_8_1 t1))
      obtain ⟨w1164, e1165⟩ := Tk.yes c242 (by first | decide | omega)
      have q1166 : h236 61 1 = h224 61 1 := f238 61 1 (by decide +kernel)
      have q1167 : h224 61 1 = h182 61 1 := by rw [← e226]; exact x_up_k (Ne.symm (tne_8_61 t1))
      have q1168 : h182 61 1 = h95 61 1 := f184 61 1 (by decide +kernel)
      have q1169 : h95 61 1 = h83 61 1 := f97 61 1 (by decide +kernel)
      have q1170 : h83 61 1 = h43 61 1 := by rw [← e85]; exact x_up_k (Ne.symm (tne_8_61 t1))
      have q1171 : h43 61 1 = h8 61 1 := f45 61 1 (by decide +kernel)
      have q1172 : h8 61 1 = h 61 1 := f10 61 1 (by decide +kernel)
      have q1173 : h236 (h 61 1) 7 = h224 (h 61 1) 7 := jK 0 f238 (rg_T0_7_0_1 t1) (by first | decide | omega) (by first | decide | omega) (by decide)
      have q1174 : h224 (h 61 1) 7 = h182 (h 61 1) 7 := by rw [← e226]; exact x_up_k tof_0_8
      have q1175 : h182 (h 61 1) 7 = h95 (h 61 1) 7 := jK 0 f184 (rg_T0_7_0_1 t1) (by first | decide | omega) (by first | decide | omega) (by decide)
      have q1176 : h95 (h 61 1) 7 = h83 (h 61 1) 7 := jK 0 f97 (rg_T0_7_0_1 t1) (by first | decide | omega) (by first | decide | omega) (by decide)
      have q1177 : h83 (h 61 1) 7 = h43 (h 61 1) 7 := by rw [← e85]; exact x_up_k tof_0_8
      have q1178 : h43 (h 61 1) 7 = h8 (h 61 1) 7 := jK 0 f45 (rg_T0_7_0_1 t1) (by first | decide | omega) (by first | decide | omega) (by decide)
      have e1179 : rv h236 0 = (h8 (h 61 1) 7) := (congrArg (fun z => svq h236 z 0) ((((((q1166.trans q1167).trans q1168).trans q1169).trans q1170).trans q1171).trans q1172)).trans (((((q1173.trans q1174).trans q1175).trans q1176).trans q1177).trans q1178)
      have m1180 : Ot (h 61 1) h h8 := Ot.trans Ot.refl (c19)
      have m1181 : Ot (h 61 1) h h43 := Ot.fr m1180 f45 (by decide)
      have m1182 : Ot (h 61 1) h h83 := by rw [← e85]; exact Ot.up (o := 8) m1181 t1 (by decide) rfl
      have m1183 : Ot (h 61 1) h h95 := Ot.fr m1182 f97 (by decide)
      have m1184 : Ot (h 61 1) h h182 := Ot.fr m1183 f184 (by decide)
      have m1185 : Ot (h 61 1) h h224 := by rw [← e226]; exact Ot.up (o := 8) m1184 t1 (by decide) rfl
      have m1186 : Ot (h 61 1) h h236 := Ot.fr m1185 f238 (by decide)
      have m1187 : Ot (h 61 1) h h359 := Ot.trans m1186 (Ot.cast c365 ((((((q375.trans q376).trans q377).trans q378).trans q379).trans q380).trans q381))
      refine x_retI (np := 90) (x := 0) (by decide +kernel) (by decide) (Or.inr ⟨by decide +kernel, by first | decide | omega, by first | decide | omega⟩) ⟨_, rfl, (by decide), ?_⟩
      exact ⟨j360, f367, (by first | decide | omega), (by first | decide | omega), (by first | decide | omega), (by first | decide | omega), (by first | decide | omega), (by first | decide | omega), (fun z => by first | decide | omega), (nm9.y c50 (by first | decide | omega) (by first | decide | omega) (show h8 1 2 = h 1 2 by first | decide | omega) (by first | decide | omega) rfl (wd9.y w1161 (show h83 1 2 = h43 1 2 by first | decide | omega) e1162 rfl (nm9.y c189 (by first | decide | omega) (by first | decide | omega) rfl (by first | decide | omega) rfl (wd9.y w1164 (show h224 1 2 = h182 1 2 by first | decide | omega) e1165 rfl (bl9.f c363 (by first | decide | omega) rfl (by first | decide | omega) (by first | decide | omega)))))), m1187, (fun z => absurd z (by first | decide | omega))⟩
    have q193 : ¬ (v178 ≠ 2147483647) := q193
    have b1188 := c188 (by first | decide | omega)
    refine x_const (np := 20) (x := 9223372039002259456) (a := 2147483648) (by decide +kernel) (by decide) (by decide) ?_
    refine x_retI (np := 21) (x := 0) (by decide +kernel) (by decide) (Or.inr ⟨by decide +kernel, by first | decide | omega, by first | decide | omega⟩) ⟨_, rfl, (by decide), ?_⟩
    refine x_ifz (k := 0) (tg := 88) (np := 68) (by decide +kernel) (by decide) (by decide) (fun q1189 => ?_) (fun q1190 => ?_)
    · have q1189 : 2147483648 = 2147483648 := q1189
      refine x_const (np := 89) (x := 9223372039002259456) (a := 2147483648) (by decide +kernel) (by decide) (by decide) ?_
      have e1191 : rv h 0 = (h (h 61 1) 7) := (congrArg (fun z => svq h z 0) rfl).trans rfl
      have q1192 : h182 61 1 = h95 61 1 := f184 61 1 (by decide +kernel)
      have q1193 : h95 61 1 = h83 61 1 := f97 61 1 (by decide +kernel)
      have q1194 : h83 61 1 = h43 61 1 := by rw [← e85]; exact x_up_k (Ne.symm (tne_8_61 t1))
      have q1195 : h43 61 1 = h8 61 1 := f45 61 1 (by decide +kernel)
      have q1196 : h8 61 1 = h 61 1 := f10 61 1 (by decide +kernel)
      have q1197 : h182 (h 61 1) 7 = h95 (h 61 1) 7 := jK 0 f184 (rg_T0_7_0_1 t1) (by first | decide | omega) (by first | decide | omega) (by decide)
      have q1198 : h95 (h 61 1) 7 = h83 (h 61 1) 7 := jK 0 f97 (rg_T0_7_0_1 t1) (by first | decide | omega) (by first | decide | omega) (by decide)
      have q1199 : h83 (h 61 1) 7 = h43 (h 61 1) 7 := by rw [← e85]; exact x_up_k tof_0_8
      have q1200 : h43 (h 61 1) 7 = h8 (h 61 1) 7 := jK 0 f45 (rg_T0_7_0_1 t1) (by first | decide | omega) (by first | decide | omega) (by decide)
      have e1201 : rv h182 0 = (h8 (h 61 1) 7) := (congrArg (fun z => svq h182 z 0) ((((q1192.trans q1193).trans q1194).trans q1195).trans q1196)).trans (((q1197.trans q1198).trans q1199).trans q1200)
      have e1202 : rv h 1 = (h (h 61 1) 8) := (congrArg (fun z => svq h z 1) rfl).trans rfl
      have q1203 : h182 61 1 = h95 61 1 := f184 61 1 (by decide +kernel)
      have q1204 : h95 61 1 = h83 61 1 := f97 61 1 (by decide +kernel)
      have q1205 : h83 61 1 = h43 61 1 := by rw [← e85]; exact x_up_k (Ne.symm (tne_8_61 t1))
      have q1206 : h43 61 1 = h8 61 1 := f45 61 1 (by decide +kernel)
      have q1207 : h8 61 1 = h 61 1 := f10 61 1 (by decide +kernel)
      have q1208 : h182 (h 61 1) 8 = h95 (h 61 1) 8 := jK 0 f184 (rg_T0_8_0_1 t1) (by first | decide | omega) (by first | decide | omega) (by decide)
      have q1209 : h95 (h 61 1) 8 = h83 (h 61 1) 8 := jK 0 f97 (rg_T0_8_0_1 t1) (by first | decide | omega) (by first | decide | omega) (by decide)
      have q1210 : h83 (h 61 1) 8 = h43 (h 61 1) 8 := by rw [← e85]; exact x_up_k tof_0_8
      have q1211 : h43 (h 61 1) 8 = h8 (h 61 1) 8 := jK 0 f45 (rg_T0_8_0_1 t1) (by first | decide | omega) (by first | decide | omega) (by decide)
      have e1212 : rv h182 1 = (h8 (h 61 1) 8) := (congrArg (fun z => svq h182 z 1) ((((q1203.trans q1204).trans q1205).trans q1206).trans q1207)).trans (((q1208.trans q1209).trans q1210).trans q1211)
      have e1213 : rv h 2 = (h ((h 61 1) + 1) 2) := (congrArg (fun z => svq h z 2) rfl).trans rfl
      have q1214 : h182 61 1 = h95 61 1 := f184 61 1 (by decide +kernel)
      have q1215 : h95 61 1 = h83 61 1 := f97 61 1 (by decide +kernel)
      have q1216 : h83 61 1 = h43 61 1 := by rw [← e85]; exact x_up_k (Ne.symm (tne_8_61 t1))
      have q1217 : h43 61 1 = h8 61 1 := f45 61 1 (by decide +kernel)
      have q1218 : h8 61 1 = h 61 1 := f10 61 1 (by decide +kernel)
      have q1219 : h182 ((h 61 1) + 1) 2 = h95 ((h 61 1) + 1) 2 := jK 0 f184 (rg_T1_2_0_1 t1) (by first | decide | omega) (by first | decide | omega) (by decide)
      have q1220 : h95 ((h 61 1) + 1) 2 = h83 ((h 61 1) + 1) 2 := jK 0 f97 (rg_T1_2_0_1 t1) (by first | decide | omega) (by first | decide | omega) (by decide)
      have q1221 : h83 ((h 61 1) + 1) 2 = h43 ((h 61 1) + 1) 2 := by rw [← e85]; exact x_up_k tof_1_8
      have q1222 : h43 ((h 61 1) + 1) 2 = h8 ((h 61 1) + 1) 2 := jK 0 f45 (rg_T1_2_0_1 t1) (by first | decide | omega) (by first | decide | omega) (by decide)
      have e1223 : rv h182 2 = (h8 ((h 61 1) + 1) 2) := (congrArg (fun z => svq h182 z 2) ((((q1214.trans q1215).trans q1216).trans q1217).trans q1218)).trans (((q1219.trans q1220).trans q1221).trans q1222)
      have e1224 : rv h 3 = (h ((h 61 1) + 3) 2) := (congrArg (fun z => svq h z 3) rfl).trans rfl
      have q1225 : h182 61 1 = h95 61 1 := f184 61 1 (by decide +kernel)
      have q1226 : h95 61 1 = h83 61 1 := f97 61 1 (by decide +kernel)
      have q1227 : h83 61 1 = h43 61 1 := by rw [← e85]; exact x_up_k (Ne.symm (tne_8_61 t1))
      have q1228 : h43 61 1 = h8 61 1 := f45 61 1 (by decide +kernel)
      have q1229 : h8 61 1 = h 61 1 := f10 61 1 (by decide +kernel)
      have q1230 : h182 ((h 61 1) + 3) 2 = h95 ((h 61 1) + 3) 2 := jK 0 f184 (rg_T3_2_0_1 t1) (by first | decide | omega) (by first | decide | omega) (by decide)
      have q1231 : h95 ((h 61 1) + 3) 2 = h83 ((h 61 1) + 3) 2 := jK 0 f97 (rg_T3_2_0_1 t1) (by first | decide | omega) (by first | decide | omega) (by decide)
      have q1232 : h83 ((h 61 1) + 3) 2 = h43 ((h 61 1) + 3) 2 := by rw [← e85]; exact x_up_k tof_3_8
      have q1233 : h43 ((h 61 1) + 3) 2 = h8 ((h 61 1) + 3) 2 := jK 0 f45 (rg_T3_2_0_1 t1) (by first | decide | omega) (by first | decide | omega) (by decide)
      have e1234 : rv h182 3 = (h8 ((h 61 1) + 3) 2) := (congrArg (fun z => svq h182 z 3) ((((q1225.trans q1226).trans q1227).trans q1228).trans q1229)).trans (((q1230.trans q1231).trans q1232).trans q1233)
      have e1235 : rv h 4 = (h ((h 61 1) + 5) 2) := (congrArg (fun z => svq h z 4) rfl).trans rfl
      have q1236 : h182 61 1 = h95 61 1 := f184 61 1 (by decide +kernel)
      have q1237 : h95 61 1 = h83 61 1 := f97 61 1 (by decide +kernel)
      have q1238 : h83 61 1 = h43 61 1 := by rw [← e85]; exact x_up_k (Ne.symm (tne_8_61 t1))
      have q1239 : h43 61 1 = h8 61 1 := f45 61 1 (by decide +kernel)
      have q1240 : h8 61 1 = h 61 1 := f10 61 1 (by decide +kernel)
      have q1241 : h182 ((h 61 1) + 5) 2 = h95 ((h 61 1) + 5) 2 := jK 0 f184 (rg_T5_2_0_1 t1) (by first | decide | omega) (by first | decide | omega) (by decide)
      have q1242 : h95 ((h 61 1) + 5) 2 = h83 ((h 61 1) + 5) 2 := jK 0 f97 (rg_T5_2_0_1 t1) (by first | decide | omega) (by first | decide | omega) (by decide)
      have q1243 : h83 ((h 61 1) + 5) 2 = h43 ((h 61 1) + 5) 2 := by rw [← e85]; exact x_up_k tof_5_8
      have q1244 : h43 ((h 61 1) + 5) 2 = h8 ((h 61 1) + 5) 2 := jK 0 f45 (rg_T5_2_0_1 t1) (by first | decide | omega) (by first | decide | omega) (by decide)
      have e1245 : rv h182 4 = (h8 ((h 61 1) + 5) 2) := (congrArg (fun z => svq h182 z 4) ((((q1236.trans q1237).trans q1238).trans q1239).trans q1240)).trans (((q1241.trans q1242).trans q1243).trans q1244)
      have q1246 : h182 61 1 = h95 61 1 := f184 61 1 (by decide +kernel)
      have q1247 : h95 61 1 = h83 61 1 := f97 61 1 (by decide +kernel)
      have q1248 : h83 61 1 = h43 61 1 := by rw [← e85]; exact x_up_k (Ne.symm (tne_8_61 t1))
      have q1249 : h43 61 1 = h8 61 1 := f45 61 1 (by decide +kernel)
      have q1250 : h8 61 1 = h 61 1 := f10 61 1 (by decide +kernel)
      have q1251 : h182 ((h 61 1) + 7) 2 = h95 ((h 61 1) + 7) 2 := jK 0 f184 (rg_T7_2_0_1 t1) (by first | decide | omega) (by first | decide | omega) (by decide)
      have q1252 : h95 ((h 61 1) + 7) 2 = h83 ((h 61 1) + 7) 2 := jK 0 f97 (rg_T7_2_0_1 t1) (by first | decide | omega) (by first | decide | omega) (by decide)
      have q1253 : h83 ((h 61 1) + 7) 2 = h43 ((h 61 1) + 7) 2 := by rw [← e85]; exact x_up_k tof_7_8
      have q1254 : h43 ((h 61 1) + 7) 2 = h8 ((h 61 1) + 7) 2 := jK 0 f45 (rg_T7_2_0_1 t1) (by first | decide | omega) (by first | decide | omega) (by decide)
      have e1255 : rv h182 5 = (h8 ((h 61 1) + 7) 2) := (congrArg (fun z => svq h182 z 5) ((((q1246.trans q1247).trans q1248).trans q1249).trans q1250)).trans (((q1251.trans q1252).trans q1253).trans q1254)
      have q1256 : h8 1 2 = h 1 2 := jK 0 f10 rg_1_2_0_1 (by first | decide | omega) (by first | decide | omega) (by decide)
      have q1257 : h83 1 2 = h43 1 2 := by rw [← e85]; exact x_up_k (Ne.symm (tne_8_1 t1))
      obtain ⟨w1258, e1259⟩ := Tk.yes c101 (by first | decide | omega)
      have m1260 : Ot (h 61 1) h h8 := Ot.trans Ot.refl (c19)
      have m1261 : Ot (h 61 1) h h43 := Ot.fr m1260 f45 (by decide)
      have m1262 : Ot (h 61 1) h h83 := by rw [← e85]; exact Ot.up (o := 8) m1261 t1 (by decide) rfl
      have m1263 : Ot (h 61 1) h h95 := Ot.fr m1262 f97 (by decide)
      have m1264 : Ot (h 61 1) h h182 := Ot.fr m1263 f184 (by decide)
      refine x_retI (np := 90) (x := 0) (by decide +kernel) (by decide) (Or.inr ⟨by decide +kernel, by first | decide | omega, by first | decide | omega⟩) ⟨_, rfl, (by decide), ?_⟩
      exact ⟨j183, f190, (by first | decide | omega), (by first | decide | omega), (by first | decide | omega), (by first | decide | omega), (by first | decide | omega), (by first | decide | omega), (fun z => by first | decide | omega), (nm9.y c50 (by first | decide | omega) (by first | decide | omega) (show h8 1 2 = h 1 2 by first | decide | omega) (by first | decide | omega) rfl (wd9.y w1258 (show h83 1 2 = h43 1 2 by first | decide | omega) e1259 rfl (nm9.f c189 (by first | decide | omega) (by first | decide | omega) rfl (by first | decide | omega) (by first | decide | omega)))), m1264, (fun z => absurd z (by first | decide | omega))⟩
    have q1190 : ¬ (2147483648 = 2147483648) := q1190
    exfalso; omega
  have q57 : ¬ (v39 ≠ 2147483647) := q57
  have b1265 := c49 (by first | decide | omega)
  refine x_const (np := 20) (x := 9223372039002259456) (a := 2147483648) (by decide +kernel) (by decide) (by decide) ?_
  refine x_retI (np := 21) (x := 0) (by decide +kernel) (by decide) (Or.inr ⟨by decide +kernel, by first | decide | omega, by first | decide | omega⟩) ⟨_, rfl, (by decide), ?_⟩
  refine x_ifz (k := 0) (tg := 88) (np := 37) (by decide +kernel) (by decide) (by decide) (fun q1266 => ?_) (fun q1267 => ?_)
  · have q1266 : 2147483648 = 2147483648 := q1266
    refine x_const (np := 89) (x := 9223372039002259456) (a := 2147483648) (by decide +kernel) (by decide) (by decide) ?_
    have e1268 : rv h 0 = (h (h 61 1) 7) := (congrArg (fun z => svq h z 0) rfl).trans rfl
    have q1269 : h43 61 1 = h8 61 1 := f45 61 1 (by decide +kernel)
    have q1270 : h8 61 1 = h 61 1 := f10 61 1 (by decide +kernel)
    have q1271 : h43 (h 61 1) 7 = h8 (h 61 1) 7 := jK 0 f45 (rg_T0_7_0_1 t1) (by first | decide | omega) (by first | decide | omega) (by decide)
    have e1272 : rv h43 0 = (h8 (h 61 1) 7) := (congrArg (fun z => svq h43 z 0) (q1269.trans q1270)).trans q1271
    have e1273 : rv h 1 = (h (h 61 1) 8) := (congrArg (fun z => svq h z 1) rfl).trans rfl
    have q1274 : h43 61 1 = h8 61 1 := f45 61 1 (by decide +kernel)
    have q1275 : h8 61 1 = h 61 1 := f10 61 1 (by decide +kernel)
    have q1276 : h43 (h 61 1) 8 = h8 (h 61 1) 8 := jK 0 f45 (rg_T0_8_0_1 t1) (by first | decide | omega) (by first | decide | omega) (by decide)
    have e1277 : rv h43 1 = (h8 (h 61 1) 8) := (congrArg (fun z => svq h43 z 1) (q1274.trans q1275)).trans q1276
    have e1278 : rv h 2 = (h ((h 61 1) + 1) 2) := (congrArg (fun z => svq h z 2) rfl).trans rfl
    have q1279 : h43 61 1 = h8 61 1 := f45 61 1 (by decide +kernel)
    have q1280 : h8 61 1 = h 61 1 := f10 61 1 (by decide +kernel)
    have q1281 : h43 ((h 61 1) + 1) 2 = h8 ((h 61 1) + 1) 2 := jK 0 f45 (rg_T1_2_0_1 t1) (by first | decide | omega) (by first | decide | omega) (by decide)
    have e1282 : rv h43 2 = (h8 ((h 61 1) + 1) 2) := (congrArg (fun z => svq h43 z 2) (q1279.trans q1280)).trans q1281
    have e1283 : rv h 3 = (h ((h 61 1) + 3) 2) := (congrArg (fun z => svq h z 3) rfl).trans rfl
    have q1284 : h43 61 1 = h8 61 1 := f45 61 1 (by decide +kernel)
    have q1285 : h8 61 1 = h 61 1 := f10 61 1 (by decide +kernel)
    have q1286 : h43 ((h 61 1) + 3) 2 = h8 ((h 61 1) + 3) 2 := jK 0 f45 (rg_T3_2_0_1 t1) (by first | decide | omega) (by first | decide | omega) (by decide)
    have e1287 : rv h43 3 = (h8 ((h 61 1) + 3) 2) := (congrArg (fun z => svq h43 z 3) (q1284.trans q1285)).trans q1286
    have e1288 : rv h 4 = (h ((h 61 1) + 5) 2) := (congrArg (fun z => svq h z 4) rfl).trans rfl
    have q1289 : h43 61 1 = h8 61 1 := f45 61 1 (by decide +kernel)
    have q1290 : h8 61 1 = h 61 1 := f10 61 1 (by decide +kernel)
    have q1291 : h43 ((h 61 1) + 5) 2 = h8 ((h 61 1) + 5) 2 := jK 0 f45 (rg_T5_2_0_1 t1) (by first | decide | omega) (by first | decide | omega) (by decide)
    have e1292 : rv h43 4 = (h8 ((h 61 1) + 5) 2) := (congrArg (fun z => svq h43 z 4) (q1289.trans q1290)).trans q1291
    have q1293 : h43 61 1 = h8 61 1 := f45 61 1 (by decide +kernel)
    have q1294 : h8 61 1 = h 61 1 := f10 61 1 (by decide +kernel)
    have q1295 : h43 ((h 61 1) + 7) 2 = h8 ((h 61 1) + 7) 2 := jK 0 f45 (rg_T7_2_0_1 t1) (by first | decide | omega) (by first | decide | omega) (by decide)
    have e1296 : rv h43 5 = (h8 ((h 61 1) + 7) 2) := (congrArg (fun z => svq h43 z 5) (q1293.trans q1294)).trans q1295
    have q1297 : h8 1 2 = h 1 2 := jK 0 f10 rg_1_2_0_1 (by first | decide | omega) (by first | decide | omega) (by decide)
    have m1298 : Ot (h 61 1) h h8 := Ot.trans Ot.refl (c19)
    have m1299 : Ot (h 61 1) h h43 := Ot.fr m1298 f45 (by decide)
    refine x_retI (np := 90) (x := 0) (by decide +kernel) (by decide) (Or.inr ⟨by decide +kernel, by first | decide | omega, by first | decide | omega⟩) ⟨_, rfl, (by decide), ?_⟩
    exact ⟨j44, f51, (by first | decide | omega), (by first | decide | omega), (by first | decide | omega), (by first | decide | omega), (by first | decide | omega), (by first | decide | omega), (fun z => by first | decide | omega), (nm9.f c50 (by first | decide | omega) (by first | decide | omega) (show h8 1 2 = h 1 2 by first | decide | omega) (by first | decide | omega) (by first | decide | omega)), m1299, (fun z => absurd z (by first | decide | omega))⟩
  have q1267 : ¬ (2147483648 = 2147483648) := q1267
  exfalso; omega
