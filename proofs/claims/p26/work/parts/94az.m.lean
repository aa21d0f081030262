/-! ===== methods ===== -/
set_option maxHeartbeats 0 in
/-- LentNames$Table.put(III)V -/
theorem c69_T1_c6 {sc : Nat × Nat} {d ra0 a1 a3 : Nat} {h : xh} (hJ : J h) (ta0 : tw ra0) (ba1 : 2147483648 ≤ a1 ∧ a1 ≤ 2147483667) (ba3 : 2147483648 ≤ a3 ∧ a3 ≤ 2147483660) : X sc 69 d (xV fun h' => J h' ∧ Fr 129 h h') 0 0 0 [x_r (ra0 + 1), iv_c a1, iv_c 2147483654, iv_c a3, 147573952589676412928] [] h := by
  have la1 : a1 < 4294967296 := by first | decide | omega
  have la3 : a3 < 4294967296 := by first | decide | omega
  have hF := Fr.refl 129 h
  refine x_iload (np := 1) (x := 1) (by decide +kernel) rfl la1 ?_
  refine x_ifz (k := 2) (tg := 28) (np := 4) (by decide +kernel) (by decide) la1 (fun q1 => ?_) (fun q2 => ?_)
  · have q1 : a1 < 2147483648 := q1
    exfalso; omega
  have q2 : ¬ (a1 < 2147483648) := q2
  refine x_iload (np := 5) (x := 1) (by decide +kernel) rfl la1 ?_
  refine x_aload (np := 6) (x := 0) (by decide +kernel) rfl (x_nc_le (tn_1 ta0)) ?_
  have b3 := jB (e := 2) 0 hJ (rg_T1_2_0_1 ta0) (by first | decide | omega) (by first | decide | omega)
  refine x_getC (np := 9) (x := 386) (f := 2) (q := (h (ra0 + 1) 2)) (by decide +kernel) (by decide) (tg_1_386_2_0 ta0) rfl (fun l4 => ?_)
  refine x_icmp (k := 3) (tg := 28) (np := 12) (by decide +kernel) (by decide) la1 l4 (fun q5 => ?_) (fun q6 => ?_)
  · have q5 : (h (ra0 + 1) 2) ≤ a1 := q5
    refine x_const (np := 29) (x := 9223372039002259456) (a := 2147483648) (by decide +kernel) (by decide) (by decide) ?_
    refine x_istore (np := 31) (x := 4) (lo' := [x_r (ra0 + 1), iv_c a1, iv_c 2147483654, iv_c a3, iv_c 2147483648]) (by decide +kernel) (by decide) (Nat.le_of_ble_eq_true rfl) rfl ?_
    refine x_iload (np := 33) (x := 4) (by decide +kernel) rfl (by decide) ?_
    refine x_ifz (k := 0) (tg := 50) (np := 36) (by decide +kernel) (by decide) (by decide) (fun q7 => ?_) (fun q8 => ?_)
    · have q7 : 2147483648 = 2147483648 := q7
      refine x_retV (np := 51) (x := 0) (by decide +kernel) (by decide +kernel) ⟨rfl, ?_⟩
      exact ⟨hJ, hF⟩
    have q8 : ¬ (2147483648 = 2147483648) := q8
    exfalso; omega
  have q6 : ¬ ((h (ra0 + 1) 2) ≤ a1) := q6
  refine x_iload (np := 13) (x := 2) (by decide +kernel) rfl (by decide) ?_
  refine x_ifz (k := 2) (tg := 28) (np := 16) (by decide +kernel) (by decide) (by decide) (fun q9 => ?_) (fun q10 => ?_)
  · have q9 : 2147483654 < 2147483648 := q9
    exfalso; omega
  have q10 : ¬ (2147483654 < 2147483648) := q10
  refine x_iload (np := 17) (x := 2) (by decide +kernel) rfl (by decide) ?_
  refine x_aload (np := 18) (x := 0) (by decide +kernel) rfl (x_nc_le (tn_1 ta0)) ?_
  have b11 := jB (e := 0) 0 hJ (rg_T1_0_0_1 ta0) (by first | decide | omega) (by first | decide | omega)
  have q12 : (h (ra0 + 1) 0) = 2147483655 := by first | decide | omega
  refine x_getC (np := 21) (x := 384) (f := 0) (q := 2147483655) (by decide +kernel) (by decide) (tg_1_384_0_0 ta0) q12 (fun l13 => ?_)
  refine x_icmp (k := 3) (tg := 28) (np := 24) (by decide +kernel) (by decide) (by decide) (by decide) (fun q14 => ?_) (fun q15 => ?_)
  · have q14 : 2147483655 ≤ 2147483654 := q14
    exfalso; omega
  have q15 : ¬ (2147483655 ≤ 2147483654) := q15
  refine x_const (np := 25) (x := 9223372043297226753) (a := 2147483649) (by decide +kernel) (by decide) (by decide) ?_
  refine x_goto (np := 28) (x := 29) (by decide +kernel) ?_
  refine x_istore (np := 31) (x := 4) (lo' := [x_r (ra0 + 1), iv_c a1, iv_c 2147483654, iv_c a3, iv_c 2147483649]) (by decide +kernel) (by decide) (Nat.le_of_ble_eq_true rfl) rfl ?_
  refine x_iload (np := 33) (x := 4) (by decide +kernel) rfl (by decide) ?_
  refine x_ifz (k := 0) (tg := 50) (np := 36) (by decide +kernel) (by decide) (by decide) (fun q16 => ?_) (fun q17 => ?_)
  · have q16 : 2147483649 = 2147483648 := q16
    exfalso; omega
  have q17 : ¬ (2147483649 = 2147483648) := q17
  refine x_aload (np := 37) (x := 0) (by decide +kernel) rfl (x_nc_le (tn_1 ta0)) ?_
  have q18 : h (ra0 + 1) 1 = (ra0 + 2) := tf_1_1 hJ ta0
  refine x_getR (np := 40) (x := 385) (f := 1) (q := (ra0 + 2)) (by decide +kernel) (by decide) (tg_1_385_1_1 ta0) q18 ?_
  refine x_iload (np := 41) (x := 1) (by decide +kernel) rfl la1 ?_
  refine x_aload (np := 42) (x := 0) (by decide +kernel) rfl (x_nc_le (tn_1 ta0)) ?_
  refine x_getC (np := 45) (x := 384) (f := 0) (q := 2147483655) (by decide +kernel) (by decide) (tg_1_384_0_0 ta0) q12 (fun l19 => ?_)
  obtain ⟨u20, q21⟩ : ∃ z, a1 = 2147483648 + z := ⟨a1 - 2147483648, by first | decide | omega⟩
  refine x_imul (np := 46) (x := 0) (i := u20) (j := 7) (v := (2147483648 + 7 * u20)) (by decide +kernel) (by first | decide | omega) (by first | decide | omega) (by first | decide | omega) (by first | decide | omega) la1 (by decide) ?_
  refine x_iload (np := 47) (x := 2) (by decide +kernel) rfl (by decide) ?_
  refine x_iadd (np := 48) (x := 0) (v := (2147483654 + 7 * u20)) (by decide +kernel) (by first | decide | omega) (by decide) (by first | decide | omega) (by first | decide | omega) ?_
  refine x_iload (np := 49) (x := 3) (by decide +kernel) rfl la3 ?_
  refine x_ast (np := 50) (x := 0) (kd := 1) (n := 140) (i := (6 + 7 * u20)) (by decide +kernel) (Or.inl rfl) (ta_2_140 ta0) (by first | decide | omega) (by first | decide | omega) (by decide) la3 (fun z => absurd z (by decide)) ?_
  have j24 := jU (e := (6 + 7 * u20)) (v := a3) u20 hJ (rg_T2_6_7_20 ta0) (by first | decide | omega) (by first | decide | omega) (by first | decide | omega)
  have f26 := jF (e := (6 + 7 * u20)) (v := a3) u20 hF (rg_T2_6_7_20 ta0) (by first | decide | omega) (by first | decide | omega) (by decide)
  generalize e25 : x_up h (ra0 + 2) (6 + 7 * u20) a3 = h23 at j24 f26 ⊢
  refine x_retV (np := 51) (x := 0) (by decide +kernel) (by decide +kernel) ⟨rfl, ?_⟩
  exact ⟨j24, f26⟩
set_option maxHeartbeats 0 in
/-- LentNames$TownReader.readLate()Z -/
theorem c95_61 {sc : Nat × Nat} {d  : Nat} {h : xh} {tB : Nat → Nat} {tN : Nat} (hJ : J h) (hT : Tp tB tN h) : X sc 95 (d + 6) (xI fun r h' => J h' ∧ Fr 161 h h' ∧ (2147483648 ≤ r ∧ r ≤ 2147483649) ∧ late9 tB tN (rv h 2) (h 1 2) (rs r (h' 1 2))) 0 0 0 [x_r 61, 147573952589676412928] [] h := by
  have hF := Fr.refl 161 h
  refine x_aload (np := 1) (x := 0) (by decide +kernel) rfl (x_nc_le (by decide)) ?_
  have q1 : h 61 0 = 1 := by have z := jB (e := 0) 0 hJ rg_61_0_0_1 (by decide) (by decide); omega
  refine x_getR (np := 4) (x := 576) (f := 0) (q := 1) (by decide +kernel) (by decide) (by decide +kernel) q1 ?_
  refine x_const (np := 5) (x := 9223372039002259456) (a := 2147483648) (by decide +kernel) (by decide) (by decide) ?_
  refine x_aload (np := 6) (x := 0) (by decide +kernel) rfl (x_nc_le (by decide)) ?_
  have t2 : tw (h 61 1) := hJ.2.2.2.2.1
  refine x_getR (np := 9) (x := 577) (f := 1) (q := (h 61 1)) (by decide +kernel) (by decide) (by decide +kernel) rfl ?_
  have q3 : h (h 61 1) 0 = ((h 61 1) + 1) := tf_0_0 hJ t2
  refine x_getR (np := 12) (x := 512) (f := 0) (q := ((h 61 1) + 1)) (by decide +kernel) (by decide) (tg_0_512_0_1 t2) q3 ?_
  have b4 := jB (e := 2) 0 hJ (rg_T1_2_0_1 t2) (by first | decide | omega) (by first | decide | omega)
  refine x_getC (np := 15) (x := 386) (f := 2) (q := (h ((h 61 1) + 1) 2)) (by decide +kernel) (by decide) (tg_1_386_2_0 t2) rfl (fun l5 => ?_)
  refine x_const (np := 16) (x := 9223372043297226753) (a := 2147483649) (by decide +kernel) (by decide) (by decide) ?_
  obtain ⟨v6, q7⟩ : ∃ z, z + 2147483649 = (h ((h 61 1) + 1) 2) + 2147483648 := ⟨(h ((h 61 1) + 1) 2) + 2147483648 - 2147483649, by first | decide | omega⟩
  refine x_isub (np := 17) (x := 0) (v := v6) (by decide +kernel) l5 (by decide) (by first | decide | omega) (by first | decide | omega) ?_
  refine x_cI (t := 6) (mj := 79) (n := 3) (rc := 8) (ml := 5) (nr := 0) (np := 20) (as := [x_r 1, iv_c 2147483648, iv_c v6]) (rest := []) (lo1 := [x_r 1, iv_c 2147483648, iv_c v6, 147573952589676412928, 147573952589676412928]) (by decide +kernel) (by decide) (by decide +kernel) (x_rb_of (by decide +kernel)) rfl rfl (x_wr (by decide) (x_wi (by decide) (x_wi (by first | decide | omega) x_wn))) x_wn (by decide) rfl (c79_1_c0 hJ   (by first | decide | omega) hT) (fun v8 h11 l9 q10 => ?_)
  obtain ⟨j12, f13, b14, c15, c16, c17, c18⟩ := q10
  have f19 := Fr.trans hF f13 (by decide)
  have b20 := jB (e := 2) 0 hJ rg_1_2_0_1 (by first | decide | omega) (by first | decide | omega)
  have b21 := jB (e := 2) 0 j12 rg_1_2_0_1 (by first | decide | omega) (by first | decide | omega)
  refine x_istore (np := 21) (x := 1) (lo' := [x_r 61, iv_c v8]) (by decide +kernel) l9 (Nat.le_of_ble_eq_true rfl) rfl ?_
  refine x_iload (np := 22) (x := 1) (by decide +kernel) rfl l9 ?_
  refine x_const (np := 23) (x := 9223372034707292159) (a := 2147483647) (by decide +kernel) (by decide) (by decide) ?_
  refine x_icmp (k := 0) (tg := 62) (np := 26) (by decide +kernel) (by decide) l9 (by decide) (fun q22 => ?_) (fun q23 => ?_)
  · have q22 : v8 = 2147483647 := q22
    have b24 := c17 (by first | decide | omega)
    refine x_const (np := 63) (x := 9223372039002259456) (a := 2147483648) (by decide +kernel) (by decide) (by decide) ?_
    have e25 : rv h 2 = (h ((h 61 1) + 1) 2) := (congrArg (fun z => svq h z 2) rfl).trans rfl
    refine x_retI (np := 64) (x := 0) (by decide +kernel) (by decide) (Or.inr ⟨by decide +kernel, by first | decide | omega, by first | decide | omega⟩) ⟨_, rfl, (by decide), ?_⟩
    exact ⟨j12, f19, (by first | decide | omega), (nm9.f c18 (by first | decide | omega) (by first | decide | omega) rfl (by first | decide | omega) (by first | decide | omega))⟩
  have q23 : ¬ (v8 = 2147483647) := q23
  have b26 := c16 (by first | decide | omega)
  refine x_aload (np := 27) (x := 0) (by decide +kernel) rfl (x_nc_le (by decide)) ?_
  have q27 : h11 61 0 = 1 := by have z := jB (e := 0) 0 j12 rg_61_0_0_1 (by decide) (by decide); omega
  refine x_getR (np := 30) (x := 576) (f := 0) (q := 1) (by decide +kernel) (by decide) (by decide +kernel) q27 ?_
  refine x_ldcB (i := 18) (idx := 130) (tx := "by") (by rw [tb_y95]; exact List.mem_of_getElem? (i := 18) rfl) (by decide) (by rw [tb_b95]; decide +kernel) ?_
  have m31 := Tp.fr hT f13 (by decide) (by decide)
  refine x_cI (t := 6) (mj := 78) (n := 2) (rc := 8) (ml := 2) (nr := 0) (np := 35) (as := [x_r 1, x_b (18 + 1)]) (rest := []) (lo1 := [x_r 1, x_b (18 + 1)]) (by decide +kernel) (by decide) (by decide +kernel) (x_rb_of (by decide +kernel)) rfl rfl (x_wr (by decide) (x_wB (by decide) x_wn)) x_wn (by decide) rfl (c78_1_S0 j12  (by decide) m31) (fun v28 h32 l29 q30 => ?_)
  obtain ⟨j33, f34, b35, c36, c37, c38⟩ := q30
  have f39 := Fr.trans f19 f34 (by decide)
  have b40 := jB (e := 2) 0 j33 rg_1_2_0_1 (by first | decide | omega) (by first | decide | omega)
  have b41 : iv_tl 18 = 2 := by decide
  refine x_ifz (k := 0) (tg := 62) (np := 38) (by decide +kernel) (by decide) l29 (fun q42 => ?_) (fun q43 => ?_)
  · have q42 : v28 = 2147483648 := q42
    have b44 := c37 (by first | decide | omega)
    refine x_const (np := 63) (x := 9223372039002259456) (a := 2147483648) (by decide +kernel) (by decide) (by decide) ?_
    have e45 : rv h 2 = (h ((h 61 1) + 1) 2) := (congrArg (fun z => svq h z 2) rfl).trans rfl
    obtain ⟨w46, e47⟩ := Tk.no c38 (by first | decide | omega)
    refine x_retI (np := 64) (x := 0) (by decide +kernel) (by decide) (Or.inr ⟨by decide +kernel, by first | decide | omega, by first | decide | omega⟩) ⟨_, rfl, (by decide), ?_⟩
    exact ⟨j33, f39, (by first | decide | omega), (nm9.y c18 (by first | decide | omega) (by first | decide | omega) rfl (by first | decide | omega) rfl (wd9.f w46 rfl (by first | decide | omega)))⟩
  have q43 : ¬ (v28 = 2147483648) := q43
  have b48 := c36 (by first | decide | omega)
  refine x_aload (np := 39) (x := 0) (by decide +kernel) rfl (x_nc_le (by decide)) ?_
  refine x_aload (np := 40) (x := 0) (by decide +kernel) rfl (x_nc_le (by decide)) ?_
  have q49 : h32 61 1 = h11 61 1 := f34 61 1 (by decide +kernel)
  have q50 : h11 61 1 = h 61 1 := f13 61 1 (by decide +kernel)
  refine x_getR (np := 43) (x := 577) (f := 1) (q := (h 61 1)) (by decide +kernel) (by decide) (by decide +kernel) (q49.trans q50) ?_
  have q51 : h32 (h 61 1) 0 = ((h 61 1) + 1) := tf_0_0 j33 t2
  refine x_getR (np := 46) (x := 512) (f := 0) (q := ((h 61 1) + 1)) (by decide +kernel) (by decide) (tg_0_512_0_1 t2) q51 ?_
  refine x_iload (np := 47) (x := 1) (by decide +kernel) rfl l9 ?_
  refine x_const (np := 49) (x := 9223372064772063238) (a := 2147483654) (by decide +kernel) (by decide) (by decide) ?_
  refine x_const (np := 50) (x := 9223372043297226753) (a := 2147483649) (by decide +kernel) (by decide) (by decide) ?_
  refine x_const (np := 52) (x := 9223372090541867020) (a := 2147483660) (by decide +kernel) (by decide) (by decide) ?_
  refine x_nI (t := 6) (mj := 102) (n := 6) (rc := 10) (ml := 7) (nr := 0) (np := 55) (as := [x_r 61, x_r ((h 61 1) + 1), iv_c v8, iv_c 2147483654, iv_c 2147483649, iv_c 2147483660]) (rest := []) (lo1 := [x_r 61, x_r ((h 61 1) + 1), iv_c v8, iv_c 2147483654, iv_c 2147483649, iv_c 2147483660, 147573952589676412928]) (by decide +kernel) (by decide) (by decide +kernel) (x_rb_of (by decide +kernel)) rfl rfl (x_wr (by decide) (x_wr (tn_1 t2) (x_wi l9 (x_wi (by decide) (x_wi (by decide) (x_wi (by decide) x_wn)))))) x_wn (by decide) rfl ?_
  refine x_aload (np := 1) (x := 0) (by decide +kernel) rfl (x_nc_le (by decide)) ?_
  have q52 : h32 61 0 = 1 := by have z := jB (e := 0) 0 j33 rg_61_0_0_1 (by decide) (by decide); omega
  refine x_getR (np := 4) (x := 576) (f := 0) (q := 1) (by decide +kernel) (by decide) (by decide +kernel) q52 ?_
  refine x_iload (np := 6) (x := 4) (by decide +kernel) rfl (by decide) ?_
  refine x_iload (np := 8) (x := 5) (by decide +kernel) rfl (by decide) ?_
  have m56 := Tp.fr m31 f34 (by decide) (by decide)
  refine x_cI (t := 6) (mj := 79) (n := 3) (rc := 8) (ml := 5) (nr := 0) (np := 11) (as := [x_r 1, iv_c 2147483649, iv_c 2147483660]) (rest := []) (lo1 := [x_r 1, iv_c 2147483649, iv_c 2147483660, 147573952589676412928, 147573952589676412928]) (by decide +kernel) (by decide) (by decide +kernel) (x_rb_of (by decide +kernel)) rfl rfl (x_wr (by decide) (x_wi (by decide) (x_wi (by decide) x_wn))) x_wn (by decide) rfl (c79_1_c1 j33   (by first | decide | omega) m56) (fun v53 h57 l54 q55 => ?_)
  obtain ⟨j58, f59, b60, c61, c62, c63, c64⟩ := q55
  have f65 := Fr.trans f39 f59 (by decide)
  have b66 := jB (e := 2) 0 j58 rg_1_2_0_1 (by first | decide | omega) (by first | decide | omega)
  refine x_istore (np := 13) (x := 6) (lo' := [x_r 61, x_r ((h 61 1) + 1), iv_c v8, iv_c 2147483654, iv_c 2147483649, iv_c 2147483660, iv_c v53]) (by decide +kernel) l54 (Nat.le_of_ble_eq_true rfl) rfl ?_
  refine x_iload (np := 15) (x := 6) (by decide +kernel) rfl l54 ?_
  refine x_const (np := 16) (x := 9223372034707292159) (a := 2147483647) (by decide +kernel) (by decide) (by decide) ?_
  refine x_icmp (k := 1) (tg := 21) (np := 19) (by decide +kernel) (by decide) l54 (by decide) (fun q67 => ?_) (fun q68 => ?_)
  · have q67 : v53 ≠ 2147483647 := q67
    have b69 := c62 (by first | decide | omega)
    refine x_aload (np := 22) (x := 1) (by decide +kernel) rfl (x_nc_le (tn_1 t2)) ?_
    refine x_iload (np := 23) (x := 2) (by decide +kernel) rfl l9 ?_
    refine x_iload (np := 24) (x := 3) (by decide +kernel) rfl (by decide) ?_
    refine x_iload (np := 26) (x := 6) (by decide +kernel) rfl l54 ?_
    refine x_cV (t := 6) (mj := 69) (n := 4) (rc := 7) (ml := 5) (nr := 0) (np := 29) (as := [x_r ((h 61 1) + 1), iv_c v8, iv_c 2147483654, iv_c v53]) (rest := []) (lo1 := [x_r ((h 61 1) + 1), iv_c v8, iv_c 2147483654, iv_c v53, 147573952589676412928]) (by decide +kernel) (by decide) (by decide +kernel) (x_rb_of (tr_1_7 t2)) rfl rfl (x_wr (tn_1 t2) (x_wi l9 (x_wi (by decide) (x_wi l54 x_wn)))) x_wn (by decide) rfl (c69_T1_c6 j58 t2 (by first | decide | omega)  (by first | decide | omega)) (fun h73 q72 => ?_)
    obtain ⟨j74, f75⟩ := q72
    have f78 := Fr.trans f65 f75 (by decide)
    refine x_const (np := 30) (x := 9223372043297226753) (a := 2147483649) (by decide +kernel) (by decide) (by decide) ?_
    refine x_retI (np := 31) (x := 0) (by decide +kernel) (by decide) (Or.inr ⟨by decide +kernel, by first | decide | omega, by first | decide | omega⟩) ⟨_, rfl, (by decide), ?_⟩
    refine x_ifz (k := 0) (tg := 62) (np := 58) (by decide +kernel) (by decide) (by decide) (fun q79 => ?_) (fun q80 => ?_)
    · have q79 : 2147483649 = 2147483648 := q79
      exfalso; omega
    have q80 : ¬ (2147483649 = 2147483648) := q80
    refine x_const (np := 59) (x := 9223372043297226753) (a := 2147483649) (by decide +kernel) (by decide) (by decide) ?_
    refine x_goto (np := 62) (x := 63) (by decide +kernel) ?_
    have e81 : rv h 2 = (h ((h 61 1) + 1) 2) := (congrArg (fun z => svq h z 2) rfl).trans rfl
    obtain ⟨w82, e83⟩ := Tk.yes c38 (by first | decide | omega)
    have q84 : h73 1 2 = h57 1 2 := jK 0 f75 rg_1_2_0_1 (by first | decide | omega) (by first | decide | omega) (by decide)
    refine x_retI (np := 64) (x := 0) (by decide +kernel) (by decide) (Or.inr ⟨by decide +kernel, by first | decide | omega, by first | decide | omega⟩) ⟨_, rfl, (by decide), ?_⟩
    exact ⟨j74, f78, (by first | decide | omega), (nm9.y c18 (by first | decide | omega) (by first | decide | omega) rfl (by first | decide | omega) rfl (wd9.y w82 rfl e83 rfl (nm9.y c64 (by first | decide | omega) (by first | decide | omega) rfl (by first | decide | omega) rfl (fin9.mk (by first | decide | omega) (show h57 1 2 = h73 1 2 by first | decide | omega)))))⟩
  have q68 : ¬ (v53 ≠ 2147483647) := q68
  have b85 := c63 (by first | decide | omega)
  refine x_const (np := 20) (x := 9223372039002259456) (a := 2147483648) (by decide +kernel) (by decide) (by decide) ?_
  refine x_retI (np := 21) (x := 0) (by decide +kernel) (by decide) (Or.inr ⟨by decide +kernel, by first | decide | omega, by first | decide | omega⟩) ⟨_, rfl, (by decide), ?_⟩
  refine x_ifz (k := 0) (tg := 62) (np := 58) (by decide +kernel) (by decide) (by decide) (fun q86 => ?_) (fun q87 => ?_)
  · have q86 : 2147483648 = 2147483648 := q86
    refine x_const (np := 63) (x := 9223372039002259456) (a := 2147483648) (by decide +kernel) (by decide) (by decide) ?_
    have e88 : rv h 2 = (h ((h 61 1) + 1) 2) := (congrArg (fun z => svq h z 2) rfl).trans rfl
    obtain ⟨w89, e90⟩ := Tk.yes c38 (by first | decide | omega)
    refine x_retI (np := 64) (x := 0) (by decide +kernel) (by decide) (Or.inr ⟨by decide +kernel, by first | decide | omega, by first | decide | omega⟩) ⟨_, rfl, (by decide), ?_⟩
    exact ⟨j58, f65, (by first | decide | omega), (nm9.y c18 (by first | decide | omega) (by first | decide | omega) rfl (by first | decide | omega) rfl (wd9.y w89 rfl e90 rfl (nm9.f c64 (by first | decide | omega) (by first | decide | omega) rfl (by first | decide | omega) (by first | decide | omega))))⟩
  have q87 : ¬ (2147483648 = 2147483648) := q87
  exfalso; omega
set_option maxHeartbeats 0 in
/-- LentNames$Table.addRow()I -/
theorem c67_T7 {sc : Nat × Nat} {d ra0 : Nat} {h : xh} (hJ : J h) (ta0 : tw ra0) (hr0 : (h (ra0 + 7) 2) + 1 ≤ 2147483658) : X sc 67 (d + 1) (xI fun r h' => J h' ∧ Fr 36310271995674624 h h' ∧ (2147483648 ≤ r ∧ r ≤ 2147483657) ∧ (h' ra0 7 = h ra0 7) ∧ (h' ra0 8 = h ra0 8) ∧ (h' (ra0 + 1) 2 = h (ra0 + 1) 2) ∧ (h' (ra0 + 3) 2 = h (ra0 + 3) 2) ∧ (h' (ra0 + 5) 2 = h (ra0 + 5) 2) ∧ (h' (ra0 + 7) 2 = h (ra0 + 7) 2 + 1) ∧ (r + 1 = h' (ra0 + 7) 2) ∧ Ot ra0 h h') 0 0 0 [x_r (ra0 + 7), 147573952589676412928] [] h := by
  have hF := Fr.refl 36310271995674624 h
  have b1 := jB (e := 2) 0 hJ (rg_T7_2_0_1 ta0) (by first | decide | omega) (by first | decide | omega)
  refine x_aload (np := 1) (x := 0) (by decide +kernel) rfl (x_nc_le (tn_7 ta0)) ?_
  refine x_nI (t := 6) (mj := 66) (n := 1) (rc := 7) (ml := 1) (nr := 0) (np := 4) (as := [x_r (ra0 + 7)]) (rest := []) (lo1 := [x_r (ra0 + 7)]) (by decide +kernel) (by decide) (by decide +kernel) (x_rb_of (tr_7_7 ta0)) rfl rfl (x_wr (tn_7 ta0) x_wn) x_wn (by decide) rfl ?_
  refine x_aload (np := 1) (x := 0) (by decide +kernel) rfl (x_nc_le (tn_7 ta0)) ?_
  refine x_getC (np := 4) (x := 386) (f := 2) (q := (h (ra0 + 7) 2)) (by decide +kernel) (by decide) (tg_7_386_2_0 ta0) rfl (fun l2 => ?_)
  refine x_const (np := 5) (x := 9223372043297226753) (a := 2147483649) (by decide +kernel) (by decide) (by decide) ?_
  refine x_iadd (np := 6) (x := 0) (v := (1 + (h (ra0 + 7) 2))) (by decide +kernel) l2 (by decide) (by first | decide | omega) (by first | decide | omega) ?_
  refine x_aload (np := 7) (x := 0) (by decide +kernel) rfl (x_nc_le (tn_7 ta0)) ?_
  have b3 := jB (e := 0) 0 hJ (rg_T7_0_0_1 ta0) (by first | decide | omega) (by first | decide | omega)
  have q4 : (h (ra0 + 7) 0) = 2147483652 := by first | decide | omega
  refine x_getC (np := 10) (x := 384) (f := 0) (q := 2147483652) (by decide +kernel) (by decide) (tg_7_384_0_0 ta0) q4 (fun l5 => ?_)
  obtain ⟨u6, q7⟩ : ∃ z, (h (ra0 + 7) 2) = 2147483648 + z := ⟨(h (ra0 + 7) 2) - 2147483648, by first | decide | omega⟩
  refine x_imul (np := 11) (x := 0) (i := (1 + u6)) (j := 4) (v := (2147483652 + 4 * u6)) (by decide +kernel) (by first | decide | omega) (by first | decide | omega) (by first | decide | omega) (by first | decide | omega) (by first | decide | omega) (by decide) ?_
  refine x_aload (np := 12) (x := 0) (by decide +kernel) rfl (x_nc_le (tn_7 ta0)) ?_
  have q9 : h (ra0 + 7) 1 = (ra0 + 8) := tf_7_1 hJ ta0
  refine x_getR (np := 15) (x := 385) (f := 1) (q := (ra0 + 8)) (by decide +kernel) (by decide) (tg_7_385_1_1 ta0) q9 ?_
  refine x_alen (np := 16) (x := 0) (n := 40) (by decide +kernel) (tn_8 ta0) (tl_8 ta0).1 (tl_8 ta0).2 (by decide) ?_
  show X _ _ _ _ _ _ _ _ [iv_c 2147483688, iv_c (2147483652 + 4 * u6)] _
  refine x_icmp (k := 5) (tg := 23) (np := 19) (by decide +kernel) (by decide) (by first | decide | omega) (by decide) (fun q10 => ?_) (fun q11 => ?_)
  · have q10 : (2147483652 + 4 * u6) ≤ 2147483688 := q10
    refine x_const (np := 24) (x := 9223372039002259456) (a := 2147483648) (by decide +kernel) (by decide) (by decide) ?_
    refine x_retI (np := 25) (x := 0) (by decide +kernel) (by decide) (Or.inr ⟨by decide +kernel, by first | decide | omega, by first | decide | omega⟩) ⟨_, rfl, (by decide), ?_⟩
    refine x_ifz (k := 0) (tg := 9) (np := 7) (by decide +kernel) (by decide) (by decide) (fun q12 => ?_) (fun q13 => ?_)
    · have q12 : 2147483648 = 2147483648 := q12
      refine x_aload (np := 10) (x := 0) (by decide +kernel) rfl (x_nc_le (tn_7 ta0)) ?_
      refine x_dup (np := 11) (x := 0) (by decide +kernel) (by have z := x_nc_le (k := (ra0 + 7)) (tn_7 ta0); unfold x_r; omega) ?_
      refine x_getC (np := 14) (x := 386) (f := 2) (q := (h (ra0 + 7) 2)) (by decide +kernel) (by decide) (tg_7_386_2_0 ta0) rfl (fun l14 => ?_)
      refine x_const (np := 15) (x := 9223372043297226753) (a := 2147483649) (by decide +kernel) (by decide) (by decide) ?_
      refine x_iadd (np := 16) (x := 0) (v := (1 + (h (ra0 + 7) 2))) (by decide +kernel) l2 (by decide) (by first | decide | omega) (by first | decide | omega) ?_
      refine x_putI (np := 19) (x := 386) (f := 2) (by decide +kernel) (tg_7_386_2_0 ta0) (by first | decide | omega) (Or.inl (by decide)) ?_
      have j16 := jU (e := 2) (v := (1 + (h (ra0 + 7) 2))) 0 hJ (rg_T7_2_0_1 ta0) (by first | decide | omega) (by first | decide | omega) (by first | decide | omega)
      have f18 := jF (e := 2) (v := (1 + (h (ra0 + 7) 2))) 0 hF (rg_T7_2_0_1 ta0) (by first | decide | omega) (by first | decide | omega) (by decide)
      generalize e17 : x_up h (ra0 + 7) 2 (1 + (h (ra0 + 7) 2)) = h15 at j16 f18 ⊢
      refine x_const (np := 20) (x := 9223372039002259456) (a := 2147483648) (by decide +kernel) (by decide) (by decide) ?_
      refine x_istore (np := 21) (x := 1) (lo' := [x_r (ra0 + 7), iv_c 2147483648]) (by decide +kernel) (by decide) (Nat.le_of_ble_eq_true rfl) rfl ?_
      have p180 : ∀ (n : Nat) (v175 : Nat) (h177 : xh), 4294967296 - v175 < n → (2147483648 ≤ v175 ∧ v175 ≤ 2147483652) → J h177 → Fr 36028797018963968 h15 h177 → Ot ra0 h h177 → X sc 67 (d + 1) (xI fun r h' => J h' ∧ Fr 36310271995674624 h h' ∧ (2147483648 ≤ r ∧ r ≤ 2147483657) ∧ (h' ra0 7 = h ra0 7) ∧ (h' ra0 8 = h ra0 8) ∧ (h' (ra0 + 1) 2 = h (ra0 + 1) 2) ∧ (h' (ra0 + 3) 2 = h (ra0 + 3) 2) ∧ (h' (ra0 + 5) 2 = h (ra0 + 5) 2) ∧ (h' (ra0 + 7) 2 = h (ra0 + 7) 2 + 1) ∧ (r + 1 = h' (ra0 + 7) 2) ∧ Ot ra0 h h') 0 0 21 [x_r (ra0 + 7), iv_c v175] [] h177 := by
        intro n
        induction n with
        | zero => intro v175 h177 q182; exact absurd q182 (Nat.not_lt_zero _)
        | succ n i183 =>
          intro v175 h177 q182 b176 j179 f178 m181
          have f184 := Fr.trans f18 f178 (by decide)
          refine x_iload (np := 22) (x := 1) (by decide +kernel) rfl (by first | decide | omega) ?_
          refine x_aload (np := 23) (x := 0) (by decide +kernel) rfl (x_nc_le (tn_7 ta0)) ?_
          have q185 : h177 (ra0 + 7) 0 = h15 (ra0 + 7) 0 := jK 0 f178 (rg_T7_0_0_1 ta0) (by first | decide | omega) (by first | decide | omega) (by decide)
          have q186 : h15 (ra0 + 7) 0 = h (ra0 + 7) 0 := by rw [← e17]; exact x_up_i (by first | decide | omega)
          refine x_getC (np := 26) (x := 384) (f := 0) (q := 2147483652) (by decide +kernel) (by decide) (tg_7_384_0_0 ta0) ((q185.trans q186).trans q4) (fun l187 => ?_)
          refine x_icmp (k := 3) (tg := 47) (np := 29) (by decide +kernel) (by decide) (by first | decide | omega) (by decide) (fun q188 => ?_) (fun q189 => ?_)
          · have q188 : 2147483652 ≤ v175 := q188
            refine x_aload (np := 48) (x := 0) (by decide +kernel) rfl (x_nc_le (tn_7 ta0)) ?_
            have q190 : h177 (ra0 + 7) 2 = h15 (ra0 + 7) 2 := jK 0 f178 (rg_T7_2_0_1 ta0) (by first | decide | omega) (by first | decide | omega) (by decide)
            have q191 : h15 (ra0 + 7) 2 = (1 + (h (ra0 + 7) 2)) := by rw [← e17]; exact x_up_at
            refine x_getC (np := 51) (x := 386) (f := 2) (q := (1 + (h (ra0 + 7) 2))) (by decide +kernel) (by decide) (tg_7_386_2_0 ta0) (q190.trans q191) (fun l192 => ?_)
            refine x_const (np := 52) (x := 9223372043297226753) (a := 2147483649) (by decide +kernel) (by decide) (by decide) ?_
            refine x_isub (np := 53) (x := 0) (v := (h (ra0 + 7) 2)) (by decide +kernel) (by first | decide | omega) (by decide) (by first | decide | omega) (by first | decide | omega) ?_
            have b193 := jB (e := 7) 0 hJ (rg_T0_7_0_1 ta0) (by first | decide | omega) (by first | decide | omega)
            have q194 : h177 ra0 7 = h15 ra0 7 := jK 0 f178 (rg_T0_7_0_1 ta0) (by first | decide | omega) (by first | decide | omega) (by decide)
            have q195 : h15 ra0 7 = h ra0 7 := by rw [← e17]; exact x_up_k tof_0_7
            have q196 : h177 ra0 8 = h15 ra0 8 := jK 0 f178 (rg_T0_8_0_1 ta0) (by first | decide | omega) (by first | decide | omega) (by decide)
            have q197 : h15 ra0 8 = h ra0 8 := by rw [← e17]; exact x_up_k tof_0_7
            have b198 := jB (e := 2) 0 hJ (rg_T1_2_0_1 ta0) (by first | decide | omega) (by first | decide | omega)
            have q199 : h177 (ra0 + 1) 2 = h15 (ra0 + 1) 2 := jK 0 f178 (rg_T1_2_0_1 ta0) (by first | decide | omega) (by first | decide | omega) (by decide)
            have q200 : h15 (ra0 + 1) 2 = h (ra0 + 1) 2 := by rw [← e17]; exact x_up_k tof_1_7
            have b201 := jB (e := 2) 0 hJ (rg_T3_2_0_1 ta0) (by first | decide | omega) (by first | decide | omega)
            have q202 : h177 (ra0 + 3) 2 = h15 (ra0 + 3) 2 := jK 0 f178 (rg_T3_2_0_1 ta0) (by first | decide | omega) (by first | decide | omega) (by decide)
            have q203 : h15 (ra0 + 3) 2 = h (ra0 + 3) 2 := by rw [← e17]; exact x_up_k tof_3_7
            have b204 := jB (e := 2) 0 hJ (rg_T5_2_0_1 ta0) (by first | decide | omega) (by first | decide | omega)
            have q205 : h177 (ra0 + 5) 2 = h15 (ra0 + 5) 2 := jK 0 f178 (rg_T5_2_0_1 ta0) (by first | decide | omega) (by first | decide | omega) (by decide)
            have q206 : h15 (ra0 + 5) 2 = h (ra0 + 5) 2 := by rw [← e17]; exact x_up_k tof_5_7
            have q207 : h177 (ra0 + 7) 2 = h15 (ra0 + 7) 2 := jK 0 f178 (rg_T7_2_0_1 ta0) (by first | decide | omega) (by first | decide | omega) (by decide)
            have q208 : h15 (ra0 + 7) 2 = (1 + (h (ra0 + 7) 2)) := by rw [← e17]; exact x_up_at
            have q209 : h177 (ra0 + 7) 2 = h15 (ra0 + 7) 2 := jK 0 f178 (rg_T7_2_0_1 ta0) (by first | decide | omega) (by first | decide | omega) (by decide)
            have q210 : h15 (ra0 + 7) 2 = (1 + (h (ra0 + 7) 2)) := by rw [← e17]; exact x_up_at
            refine x_retI (np := 54) (x := 0) (by decide +kernel) l2 (Or.inl (by decide +kernel)) ⟨_, rfl, l2, ?_⟩
            exact ⟨j179, f184, (by first | decide | omega), (by first | decide | omega), (by first | decide | omega), (by first | decide | omega), (by first | decide | omega), (by first | decide | omega), (by first | decide | omega), (by first | decide | omega), m181⟩
          have q189 : ¬ (2147483652 ≤ v175) := q189
          refine x_aload (np := 30) (x := 0) (by decide +kernel) rfl (x_nc_le (tn_7 ta0)) ?_
          refine x_aload (np := 31) (x := 0) (by decide +kernel) rfl (x_nc_le (tn_7 ta0)) ?_
          have q211 : h177 (ra0 + 7) 2 = h15 (ra0 + 7) 2 := jK 0 f178 (rg_T7_2_0_1 ta0) (by first | decide | omega) (by first | decide | omega) (by decide)
          have q212 : h15 (ra0 + 7) 2 = (1 + (h (ra0 + 7) 2)) := by rw [← e17]; exact x_up_at
          refine x_getC (np := 34) (x := 386) (f := 2) (q := (1 + (h (ra0 + 7) 2))) (by decide +kernel) (by decide) (tg_7_386_2_0 ta0) (q211.trans q212) (fun l213 => ?_)
          refine x_const (np := 35) (x := 9223372043297226753) (a := 2147483649) (by decide +kernel) (by decide) (by decide) ?_
          refine x_isub (np := 36) (x := 0) (v := (h (ra0 + 7) 2)) (by decide +kernel) (by first | decide | omega) (by decide) (by first | decide | omega) (by first | decide | omega) ?_
          refine x_iload (np := 37) (x := 1) (by decide +kernel) rfl (by first | decide | omega) ?_
          refine x_const (np := 38) (x := 9223372039002259456) (a := 2147483648) (by decide +kernel) (by decide) (by decide) ?_
          refine x_nV (t := 6) (mj := 69) (n := 4) (rc := 7) (ml := 5) (nr := 0) (np := 41) (as := [x_r (ra0 + 7), iv_c (h (ra0 + 7) 2), iv_c v175, iv_c 2147483648]) (rest := []) (lo1 := [x_r (ra0 + 7), iv_c (h (ra0 + 7) 2), iv_c v175, iv_c 2147483648, 147573952589676412928]) (by decide +kernel) (by decide) (by decide +kernel) (x_rb_of (tr_7_7 ta0)) rfl rfl (x_wr (tn_7 ta0) (x_wi l2 (x_wi (by first | decide | omega) (x_wi (by decide) x_wn)))) x_wn (by decide) rfl ?_
          refine x_iload (np := 1) (x := 1) (by decide +kernel) rfl l2 ?_
          refine x_ifz (k := 2) (tg := 28) (np := 4) (by decide +kernel) (by decide) l2 (fun q214 => ?_) (fun q215 => ?_)
          · have q214 : (h (ra0 + 7) 2) < 2147483648 := q214
            exfalso; omega
          have q215 : ¬ ((h (ra0 + 7) 2) < 2147483648) := q215
          refine x_iload (np := 5) (x := 1) (by decide +kernel) rfl l2 ?_
          refine x_aload (np := 6) (x := 0) (by decide +kernel) rfl (x_nc_le (tn_7 ta0)) ?_
          have q216 : h177 (ra0 + 7) 2 = h15 (ra0 + 7) 2 := jK 0 f178 (rg_T7_2_0_1 ta0) (by first | decide | omega) (by first | decide | omega) (by decide)
          have q217 : h15 (ra0 + 7) 2 = (1 + (h (ra0 + 7) 2)) := by rw [← e17]; exact x_up_at
          refine x_getC (np := 9) (x := 386) (f := 2) (q := (1 + (h (ra0 + 7) 2))) (by decide +kernel) (by decide) (tg_7_386_2_0 ta0) (q216.trans q217) (fun l218 => ?_)
          refine x_icmp (k := 3) (tg := 28) (np := 12) (by decide +kernel) (by decide) l2 (by first | decide | omega) (fun q219 => ?_) (fun q220 => ?_)
          · have q219 : (1 + (h (ra0 + 7) 2)) ≤ (h (ra0 + 7) 2) := q219
            exfalso; omega
          have q220 : ¬ ((1 + (h (ra0 + 7) 2)) ≤ (h (ra0 + 7) 2)) := q220
          refine x_iload (np := 13) (x := 2) (by decide +kernel) rfl (by first | decide | omega) ?_
          refine x_ifz (k := 2) (tg := 28) (np := 16) (by decide +kernel) (by decide) (by first | decide | omega) (fun q221 => ?_) (fun q222 => ?_)
          · have q221 : v175 < 2147483648 := q221
            exfalso; omega
          have q222 : ¬ (v175 < 2147483648) := q222
          refine x_iload (np := 17) (x := 2) (by decide +kernel) rfl (by first | decide | omega) ?_
          refine x_aload (np := 18) (x := 0) (by decide +kernel) rfl (x_nc_le (tn_7 ta0)) ?_
          have q223 : h177 (ra0 + 7) 0 = h15 (ra0 + 7) 0 := jK 0 f178 (rg_T7_0_0_1 ta0) (by first | decide | omega) (by first | decide | omega) (by decide)
          have q224 : h15 (ra0 + 7) 0 = h (ra0 + 7) 0 := by rw [← e17]; exact x_up_i (by first | decide | omega)
          refine x_getC (np := 21) (x := 384) (f := 0) (q := 2147483652) (by decide +kernel) (by decide) (tg_7_384_0_0 ta0) ((q223.trans q224).trans q4) (fun l225 => ?_)
          refine x_icmp (k := 3) (tg := 28) (np := 24) (by decide +kernel) (by decide) (by first | decide | omega) (by decide) (fun q226 => ?_) (fun q227 => ?_)
          · have q226 : 2147483652 ≤ v175 := q226
            exfalso; omega
          have q227 : ¬ (2147483652 ≤ v175) := q227
          refine x_const (np := 25) (x := 9223372043297226753) (a := 2147483649) (by decide +kernel) (by decide) (by decide) ?_
          refine x_goto (np := 28) (x := 29) (by decide +kernel) ?_
          refine x_istore (np := 31) (x := 4) (lo' := [x_r (ra0 + 7), iv_c (h (ra0 + 7) 2), iv_c v175, iv_c 2147483648, iv_c 2147483649]) (by decide +kernel) (by decide) (Nat.le_of_ble_eq_true rfl) rfl ?_
          refine x_iload (np := 33) (x := 4) (by decide +kernel) rfl (by decide) ?_
          refine x_ifz (k := 0) (tg := 50) (np := 36) (by decide +kernel) (by decide) (by decide) (fun q228 => ?_) (fun q229 => ?_)
          · have q228 : 2147483649 = 2147483648 := q228
            exfalso; omega
          have q229 : ¬ (2147483649 = 2147483648) := q229
          refine x_aload (np := 37) (x := 0) (by decide +kernel) rfl (x_nc_le (tn_7 ta0)) ?_
          have q230 : h177 (ra0 + 7) 1 = (ra0 + 8) := tf_7_1 j179 ta0
          refine x_getR (np := 40) (x := 385) (f := 1) (q := (ra0 + 8)) (by decide +kernel) (by decide) (tg_7_385_1_1 ta0) q230 ?_
          refine x_iload (np := 41) (x := 1) (by decide +kernel) rfl l2 ?_
          refine x_aload (np := 42) (x := 0) (by decide +kernel) rfl (x_nc_le (tn_7 ta0)) ?_
          have q231 : h177 (ra0 + 7) 0 = h15 (ra0 + 7) 0 := jK 0 f178 (rg_T7_0_0_1 ta0) (by first | decide | omega) (by first | decide | omega) (by decide)
          have q232 : h15 (ra0 + 7) 0 = h (ra0 + 7) 0 := by rw [← e17]; exact x_up_i (by first | decide | omega)
          refine x_getC (np := 45) (x := 384) (f := 0) (q := 2147483652) (by decide +kernel) (by decide) (tg_7_384_0_0 ta0) ((q231.trans q232).trans q4) (fun l233 => ?_)
          refine x_imul (np := 46) (x := 0) (i := u6) (j := 4) (v := (2147483648 + 4 * u6)) (by decide +kernel) (by first | decide | omega) (by first | decide | omega) (by first | decide | omega) (by first | decide | omega) l2 (by decide) ?_
          refine x_iload (np := 47) (x := 2) (by decide +kernel) rfl (by first | decide | omega) ?_
          refine x_iadd (np := 48) (x := 0) (v := (4 * u6 + v175)) (by decide +kernel) (by first | decide | omega) (by first | decide | omega) (by first | decide | omega) (by first | decide | omega) ?_
          refine x_iload (np := 49) (x := 3) (by decide +kernel) rfl (by decide) ?_
          obtain ⟨u235, q236⟩ : ∃ z, v175 = 2147483648 + z := ⟨v175 - 2147483648, by first | decide | omega⟩
          refine x_ast (np := 50) (x := 0) (kd := 1) (n := 40) (i := (4 * u6 + u235)) (by decide +kernel) (Or.inl rfl) (ta_8_40 ta0) (by first | decide | omega) (by first | decide | omega) (by decide) (by decide) (fun z => absurd z (by decide)) ?_
          have j238 := jUw (e := (4 * u6 + u235)) (v := 2147483648) j179 (rw_T8 ta0) (by first | decide | omega) (by first | decide | omega)
          have f240 := jFw (e := (4 * u6 + u235)) (v := 2147483648) f184 (rw_T8 ta0) (by first | decide | omega) (by decide)
          have f241 := jFw (e := (4 * u6 + u235)) (v := 2147483648) f178 (rw_T8 ta0) (by first | decide | omega) (by decide)
          generalize e239 : x_up h177 (ra0 + 8) (4 * u6 + u235) 2147483648 = h237 at j238 f240 f241 ⊢
          refine x_retV (np := 51) (x := 0) (by decide +kernel) (by decide +kernel) ⟨rfl, ?_⟩
          refine x_iinc (np := 44) (i := 1) (j := 2147483649) (v := (1 + v175)) (lo' := [x_r (ra0 + 7), iv_c (1 + v175)]) (by decide +kernel) (by decide) (by decide) rfl (by first | decide | omega) (by first | decide | omega) (by first | decide | omega) rfl ?_
          refine x_goto (np := 47) (x := 21) (by decide +kernel) ?_
          have m242 : Ot ra0 h h237 := by rw [← e239]; exact Ot.up (o := 8) m181 ta0 (by decide) rfl
          exact i183 (1 + v175) h237 (by first | decide | omega) (by first | decide | omega) j238 f241 m242
      have m243 : Ot ra0 h h15 := by rw [← e17]; exact Ot.up (o := 7) Ot.refl ta0 (by decide) rfl
      exact p180 _ 2147483648 h15 (Nat.lt_succ_self _) (by first | decide | omega) j16 (Fr.refl _ _) m243
    have q13 : ¬ (2147483648 = 2147483648) := q13
    exfalso; omega
  have q11 : ¬ ((2147483652 + 4 * u6) ≤ 2147483688) := q11
  exfalso; omega
set_option maxHeartbeats 0 in
/-- LentNames$TownReader.readBodies(I)Z -/
theorem c101_61 {sc : Nat × Nat} {d a1 : Nat} {h : xh} {tB : Nat → Nat} {tN : Nat} (hJ : J h) (ba1 : 2147483648 ≤ a1 ∧ a1 ≤ 2147483657) (hT : Tp tB tN h) : X sc 101 (d + 6) (xI fun r h' => J h' ∧ Fr 36028797018964001 h h' ∧ (2147483648 ≤ r ∧ r ≤ 2147483649) ∧ Bl tB tN (rv h 0 - 1) (h 1 2) (rs r (h' 1 2)) ∧ (∀ b u, h 61 1 = b → a1 = 2147483648 + u → h' (b + 8) (1 + 4 * u) = h (b + 8) (1 + 4 * u)) ∧ Ot (h 61 1) h h') 0 0 0 [x_r 61, iv_c a1, 147573952589676412928, 147573952589676412928, 147573952589676412928] [] h := by
  have la1 : a1 < 4294967296 := by first | decide | omega
  have hF := Fr.refl 36028797018964001 h
  refine x_const (np := 1) (x := 9223372039002259456) (a := 2147483648) (by decide +kernel) (by decide) (by decide) ?_
  refine x_istore (np := 2) (x := 2) (lo' := [x_r 61, iv_c a1, iv_c 2147483648, 147573952589676412928, 147573952589676412928]) (by decide +kernel) (by decide) (Nat.le_of_ble_eq_true rfl) rfl ?_
  refine x_const (np := 3) (x := 9223372039002259456) (a := 2147483648) (by decide +kernel) (by decide) (by decide) ?_
  refine x_istore (np := 4) (x := 3) (lo' := [x_r 61, iv_c a1, iv_c 2147483648, iv_c 2147483648, 147573952589676412928]) (by decide +kernel) (by decide) (Nat.le_of_ble_eq_true rfl) rfl ?_
  have p1320 : ∀ (n : Nat) (v1312 : Nat) (v1314 : Nat) (w1316 : Nat) (h1317 : xh), 4294967296 - v1314 < n → (0 ≤ v1312 ∧ v1312 ≤ 4294967295) → (2147483648 ≤ v1314 ∧ v1314 ≤ 2147483788) → 3 * v1314 ≤ h1317 1 2 + 4294967296 → J h1317 → Fr 33 h h1317 → Bq tB tN (rv h 0 - 1) (h1317 1 2) (h 1 2) → X sc 101 (d + 6) (xI fun r h' => J h' ∧ Fr 36028797018964001 h h' ∧ (2147483648 ≤ r ∧ r ≤ 2147483649) ∧ Bl tB tN (rv h 0 - 1) (h 1 2) (rs r (h' 1 2)) ∧ (∀ b u, h 61 1 = b → a1 = 2147483648 + u → h' (b + 8) (1 + 4 * u) = h (b + 8) (1 + 4 * u)) ∧ Ot (h 61 1) h h') 0 0 4 [x_r 61, iv_c a1, iv_c v1312, iv_c v1314, w1316] [] h1317 := by
    intro n
    induction n with
    | zero => intro v1312 v1314 w1316 h1317 q1323; exact absurd q1323 (Nat.not_lt_zero _)
    | succ n i1324 =>
      intro v1312 v1314 w1316 h1317 q1323 b1313 b1315 b1321 j1319 f1318 m1322
      have f1325 := Fr.trans hF f1318 (by decide)
      have b1326 := jB (e := 2) 0 j1319 rg_1_2_0_1 (by first | decide | omega) (by first | decide | omega)
      have q1327 : h1317 61 1 = h 61 1 := f1318 61 1 (by decide +kernel)
      have t1328 : tw (h 61 1) := hJ.2.2.2.2.1
      have q1329 : h1317 (h 61 1) 7 = h (h 61 1) 7 := jK 0 f1318 (rg_T0_7_0_1 t1328) (by first | decide | omega) (by first | decide | omega) (by decide)
      have b1330 := jB (e := 7) 0 hJ (rg_T0_7_0_1 t1328) (by first | decide | omega) (by first | decide | omega)
      have e1331 : rv h1317 0 = (h (h 61 1) 7) := (congrArg (fun z => svq h1317 z 0) q1327).trans q1329
      have e1332 : rv h 0 = (h (h 61 1) 7) := (congrArg (fun z => svq h z 0) rfl).trans rfl
      refine x_iload (np := 5) (x := 3) (by decide +kernel) rfl (by first | decide | omega) ?_
      refine x_const (np := 8) (x := 9223373756989178256) (a := 2147484048) (by decide +kernel) (by decide) (by decide) ?_
      refine x_icmp (k := 3) (tg := 66) (np := 11) (by decide +kernel) (by decide) (by first | decide | omega) (by decide) (fun q1333 => ?_) (fun q1334 => ?_)
      · have q1333 : 2147484048 ≤ v1314 := q1333
        exfalso; omega
      have q1334 : ¬ (2147484048 ≤ v1314) := q1334
      refine x_aload (np := 12) (x := 0) (by decide +kernel) rfl (x_nc_le (by decide)) ?_
      have q1335 : h1317 61 0 = 1 := by have z := jB (e := 0) 0 j1319 rg_61_0_0_1 (by decide) (by decide); omega
      refine x_getR (np := 15) (x := 576) (f := 0) (q := 1) (by decide +kernel) (by decide) (by decide +kernel) q1335 ?_
      refine x_const (np := 16) (x := 9223372039002259456) (a := 2147483648) (by decide +kernel) (by decide) (by decide) ?_
      refine x_aload (np := 17) (x := 0) (by decide +kernel) rfl (x_nc_le (by decide)) ?_
      have q1336 : h1317 61 1 = h 61 1 := f1318 61 1 (by decide +kernel)
      refine x_getR (np := 20) (x := 577) (f := 1) (q := (h 61 1)) (by decide +kernel) (by decide) (by decide +kernel) q1336 ?_
      have q1337 : h1317 (h 61 1) 7 = h (h 61 1) 7 := jK 0 f1318 (rg_T0_7_0_1 t1328) (by first | decide | omega) (by first | decide | omega) (by decide)
      refine x_getC (np := 23) (x := 519) (f := 7) (q := (h (h 61 1) 7)) (by decide +kernel) (by decide) (tg_0_519_7_0 t1328) q1337 (fun l1338 => ?_)
      refine x_const (np := 24) (x := 9223372043297226753) (a := 2147483649) (by decide +kernel) (by decide) (by decide) ?_
      obtain ⟨v1339, q1340⟩ : ∃ z, z + 2147483649 = (h (h 61 1) 7) + 2147483648 := ⟨(h (h 61 1) 7) + 2147483648 - 2147483649, by first | decide | omega⟩
      refine x_isub (np := 25) (x := 0) (v := v1339) (by decide +kernel) l1338 (by decide) (by first | decide | omega) (by first | decide | omega) ?_
      have m1344 := Tp.fr hT f1318 (by decide) (by decide)
      refine x_cI (t := 6) (mj := 79) (n := 3) (rc := 8) (ml := 5) (nr := 0) (np := 28) (as := [x_r 1, iv_c 2147483648, iv_c v1339]) (rest := []) (lo1 := [x_r 1, iv_c 2147483648, iv_c v1339, 147573952589676412928, 147573952589676412928]) (by decide +kernel) (by decide) (by decide +kernel) (x_rb_of (by decide +kernel)) rfl rfl (x_wr (by decide) (x_wi (by decide) (x_wi (by first | decide | omega) x_wn))) x_wn (by decide) rfl (c79_1_c0 j1319   (by first | decide | omega) m1344) (fun v1341 h1345 l1342 q1343 => ?_)
      obtain ⟨j1346, f1347, b1348, c1349, c1350, c1351, c1352⟩ := q1343
      have f1353 := Fr.trans f1325 f1347 (by decide)
      have f1354 := Fr.trans f1318 f1347 (by decide)
      have b1355 := jB (e := 2) 0 j1346 rg_1_2_0_1 (by first | decide | omega) (by first | decide | omega)
      refine x_istore (np := 30) (x := 4) (lo' := [x_r 61, iv_c a1, iv_c v1312, iv_c v1314, iv_c v1341]) (by decide +kernel) l1342 (Nat.le_of_ble_eq_true rfl) rfl ?_
      refine x_iload (np := 32) (x := 4) (by decide +kernel) rfl l1342 ?_
      refine x_const (np := 33) (x := 9223372034707292159) (a := 2147483647) (by decide +kernel) (by decide) (by decide) ?_
      refine x_icmp (k := 1) (tg := 38) (np := 36) (by decide +kernel) (by decide) l1342 (by decide) (fun q1356 => ?_) (fun q1357 => ?_)
      · have q1356 : v1341 ≠ 2147483647 := q1356
        have b1358 := c1350 (by first | decide | omega)
        refine x_iload (np := 39) (x := 2) (by decide +kernel) rfl (by first | decide | omega) ?_
        refine x_const (np := 40) (x := 9223372043297226753) (a := 2147483649) (by decide +kernel) (by decide) (by decide) ?_
        refine x_iload (np := 42) (x := 4) (by decide +kernel) rfl l1342 ?_
        refine x_any (np := 43) (k9 := 3) (by decide +kernel) (by decide) (by decide) l1342 (fun v1359 l1360 => ?_)
        refine x_any (np := 44) (k9 := 1) (by decide +kernel) (by decide) (by first | decide | omega) l1360 (fun v1361 l1362 => ?_)
        refine x_istore (np := 45) (x := 2) (lo' := [x_r 61, iv_c a1, iv_c v1361, iv_c v1314, iv_c v1341]) (by decide +kernel) l1362 (Nat.le_of_ble_eq_true rfl) rfl ?_
        refine x_aload (np := 46) (x := 0) (by decide +kernel) rfl (x_nc_le (by decide)) ?_
        have q1363 : h1345 61 0 = 1 := by have z := jB (e := 0) 0 j1346 rg_61_0_0_1 (by decide) (by decide); omega
        refine x_getR (np := 49) (x := 576) (f := 0) (q := 1) (by decide +kernel) (by decide) (by decide +kernel) q1363 ?_
        refine x_ldcB (i := 15) (idx := 165) (tx := "or") (by rw [tb_y101]; exact List.mem_of_getElem? (i := 15) rfl) (by decide) (by rw [tb_b101]; decide +kernel) ?_
        have m1367 := Tp.fr m1344 f1347 (by decide) (by decide)
        refine x_cI (t := 6) (mj := 78) (n := 2) (rc := 8) (ml := 2) (nr := 0) (np := 54) (as := [x_r 1, x_b (15 + 1)]) (rest := []) (lo1 := [x_r 1, x_b (15 + 1)]) (by decide +kernel) (by decide) (by decide +kernel) (x_rb_of (by decide +kernel)) rfl rfl (x_wr (by decide) (x_wB (by decide) x_wn)) x_wn (by decide) rfl (c78_1_S0 j1346  (by decide) m1367) (fun v1364 h1368 l1365 q1366 => ?_)
        obtain ⟨j1369, f1370, b1371, c1372, c1373, c1374⟩ := q1366
        have f1375 := Fr.trans f1353 f1370 (by decide)
        have f1376 := Fr.trans f1354 f1370 (by decide)
        have b1377 := jB (e := 2) 0 j1369 rg_1_2_0_1 (by first | decide | omega) (by first | decide | omega)
        have b1378 : iv_tl 15 = 2 := by decide
        refine x_ifz (k := 1) (tg := 60) (np := 57) (by decide +kernel) (by decide) l1365 (fun q1379 => ?_) (fun q1380 => ?_)
        · have q1379 : v1364 ≠ 2147483648 := q1379
          have b1381 := c1372 (by first | decide | omega)
          refine x_iinc (np := 63) (i := 3) (j := 2147483649) (v := (1 + v1314)) (lo' := [x_r 61, iv_c a1, iv_c v1361, iv_c (1 + v1314), iv_c v1341]) (by decide +kernel) (by decide) (by decide) rfl (by first | decide | omega) (by first | decide | omega) (by first | decide | omega) rfl ?_
          refine x_goto (np := 66) (x := 4) (by decide +kernel) ?_
          obtain ⟨w1382, e1383⟩ := Tk.yes c1374 (by first | decide | omega)
          exact i1324 v1361 (1 + v1314) (iv_c v1341) h1368 (by first | decide | omega) (by first | decide | omega) (by first | decide | omega) (by first | decide | omega) j1369 f1376 (Bq.go m1322 c1352 (by first | decide | omega) (by first | decide | omega) rfl (by first | decide | omega) w1382 rfl e1383 rfl)
        have q1380 : ¬ (v1364 ≠ 2147483648) := q1380
        have b1384 := c1373 (by first | decide | omega)
        refine x_goto (np := 60) (x := 66) (by decide +kernel) ?_
        refine x_aload (np := 67) (x := 0) (by decide +kernel) rfl (x_nc_le (by decide)) ?_
        have q1385 : h1368 61 1 = h1345 61 1 := f1370 61 1 (by decide +kernel)
        have q1386 : h1345 61 1 = h1317 61 1 := f1347 61 1 (by decide +kernel)
        have q1387 : h1317 61 1 = h 61 1 := f1318 61 1 (by decide +kernel)
        refine x_getR (np := 70) (x := 577) (f := 1) (q := (h 61 1)) (by decide +kernel) (by decide) (by decide +kernel) ((q1385.trans q1386).trans q1387) ?_
        have q1388 : h1368 (h 61 1) 3 = ((h 61 1) + 7) := tf_0_3 j1369 t1328
        refine x_getR (np := 73) (x := 515) (f := 3) (q := ((h 61 1) + 7)) (by decide +kernel) (by decide) (tg_0_515_3_1 t1328) q1388 ?_
        refine x_iload (np := 74) (x := 1) (by decide +kernel) rfl la1 ?_
        refine x_const (np := 75) (x := 9223372047592194050) (a := 2147483650) (by decide +kernel) (by decide) (by decide) ?_
        refine x_iload (np := 76) (x := 2) (by decide +kernel) rfl l1362 ?_
        refine x_nV (t := 6) (mj := 69) (n := 4) (rc := 7) (ml := 5) (nr := 0) (np := 79) (as := [x_r ((h 61 1) + 7), iv_c a1, iv_c 2147483650, iv_c v1361]) (rest := []) (lo1 := [x_r ((h 61 1) + 7), iv_c a1, iv_c 2147483650, iv_c v1361, 147573952589676412928]) (by decide +kernel) (by decide) (by decide +kernel) (x_rb_of (tr_7_7 t1328)) rfl rfl (x_wr (tn_7 t1328) (x_wi la1 (x_wi (by decide) (x_wi l1362 x_wn)))) x_wn (by decide) rfl ?_
        refine x_iload (np := 1) (x := 1) (by decide +kernel) rfl la1 ?_
        refine x_ifz (k := 2) (tg := 28) (np := 4) (by decide +kernel) (by decide) la1 (fun q1389 => ?_) (fun q1390 => ?_)
        · have q1389 : a1 < 2147483648 := q1389
          exfalso; omega
        have q1390 : ¬ (a1 < 2147483648) := q1390
        refine x_iload (np := 5) (x := 1) (by decide +kernel) rfl la1 ?_
        refine x_aload (np := 6) (x := 0) (by decide +kernel) rfl (x_nc_le (tn_7 t1328)) ?_
        have q1391 : h1368 ((h 61 1) + 7) 2 = h1345 ((h 61 1) + 7) 2 := jK 0 f1370 (rg_T7_2_0_1 t1328) (by first | decide | omega) (by first | decide | omega) (by decide)
        have q1392 : h1345 ((h 61 1) + 7) 2 = h1317 ((h 61 1) + 7) 2 := jK 0 f1347 (rg_T7_2_0_1 t1328) (by first | decide | omega) (by first | decide | omega) (by decide)
        have q1393 : h1317 ((h 61 1) + 7) 2 = h ((h 61 1) + 7) 2 := jK 0 f1318 (rg_T7_2_0_1 t1328) (by first | decide | omega) (by first | decide | omega) (by decide)
        have b1394 := jB (e := 2) 0 hJ (rg_T7_2_0_1 t1328) (by first | decide | omega) (by first | decide | omega)
        refine x_getC (np := 9) (x := 386) (f := 2) (q := (h ((h 61 1) + 7) 2)) (by decide +kernel) (by decide) (tg_7_386_2_0 t1328) ((q1391.trans q1392).trans q1393) (fun l1395 => ?_)
        refine x_icmp (k := 3) (tg := 28) (np := 12) (by decide +kernel) (by decide) la1 l1395 (fun q1396 => ?_) (fun q1397 => ?_)
        · have q1396 : (h ((h 61 1) + 7) 2) ≤ a1 := q1396
          refine x_const (np := 29) (x := 9223372039002259456) (a := 2147483648) (by decide +kernel) (by decide) (by decide) ?_
          refine x_istore (np := 31) (x := 4) (lo' := [x_r ((h 61 1) + 7), iv_c a1, iv_c 2147483650, iv_c v1361, iv_c 2147483648]) (by decide +kernel) (by decide) (Nat.le_of_ble_eq_true rfl) rfl ?_
          refine x_iload (np := 33) (x := 4) (by decide +kernel) rfl (by decide) ?_
          refine x_ifz (k := 0) (tg := 50) (np := 36) (by decide +kernel) (by decide) (by decide) (fun q1398 => ?_) (fun q1399 => ?_)
          · have q1398 : 2147483648 = 2147483648 := q1398
            refine x_retV (np := 51) (x := 0) (by decide +kernel) (by decide +kernel) ⟨rfl, ?_⟩
            refine x_const (np := 80) (x := 9223372043297226753) (a := 2147483649) (by decide +kernel) (by decide) (by decide) ?_
            obtain ⟨w1400, e1401⟩ := Tk.no c1374 (by first | decide | omega)
            obtain ⟨u1402, q1403⟩ : ∃ z, a1 = 2147483648 + z := ⟨a1 - 2147483648, by first | decide | omega⟩
            have q1404 : h1368 ((h 61 1) + 8) (1 + 4 * u1402) = h1345 ((h 61 1) + 8) (1 + 4 * u1402) := jK u1402 f1370 (rg_T8_1_4_10 t1328) (by first | decide | omega) (by first | decide | omega) (by decide)
            have q1405 : h1345 ((h 61 1) + 8) (1 + 4 * u1402) = h1317 ((h 61 1) + 8) (1 + 4 * u1402) := jK u1402 f1347 (rg_T8_1_4_10 t1328) (by first | decide | omega) (by first | decide | omega) (by decide)
            have q1406 : h1317 ((h 61 1) + 8) (1 + 4 * u1402) = h ((h 61 1) + 8) (1 + 4 * u1402) := jK u1402 f1318 (rg_T8_1_4_10 t1328) (by first | decide | omega) (by first | decide | omega) (by decide)
            have m1407 : Ot (h 61 1) h h1317 := Ot.fr Ot.refl f1318 (by decide)
            have m1408 : Ot (h 61 1) h h1345 := Ot.fr m1407 f1347 (by decide)
            have m1409 : Ot (h 61 1) h h1368 := Ot.fr m1408 f1370 (by decide)
            refine x_retI (np := 81) (x := 0) (by decide +kernel) (by decide) (Or.inr ⟨by decide +kernel, by first | decide | omega, by first | decide | omega⟩) ⟨_, rfl, (by decide), ?_⟩
            exact ⟨j1369, f1375, (by first | decide | omega), (Bq.fin m1322 c1352 (by first | decide | omega) (by first | decide | omega) rfl (by first | decide | omega) w1400 rfl (by first | decide | omega) (show h1345 1 2 = h1368 1 2 by first | decide | omega)), (fun b u e1 e2 => by rw [← e1, show u = u1402 by first | decide | omega]; exact ((q1404.trans q1405).trans q1406)), m1409⟩
          have q1399 : ¬ (2147483648 = 2147483648) := q1399
          exfalso; omega
        have q1397 : ¬ ((h ((h 61 1) + 7) 2) ≤ a1) := q1397
        refine x_iload (np := 13) (x := 2) (by decide +kernel) rfl (by decide) ?_
        refine x_ifz (k := 2) (tg := 28) (np := 16) (by decide +kernel) (by decide) (by decide) (fun q1410 => ?_) (fun q1411 => ?_)
        · have q1410 : 2147483650 < 2147483648 := q1410
          exfalso; omega
        have q1411 : ¬ (2147483650 < 2147483648) := q1411
        refine x_iload (np := 17) (x := 2) (by decide +kernel) rfl (by decide) ?_
        refine x_aload (np := 18) (x := 0) (by decide +kernel) rfl (x_nc_le (tn_7 t1328)) ?_
        have q1412 : h1368 ((h 61 1) + 7) 0 = h1345 ((h 61 1) + 7) 0 := jK 0 f1370 (rg_T7_0_0_1 t1328) (by first | decide | omega) (by first | decide | omega) (by decide)
        have q1413 : h1345 ((h 61 1) + 7) 0 = h1317 ((h 61 1) + 7) 0 := jK 0 f1347 (rg_T7_0_0_1 t1328) (by first | decide | omega) (by first | decide | omega) (by decide)
        have q1414 : h1317 ((h 61 1) + 7) 0 = h ((h 61 1) + 7) 0 := jK 0 f1318 (rg_T7_0_0_1 t1328) (by first | decide | omega) (by first | decide | omega) (by decide)
        have b1415 := jB (e := 0) 0 hJ (rg_T7_0_0_1 t1328) (by first | decide | omega) (by first | decide | omega)
        have q1416 : (h ((h 61 1) + 7) 0) = 2147483652 := by first | decide | omega
        refine x_getC (np := 21) (x := 384) (f := 0) (q := 2147483652) (by decide +kernel) (by decide) (tg_7_384_0_0 t1328) (((q1412.trans q1413).trans q1414).trans q1416) (fun l1417 => ?_)
        refine x_icmp (k := 3) (tg := 28) (np := 24) (by decide +kernel) (by decide) (by decide) (by decide) (fun q1418 => ?_) (fun q1419 => ?_)
        · have q1418 : 2147483652 ≤ 2147483650 := q1418
          exfalso; omega
        have q1419 : ¬ (2147483652 ≤ 2147483650) := q1419
        refine x_const (np := 25) (x := 9223372043297226753) (a := 2147483649) (by decide +kernel) (by decide) (by decide) ?_
        refine x_goto (np := 28) (x := 29) (by decide +kernel) ?_
        refine x_istore (np := 31) (x := 4) (lo' := [x_r ((h 61 1) + 7), iv_c a1, iv_c 2147483650, iv_c v1361, iv_c 2147483649]) (by decide +kernel) (by decide) (Nat.le_of_ble_eq_true rfl) rfl ?_
        refine x_iload (np := 33) (x := 4) (by decide +kernel) rfl (by decide) ?_
        refine x_ifz (k := 0) (tg := 50) (np := 36) (by decide +kernel) (by decide) (by decide) (fun q1420 => ?_) (fun q1421 => ?_)
        · have q1420 : 2147483649 = 2147483648 := q1420
          exfalso; omega
        have q1421 : ¬ (2147483649 = 2147483648) := q1421
        refine x_aload (np := 37) (x := 0) (by decide +kernel) rfl (x_nc_le (tn_7 t1328)) ?_
        have q1422 : h1368 ((h 61 1) + 7) 1 = ((h 61 1) + 8) := tf_7_1 j1369 t1328
        refine x_getR (np := 40) (x := 385) (f := 1) (q := ((h 61 1) + 8)) (by decide +kernel) (by decide) (tg_7_385_1_1 t1328) q1422 ?_
        refine x_iload (np := 41) (x := 1) (by decide +kernel) rfl la1 ?_
        refine x_aload (np := 42) (x := 0) (by decide +kernel) rfl (x_nc_le (tn_7 t1328)) ?_
        have q1423 : h1368 ((h 61 1) + 7) 0 = h1345 ((h 61 1) + 7) 0 := jK 0 f1370 (rg_T7_0_0_1 t1328) (by first | decide | omega) (by first | decide | omega) (by decide)
        have q1424 : h1345 ((h 61 1) + 7) 0 = h1317 ((h 61 1) + 7) 0 := jK 0 f1347 (rg_T7_0_0_1 t1328) (by first | decide | omega) (by first | decide | omega) (by decide)
        have q1425 : h1317 ((h 61 1) + 7) 0 = h ((h 61 1) + 7) 0 := jK 0 f1318 (rg_T7_0_0_1 t1328) (by first | decide | omega) (by first | decide | omega) (by decide)
        refine x_getC (np := 45) (x := 384) (f := 0) (q := 2147483652) (by decide +kernel) (by decide) (tg_7_384_0_0 t1328) (((q1423.trans q1424).trans q1425).trans q1416) (fun l1426 => ?_)
        obtain ⟨u1427, q1428⟩ : ∃ z, a1 = 2147483648 + z := ⟨a1 - 2147483648, by first | decide | omega⟩
        refine x_imul (np := 46) (x := 0) (i := u1427) (j := 4) (v := (2147483648 + 4 * u1427)) (by decide +kernel) (by first | decide | omega) (by first | decide | omega) (by first | decide | omega) (by first | decide | omega) la1 (by decide) ?_
        refine x_iload (np := 47) (x := 2) (by decide +kernel) rfl (by decide) ?_
        refine x_iadd (np := 48) (x := 0) (v := (2147483650 + 4 * u1427)) (by decide +kernel) (by first | decide | omega) (by decide) (by first | decide | omega) (by first | decide | omega) ?_
        refine x_iload (np := 49) (x := 3) (by decide +kernel) rfl l1362 ?_
        refine x_ast (np := 50) (x := 0) (kd := 1) (n := 40) (i := (2 + 4 * u1427)) (by decide +kernel) (Or.inl rfl) (ta_8_40 t1328) (by first | decide | omega) (by first | decide | omega) (by decide) l1362 (fun z => absurd z (by decide)) ?_
        have j1431 := jU (e := (2 + 4 * u1427)) (v := v1361) u1427 j1369 (rg_T8_2_4_10 t1328) (by first | decide | omega) (by first | decide | omega) (by first | decide | omega)
        have f1433 := jF (e := (2 + 4 * u1427)) (v := v1361) u1427 f1375 (rg_T8_2_4_10 t1328) (by first | decide | omega) (by first | decide | omega) (by decide)
        generalize e1432 : x_up h1368 ((h 61 1) + 8) (2 + 4 * u1427) v1361 = h1430 at j1431 f1433 ⊢
        refine x_retV (np := 51) (x := 0) (by decide +kernel) (by decide +kernel) ⟨rfl, ?_⟩
        refine x_const (np := 80) (x := 9223372043297226753) (a := 2147483649) (by decide +kernel) (by decide) (by decide) ?_
        obtain ⟨w1434, e1435⟩ := Tk.no c1374 (by first | decide | omega)
        have q1436 : h1430 1 2 = h1368 1 2 := by rw [← e1432]; exact x_up_k (Ne.symm (tne_8_1 t1328))
        have q1437 : h1430 ((h 61 1) + 8) (1 + 4 * u1427) = h1368 ((h 61 1) + 8) (1 + 4 * u1427) := by rw [← e1432]; exact x_up_i (by first | decide | omega)
        have q1438 : h1368 ((h 61 1) + 8) (1 + 4 * u1427) = h1345 ((h 61 1) + 8) (1 + 4 * u1427) := jK u1427 f1370 (rg_T8_1_4_10 t1328) (by first | decide | omega) (by first | decide | omega) (by decide)
        have q1439 : h1345 ((h 61 1) + 8) (1 + 4 * u1427) = h1317 ((h 61 1) + 8) (1 + 4 * u1427) := jK u1427 f1347 (rg_T8_1_4_10 t1328) (by first | decide | omega) (by first | decide | omega) (by decide)
        have q1440 : h1317 ((h 61 1) + 8) (1 + 4 * u1427) = h ((h 61 1) + 8) (1 + 4 * u1427) := jK u1427 f1318 (rg_T8_1_4_10 t1328) (by first | decide | omega) (by first | decide | omega) (by decide)
        have m1441 : Ot (h 61 1) h h1317 := Ot.fr Ot.refl f1318 (by decide)
        have m1442 : Ot (h 61 1) h h1345 := Ot.fr m1441 f1347 (by decide)
        have m1443 : Ot (h 61 1) h h1368 := Ot.fr m1442 f1370 (by decide)
        have m1444 : Ot (h 61 1) h h1430 := by rw [← e1432]; exact Ot.up (o := 8) m1443 t1328 (by decide) rfl
        refine x_retI (np := 81) (x := 0) (by decide +kernel) (by decide) (Or.inr ⟨by decide +kernel, by first | decide | omega, by first | decide | omega⟩) ⟨_, rfl, (by decide), ?_⟩
        exact ⟨j1431, f1433, (by first | decide | omega), (Bq.fin m1322 c1352 (by first | decide | omega) (by first | decide | omega) rfl (by first | decide | omega) w1434 rfl (by first | decide | omega) (show h1345 1 2 = h1430 1 2 by first | decide | omega)), (fun b u e1 e2 => by rw [← e1, show u = u1427 by first | decide | omega]; exact (((q1437.trans q1438).trans q1439).trans q1440)), m1444⟩
      have q1357 : ¬ (v1341 ≠ 2147483647) := q1357
      have b1445 := c1351 (by first | decide | omega)
      refine x_const (np := 37) (x := 9223372039002259456) (a := 2147483648) (by decide +kernel) (by decide) (by decide) ?_
      obtain ⟨u1446, q1447⟩ : ∃ z, a1 = 2147483648 + z := ⟨a1 - 2147483648, by first | decide | omega⟩
      have q1448 : h1345 ((h 61 1) + 8) (1 + 4 * u1446) = h1317 ((h 61 1) + 8) (1 + 4 * u1446) := jK u1446 f1347 (rg_T8_1_4_10 t1328) (by first | decide | omega) (by first | decide | omega) (by decide)
      have q1449 : h1317 ((h 61 1) + 8) (1 + 4 * u1446) = h ((h 61 1) + 8) (1 + 4 * u1446) := jK u1446 f1318 (rg_T8_1_4_10 t1328) (by first | decide | omega) (by first | decide | omega) (by decide)
      have m1450 : Ot (h 61 1) h h1317 := Ot.fr Ot.refl f1318 (by decide)
      have m1451 : Ot (h 61 1) h h1345 := Ot.fr m1450 f1347 (by decide)
      refine x_retI (np := 38) (x := 0) (by decide +kernel) (by decide) (Or.inr ⟨by decide +kernel, by first | decide | omega, by first | decide | omega⟩) ⟨_, rfl, (by decide), ?_⟩
      exact ⟨j1346, f1353, (by first | decide | omega), (Bq.no m1322 c1352 (by first | decide | omega) (by first | decide | omega) rfl (by first | decide | omega) (by first | decide | omega)), (fun b u e1 e2 => by rw [← e1, show u = u1446 by first | decide | omega]; exact (q1448.trans q1449)), m1451⟩
  have b1452 := jB (e := 2) 0 hJ rg_1_2_0_1 (by first | decide | omega) (by first | decide | omega)
  exact p1320 _ 2147483648 2147483648 147573952589676412928 h (Nat.lt_succ_self _) (by first | decide | omega) (by first | decide | omega) (by first | decide | omega) hJ (Fr.refl _ _) (Bq.zero rfl)
set_option maxHeartbeats 0 in
/-- LentNames$Tape.takesNumber(II)I -/
theorem c79_1 {sc : Nat × Nat} {d a1 a2 : Nat} {h : xh} {tB : Nat → Nat} {tN : Nat} (hJ : J h) (ba1 : 2147483648 ≤ a1 ∧ a1 ≤ 2147483659) (ba2 : 2147483659 ≤ a2 ∧ a2 ≤ 2147483659) (hT : Tp tB tN h) : X sc 79 (d + 1) (xI fun r h' => J h' ∧ Fr 33 h h' ∧ (2147483647 ≤ r ∧ r ≤ 2147483659) ∧ (r ≤ a2) ∧ (2147483648 ≤ r → h 1 2 + 1 ≤ h' 1 2) ∧ (r = 2147483647 → h' 1 2 = h 1 2) ∧ Nr tB tN a1 a2 (h 1 2) r (h' 1 2)) 0 0 0 [x_r 1, iv_c a1, iv_c a2, 147573952589676412928, 147573952589676412928] [] h := by
  have la1 : a1 < 4294967296 := by first | decide | omega
  have la2 : a2 < 4294967296 := by first | decide | omega
  have hF := Fr.refl 33 h
  refine x_const (np := 1) (x := 9223372039002259456) (a := 2147483648) (by decide +kernel) (by decide) (by decide) ?_
  refine x_istore (np := 2) (x := 3) (lo' := [x_r 1, iv_c a1, iv_c a2, iv_c 2147483648, 147573952589676412928]) (by decide +kernel) (by decide) (Nat.le_of_ble_eq_true rfl) rfl ?_
  refine x_const (np := 3) (x := 9223372039002259456) (a := 2147483648) (by decide +kernel) (by decide) (by decide) ?_
  refine x_istore (np := 5) (x := 4) (lo' := [x_r 1, iv_c a1, iv_c a2, iv_c 2147483648, iv_c 2147483648]) (by decide +kernel) (by decide) (Nat.le_of_ble_eq_true rfl) rfl ?_
  refine x_iload (np := 7) (x := 4) (by decide +kernel) rfl (by decide) ?_
  refine x_const (np := 8) (x := 9223372051887161347) (a := 2147483651) (by decide +kernel) (by decide) (by decide) ?_
  refine x_icmp (k := 4) (tg := 54) (np := 11) (by decide +kernel) (by decide) (by decide) (by decide) (fun q1 => ?_) (fun q2 => ?_)
  · have q1 : 2147483651 < 2147483648 := q1
    exfalso; omega
  have q2 : ¬ (2147483651 < 2147483648) := q2
  refine x_aload (np := 12) (x := 0) (by decide +kernel) rfl (x_nc_le (by decide)) ?_
  refine x_aload (np := 13) (x := 0) (by decide +kernel) rfl (x_nc_le (by decide)) ?_
  have b3 := jB (e := 2) 0 hJ rg_1_2_0_1 (by first | decide | omega) (by first | decide | omega)
  refine x_getC (np := 16) (x := 450) (f := 2) (q := (h 1 2)) (by decide +kernel) (by decide) (by decide +kernel) rfl (fun l4 => ?_)
  refine x_iload (np := 18) (x := 4) (by decide +kernel) rfl (by decide) ?_
  refine x_iadd (np := 19) (x := 0) (v := (h 1 2)) (by decide +kernel) l4 (by decide) (by first | decide | omega) (by first | decide | omega) ?_
  refine x_nI (t := 6) (mj := 81) (n := 2) (rc := 8) (ml := 2) (nr := 0) (np := 22) (as := [x_r 1, iv_c (h 1 2)]) (rest := []) (lo1 := [x_r 1, iv_c (h 1 2)]) (by decide +kernel) (by decide) (by decide +kernel) (x_rb_of (by decide +kernel)) rfl rfl (x_wr (by decide) (x_wi l4 x_wn)) x_wn (by decide) rfl ?_
  refine x_iload (np := 1) (x := 1) (by decide +kernel) rfl l4 ?_
  refine x_aload (np := 2) (x := 0) (by decide +kernel) rfl (x_nc_le (by decide)) ?_
  have b5 := jB (e := 1) 0 hJ rg_1_1_0_1 (by first | decide | omega) (by first | decide | omega)
  refine x_getC (np := 5) (x := 449) (f := 1) (q := (h 1 1)) (by decide +kernel) (by decide) (by decide +kernel) rfl (fun l6 => ?_)
  refine x_icmp (k := 3) (tg := 17) (np := 8) (by decide +kernel) (by decide) l4 l6 (fun q7 => ?_) (fun q8 => ?_)
  · have q7 : (h 1 1) ≤ (h 1 2) := q7
    refine x_const (np := 18) (x := 9223372034707292159) (a := 2147483647) (by decide +kernel) (by decide) (by decide) ?_
    refine x_retI (np := 19) (x := 0) (by decide +kernel) (by decide) (Or.inl (by decide +kernel)) ⟨_, rfl, (by decide), ?_⟩
    refine x_nI (t := 0) (mj := 82) (n := 1) (rc := 0) (ml := 1) (nr := 0) (np := 25) (as := [iv_c 2147483647]) (rest := []) (lo1 := [iv_c 2147483647]) (by decide +kernel) (by decide) (by decide +kernel) (Or.inl rfl) rfl rfl (x_wi (by decide) x_wn) x_wn (by decide) rfl ?_
    refine x_iload (np := 1) (x := 0) (by decide +kernel) rfl (by decide) ?_
    refine x_const (np := 3) (x := 9223372245160689712) (a := 2147483696) (by decide +kernel) (by decide) (by decide) ?_
    refine x_icmp (k := 2) (tg := 16) (np := 6) (by decide +kernel) (by decide) (by decide) (by decide) (fun q9 => ?_) (fun q10 => ?_)
    · have q9 : 2147483647 < 2147483696 := q9
      refine x_const (np := 17) (x := 9223372039002259456) (a := 2147483648) (by decide +kernel) (by decide) (by decide) ?_
      refine x_retI (np := 18) (x := 0) (by decide +kernel) (by decide) (Or.inr ⟨by decide +kernel, by first | decide | omega, by first | decide | omega⟩) ⟨_, rfl, (by decide), ?_⟩
      refine x_ifz (k := 0) (tg := 54) (np := 28) (by decide +kernel) (by decide) (by decide) (fun q11 => ?_) (fun q12 => ?_)
      · have q11 : 2147483648 = 2147483648 := q11
        refine x_iload (np := 56) (x := 4) (by decide +kernel) rfl (by decide) ?_
        refine x_ifz (k := 0) (tg := 75) (np := 59) (by decide +kernel) (by decide) (by decide) (fun q13 => ?_) (fun q14 => ?_)
        · have q13 : 2147483648 = 2147483648 := q13
          refine x_const (np := 76) (x := 9223372034707292159) (a := 2147483647) (by decide +kernel) (by decide) (by decide) ?_
          have z15 := hT.1
          have z16 := hT.1
          have g17 : ¬ Dg tB tN (h 1 2 + 0) := fun z => by have z1 := z.1; have z2 := z.2.1; have z3 := z.2.2; omega
          refine x_retI (np := 77) (x := 0) (by decide +kernel) (by decide) (Or.inl (by decide +kernel)) ⟨_, rfl, (by decide), ?_⟩
          exact ⟨hJ, hF, (by first | decide | omega), (by first | decide | omega), (fun z => by first | decide | omega), (fun z => by first | decide | omega), (Nr.nob (by first | decide | omega) (Nb.mk0 g17))⟩
        have q14 : ¬ (2147483648 = 2147483648) := q14
        exfalso; omega
      have q12 : ¬ (2147483648 = 2147483648) := q12
      exfalso; omega
    have q10 : ¬ (2147483647 < 2147483696) := q10
    exfalso; omega
  have q8 : ¬ ((h 1 1) ≤ (h 1 2)) := q8
  refine x_aload (np := 9) (x := 0) (by decide +kernel) rfl (x_nc_le (by decide)) ?_
  have q18 : h 1 0 = 2 := by have z := jB (e := 0) 0 hJ rg_1_0_0_1 (by decide) (by decide); omega
  refine x_getR (np := 12) (x := 448) (f := 0) (q := 2) (by decide +kernel) (by decide) (by decide +kernel) q18 ?_
  refine x_iload (np := 13) (x := 1) (by decide +kernel) rfl l4 ?_
  obtain ⟨u19, q20⟩ : ∃ z, (h 1 2) = 2147483648 + z := ⟨(h 1 2) - 2147483648, by first | decide | omega⟩
  refine x_aldC (np := 14) (x := 0) (n := 400) (i := u19) (q := (h 2 u19)) (by decide +kernel) (by decide +kernel) (by first | decide | omega) (by first | decide | omega) (by decide) rfl (fun l21 => ?_)
  refine x_goto (np := 17) (x := 18) (by decide +kernel) ?_
  refine x_retI (np := 19) (x := 0) (by decide +kernel) l21 (Or.inl (by decide +kernel)) ⟨_, rfl, l21, ?_⟩
  refine x_nI (t := 0) (mj := 82) (n := 1) (rc := 0) (ml := 1) (nr := 0) (np := 25) (as := [iv_c (h 2 u19)]) (rest := []) (lo1 := [iv_c (h 2 u19)]) (by decide +kernel) (by decide) (by decide +kernel) (Or.inl rfl) rfl rfl (x_wi l21 x_wn) x_wn (by decide) rfl ?_
  refine x_iload (np := 1) (x := 0) (by decide +kernel) rfl l21 ?_
  refine x_const (np := 3) (x := 9223372245160689712) (a := 2147483696) (by decide +kernel) (by decide) (by decide) ?_
  refine x_icmp (k := 2) (tg := 16) (np := 6) (by decide +kernel) (by decide) l21 (by decide) (fun q22 => ?_) (fun q23 => ?_)
  · have q22 : (h 2 u19) < 2147483696 := q22
    refine x_const (np := 17) (x := 9223372039002259456) (a := 2147483648) (by decide +kernel) (by decide) (by decide) ?_
    refine x_retI (np := 18) (x := 0) (by decide +kernel) (by decide) (Or.inr ⟨by decide +kernel, by first | decide | omega, by first | decide | omega⟩) ⟨_, rfl, (by decide), ?_⟩
    refine x_ifz (k := 0) (tg := 54) (np := 28) (by decide +kernel) (by decide) (by decide) (fun q24 => ?_) (fun q25 => ?_)
    · have q24 : 2147483648 = 2147483648 := q24
      refine x_iload (np := 56) (x := 4) (by decide +kernel) rfl (by decide) ?_
      refine x_ifz (k := 0) (tg := 75) (np := 59) (by decide +kernel) (by decide) (by decide) (fun q26 => ?_) (fun q27 => ?_)
      · have q26 : 2147483648 = 2147483648 := q26
        refine x_const (np := 76) (x := 9223372034707292159) (a := 2147483647) (by decide +kernel) (by decide) (by decide) ?_
        have z28 := hT.1
        have z29 := hT.1
        have z30 := Tp.at (p := (h 1 2 + 0)) (u := u19) hT (by first | decide | omega) (by first | decide | omega)
        have g31 : ¬ Dg tB tN (h 1 2 + 0) := fun z => by have z1 := z.1; have z2 := z.2.1; have z3 := z.2.2; omega
        refine x_retI (np := 77) (x := 0) (by decide +kernel) (by decide) (Or.inl (by decide +kernel)) ⟨_, rfl, (by decide), ?_⟩
        exact ⟨hJ, hF, (by first | decide | omega), (by first | decide | omega), (fun z => by first | decide | omega), (fun z => by first | decide | omega), (Nr.nob (by first | decide | omega) (Nb.mk0 g31))⟩
      have q27 : ¬ (2147483648 = 2147483648) := q27
      exfalso; omega
    have q25 : ¬ (2147483648 = 2147483648) := q25
    exfalso; omega
  have q23 : ¬ ((h 2 u19) < 2147483696) := q23
  refine x_iload (np := 7) (x := 0) (by decide +kernel) rfl l21 ?_
  refine x_const (np := 9) (x := 9223372283815395385) (a := 2147483705) (by decide +kernel) (by decide) (by decide) ?_
  refine x_icmp (k := 4) (tg := 16) (np := 12) (by decide +kernel) (by decide) l21 (by decide) (fun q32 => ?_) (fun q33 => ?_)
  · have q32 : 2147483705 < (h 2 u19) := q32
    refine x_const (np := 17) (x := 9223372039002259456) (a := 2147483648) (by decide +kernel) (by decide) (by decide) ?_
    refine x_retI (np := 18) (x := 0) (by decide +kernel) (by decide) (Or.inr ⟨by decide +kernel, by first | decide | omega, by first | decide | omega⟩) ⟨_, rfl, (by decide), ?_⟩
    refine x_ifz (k := 0) (tg := 54) (np := 28) (by decide +kernel) (by decide) (by decide) (fun q34 => ?_) (fun q35 => ?_)
    · have q34 : 2147483648 = 2147483648 := q34
      refine x_iload (np := 56) (x := 4) (by decide +kernel) rfl (by decide) ?_
      refine x_ifz (k := 0) (tg := 75) (np := 59) (by decide +kernel) (by decide) (by decide) (fun q36 => ?_) (fun q37 => ?_)
      · have q36 : 2147483648 = 2147483648 := q36
        refine x_const (np := 76) (x := 9223372034707292159) (a := 2147483647) (by decide +kernel) (by decide) (by decide) ?_
        have z38 := hT.1
        have z39 := hT.1
        have z40 := Tp.at (p := (h 1 2 + 0)) (u := u19) hT (by first | decide | omega) (by first | decide | omega)
        have g41 : ¬ Dg tB tN (h 1 2 + 0) := fun z => by have z1 := z.1; have z2 := z.2.1; have z3 := z.2.2; omega
        refine x_retI (np := 77) (x := 0) (by decide +kernel) (by decide) (Or.inl (by decide +kernel)) ⟨_, rfl, (by decide), ?_⟩
        exact ⟨hJ, hF, (by first | decide | omega), (by first | decide | omega), (fun z => by first | decide | omega), (fun z => by first | decide | omega), (Nr.nob (by first | decide | omega) (Nb.mk0 g41))⟩
      have q37 : ¬ (2147483648 = 2147483648) := q37
      exfalso; omega
    have q35 : ¬ (2147483648 = 2147483648) := q35
    exfalso; omega
  have q33 : ¬ (2147483705 < (h 2 u19)) := q33
  refine x_const (np := 13) (x := 9223372043297226753) (a := 2147483649) (by decide +kernel) (by decide) (by decide) ?_
  refine x_goto (np := 16) (x := 17) (by decide +kernel) ?_
  refine x_retI (np := 18) (x := 0) (by decide +kernel) (by decide) (Or.inr ⟨by decide +kernel, by first | decide | omega, by first | decide | omega⟩) ⟨_, rfl, (by decide), ?_⟩
  refine x_ifz (k := 0) (tg := 54) (np := 28) (by decide +kernel) (by decide) (by decide) (fun q42 => ?_) (fun q43 => ?_)
  · have q42 : 2147483649 = 2147483648 := q42
    exfalso; omega
  have q43 : ¬ (2147483649 = 2147483648) := q43
  refine x_iload (np := 29) (x := 3) (by decide +kernel) rfl (by decide) ?_
  refine x_const (np := 31) (x := 9223372081951932426) (a := 2147483658) (by decide +kernel) (by decide) (by decide) ?_
  refine x_imul (np := 32) (x := 0) (i := 0) (j := 10) (v := 2147483648) (by decide +kernel) (by first | decide | omega) (by first | decide | omega) (by first | decide | omega) (by first | decide | omega) (by decide) (by decide) ?_
  refine x_aload (np := 33) (x := 0) (by decide +kernel) rfl (x_nc_le (by decide)) ?_
  refine x_aload (np := 34) (x := 0) (by decide +kernel) rfl (x_nc_le (by decide)) ?_
  refine x_getC (np := 37) (x := 450) (f := 2) (q := (h 1 2)) (by decide +kernel) (by decide) (by decide +kernel) rfl (fun l45 => ?_)
  refine x_iload (np := 39) (x := 4) (by decide +kernel) rfl (by decide) ?_
  refine x_iadd (np := 40) (x := 0) (v := (h 1 2)) (by decide +kernel) l4 (by decide) (by first | decide | omega) (by first | decide | omega) ?_
  refine x_nI (t := 6) (mj := 81) (n := 2) (rc := 8) (ml := 2) (nr := 1) (np := 43) (as := [x_r 1, iv_c (h 1 2)]) (rest := [iv_c 2147483648]) (lo1 := [x_r 1, iv_c (h 1 2)]) (by decide +kernel) (by decide) (by decide +kernel) (x_rb_of (by decide +kernel)) rfl rfl (x_wr (by decide) (x_wi l4 x_wn)) (x_wi (by decide) x_wn) (by decide) rfl ?_
  refine x_iload (np := 1) (x := 1) (by decide +kernel) rfl l4 ?_
  refine x_aload (np := 2) (x := 0) (by decide +kernel) rfl (x_nc_le (by decide)) ?_
  refine x_getC (np := 5) (x := 449) (f := 1) (q := (h 1 1)) (by decide +kernel) (by decide) (by decide +kernel) rfl (fun l46 => ?_)
  refine x_icmp (k := 3) (tg := 17) (np := 8) (by decide +kernel) (by decide) l4 l6 (fun q47 => ?_) (fun q48 => ?_)
  · have q47 : (h 1 1) ≤ (h 1 2) := q47
    exfalso; omega
  have q48 : ¬ ((h 1 1) ≤ (h 1 2)) := q48
  refine x_aload (np := 9) (x := 0) (by decide +kernel) rfl (x_nc_le (by decide)) ?_
  have q49 : h 1 0 = 2 := by have z := jB (e := 0) 0 hJ rg_1_0_0_1 (by decide) (by decide); omega
  refine x_getR (np := 12) (x := 448) (f := 0) (q := 2) (by decide +kernel) (by decide) (by decide +kernel) q49 ?_
  refine x_iload (np := 13) (x := 1) (by decide +kernel) rfl l4 ?_
  refine x_aldC (np := 14) (x := 0) (n := 400) (i := u19) (q := (h 2 u19)) (by decide +kernel) (by decide +kernel) (by first | decide | omega) (by first | decide | omega) (by decide) rfl (fun l50 => ?_)
  refine x_goto (np := 17) (x := 18) (by decide +kernel) ?_
  refine x_retI (np := 19) (x := 0) (by decide +kernel) l21 (Or.inl (by decide +kernel)) ⟨_, rfl, l21, ?_⟩
  refine x_iadd (np := 44) (x := 0) (v := (h 2 u19)) (by decide +kernel) (by decide) l21 (by first | decide | omega) (by first | decide | omega) ?_
  refine x_const (np := 46) (x := 9223372245160689712) (a := 2147483696) (by decide +kernel) (by decide) (by decide) ?_
  obtain ⟨v51, q52⟩ : ∃ z, z + 2147483696 = (h 2 u19) + 2147483648 := ⟨(h 2 u19) + 2147483648 - 2147483696, by first | decide | omega⟩
  refine x_isub (np := 47) (x := 0) (v := v51) (by decide +kernel) l21 (by decide) (by first | decide | omega) (by first | decide | omega) ?_
  refine x_istore (np := 48) (x := 3) (lo' := [x_r 1, iv_c a1, iv_c a2, iv_c v51, iv_c 2147483648]) (by decide +kernel) (by first | decide | omega) (Nat.le_of_ble_eq_true rfl) rfl ?_
  refine x_iinc (np := 51) (i := 4) (j := 2147483649) (v := 2147483649) (lo' := [x_r 1, iv_c a1, iv_c a2, iv_c v51, iv_c 2147483649]) (by decide +kernel) (by decide) (by decide) rfl (by decide) (by first | decide | omega) (by first | decide | omega) rfl ?_
  refine x_goto (np := 54) (x := 5) (by decide +kernel) ?_
  refine x_iload (np := 7) (x := 4) (by decide +kernel) rfl (by decide) ?_
  refine x_const (np := 8) (x := 9223372051887161347) (a := 2147483651) (by decide +kernel) (by decide) (by decide) ?_
  refine x_icmp (k := 4) (tg := 54) (np := 11) (by decide +kernel) (by decide) (by decide) (by decide) (fun q53 => ?_) (fun q54 => ?_)
  · have q53 : 2147483651 < 2147483649 := q53
    exfalso; omega
  have q54 : ¬ (2147483651 < 2147483649) := q54
  refine x_aload (np := 12) (x := 0) (by decide +kernel) rfl (x_nc_le (by decide)) ?_
  refine x_aload (np := 13) (x := 0) (by decide +kernel) rfl (x_nc_le (by decide)) ?_
  refine x_getC (np := 16) (x := 450) (f := 2) (q := (h 1 2)) (by decide +kernel) (by decide) (by decide +kernel) rfl (fun l55 => ?_)
  refine x_iload (np := 18) (x := 4) (by decide +kernel) rfl (by decide) ?_
  refine x_iadd (np := 19) (x := 0) (v := (1 + (h 1 2))) (by decide +kernel) l4 (by decide) (by first | decide | omega) (by first | decide | omega) ?_
  refine x_nI (t := 6) (mj := 81) (n := 2) (rc := 8) (ml := 2) (nr := 0) (np := 22) (as := [x_r 1, iv_c (1 + (h 1 2))]) (rest := []) (lo1 := [x_r 1, iv_c (1 + (h 1 2))]) (by decide +kernel) (by decide) (by decide +kernel) (x_rb_of (by decide +kernel)) rfl rfl (x_wr (by decide) (x_wi (by first | decide | omega) x_wn)) x_wn (by decide) rfl ?_
  refine x_iload (np := 1) (x := 1) (by decide +kernel) rfl (by first | decide | omega) ?_
  refine x_aload (np := 2) (x := 0) (by decide +kernel) rfl (x_nc_le (by decide)) ?_
  refine x_getC (np := 5) (x := 449) (f := 1) (q := (h 1 1)) (by decide +kernel) (by decide) (by decide +kernel) rfl (fun l56 => ?_)
  refine x_icmp (k := 3) (tg := 17) (np := 8) (by decide +kernel) (by decide) (by first | decide | omega) l6 (fun q57 => ?_) (fun q58 => ?_)
  · have q57 : (h 1 1) ≤ (1 + (h 1 2)) := q57
    refine x_const (np := 18) (x := 9223372034707292159) (a := 2147483647) (by decide +kernel) (by decide) (by decide) ?_
    refine x_retI (np := 19) (x := 0) (by decide +kernel) (by decide) (Or.inl (by decide +kernel)) ⟨_, rfl, (by decide), ?_⟩
    refine x_nI (t := 0) (mj := 82) (n := 1) (rc := 0) (ml := 1) (nr := 0) (np := 25) (as := [iv_c 2147483647]) (rest := []) (lo1 := [iv_c 2147483647]) (by decide +kernel) (by decide) (by decide +kernel) (Or.inl rfl) rfl rfl (x_wi (by decide) x_wn) x_wn (by decide) rfl ?_
    refine x_iload (np := 1) (x := 0) (by decide +kernel) rfl (by decide) ?_
    refine x_const (np := 3) (x := 9223372245160689712) (a := 2147483696) (by decide +kernel) (by decide) (by decide) ?_
    refine x_icmp (k := 2) (tg := 16) (np := 6) (by decide +kernel) (by decide) (by decide) (by decide) (fun q59 => ?_) (fun q60 => ?_)
    · have q59 : 2147483647 < 2147483696 := q59
      refine x_const (np := 17) (x := 9223372039002259456) (a := 2147483648) (by decide +kernel) (by decide) (by decide) ?_
      refine x_retI (np := 18) (x := 0) (by decide +kernel) (by decide) (Or.inr ⟨by decide +kernel, by first | decide | omega, by first | decide | omega⟩) ⟨_, rfl, (by decide), ?_⟩
      refine x_ifz (k := 0) (tg := 54) (np := 28) (by decide +kernel) (by decide) (by decide) (fun q61 => ?_) (fun q62 => ?_)
      · have q61 : 2147483648 = 2147483648 := q61
        refine x_iload (np := 56) (x := 4) (by decide +kernel) rfl (by decide) ?_
        refine x_ifz (k := 0) (tg := 75) (np := 59) (by decide +kernel) (by decide) (by decide) (fun q63 => ?_) (fun q64 => ?_)
        · have q63 : 2147483649 = 2147483648 := q63
          exfalso; omega
        have q64 : ¬ (2147483649 = 2147483648) := q64
        refine x_iload (np := 61) (x := 4) (by decide +kernel) rfl (by decide) ?_
        refine x_const (np := 62) (x := 9223372051887161347) (a := 2147483651) (by decide +kernel) (by decide) (by decide) ?_
        refine x_icmp (k := 4) (tg := 75) (np := 65) (by decide +kernel) (by decide) (by decide) (by decide) (fun q65 => ?_) (fun q66 => ?_)
        · have q65 : 2147483651 < 2147483649 := q65
          exfalso; omega
        have q66 : ¬ (2147483651 < 2147483649) := q66
        refine x_iload (np := 66) (x := 3) (by decide +kernel) rfl (by first | decide | omega) ?_
        refine x_iload (np := 67) (x := 1) (by decide +kernel) rfl la1 ?_
        refine x_icmp (k := 2) (tg := 75) (np := 70) (by decide +kernel) (by decide) (by first | decide | omega) la1 (fun q67 => ?_) (fun q68 => ?_)
        · have q67 : v51 < a1 := q67
          refine x_const (np := 76) (x := 9223372034707292159) (a := 2147483647) (by decide +kernel) (by decide) (by decide) ?_
          have z69 := hT.1
          have z70 := Tp.at (p := (h 1 2 + 0)) (u := u19) hT (by first | decide | omega) (by first | decide | omega)
          have g71 : Dg tB tN (h 1 2 + 0) := ⟨by first | decide | omega, by first | decide | omega, by first | decide | omega⟩
          have z72 := hT.1
          have g73 : ¬ Dg tB tN (h 1 2 + 1) := fun z => by have z1 := z.1; have z2 := z.2.1; have z3 := z.2.2; omega
          have z74 := nv1 (B := tB) (p := h 1 2)
          refine x_retI (np := 77) (x := 0) (by decide +kernel) (by decide) (Or.inl (by decide +kernel)) ⟨_, rfl, (by decide), ?_⟩
          exact ⟨hJ, hF, (by first | decide | omega), (by first | decide | omega), (fun z => by first | decide | omega), (fun z => by first | decide | omega), (Nr.nor (by first | decide | omega) (Nu.mk1 g71 g73) (by first | decide | omega))⟩
        have q68 : ¬ (v51 < a1) := q68
        refine x_iload (np := 71) (x := 3) (by decide +kernel) rfl (by first | decide | omega) ?_
        refine x_iload (np := 72) (x := 2) (by decide +kernel) rfl la2 ?_
        refine x_icmp (k := 5) (tg := 77) (np := 75) (by decide +kernel) (by decide) (by first | decide | omega) la2 (fun q75 => ?_) (fun q76 => ?_)
        · have q75 : v51 ≤ a2 := q75
          refine x_aload (np := 78) (x := 0) (by decide +kernel) rfl (x_nc_le (by decide)) ?_
          refine x_aload (np := 79) (x := 0) (by decide +kernel) rfl (x_nc_le (by decide)) ?_
          refine x_getC (np := 82) (x := 450) (f := 2) (q := (h 1 2)) (by decide +kernel) (by decide) (by decide +kernel) rfl (fun l77 => ?_)
          refine x_iload (np := 84) (x := 4) (by decide +kernel) rfl (by decide) ?_
          refine x_iadd (np := 85) (x := 0) (v := (1 + (h 1 2))) (by decide +kernel) l4 (by decide) (by first | decide | omega) (by first | decide | omega) ?_
          refine x_cV (t := 6) (mj := 80) (n := 2) (rc := 8) (ml := 2) (nr := 0) (np := 88) (as := [x_r 1, iv_c (1 + (h 1 2))]) (rest := []) (lo1 := [x_r 1, iv_c (1 + (h 1 2))]) (by decide +kernel) (by decide) (by decide +kernel) (x_rb_of (by decide +kernel)) rfl rfl (x_wr (by decide) (x_wi (by first | decide | omega) x_wn)) x_wn (by decide) rfl (c80_1 hJ  (by first | decide | omega) hT) (fun h81 q80 => ?_)
          obtain ⟨j82, f83, c86, c87⟩ := q80
          have f88 := Fr.trans hF f83 (by decide)
          have b89 := jB (e := 2) 0 j82 rg_1_2_0_1 (by first | decide | omega) (by first | decide | omega)
          refine x_iload (np := 89) (x := 3) (by decide +kernel) rfl (by first | decide | omega) ?_
          have z90 := hT.1
          have z91 := Tp.at (p := (h 1 2 + 0)) (u := u19) hT (by first | decide | omega) (by first | decide | omega)
          have g92 : Dg tB tN (h 1 2 + 0) := ⟨by first | decide | omega, by first | decide | omega, by first | decide | omega⟩
          have z93 := hT.1
          have g94 : ¬ Dg tB tN (h 1 2 + 1) := fun z => by have z1 := z.1; have z2 := z.2.1; have z3 := z.2.2; omega
          have z95 := nv1 (B := tB) (p := h 1 2)
          refine x_retI (np := 90) (x := 0) (by decide +kernel) (by first | decide | omega) (Or.inl (by decide +kernel)) ⟨_, rfl, (by first | decide | omega), ?_⟩
          exact ⟨j82, f88, (by first | decide | omega), (by first | decide | omega), (fun z => by first | decide | omega), (fun z => by first | decide | omega), (Nr.yes (Nu.mk1 g92 g94) (by first | decide | omega) (by first | decide | omega) (by first | decide | omega) c87 (by first | decide | omega))⟩
        have q76 : ¬ (v51 ≤ a2) := q76
        exfalso; omega
      have q62 : ¬ (2147483648 = 2147483648) := q62
      exfalso; omega
    have q60 : ¬ (2147483647 < 2147483696) := q60
    exfalso; omega
  have q58 : ¬ ((h 1 1) ≤ (1 + (h 1 2))) := q58
  refine x_aload (np := 9) (x := 0) (by decide +kernel) rfl (x_nc_le (by decide)) ?_
  have q96 : h 1 0 = 2 := by have z := jB (e := 0) 0 hJ rg_1_0_0_1 (by decide) (by decide); omega
  refine x_getR (np := 12) (x := 448) (f := 0) (q := 2) (by decide +kernel) (by decide) (by decide +kernel) q96 ?_
  refine x_iload (np := 13) (x := 1) (by decide +kernel) rfl (by first | decide | omega) ?_
  refine x_aldC (np := 14) (x := 0) (n := 400) (i := (1 + u19)) (q := (h 2 (1 + u19))) (by decide +kernel) (by decide +kernel) (by first | decide | omega) (by first | decide | omega) (by decide) rfl (fun l97 => ?_)
  refine x_goto (np := 17) (x := 18) (by decide +kernel) ?_
  refine x_retI (np := 19) (x := 0) (by decide +kernel) l97 (Or.inl (by decide +kernel)) ⟨_, rfl, l97, ?_⟩
  refine x_nI (t := 0) (mj := 82) (n := 1) (rc := 0) (ml := 1) (nr := 0) (np := 25) (as := [iv_c (h 2 (1 + u19))]) (rest := []) (lo1 := [iv_c (h 2 (1 + u19))]) (by decide +kernel) (by decide) (by decide +kernel) (Or.inl rfl) rfl rfl (x_wi l97 x_wn) x_wn (by decide) rfl ?_
  refine x_iload (np := 1) (x := 0) (by decide +kernel) rfl l97 ?_
  refine x_const (np := 3) (x := 9223372245160689712) (a := 2147483696) (by decide +kernel) (by decide) (by decide) ?_
  refine x_icmp (k := 2) (tg := 16) (np := 6) (by decide +kernel) (by decide) l97 (by decide) (fun q98 => ?_) (fun q99 => ?_)
  · have q98 : (h 2 (1 + u19)) < 2147483696 := q98
    refine x_const (np := 17) (x := 9223372039002259456) (a := 2147483648) (by decide +kernel) (by decide) (by decide) ?_
    refine x_retI (np := 18) (x := 0) (by decide +kernel) (by decide) (Or.inr ⟨by decide +kernel, by first | decide | omega, by first | decide | omega⟩) ⟨_, rfl, (by decide), ?_⟩
    refine x_ifz (k := 0) (tg := 54) (np := 28) (by decide +kernel) (by decide) (by decide) (fun q100 => ?_) (fun q101 => ?_)
    · have q100 : 2147483648 = 2147483648 := q100
      refine x_iload (np := 56) (x := 4) (by decide +kernel) rfl (by decide) ?_
      refine x_ifz (k := 0) (tg := 75) (np := 59) (by decide +kernel) (by decide) (by decide) (fun q102 => ?_) (fun q103 => ?_)
      · have q102 : 2147483649 = 2147483648 := q102
        exfalso; omega
      have q103 : ¬ (2147483649 = 2147483648) := q103
      refine x_iload (np := 61) (x := 4) (by decide +kernel) rfl (by decide) ?_
      refine x_const (np := 62) (x := 9223372051887161347) (a := 2147483651) (by decide +kernel) (by decide) (by decide) ?_
      refine x_icmp (k := 4) (tg := 75) (np := 65) (by decide +kernel) (by decide) (by decide) (by decide) (fun q104 => ?_) (fun q105 => ?_)
      · have q104 : 2147483651 < 2147483649 := q104
        exfalso; omega
      have q105 : ¬ (2147483651 < 2147483649) := q105
      refine x_iload (np := 66) (x := 3) (by decide +kernel) rfl (by first | decide | omega) ?_
      refine x_iload (np := 67) (x := 1) (by decide +kernel) rfl la1 ?_
      refine x_icmp (k := 2) (tg := 75) (np := 70) (by decide +kernel) (by decide) (by first | decide | omega) la1 (fun q106 => ?_) (fun q107 => ?_)
      · have q106 : v51 < a1 := q106
        refine x_const (np := 76) (x := 9223372034707292159) (a := 2147483647) (by decide +kernel) (by decide) (by decide) ?_
        have z108 := hT.1
        have z109 := Tp.at (p := (h 1 2 + 0)) (u := u19) hT (by first | decide | omega) (by first | decide | omega)
        have g110 : Dg tB tN (h 1 2 + 0) := ⟨by first | decide | omega, by first | decide | omega, by first | decide | omega⟩
        have z111 := hT.1
        have z112 := Tp.at (p := (h 1 2 + 1)) (u := (1 + u19)) hT (by first | decide | omega) (by first | decide | omega)
        have g113 : ¬ Dg tB tN (h 1 2 + 1) := fun z => by have z1 := z.1; have z2 := z.2.1; have z3 := z.2.2; omega
        have z114 := nv1 (B := tB) (p := h 1 2)
        refine x_retI (np := 77) (x := 0) (by decide +kernel) (by decide) (Or.inl (by decide +kernel)) ⟨_, rfl, (by decide), ?_⟩
        exact ⟨hJ, hF, (by first | decide | omega), (by first | decide | omega), (fun z => by first | decide | omega), (fun z => by first | decide | omega), (Nr.nor (by first | decide | omega) (Nu.mk1 g110 g113) (by first | decide | omega))⟩
      have q107 : ¬ (v51 < a1) := q107
      refine x_iload (np := 71) (x := 3) (by decide +kernel) rfl (by first | decide | omega) ?_
      refine x_iload (np := 72) (x := 2) (by decide +kernel) rfl la2 ?_
      refine x_icmp (k := 5) (tg := 77) (np := 75) (by decide +kernel) (by decide) (by first | decide | omega) la2 (fun q115 => ?_) (fun q116 => ?_)
      · have q115 : v51 ≤ a2 := q115
        refine x_aload (np := 78) (x := 0) (by decide +kernel) rfl (x_nc_le (by decide)) ?_
        refine x_aload (np := 79) (x := 0) (by decide +kernel) rfl (x_nc_le (by decide)) ?_
        refine x_getC (np := 82) (x := 450) (f := 2) (q := (h 1 2)) (by decide +kernel) (by decide) (by decide +kernel) rfl (fun l117 => ?_)
        refine x_iload (np := 84) (x := 4) (by decide +kernel) rfl (by decide) ?_
        refine x_iadd (np := 85) (x := 0) (v := (1 + (h 1 2))) (by decide +kernel) l4 (by decide) (by first | decide | omega) (by first | decide | omega) ?_
        refine x_cV (t := 6) (mj := 80) (n := 2) (rc := 8) (ml := 2) (nr := 0) (np := 88) (as := [x_r 1, iv_c (1 + (h 1 2))]) (rest := []) (lo1 := [x_r 1, iv_c (1 + (h 1 2))]) (by decide +kernel) (by decide) (by decide +kernel) (x_rb_of (by decide +kernel)) rfl rfl (x_wr (by decide) (x_wi (by first | decide | omega) x_wn)) x_wn (by decide) rfl (c80_1 hJ  (by first | decide | omega) hT) (fun h121 q120 => ?_)
        obtain ⟨j122, f123, c126, c127⟩ := q120
        have f128 := Fr.trans hF f123 (by decide)
        have b129 := jB (e := 2) 0 j122 rg_1_2_0_1 (by first | decide | omega) (by first | decide | omega)
        refine x_iload (np := 89) (x := 3) (by decide +kernel) rfl (by first | decide | omega) ?_
        have z130 := hT.1
        have z131 := Tp.at (p := (h 1 2 + 0)) (u := u19) hT (by first | decide | omega) (by first | decide | omega)
        have g132 : Dg tB tN (h 1 2 + 0) := ⟨by first | decide | omega, by first | decide | omega, by first | decide | omega⟩
        have z133 := hT.1
        have z134 := Tp.at (p := (h 1 2 + 1)) (u := (1 + u19)) hT (by first | decide | omega) (by first | decide | omega)
        have g135 : ¬ Dg tB tN (h 1 2 + 1) := fun z => by have z1 := z.1; have z2 := z.2.1; have z3 := z.2.2; omega
        have z136 := nv1 (B := tB) (p := h 1 2)
        refine x_retI (np := 90) (x := 0) (by decide +kernel) (by first | decide | omega) (Or.inl (by decide +kernel)) ⟨_, rfl, (by first | decide | omega), ?_⟩
        exact ⟨j122, f128, (by first | decide | omega), (by first | decide | omega), (fun z => by first | decide | omega), (fun z => by first | decide | omega), (Nr.yes (Nu.mk1 g132 g135) (by first | decide | omega) (by first | decide | omega) (by first | decide | omega) c127 (by first | decide | omega))⟩
      have q116 : ¬ (v51 ≤ a2) := q116
      exfalso; omega
    have q101 : ¬ (2147483648 = 2147483648) := q101
    exfalso; omega
  have q99 : ¬ ((h 2 (1 + u19)) < 2147483696) := q99
  refine x_iload (np := 7) (x := 0) (by decide +kernel) rfl l97 ?_
  refine x_const (np := 9) (x := 9223372283815395385) (a := 2147483705) (by decide +kernel) (by decide) (by decide) ?_
  refine x_icmp (k := 4) (tg := 16) (np := 12) (by decide +kernel) (by decide) l97 (by decide) (fun q137 => ?_) (fun q138 => ?_)
  · have q137 : 2147483705 < (h 2 (1 + u19)) := q137
    refine x_const (np := 17) (x := 9223372039002259456) (a := 2147483648) (by decide +kernel) (by decide) (by decide) ?_
    refine x_retI (np := 18) (x := 0) (by decide +kernel) (by decide) (Or.inr ⟨by decide +kernel, by first | decide | omega, by first | decide | omega⟩) ⟨_, rfl, (by decide), ?_⟩
    refine x_ifz (k := 0) (tg := 54) (np := 28) (by decide +kernel) (by decide) (by decide) (fun q139 => ?_) (fun q140 => ?_)
    · have q139 : 2147483648 = 2147483648 := q139
      refine x_iload (np := 56) (x := 4) (by decide +kernel) rfl (by decide) ?_
      refine x_ifz (k := 0) (tg := 75) (np := 59) (by decide +kernel) (by decide) (by decide) (fun q141 => ?_) (fun q142 => ?_)
      · have q141 : 2147483649 = 2147483648 := q141
        exfalso; omega
      have q142 : ¬ (2147483649 = 2147483648) := q142
      refine x_iload (np := 61) (x := 4) (by decide +kernel) rfl (by decide) ?_
      refine x_const (np := 62) (x := 9223372051887161347) (a := 2147483651) (by decide +kernel) (by decide) (by decide) ?_
      refine x_icmp (k := 4) (tg := 75) (np := 65) (by decide +kernel) (by decide) (by decide) (by decide) (fun q143 => ?_) (fun q144 => ?_)
      · have q143 : 2147483651 < 2147483649 := q143
        exfalso; omega
      have q144 : ¬ (2147483651 < 2147483649) := q144
      refine x_iload (np := 66) (x := 3) (by decide +kernel) rfl (by first | decide | omega) ?_
      refine x_iload (np := 67) (x := 1) (by decide +kernel) rfl la1 ?_
      refine x_icmp (k := 2) (tg := 75) (np := 70) (by decide +kernel) (by decide) (by first | decide | omega) la1 (fun q145 => ?_) (fun q146 => ?_)
      · have q145 : v51 < a1 := q145
        refine x_const (np := 76) (x := 9223372034707292159) (a := 2147483647) (by decide +kernel) (by decide) (by decide) ?_
        have z147 := hT.1
        have z148 := Tp.at (p := (h 1 2 + 0)) (u := u19) hT (by first | decide | omega) (by first | decide | omega)
        have g149 : Dg tB tN (h 1 2 + 0) := ⟨by first | decide | omega, by first | decide | omega, by first | decide | omega⟩
        have z150 := hT.1
        have z151 := Tp.at (p := (h 1 2 + 1)) (u := (1 + u19)) hT (by first | decide | omega) (by first | decide | omega)
        have g152 : ¬ Dg tB tN (h 1 2 + 1) := fun z => by have z1 := z.1; have z2 := z.2.1; have z3 := z.2.2; omega
        have z153 := nv1 (B := tB) (p := h 1 2)
        refine x_retI (np := 77) (x := 0) (by decide +kernel) (by decide) (Or.inl (by decide +kernel)) ⟨_, rfl, (by decide), ?_⟩
        exact ⟨hJ, hF, (by first | decide | omega), (by first | decide | omega), (fun z => by first | decide | omega), (fun z => by first | decide | omega), (Nr.nor (by first | decide | omega) (Nu.mk1 g149 g152) (by first | decide | omega))⟩
      have q146 : ¬ (v51 < a1) := q146
      refine x_iload (np := 71) (x := 3) (by decide +kernel) rfl (by first | decide | omega) ?_
      refine x_iload (np := 72) (x := 2) (by decide +kernel) rfl la2 ?_
      refine x_icmp (k := 5) (tg := 77) (np := 75) (by decide +kernel) (by decide) (by first | decide | omega) la2 (fun q154 => ?_) (fun q155 => ?_)
      · have q154 : v51 ≤ a2 := q154
        refine x_aload (np := 78) (x := 0) (by decide +kernel) rfl (x_nc_le (by decide)) ?_
        refine x_aload (np := 79) (x := 0) (by decide +kernel) rfl (x_nc_le (by decide)) ?_
        refine x_getC (np := 82) (x := 450) (f := 2) (q := (h 1 2)) (by decide +kernel) (by decide) (by decide +kernel) rfl (fun l156 => ?_)
        refine x_iload (np := 84) (x := 4) (by decide +kernel) rfl (by decide) ?_
        refine x_iadd (np := 85) (x := 0) (v := (1 + (h 1 2))) (by decide +kernel) l4 (by decide) (by first | decide | omega) (by first | decide | omega) ?_
        refine x_cV (t := 6) (mj := 80) (n := 2) (rc := 8) (ml := 2) (nr := 0) (np := 88) (as := [x_r 1, iv_c (1 + (h 1 2))]) (rest := []) (lo1 := [x_r 1, iv_c (1 + (h 1 2))]) (by decide +kernel) (by decide) (by decide +kernel) (x_rb_of (by decide +kernel)) rfl rfl (x_wr (by decide) (x_wi (by first | decide | omega) x_wn)) x_wn (by decide) rfl (c80_1 hJ  (by first | decide | omega) hT) (fun h160 q159 => ?_)
        obtain ⟨j161, f162, c165, c166⟩ := q159
        have f167 := Fr.trans hF f162 (by decide)
        have b168 := jB (e := 2) 0 j161 rg_1_2_0_1 (by first | decide | omega) (by first | decide | omega)
        refine x_iload (np := 89) (x := 3) (by decide +kernel) rfl (by first | decide | omega) ?_
        have z169 := hT.1
        have z170 := Tp.at (p := (h 1 2 + 0)) (u := u19) hT (by first | decide | omega) (by first | decide | omega)
        have g171 : Dg tB tN (h 1 2 + 0) := ⟨by first | decide | omega, by first | decide | omega, by first | decide | omega⟩
        have z172 := hT.1
        have z173 := Tp.at (p := (h 1 2 + 1)) (u := (1 + u19)) hT (by first | decide | omega) (by first | decide | omega)
        have g174 : ¬ Dg tB tN (h 1 2 + 1) := fun z => by have z1 := z.1; have z2 := z.2.1; have z3 := z.2.2; omega
        have z175 := nv1 (B := tB) (p := h 1 2)
        refine x_retI (np := 90) (x := 0) (by decide +kernel) (by first | decide | omega) (Or.inl (by decide +kernel)) ⟨_, rfl, (by first | decide | omega), ?_⟩
        exact ⟨j161, f167, (by first | decide | omega), (by first | decide | omega), (fun z => by first | decide | omega), (fun z => by first | decide | omega), (Nr.yes (Nu.mk1 g171 g174) (by first | decide | omega) (by first | decide | omega) (by first | decide | omega) c166 (by first | decide | omega))⟩
      have q155 : ¬ (v51 ≤ a2) := q155
      exfalso; omega
    have q140 : ¬ (2147483648 = 2147483648) := q140
    exfalso; omega
  have q138 : ¬ (2147483705 < (h 2 (1 + u19))) := q138
  refine x_const (np := 13) (x := 9223372043297226753) (a := 2147483649) (by decide +kernel) (by decide) (by decide) ?_
  refine x_goto (np := 16) (x := 17) (by decide +kernel) ?_
  refine x_retI (np := 18) (x := 0) (by decide +kernel) (by decide) (Or.inr ⟨by decide +kernel, by first | decide | omega, by first | decide | omega⟩) ⟨_, rfl, (by decide), ?_⟩
  refine x_ifz (k := 0) (tg := 54) (np := 28) (by decide +kernel) (by decide) (by decide) (fun q176 => ?_) (fun q177 => ?_)
  · have q176 : 2147483649 = 2147483648 := q176
    exfalso; omega
  have q177 : ¬ (2147483649 = 2147483648) := q177
  refine x_iload (np := 29) (x := 3) (by decide +kernel) rfl (by first | decide | omega) ?_
  refine x_const (np := 31) (x := 9223372081951932426) (a := 2147483658) (by decide +kernel) (by decide) (by decide) ?_
  obtain ⟨u178, q179⟩ : ∃ z, v51 = 2147483648 + z := ⟨v51 - 2147483648, by first | decide | omega⟩
  refine x_imul (np := 32) (x := 0) (i := u178) (j := 10) (v := (2147483648 + 10 * u178)) (by decide +kernel) (by first | decide | omega) (by first | decide | omega) (by first | decide | omega) (by first | decide | omega) (by first | decide | omega) (by decide) ?_
  refine x_aload (np := 33) (x := 0) (by decide +kernel) rfl (x_nc_le (by decide)) ?_
  refine x_aload (np := 34) (x := 0) (by decide +kernel) rfl (x_nc_le (by decide)) ?_
  refine x_getC (np := 37) (x := 450) (f := 2) (q := (h 1 2)) (by decide +kernel) (by decide) (by decide +kernel) rfl (fun l181 => ?_)
  refine x_iload (np := 39) (x := 4) (by decide +kernel) rfl (by decide) ?_
  refine x_iadd (np := 40) (x := 0) (v := (1 + (h 1 2))) (by decide +kernel) l4 (by decide) (by first | decide | omega) (by first | decide | omega) ?_
  refine x_nI (t := 6) (mj := 81) (n := 2) (rc := 8) (ml := 2) (nr := 1) (np := 43) (as := [x_r 1, iv_c (1 + (h 1 2))]) (rest := [iv_c (2147483648 + 10 * u178)]) (lo1 := [x_r 1, iv_c (1 + (h 1 2))]) (by decide +kernel) (by decide) (by decide +kernel) (x_rb_of (by decide +kernel)) rfl rfl (x_wr (by decide) (x_wi (by first | decide | omega) x_wn)) (x_wi (by first | decide | omega) x_wn) (by decide) rfl ?_
  refine x_iload (np := 1) (x := 1) (by decide +kernel) rfl (by first | decide | omega) ?_
  refine x_aload (np := 2) (x := 0) (by decide +kernel) rfl (x_nc_le (by decide)) ?_
  refine x_getC (np := 5) (x := 449) (f := 1) (q := (h 1 1)) (by decide +kernel) (by decide) (by decide +kernel) rfl (fun l182 => ?_)
  refine x_icmp (k := 3) (tg := 17) (np := 8) (by decide +kernel) (by decide) (by first | decide | omega) l6 (fun q183 => ?_) (fun q184 => ?_)
  · have q183 : (h 1 1) ≤ (1 + (h 1 2)) := q183
    exfalso; omega
  have q184 : ¬ ((h 1 1) ≤ (1 + (h 1 2))) := q184
  refine x_aload (np := 9) (x := 0) (by decide +kernel) rfl (x_nc_le (by decide)) ?_
  have q185 : h 1 0 = 2 := by have z := jB (e := 0) 0 hJ rg_1_0_0_1 (by decide) (by decide); omega
  refine x_getR (np := 12) (x := 448) (f := 0) (q := 2) (by decide +kernel) (by decide) (by decide +kernel) q185 ?_
  refine x_iload (np := 13) (x := 1) (by decide +kernel) rfl (by first | decide | omega) ?_
  refine x_aldC (np := 14) (x := 0) (n := 400) (i := (1 + u19)) (q := (h 2 (1 + u19))) (by decide +kernel) (by decide +kernel) (by first | decide | omega) (by first | decide | omega) (by decide) rfl (fun l186 => ?_)
  refine x_goto (np := 17) (x := 18) (by decide +kernel) ?_
  refine x_retI (np := 19) (x := 0) (by decide +kernel) l97 (Or.inl (by decide +kernel)) ⟨_, rfl, l97, ?_⟩
  refine x_iadd (np := 44) (x := 0) (v := (10 * u178 + (h 2 (1 + u19)))) (by decide +kernel) (by first | decide | omega) l97 (by first | decide | omega) (by first | decide | omega) ?_
  refine x_const (np := 46) (x := 9223372245160689712) (a := 2147483696) (by decide +kernel) (by decide) (by decide) ?_
  obtain ⟨v187, q188⟩ : ∃ z, z + 2147483696 = (10 * u178 + (h 2 (1 + u19))) + 2147483648 := ⟨(10 * u178 + (h 2 (1 + u19))) + 2147483648 - 2147483696, by first | decide | omega⟩
  refine x_isub (np := 47) (x := 0) (v := v187) (by decide +kernel) (by first | decide | omega) (by decide) (by first | decide | omega) (by first | decide | omega) ?_
  refine x_istore (np := 48) (x := 3) (lo' := [x_r 1, iv_c a1, iv_c a2, iv_c v187, iv_c 2147483649]) (by decide +kernel) (by first | decide | omega) (Nat.le_of_ble_eq_true rfl) rfl ?_
  refine x_iinc (np := 51) (i := 4) (j := 2147483649) (v := 2147483650) (lo' := [x_r 1, iv_c a1, iv_c a2, iv_c v187, iv_c 2147483650]) (by decide +kernel) (by decide) (by decide) rfl (by decide) (by first | decide | omega) (by first | decide | omega) rfl ?_
  refine x_goto (np := 54) (x := 5) (by decide +kernel) ?_
  refine x_iload (np := 7) (x := 4) (by decide +kernel) rfl (by decide) ?_
  refine x_const (np := 8) (x := 9223372051887161347) (a := 2147483651) (by decide +kernel) (by decide) (by decide) ?_
  refine x_icmp (k := 4) (tg := 54) (np := 11) (by decide +kernel) (by decide) (by decide) (by decide) (fun q189 => ?_) (fun q190 => ?_)
  · have q189 : 2147483651 < 2147483650 := q189
    exfalso; omega
  have q190 : ¬ (2147483651 < 2147483650) := q190
  refine x_aload (np := 12) (x := 0) (by decide +kernel) rfl (x_nc_le (by decide)) ?_
  refine x_aload (np := 13) (x := 0) (by decide +kernel) rfl (x_nc_le (by decide)) ?_
  refine x_getC (np := 16) (x := 450) (f := 2) (q := (h 1 2)) (by decide +kernel) (by decide) (by decide +kernel) rfl (fun l191 => ?_)
  refine x_iload (np := 18) (x := 4) (by decide +kernel) rfl (by decide) ?_
  refine x_iadd (np := 19) (x := 0) (v := (2 + (h 1 2))) (by decide +kernel) l4 (by decide) (by first | decide | omega) (by first | decide | omega) ?_
  refine x_nI (t := 6) (mj := 81) (n := 2) (rc := 8) (ml := 2) (nr := 0) (np := 22) (as := [x_r 1, iv_c (2 + (h 1 2))]) (rest := []) (lo1 := [x_r 1, iv_c (2 + (h 1 2))]) (by decide +kernel) (by decide) (by decide +kernel) (x_rb_of (by decide +kernel)) rfl rfl (x_wr (by decide) (x_wi (by first | decide | omega) x_wn)) x_wn (by decide) rfl ?_
  refine x_iload (np := 1) (x := 1) (by decide +kernel) rfl (by first | decide | omega) ?_
  refine x_aload (np := 2) (x := 0) (by decide +kernel) rfl (x_nc_le (by decide)) ?_
  refine x_getC (np := 5) (x := 449) (f := 1) (q := (h 1 1)) (by decide +kernel) (by decide) (by decide +kernel) rfl (fun l192 => ?_)
  refine x_icmp (k := 3) (tg := 17) (np := 8) (by decide +kernel) (by decide) (by first | decide | omega) l6 (fun q193 => ?_) (fun q194 => ?_)
  · have q193 : (h 1 1) ≤ (2 + (h 1 2)) := q193
    refine x_const (np := 18) (x := 9223372034707292159) (a := 2147483647) (by decide +kernel) (by decide) (by decide) ?_
    refine x_retI (np := 19) (x := 0) (by decide +kernel) (by decide) (Or.inl (by decide +kernel)) ⟨_, rfl, (by decide), ?_⟩
    refine x_nI (t := 0) (mj := 82) (n := 1) (rc := 0) (ml := 1) (nr := 0) (np := 25) (as := [iv_c 2147483647]) (rest := []) (lo1 := [iv_c 2147483647]) (by decide +kernel) (by decide) (by decide +kernel) (Or.inl rfl) rfl rfl (x_wi (by decide) x_wn) x_wn (by decide) rfl ?_
    refine x_iload (np := 1) (x := 0) (by decide +kernel) rfl (by decide) ?_
    refine x_const (np := 3) (x := 9223372245160689712) (a := 2147483696) (by decide +kernel) (by decide) (by decide) ?_
    refine x_icmp (k := 2) (tg := 16) (np := 6) (by decide +kernel) (by decide) (by decide) (by decide) (fun q195 => ?_) (fun q196 => ?_)
    · have q195 : 2147483647 < 2147483696 := q195
      refine x_const (np := 17) (x := 9223372039002259456) (a := 2147483648) (by decide +kernel) (by decide) (by decide) ?_
      refine x_retI (np := 18) (x := 0) (by decide +kernel) (by decide) (Or.inr ⟨by decide +kernel, by first | decide | omega, by first | decide | omega⟩) ⟨_, rfl, (by decide), ?_⟩
      refine x_ifz (k := 0) (tg := 54) (np := 28) (by decide +kernel) (by decide) (by decide) (fun q197 => ?_) (fun q198 => ?_)
      · have q197 : 2147483648 = 2147483648 := q197
        refine x_iload (np := 56) (x := 4) (by decide +kernel) rfl (by decide) ?_
        refine x_ifz (k := 0) (tg := 75) (np := 59) (by decide +kernel) (by decide) (by decide) (fun q199 => ?_) (fun q200 => ?_)
        · have q199 : 2147483650 = 2147483648 := q199
          exfalso; omega
        have q200 : ¬ (2147483650 = 2147483648) := q200
        refine x_iload (np := 61) (x := 4) (by decide +kernel) rfl (by decide) ?_
        refine x_const (np := 62) (x := 9223372051887161347) (a := 2147483651) (by decide +kernel) (by decide) (by decide) ?_
        refine x_icmp (k := 4) (tg := 75) (np := 65) (by decide +kernel) (by decide) (by decide) (by decide) (fun q201 => ?_) (fun q202 => ?_)
        · have q201 : 2147483651 < 2147483650 := q201
          exfalso; omega
        have q202 : ¬ (2147483651 < 2147483650) := q202
        refine x_iload (np := 66) (x := 3) (by decide +kernel) rfl (by first | decide | omega) ?_
        refine x_iload (np := 67) (x := 1) (by decide +kernel) rfl la1 ?_
        refine x_icmp (k := 2) (tg := 75) (np := 70) (by decide +kernel) (by decide) (by first | decide | omega) la1 (fun q203 => ?_) (fun q204 => ?_)
        · have q203 : v187 < a1 := q203
          refine x_const (np := 76) (x := 9223372034707292159) (a := 2147483647) (by decide +kernel) (by decide) (by decide) ?_
          have z205 := hT.1
          have z206 := Tp.at (p := (h 1 2 + 0)) (u := u19) hT (by first | decide | omega) (by first | decide | omega)
          have g207 : Dg tB tN (h 1 2 + 0) := ⟨by first | decide | omega, by first | decide | omega, by first | decide | omega⟩
          have z208 := Tp.at (p := (h 1 2 + 1)) (u := (1 + u19)) hT (by first | decide | omega) (by first | decide | omega)
          have g209 : Dg tB tN (h 1 2 + 1) := ⟨by first | decide | omega, by first | decide | omega, by first | decide | omega⟩
          have z210 := hT.1
          have g211 : ¬ Dg tB tN (h 1 2 + 2) := fun z => by have z1 := z.1; have z2 := z.2.1; have z3 := z.2.2; omega
          have z212 := nv2 (B := tB) (p := h 1 2)
          refine x_retI (np := 77) (x := 0) (by decide +kernel) (by decide) (Or.inl (by decide +kernel)) ⟨_, rfl, (by decide), ?_⟩
          exact ⟨hJ, hF, (by first | decide | omega), (by first | decide | omega), (fun z => by first | decide | omega), (fun z => by first | decide | omega), (Nr.nor (by first | decide | omega) (Nu.mk2 g207 g209 g211) (by first | decide | omega))⟩
        have q204 : ¬ (v187 < a1) := q204
        refine x_iload (np := 71) (x := 3) (by decide +kernel) rfl (by first | decide | omega) ?_
        refine x_iload (np := 72) (x := 2) (by decide +kernel) rfl la2 ?_
        refine x_icmp (k := 5) (tg := 77) (np := 75) (by decide +kernel) (by decide) (by first | decide | omega) la2 (fun q213 => ?_) (fun q214 => ?_)
        · have q213 : v187 ≤ a2 := q213
          refine x_aload (np := 78) (x := 0) (by decide +kernel) rfl (x_nc_le (by decide)) ?_
          refine x_aload (np := 79) (x := 0) (by decide +kernel) rfl (x_nc_le (by decide)) ?_
          refine x_getC (np := 82) (x := 450) (f := 2) (q := (h 1 2)) (by decide +kernel) (by decide) (by decide +kernel) rfl (fun l215 => ?_)
          refine x_iload (np := 84) (x := 4) (by decide +kernel) rfl (by decide) ?_
          refine x_iadd (np := 85) (x := 0) (v := (2 + (h 1 2))) (by decide +kernel) l4 (by decide) (by first | decide | omega) (by first | decide | omega) ?_
          refine x_cV (t := 6) (mj := 80) (n := 2) (rc := 8) (ml := 2) (nr := 0) (np := 88) (as := [x_r 1, iv_c (2 + (h 1 2))]) (rest := []) (lo1 := [x_r 1, iv_c (2 + (h 1 2))]) (by decide +kernel) (by decide) (by decide +kernel) (x_rb_of (by decide +kernel)) rfl rfl (x_wr (by decide) (x_wi (by first | decide | omega) x_wn)) x_wn (by decide) rfl (c80_1 hJ  (by first | decide | omega) hT) (fun h219 q218 => ?_)
          obtain ⟨j220, f221, c224, c225⟩ := q218
          have f226 := Fr.trans hF f221 (by decide)
          have b227 := jB (e := 2) 0 j220 rg_1_2_0_1 (by first | decide | omega) (by first | decide | omega)
          refine x_iload (np := 89) (x := 3) (by decide +kernel) rfl (by first | decide | omega) ?_
          have z228 := hT.1
          have z229 := Tp.at (p := (h 1 2 + 0)) (u := u19) hT (by first | decide | omega) (by first | decide | omega)
          have g230 : Dg tB tN (h 1 2 + 0) := ⟨by first | decide | omega, by first | decide | omega, by first | decide | omega⟩
          have z231 := Tp.at (p := (h 1 2 + 1)) (u := (1 + u19)) hT (by first | decide | omega) (by first | decide | omega)
          have g232 : Dg tB tN (h 1 2 + 1) := ⟨by first | decide | omega, by first | decide | omega, by first | decide | omega⟩
          have z233 := hT.1
          have g234 : ¬ Dg tB tN (h 1 2 + 2) := fun z => by have z1 := z.1; have z2 := z.2.1; have z3 := z.2.2; omega
          have z235 := nv2 (B := tB) (p := h 1 2)
          refine x_retI (np := 90) (x := 0) (by decide +kernel) (by first | decide | omega) (Or.inl (by decide +kernel)) ⟨_, rfl, (by first | decide | omega), ?_⟩
          exact ⟨j220, f226, (by first | decide | omega), (by first | decide | omega), (fun z => by first | decide | omega), (fun z => by first | decide | omega), (Nr.yes (Nu.mk2 g230 g232 g234) (by first | decide | omega) (by first | decide | omega) (by first | decide | omega) c225 (by first | decide | omega))⟩
        have q214 : ¬ (v187 ≤ a2) := q214
        refine x_const (np := 76) (x := 9223372034707292159) (a := 2147483647) (by decide +kernel) (by decide) (by decide) ?_
        have z236 := hT.1
        have z237 := Tp.at (p := (h 1 2 + 0)) (u := u19) hT (by first | decide | omega) (by first | decide | omega)
        have g238 : Dg tB tN (h 1 2 + 0) := ⟨by first | decide | omega, by first | decide | omega, by first | decide | omega⟩
        have z239 := Tp.at (p := (h 1 2 + 1)) (u := (1 + u19)) hT (by first | decide | omega) (by first | decide | omega)
        have g240 : Dg tB tN (h 1 2 + 1) := ⟨by first | decide | omega, by first | decide | omega, by first | decide | omega⟩
        have z241 := hT.1
        have g242 : ¬ Dg tB tN (h 1 2 + 2) := fun z => by have z1 := z.1; have z2 := z.2.1; have z3 := z.2.2; omega
        have z243 := nv2 (B := tB) (p := h 1 2)
        refine x_retI (np := 77) (x := 0) (by decide +kernel) (by decide) (Or.inl (by decide +kernel)) ⟨_, rfl, (by decide), ?_⟩
        exact ⟨hJ, hF, (by first | decide | omega), (by first | decide | omega), (fun z => by first | decide | omega), (fun z => by first | decide | omega), (Nr.nor (by first | decide | omega) (Nu.mk2 g238 g240 g242) (by first | decide | omega))⟩
      have q198 : ¬ (2147483648 = 2147483648) := q198
      exfalso; omega
    have q196 : ¬ (2147483647 < 2147483696) := q196
    exfalso; omega
  have q194 : ¬ ((h 1 1) ≤ (2 + (h 1 2))) := q194
  refine x_aload (np := 9) (x := 0) (by decide +kernel) rfl (x_nc_le (by decide)) ?_
  have q244 : h 1 0 = 2 := by have z := jB (e := 0) 0 hJ rg_1_0_0_1 (by decide) (by decide); omega
  refine x_getR (np := 12) (x := 448) (f := 0) (q := 2) (by decide +kernel) (by decide) (by decide +kernel) q244 ?_
  refine x_iload (np := 13) (x := 1) (by decide +kernel) rfl (by first | decide | omega) ?_
  refine x_aldC (np := 14) (x := 0) (n := 400) (i := (2 + u19)) (q := (h 2 (2 + u19))) (by decide +kernel) (by decide +kernel) (by first | decide | omega) (by first | decide | omega) (by decide) rfl (fun l245 => ?_)
  refine x_goto (np := 17) (x := 18) (by decide +kernel) ?_
  refine x_retI (np := 19) (x := 0) (by decide +kernel) l245 (Or.inl (by decide +kernel)) ⟨_, rfl, l245, ?_⟩
  refine x_nI (t := 0) (mj := 82) (n := 1) (rc := 0) (ml := 1) (nr := 0) (np := 25) (as := [iv_c (h 2 (2 + u19))]) (rest := []) (lo1 := [iv_c (h 2 (2 + u19))]) (by decide +kernel) (by decide) (by decide +kernel) (Or.inl rfl) rfl rfl (x_wi l245 x_wn) x_wn (by decide) rfl ?_
  refine x_iload (np := 1) (x := 0) (by decide +kernel) rfl l245 ?_
  refine x_const (np := 3) (x := 9223372245160689712) (a := 2147483696) (by decide +kernel) (by decide) (by decide) ?_
  refine x_icmp (k := 2) (tg := 16) (np := 6) (by decide +kernel) (by decide) l245 (by decide) (fun q246 => ?_) (fun q247 => ?_)
  · have q246 : (h 2 (2 + u19)) < 2147483696 := q246
    refine x_const (np := 17) (x := 9223372039002259456) (a := 2147483648) (by decide +kernel) (by decide) (by decide) ?_
    refine x_retI (np := 18) (x := 0) (by decide +kernel) (by decide) (Or.inr ⟨by decide +kernel, by first | decide | omega, by first | decide | omega⟩) ⟨_, rfl, (by decide), ?_⟩
    refine x_ifz (k := 0) (tg := 54) (np := 28) (by decide +kernel) (by decide) (by decide) (fun q248 => ?_) (fun q249 => ?_)
    · have q248 : 2147483648 = 2147483648 := q248
      refine x_iload (np := 56) (x := 4) (by decide +kernel) rfl (by decide) ?_
      refine x_ifz (k := 0) (tg := 75) (np := 59) (by decide +kernel) (by decide) (by decide) (fun q250 => ?_) (fun q251 => ?_)
      · have q250 : 2147483650 = 2147483648 := q250
        exfalso; omega
      have q251 : ¬ (2147483650 = 2147483648) := q251
      refine x_iload (np := 61) (x := 4) (by decide +kernel) rfl (by decide) ?_
      refine x_const (np := 62) (x := 9223372051887161347) (a := 2147483651) (by decide +kernel) (by decide) (by decide) ?_
      refine x_icmp (k := 4) (tg := 75) (np := 65) (by decide +kernel) (by decide) (by decide) (by decide) (fun q252 => ?_) (fun q253 => ?_)
      · have q252 : 2147483651 < 2147483650 := q252
        exfalso; omega
      have q253 : ¬ (2147483651 < 2147483650) := q253
      refine x_iload (np := 66) (x := 3) (by decide +kernel) rfl (by first | decide | omega) ?_
      refine x_iload (np := 67) (x := 1) (by decide +kernel) rfl la1 ?_
      refine x_icmp (k := 2) (tg := 75) (np := 70) (by decide +kernel) (by decide) (by first | decide | omega) la1 (fun q254 => ?_) (fun q255 => ?_)
      · have q254 : v187 < a1 := q254
        refine x_const (np := 76) (x := 9223372034707292159) (a := 2147483647) (by decide +kernel) (by decide) (by decide) ?_
        have z256 := hT.1
        have z257 := Tp.at (p := (h 1 2 + 0)) (u := u19) hT (by first | decide | omega) (by first | decide | omega)
        have g258 : Dg tB tN (h 1 2 + 0) := ⟨by first | decide | omega, by first | decide | omega, by first | decide | omega⟩
        have z259 := Tp.at (p := (h 1 2 + 1)) (u := (1 + u19)) hT (by first | decide | omega) (by first | decide | omega)
        have g260 : Dg tB tN (h 1 2 + 1) := ⟨by first | decide | omega, by first | decide | omega, by first | decide | omega⟩
        have z261 := hT.1
        have z262 := Tp.at (p := (h 1 2 + 2)) (u := (2 + u19)) hT (by first | decide | omega) (by first | decide | omega)
        have g263 : ¬ Dg tB tN (h 1 2 + 2) := fun z => by have z1 := z.1; have z2 := z.2.1; have z3 := z.2.2; omega
        have z264 := nv2 (B := tB) (p := h 1 2)
        refine x_retI (np := 77) (x := 0) (by decide +kernel) (by decide) (Or.inl (by decide +kernel)) ⟨_, rfl, (by decide), ?_⟩
        exact ⟨hJ, hF, (by first | decide | omega), (by first | decide | omega), (fun z => by first | decide | omega), (fun z => by first | decide | omega), (Nr.nor (by first | decide | omega) (Nu.mk2 g258 g260 g263) (by first | decide | omega))⟩
      have q255 : ¬ (v187 < a1) := q255
      refine x_iload (np := 71) (x := 3) (by decide +kernel) rfl (by first | decide | omega) ?_
      refine x_iload (np := 72) (x := 2) (by decide +kernel) rfl la2 ?_
      refine x_icmp (k := 5) (tg := 77) (np := 75) (by decide +kernel) (by decide) (by first | decide | omega) la2 (fun q265 => ?_) (fun q266 => ?_)
      · have q265 : v187 ≤ a2 := q265
        refine x_aload (np := 78) (x := 0) (by decide +kernel) rfl (x_nc_le (by decide)) ?_
        refine x_aload (np := 79) (x := 0) (by decide +kernel) rfl (x_nc_le (by decide)) ?_
        refine x_getC (np := 82) (x := 450) (f := 2) (q := (h 1 2)) (by decide +kernel) (by decide) (by decide +kernel) rfl (fun l267 => ?_)
        refine x_iload (np := 84) (x := 4) (by decide +kernel) rfl (by decide) ?_
        refine x_iadd (np := 85) (x := 0) (v := (2 + (h 1 2))) (by decide +kernel) l4 (by decide) (by first | decide | omega) (by first | decide | omega) ?_
        refine x_cV (t := 6) (mj := 80) (n := 2) (rc := 8) (ml := 2) (nr := 0) (np := 88) (as := [x_r 1, iv_c (2 + (h 1 2))]) (rest := []) (lo1 := [x_r 1, iv_c (2 + (h 1 2))]) (by decide +kernel) (by decide) (by decide +kernel) (x_rb_of (by decide +kernel)) rfl rfl (x_wr (by decide) (x_wi (by first | decide | omega) x_wn)) x_wn (by decide) rfl (c80_1 hJ  (by first | decide | omega) hT) (fun h271 q270 => ?_)
        obtain ⟨j272, f273, c276, c277⟩ := q270
        have f278 := Fr.trans hF f273 (by decide)
        have b279 := jB (e := 2) 0 j272 rg_1_2_0_1 (by first | decide | omega) (by first | decide | omega)
        refine x_iload (np := 89) (x := 3) (by decide +kernel) rfl (by first | decide | omega) ?_
        have z280 := hT.1
        have z281 := Tp.at (p := (h 1 2 + 0)) (u := u19) hT (by first | decide | omega) (by first | decide | omega)
        have g282 : Dg tB tN (h 1 2 + 0) := ⟨by first | decide | omega, by first | decide | omega, by first | decide | omega⟩
        have z283 := Tp.at (p := (h 1 2 + 1)) (u := (1 + u19)) hT (by first | decide | omega) (by first | decide | omega)
        have g284 : Dg tB tN (h 1 2 + 1) := ⟨by first | decide | omega, by first | decide | omega, by first | decide | omega⟩
        have z285 := hT.1
        have z286 := Tp.at (p := (h 1 2 + 2)) (u := (2 + u19)) hT (by first | decide | omega) (by first | decide | omega)
        have g287 : ¬ Dg tB tN (h 1 2 + 2) := fun z => by have z1 := z.1; have z2 := z.2.1; have z3 := z.2.2; omega
        have z288 := nv2 (B := tB) (p := h 1 2)
        refine x_retI (np := 90) (x := 0) (by decide +kernel) (by first | decide | omega) (Or.inl (by decide +kernel)) ⟨_, rfl, (by first | decide | omega), ?_⟩
        exact ⟨j272, f278, (by first | decide | omega), (by first | decide | omega), (fun z => by first | decide | omega), (fun z => by first | decide | omega), (Nr.yes (Nu.mk2 g282 g284 g287) (by first | decide | omega) (by first | decide | omega) (by first | decide | omega) c277 (by first | decide | omega))⟩
      have q266 : ¬ (v187 ≤ a2) := q266
      refine x_const (np := 76) (x := 9223372034707292159) (a := 2147483647) (by decide +kernel) (by decide) (by decide) ?_
      have z289 := hT.1
      have z290 := Tp.at (p := (h 1 2 + 0)) (u := u19) hT (by first | decide | omega) (by first | decide | omega)
      have g291 : Dg tB tN (h 1 2 + 0) := ⟨by first | decide | omega, by first | decide | omega, by first | decide | omega⟩
      have z292 := Tp.at (p := (h 1 2 + 1)) (u := (1 + u19)) hT (by first | decide | omega) (by first | decide | omega)
      have g293 : Dg tB tN (h 1 2 + 1) := ⟨by first | decide | omega, by first | decide | omega, by first | decide | omega⟩
      have z294 := hT.1
      have z295 := Tp.at (p := (h 1 2 + 2)) (u := (2 + u19)) hT (by first | decide | omega) (by first | decide | omega)
      have g296 : ¬ Dg tB tN (h 1 2 + 2) := fun z => by have z1 := z.1; have z2 := z.2.1; have z3 := z.2.2; omega
      have z297 := nv2 (B := tB) (p := h 1 2)
      refine x_retI (np := 77) (x := 0) (by decide +kernel) (by decide) (Or.inl (by decide +kernel)) ⟨_, rfl, (by decide), ?_⟩
      exact ⟨hJ, hF, (by first | decide | omega), (by first | decide | omega), (fun z => by first | decide | omega), (fun z => by first | decide | omega), (Nr.nor (by first | decide | omega) (Nu.mk2 g291 g293 g296) (by first | decide | omega))⟩
    have q249 : ¬ (2147483648 = 2147483648) := q249
    exfalso; omega
  have q247 : ¬ ((h 2 (2 + u19)) < 2147483696) := q247
  refine x_iload (np := 7) (x := 0) (by decide +kernel) rfl l245 ?_
  refine x_const (np := 9) (x := 9223372283815395385) (a := 2147483705) (by decide +kernel) (by decide) (by decide) ?_
  refine x_icmp (k := 4) (tg := 16) (np := 12) (by decide +kernel) (by decide) l245 (by decide) (fun q298 => ?_) (fun q299 => ?_)
  · have q298 : 2147483705 < (h 2 (2 + u19)) := q298
    refine x_const (np := 17) (x := 9223372039002259456) (a := 2147483648) (by decide +kernel) (by decide) (by decide) ?_
    refine x_retI (np := 18) (x := 0) (by decide +kernel) (by decide) (Or.inr ⟨by decide +kernel, by first | decide | omega, by first | decide | omega⟩) ⟨_, rfl, (by decide), ?_⟩
    refine x_ifz (k := 0) (tg := 54) (np := 28) (by decide +kernel) (by decide) (by decide) (fun q300 => ?_) (fun q301 => ?_)
    · have q300 : 2147483648 = 2147483648 := q300
      refine x_iload (np := 56) (x := 4) (by decide +kernel) rfl (by decide) ?_
      refine x_ifz (k := 0) (tg := 75) (np := 59) (by decide +kernel) (by decide) (by decide) (fun q302 => ?_) (fun q303 => ?_)
      · have q302 : 2147483650 = 2147483648 := q302
        exfalso; omega
      have q303 : ¬ (2147483650 = 2147483648) := q303
      refine x_iload (np := 61) (x := 4) (by decide +kernel) rfl (by decide) ?_
      refine x_const (np := 62) (x := 9223372051887161347) (a := 2147483651) (by decide +kernel) (by decide) (by decide) ?_
      refine x_icmp (k := 4) (tg := 75) (np := 65) (by decide +kernel) (by decide) (by decide) (by decide) (fun q304 => ?_) (fun q305 => ?_)
      · have q304 : 2147483651 < 2147483650 := q304
        exfalso; omega
      have q305 : ¬ (2147483651 < 2147483650) := q305
      refine x_iload (np := 66) (x := 3) (by decide +kernel) rfl (by first | decide | omega) ?_
      refine x_iload (np := 67) (x := 1) (by decide +kernel) rfl la1 ?_
      refine x_icmp (k := 2) (tg := 75) (np := 70) (by decide +kernel) (by decide) (by first | decide | omega) la1 (fun q306 => ?_) (fun q307 => ?_)
      · have q306 : v187 < a1 := q306
        refine x_const (np := 76) (x := 9223372034707292159) (a := 2147483647) (by decide +kernel) (by decide) (by decide) ?_
        have z308 := hT.1
        have z309 := Tp.at (p := (h 1 2 + 0)) (u := u19) hT (by first | decide | omega) (by first | decide | omega)
        have g310 : Dg tB tN (h 1 2 + 0) := ⟨by first | decide | omega, by first | decide | omega, by first | decide | omega⟩
        have z311 := Tp.at (p := (h 1 2 + 1)) (u := (1 + u19)) hT (by first | decide | omega) (by first | decide | omega)
        have g312 : Dg tB tN (h 1 2 + 1) := ⟨by first | decide | omega, by first | decide | omega, by first | decide | omega⟩
        have z313 := hT.1
        have z314 := Tp.at (p := (h 1 2 + 2)) (u := (2 + u19)) hT (by first | decide | omega) (by first | decide | omega)
        have g315 : ¬ Dg tB tN (h 1 2 + 2) := fun z => by have z1 := z.1; have z2 := z.2.1; have z3 := z.2.2; omega
        have z316 := nv2 (B := tB) (p := h 1 2)
        refine x_retI (np := 77) (x := 0) (by decide +kernel) (by decide) (Or.inl (by decide +kernel)) ⟨_, rfl, (by decide), ?_⟩
        exact ⟨hJ, hF, (by first | decide | omega), (by first | decide | omega), (fun z => by first | decide | omega), (fun z => by first | decide | omega), (Nr.nor (by first | decide | omega) (Nu.mk2 g310 g312 g315) (by first | decide | omega))⟩
      have q307 : ¬ (v187 < a1) := q307
      refine x_iload (np := 71) (x := 3) (by decide +kernel) rfl (by first | decide | omega) ?_
      refine x_iload (np := 72) (x := 2) (by decide +kernel) rfl la2 ?_
      refine x_icmp (k := 5) (tg := 77) (np := 75) (by decide +kernel) (by decide) (by first | decide | omega) la2 (fun q317 => ?_) (fun q318 => ?_)
      · have q317 : v187 ≤ a2 := q317
        refine x_aload (np := 78) (x := 0) (by decide +kernel) rfl (x_nc_le (by decide)) ?_
        refine x_aload (np := 79) (x := 0) (by decide +kernel) rfl (x_nc_le (by decide)) ?_
        refine x_getC (np := 82) (x := 450) (f := 2) (q := (h 1 2)) (by decide +kernel) (by decide) (by decide +kernel) rfl (fun l319 => ?_)
        refine x_iload (np := 84) (x := 4) (by decide +kernel) rfl (by decide) ?_
        refine x_iadd (np := 85) (x := 0) (v := (2 + (h 1 2))) (by decide +kernel) l4 (by decide) (by first | decide | omega) (by first | decide | omega) ?_
        refine x_cV (t := 6) (mj := 80) (n := 2) (rc := 8) (ml := 2) (nr := 0) (np := 88) (as := [x_r 1, iv_c (2 + (h 1 2))]) (rest := []) (lo1 := [x_r 1, iv_c (2 + (h 1 2))]) (by decide +kernel) (by decide) (by decide +kernel) (x_rb_of (by decide +kernel)) rfl rfl (x_wr (by decide) (x_wi (by first | decide | omega) x_wn)) x_wn (by decide) rfl (c80_1 hJ  (by first | decide | omega) hT) (fun h323 q322 => ?_)
        obtain ⟨j324, f325, c328, c329⟩ := q322
        have f330 := Fr.trans hF f325 (by decide)
        have b331 := jB (e := 2) 0 j324 rg_1_2_0_1 (by first | decide | omega) (by first | decide | omega)
        refine x_iload (np := 89) (x := 3) (by decide +kernel) rfl (by first | decide | omega) ?_
        have z332 := hT.1
        have z333 := Tp.at (p := (h 1 2 + 0)) (u := u19) hT (by first | decide | omega) (by first | decide | omega)
        have g334 : Dg tB tN (h 1 2 + 0) := ⟨by first | decide | omega, by first | decide | omega, by first | decide | omega⟩
        have z335 := Tp.at (p := (h 1 2 + 1)) (u := (1 + u19)) hT (by first | decide | omega) (by first | decide | omega)
        have g336 : Dg tB tN (h 1 2 + 1) := ⟨by first | decide | omega, by first | decide | omega, by first | decide | omega⟩
        have z337 := hT.1
        have z338 := Tp.at (p := (h 1 2 + 2)) (u := (2 + u19)) hT (by first | decide | omega) (by first | decide | omega)
        have g339 : ¬ Dg tB tN (h 1 2 + 2) := fun z => by have z1 := z.1; have z2 := z.2.1; have z3 := z.2.2; omega
        have z340 := nv2 (B := tB) (p := h 1 2)
        refine x_retI (np := 90) (x := 0) (by decide +kernel) (by first | decide | omega) (Or.inl (by decide +kernel)) ⟨_, rfl, (by first | decide | omega), ?_⟩
        exact ⟨j324, f330, (by first | decide | omega), (by first | decide | omega), (fun z => by first | decide | omega), (fun z => by first | decide | omega), (Nr.yes (Nu.mk2 g334 g336 g339) (by first | decide | omega) (by first | decide | omega) (by first | decide | omega) c329 (by first | decide | omega))⟩
      have q318 : ¬ (v187 ≤ a2) := q318
      refine x_const (np := 76) (x := 9223372034707292159) (a := 2147483647) (by decide +kernel) (by decide) (by decide) ?_
      have z341 := hT.1
      have z342 := Tp.at (p := (h 1 2 + 0)) (u := u19) hT (by first | decide | omega) (by first | decide | omega)
      have g343 : Dg tB tN (h 1 2 + 0) := ⟨by first | decide | omega, by first | decide | omega, by first | decide | omega⟩
      have z344 := Tp.at (p := (h 1 2 + 1)) (u := (1 + u19)) hT (by first | decide | omega) (by first | decide | omega)
      have g345 : Dg tB tN (h 1 2 + 1) := ⟨by first | decide | omega, by first | decide | omega, by first | decide | omega⟩
      have z346 := hT.1
      have z347 := Tp.at (p := (h 1 2 + 2)) (u := (2 + u19)) hT (by first | decide | omega) (by first | decide | omega)
      have g348 : ¬ Dg tB tN (h 1 2 + 2) := fun z => by have z1 := z.1; have z2 := z.2.1; have z3 := z.2.2; omega
      have z349 := nv2 (B := tB) (p := h 1 2)
      refine x_retI (np := 77) (x := 0) (by decide +kernel) (by decide) (Or.inl (by decide +kernel)) ⟨_, rfl, (by decide), ?_⟩
      exact ⟨hJ, hF, (by first | decide | omega), (by first | decide | omega), (fun z => by first | decide | omega), (fun z => by first | decide | omega), (Nr.nor (by first | decide | omega) (Nu.mk2 g343 g345 g348) (by first | decide | omega))⟩
    have q301 : ¬ (2147483648 = 2147483648) := q301
    exfalso; omega
  have q299 : ¬ (2147483705 < (h 2 (2 + u19))) := q299
  refine x_const (np := 13) (x := 9223372043297226753) (a := 2147483649) (by decide +kernel) (by decide) (by decide) ?_
  refine x_goto (np := 16) (x := 17) (by decide +kernel) ?_
  refine x_retI (np := 18) (x := 0) (by decide +kernel) (by decide) (Or.inr ⟨by decide +kernel, by first | decide | omega, by first | decide | omega⟩) ⟨_, rfl, (by decide), ?_⟩
  refine x_ifz (k := 0) (tg := 54) (np := 28) (by decide +kernel) (by decide) (by decide) (fun q350 => ?_) (fun q351 => ?_)
  · have q350 : 2147483649 = 2147483648 := q350
    exfalso; omega
  have q351 : ¬ (2147483649 = 2147483648) := q351
  refine x_iload (np := 29) (x := 3) (by decide +kernel) rfl (by first | decide | omega) ?_
  refine x_const (np := 31) (x := 9223372081951932426) (a := 2147483658) (by decide +kernel) (by decide) (by decide) ?_
  obtain ⟨u352, q353⟩ : ∃ z, v187 = 2147483648 + z := ⟨v187 - 2147483648, by first | decide | omega⟩
  refine x_imul (np := 32) (x := 0) (i := u352) (j := 10) (v := (2147483648 + 10 * u352)) (by decide +kernel) (by first | decide | omega) (by first | decide | omega) (by first | decide | omega) (by first | decide | omega) (by first | decide | omega) (by decide) ?_
  refine x_aload (np := 33) (x := 0) (by decide +kernel) rfl (x_nc_le (by decide)) ?_
  refine x_aload (np := 34) (x := 0) (by decide +kernel) rfl (x_nc_le (by decide)) ?_
  refine x_getC (np := 37) (x := 450) (f := 2) (q := (h 1 2)) (by decide +kernel) (by decide) (by decide +kernel) rfl (fun l355 => ?_)
  refine x_iload (np := 39) (x := 4) (by decide +kernel) rfl (by decide) ?_
  refine x_iadd (np := 40) (x := 0) (v := (2 + (h 1 2))) (by decide +kernel) l4 (by decide) (by first | decide | omega) (by first | decide | omega) ?_
  refine x_nI (t := 6) (mj := 81) (n := 2) (rc := 8) (ml := 2) (nr := 1) (np := 43) (as := [x_r 1, iv_c (2 + (h 1 2))]) (rest := [iv_c (2147483648 + 10 * u352)]) (lo1 := [x_r 1, iv_c (2 + (h 1 2))]) (by decide +kernel) (by decide) (by decide +kernel) (x_rb_of (by decide +kernel)) rfl rfl (x_wr (by decide) (x_wi (by first | decide | omega) x_wn)) (x_wi (by first | decide | omega) x_wn) (by decide) rfl ?_
  refine x_iload (np := 1) (x := 1) (by decide +kernel) rfl (by first | decide | omega) ?_
  refine x_aload (np := 2) (x := 0) (by decide +kernel) rfl (x_nc_le (by decide)) ?_
  refine x_getC (np := 5) (x := 449) (f := 1) (q := (h 1 1)) (by decide +kernel) (by decide) (by decide +kernel) rfl (fun l356 => ?_)
  refine x_icmp (k := 3) (tg := 17) (np := 8) (by decide +kernel) (by decide) (by first | decide | omega) l6 (fun q357 => ?_) (fun q358 => ?_)
  · have q357 : (h 1 1) ≤ (2 + (h 1 2)) := q357
    exfalso; omega
  have q358 : ¬ ((h 1 1) ≤ (2 + (h 1 2))) := q358
  refine x_aload (np := 9) (x := 0) (by decide +kernel) rfl (x_nc_le (by decide)) ?_
  have q359 : h 1 0 = 2 := by have z := jB (e := 0) 0 hJ rg_1_0_0_1 (by decide) (by decide); omega
  refine x_getR (np := 12) (x := 448) (f := 0) (q := 2) (by decide +kernel) (by decide) (by decide +kernel) q359 ?_
  refine x_iload (np := 13) (x := 1) (by decide +kernel) rfl (by first | decide | omega) ?_
  refine x_aldC (np := 14) (x := 0) (n := 400) (i := (2 + u19)) (q := (h 2 (2 + u19))) (by decide +kernel) (by decide +kernel) (by first | decide | omega) (by first | decide | omega) (by decide) rfl (fun l360 => ?_)
  refine x_goto (np := 17) (x := 18) (by decide +kernel) ?_
  refine x_retI (np := 19) (x := 0) (by decide +kernel) l245 (Or.inl (by decide +kernel)) ⟨_, rfl, l245, ?_⟩
  refine x_iadd (np := 44) (x := 0) (v := (10 * u352 + (h 2 (2 + u19)))) (by decide +kernel) (by first | decide | omega) l245 (by first | decide | omega) (by first | decide | omega) ?_
  refine x_const (np := 46) (x := 9223372245160689712) (a := 2147483696) (by decide +kernel) (by decide) (by decide) ?_
  obtain ⟨v361, q362⟩ : ∃ z, z + 2147483696 = (10 * u352 + (h 2 (2 + u19))) + 2147483648 := ⟨(10 * u352 + (h 2 (2 + u19))) + 2147483648 - 2147483696, by first | decide | omega⟩
  refine x_isub (np := 47) (x := 0) (v := v361) (by decide +kernel) (by first | decide | omega) (by decide) (by first | decide | omega) (by first | decide | omega) ?_
  refine x_istore (np := 48) (x := 3) (lo' := [x_r 1, iv_c a1, iv_c a2, iv_c v361, iv_c 2147483650]) (by decide +kernel) (by first | decide | omega) (Nat.le_of_ble_eq_true rfl) rfl ?_
  refine x_iinc (np := 51) (i := 4) (j := 2147483649) (v := 2147483651) (lo' := [x_r 1, iv_c a1, iv_c a2, iv_c v361, iv_c 2147483651]) (by decide +kernel) (by decide) (by decide) rfl (by decide) (by first | decide | omega) (by first | decide | omega) rfl ?_
  refine x_goto (np := 54) (x := 5) (by decide +kernel) ?_
  refine x_iload (np := 7) (x := 4) (by decide +kernel) rfl (by decide) ?_
  refine x_const (np := 8) (x := 9223372051887161347) (a := 2147483651) (by decide +kernel) (by decide) (by decide) ?_
  refine x_icmp (k := 4) (tg := 54) (np := 11) (by decide +kernel) (by decide) (by decide) (by decide) (fun q363 => ?_) (fun q364 => ?_)
  · have q363 : 2147483651 < 2147483651 := q363
    exfalso; omega
  have q364 : ¬ (2147483651 < 2147483651) := q364
  refine x_aload (np := 12) (x := 0) (by decide +kernel) rfl (x_nc_le (by decide)) ?_
  refine x_aload (np := 13) (x := 0) (by decide +kernel) rfl (x_nc_le (by decide)) ?_
  refine x_getC (np := 16) (x := 450) (f := 2) (q := (h 1 2)) (by decide +kernel) (by decide) (by decide +kernel) rfl (fun l365 => ?_)
  refine x_iload (np := 18) (x := 4) (by decide +kernel) rfl (by decide) ?_
  refine x_iadd (np := 19) (x := 0) (v := (3 + (h 1 2))) (by decide +kernel) l4 (by decide) (by first | decide | omega) (by first | decide | omega) ?_
  refine x_nI (t := 6) (mj := 81) (n := 2) (rc := 8) (ml := 2) (nr := 0) (np := 22) (as := [x_r 1, iv_c (3 + (h 1 2))]) (rest := []) (lo1 := [x_r 1, iv_c (3 + (h 1 2))]) (by decide +kernel) (by decide) (by decide +kernel) (x_rb_of (by decide +kernel)) rfl rfl (x_wr (by decide) (x_wi (by first | decide | omega) x_wn)) x_wn (by decide) rfl ?_
  refine x_iload (np := 1) (x := 1) (by decide +kernel) rfl (by first | decide | omega) ?_
  refine x_aload (np := 2) (x := 0) (by decide +kernel) rfl (x_nc_le (by decide)) ?_
  refine x_getC (np := 5) (x := 449) (f := 1) (q := (h 1 1)) (by decide +kernel) (by decide) (by decide +kernel) rfl (fun l366 => ?_)
  refine x_icmp (k := 3) (tg := 17) (np := 8) (by decide +kernel) (by decide) (by first | decide | omega) l6 (fun q367 => ?_) (fun q368 => ?_)
  · have q367 : (h 1 1) ≤ (3 + (h 1 2)) := q367
    refine x_const (np := 18) (x := 9223372034707292159) (a := 2147483647) (by decide +kernel) (by decide) (by decide) ?_
    refine x_retI (np := 19) (x := 0) (by decide +kernel) (by decide) (Or.inl (by decide +kernel)) ⟨_, rfl, (by decide), ?_⟩
    refine x_nI (t := 0) (mj := 82) (n := 1) (rc := 0) (ml := 1) (nr := 0) (np := 25) (as := [iv_c 2147483647]) (rest := []) (lo1 := [iv_c 2147483647]) (by decide +kernel) (by decide) (by decide +kernel) (Or.inl rfl) rfl rfl (x_wi (by decide) x_wn) x_wn (by decide) rfl ?_
    refine x_iload (np := 1) (x := 0) (by decide +kernel) rfl (by decide) ?_
    refine x_const (np := 3) (x := 9223372245160689712) (a := 2147483696) (by decide +kernel) (by decide) (by decide) ?_
    refine x_icmp (k := 2) (tg := 16) (np := 6) (by decide +kernel) (by decide) (by decide) (by decide) (fun q369 => ?_) (fun q370 => ?_)
    · have q369 : 2147483647 < 2147483696 := q369
      refine x_const (np := 17) (x := 9223372039002259456) (a := 2147483648) (by decide +kernel) (by decide) (by decide) ?_
      refine x_retI (np := 18) (x := 0) (by decide +kernel) (by decide) (Or.inr ⟨by decide +kernel, by first | decide | omega, by first | decide | omega⟩) ⟨_, rfl, (by decide), ?_⟩
      refine x_ifz (k := 0) (tg := 54) (np := 28) (by decide +kernel) (by decide) (by decide) (fun q371 => ?_) (fun q372 => ?_)
      · have q371 : 2147483648 = 2147483648 := q371
        refine x_iload (np := 56) (x := 4) (by decide +kernel) rfl (by decide) ?_
        refine x_ifz (k := 0) (tg := 75) (np := 59) (by decide +kernel) (by decide) (by decide) (fun q373 => ?_) (fun q374 => ?_)
        · have q373 : 2147483651 = 2147483648 := q373
          exfalso; omega
        have q374 : ¬ (2147483651 = 2147483648) := q374
        refine x_iload (np := 61) (x := 4) (by decide +kernel) rfl (by decide) ?_
        refine x_const (np := 62) (x := 9223372051887161347) (a := 2147483651) (by decide +kernel) (by decide) (by decide) ?_
        refine x_icmp (k := 4) (tg := 75) (np := 65) (by decide +kernel) (by decide) (by decide) (by decide) (fun q375 => ?_) (fun q376 => ?_)
        · have q375 : 2147483651 < 2147483651 := q375
          exfalso; omega
        have q376 : ¬ (2147483651 < 2147483651) := q376
        refine x_iload (np := 66) (x := 3) (by decide +kernel) rfl (by first | decide | omega) ?_
        refine x_iload (np := 67) (x := 1) (by decide +kernel) rfl la1 ?_
        refine x_icmp (k := 2) (tg := 75) (np := 70) (by decide +kernel) (by decide) (by first | decide | omega) la1 (fun q377 => ?_) (fun q378 => ?_)
        · have q377 : v361 < a1 := q377
          refine x_const (np := 76) (x := 9223372034707292159) (a := 2147483647) (by decide +kernel) (by decide) (by decide) ?_
          have z379 := hT.1
          have z380 := Tp.at (p := (h 1 2 + 0)) (u := u19) hT (by first | decide | omega) (by first | decide | omega)
          have g381 : Dg tB tN (h 1 2 + 0) := ⟨by first | decide | omega, by first | decide | omega, by first | decide | omega⟩
          have z382 := Tp.at (p := (h 1 2 + 1)) (u := (1 + u19)) hT (by first | decide | omega) (by first | decide | omega)
          have g383 : Dg tB tN (h 1 2 + 1) := ⟨by first | decide | omega, by first | decide | omega, by first | decide | omega⟩
          have z384 := Tp.at (p := (h 1 2 + 2)) (u := (2 + u19)) hT (by first | decide | omega) (by first | decide | omega)
          have g385 : Dg tB tN (h 1 2 + 2) := ⟨by first | decide | omega, by first | decide | omega, by first | decide | omega⟩
          have z386 := hT.1
          have g387 : ¬ Dg tB tN (h 1 2 + 3) := fun z => by have z1 := z.1; have z2 := z.2.1; have z3 := z.2.2; omega
          have z388 := nv3 (B := tB) (p := h 1 2)
          refine x_retI (np := 77) (x := 0) (by decide +kernel) (by decide) (Or.inl (by decide +kernel)) ⟨_, rfl, (by decide), ?_⟩
          exact ⟨hJ, hF, (by first | decide | omega), (by first | decide | omega), (fun z => by first | decide | omega), (fun z => by first | decide | omega), (Nr.nor (by first | decide | omega) (Nu.mk3 g381 g383 g385 g387) (by first | decide | omega))⟩
        have q378 : ¬ (v361 < a1) := q378
        refine x_iload (np := 71) (x := 3) (by decide +kernel) rfl (by first | decide | omega) ?_
        refine x_iload (np := 72) (x := 2) (by decide +kernel) rfl la2 ?_
        refine x_icmp (k := 5) (tg := 77) (np := 75) (by decide +kernel) (by decide) (by first | decide | omega) la2 (fun q389 => ?_) (fun q390 => ?_)
        · have q389 : v361 ≤ a2 := q389
          refine x_aload (np := 78) (x := 0) (by decide +kernel) rfl (x_nc_le (by decide)) ?_
          refine x_aload (np := 79) (x := 0) (by decide +kernel) rfl (x_nc_le (by decide)) ?_
          refine x_getC (np := 82) (x := 450) (f := 2) (q := (h 1 2)) (by decide +kernel) (by decide) (by decide +kernel) rfl (fun l391 => ?_)
          refine x_iload (np := 84) (x := 4) (by decide +kernel) rfl (by decide) ?_
          refine x_iadd (np := 85) (x := 0) (v := (3 + (h 1 2))) (by decide +kernel) l4 (by decide) (by first | decide | omega) (by first | decide | omega) ?_
          refine x_cV (t := 6) (mj := 80) (n := 2) (rc := 8) (ml := 2) (nr := 0) (np := 88) (as := [x_r 1, iv_c (3 + (h 1 2))]) (rest := []) (lo1 := [x_r 1, iv_c (3 + (h 1 2))]) (by decide +kernel) (by decide) (by decide +kernel) (x_rb_of (by decide +kernel)) rfl rfl (x_wr (by decide) (x_wi (by first | decide | omega) x_wn)) x_wn (by decide) rfl (c80_1 hJ  (by first | decide | omega) hT) (fun h395 q394 => ?_)
          obtain ⟨j396, f397, c400, c401⟩ := q394
          have f402 := Fr.trans hF f397 (by decide)
          have b403 := jB (e := 2) 0 j396 rg_1_2_0_1 (by first | decide | omega) (by first | decide | omega)
          refine x_iload (np := 89) (x := 3) (by decide +kernel) rfl (by first | decide | omega) ?_
          have z404 := hT.1
          have z405 := Tp.at (p := (h 1 2 + 0)) (u := u19) hT (by first | decide | omega) (by first | decide | omega)
          have g406 : Dg tB tN (h 1 2 + 0) := ⟨by first | decide | omega, by first | decide | omega, by first | decide | omega⟩
          have z407 := Tp.at (p := (h 1 2 + 1)) (u := (1 + u19)) hT (by first | decide | omega) (by first | decide | omega)
          have g408 : Dg tB tN (h 1 2 + 1) := ⟨by first | decide | omega, by first | decide | omega, by first | decide | omega⟩
          have z409 := Tp.at (p := (h 1 2 + 2)) (u := (2 + u19)) hT (by first | decide | omega) (by first | decide | omega)
          have g410 : Dg tB tN (h 1 2 + 2) := ⟨by first | decide | omega, by first | decide | omega, by first | decide | omega⟩
          have z411 := hT.1
          have g412 : ¬ Dg tB tN (h 1 2 + 3) := fun z => by have z1 := z.1; have z2 := z.2.1; have z3 := z.2.2; omega
          have z413 := nv3 (B := tB) (p := h 1 2)
          refine x_retI (np := 90) (x := 0) (by decide +kernel) (by first | decide | omega) (Or.inl (by decide +kernel)) ⟨_, rfl, (by first | decide | omega), ?_⟩
          exact ⟨j396, f402, (by first | decide | omega), (by first | decide | omega), (fun z => by first | decide | omega), (fun z => by first | decide | omega), (Nr.yes (Nu.mk3 g406 g408 g410 g412) (by first | decide | omega) (by first | decide | omega) (by first | decide | omega) c401 (by first | decide | omega))⟩
        have q390 : ¬ (v361 ≤ a2) := q390
        refine x_const (np := 76) (x := 9223372034707292159) (a := 2147483647) (by decide +kernel) (by decide) (by decide) ?_
        have z414 := hT.1
        have z415 := Tp.at (p := (h 1 2 + 0)) (u := u19) hT (by first | decide | omega) (by first | decide | omega)
        have g416 : Dg tB tN (h 1 2 + 0) := ⟨by first | decide | omega, by first | decide | omega, by first | decide | omega⟩
        have z417 := Tp.at (p := (h 1 2 + 1)) (u := (1 + u19)) hT (by first | decide | omega) (by first | decide | omega)
        have g418 : Dg tB tN (h 1 2 + 1) := ⟨by first | decide | omega, by first | decide | omega, by first | decide | omega⟩
        have z419 := Tp.at (p := (h 1 2 + 2)) (u := (2 + u19)) hT (by first | decide | omega) (by first | decide | omega)
        have g420 : Dg tB tN (h 1 2 + 2) := ⟨by first | decide | omega, by first | decide | omega, by first | decide | omega⟩
        have z421 := hT.1
        have g422 : ¬ Dg tB tN (h 1 2 + 3) := fun z => by have z1 := z.1; have z2 := z.2.1; have z3 := z.2.2; omega
        have z423 := nv3 (B := tB) (p := h 1 2)
        refine x_retI (np := 77) (x := 0) (by decide +kernel) (by decide) (Or.inl (by decide +kernel)) ⟨_, rfl, (by decide), ?_⟩
        exact ⟨hJ, hF, (by first | decide | omega), (by first | decide | omega), (fun z => by first | decide | omega), (fun z => by first | decide | omega), (Nr.nor (by first | decide | omega) (Nu.mk3 g416 g418 g420 g422) (by first | decide | omega))⟩
      have q372 : ¬ (2147483648 = 2147483648) := q372
      exfalso; omega
    have q370 : ¬ (2147483647 < 2147483696) := q370
    exfalso; omega
  have q368 : ¬ ((h 1 1) ≤ (3 + (h 1 2))) := q368
  refine x_aload (np := 9) (x := 0) (by decide +kernel) rfl (x_nc_le (by decide)) ?_
  have q424 : h 1 0 = 2 := by have z := jB (e := 0) 0 hJ rg_1_0_0_1 (by decide) (by decide); omega
  refine x_getR (np := 12) (x := 448) (f := 0) (q := 2) (by decide +kernel) (by decide) (by decide +kernel) q424 ?_
  refine x_iload (np := 13) (x := 1) (by decide +kernel) rfl (by first | decide | omega) ?_
  refine x_aldC (np := 14) (x := 0) (n := 400) (i := (3 + u19)) (q := (h 2 (3 + u19))) (by decide +kernel) (by decide +kernel) (by first | decide | omega) (by first | decide | omega) (by decide) rfl (fun l425 => ?_)
  refine x_goto (np := 17) (x := 18) (by decide +kernel) ?_
  refine x_retI (np := 19) (x := 0) (by decide +kernel) l425 (Or.inl (by decide +kernel)) ⟨_, rfl, l425, ?_⟩
  refine x_nI (t := 0) (mj := 82) (n := 1) (rc := 0) (ml := 1) (nr := 0) (np := 25) (as := [iv_c (h 2 (3 + u19))]) (rest := []) (lo1 := [iv_c (h 2 (3 + u19))]) (by decide +kernel) (by decide) (by decide +kernel) (Or.inl rfl) rfl rfl (x_wi l425 x_wn) x_wn (by decide) rfl ?_
  refine x_iload (np := 1) (x := 0) (by decide +kernel) rfl l425 ?_
  refine x_const (np := 3) (x := 9223372245160689712) (a := 2147483696) (by decide +kernel) (by decide) (by decide) ?_
  refine x_icmp (k := 2) (tg := 16) (np := 6) (by decide +kernel) (by decide) l425 (by decide) (fun q426 => ?_) (fun q427 => ?_)
  · have q426 : (h 2 (3 + u19)) < 2147483696 := q426
    refine x_const (np := 17) (x := 9223372039002259456) (a := 2147483648) (by decide +kernel) (by decide) (by decide) ?_
    refine x_retI (np := 18) (x := 0) (by decide +kernel) (by decide) (Or.inr ⟨by decide +kernel, by first | decide | omega, by first | decide | omega⟩) ⟨_, rfl, (by decide), ?_⟩
    refine x_ifz (k := 0) (tg := 54) (np := 28) (by decide +kernel) (by decide) (by decide) (fun q428 => ?_) (fun q429 => ?_)
    · have q428 : 2147483648 = 2147483648 := q428
      refine x_iload (np := 56) (x := 4) (by decide +kernel) rfl (by decide) ?_
      refine x_ifz (k := 0) (tg := 75) (np := 59) (by decide +kernel) (by decide) (by decide) (fun q430 => ?_) (fun q431 => ?_)
      · have q430 : 2147483651 = 2147483648 := q430
        exfalso; omega
      have q431 : ¬ (2147483651 = 2147483648) := q431
      refine x_iload (np := 61) (x := 4) (by decide +kernel) rfl (by decide) ?_
      refine x_const (np := 62) (x := 9223372051887161347) (a := 2147483651) (by decide +kernel) (by decide) (by decide) ?_
      refine x_icmp (k := 4) (tg := 75) (np := 65) (by decide +kernel) (by decide) (by decide) (by decide) (fun q432 => ?_) (fun q433 => ?_)
      · have q432 : 2147483651 < 2147483651 := q432
        exfalso; omega
      have q433 : ¬ (2147483651 < 2147483651) := q433
      refine x_iload (np := 66) (x := 3) (by decide +kernel) rfl (by first | decide | omega) ?_
      refine x_iload (np := 67) (x := 1) (by decide +kernel) rfl la1 ?_
      refine x_icmp (k := 2) (tg := 75) (np := 70) (by decide +kernel) (by decide) (by first | decide | omega) la1 (fun q434 => ?_) (fun q435 => ?_)
      · have q434 : v361 < a1 := q434
        refine x_const (np := 76) (x := 9223372034707292159) (a := 2147483647) (by decide +kernel) (by decide) (by decide) ?_
        have z436 := hT.1
        have z437 := Tp.at (p := (h 1 2 + 0)) (u := u19) hT (by first | decide | omega) (by first | decide | omega)
        have g438 : Dg tB tN (h 1 2 + 0) := ⟨by first | decide | omega, by first | decide | omega, by first | decide | omega⟩
        have z439 := Tp.at (p := (h 1 2 + 1)) (u := (1 + u19)) hT (by first | decide | omega) (by first | decide | omega)
        have g440 : Dg tB tN (h 1 2 + 1) := ⟨by first | decide | omega, by first | decide | omega, by first | decide | omega⟩
        have z441 := Tp.at (p := (h 1 2 + 2)) (u := (2 + u19)) hT (by first | decide | omega) (by first | decide | omega)
        have g442 : Dg tB tN (h 1 2 + 2) := ⟨by first | decide | omega, by first | decide | omega, by first | decide | omega⟩
        have z443 := hT.1
        have z444 := Tp.at (p := (h 1 2 + 3)) (u := (3 + u19)) hT (by first | decide | omega) (by first | decide | omega)
        have g445 : ¬ Dg tB tN (h 1 2 + 3) := fun z => by have z1 := z.1; have z2 := z.2.1; have z3 := z.2.2; omega
        have z446 := nv3 (B := tB) (p := h 1 2)
        refine x_retI (np := 77) (x := 0) (by decide +kernel) (by decide) (Or.inl (by decide +kernel)) ⟨_, rfl, (by decide), ?_⟩
        exact ⟨hJ, hF, (by first | decide | omega), (by first | decide | omega), (fun z => by first | decide | omega), (fun z => by first | decide | omega), (Nr.nor (by first | decide | omega) (Nu.mk3 g438 g440 g442 g445) (by first | decide | omega))⟩
      have q435 : ¬ (v361 < a1) := q435
      refine x_iload (np := 71) (x := 3) (by decide +kernel) rfl (by first | decide | omega) ?_
      refine x_iload (np := 72) (x := 2) (by decide +kernel) rfl la2 ?_
      refine x_icmp (k := 5) (tg := 77) (np := 75) (by decide +kernel) (by decide) (by first | decide | omega) la2 (fun q447 => ?_) (fun q448 => ?_)
      · have q447 : v361 ≤ a2 := q447
        refine x_aload (np := 78) (x := 0) (by decide +kernel) rfl (x_nc_le (by decide)) ?_
        refine x_aload (np := 79) (x := 0) (by decide +kernel) rfl (x_nc_le (by decide)) ?_
        refine x_getC (np := 82) (x := 450) (f := 2) (q := (h 1 2)) (by decide +kernel) (by decide) (by decide +kernel) rfl (fun l449 => ?_)
        refine x_iload (np := 84) (x := 4) (by decide +kernel) rfl (by decide) ?_
        refine x_iadd (np := 85) (x := 0) (v := (3 + (h 1 2))) (by decide +kernel) l4 (by decide) (by first | decide | omega) (by first | decide | omega) ?_
        refine x_cV (t := 6) (mj := 80) (n := 2) (rc := 8) (ml := 2) (nr := 0) (np := 88) (as := [x_r 1, iv_c (3 + (h 1 2))]) (rest := []) (lo1 := [x_r 1, iv_c (3 + (h 1 2))]) (by decide +kernel) (by decide) (by decide +kernel) (x_rb_of (by decide +kernel)) rfl rfl (x_wr (by decide) (x_wi (by first | decide | omega) x_wn)) x_wn (by decide) rfl (c80_1 hJ  (by first | decide | omega) hT) (fun h453 q452 => ?_)
        obtain ⟨j454, f455, c458, c459⟩ := q452
        have f460 := Fr.trans hF f455 (by decide)
        have b461 := jB (e := 2) 0 j454 rg_1_2_0_1 (by first | decide | omega) (by first | decide | omega)
        refine x_iload (np := 89) (x := 3) (by decide +kernel) rfl (by first | decide | omega) ?_
        have z462 := hT.1
        have z463 := Tp.at (p := (h 1 2 + 0)) (u := u19) hT (by first | decide | omega) (by first | decide | omega)
        have g464 : Dg tB tN (h 1 2 + 0) := ⟨by first | decide | omega, by first | decide | omega, by first | decide | omega⟩
        have z465 := Tp.at (p := (h 1 2 + 1)) (u := (1 + u19)) hT (by first | decide | omega) (by first | decide | omega)
        have g466 : Dg tB tN (h 1 2 + 1) := ⟨by first | decide | omega, by first | decide | omega, by first | decide | omega⟩
        have z467 := Tp.at (p := (h 1 2 + 2)) (u := (2 + u19)) hT (by first | decide | omega) (by first | decide | omega)
        have g468 : Dg tB tN (h 1 2 + 2) := ⟨by first | decide | omega, by first | decide | omega, by first | decide | omega⟩
        have z469 := hT.1
        have z470 := Tp.at (p := (h 1 2 + 3)) (u := (3 + u19)) hT (by first | decide | omega) (by first | decide | omega)
        have g471 : ¬ Dg tB tN (h 1 2 + 3) := fun z => by have z1 := z.1; have z2 := z.2.1; have z3 := z.2.2; omega
        have z472 := nv3 (B := tB) (p := h 1 2)
        refine x_retI (np := 90) (x := 0) (by decide +kernel) (by first | decide | omega) (Or.inl (by decide +kernel)) ⟨_, rfl, (by first | decide | omega), ?_⟩
        exact ⟨j454, f460, (by first | decide | omega), (by first | decide | omega), (fun z => by first | decide | omega), (fun z => by first | decide | omega), (Nr.yes (Nu.mk3 g464 g466 g468 g471) (by first | decide | omega) (by first | decide | omega) (by first | decide | omega) c459 (by first | decide | omega))⟩
      have q448 : ¬ (v361 ≤ a2) := q448
      refine x_const (np := 76) (x := 9223372034707292159) (a := 2147483647) (by decide +kernel) (by decide) (by decide) ?_
      have z473 := hT.1
      have z474 := Tp.at (p := (h 1 2 + 0)) (u := u19) hT (by first | decide | omega) (by first | decide | omega)
      have g475 : Dg tB tN (h 1 2 + 0) := ⟨by first | decide | omega, by first | decide | omega, by first | decide | omega⟩
      have z476 := Tp.at (p := (h 1 2 + 1)) (u := (1 + u19)) hT (by first | decide | omega) (by first | decide | omega)
      have g477 : Dg tB tN (h 1 2 + 1) := ⟨by first | decide | omega, by first | decide | omega, by first | decide | omega⟩
      have z478 := Tp.at (p := (h 1 2 + 2)) (u := (2 + u19)) hT (by first | decide | omega) (by first | decide | omega)
      have g479 : Dg tB tN (h 1 2 + 2) := ⟨by first | decide | omega, by first | decide | omega, by first | decide | omega⟩
      have z480 := hT.1
      have z481 := Tp.at (p := (h 1 2 + 3)) (u := (3 + u19)) hT (by first | decide | omega) (by first | decide | omega)
      have g482 : ¬ Dg tB tN (h 1 2 + 3) := fun z => by have z1 := z.1; have z2 := z.2.1; have z3 := z.2.2; omega
      have z483 := nv3 (B := tB) (p := h 1 2)
      refine x_retI (np := 77) (x := 0) (by decide +kernel) (by decide) (Or.inl (by decide +kernel)) ⟨_, rfl, (by decide), ?_⟩
      exact ⟨hJ, hF, (by first | decide | omega), (by first | decide | omega), (fun z => by first | decide | omega), (fun z => by first | decide | omega), (Nr.nor (by first | decide | omega) (Nu.mk3 g475 g477 g479 g482) (by first | decide | omega))⟩
    have q429 : ¬ (2147483648 = 2147483648) := q429
    exfalso; omega
  have q427 : ¬ ((h 2 (3 + u19)) < 2147483696) := q427
  refine x_iload (np := 7) (x := 0) (by decide +kernel) rfl l425 ?_
  refine x_const (np := 9) (x := 9223372283815395385) (a := 2147483705) (by decide +kernel) (by decide) (by decide) ?_
  refine x_icmp (k := 4) (tg := 16) (np := 12) (by decide +kernel) (by decide) l425 (by decide) (fun q484 => ?_) (fun q485 => ?_)
  · have q484 : 2147483705 < (h 2 (3 + u19)) := q484
    refine x_const (np := 17) (x := 9223372039002259456) (a := 2147483648) (by decide +kernel) (by decide) (by decide) ?_
    refine x_retI (np := 18) (x := 0) (by decide +kernel) (by decide) (Or.inr ⟨by decide +kernel, by first | decide | omega, by first | decide | omega⟩) ⟨_, rfl, (by decide), ?_⟩
    refine x_ifz (k := 0) (tg := 54) (np := 28) (by decide +kernel) (by decide) (by decide) (fun q486 => ?_) (fun q487 => ?_)
    · have q486 : 2147483648 = 2147483648 := q486
      refine x_iload (np := 56) (x := 4) (by decide +kernel) rfl (by decide) ?_
      refine x_ifz (k := 0) (tg := 75) (np := 59) (by decide +kernel) (by decide) (by decide) (fun q488 => ?_) (fun q489 => ?_)
      · have q488 : 2147483651 = 2147483648 := q488
        exfalso; omega
      have q489 : ¬ (2147483651 = 2147483648) := q489
      refine x_iload (np := 61) (x := 4) (by decide +kernel) rfl (by decide) ?_
      refine x_const (np := 62) (x := 9223372051887161347) (a := 2147483651) (by decide +kernel) (by decide) (by decide) ?_
      refine x_icmp (k := 4) (tg := 75) (np := 65) (by decide +kernel) (by decide) (by decide) (by decide) (fun q490 => ?_) (fun q491 => ?_)
      · have q490 : 2147483651 < 2147483651 := q490
        exfalso; omega
      have q491 : ¬ (2147483651 < 2147483651) := q491
      refine x_iload (np := 66) (x := 3) (by decide +kernel) rfl (by first | decide | omega) ?_
      refine x_iload (np := 67) (x := 1) (by decide +kernel) rfl la1 ?_
      refine x_icmp (k := 2) (tg := 75) (np := 70) (by decide +kernel) (by decide) (by first | decide | omega) la1 (fun q492 => ?_) (fun q493 => ?_)
      · have q492 : v361 < a1 := q492
        refine x_const (np := 76) (x := 9223372034707292159) (a := 2147483647) (by decide +kernel) (by decide) (by decide) ?_
        have z494 := hT.1
        have z495 := Tp.at (p := (h 1 2 + 0)) (u := u19) hT (by first | decide | omega) (by first | decide | omega)
        have g496 : Dg tB tN (h 1 2 + 0) := ⟨by first | decide | omega, by first | decide | omega, by first | decide | omega⟩
        have z497 := Tp.at (p := (h 1 2 + 1)) (u := (1 + u19)) hT (by first | decide | omega) (by first | decide | omega)
        have g498 : Dg tB tN (h 1 2 + 1) := ⟨by first | decide | omega, by first | decide | omega, by first | decide | omega⟩
        have z499 := Tp.at (p := (h 1 2 + 2)) (u := (2 + u19)) hT (by first | decide | omega) (by first | decide | omega)
        have g500 : Dg tB tN (h 1 2 + 2) := ⟨by first | decide | omega, by first | decide | omega, by first | decide | omega⟩
        have z501 := hT.1
        have z502 := Tp.at (p := (h 1 2 + 3)) (u := (3 + u19)) hT (by first | decide | omega) (by first | decide | omega)
        have g503 : ¬ Dg tB tN (h 1 2 + 3) := fun z => by have z1 := z.1; have z2 := z.2.1; have z3 := z.2.2; omega
        have z504 := nv3 (B := tB) (p := h 1 2)
        refine x_retI (np := 77) (x := 0) (by decide +kernel) (by decide) (Or.inl (by decide +kernel)) ⟨_, rfl, (by decide), ?_⟩
        exact ⟨hJ, hF, (by first | decide | omega), (by first | decide | omega), (fun z => by first | decide | omega), (fun z => by first | decide | omega), (Nr.nor (by first | decide | omega) (Nu.mk3 g496 g498 g500 g503) (by first | decide | omega))⟩
      have q493 : ¬ (v361 < a1) := q493
      refine x_iload (np := 71) (x := 3) (by decide +kernel) rfl (by first | decide | omega) ?_
      refine x_iload (np := 72) (x := 2) (by decide +kernel) rfl la2 ?_
      refine x_icmp (k := 5) (tg := 77) (np := 75) (by decide +kernel) (by decide) (by first | decide | omega) la2 (fun q505 => ?_) (fun q506 => ?_)
      · have q505 : v361 ≤ a2 := q505
        refine x_aload (np := 78) (x := 0) (by decide +kernel) rfl (x_nc_le (by decide)) ?_
        refine x_aload (np := 79) (x := 0) (by decide +kernel) rfl (x_nc_le (by decide)) ?_
        refine x_getC (np := 82) (x := 450) (f := 2) (q := (h 1 2)) (by decide +kernel) (by decide) (by decide +kernel) rfl (fun l507 => ?_)
        refine x_iload (np := 84) (x := 4) (by decide +kernel) rfl (by decide) ?_
        refine x_iadd (np := 85) (x := 0) (v := (3 + (h 1 2))) (by decide +kernel) l4 (by decide) (by first | decide | omega) (by first | decide | omega) ?_
        refine x_cV (t := 6) (mj := 80) (n := 2) (rc := 8) (ml := 2) (nr := 0) (np := 88) (as := [x_r 1, iv_c (3 + (h 1 2))]) (rest := []) (lo1 := [x_r 1, iv_c (3 + (h 1 2))]) (by decide +kernel) (by decide) (by decide +kernel) (x_rb_of (by decide +kernel)) rfl rfl (x_wr (by decide) (x_wi (by first | decide | omega) x_wn)) x_wn (by decide) rfl (c80_1 hJ  (by first | decide | omega) hT) (fun h511 q510 => ?_)
        obtain ⟨j512, f513, c516, c517⟩ := q510
        have f518 := Fr.trans hF f513 (by decide)
        have b519 := jB (e := 2) 0 j512 rg_1_2_0_1 (by first | decide | omega) (by first | decide | omega)
        refine x_iload (np := 89) (x := 3) (by decide +kernel) rfl (by first | decide | omega) ?_
        have z520 := hT.1
        have z521 := Tp.at (p := (h 1 2 + 0)) (u := u19) hT (by first | decide | omega) (by first | decide | omega)
        have g522 : Dg tB tN (h 1 2 + 0) := ⟨by first | decide | omega, by first | decide | omega, by first | decide | omega⟩
        have z523 := Tp.at (p := (h 1 2 + 1)) (u := (1 + u19)) hT (by first | decide | omega) (by first | decide | omega)
        have g524 : Dg tB tN (h 1 2 + 1) := ⟨by first | decide | omega, by first | decide | omega, by first | decide | omega⟩
        have z525 := Tp.at (p := (h 1 2 + 2)) (u := (2 + u19)) hT (by first | decide | omega) (by first | decide | omega)
        have g526 : Dg tB tN (h 1 2 + 2) := ⟨by first | decide | omega, by first | decide | omega, by first | decide | omega⟩
        have z527 := hT.1
        have z528 := Tp.at (p := (h 1 2 + 3)) (u := (3 + u19)) hT (by first | decide | omega) (by first | decide | omega)
        have g529 : ¬ Dg tB tN (h 1 2 + 3) := fun z => by have z1 := z.1; have z2 := z.2.1; have z3 := z.2.2; omega
        have z530 := nv3 (B := tB) (p := h 1 2)
        refine x_retI (np := 90) (x := 0) (by decide +kernel) (by first | decide | omega) (Or.inl (by decide +kernel)) ⟨_, rfl, (by first | decide | omega), ?_⟩
        exact ⟨j512, f518, (by first | decide | omega), (by first | decide | omega), (fun z => by first | decide | omega), (fun z => by first | decide | omega), (Nr.yes (Nu.mk3 g522 g524 g526 g529) (by first | decide | omega) (by first | decide | omega) (by first | decide | omega) c517 (by first | decide | omega))⟩
      have q506 : ¬ (v361 ≤ a2) := q506
      refine x_const (np := 76) (x := 9223372034707292159) (a := 2147483647) (by decide +kernel) (by decide) (by decide) ?_
      have z531 := hT.1
      have z532 := Tp.at (p := (h 1 2 + 0)) (u := u19) hT (by first | decide | omega) (by first | decide | omega)
      have g533 : Dg tB tN (h 1 2 + 0) := ⟨by first | decide | omega, by first | decide | omega, by first | decide | omega⟩
      have z534 := Tp.at (p := (h 1 2 + 1)) (u := (1 + u19)) hT (by first | decide | omega) (by first | decide | omega)
      have g535 : Dg tB tN (h 1 2 + 1) := ⟨by first | decide | omega, by first | decide | omega, by first | decide | omega⟩
      have z536 := Tp.at (p := (h 1 2 + 2)) (u := (2 + u19)) hT (by first | decide | omega) (by first | decide | omega)
      have g537 : Dg tB tN (h 1 2 + 2) := ⟨by first | decide | omega, by first | decide | omega, by first | decide | omega⟩
      have z538 := hT.1
      have z539 := Tp.at (p := (h 1 2 + 3)) (u := (3 + u19)) hT (by first | decide | omega) (by first | decide | omega)
      have g540 : ¬ Dg tB tN (h 1 2 + 3) := fun z => by have z1 := z.1; have z2 := z.2.1; have z3 := z.2.2; omega
      have z541 := nv3 (B := tB) (p := h 1 2)
      refine x_retI (np := 77) (x := 0) (by decide +kernel) (by decide) (Or.inl (by decide +kernel)) ⟨_, rfl, (by decide), ?_⟩
      exact ⟨hJ, hF, (by first | decide | omega), (by first | decide | omega), (fun z => by first | decide | omega), (fun z => by first | decide | omega), (Nr.nor (by first | decide | omega) (Nu.mk3 g533 g535 g537 g540) (by first | decide | omega))⟩
    have q487 : ¬ (2147483648 = 2147483648) := q487
    exfalso; omega
  have q485 : ¬ (2147483705 < (h 2 (3 + u19))) := q485
  refine x_const (np := 13) (x := 9223372043297226753) (a := 2147483649) (by decide +kernel) (by decide) (by decide) ?_
  refine x_goto (np := 16) (x := 17) (by decide +kernel) ?_
  refine x_retI (np := 18) (x := 0) (by decide +kernel) (by decide) (Or.inr ⟨by decide +kernel, by first | decide | omega, by first | decide | omega⟩) ⟨_, rfl, (by decide), ?_⟩
  refine x_ifz (k := 0) (tg := 54) (np := 28) (by decide +kernel) (by decide) (by decide) (fun q542 => ?_) (fun q543 => ?_)
  · have q542 : 2147483649 = 2147483648 := q542
    exfalso; omega
  have q543 : ¬ (2147483649 = 2147483648) := q543
  refine x_iload (np := 29) (x := 3) (by decide +kernel) rfl (by first | decide | omega) ?_
  refine x_const (np := 31) (x := 9223372081951932426) (a := 2147483658) (by decide +kernel) (by decide) (by decide) ?_
  obtain ⟨u544, q545⟩ : ∃ z, v361 = 2147483648 + z := ⟨v361 - 2147483648, by first | decide | omega⟩
  refine x_imul (np := 32) (x := 0) (i := u544) (j := 10) (v := (2147483648 + 10 * u544)) (by decide +kernel) (by first | decide | omega) (by first | decide | omega) (by first | decide | omega) (by first | decide | omega) (by first | decide | omega) (by decide) ?_
  refine x_aload (np := 33) (x := 0) (by decide +kernel) rfl (x_nc_le (by decide)) ?_
  refine x_aload (np := 34) (x := 0) (by decide +kernel) rfl (x_nc_le (by decide)) ?_
  refine x_getC (np := 37) (x := 450) (f := 2) (q := (h 1 2)) (by decide +kernel) (by decide) (by decide +kernel) rfl (fun l547 => ?_)
  refine x_iload (np := 39) (x := 4) (by decide +kernel) rfl (by decide) ?_
  refine x_iadd (np := 40) (x := 0) (v := (3 + (h 1 2))) (by decide +kernel) l4 (by decide) (by first | decide | omega) (by first | decide | omega) ?_
  refine x_nI (t := 6) (mj := 81) (n := 2) (rc := 8) (ml := 2) (nr := 1) (np := 43) (as := [x_r 1, iv_c (3 + (h 1 2))]) (rest := [iv_c (2147483648 + 10 * u544)]) (lo1 := [x_r 1, iv_c (3 + (h 1 2))]) (by decide +kernel) (by decide) (by decide +kernel) (x_rb_of (by decide +kernel)) rfl rfl (x_wr (by decide) (x_wi (by first | decide | omega) x_wn)) (x_wi (by first | decide | omega) x_wn) (by decide) rfl ?_
  refine x_iload (np := 1) (x := 1) (by decide +kernel) rfl (by first | decide | omega) ?_
  refine x_aload (np := 2) (x := 0) (by decide +kernel) rfl (x_nc_le (by decide)) ?_
  refine x_getC (np := 5) (x := 449) (f := 1) (q := (h 1 1)) (by decide +kernel) (by decide) (by decide +kernel) rfl (fun l548 => ?_)
  refine x_icmp (k := 3) (tg := 17) (np := 8) (by decide +kernel) (by decide) (by first | decide | omega) l6 (fun q549 => ?_) (fun q550 => ?_)
  · have q549 : (h 1 1) ≤ (3 + (h 1 2)) := q549
    exfalso; omega
  have q550 : ¬ ((h 1 1) ≤ (3 + (h 1 2))) := q550
  refine x_aload (np := 9) (x := 0) (by decide +kernel) rfl (x_nc_le (by decide)) ?_
  have q551 : h 1 0 = 2 := by have z := jB (e := 0) 0 hJ rg_1_0_0_1 (by decide) (by decide); omega
  refine x_getR (np := 12) (x := 448) (f := 0) (q := 2) (by decide +kernel) (by decide) (by decide +kernel) q551 ?_
  refine x_iload (np := 13) (x := 1) (by decide +kernel) rfl (by first | decide | omega) ?_
  refine x_aldC (np := 14) (x := 0) (n := 400) (i := (3 + u19)) (q := (h 2 (3 + u19))) (by decide +kernel) (by decide +kernel) (by first | decide | omega) (by first | decide | omega) (by decide) rfl (fun l552 => ?_)
  refine x_goto (np := 17) (x := 18) (by decide +kernel) ?_
  refine x_retI (np := 19) (x := 0) (by decide +kernel) l425 (Or.inl (by decide +kernel)) ⟨_, rfl, l425, ?_⟩
  refine x_iadd (np := 44) (x := 0) (v := (10 * u544 + (h 2 (3 + u19)))) (by decide +kernel) (by first | decide | omega) l425 (by first | decide | omega) (by first | decide | omega) ?_
  refine x_const (np := 46) (x := 9223372245160689712) (a := 2147483696) (by decide +kernel) (by decide) (by decide) ?_
  obtain ⟨v553, q554⟩ : ∃ z, z + 2147483696 = (10 * u544 + (h 2 (3 + u19))) + 2147483648 := ⟨(10 * u544 + (h 2 (3 + u19))) + 2147483648 - 2147483696, by first | decide | omega⟩
  refine x_isub (np := 47) (x := 0) (v := v553) (by decide +kernel) (by first | decide | omega) (by decide) (by first | decide | omega) (by first | decide | omega) ?_
  refine x_istore (np := 48) (x := 3) (lo' := [x_r 1, iv_c a1, iv_c a2, iv_c v553, iv_c 2147483651]) (by decide +kernel) (by first | decide | omega) (Nat.le_of_ble_eq_true rfl) rfl ?_
  refine x_iinc (np := 51) (i := 4) (j := 2147483649) (v := 2147483652) (lo' := [x_r 1, iv_c a1, iv_c a2, iv_c v553, iv_c 2147483652]) (by decide +kernel) (by decide) (by decide) rfl (by decide) (by first | decide | omega) (by first | decide | omega) rfl ?_
  refine x_goto (np := 54) (x := 5) (by decide +kernel) ?_
  refine x_iload (np := 7) (x := 4) (by decide +kernel) rfl (by decide) ?_
  refine x_const (np := 8) (x := 9223372051887161347) (a := 2147483651) (by decide +kernel) (by decide) (by decide) ?_
  refine x_icmp (k := 4) (tg := 54) (np := 11) (by decide +kernel) (by decide) (by decide) (by decide) (fun q555 => ?_) (fun q556 => ?_)
  · have q555 : 2147483651 < 2147483652 := q555
    refine x_iload (np := 56) (x := 4) (by decide +kernel) rfl (by decide) ?_
    refine x_ifz (k := 0) (tg := 75) (np := 59) (by decide +kernel) (by decide) (by decide) (fun q557 => ?_) (fun q558 => ?_)
    · have q557 : 2147483652 = 2147483648 := q557
      exfalso; omega
    have q558 : ¬ (2147483652 = 2147483648) := q558
    refine x_iload (np := 61) (x := 4) (by decide +kernel) rfl (by decide) ?_
    refine x_const (np := 62) (x := 9223372051887161347) (a := 2147483651) (by decide +kernel) (by decide) (by decide) ?_
    refine x_icmp (k := 4) (tg := 75) (np := 65) (by decide +kernel) (by decide) (by decide) (by decide) (fun q559 => ?_) (fun q560 => ?_)
    · have q559 : 2147483651 < 2147483652 := q559
      refine x_const (np := 76) (x := 9223372034707292159) (a := 2147483647) (by decide +kernel) (by decide) (by decide) ?_
      have z561 := hT.1
      have z562 := Tp.at (p := (h 1 2 + 0)) (u := u19) hT (by first | decide | omega) (by first | decide | omega)
      have g563 : Dg tB tN (h 1 2 + 0) := ⟨by first | decide | omega, by first | decide | omega, by first | decide | omega⟩
      have z564 := Tp.at (p := (h 1 2 + 1)) (u := (1 + u19)) hT (by first | decide | omega) (by first | decide | omega)
      have g565 : Dg tB tN (h 1 2 + 1) := ⟨by first | decide | omega, by first | decide | omega, by first | decide | omega⟩
      have z566 := Tp.at (p := (h 1 2 + 2)) (u := (2 + u19)) hT (by first | decide | omega) (by first | decide | omega)
      have g567 : Dg tB tN (h 1 2 + 2) := ⟨by first | decide | omega, by first | decide | omega, by first | decide | omega⟩
      have z568 := Tp.at (p := (h 1 2 + 3)) (u := (3 + u19)) hT (by first | decide | omega) (by first | decide | omega)
      have g569 : Dg tB tN (h 1 2 + 3) := ⟨by first | decide | omega, by first | decide | omega, by first | decide | omega⟩
      refine x_retI (np := 77) (x := 0) (by decide +kernel) (by decide) (Or.inl (by decide +kernel)) ⟨_, rfl, (by decide), ?_⟩
      exact ⟨hJ, hF, (by first | decide | omega), (by first | decide | omega), (fun z => by first | decide | omega), (fun z => by first | decide | omega), (Nr.nob (by first | decide | omega) (Nb.mk4 g563 g565 g567 g569))⟩
    have q560 : ¬ (2147483651 < 2147483652) := q560
    exfalso; omega
  have q556 : ¬ (2147483651 < 2147483652) := q556
  exfalso; omega
set_option maxHeartbeats 0 in
/-- LentNames$TownReader.readSighting()Z -/
theorem c100_61 {sc : Nat × Nat} {d  : Nat} {h : xh} {tB : Nat → Nat} {tN : Nat} (hJ : J h) (hr0 : (rv h 5) + 1 ≤ 2147483658) (hT : Tp tB tN h) : X sc 100 (d + 7) (xI fun r h' => J h' ∧ Fr 36310271995674657 h h' ∧ (2147483648 ≤ r ∧ r ≤ 2147483649) ∧ (rv h' 0 = rv h 0) ∧ (rv h' 1 = rv h 1) ∧ (rv h' 2 = rv h 2) ∧ (rv h' 3 = rv h 3) ∧ (rv h' 4 = rv h 4) ∧ (r = 2147483649 → rv h' 5 = rv h 5 + 1) ∧ seen9 tB tN (rv h 0) (h 1 2) (rs r (h' 1 2)) ∧ Ot (h 61 1) h h') 0 0 0 [x_r 61, 147573952589676412928] [] h := by
  have hF := Fr.refl 36310271995674657 h
  have t1 : tw (h 61 1) := hJ.2.2.2.2.1
  have b2 := jB (e := 2) 0 hJ (rg_T7_2_0_1 t1) (by first | decide | omega) (by first | decide | omega)
  have e3 : rv h 5 = (h ((h 61 1) + 7) 2) := (congrArg (fun z => svq h z 5) rfl).trans rfl
  refine x_aload (np := 1) (x := 0) (by decide +kernel) rfl (x_nc_le (by decide)) ?_
  refine x_getR (np := 4) (x := 577) (f := 1) (q := (h 61 1)) (by decide +kernel) (by decide) (by decide +kernel) rfl ?_
  have q4 : h (h 61 1) 3 = ((h 61 1) + 7) := tf_0_3 hJ t1
  refine x_getR (np := 7) (x := 515) (f := 3) (q := ((h 61 1) + 7)) (by decide +kernel) (by decide) (tg_0_515_3_1 t1) q4 ?_
  refine x_cI (t := 6) (mj := 67) (n := 1) (rc := 7) (ml := 2) (nr := 0) (np := 10) (as := [x_r ((h 61 1) + 7)]) (rest := []) (lo1 := [x_r ((h 61 1) + 7), 147573952589676412928]) (by decide +kernel) (by decide) (by decide +kernel) (x_rb_of (tr_7_7 t1)) rfl rfl (x_wr (tn_7 t1) x_wn) x_wn (by decide) rfl (c67_T7 hJ t1 (by first | decide | omega)) (fun v5 h8 l6 q7 => ?_)
  obtain ⟨j9, f10, b11, c12, c13, c14, c15, c16, c17, c18, c19⟩ := q7
  have f20 := Fr.trans hF f10 (by decide)
  have b21 := jB (e := 7) 0 hJ (rg_T0_7_0_1 t1) (by first | decide | omega) (by first | decide | omega)
  have b22 := jB (e := 7) 0 j9 (rg_T0_7_0_1 t1) (by first | decide | omega) (by first | decide | omega)
  have b23 := jB (e := 2) 0 hJ (rg_T1_2_0_1 t1) (by first | decide | omega) (by first | decide | omega)
  have b24 := jB (e := 2) 0 j9 (rg_T1_2_0_1 t1) (by first | decide | omega) (by first | decide | omega)
  have b25 := jB (e := 2) 0 hJ (rg_T3_2_0_1 t1) (by first | decide | omega) (by first | decide | omega)
  have b26 := jB (e := 2) 0 j9 (rg_T3_2_0_1 t1) (by first | decide | omega) (by first | decide | omega)
  have b27 := jB (e := 2) 0 hJ (rg_T5_2_0_1 t1) (by first | decide | omega) (by first | decide | omega)
  have b28 := jB (e := 2) 0 j9 (rg_T5_2_0_1 t1) (by first | decide | omega) (by first | decide | omega)
  have b29 := jB (e := 2) 0 j9 (rg_T7_2_0_1 t1) (by first | decide | omega) (by first | decide | omega)
  refine x_istore (np := 11) (x := 1) (lo' := [x_r 61, iv_c v5]) (by decide +kernel) l6 (Nat.le_of_ble_eq_true rfl) rfl ?_
  refine x_aload (np := 12) (x := 0) (by decide +kernel) rfl (x_nc_le (by decide)) ?_
  refine x_aload (np := 13) (x := 0) (by decide +kernel) rfl (x_nc_le (by decide)) ?_
  have q30 : h8 61 1 = h 61 1 := f10 61 1 (by decide +kernel)
  refine x_getR (np := 16) (x := 577) (f := 1) (q := (h 61 1)) (by decide +kernel) (by decide) (by decide +kernel) q30 ?_
  have q31 : h8 (h 61 1) 3 = ((h 61 1) + 7) := tf_0_3 j9 t1
  refine x_getR (np := 19) (x := 515) (f := 3) (q := ((h 61 1) + 7)) (by decide +kernel) (by decide) (tg_0_515_3_1 t1) q31 ?_
  refine x_iload (np := 20) (x := 1) (by decide +kernel) rfl l6 ?_
  refine x_const (np := 21) (x := 9223372039002259456) (a := 2147483648) (by decide +kernel) (by decide) (by decide) ?_
  refine x_const (np := 22) (x := 9223372039002259456) (a := 2147483648) (by decide +kernel) (by decide) (by decide) ?_
  refine x_aload (np := 23) (x := 0) (by decide +kernel) rfl (x_nc_le (by decide)) ?_
  have q32 : h8 61 1 = h 61 1 := f10 61 1 (by decide +kernel)
  refine x_getR (np := 26) (x := 577) (f := 1) (q := (h 61 1)) (by decide +kernel) (by decide) (by decide +kernel) q32 ?_
  refine x_getC (np := 29) (x := 519) (f := 7) (q := (h8 (h 61 1) 7)) (by decide +kernel) (by decide) (tg_0_519_7_0 t1) rfl (fun l33 => ?_)
  refine x_const (np := 30) (x := 9223372043297226753) (a := 2147483649) (by decide +kernel) (by decide) (by decide) ?_
  obtain ⟨v34, q35⟩ : ∃ z, z + 2147483649 = (h8 (h 61 1) 7) + 2147483648 := ⟨(h8 (h 61 1) 7) + 2147483648 - 2147483649, by first | decide | omega⟩
  refine x_isub (np := 31) (x := 0) (v := v34) (by decide +kernel) l33 (by decide) (by first | decide | omega) (by first | decide | omega) ?_
  refine x_nI (t := 6) (mj := 102) (n := 6) (rc := 10) (ml := 7) (nr := 0) (np := 34) (as := [x_r 61, x_r ((h 61 1) + 7), iv_c v5, iv_c 2147483648, iv_c 2147483648, iv_c v34]) (rest := []) (lo1 := [x_r 61, x_r ((h 61 1) + 7), iv_c v5, iv_c 2147483648, iv_c 2147483648, iv_c v34, 147573952589676412928]) (by decide +kernel) (by decide) (by decide +kernel) (x_rb_of (by decide +kernel)) rfl rfl (x_wr (by decide) (x_wr (tn_7 t1) (x_wi l6 (x_wi (by decide) (x_wi (by decide) (x_wi (by first | decide | omega) x_wn)))))) x_wn (by decide) rfl ?_
  refine x_aload (np := 1) (x := 0) (by decide +kernel) rfl (x_nc_le (by decide)) ?_
  have q36 : h8 61 0 = 1 := by have z := jB (e := 0) 0 j9 rg_61_0_0_1 (by decide) (by decide); omega
  refine x_getR (np := 4) (x := 576) (f := 0) (q := 1) (by decide +kernel) (by decide) (by decide +kernel) q36 ?_
  refine x_iload (np := 6) (x := 4) (by decide +kernel) rfl (by decide) ?_
  refine x_iload (np := 8) (x := 5) (by decide +kernel) rfl (by first | decide | omega) ?_
  have m40 := Tp.fr hT f10 (by decide) (by decide)
  refine x_cI (t := 6) (mj := 79) (n := 3) (rc := 8) (ml := 5) (nr := 0) (np := 11) (as := [x_r 1, iv_c 2147483648, iv_c v34]) (rest := []) (lo1 := [x_r 1, iv_c 2147483648, iv_c v34, 147573952589676412928, 147573952589676412928]) (by decide +kernel) (by decide) (by decide +kernel) (x_rb_of (by decide +kernel)) rfl rfl (x_wr (by decide) (x_wi (by decide) (x_wi (by first | decide | omega) x_wn))) x_wn (by decide) rfl (c79_1_c0 j9   (by first | decide | omega) m40) (fun v37 h41 l38 q39 => ?_)
  obtain ⟨j42, f43, b44, c45, c46, c47, c48⟩ := q39
  have f49 := Fr.trans f20 f43 (by decide)
  have q50 : h8 1 2 = h 1 2 := jK 0 f10 rg_1_2_0_1 (by first | decide | omega) (by first | decide | omega) (by decide)
  have b51 := jB (e := 2) 0 hJ rg_1_2_0_1 (by first | decide | omega) (by first | decide | omega)
  have b52 := jB (e := 2) 0 j42 rg_1_2_0_1 (by first | decide | omega) (by first | decide | omega)
  have q53 : h8 1 2 = h 1 2 := jK 0 f10 rg_1_2_0_1 (by first | decide | omega) (by first | decide | omega) (by decide)
  refine x_istore (np := 13) (x := 6) (lo' := [x_r 61, x_r ((h 61 1) + 7), iv_c v5, iv_c 2147483648, iv_c 2147483648, iv_c v34, iv_c v37]) (by decide +kernel) l38 (Nat.le_of_ble_eq_true rfl) rfl ?_
  refine x_iload (np := 15) (x := 6) (by decide +kernel) rfl l38 ?_
  refine x_const (np := 16) (x := 9223372034707292159) (a := 2147483647) (by decide +kernel) (by decide) (by decide) ?_
  refine x_icmp (k := 1) (tg := 21) (np := 19) (by decide +kernel) (by decide) l38 (by decide) (fun q54 => ?_) (fun q55 => ?_)
  · have q54 : v37 ≠ 2147483647 := q54
    have b56 := c46 (by first | decide | omega)
    refine x_aload (np := 22) (x := 1) (by decide +kernel) rfl (x_nc_le (tn_7 t1)) ?_
    refine x_iload (np := 23) (x := 2) (by decide +kernel) rfl l6 ?_
    refine x_iload (np := 24) (x := 3) (by decide +kernel) rfl (by decide) ?_
    refine x_iload (np := 26) (x := 6) (by decide +kernel) rfl l38 ?_
    refine x_nV (t := 6) (mj := 69) (n := 4) (rc := 7) (ml := 5) (nr := 0) (np := 29) (as := [x_r ((h 61 1) + 7), iv_c v5, iv_c 2147483648, iv_c v37]) (rest := []) (lo1 := [x_r ((h 61 1) + 7), iv_c v5, iv_c 2147483648, iv_c v37, 147573952589676412928]) (by decide +kernel) (by decide) (by decide +kernel) (x_rb_of (tr_7_7 t1)) rfl rfl (x_wr (tn_7 t1) (x_wi l6 (x_wi (by decide) (x_wi l38 x_wn)))) x_wn (by decide) rfl ?_
    refine x_iload (np := 1) (x := 1) (by decide +kernel) rfl l6 ?_
    refine x_ifz (k := 2) (tg := 28) (np := 4) (by decide +kernel) (by decide) l6 (fun q57 => ?_) (fun q58 => ?_)
    · have q57 : v5 < 2147483648 := q57
      exfalso; omega
    have q58 : ¬ (v5 < 2147483648) := q58
    refine x_iload (np := 5) (x := 1) (by decide +kernel) rfl l6 ?_
    refine x_aload (np := 6) (x := 0) (by decide +kernel) rfl (x_nc_le (tn_7 t1)) ?_
    have q59 : h41 ((h 61 1) + 7) 2 = h8 ((h 61 1) + 7) 2 := jK 0 f43 (rg_T7_2_0_1 t1) (by first | decide | omega) (by first | decide | omega) (by decide)
    refine x_getC (np := 9) (x := 386) (f := 2) (q := (h8 ((h 61 1) + 7) 2)) (by decide +kernel) (by decide) (tg_7_386_2_0 t1) q59 (fun l60 => ?_)
    refine x_icmp (k := 3) (tg := 28) (np := 12) (by decide +kernel) (by decide) l6 l60 (fun q61 => ?_) (fun q62 => ?_)
    · have q61 : (h8 ((h 61 1) + 7) 2) ≤ v5 := q61
      exfalso; omega
    have q62 : ¬ ((h8 ((h 61 1) + 7) 2) ≤ v5) := q62
    refine x_iload (np := 13) (x := 2) (by decide +kernel) rfl (by decide) ?_
    refine x_ifz (k := 2) (tg := 28) (np := 16) (by decide +kernel) (by decide) (by decide) (fun q63 => ?_) (fun q64 => ?_)
    · have q63 : 2147483648 < 2147483648 := q63
      exfalso; omega
    have q64 : ¬ (2147483648 < 2147483648) := q64
    refine x_iload (np := 17) (x := 2) (by decide +kernel) rfl (by decide) ?_
    refine x_aload (np := 18) (x := 0) (by decide +kernel) rfl (x_nc_le (tn_7 t1)) ?_
    have q65 : h41 ((h 61 1) + 7) 0 = h8 ((h 61 1) + 7) 0 := jK 0 f43 (rg_T7_0_0_1 t1) (by first | decide | omega) (by first | decide | omega) (by decide)
    have q66 : h8 ((h 61 1) + 7) 0 = h ((h 61 1) + 7) 0 := jK 0 f10 (rg_T7_0_0_1 t1) (by first | decide | omega) (by first | decide | omega) (by decide)
    have b67 := jB (e := 0) 0 hJ (rg_T7_0_0_1 t1) (by first | decide | omega) (by first | decide | omega)
    have q68 : (h ((h 61 1) + 7) 0) = 2147483652 := by first | decide | omega
    refine x_getC (np := 21) (x := 384) (f := 0) (q := 2147483652) (by decide +kernel) (by decide) (tg_7_384_0_0 t1) ((q65.trans q66).trans q68) (fun l69 => ?_)
    refine x_icmp (k := 3) (tg := 28) (np := 24) (by decide +kernel) (by decide) (by decide) (by decide) (fun q70 => ?_) (fun q71 => ?_)
    · have q70 : 2147483652 ≤ 2147483648 := q70
      exfalso; omega
    have q71 : ¬ (2147483652 ≤ 2147483648) := q71
    refine x_const (np := 25) (x := 9223372043297226753) (a := 2147483649) (by decide +kernel) (by decide) (by decide) ?_
    refine x_goto (np := 28) (x := 29) (by decide +kernel) ?_
    refine x_istore (np := 31) (x := 4) (lo' := [x_r ((h 61 1) + 7), iv_c v5, iv_c 2147483648, iv_c v37, iv_c 2147483649]) (by decide +kernel) (by decide) (Nat.le_of_ble_eq_true rfl) rfl ?_
    refine x_iload (np := 33) (x := 4) (by decide +kernel) rfl (by decide) ?_
    refine x_ifz (k := 0) (tg := 50) (np := 36) (by decide +kernel) (by decide) (by decide) (fun q72 => ?_) (fun q73 => ?_)
    · have q72 : 2147483649 = 2147483648 := q72
      exfalso; omega
    have q73 : ¬ (2147483649 = 2147483648) := q73
    refine x_aload (np := 37) (x := 0) (by decide +kernel) rfl (x_nc_le (tn_7 t1)) ?_
    have q74 : h41 ((h 61 1) + 7) 1 = ((h 61 1) + 8) := tf_7_1 j42 t1
    refine x_getR (np := 40) (x := 385) (f := 1) (q := ((h 61 1) + 8)) (by decide +kernel) (by decide) (tg_7_385_1_1 t1) q74 ?_
    refine x_iload (np := 41) (x := 1) (by decide +kernel) rfl l6 ?_
    refine x_aload (np := 42) (x := 0) (by decide +kernel) rfl (x_nc_le (tn_7 t1)) ?_
    have q75 : h41 ((h 61 1) + 7) 0 = h8 ((h 61 1) + 7) 0 := jK 0 f43 (rg_T7_0_0_1 t1) (by first | decide | omega) (by first | decide | omega) (by decide)
    have q76 : h8 ((h 61 1) + 7) 0 = h ((h 61 1) + 7) 0 := jK 0 f10 (rg_T7_0_0_1 t1) (by first | decide | omega) (by first | decide | omega) (by decide)
    refine x_getC (np := 45) (x := 384) (f := 0) (q := 2147483652) (by decide +kernel) (by decide) (tg_7_384_0_0 t1) ((q75.trans q76).trans q68) (fun l77 => ?_)
    obtain ⟨u78, q79⟩ : ∃ z, v5 = 2147483648 + z := ⟨v5 - 2147483648, by first | decide | omega⟩
    refine x_imul (np := 46) (x := 0) (i := u78) (j := 4) (v := (2147483648 + 4 * u78)) (by decide +kernel) (by first | decide | omega) (by first | decide | omega) (by first | decide | omega) (by first | decide | omega) l6 (by decide) ?_
    refine x_iload (np := 47) (x := 2) (by decide +kernel) rfl (by decide) ?_
    refine x_iadd (np := 48) (x := 0) (v := (2147483648 + 4 * u78)) (by decide +kernel) (by first | decide | omega) (by decide) (by first | decide | omega) (by first | decide | omega) ?_
    refine x_iload (np := 49) (x := 3) (by decide +kernel) rfl l38 ?_
    refine x_ast (np := 50) (x := 0) (kd := 1) (n := 40) (i := (4 * u78)) (by decide +kernel) (Or.inl rfl) (ta_8_40 t1) (by first | decide | omega) (by first | decide | omega) (by decide) l38 (fun z => absurd z (by decide)) ?_
    have j82 := jU (e := (4 * u78)) (v := v37) u78 j42 (rg_T8_0_4_10 t1) (by first | decide | omega) (by first | decide | omega) (by first | decide | omega)
    have f84 := jF (e := (4 * u78)) (v := v37) u78 f49 (rg_T8_0_4_10 t1) (by first | decide | omega) (by first | decide | omega) (by decide)
    generalize e83 : x_up h41 ((h 61 1) + 8) (4 * u78) v37 = h81 at j82 f84 ⊢
    refine x_retV (np := 51) (x := 0) (by decide +kernel) (by decide +kernel) ⟨rfl, ?_⟩
    refine x_const (np := 30) (x := 9223372043297226753) (a := 2147483649) (by decide +kernel) (by decide) (by decide) ?_
    refine x_retI (np := 31) (x := 0) (by decide +kernel) (by decide) (Or.inr ⟨by decide +kernel, by first | decide | omega, by first | decide | omega⟩) ⟨_, rfl, (by decide), ?_⟩
    refine x_ifz (k := 0) (tg := 88) (np := 37) (by decide +kernel) (by decide) (by decide) (fun q85 => ?_) (fun q86 => ?_)
    · have q85 : 2147483649 = 2147483648 := q85
      exfalso; omega
    have q86 : ¬ (2147483649 = 2147483648) := q86
    refine x_aload (np := 38) (x := 0) (by decide +kernel) rfl (x_nc_le (by decide)) ?_
    have q87 : h81 61 0 = 1 := by have z := jB (e := 0) 0 j82 rg_61_0_0_1 (by decide) (by decide); omega
    refine x_getR (np := 41) (x := 576) (f := 0) (q := 1) (by decide +kernel) (by decide) (by decide +kernel) q87 ?_
    refine x_ldcB (i := 2) (idx := 111) (tx := "day") (by rw [tb_y100]; exact List.mem_of_getElem? (i := 2) rfl) (by decide) (by rw [tb_b100]; decide +kernel) ?_
    have m92 := Tp.fr m40 f43 (by decide) (by decide)
    have m91 : Tp tB tN h81 := by rw [← e83]; exact Tp.oth m92 (tne_8_2 t1) (fun z => absurd z.1 (tne_8_1 t1))
    refine x_cI (t := 6) (mj := 78) (n := 2) (rc := 8) (ml := 2) (nr := 0) (np := 46) (as := [x_r 1, x_b (2 + 1)]) (rest := []) (lo1 := [x_r 1, x_b (2 + 1)]) (by decide +kernel) (by decide) (by decide +kernel) (x_rb_of (by decide +kernel)) rfl rfl (x_wr (by decide) (x_wB (by decide) x_wn)) x_wn (by decide) rfl (c78_1_S0 j82  (by decide) m91) (fun v88 h93 l89 q90 => ?_)
    obtain ⟨j94, f95, b96, c97, c98, c99⟩ := q90
    have f100 := Fr.trans f84 f95 (by decide)
    have q101 : h81 1 2 = h41 1 2 := by rw [← e83]; exact x_up_k (Ne.symm (tne_8_1 t1))
    have b102 := jB (e := 2) 0 j94 rg_1_2_0_1 (by first | decide | omega) (by first | decide | omega)
    have b103 : iv_tl 2 = 3 := by decide
    have q104 : h81 1 2 = h41 1 2 := by rw [← e83]; exact x_up_k (Ne.symm (tne_8_1 t1))
    refine x_ifz (k := 0) (tg := 88) (np := 49) (by decide +kernel) (by decide) l89 (fun q105 => ?_) (fun q106 => ?_)
    · have q105 : v88 = 2147483648 := q105
      have b107 := c98 (by first | decide | omega)
      refine x_const (np := 89) (x := 9223372039002259456) (a := 2147483648) (by decide +kernel) (by decide) (by decide) ?_
      have e108 : rv h 0 = (h (h 61 1) 7) := (congrArg (fun z => svq h z 0) rfl).trans rfl
      have q109 : h93 61 1 = h81 61 1 := f95 61 1 (by decide +kernel)
      have q110 : h81 61 1 = h41 61 1 := by rw [← e83]; exact x_up_k (Ne.symm (tne_8_61 t1))
      have q111 : h41 61 1 = h8 61 1 := f43 61 1 (by decide +kernel)
      have q112 : h8 61 1 = h 61 1 := f10 61 1 (by decide +kernel)
      have q113 : h93 (h 61 1) 7 = h81 (h 61 1) 7 := jK 0 f95 (rg_T0_7_0_1 t1) (by first | decide | omega) (by first | decide | omega) (by decide)
      have q114 : h81 (h 61 1) 7 = h41 (h 61 1) 7 := by rw [← e83]; exact x_up_k tof_0_8
      have q115 : h41 (h 61 1) 7 = h8 (h 61 1) 7 := jK 0 f43 (rg_T0_7_0_1 t1) (by first | decide | omega) (by first | decide | omega) (by decide)
      have e116 : rv h93 0 = (h8 (h 61 1) 7) := (congrArg (fun z => svq h93 z 0) (((q109.trans q110).trans q111).trans q112)).trans ((q113.trans q114).trans q115)
      have e117 : rv h 1 = (h (h 61 1) 8) := (congrArg (fun z => svq h z 1) rfl).trans rfl
      have q118 : h93 61 1 = h81 61 1 := f95 61 1 (by decide +kernel)
      have q119 : h81 61 1 = h41 61 1 := by rw [← e83]; exact x_up_k (Ne.symm (tne_8_61 t1))
      have q120 : h41 61 1 = h8 61 1 := f43 61 1 (by decide +kernel)
      have q121 : h8 61 1 = h 61 1 := f10 61 1 (by decide +kernel)
      have q122 : h93 (h 61 1) 8 = h81 (h 61 1) 8 := jK 0 f95 (rg_T0_8_0_1 t1) (by first | decide | omega) (by first | decide | omega) (by decide)
      have q123 : h81 (h 61 1) 8 = h41 (h 61 1) 8 := by rw [← e83]; exact x_up_k tof_0_8
      have q124 : h41 (h 61 1) 8 = h8 (h 61 1) 8 := jK 0 f43 (rg_T0_8_0_1 t1) (by first | decide | omega) (by first | decide | omega) (by decide)
      have e125 : rv h93 1 = (h8 (h 61 1) 8) := (congrArg (fun z => svq h93 z 1) (((q118.trans q119).trans q120).trans q121)).trans ((q122.trans q123).trans q124)
      have e126 : rv h 2 = (h ((h 61 1) + 1) 2) := (congrArg (fun z => svq h z 2) rfl).trans rfl
      have q127 : h93 61 1 = h81 61 1 := f95 61 1 (by decide +kernel)
      have q128 : h81 61 1 = h41 61 1 := by rw [← e83]; exact x_up_k (Ne.symm (tne_8_61 t1))
      have q129 : h41 61 1 = h8 61 1 := f43 61 1 (by decide +kernel)
      have q130 : h8 61 1 = h 61 1 := f10 61 1 (by decide +kernel)
      have q131 : h93 ((h 61 1) + 1) 2 = h81 ((h 61 1) + 1) 2 := jK 0 f95 (rg_T1_2_0_1 t1) (by first | decide | omega) (by first | decide | omega) (by decide)
      have q132 : h81 ((h 61 1) + 1) 2 = h41 ((h 61 1) + 1) 2 := by rw [← e83]; exact x_up_k tof_1_8
      have q133 : h41 ((h 61 1) + 1) 2 = h8 ((h 61 1) + 1) 2 := jK 0 f43 (rg_T1_2_0_1 t1) (by first | decide | omega) (by first | decide | omega) (by decide)
      have e134 : rv h93 2 = (h8 ((h 61 1) + 1) 2) := (congrArg (fun z => svq h93 z 2) (((q127.trans q128).trans q129).trans q130)).trans ((q131.trans q132).trans q133)
      have e135 : rv h 3 = (h ((h 61 1) + 3) 2) := (congrArg (fun z => svq h z 3) rfl).trans rfl
      have q136 : h93 61 1 = h81 61 1 := f95 61 1 (by decide +kernel)
      have q137 : h81 61 1 = h41 61 1 := by rw [← e83]; exact x_up_k (Ne.symm (tne_8_61 t1))
      have q138 : h41 61 1 = h8 61 1 := f43 61 1 (by decide +kernel)
      have q139 : h8 61 1 = h 61 1 := f10 61 1 (by decide +kernel)
      have q140 : h93 ((h 61 1) + 3) 2 = h81 ((h 61 1) + 3) 2 := jK 0 f95 (rg_T3_2_0_1 t1) (by first | decide | omega) (by first | decide | omega) (by decide)
      have q141 : h81 ((h 61 1) + 3) 2 = h41 ((h 61 1) + 3) 2 := by rw [← e83]; exact x_up_k tof_3_8
      have q142 : h41 ((h 61 1) + 3) 2 = h8 ((h 61 1) + 3) 2 := jK 0 f43 (rg_T3_2_0_1 t1) (by first | decide | omega) (by first | decide | omega) (by decide)
      have e143 : rv h93 3 = (h8 ((h 61 1) + 3) 2) := (congrArg (fun z => svq h93 z 3) (((q136.trans q137).trans q138).trans q139)).trans ((q140.trans q141).trans q142)
      have e144 : rv h 4 = (h ((h 61 1) + 5) 2) := (congrArg (fun z => svq h z 4) rfl).trans rfl
      have q145 : h93 61 1 = h81 61 1 := f95 61 1 (by decide +kernel)
      have q146 : h81 61 1 = h41 61 1 := by rw [← e83]; exact x_up_k (Ne.symm (tne_8_61 t1))
      have q147 : h41 61 1 = h8 61 1 := f43 61 1 (by decide +kernel)
      have q148 : h8 61 1 = h 61 1 := f10 61 1 (by decide +kernel)
      have q149 : h93 ((h 61 1) + 5) 2 = h81 ((h 61 1) + 5) 2 := jK 0 f95 (rg_T5_2_0_1 t1) (by first | decide | omega) (by first | decide | omega) (by decide)
      have q150 : h81 ((h 61 1) + 5) 2 = h41 ((h 61 1) + 5) 2 := by rw [← e83]; exact x_up_k tof_5_8
      have q151 : h41 ((h 61 1) + 5) 2 = h8 ((h 61 1) + 5) 2 := jK 0 f43 (rg_T5_2_0_1 t1) (by first | decide | omega) (by first | decide | omega) (by decide)
      have e152 : rv h93 4 = (h8 ((h 61 1) + 5) 2) := (congrArg (fun z => svq h93 z 4) (((q145.trans q146).trans q147).trans q148)).trans ((q149.trans q150).trans q151)
      have q153 : h93 61 1 = h81 61 1 := f95 61 1 (by decide +kernel)
      have q154 : h81 61 1 = h41 61 1 := by rw [← e83]; exact x_up_k (Ne.symm (tne_8_61 t1))
      have q155 : h41 61 1 = h8 61 1 := f43 61 1 (by decide +kernel)
      have q156 : h8 61 1 = h 61 1 := f10 61 1 (by decide +kernel)
      have q157 : h93 ((h 61 1) + 7) 2 = h81 ((h 61 1) + 7) 2 := jK 0 f95 (rg_T7_2_0_1 t1) (by first | decide | omega) (by first | decide | omega) (by decide)
      have q158 : h81 ((h 61 1) + 7) 2 = h41 ((h 61 1) + 7) 2 := by rw [← e83]; exact x_up_k tof_7_8
      have q159 : h41 ((h 61 1) + 7) 2 = h8 ((h 61 1) + 7) 2 := jK 0 f43 (rg_T7_2_0_1 t1) (by first | decide | omega) (by first | decide | omega) (by decide)
      have e160 : rv h93 5 = (h8 ((h 61 1) + 7) 2) := (congrArg (fun z => svq h93 z 5) (((q153.trans q154).trans q155).trans q156)).trans ((q157.trans q158).trans q159)
      have q161 : h8 1 2 = h 1 2 := jK 0 f10 rg_1_2_0_1 (by first | decide | omega) (by first | decide | omega) (by decide)
      have q162 : h81 1 2 = h41 1 2 := by rw [← e83]; exact x_up_k (Ne.symm (tne_8_1 t1))
      obtain ⟨w163, e164⟩ := Tk.no c99 (by first | decide | omega)
      have m165 : Ot (h 61 1) h h8 := Ot.trans Ot.refl (c19)
      have m166 : Ot (h 61 1) h h41 := Ot.fr m165 f43 (by decide)
      have m167 : Ot (h 61 1) h h81 := by rw [← e83]; exact Ot.up (o := 8) m166 t1 (by decide) rfl
      have m168 : Ot (h 61 1) h h93 := Ot.fr m167 f95 (by decide)
      refine x_retI (np := 90) (x := 0) (by decide +kernel) (by decide) (Or.inr ⟨by decide +kernel, by first | decide | omega, by first | decide | omega⟩) ⟨_, rfl, (by decide), ?_⟩
      exact ⟨j94, f100, (by first | decide | omega), (by first | decide | omega), (by first | decide | omega), (by first | decide | omega), (by first | decide | omega), (by first | decide | omega), (fun z => by first | decide | omega), (nm9.y c48 (by first | decide | omega) (by first | decide | omega) (show h8 1 2 = h 1 2 by first | decide | omega) (by first | decide | omega) rfl (wd9.f w163 (show h81 1 2 = h41 1 2 by first | decide | omega) (by first | decide | omega))), m168⟩
    have q106 : ¬ (v88 = 2147483648) := q106
    have b169 := c97 (by first | decide | omega)
    refine x_aload (np := 50) (x := 0) (by decide +kernel) rfl (x_nc_le (by decide)) ?_
    refine x_aload (np := 51) (x := 0) (by decide +kernel) rfl (x_nc_le (by decide)) ?_
    have q170 : h93 61 1 = h81 61 1 := f95 61 1 (by decide +kernel)
    have q171 : h81 61 1 = h41 61 1 := by rw [← e83]; exact x_up_k (Ne.symm (tne_8_61 t1))
    have q172 : h41 61 1 = h8 61 1 := f43 61 1 (by decide +kernel)
    have q173 : h8 61 1 = h 61 1 := f10 61 1 (by decide +kernel)
    refine x_getR (np := 54) (x := 577) (f := 1) (q := (h 61 1)) (by decide +kernel) (by decide) (by decide +kernel) (((q170.trans q171).trans q172).trans q173) ?_
    have q174 : h93 (h 61 1) 3 = ((h 61 1) + 7) := tf_0_3 j94 t1
    refine x_getR (np := 57) (x := 515) (f := 3) (q := ((h 61 1) + 7)) (by decide +kernel) (by decide) (tg_0_515_3_1 t1) q174 ?_
    refine x_iload (np := 58) (x := 1) (by decide +kernel) rfl l6 ?_
    refine x_const (np := 59) (x := 9223372043297226753) (a := 2147483649) (by decide +kernel) (by decide) (by decide) ?_
    refine x_const (np := 60) (x := 9223372039002259456) (a := 2147483648) (by decide +kernel) (by decide) (by decide) ?_
    refine x_const (np := 62) (x := 9223372086246899723) (a := 2147483659) (by decide +kernel) (by decide) (by decide) ?_
    refine x_nI (t := 6) (mj := 102) (n := 6) (rc := 10) (ml := 7) (nr := 0) (np := 65) (as := [x_r 61, x_r ((h 61 1) + 7), iv_c v5, iv_c 2147483649, iv_c 2147483648, iv_c 2147483659]) (rest := []) (lo1 := [x_r 61, x_r ((h 61 1) + 7), iv_c v5, iv_c 2147483649, iv_c 2147483648, iv_c 2147483659, 147573952589676412928]) (by decide +kernel) (by decide) (by decide +kernel) (x_rb_of (by decide +kernel)) rfl rfl (x_wr (by decide) (x_wr (tn_7 t1) (x_wi l6 (x_wi (by decide) (x_wi (by decide) (x_wi (by decide) x_wn)))))) x_wn (by decide) rfl ?_
    refine x_aload (np := 1) (x := 0) (by decide +kernel) rfl (x_nc_le (by decide)) ?_
    have q175 : h93 61 0 = 1 := by have z := jB (e := 0) 0 j94 rg_61_0_0_1 (by decide) (by decide); omega
    refine x_getR (np := 4) (x := 576) (f := 0) (q := 1) (by decide +kernel) (by decide) (by decide +kernel) q175 ?_
    refine x_iload (np := 6) (x := 4) (by decide +kernel) rfl (by decide) ?_
    refine x_iload (np := 8) (x := 5) (by decide +kernel) rfl (by decide) ?_
    have m179 := Tp.fr m91 f95 (by decide) (by decide)
    refine x_cI (t := 6) (mj := 79) (n := 3) (rc := 8) (ml := 5) (nr := 0) (np := 11) (as := [x_r 1, iv_c 2147483648, iv_c 2147483659]) (rest := []) (lo1 := [x_r 1, iv_c 2147483648, iv_c 2147483659, 147573952589676412928, 147573952589676412928]) (by decide +kernel) (by decide) (by decide +kernel) (x_rb_of (by decide +kernel)) rfl rfl (x_wr (by decide) (x_wi (by decide) (x_wi (by decide) x_wn))) x_wn (by decide) rfl (c79_1_c0 j94   (by first | decide | omega) m179) (fun v176 h180 l177 q178 => ?_)
    obtain ⟨j181, f182, b183, c184, c185, c186, c187⟩ := q178
    have f188 := Fr.trans f100 f182 (by decide)
    have b189 := jB (e := 2) 0 j181 rg_1_2_0_1 (by first | decide | omega) (by first | decide | omega)
    refine x_istore (np := 13) (x := 6) (lo' := [x_r 61, x_r ((h 61 1) + 7), iv_c v5, iv_c 2147483649, iv_c 2147483648, iv_c 2147483659, iv_c v176]) (by decide +kernel) l177 (Nat.le_of_ble_eq_true rfl) rfl ?_
    refine x_iload (np := 15) (x := 6) (by decide +kernel) rfl l177 ?_
    refine x_const (np := 16) (x := 9223372034707292159) (a := 2147483647) (by decide +kernel) (by decide) (by decide) ?_
    refine x_icmp (k := 1) (tg := 21) (np := 19) (by decide +kernel) (by decide) l177 (by decide) (fun q190 => ?_) (fun q191 => ?_)
    · have q190 : v176 ≠ 2147483647 := q190
      have b192 := c185 (by first | decide | omega)
      refine x_aload (np := 22) (x := 1) (by decide +kernel) rfl (x_nc_le (tn_7 t1)) ?_
      refine x_iload (np := 23) (x := 2) (by decide +kernel) rfl l6 ?_
      refine x_iload (np := 24) (x := 3) (by decide +kernel) rfl (by decide) ?_
      refine x_iload (np := 26) (x := 6) (by decide +kernel) rfl l177 ?_
      refine x_nV (t := 6) (mj := 69) (n := 4) (rc := 7) (ml := 5) (nr := 0) (np := 29) (as := [x_r ((h 61 1) + 7), iv_c v5, iv_c 2147483649, iv_c v176]) (rest := []) (lo1 := [x_r ((h 61 1) + 7), iv_c v5, iv_c 2147483649, iv_c v176, 147573952589676412928]) (by decide +kernel) (by decide) (by decide +kernel) (x_rb_of (tr_7_7 t1)) rfl rfl (x_wr (tn_7 t1) (x_wi l6 (x_wi (by decide) (x_wi l177 x_wn)))) x_wn (by decide) rfl ?_
      refine x_iload (np := 1) (x := 1) (by decide +kernel) rfl l6 ?_
      refine x_ifz (k := 2) (tg := 28) (np := 4) (by decide +kernel) (by decide) l6 (fun q193 => ?_) (fun q194 => ?_)
      · have q193 : v5 < 2147483648 := q193
        exfalso; omega
      have q194 : ¬ (v5 < 2147483648) := q194
      refine x_iload (np := 5) (x := 1) (by decide +kernel) rfl l6 ?_
      refine x_aload (np := 6) (x := 0) (by decide +kernel) rfl (x_nc_le (tn_7 t1)) ?_
      have q195 : h180 ((h 61 1) + 7) 2 = h93 ((h 61 1) + 7) 2 := jK 0 f182 (rg_T7_2_0_1 t1) (by first | decide | omega) (by first | decide | omega) (by decide)
      have q196 : h93 ((h 61 1) + 7) 2 = h81 ((h 61 1) + 7) 2 := jK 0 f95 (rg_T7_2_0_1 t1) (by first | decide | omega) (by first | decide | omega) (by decide)
      have q197 : h81 ((h 61 1) + 7) 2 = h41 ((h 61 1) + 7) 2 := by rw [← e83]; exact x_up_k tof_7_8
      have q198 : h41 ((h 61 1) + 7) 2 = h8 ((h 61 1) + 7) 2 := jK 0 f43 (rg_T7_2_0_1 t1) (by first | decide | omega) (by first | decide | omega) (by decide)
      refine x_getC (np := 9) (x := 386) (f := 2) (q := (h8 ((h 61 1) + 7) 2)) (by decide +kernel) (by decide) (tg_7_386_2_0 t1) (((q195.trans q196).trans q197).trans q198) (fun l199 => ?_)
      refine x_icmp (k := 3) (tg := 28) (np := 12) (by decide +kernel) (by decide) l6 l60 (fun q200 => ?_) (fun q201 => ?_)
      · have q200 : (h8 ((h 61 1) + 7) 2) ≤ v5 := q200
        exfalso; omega
      have q201 : ¬ ((h8 ((h 61 1) + 7) 2) ≤ v5) := q201
      refine x_iload (np := 13) (x := 2) (by decide +kernel) rfl (by decide) ?_
      refine x_ifz (k := 2) (tg := 28) (np := 16) (by decide +kernel) (by decide) (by decide) (fun q202 => ?_) (fun q203 => ?_)
      · have q202 : 2147483649 < 2147483648 := q202
        exfalso; omega
      have q203 : ¬ (2147483649 < 2147483648) := q203
      refine x_iload (np := 17) (x := 2) (by decide +kernel) rfl (by decide) ?_
      refine x_aload (np := 18) (x := 0) (by decide +kernel) rfl (x_nc_le (tn_7 t1)) ?_
      have q204 : h180 ((h 61 1) + 7) 0 = h93 ((h 61 1) + 7) 0 := jK 0 f182 (rg_T7_0_0_1 t1) (by first | decide | omega) (by first | decide | omega) (by decide)
      have q205 : h93 ((h 61 1) + 7) 0 = h81 ((h 61 1) + 7) 0 := jK 0 f95 (rg_T7_0_0_1 t1) (by first | decide | omega) (by first | decide | omega) (by decide)
      have q206 : h81 ((h 61 1) + 7) 0 = h41 ((h 61 1) + 7) 0 := by rw [← e83]; exact x_up_k tof_7_8
      have q207 : h41 ((h 61 1) + 7) 0 = h8 ((h 61 1) + 7) 0 := jK 0 f43 (rg_T7_0_0_1 t1) (by first | decide | omega) (by first | decide | omega) (by decide)
      have q208 : h8 ((h 61 1) + 7) 0 = h ((h 61 1) + 7) 0 := jK 0 f10 (rg_T7_0_0_1 t1) (by first | decide | omega) (by first | decide | omega) (by decide)
      refine x_getC (np := 21) (x := 384) (f := 0) (q := 2147483652) (by decide +kernel) (by decide) (tg_7_384_0_0 t1) (((((q204.trans q205).trans q206).trans q207).trans q208).trans q68) (fun l209 => ?_)
      refine x_icmp (k := 3) (tg := 28) (np := 24) (by decide +kernel) (by decide) (by decide) (by decide) (fun q210 => ?_) (fun q211 => ?_)
      · have q210 : 2147483652 ≤ 2147483649 := q210
        exfalso; omega
      have q211 : ¬ (2147483652 ≤ 2147483649) := q211
      refine x_const (np := 25) (x := 9223372043297226753) (a := 2147483649) (by decide +kernel) (by decide) (by decide) ?_
      refine x_goto (np := 28) (x := 29) (by decide +kernel) ?_
      refine x_istore (np := 31) (x := 4) (lo' := [x_r ((h 61 1) + 7), iv_c v5, iv_c 2147483649, iv_c v176, iv_c 2147483649]) (by decide +kernel) (by decide) (Nat.le_of_ble_eq_true rfl) rfl ?_
      refine x_iload (np := 33) (x := 4) (by decide +kernel) rfl (by decide) ?_
      refine x_ifz (k := 0) (tg := 50) (np := 36) (by decide +kernel) (by decide) (by decide) (fun q212 => ?_) (fun q213 => ?_)
      · have q212 : 2147483649 = 2147483648 := q212
        exfalso; omega
      have q213 : ¬ (2147483649 = 2147483648) := q213
      refine x_aload (np := 37) (x := 0) (by decide +kernel) rfl (x_nc_le (tn_7 t1)) ?_
      have q214 : h180 ((h 61 1) + 7) 1 = ((h 61 1) + 8) := tf_7_1 j181 t1
      refine x_getR (np := 40) (x := 385) (f := 1) (q := ((h 61 1) + 8)) (by decide +kernel) (by decide) (tg_7_385_1_1 t1) q214 ?_
      refine x_iload (np := 41) (x := 1) (by decide +kernel) rfl l6 ?_
      refine x_aload (np := 42) (x := 0) (by decide +kernel) rfl (x_nc_le (tn_7 t1)) ?_
      have q215 : h180 ((h 61 1) + 7) 0 = h93 ((h 61 1) + 7) 0 := jK 0 f182 (rg_T7_0_0_1 t1) (by first | decide | omega) (by first | decide | omega) (by decide)
      have q216 : h93 ((h 61 1) + 7) 0 = h81 ((h 61 1) + 7) 0 := jK 0 f95 (rg_T7_0_0_1 t1) (by first | decide | omega) (by first | decide | omega) (by decide)
      have q217 : h81 ((h 61 1) + 7) 0 = h41 ((h 61 1) + 7) 0 := by rw [← e83]; exact x_up_k tof_7_8
      have q218 : h41 ((h 61 1) + 7) 0 = h8 ((h 61 1) + 7) 0 := jK 0 f43 (rg_T7_0_0_1 t1) (by first | decide | omega) (by first | decide | omega) (by decide)
      have q219 : h8 ((h 61 1) + 7) 0 = h ((h 61 1) + 7) 0 := jK 0 f10 (rg_T7_0_0_1 t1) (by first | decide | omega) (by first | decide | omega) (by decide)
      refine x_getC (np := 45) (x := 384) (f := 0) (q := 2147483652) (by decide +kernel) (by decide) (tg_7_384_0_0 t1) (((((q215.trans q216).trans q217).trans q218).trans q219).trans q68) (fun l220 => ?_)
      refine x_imul (np := 46) (x := 0) (i := u78) (j := 4) (v := (2147483648 + 4 * u78)) (by decide +kernel) (by first | decide | omega) (by first | decide | omega) (by first | decide | omega) (by first | decide | omega) l6 (by decide) ?_
      refine x_iload (np := 47) (x := 2) (by decide +kernel) rfl (by decide) ?_
      refine x_iadd (np := 48) (x := 0) (v := (2147483649 + 4 * u78)) (by decide +kernel) (by first | decide | omega) (by decide) (by first | decide | omega) (by first | decide | omega) ?_
      refine x_iload (np := 49) (x := 3) (by decide +kernel) rfl l177 ?_
      refine x_ast (np := 50) (x := 0) (kd := 1) (n := 40) (i := (1 + 4 * u78)) (by decide +kernel) (Or.inl rfl) (ta_8_40 t1) (by first | decide | omega) (by first | decide | omega) (by decide) l177 (fun z => absurd z (by decide)) ?_
      have j223 := jU (e := (1 + 4 * u78)) (v := v176) u78 j181 (rg_T8_1_4_10 t1) (by first | decide | omega) (by first | decide | omega) (by first | decide | omega)
      have f225 := jF (e := (1 + 4 * u78)) (v := v176) u78 f188 (rg_T8_1_4_10 t1) (by first | decide | omega) (by first | decide | omega) (by decide)
      generalize e224 : x_up h180 ((h 61 1) + 8) (1 + 4 * u78) v176 = h222 at j223 f225 ⊢
      refine x_retV (np := 51) (x := 0) (by decide +kernel) (by decide +kernel) ⟨rfl, ?_⟩
      refine x_const (np := 30) (x := 9223372043297226753) (a := 2147483649) (by decide +kernel) (by decide) (by decide) ?_
      refine x_retI (np := 31) (x := 0) (by decide +kernel) (by decide) (Or.inr ⟨by decide +kernel, by first | decide | omega, by first | decide | omega⟩) ⟨_, rfl, (by decide), ?_⟩
      refine x_ifz (k := 0) (tg := 88) (np := 68) (by decide +kernel) (by decide) (by decide) (fun q226 => ?_) (fun q227 => ?_)
      · have q226 : 2147483649 = 2147483648 := q226
        exfalso; omega
      have q227 : ¬ (2147483649 = 2147483648) := q227
      refine x_aload (np := 69) (x := 0) (by decide +kernel) rfl (x_nc_le (by decide)) ?_
      have q228 : h222 61 0 = 1 := by have z := jB (e := 0) 0 j223 rg_61_0_0_1 (by decide) (by decide); omega
      refine x_getR (np := 72) (x := 576) (f := 0) (q := 1) (by decide +kernel) (by decide) (by decide +kernel) q228 ?_
      refine x_ldcB (i := 14) (idx := 157) (tx := "as") (by rw [tb_y100]; exact List.mem_of_getElem? (i := 14) rfl) (by decide) (by rw [tb_b100]; decide +kernel) ?_
      have m233 := Tp.fr m179 f182 (by decide) (by decide)
      have m232 : Tp tB tN h222 := by rw [← e224]; exact Tp.oth m233 (tne_8_2 t1) (fun z => absurd z.1 (tne_8_1 t1))
      refine x_cI (t := 6) (mj := 78) (n := 2) (rc := 8) (ml := 2) (nr := 0) (np := 77) (as := [x_r 1, x_b (14 + 1)]) (rest := []) (lo1 := [x_r 1, x_b (14 + 1)]) (by decide +kernel) (by decide) (by decide +kernel) (x_rb_of (by decide +kernel)) rfl rfl (x_wr (by decide) (x_wB (by decide) x_wn)) x_wn (by decide) rfl (c78_1_S0 j223  (by decide) m232) (fun v229 h234 l230 q231 => ?_)
      obtain ⟨j235, f236, b237, c238, c239, c240⟩ := q231
      have f241 := Fr.trans f225 f236 (by decide)
      have q242 : h222 1 2 = h180 1 2 := by rw [← e224]; exact x_up_k (Ne.symm (tne_8_1 t1))
      have b243 := jB (e := 2) 0 j235 rg_1_2_0_1 (by first | decide | omega) (by first | decide | omega)
      have b244 : iv_tl 14 = 2 := by decide
      have q245 : h222 1 2 = h180 1 2 := by rw [← e224]; exact x_up_k (Ne.symm (tne_8_1 t1))
      refine x_ifz (k := 0) (tg := 88) (np := 80) (by decide +kernel) (by decide) l230 (fun q246 => ?_) (fun q247 => ?_)
      · have q246 : v229 = 2147483648 := q246
        have b248 := c239 (by first | decide | omega)
        refine x_const (np := 89) (x := 9223372039002259456) (a := 2147483648) (by decide +kernel) (by decide) (by decide) ?_
        have e249 : rv h 0 = (h (h 61 1) 7) := (congrArg (fun z => svq h z 0) rfl).trans rfl
        have q250 : h234 61 1 = h222 61 1 := f236 61 1 (by decide +kernel)
        have q251 : h222 61 1 = h180 61 1 := by rw [← e224]; exact x_up_k (Ne.symm (tne_8_61 t1))
        have q252 : h180 61 1 = h93 61 1 := f182 61 1 (by decide +kernel)
        have q253 : h93 61 1 = h81 61 1 := f95 61 1 (by decide +kernel)
        have q254 : h81 61 1 = h41 61 1 := by rw [← e83]; exact x_up_k (Ne.symm (tne_8_61 t1))
        have q255 : h41 61 1 = h8 61 1 := f43 61 1 (by decide +kernel)
        have q256 : h8 61 1 = h 61 1 := f10 61 1 (by decide +kernel)
        have q257 : h234 (h 61 1) 7 = h222 (h 61 1) 7 := jK 0 f236 (rg_T0_7_0_1 t1) (by first | decide | omega) (by first | decide | omega) (by decide)
        have q258 : h222 (h 61 1) 7 = h180 (h 61 1) 7 := by rw [← e224]; exact x_up_k tof_0_8
        have q259 : h180 (h 61 1) 7 = h93 (h 61 1) 7 := jK 0 f182 (rg_T0_7_0_1 t1) (by first | decide | omega) (by first | decide | omega) (by decide)
        have q260 : h93 (h 61 1) 7 = h81 (h 61 1) 7 := jK 0 f95 (rg_T0_7_0_1 t1) (by first | decide | omega) (by first | decide | omega) (by decide)
        have q261 : h81 (h 61 1) 7 = h41 (h 61 1) 7 := by rw [← e83]; exact x_up_k tof_0_8
        have q262 : h41 (h 61 1) 7 = h8 (h 61 1) 7 := jK 0 f43 (rg_T0_7_0_1 t1) (by first | decide | omega) (by first | decide | omega) (by decide)
        have e263 : rv h234 0 = (h8 (h 61 1) 7) := (congrArg (fun z => svq h234 z 0) ((((((q250.trans q251).trans q252).trans q253).trans q254).trans q255).trans q256)).trans (((((q257.trans q258).trans q259).trans q260).trans q261).trans q262)
        have e264 : rv h 1 = (h (h 61 1) 8) := (congrArg (fun z => svq h z 1) rfl).trans rfl
        have q265 : h234 61 1 = h222 61 1 := f236 61 1 (by decide +kernel)
        have q266 : h222 61 1 = h180 61 1 := by rw [← e224]; exact x_up_k (Ne.symm (tne_8_61 t1))
        have q267 : h180 61 1 = h93 61 1 := f182 61 1 (by decide +kernel)
        have q268 : h93 61 1 = h81 61 1 := f95 61 1 (by decide +kernel)
        have q269 : h81 61 1 = h41 61 1 := by rw [← e83]; exact x_up_k (Ne.symm (tne_8_61 t1))
        have q270 : h41 61 1 = h8 61 1 := f43 61 1 (by decide +kernel)
        have q271 : h8 61 1 = h 61 1 := f10 61 1 (by decide +kernel)
        have q272 : h234 (h 61 1) 8 = h222 (h 61 1) 8 := jK 0 f236 (rg_T0_8_0_1 t1) (by first | decide | omega) (by first | decide | omega) (by decide)
        have q273 : h222 (h 61 1) 8 = h180 (h 61 1) 8 := by rw [← e224]; exact x_up_k tof_0_8
        have q274 : h180 (h 61 1) 8 = h93 (h 61 1) 8 := jK 0 f182 (rg_T0_8_0_1 t1) (by first | decide | omega) (by first | decide | omega) (by decide)
        have q275 : h93 (h 61 1) 8 = h81 (h 61 1) 8 := jK 0 f95 (rg_T0_8_0_1 t1) (by first | decide | omega) (by first | decide | omega) (by decide)
        have q276 : h81 (h 61 1) 8 = h41 (h 61 1) 8 := by rw [← e83]; exact x_up_k tof_0_8
        have q277 : h41 (h 61 1) 8 = h8 (h 61 1) 8 := jK 0 f43 (rg_T0_8_0_1 t1) (by first | decide | omega) (by first | decide | omega) (by decide)
        have e278 : rv h234 1 = (h8 (h 61 1) 8) := (congrArg (fun z => svq h234 z 1) ((((((q265.trans q266).trans q267).trans q268).trans q269).trans q270).trans q271)).trans (((((q272.trans q273).trans q274).trans q275).trans q276).trans q277)
        have e279 : rv h 2 = (h ((h 61 1) + 1) 2) := (congrArg (fun z => svq h z 2) rfl).trans rfl
        have q280 : h234 61 1 = h222 61 1 := f236 61 1 (by decide +kernel)
        have q281 : h222 61 1 = h180 61 1 := by rw [← e224]; exact x_up_k (Ne.symm (tne_8_61 t1))
        have q282 : h180 61 1 = h93 61 1 := f182 61 1 (by decide +kernel)
        have q283 : h93 61 1 = h81 61 1 := f95 61 1 (by decide +kernel)
        have q284 : h81 61 1 = h41 61 1 := by rw [← e83]; exact x_up_k (Ne.symm (tne_8_61 t1))
        have q285 : h41 61 1 = h8 61 1 := f43 61 1 (by decide +kernel)
        have q286 : h8 61 1 = h 61 1 := f10 61 1 (by decide +kernel)
        have q287 : h234 ((h 61 1) + 1) 2 = h222 ((h 61 1) + 1) 2 := jK 0 f236 (rg_T1_2_0_1 t1) (by first | decide | omega) (by first | decide | omega) (by decide)
        have q288 : h222 ((h 61 1) + 1) 2 = h180 ((h 61 1) + 1) 2 := by rw [← e224]; exact x_up_k tof_1_8
        have q289 : h180 ((h 61 1) + 1) 2 = h93 ((h 61 1) + 1) 2 := jK 0 f182 (rg_T1_2_0_1 t1) (by first | decide | omega) (by first | decide | omega) (by decide)
        have q290 : h93 ((h 61 1) + 1) 2 = h81 ((h 61 1) + 1) 2 := jK 0 f95 (rg_T1_2_0_1 t1) (by first | decide | omega) (by first | decide | omega) (by decide)
        have q291 : h81 ((h 61 1) + 1) 2 = h41 ((h 61 1) + 1) 2 := by rw [← e83]; exact x_up_k tof_1_8
        have q292 : h41 ((h 61 1) + 1) 2 = h8 ((h 61 1) + 1) 2 := jK 0 f43 (rg_T1_2_0_1 t1) (by first | decide | omega) (by first | decide | omega) (by decide)
        have e293 : rv h234 2 = (h8 ((h 61 1) + 1) 2) := (congrArg (fun z => svq h234 z 2) ((((((q280.trans q281).trans q282).trans q283).trans q284).trans q285).trans q286)).trans (((((q287.trans q288).trans q289).trans q290).trans q291).trans q292)
        have e294 : rv h 3 = (h ((h 61 1) + 3) 2) := (congrArg (fun z => svq h z 3) rfl).trans rfl
        have q295 : h234 61 1 = h222 61 1 := f236 61 1 (by decide +kernel)
        have q296 : h222 61 1 = h180 61 1 := by rw [← e224]; exact x_up_k (Ne.symm (tne_8_61 t1))
        have q297 : h180 61 1 = h93 61 1 := f182 61 1 (by decide +kernel)
        have q298 : h93 61 1 = h81 61 1 := f95 61 1 (by decide +kernel)
        have q299 : h81 61 1 = h41 61 1 := by rw [← e83]; exact x_up_k (Ne.symm (tne_8_61 t1))
        have q300 : h41 61 1 = h8 61 1 := f43 61 1 (by decide +kernel)
        have q301 : h8 61 1 = h 61 1 := f10 61 1 (by decide +kernel)
        have q302 : h234 ((h 61 1) + 3) 2 = h222 ((h 61 1) + 3) 2 := jK 0 f236 (rg_T3_2_0_1 t1) (by first | decide | omega) (by first | decide | omega) (by decide)
        have q303 : h222 ((h 61 1) + 3) 2 = h180 ((h 61 1) + 3) 2 := by rw [← e224]; exact x_up_k tof_3_8
        have q304 : h180 ((h 61 1) + 3) 2 = h93 ((h 61 1) + 3) 2 := jK 0 f182 (rg_T3_2_0_1 t1) (by first | decide | omega) (by first | decide | omega) (by decide)
        have q305 : h93 ((h 61 1) + 3) 2 = h81 ((h 61 1) + 3) 2 := jK 0 f95 (rg_T3_2_0_1 t1) (by first | decide | omega) (by first | decide | omega) (by decide)
        have q306 : h81 ((h 61 1) + 3) 2 = h41 ((h 61 1) + 3) 2 := by rw [← e83]; exact x_up_k tof_3_8
        have q307 : h41 ((h 61 1) + 3) 2 = h8 ((h 61 1) + 3) 2 := jK 0 f43 (rg_T3_2_0_1 t1) (by first | decide | omega) (by first | decide | omega) (by decide)
        have e308 : rv h234 3 = (h8 ((h 61 1) + 3) 2) := (congrArg (fun z => svq h234 z 3) ((((((q295.trans q296).trans q297).trans q298).trans q299).trans q300).trans q301)).trans (((((q302.trans q303).trans q304).trans q305).trans q306).trans q307)
        have e309 : rv h 4 = (h ((h 61 1) + 5) 2) := (congrArg (fun z => svq h z 4) rfl).trans rfl
        have q310 : h234 61 1 = h222 61 1 := f236 61 1 (by decide +kernel)
        have q311 : h222 61 1 = h180 61 1 := by rw [← e224]; exact x_up_k (Ne.symm (tne_8_61 t1))
        have q312 : h180 61 1 = h93 61 1 := f182 61 1 (by decide +kernel)
        have q313 : h93 61 1 = h81 61 1 := f95 61 1 (by decide +kernel)
        have q314 : h81 61 1 = h41 61 1 := by rw [← e83]; exact x_up_k (Ne.symm (tne_8_61 t1))
        have q315 : h41 61 1 = h8 61 1 := f43 61 1 (by decide +kernel)
        have q316 : h8 61 1 = h 61 1 := f10 61 1 (by decide +kernel)
        have q317 : h234 ((h 61 1) + 5) 2 = h222 ((h 61 1) + 5) 2 := jK 0 f236 (rg_T5_2_0_1 t1) (by first | decide | omega) (by first | decide | omega) (by decide)
        have q318 : h222 ((h 61 1) + 5) 2 = h180 ((h 61 1) + 5) 2 := by rw [← e224]; exact x_up_k tof_5_8
        have q319 : h180 ((h 61 1) + 5) 2 = h93 ((h 61 1) + 5) 2 := jK 0 f182 (rg_T5_2_0_1 t1) (by first | decide | omega) (by first | decide | omega) (by decide)
        have q320 : h93 ((h 61 1) + 5) 2 = h81 ((h 61 1) + 5) 2 := jK 0 f95 (rg_T5_2_0_1 t1) (by first | decide | omega) (by first | decide | omega) (by decide)
        have q321 : h81 ((h 61 1) + 5) 2 = h41 ((h 61 1) + 5) 2 := by rw [← e83]; exact x_up_k tof_5_8
        have q322 : h41 ((h 61 1) + 5) 2 = h8 ((h 61 1) + 5) 2 := jK 0 f43 (rg_T5_2_0_1 t1) (by first | decide | omega) (by first | decide | omega) (by decide)
        have e323 : rv h234 4 = (h8 ((h 61 1) + 5) 2) := (congrArg (fun z => svq h234 z 4) ((((((q310.trans q311).trans q312).trans q313).trans q314).trans q315).trans q316)).trans (((((q317.trans q318).trans q319).trans q320).trans q321).trans q322)
        have q324 : h234 61 1 = h222 61 1 := f236 61 1 (by decide +kernel)
        have q325 : h222 61 1 = h180 61 1 := by rw [← e224]; exact x_up_k (Ne.symm (tne_8_61 t1))
        have q326 : h180 61 1 = h93 61 1 := f182 61 1 (by decide +kernel)
        have q327 : h93 61 1 = h81 61 1 := f95 61 1 (by decide +kernel)
        have q328 : h81 61 1 = h41 61 1 := by rw [← e83]; exact x_up_k (Ne.symm (tne_8_61 t1))
        have q329 : h41 61 1 = h8 61 1 := f43 61 1 (by decide +kernel)
        have q330 : h8 61 1 = h 61 1 := f10 61 1 (by decide +kernel)
        have q331 : h234 ((h 61 1) + 7) 2 = h222 ((h 61 1) + 7) 2 := jK 0 f236 (rg_T7_2_0_1 t1) (by first | decide | omega) (by first | decide | omega) (by decide)
        have q332 : h222 ((h 61 1) + 7) 2 = h180 ((h 61 1) + 7) 2 := by rw [← e224]; exact x_up_k tof_7_8
        have q333 : h180 ((h 61 1) + 7) 2 = h93 ((h 61 1) + 7) 2 := jK 0 f182 (rg_T7_2_0_1 t1) (by first | decide | omega) (by first | decide | omega) (by decide)
        have q334 : h93 ((h 61 1) + 7) 2 = h81 ((h 61 1) + 7) 2 := jK 0 f95 (rg_T7_2_0_1 t1) (by first | decide | omega) (by first | decide | omega) (by decide)
        have q335 : h81 ((h 61 1) + 7) 2 = h41 ((h 61 1) + 7) 2 := by rw [← e83]; exact x_up_k tof_7_8
        have q336 : h41 ((h 61 1) + 7) 2 = h8 ((h 61 1) + 7) 2 := jK 0 f43 (rg_T7_2_0_1 t1) (by first | decide | omega) (by first | decide | omega) (by decide)
        have e337 : rv h234 5 = (h8 ((h 61 1) + 7) 2) := (congrArg (fun z => svq h234 z 5) ((((((q324.trans q325).trans q326).trans q327).trans q328).trans q329).trans q330)).trans (((((q331.trans q332).trans q333).trans q334).trans q335).trans q336)
        have q338 : h8 1 2 = h 1 2 := jK 0 f10 rg_1_2_0_1 (by first | decide | omega) (by first | decide | omega) (by decide)
        have q339 : h81 1 2 = h41 1 2 := by rw [← e83]; exact x_up_k (Ne.symm (tne_8_1 t1))
        obtain ⟨w340, e341⟩ := Tk.yes c99 (by first | decide | omega)
        have q342 : h222 1 2 = h180 1 2 := by rw [← e224]; exact x_up_k (Ne.symm (tne_8_1 t1))
        obtain ⟨w343, e344⟩ := Tk.no c240 (by first | decide | omega)
        have m345 : Ot (h 61 1) h h8 := Ot.trans Ot.refl (c19)
        have m346 : Ot (h 61 1) h h41 := Ot.fr m345 f43 (by decide)
        have m347 : Ot (h 61 1) h h81 := by rw [← e83]; exact Ot.up (o := 8) m346 t1 (by decide) rfl
        have m348 : Ot (h 61 1) h h93 := Ot.fr m347 f95 (by decide)
        have m349 : Ot (h 61 1) h h180 := Ot.fr m348 f182 (by decide)
        have m350 : Ot (h 61 1) h h222 := by rw [← e224]; exact Ot.up (o := 8) m349 t1 (by decide) rfl
        have m351 : Ot (h 61 1) h h234 := Ot.fr m350 f236 (by decide)
        refine x_retI (np := 90) (x := 0) (by decide +kernel) (by decide) (Or.inr ⟨by decide +kernel, by first | decide | omega, by first | decide | omega⟩) ⟨_, rfl, (by decide), ?_⟩
        exact ⟨j235, f241, (by first | decide | omega), (by first | decide | omega), (by first | decide | omega), (by first | decide | omega), (by first | decide | omega), (by first | decide | omega), (fun z => by first | decide | omega), (nm9.y c48 (by first | decide | omega) (by first | decide | omega) (show h8 1 2 = h 1 2 by first | decide | omega) (by first | decide | omega) rfl (wd9.y w340 (show h81 1 2 = h41 1 2 by first | decide | omega) e341 rfl (nm9.y c187 (by first | decide | omega) (by first | decide | omega) rfl (by first | decide | omega) rfl (wd9.f w343 (show h222 1 2 = h180 1 2 by first | decide | omega) (by first | decide | omega))))), m351⟩
      have q247 : ¬ (v229 = 2147483648) := q247
      have b352 := c238 (by first | decide | omega)
      refine x_aload (np := 81) (x := 0) (by decide +kernel) rfl (x_nc_le (by decide)) ?_
      refine x_iload (np := 82) (x := 1) (by decide +kernel) rfl l6 ?_
      have m356 := Tp.fr m232 f236 (by decide) (by decide)
      refine x_cI (t := 6) (mj := 101) (n := 2) (rc := 10) (ml := 5) (nr := 0) (np := 85) (as := [x_r 61, iv_c v5]) (rest := []) (lo1 := [x_r 61, iv_c v5, 147573952589676412928, 147573952589676412928, 147573952589676412928]) (by decide +kernel) (by decide) (by decide +kernel) (x_rb_of (by decide +kernel)) rfl rfl (x_wr (by decide) (x_wi l6 x_wn)) x_wn (by decide) rfl (c101_61 j235  (by first | decide | omega) m356) (fun v353 h357 l354 q355 => ?_)
      obtain ⟨j358, f359, b360, c361, c362, c363⟩ := q355
      have f364 := Fr.trans f241 f359 (by decide)
      have q365 : h234 61 1 = h222 61 1 := f236 61 1 (by decide +kernel)
      have q366 : h222 61 1 = h180 61 1 := by rw [← e224]; exact x_up_k (Ne.symm (tne_8_61 t1))
      have q367 : h180 61 1 = h93 61 1 := f182 61 1 (by decide +kernel)
      have q368 : h93 61 1 = h81 61 1 := f95 61 1 (by decide +kernel)
      have q369 : h81 61 1 = h41 61 1 := by rw [← e83]; exact x_up_k (Ne.symm (tne_8_61 t1))
      have q370 : h41 61 1 = h8 61 1 := f43 61 1 (by decide +kernel)
      have q371 : h8 61 1 = h 61 1 := f10 61 1 (by decide +kernel)
      have q372 : h234 61 1 = h222 61 1 := f236 61 1 (by decide +kernel)
      have q373 : h222 61 1 = h180 61 1 := by rw [← e224]; exact x_up_k (Ne.symm (tne_8_61 t1))
      have q374 : h180 61 1 = h93 61 1 := f182 61 1 (by decide +kernel)
      have q375 : h93 61 1 = h81 61 1 := f95 61 1 (by decide +kernel)
      have q376 : h81 61 1 = h41 61 1 := by rw [← e83]; exact x_up_k (Ne.symm (tne_8_61 t1))
      have q377 : h41 61 1 = h8 61 1 := f43 61 1 (by decide +kernel)
      have q378 : h8 61 1 = h 61 1 := f10 61 1 (by decide +kernel)
      have q379 : h234 ((h 61 1) + 8) (1 + 4 * u78) = h222 ((h 61 1) + 8) (1 + 4 * u78) := jK u78 f236 (rg_T8_1_4_10 t1) (by first | decide | omega) (by first | decide | omega) (by decide)
      have q380 : h222 ((h 61 1) + 8) (1 + 4 * u78) = v176 := by rw [← e224]; exact x_up_at
      have z381 := c362 (h 61 1) u78 ((((((q372.trans q373).trans q374).trans q375).trans q376).trans q377).trans q378) (by first | decide | omega)
      refine x_ifz (k := 1) (tg := 90) (np := 88) (by decide +kernel) (by decide) l354 (fun q382 => ?_) (fun q383 => ?_)
      · have q382 : v353 ≠ 2147483648 := q382
        refine x_aload (np := 91) (x := 0) (by decide +kernel) rfl (x_nc_le (by decide)) ?_
        have q384 : h357 61 0 = 1 := by have z := jB (e := 0) 0 j358 rg_61_0_0_1 (by decide) (by decide); omega
        refine x_getR (np := 94) (x := 576) (f := 0) (q := 1) (by decide +kernel) (by decide) (by decide +kernel) q384 ?_
        refine x_ldcB (i := 16) (idx := 163) (tx := "known") (by rw [tb_y100]; exact List.mem_of_getElem? (i := 16) rfl) (by decide) (by rw [tb_b100]; decide +kernel) ?_
        have m388 := Tp.fr m356 f359 (by decide) (by decide)
        refine x_cI (t := 6) (mj := 78) (n := 2) (rc := 8) (ml := 2) (nr := 0) (np := 99) (as := [x_r 1, x_b (16 + 1)]) (rest := []) (lo1 := [x_r 1, x_b (16 + 1)]) (by decide +kernel) (by decide) (by decide +kernel) (x_rb_of (by decide +kernel)) rfl rfl (x_wr (by decide) (x_wB (by decide) x_wn)) x_wn (by decide) rfl (c78_1_S0 j358  (by decide) m388) (fun v385 h389 l386 q387 => ?_)
        obtain ⟨j390, f391, b392, c393, c394, c395⟩ := q387
        have f396 := Fr.trans f364 f391 (by decide)
        have b397 := jB (e := 2) 0 j358 rg_1_2_0_1 (by first | decide | omega) (by first | decide | omega)
        have b398 := jB (e := 2) 0 j390 rg_1_2_0_1 (by first | decide | omega) (by first | decide | omega)
        have b399 : iv_tl 16 = 5 := by decide
        refine x_ifz (k := 0) (tg := 136) (np := 102) (by decide +kernel) (by decide) l386 (fun q400 => ?_) (fun q401 => ?_)
        · have q400 : v385 = 2147483648 := q400
          have b402 := c394 (by first | decide | omega)
          refine x_const (np := 137) (x := 9223372039002259456) (a := 2147483648) (by decide +kernel) (by decide) (by decide) ?_
          have e403 : rv h 0 = (h (h 61 1) 7) := (congrArg (fun z => svq h z 0) rfl).trans rfl
          have q404 : h389 61 1 = h357 61 1 := f391 61 1 (by decide +kernel)
          have q405 : h357 61 1 = h234 61 1 := f359 61 1 (by decide +kernel)
          have q406 : h234 61 1 = h222 61 1 := f236 61 1 (by decide +kernel)
          have q407 : h222 61 1 = h180 61 1 := by rw [← e224]; exact x_up_k (Ne.symm (tne_8_61 t1))
          have q408 : h180 61 1 = h93 61 1 := f182 61 1 (by decide +kernel)
          have q409 : h93 61 1 = h81 61 1 := f95 61 1 (by decide +kernel)
          have q410 : h81 61 1 = h41 61 1 := by rw [← e83]; exact x_up_k (Ne.symm (tne_8_61 t1))
          have q411 : h41 61 1 = h8 61 1 := f43 61 1 (by decide +kernel)
          have q412 : h8 61 1 = h 61 1 := f10 61 1 (by decide +kernel)
          have q413 : h389 (h 61 1) 7 = h357 (h 61 1) 7 := jK 0 f391 (rg_T0_7_0_1 t1) (by first | decide | omega) (by first | decide | omega) (by decide)
          have q414 : h357 (h 61 1) 7 = h234 (h 61 1) 7 := jK 0 f359 (rg_T0_7_0_1 t1) (by first | decide | omega) (by first | decide | omega) (by decide)
          have q415 : h234 (h 61 1) 7 = h222 (h 61 1) 7 := jK 0 f236 (rg_T0_7_0_1 t1) (by first | decide | omega) (by first | decide | omega) (by decide)
          have q416 : h222 (h 61 1) 7 = h180 (h 61 1) 7 := by rw [← e224]; exact x_up_k tof_0_8
          have q417 : h180 (h 61 1) 7 = h93 (h 61 1) 7 := jK 0 f182 (rg_T0_7_0_1 t1) (by first | decide | omega) (by first | decide | omega) (by decide)
          have q418 : h93 (h 61 1) 7 = h81 (h 61 1) 7 := jK 0 f95 (rg_T0_7_0_1 t1) (by first | decide | omega) (by first | decide | omega) (by decide)
          have q419 : h81 (h 61 1) 7 = h41 (h 61 1) 7 := by rw [← e83]; exact x_up_k tof_0_8
          have q420 : h41 (h 61 1) 7 = h8 (h 61 1) 7 := jK 0 f43 (rg_T0_7_0_1 t1) (by first | decide | omega) (by first | decide | omega) (by decide)
          have e421 : rv h389 0 = (h8 (h 61 1) 7) := (congrArg (fun z => svq h389 z 0) ((((((((q404.trans q405).trans q406).trans q407).trans q408).trans q409).trans q410).trans q411).trans q412)).trans (((((((q413.trans q414).trans q415).trans q416).trans q417).trans q418).trans q419).trans q420)
          have e422 : rv h 1 = (h (h 61 1) 8) := (congrArg (fun z => svq h z 1) rfl).trans rfl
          have q423 : h389 61 1 = h357 61 1 := f391 61 1 (by decide +kernel)
          have q424 : h357 61 1 = h234 61 1 := f359 61 1 (by decide +kernel)
          have q425 : h234 61 1 = h222 61 1 := f236 61 1 (by decide +kernel)
          have q426 : h222 61 1 = h180 61 1 := by rw [← e224]; exact x_up_k (Ne.symm (tne_8_61 t1))
          have q427 : h180 61 1 = h93 61 1 := f182 61 1 (by decide +kernel)
          have q428 : h93 61 1 = h81 61 1 := f95 61 1 (by decide +kernel)
          have q429 : h81 61 1 = h41 61 1 := by rw [← e83]; exact x_up_k (Ne.symm (tne_8_61 t1))
          have q430 : h41 61 1 = h8 61 1 := f43 61 1 (by decide +kernel)
          have q431 : h8 61 1 = h 61 1 := f10 61 1 (by decide +kernel)
          have q432 : h389 (h 61 1) 8 = h357 (h 61 1) 8 := jK 0 f391 (rg_T0_8_0_1 t1) (by first | decide | omega) (by first | decide | omega) (by decide)
          have q433 : h357 (h 61 1) 8 = h234 (h 61 1) 8 := jK 0 f359 (rg_T0_8_0_1 t1) (by first | decide | omega) (by first | decide | omega) (by decide)
          have q434 : h234 (h 61 1) 8 = h222 (h 61 1) 8 := jK 0 f236 (rg_T0_8_0_1 t1) (by first | decide | omega) (by first | decide | omega) (by decide)
          have q435 : h222 (h 61 1) 8 = h180 (h 61 1) 8 := by rw [← e224]; exact x_up_k tof_0_8
          have q436 : h180 (h 61 1) 8 = h93 (h 61 1) 8 := jK 0 f182 (rg_T0_8_0_1 t1) (by first | decide | omega) (by first | decide | omega) (by decide)
          have q437 : h93 (h 61 1) 8 = h81 (h 61 1) 8 := jK 0 f95 (rg_T0_8_0_1 t1) (by first | decide | omega) (by first | decide | omega) (by decide)
          have q438 : h81 (h 61 1) 8 = h41 (h 61 1) 8 := by rw [← e83]; exact x_up_k tof_0_8
          have q439 : h41 (h 61 1) 8 = h8 (h 61 1) 8 := jK 0 f43 (rg_T0_8_0_1 t1) (by first | decide | omega) (by first | decide | omega) (by decide)
          have e440 : rv h389 1 = (h8 (h 61 1) 8) := (congrArg (fun z => svq h389 z 1) ((((((((q423.trans q424).trans q425).trans q426).trans q427).trans q428).trans q429).trans q430).trans q431)).trans (((((((q432.trans q433).trans q434).trans q435).trans q436).trans q437).trans q438).trans q439)
          have e441 : rv h 2 = (h ((h 61 1) + 1) 2) := (congrArg (fun z => svq h z 2) rfl).trans rfl
          have q442 : h389 61 1 = h357 61 1 := f391 61 1 (by decide +kernel)
          have q443 : h357 61 1 = h234 61 1 := f359 61 1 (by decide +kernel)
          have q444 : h234 61 1 = h222 61 1 := f236 61 1 (by decide +kernel)
          have q445 : h222 61 1 = h180 61 1 := by rw [← e224]; exact x_up_k (Ne.symm (tne_8_61 t1))
          have q446 : h180 61 1 = h93 61 1 := f182 61 1 (by decide +kernel)
          have q447 : h93 61 1 = h81 61 1 := f95 61 1 (by decide +kernel)
          have q448 : h81 61 1 = h41 61 1 := by rw [← e83]; exact x_up_k (Ne.symm (tne_8_61 t1))
          have q449 : h41 61 1 = h8 61 1 := f43 61 1 (by decide +kernel)
          have q450 : h8 61 1 = h 61 1 := f10 61 1 (by decide +kernel)
          have q451 : h389 ((h 61 1) + 1) 2 = h357 ((h 61 1) + 1) 2 := jK 0 f391 (rg_T1_2_0_1 t1) (by first | decide | omega) (by first | decide | omega) (by decide)
          have q452 : h357 ((h 61 1) + 1) 2 = h234 ((h 61 1) + 1) 2 := jK 0 f359 (rg_T1_2_0_1 t1) (by first | decide | omega) (by first | decide | omega) (by decide)
          have q453 : h234 ((h 61 1) + 1) 2 = h222 ((h 61 1) + 1) 2 := jK 0 f236 (rg_T1_2_0_1 t1) (by first | decide | omega) (by first | decide | omega) (by decide)
          have q454 : h222 ((h 61 1) + 1) 2 = h180 ((h 61 1) + 1) 2 := by rw [← e224]; exact x_up_k tof_1_8
          have q455 : h180 ((h 61 1) + 1) 2 = h93 ((h 61 1) + 1) 2 := jK 0 f182 (rg_T1_2_0_1 t1) (by first | decide | omega) (by first | decide | omega) (by decide)
          have q456 : h93 ((h 61 1) + 1) 2 = h81 ((h 61 1) + 1) 2 := jK 0 f95 (rg_T1_2_0_1 t1) (by first | decide | omega) (by first | decide | omega) (by decide)
          have q457 : h81 ((h 61 1) + 1) 2 = h41 ((h 61 1) + 1) 2 := by rw [← e83]; exact x_up_k tof_1_8
          have q458 : h41 ((h 61 1) + 1) 2 = h8 ((h 61 1) + 1) 2 := jK 0 f43 (rg_T1_2_0_1 t1) (by first | decide | omega) (by first | decide | omega) (by decide)
          have e459 : rv h389 2 = (h8 ((h 61 1) + 1) 2) := (congrArg (fun z => svq h389 z 2) ((((((((q442.trans q443).trans q444).trans q445).trans q446).trans q447).trans q448).trans q449).trans q450)).trans (((((((q451.trans q452).trans q453).trans q454).trans q455).trans q456).trans q457).trans q458)
          have e460 : rv h 3 = (h ((h 61 1) + 3) 2) := (congrArg (fun z => svq h z 3) rfl).trans rfl
          have q461 : h389 61 1 = h357 61 1 := f391 61 1 (by decide +kernel)
          have q462 : h357 61 1 = h234 61 1 := f359 61 1 (by decide +kernel)
          have q463 : h234 61 1 = h222 61 1 := f236 61 1 (by decide +kernel)
          have q464 : h222 61 1 = h180 61 1 := by rw [← e224]; exact x_up_k (Ne.symm (tne_8_61 t1))
          have q465 : h180 61 1 = h93 61 1 := f182 61 1 (by decide +kernel)
          have q466 : h93 61 1 = h81 61 1 := f95 61 1 (by decide +kernel)
          have q467 : h81 61 1 = h41 61 1 := by rw [← e83]; exact x_up_k (Ne.symm (tne_8_61 t1))
          have q468 : h41 61 1 = h8 61 1 := f43 61 1 (by decide +kernel)
          have q469 : h8 61 1 = h 61 1 := f10 61 1 (by decide +kernel)
          have q470 : h389 ((h 61 1) + 3) 2 = h357 ((h 61 1) + 3) 2 := jK 0 f391 (rg_T3_2_0_1 t1) (by first | decide | omega) (by first | decide | omega) (by decide)
          have q471 : h357 ((h 61 1) + 3) 2 = h234 ((h 61 1) + 3) 2 := jK 0 f359 (rg_T3_2_0_1 t1) (by first | decide | omega) (by first | decide | omega) (by decide)
          have q472 : h234 ((h 61 1) + 3) 2 = h222 ((h 61 1) + 3) 2 := jK 0 f236 (rg_T3_2_0_1 t1) (by first | decide | omega) (by first | decide | omega) (by decide)
          have q473 : h222 ((h 61 1) + 3) 2 = h180 ((h 61 1) + 3) 2 := by rw [← e224]; exact x_up_k tof_3_8
          have q474 : h180 ((h 61 1) + 3) 2 = h93 ((h 61 1) + 3) 2 := jK 0 f182 (rg_T3_2_0_1 t1) (by first | decide | omega) (by first | decide | omega) (by decide)
          have q475 : h93 ((h 61 1) + 3) 2 = h81 ((h 61 1) + 3) 2 := jK 0 f95 (rg_T3_2_0_1 t1) (by first | decide | omega) (by first | decide | omega) (by decide)
          have q476 : h81 ((h 61 1) + 3) 2 = h41 ((h 61 1) + 3) 2 := by rw [← e83]; exact x_up_k tof_3_8
          have q477 : h41 ((h 61 1) + 3) 2 = h8 ((h 61 1) + 3) 2 := jK 0 f43 (rg_T3_2_0_1 t1) (by first | decide | omega) (by first | decide | omega) (by decide)
          have e478 : rv h389 3 = (h8 ((h 61 1) + 3) 2) := (congrArg (fun z => svq h389 z 3) ((((((((q461.trans q462).trans q463).trans q464).trans q465).trans q466).trans q467).trans q468).trans q469)).trans (((((((q470.trans q471).trans q472).trans q473).trans q474).trans q475).trans q476).trans q477)
          have e479 : rv h 4 = (h ((h 61 1) + 5) 2) := (congrArg (fun z => svq h z 4) rfl).trans rfl
          have q480 : h389 61 1 = h357 61 1 := f391 61 1 (by decide +kernel)
          have q481 : h357 61 1 = h234 61 1 := f359 61 1 (by decide +kernel)
          have q482 : h234 61 1 = h222 61 1 := f236 61 1 (by decide +kernel)
          have q483 : h222 61 1 = h180 61 1 := by rw [← e224]; exact x_up_k (Ne.symm (tne_8_61 t1))
          have q484 : h180 61 1 = h93 61 1 := f182 61 1 (by decide +kernel)
          have q485 : h93 61 1 = h81 61 1 := f95 61 1 (by decide +kernel)
          have q486 : h81 61 1 = h41 61 1 := by rw [← e83]; exact x_up_k (Ne.symm (tne_8_61 t1))
          have q487 : h41 61 1 = h8 61 1 := f43 61 1 (by decide +kernel)
          have q488 : h8 61 1 = h 61 1 := f10 61 1 (by decide +kernel)
          have q489 : h389 ((h 61 1) + 5) 2 = h357 ((h 61 1) + 5) 2 := jK 0 f391 (rg_T5_2_0_1 t1) (by first | decide | omega) (by first | decide | omega) (by decide)
          have q490 : h357 ((h 61 1) + 5) 2 = h234 ((h 61 1) + 5) 2 := jK 0 f359 (rg_T5_2_0_1 t1) (by first | decide | omega) (by first | decide | omega) (by decide)
          have q491 : h234 ((h 61 1) + 5) 2 = h222 ((h 61 1) + 5) 2 := jK 0 f236 (rg_T5_2_0_1 t1) (by first | decide | omega) (by first | decide | omega) (by decide)
          have q492 : h222 ((h 61 1) + 5) 2 = h180 ((h 61 1) + 5) 2 := by rw [← e224]; exact x_up_k tof_5_8
          have q493 : h180 ((h 61 1) + 5) 2 = h93 ((h 61 1) + 5) 2 := jK 0 f182 (rg_T5_2_0_1 t1) (by first | decide | omega) (by first | decide | omega) (by decide)
          have q494 : h93 ((h 61 1) + 5) 2 = h81 ((h 61 1) + 5) 2 := jK 0 f95 (rg_T5_2_0_1 t1) (by first | decide | omega) (by first | decide | omega) (by decide)
          have q495 : h81 ((h 61 1) + 5) 2 = h41 ((h 61 1) + 5) 2 := by rw [← e83]; exact x_up_k tof_5_8
          have q496 : h41 ((h 61 1) + 5) 2 = h8 ((h 61 1) + 5) 2 := jK 0 f43 (rg_T5_2_0_1 t1) (by first | decide | omega) (by first | decide | omega) (by decide)
          have e497 : rv h389 4 = (h8 ((h 61 1) + 5) 2) := (congrArg (fun z => svq h389 z 4) ((((((((q480.trans q481).trans q482).trans q483).trans q484).trans q485).trans q486).trans q487).trans q488)).trans (((((((q489.trans q490).trans q491).trans q492).trans q493).trans q494).trans q495).trans q496)
          have q498 : h389 61 1 = h357 61 1 := f391 61 1 (by decide +kernel)
          have q499 : h357 61 1 = h234 61 1 := f359 61 1 (by decide +kernel)
          have q500 : h234 61 1 = h222 61 1 := f236 61 1 (by decide +kernel)
          have q501 : h222 61 1 = h180 61 1 := by rw [← e224]; exact x_up_k (Ne.symm (tne_8_61 t1))
          have q502 : h180 61 1 = h93 61 1 := f182 61 1 (by decide +kernel)
          have q503 : h93 61 1 = h81 61 1 := f95 61 1 (by decide +kernel)
          have q504 : h81 61 1 = h41 61 1 := by rw [← e83]; exact x_up_k (Ne.symm (tne_8_61 t1))
          have q505 : h41 61 1 = h8 61 1 := f43 61 1 (by decide +kernel)
          have q506 : h8 61 1 = h 61 1 := f10 61 1 (by decide +kernel)
          have q507 : h389 ((h 61 1) + 7) 2 = h357 ((h 61 1) + 7) 2 := jK 0 f391 (rg_T7_2_0_1 t1) (by first | decide | omega) (by first | decide | omega) (by decide)
          have q508 : h357 ((h 61 1) + 7) 2 = h234 ((h 61 1) + 7) 2 := jK 0 f359 (rg_T7_2_0_1 t1) (by first | decide | omega) (by first | decide | omega) (by decide)
          have q509 : h234 ((h 61 1) + 7) 2 = h222 ((h 61 1) + 7) 2 := jK 0 f236 (rg_T7_2_0_1 t1) (by first | decide | omega) (by first | decide | omega) (by decide)
          have q510 : h222 ((h 61 1) + 7) 2 = h180 ((h 61 1) + 7) 2 := by rw [← e224]; exact x_up_k tof_7_8
          have q511 : h180 ((h 61 1) + 7) 2 = h93 ((h 61 1) + 7) 2 := jK 0 f182 (rg_T7_2_0_1 t1) (by first | decide | omega) (by first | decide | omega) (by decide)
          have q512 : h93 ((h 61 1) + 7) 2 = h81 ((h 61 1) + 7) 2 := jK 0 f95 (rg_T7_2_0_1 t1) (by first | decide | omega) (by first | decide | omega) (by decide)
          have q513 : h81 ((h 61 1) + 7) 2 = h41 ((h 61 1) + 7) 2 := by rw [← e83]; exact x_up_k tof_7_8
          have q514 : h41 ((h 61 1) + 7) 2 = h8 ((h 61 1) + 7) 2 := jK 0 f43 (rg_T7_2_0_1 t1) (by first | decide | omega) (by first | decide | omega) (by decide)
          have e515 : rv h389 5 = (h8 ((h 61 1) + 7) 2) := (congrArg (fun z => svq h389 z 5) ((((((((q498.trans q499).trans q500).trans q501).trans q502).trans q503).trans q504).trans q505).trans q506)).trans (((((((q507.trans q508).trans q509).trans q510).trans q511).trans q512).trans q513).trans q514)
          have q516 : h8 1 2 = h 1 2 := jK 0 f10 rg_1_2_0_1 (by first | decide | omega) (by first | decide | omega) (by decide)
          have q517 : h81 1 2 = h41 1 2 := by rw [← e83]; exact x_up_k (Ne.symm (tne_8_1 t1))
          obtain ⟨w518, e519⟩ := Tk.yes c99 (by first | decide | omega)
          have q520 : h222 1 2 = h180 1 2 := by rw [← e224]; exact x_up_k (Ne.symm (tne_8_1 t1))
          obtain ⟨w521, e522⟩ := Tk.yes c240 (by first | decide | omega)
          have q523 : h234 61 1 = h222 61 1 := f236 61 1 (by decide +kernel)
          have q524 : h222 61 1 = h180 61 1 := by rw [← e224]; exact x_up_k (Ne.symm (tne_8_61 t1))
          have q525 : h180 61 1 = h93 61 1 := f182 61 1 (by decide +kernel)
          have q526 : h93 61 1 = h81 61 1 := f95 61 1 (by decide +kernel)
          have q527 : h81 61 1 = h41 61 1 := by rw [← e83]; exact x_up_k (Ne.symm (tne_8_61 t1))
          have q528 : h41 61 1 = h8 61 1 := f43 61 1 (by decide +kernel)
          have q529 : h8 61 1 = h 61 1 := f10 61 1 (by decide +kernel)
          have q530 : h234 (h 61 1) 7 = h222 (h 61 1) 7 := jK 0 f236 (rg_T0_7_0_1 t1) (by first | decide | omega) (by first | decide | omega) (by decide)
          have q531 : h222 (h 61 1) 7 = h180 (h 61 1) 7 := by rw [← e224]; exact x_up_k tof_0_8
          have q532 : h180 (h 61 1) 7 = h93 (h 61 1) 7 := jK 0 f182 (rg_T0_7_0_1 t1) (by first | decide | omega) (by first | decide | omega) (by decide)
          have q533 : h93 (h 61 1) 7 = h81 (h 61 1) 7 := jK 0 f95 (rg_T0_7_0_1 t1) (by first | decide | omega) (by first | decide | omega) (by decide)
          have q534 : h81 (h 61 1) 7 = h41 (h 61 1) 7 := by rw [← e83]; exact x_up_k tof_0_8
          have q535 : h41 (h 61 1) 7 = h8 (h 61 1) 7 := jK 0 f43 (rg_T0_7_0_1 t1) (by first | decide | omega) (by first | decide | omega) (by decide)
          have e536 : rv h234 0 = (h8 (h 61 1) 7) := (congrArg (fun z => svq h234 z 0) ((((((q523.trans q524).trans q525).trans q526).trans q527).trans q528).trans q529)).trans (((((q530.trans q531).trans q532).trans q533).trans q534).trans q535)
          obtain ⟨w537, e538⟩ := Tk.no c395 (by first | decide | omega)
          have m539 : Ot (h 61 1) h h8 := Ot.trans Ot.refl (c19)
          have m540 : Ot (h 61 1) h h41 := Ot.fr m539 f43 (by decide)
          have m541 : Ot (h 61 1) h h81 := by rw [← e83]; exact Ot.up (o := 8) m540 t1 (by decide) rfl
          have m542 : Ot (h 61 1) h h93 := Ot.fr m541 f95 (by decide)
          have m543 : Ot (h 61 1) h h180 := Ot.fr m542 f182 (by decide)
          have m544 : Ot (h 61 1) h h222 := by rw [← e224]; exact Ot.up (o := 8) m543 t1 (by decide) rfl
          have m545 : Ot (h 61 1) h h234 := Ot.fr m544 f236 (by decide)
          have m546 : Ot (h 61 1) h h357 := Ot.trans m545 (Ot.cast c363 ((((((q365.trans q366).trans q367).trans q368).trans q369).trans q370).trans q371))
          have m547 : Ot (h 61 1) h h389 := Ot.fr m546 f391 (by decide)
          refine x_retI (np := 138) (x := 0) (by decide +kernel) (by decide) (Or.inr ⟨by decide +kernel, by first | decide | omega, by first | decide | omega⟩) ⟨_, rfl, (by decide), ?_⟩
          exact ⟨j390, f396, (by first | decide | omega), (by first | decide | omega), (by first | decide | omega), (by first | decide | omega), (by first | decide | omega), (by first | decide | omega), (fun z => by first | decide | omega), (nm9.y c48 (by first | decide | omega) (by first | decide | omega) (show h8 1 2 = h 1 2 by first | decide | omega) (by first | decide | omega) rfl (wd9.y w518 (show h81 1 2 = h41 1 2 by first | decide | omega) e519 rfl (nm9.y c187 (by first | decide | omega) (by first | decide | omega) rfl (by first | decide | omega) rfl (wd9.y w521 (show h222 1 2 = h180 1 2 by first | decide | omega) e522 rfl (bl9.y c361 (by first | decide | omega) rfl (by first | decide | omega) rfl (wd9.f w537 rfl (by first | decide | omega))))))), m547⟩
        have q401 : ¬ (v385 = 2147483648) := q401
        have b548 := c393 (by first | decide | omega)
        refine x_aload (np := 103) (x := 0) (by decide +kernel) rfl (x_nc_le (by decide)) ?_
        refine x_aload (np := 104) (x := 0) (by decide +kernel) rfl (x_nc_le (by decide)) ?_
        have q549 : h389 61 1 = h357 61 1 := f391 61 1 (by decide +kernel)
        have q550 : h357 61 1 = h234 61 1 := f359 61 1 (by decide +kernel)
        have q551 : h234 61 1 = h222 61 1 := f236 61 1 (by decide +kernel)
        have q552 : h222 61 1 = h180 61 1 := by rw [← e224]; exact x_up_k (Ne.symm (tne_8_61 t1))
        have q553 : h180 61 1 = h93 61 1 := f182 61 1 (by decide +kernel)
        have q554 : h93 61 1 = h81 61 1 := f95 61 1 (by decide +kernel)
        have q555 : h81 61 1 = h41 61 1 := by rw [← e83]; exact x_up_k (Ne.symm (tne_8_61 t1))
        have q556 : h41 61 1 = h8 61 1 := f43 61 1 (by decide +kernel)
        have q557 : h8 61 1 = h 61 1 := f10 61 1 (by decide +kernel)
        refine x_getR (np := 107) (x := 577) (f := 1) (q := (h 61 1)) (by decide +kernel) (by decide) (by decide +kernel) ((((((((q549.trans q550).trans q551).trans q552).trans q553).trans q554).trans q555).trans q556).trans q557) ?_
        have q558 : h389 (h 61 1) 3 = ((h 61 1) + 7) := tf_0_3 j390 t1
        refine x_getR (np := 110) (x := 515) (f := 3) (q := ((h 61 1) + 7)) (by decide +kernel) (by decide) (tg_0_515_3_1 t1) q558 ?_
        refine x_iload (np := 111) (x := 1) (by decide +kernel) rfl l6 ?_
        refine x_const (np := 112) (x := 9223372051887161347) (a := 2147483651) (by decide +kernel) (by decide) (by decide) ?_
        refine x_aload (np := 113) (x := 0) (by decide +kernel) rfl (x_nc_le (by decide)) ?_
        have q559 : h389 61 1 = h357 61 1 := f391 61 1 (by decide +kernel)
        have q560 : h357 61 1 = h234 61 1 := f359 61 1 (by decide +kernel)
        have q561 : h234 61 1 = h222 61 1 := f236 61 1 (by decide +kernel)
        have q562 : h222 61 1 = h180 61 1 := by rw [← e224]; exact x_up_k (Ne.symm (tne_8_61 t1))
        have q563 : h180 61 1 = h93 61 1 := f182 61 1 (by decide +kernel)
        have q564 : h93 61 1 = h81 61 1 := f95 61 1 (by decide +kernel)
        have q565 : h81 61 1 = h41 61 1 := by rw [← e83]; exact x_up_k (Ne.symm (tne_8_61 t1))
        have q566 : h41 61 1 = h8 61 1 := f43 61 1 (by decide +kernel)
        have q567 : h8 61 1 = h 61 1 := f10 61 1 (by decide +kernel)
        refine x_getR (np := 116) (x := 577) (f := 1) (q := (h 61 1)) (by decide +kernel) (by decide) (by decide +kernel) ((((((((q559.trans q560).trans q561).trans q562).trans q563).trans q564).trans q565).trans q566).trans q567) ?_
        have q568 : h389 (h 61 1) 3 = ((h 61 1) + 7) := tf_0_3 j390 t1
        refine x_getR (np := 119) (x := 515) (f := 3) (q := ((h 61 1) + 7)) (by decide +kernel) (by decide) (tg_0_515_3_1 t1) q568 ?_
        refine x_iload (np := 120) (x := 1) (by decide +kernel) rfl l6 ?_
        refine x_const (np := 121) (x := 9223372043297226753) (a := 2147483649) (by decide +kernel) (by decide) (by decide) ?_
        refine x_nI (t := 6) (mj := 68) (n := 3) (rc := 7) (ml := 4) (nr := 4) (np := 124) (as := [x_r ((h 61 1) + 7), iv_c v5, iv_c 2147483649]) (rest := [iv_c 2147483651, iv_c v5, x_r ((h 61 1) + 7), x_r 61]) (lo1 := [x_r ((h 61 1) + 7), iv_c v5, iv_c 2147483649, 147573952589676412928]) (by decide +kernel) (by decide) (by decide +kernel) (x_rb_of (tr_7_7 t1)) rfl rfl (x_wr (tn_7 t1) (x_wi l6 (x_wi (by decide) x_wn))) (x_wi (by decide) (x_wi l6 (x_wr (tn_7 t1) (x_wr (by decide) x_wn)))) (by decide) rfl ?_
        refine x_iload (np := 1) (x := 1) (by decide +kernel) rfl l6 ?_
        refine x_ifz (k := 2) (tg := 28) (np := 4) (by decide +kernel) (by decide) l6 (fun q577 => ?_) (fun q578 => ?_)
        · have q577 : v5 < 2147483648 := q577
          exfalso; omega
        have q578 : ¬ (v5 < 2147483648) := q578
        refine x_iload (np := 5) (x := 1) (by decide +kernel) rfl l6 ?_
        refine x_aload (np := 6) (x := 0) (by decide +kernel) rfl (x_nc_le (tn_7 t1)) ?_
        have q579 : h389 ((h 61 1) + 7) 2 = h357 ((h 61 1) + 7) 2 := jK 0 f391 (rg_T7_2_0_1 t1) (by first | decide | omega) (by first | decide | omega) (by decide)
        have q580 : h357 ((h 61 1) + 7) 2 = h234 ((h 61 1) + 7) 2 := jK 0 f359 (rg_T7_2_0_1 t1) (by first | decide | omega) (by first | decide | omega) (by decide)
        have q581 : h234 ((h 61 1) + 7) 2 = h222 ((h 61 1) + 7) 2 := jK 0 f236 (rg_T7_2_0_1 t1) (by first | decide | omega) (by first | decide | omega) (by decide)
        have q582 : h222 ((h 61 1) + 7) 2 = h180 ((h 61 1) + 7) 2 := by rw [← e224]; exact x_up_k tof_7_8
        have q583 : h180 ((h 61 1) + 7) 2 = h93 ((h 61 1) + 7) 2 := jK 0 f182 (rg_T7_2_0_1 t1) (by first | decide | omega) (by first | decide | omega) (by decide)
        have q584 : h93 ((h 61 1) + 7) 2 = h81 ((h 61 1) + 7) 2 := jK 0 f95 (rg_T7_2_0_1 t1) (by first | decide | omega) (by first | decide | omega) (by decide)
        have q585 : h81 ((h 61 1) + 7) 2 = h41 ((h 61 1) + 7) 2 := by rw [← e83]; exact x_up_k tof_7_8
        have q586 : h41 ((h 61 1) + 7) 2 = h8 ((h 61 1) + 7) 2 := jK 0 f43 (rg_T7_2_0_1 t1) (by first | decide | omega) (by first | decide | omega) (by decide)
        refine x_getC (np := 9) (x := 386) (f := 2) (q := (h8 ((h 61 1) + 7) 2)) (by decide +kernel) (by decide) (tg_7_386_2_0 t1) (((((((q579.trans q580).trans q581).trans q582).trans q583).trans q584).trans q585).trans q586) (fun l587 => ?_)
        refine x_icmp (k := 3) (tg := 28) (np := 12) (by decide +kernel) (by decide) l6 l60 (fun q588 => ?_) (fun q589 => ?_)
        · have q588 : (h8 ((h 61 1) + 7) 2) ≤ v5 := q588
          exfalso; omega
        have q589 : ¬ ((h8 ((h 61 1) + 7) 2) ≤ v5) := q589
        refine x_iload (np := 13) (x := 2) (by decide +kernel) rfl (by decide) ?_
        refine x_ifz (k := 2) (tg := 28) (np := 16) (by decide +kernel) (by decide) (by decide) (fun q590 => ?_) (fun q591 => ?_)
        · have q590 : 2147483649 < 2147483648 := q590
          exfalso; omega
        have q591 : ¬ (2147483649 < 2147483648) := q591
        refine x_iload (np := 17) (x := 2) (by decide +kernel) rfl (by decide) ?_
        refine x_aload (np := 18) (x := 0) (by decide +kernel) rfl (x_nc_le (tn_7 t1)) ?_
        have q592 : h389 ((h 61 1) + 7) 0 = h357 ((h 61 1) + 7) 0 := jK 0 f391 (rg_T7_0_0_1 t1) (by first | decide | omega) (by first | decide | omega) (by decide)
        have q593 : h357 ((h 61 1) + 7) 0 = h234 ((h 61 1) + 7) 0 := jK 0 f359 (rg_T7_0_0_1 t1) (by first | decide | omega) (by first | decide | omega) (by decide)
        have q594 : h234 ((h 61 1) + 7) 0 = h222 ((h 61 1) + 7) 0 := jK 0 f236 (rg_T7_0_0_1 t1) (by first | decide | omega) (by first | decide | omega) (by decide)
        have q595 : h222 ((h 61 1) + 7) 0 = h180 ((h 61 1) + 7) 0 := by rw [← e224]; exact x_up_k tof_7_8
        have q596 : h180 ((h 61 1) + 7) 0 = h93 ((h 61 1) + 7) 0 := jK 0 f182 (rg_T7_0_0_1 t1) (by first | decide | omega) (by first | decide | omega) (by decide)
        have q597 : h93 ((h 61 1) + 7) 0 = h81 ((h 61 1) + 7) 0 := jK 0 f95 (rg_T7_0_0_1 t1) (by first | decide | omega) (by first | decide | omega) (by decide)
        have q598 : h81 ((h 61 1) + 7) 0 = h41 ((h 61 1) + 7) 0 := by rw [← e83]; exact x_up_k tof_7_8
        have q599 : h41 ((h 61 1) + 7) 0 = h8 ((h 61 1) + 7) 0 := jK 0 f43 (rg_T7_0_0_1 t1) (by first | decide | omega) (by first | decide | omega) (by decide)
        have q600 : h8 ((h 61 1) + 7) 0 = h ((h 61 1) + 7) 0 := jK 0 f10 (rg_T7_0_0_1 t1) (by first | decide | omega) (by first | decide | omega) (by decide)
        refine x_getC (np := 21) (x := 384) (f := 0) (q := 2147483652) (by decide +kernel) (by decide) (tg_7_384_0_0 t1) (((((((((q592.trans q593).trans q594).trans q595).trans q596).trans q597).trans q598).trans q599).trans q600).trans q68) (fun l601 => ?_)
        refine x_icmp (k := 3) (tg := 28) (np := 24) (by decide +kernel) (by decide) (by decide) (by decide) (fun q602 => ?_) (fun q603 => ?_)
        · have q602 : 2147483652 ≤ 2147483649 := q602
          exfalso; omega
        have q603 : ¬ (2147483652 ≤ 2147483649) := q603
        refine x_const (np := 25) (x := 9223372043297226753) (a := 2147483649) (by decide +kernel) (by decide) (by decide) ?_
        refine x_goto (np := 28) (x := 29) (by decide +kernel) ?_
        refine x_istore (np := 30) (x := 3) (lo' := [x_r ((h 61 1) + 7), iv_c v5, iv_c 2147483649, iv_c 2147483649]) (by decide +kernel) (by decide) (Nat.le_of_ble_eq_true rfl) rfl ?_
        refine x_iload (np := 31) (x := 3) (by decide +kernel) rfl (by decide) ?_
        refine x_ifz (k := 0) (tg := 50) (np := 34) (by decide +kernel) (by decide) (by decide) (fun q604 => ?_) (fun q605 => ?_)
        · have q604 : 2147483649 = 2147483648 := q604
          exfalso; omega
        have q605 : ¬ (2147483649 = 2147483648) := q605
        refine x_aload (np := 35) (x := 0) (by decide +kernel) rfl (x_nc_le (tn_7 t1)) ?_
        have q606 : h389 ((h 61 1) + 7) 1 = ((h 61 1) + 8) := tf_7_1 j390 t1
        refine x_getR (np := 38) (x := 385) (f := 1) (q := ((h 61 1) + 8)) (by decide +kernel) (by decide) (tg_7_385_1_1 t1) q606 ?_
        refine x_iload (np := 39) (x := 1) (by decide +kernel) rfl l6 ?_
        refine x_aload (np := 40) (x := 0) (by decide +kernel) rfl (x_nc_le (tn_7 t1)) ?_
        have q607 : h389 ((h 61 1) + 7) 0 = h357 ((h 61 1) + 7) 0 := jK 0 f391 (rg_T7_0_0_1 t1) (by first | decide | omega) (by first | decide | omega) (by decide)
        have q608 : h357 ((h 61 1) + 7) 0 = h234 ((h 61 1) + 7) 0 := jK 0 f359 (rg_T7_0_0_1 t1) (by first | decide | omega) (by first | decide | omega) (by decide)
        have q609 : h234 ((h 61 1) + 7) 0 = h222 ((h 61 1) + 7) 0 := jK 0 f236 (rg_T7_0_0_1 t1) (by first | decide | omega) (by first | decide | omega) (by decide)
        have q610 : h222 ((h 61 1) + 7) 0 = h180 ((h 61 1) + 7) 0 := by rw [← e224]; exact x_up_k tof_7_8
        have q611 : h180 ((h 61 1) + 7) 0 = h93 ((h 61 1) + 7) 0 := jK 0 f182 (rg_T7_0_0_1 t1) (by first | decide | omega) (by first | decide | omega) (by decide)
        have q612 : h93 ((h 61 1) + 7) 0 = h81 ((h 61 1) + 7) 0 := jK 0 f95 (rg_T7_0_0_1 t1) (by first | decide | omega) (by first | decide | omega) (by decide)
        have q613 : h81 ((h 61 1) + 7) 0 = h41 ((h 61 1) + 7) 0 := by rw [← e83]; exact x_up_k tof_7_8
        have q614 : h41 ((h 61 1) + 7) 0 = h8 ((h 61 1) + 7) 0 := jK 0 f43 (rg_T7_0_0_1 t1) (by first | decide | omega) (by first | decide | omega) (by decide)
        have q615 : h8 ((h 61 1) + 7) 0 = h ((h 61 1) + 7) 0 := jK 0 f10 (rg_T7_0_0_1 t1) (by first | decide | omega) (by first | decide | omega) (by decide)
        refine x_getC (np := 43) (x := 384) (f := 0) (q := 2147483652) (by decide +kernel) (by decide) (tg_7_384_0_0 t1) (((((((((q607.trans q608).trans q609).trans q610).trans q611).trans q612).trans q613).trans q614).trans q615).trans q68) (fun l616 => ?_)
        refine x_imul (np := 44) (x := 0) (i := u78) (j := 4) (v := (2147483648 + 4 * u78)) (by decide +kernel) (by first | decide | omega) (by first | decide | omega) (by first | decide | omega) (by first | decide | omega) l6 (by decide) ?_
        refine x_iload (np := 45) (x := 2) (by decide +kernel) rfl (by decide) ?_
        refine x_iadd (np := 46) (x := 0) (v := (2147483649 + 4 * u78)) (by decide +kernel) (by first | decide | omega) (by decide) (by first | decide | omega) (by first | decide | omega) ?_
        have q618 : h389 ((h 61 1) + 8) (1 + 4 * u78) = h357 ((h 61 1) + 8) (1 + 4 * u78) := jK u78 f391 (rg_T8_1_4_10 t1) (by first | decide | omega) (by first | decide | omega) (by decide)
        refine x_aldC (np := 47) (x := 0) (n := 40) (i := (1 + 4 * u78)) (q := ((h357 ((h 61 1) + 8) (1 + 4 * u78)))) (by decide +kernel) (ta_8_40 t1) (by first | decide | omega) (by first | decide | omega) (by decide) q618 (fun l619 => ?_)
        refine x_goto (np := 50) (x := 51) (by decide +kernel) ?_
        refine x_retI (np := 52) (x := 0) (by decide +kernel) l619 (Or.inl (by decide +kernel)) ⟨_, rfl, l619, ?_⟩
        refine x_const (np := 126) (x := 9223372086246899723) (a := 2147483659) (by decide +kernel) (by decide) (by decide) ?_
        refine x_nI (t := 6) (mj := 102) (n := 6) (rc := 10) (ml := 7) (nr := 0) (np := 129) (as := [x_r 61, x_r ((h 61 1) + 7), iv_c v5, iv_c 2147483651, iv_c ((h357 ((h 61 1) + 8) (1 + 4 * u78))), iv_c 2147483659]) (rest := []) (lo1 := [x_r 61, x_r ((h 61 1) + 7), iv_c v5, iv_c 2147483651, iv_c ((h357 ((h 61 1) + 8) (1 + 4 * u78))), iv_c 2147483659, 147573952589676412928]) (by decide +kernel) (by decide) (by decide +kernel) (x_rb_of (by decide +kernel)) rfl rfl (x_wr (by decide) (x_wr (tn_7 t1) (x_wi l6 (x_wi (by decide) (x_wi l619 (x_wi (by decide) x_wn)))))) x_wn (by decide) rfl ?_
        refine x_aload (np := 1) (x := 0) (by decide +kernel) rfl (x_nc_le (by decide)) ?_
        have q620 : h389 61 0 = 1 := by have z := jB (e := 0) 0 j390 rg_61_0_0_1 (by decide) (by decide); omega
        refine x_getR (np := 4) (x := 576) (f := 0) (q := 1) (by decide +kernel) (by decide) (by decide +kernel) q620 ?_
        refine x_iload (np := 6) (x := 4) (by decide +kernel) rfl l619 ?_
        refine x_iload (np := 8) (x := 5) (by decide +kernel) rfl (by decide) ?_
        have m624 := Tp.fr m388 f391 (by decide) (by decide)
        refine x_cI (t := 6) (mj := 79) (n := 3) (rc := 8) (ml := 5) (nr := 0) (np := 11) (as := [x_r 1, iv_c ((h357 ((h 61 1) + 8) (1 + 4 * u78))), iv_c 2147483659]) (rest := []) (lo1 := [x_r 1, iv_c ((h357 ((h 61 1) + 8) (1 + 4 * u78))), iv_c 2147483659, 147573952589676412928, 147573952589676412928]) (by decide +kernel) (by decide) (by decide +kernel) (x_rb_of (by decide +kernel)) rfl rfl (x_wr (by decide) (x_wi l619 (x_wi (by decide) x_wn))) x_wn (by decide) rfl (c79_1 j390  (by first | decide | omega) (by first | decide | omega) m624) (fun v621 h625 l622 q623 => ?_)
        obtain ⟨j626, f627, b628, c629, c630, c631, c632⟩ := q623
        have f633 := Fr.trans f396 f627 (by decide)
        have b634 := jB (e := 2) 0 j626 rg_1_2_0_1 (by first | decide | omega) (by first | decide | omega)
        refine x_istore (np := 13) (x := 6) (lo' := [x_r 61, x_r ((h 61 1) + 7), iv_c v5, iv_c 2147483651, iv_c ((h357 ((h 61 1) + 8) (1 + 4 * u78))), iv_c 2147483659, iv_c v621]) (by decide +kernel) l622 (Nat.le_of_ble_eq_true rfl) rfl ?_
        refine x_iload (np := 15) (x := 6) (by decide +kernel) rfl l622 ?_
        refine x_const (np := 16) (x := 9223372034707292159) (a := 2147483647) (by decide +kernel) (by decide) (by decide) ?_
        refine x_icmp (k := 1) (tg := 21) (np := 19) (by decide +kernel) (by decide) l622 (by decide) (fun q635 => ?_) (fun q636 => ?_)
        · have q635 : v621 ≠ 2147483647 := q635
          have b637 := c630 (by first | decide | omega)
          refine x_aload (np := 22) (x := 1) (by decide +kernel) rfl (x_nc_le (tn_7 t1)) ?_
          refine x_iload (np := 23) (x := 2) (by decide +kernel) rfl l6 ?_
          refine x_iload (np := 24) (x := 3) (by decide +kernel) rfl (by decide) ?_
          refine x_iload (np := 26) (x := 6) (by decide +kernel) rfl l622 ?_
          refine x_nV (t := 6) (mj := 69) (n := 4) (rc := 7) (ml := 5) (nr := 0) (np := 29) (as := [x_r ((h 61 1) + 7), iv_c v5, iv_c 2147483651, iv_c v621]) (rest := []) (lo1 := [x_r ((h 61 1) + 7), iv_c v5, iv_c 2147483651, iv_c v621, 147573952589676412928]) (by decide +kernel) (by decide) (by decide +kernel) (x_rb_of (tr_7_7 t1)) rfl rfl (x_wr (tn_7 t1) (x_wi l6 (x_wi (by decide) (x_wi l622 x_wn)))) x_wn (by decide) rfl ?_
          refine x_iload (np := 1) (x := 1) (by decide +kernel) rfl l6 ?_
          refine x_ifz (k := 2) (tg := 28) (np := 4) (by decide +kernel) (by decide) l6 (fun q638 => ?_) (fun q639 => ?_)
          · have q638 : v5 < 2147483648 := q638
            exfalso; omega
          have q639 : ¬ (v5 < 2147483648) := q639
          refine x_iload (np := 5) (x := 1) (by decide +kernel) rfl l6 ?_
          refine x_aload (np := 6) (x := 0) (by decide +kernel) rfl (x_nc_le (tn_7 t1)) ?_
          have q640 : h625 ((h 61 1) + 7) 2 = h389 ((h 61 1) + 7) 2 := jK 0 f627 (rg_T7_2_0_1 t1) (by first | decide | omega) (by first | decide | omega) (by decide)
          have q641 : h389 ((h 61 1) + 7) 2 = h357 ((h 61 1) + 7) 2 := jK 0 f391 (rg_T7_2_0_1 t1) (by first | decide | omega) (by first | decide | omega) (by decide)
          have q642 : h357 ((h 61 1) + 7) 2 = h234 ((h 61 1) + 7) 2 := jK 0 f359 (rg_T7_2_0_1 t1) (by first | decide | omega) (by first | decide | omega) (by decide)
          have q643 : h234 ((h 61 1) + 7) 2 = h222 ((h 61 1) + 7) 2 := jK 0 f236 (rg_T7_2_0_1 t1) (by first | decide | omega) (by first | decide | omega) (by decide)
          have q644 : h222 ((h 61 1) + 7) 2 = h180 ((h 61 1) + 7) 2 := by rw [← e224]; exact x_up_k tof_7_8
          have q645 : h180 ((h 61 1) + 7) 2 = h93 ((h 61 1) + 7) 2 := jK 0 f182 (rg_T7_2_0_1 t1) (by first | decide | omega) (by first | decide | omega) (by decide)
          have q646 : h93 ((h 61 1) + 7) 2 = h81 ((h 61 1) + 7) 2 := jK 0 f95 (rg_T7_2_0_1 t1) (by first | decide | omega) (by first | decide | omega) (by decide)
          have q647 : h81 ((h 61 1) + 7) 2 = h41 ((h 61 1) + 7) 2 := by rw [← e83]; exact x_up_k tof_7_8
          have q648 : h41 ((h 61 1) + 7) 2 = h8 ((h 61 1) + 7) 2 := jK 0 f43 (rg_T7_2_0_1 t1) (by first | decide | omega) (by first | decide | omega) (by decide)
          refine x_getC (np := 9) (x := 386) (f := 2) (q := (h8 ((h 61 1) + 7) 2)) (by decide +kernel) (by decide) (tg_7_386_2_0 t1) ((((((((q640.trans q641).trans q642).trans q643).trans q644).trans q645).trans q646).trans q647).trans q648) (fun l649 => ?_)
          refine x_icmp (k := 3) (tg := 28) (np := 12) (by decide +kernel) (by decide) l6 l60 (fun q650 => ?_) (fun q651 => ?_)
          · have q650 : (h8 ((h 61 1) + 7) 2) ≤ v5 := q650
            exfalso; omega
          have q651 : ¬ ((h8 ((h 61 1) + 7) 2) ≤ v5) := q651
          refine x_iload (np := 13) (x := 2) (by decide +kernel) rfl (by decide) ?_
          refine x_ifz (k := 2) (tg := 28) (np := 16) (by decide +kernel) (by decide) (by decide) (fun q652 => ?_) (fun q653 => ?_)
          · have q652 : 2147483651 < 2147483648 := q652
            exfalso; omega
          have q653 : ¬ (2147483651 < 2147483648) := q653
          refine x_iload (np := 17) (x := 2) (by decide +kernel) rfl (by decide) ?_
          refine x_aload (np := 18) (x := 0) (by decide +kernel) rfl (x_nc_le (tn_7 t1)) ?_
          have q654 : h625 ((h 61 1) + 7) 0 = h389 ((h 61 1) + 7) 0 := jK 0 f627 (rg_T7_0_0_1 t1) (by first | decide | omega) (by first | decide | omega) (by decide)
          have q655 : h389 ((h 61 1) + 7) 0 = h357 ((h 61 1) + 7) 0 := jK 0 f391 (rg_T7_0_0_1 t1) (by first | decide | omega) (by first | decide | omega) (by decide)
          have q656 : h357 ((h 61 1) + 7) 0 = h234 ((h 61 1) + 7) 0 := jK 0 f359 (rg_T7_0_0_1 t1) (by first | decide | omega) (by first | decide | omega) (by decide)
          have q657 : h234 ((h 61 1) + 7) 0 = h222 ((h 61 1) + 7) 0 := jK 0 f236 (rg_T7_0_0_1 t1) (by first | decide | omega) (by first | decide | omega) (by decide)
          have q658 : h222 ((h 61 1) + 7) 0 = h180 ((h 61 1) + 7) 0 := by rw [← e224]; exact x_up_k tof_7_8
          have q659 : h180 ((h 61 1) + 7) 0 = h93 ((h 61 1) + 7) 0 := jK 0 f182 (rg_T7_0_0_1 t1) (by first | decide | omega) (by first | decide | omega) (by decide)
          have q660 : h93 ((h 61 1) + 7) 0 = h81 ((h 61 1) + 7) 0 := jK 0 f95 (rg_T7_0_0_1 t1) (by first | decide | omega) (by first | decide | omega) (by decide)
          have q661 : h81 ((h 61 1) + 7) 0 = h41 ((h 61 1) + 7) 0 := by rw [← e83]; exact x_up_k tof_7_8
          have q662 : h41 ((h 61 1) + 7) 0 = h8 ((h 61 1) + 7) 0 := jK 0 f43 (rg_T7_0_0_1 t1) (by first | decide | omega) (by first | decide | omega) (by decide)
          have q663 : h8 ((h 61 1) + 7) 0 = h ((h 61 1) + 7) 0 := jK 0 f10 (rg_T7_0_0_1 t1) (by first | decide | omega) (by first | decide | omega) (by decide)
          refine x_getC (np := 21) (x := 384) (f := 0) (q := 2147483652) (by decide +kernel) (by decide) (tg_7_384_0_0 t1) ((((((((((q654.trans q655).trans q656).trans q657).trans q658).trans q659).trans q660).trans q661).trans q662).trans q663).trans q68) (fun l664 => ?_)
          refine x_icmp (k := 3) (tg := 28) (np := 24) (by decide +kernel) (by decide) (by decide) (by decide) (fun q665 => ?_) (fun q666 => ?_)
          · have q665 : 2147483652 ≤ 2147483651 := q665
            exfalso; omega
          have q666 : ¬ (2147483652 ≤ 2147483651) := q666
          refine x_const (np := 25) (x := 9223372043297226753) (a := 2147483649) (by decide +kernel) (by decide) (by decide) ?_
          refine x_goto (np := 28) (x := 29) (by decide +kernel) ?_
          refine x_istore (np := 31) (x := 4) (lo' := [x_r ((h 61 1) + 7), iv_c v5, iv_c 2147483651, iv_c v621, iv_c 2147483649]) (by decide +kernel) (by decide) (Nat.le_of_ble_eq_true rfl) rfl ?_
          refine x_iload (np := 33) (x := 4) (by decide +kernel) rfl (by decide) ?_
          refine x_ifz (k := 0) (tg := 50) (np := 36) (by decide +kernel) (by decide) (by decide) (fun q667 => ?_) (fun q668 => ?_)
          · have q667 : 2147483649 = 2147483648 := q667
            exfalso; omega
          have q668 : ¬ (2147483649 = 2147483648) := q668
          refine x_aload (np := 37) (x := 0) (by decide +kernel) rfl (x_nc_le (tn_7 t1)) ?_
          have q669 : h625 ((h 61 1) + 7) 1 = ((h 61 1) + 8) := tf_7_1 j626 t1
          refine x_getR (np := 40) (x := 385) (f := 1) (q := ((h 61 1) + 8)) (by decide +kernel) (by decide) (tg_7_385_1_1 t1) q669 ?_
          refine x_iload (np := 41) (x := 1) (by decide +kernel) rfl l6 ?_
          refine x_aload (np := 42) (x := 0) (by decide +kernel) rfl (x_nc_le (tn_7 t1)) ?_
          have q670 : h625 ((h 61 1) + 7) 0 = h389 ((h 61 1) + 7) 0 := jK 0 f627 (rg_T7_0_0_1 t1) (by first | decide | omega) (by first | decide | omega) (by decide)
          have q671 : h389 ((h 61 1) + 7) 0 = h357 ((h 61 1) + 7) 0 := jK 0 f391 (rg_T7_0_0_1 t1) (by first | decide | omega) (by first | decide | omega) (by decide)
          have q672 : h357 ((h 61 1) + 7) 0 = h234 ((h 61 1) + 7) 0 := jK 0 f359 (rg_T7_0_0_1 t1) (by first | decide | omega) (by first | decide | omega) (by decide)
          have q673 : h234 ((h 61 1) + 7) 0 = h222 ((h 61 1) + 7) 0 := jK 0 f236 (rg_T7_0_0_1 t1) (by first | decide | omega) (by first | decide | omega) (by decide)
          have q674 : h222 ((h 61 1) + 7) 0 = h180 ((h 61 1) + 7) 0 := by rw [← e224]; exact x_up_k tof_7_8
          have q675 : h180 ((h 61 1) + 7) 0 = h93 ((h 61 1) + 7) 0 := jK 0 f182 (rg_T7_0_0_1 t1) (by first | decide | omega) (by first | decide | omega) (by decide)
          have q676 : h93 ((h 61 1) + 7) 0 = h81 ((h 61 1) + 7) 0 := jK 0 f95 (rg_T7_0_0_1 t1) (by first | decide | omega) (by first | decide | omega) (by decide)
          have q677 : h81 ((h 61 1) + 7) 0 = h41 ((h 61 1) + 7) 0 := by rw [← e83]; exact x_up_k tof_7_8
          have q678 : h41 ((h 61 1) + 7) 0 = h8 ((h 61 1) + 7) 0 := jK 0 f43 (rg_T7_0_0_1 t1) (by first | decide | omega) (by first | decide | omega) (by decide)
          have q679 : h8 ((h 61 1) + 7) 0 = h ((h 61 1) + 7) 0 := jK 0 f10 (rg_T7_0_0_1 t1) (by first | decide | omega) (by first | decide | omega) (by decide)
          refine x_getC (np := 45) (x := 384) (f := 0) (q := 2147483652) (by decide +kernel) (by decide) (tg_7_384_0_0 t1) ((((((((((q670.trans q671).trans q672).trans q673).trans q674).trans q675).trans q676).trans q677).trans q678).trans q679).trans q68) (fun l680 => ?_)
          refine x_imul (np := 46) (x := 0) (i := u78) (j := 4) (v := (2147483648 + 4 * u78)) (by decide +kernel) (by first | decide | omega) (by first | decide | omega) (by first | decide | omega) (by first | decide | omega) l6 (by decide) ?_
          refine x_iload (np := 47) (x := 2) (by decide +kernel) rfl (by decide) ?_
          refine x_iadd (np := 48) (x := 0) (v := (2147483651 + 4 * u78)) (by decide +kernel) (by first | decide | omega) (by decide) (by first | decide | omega) (by first | decide | omega) ?_
          refine x_iload (np := 49) (x := 3) (by decide +kernel) rfl l622 ?_
          refine x_ast (np := 50) (x := 0) (kd := 1) (n := 40) (i := (3 + 4 * u78)) (by decide +kernel) (Or.inl rfl) (ta_8_40 t1) (by first | decide | omega) (by first | decide | omega) (by decide) l622 (fun z => absurd z (by decide)) ?_
          have j683 := jU (e := (3 + 4 * u78)) (v := v621) u78 j626 (rg_T8_3_4_10 t1) (by first | decide | omega) (by first | decide | omega) (by first | decide | omega)
          have f685 := jF (e := (3 + 4 * u78)) (v := v621) u78 f633 (rg_T8_3_4_10 t1) (by first | decide | omega) (by first | decide | omega) (by decide)
          generalize e684 : x_up h625 ((h 61 1) + 8) (3 + 4 * u78) v621 = h682 at j683 f685 ⊢
          refine x_retV (np := 51) (x := 0) (by decide +kernel) (by decide +kernel) ⟨rfl, ?_⟩
          refine x_const (np := 30) (x := 9223372043297226753) (a := 2147483649) (by decide +kernel) (by decide) (by decide) ?_
          refine x_retI (np := 31) (x := 0) (by decide +kernel) (by decide) (Or.inr ⟨by decide +kernel, by first | decide | omega, by first | decide | omega⟩) ⟨_, rfl, (by decide), ?_⟩
          refine x_ifz (k := 0) (tg := 136) (np := 132) (by decide +kernel) (by decide) (by decide) (fun q686 => ?_) (fun q687 => ?_)
          · have q686 : 2147483649 = 2147483648 := q686
            exfalso; omega
          have q687 : ¬ (2147483649 = 2147483648) := q687
          refine x_const (np := 133) (x := 9223372043297226753) (a := 2147483649) (by decide +kernel) (by decide) (by decide) ?_
          refine x_goto (np := 136) (x := 137) (by decide +kernel) ?_
          have e688 : rv h 0 = (h (h 61 1) 7) := (congrArg (fun z => svq h z 0) rfl).trans rfl
          have q689 : h682 61 1 = h625 61 1 := by rw [← e684]; exact x_up_k (Ne.symm (tne_8_61 t1))
          have q690 : h625 61 1 = h389 61 1 := f627 61 1 (by decide +kernel)
          have q691 : h389 61 1 = h357 61 1 := f391 61 1 (by decide +kernel)
          have q692 : h357 61 1 = h234 61 1 := f359 61 1 (by decide +kernel)
          have q693 : h234 61 1 = h222 61 1 := f236 61 1 (by decide +kernel)
          have q694 : h222 61 1 = h180 61 1 := by rw [← e224]; exact x_up_k (Ne.symm (tne_8_61 t1))
          have q695 : h180 61 1 = h93 61 1 := f182 61 1 (by decide +kernel)
          have q696 : h93 61 1 = h81 61 1 := f95 61 1 (by decide +kernel)
          have q697 : h81 61 1 = h41 61 1 := by rw [← e83]; exact x_up_k (Ne.symm (tne_8_61 t1))
          have q698 : h41 61 1 = h8 61 1 := f43 61 1 (by decide +kernel)
          have q699 : h8 61 1 = h 61 1 := f10 61 1 (by decide +kernel)
          have q700 : h682 (h 61 1) 7 = h625 (h 61 1) 7 := by rw [← e684]; exact x_up_k tof_0_8
          have q701 : h625 (h 61 1) 7 = h389 (h 61 1) 7 := jK 0 f627 (rg_T0_7_0_1 t1) (by first | decide | omega) (by first | decide | omega) (by decide)
          have q702 : h389 (h 61 1) 7 = h357 (h 61 1) 7 := jK 0 f391 (rg_T0_7_0_1 t1) (by first | decide | omega) (by first | decide | omega) (by decide)
          have q703 : h357 (h 61 1) 7 = h234 (h 61 1) 7 := jK 0 f359 (rg_T0_7_0_1 t1) (by first | decide | omega) (by first | decide | omega) (by decide)
          have q704 : h234 (h 61 1) 7 = h222 (h 61 1) 7 := jK 0 f236 (rg_T0_7_0_1 t1) (by first | decide | omega) (by first | decide | omega) (by decide)
          have q705 : h222 (h 61 1) 7 = h180 (h 61 1) 7 := by rw [← e224]; exact x_up_k tof_0_8
          have q706 : h180 (h 61 1) 7 = h93 (h 61 1) 7 := jK 0 f182 (rg_T0_7_0_1 t1) (by first | decide | omega) (by first | decide | omega) (by decide)
          have q707 : h93 (h 61 1) 7 = h81 (h 61 1) 7 := jK 0 f95 (rg_T0_7_0_1 t1) (by first | decide | omega) (by first | decide | omega) (by decide)
          have q708 : h81 (h 61 1) 7 = h41 (h 61 1) 7 := by rw [← e83]; exact x_up_k tof_0_8
          have q709 : h41 (h 61 1) 7 = h8 (h 61 1) 7 := jK 0 f43 (rg_T0_7_0_1 t1) (by first | decide | omega) (by first | decide | omega) (by decide)
          have e710 : rv h682 0 = (h8 (h 61 1) 7) := (congrArg (fun z => svq h682 z 0) ((((((((((q689.trans q690).trans q691).trans q692).trans q693).trans q694).trans q695).trans q696).trans q697).trans q698).trans q699)).trans (((((((((q700.trans q701).trans q702).trans q703).trans q704).trans q705).trans q706).trans q707).trans q708).trans q709)
          have e711 : rv h 1 = (h (h 61 1) 8) := (congrArg (fun z => svq h z 1) rfl).trans rfl
          have q712 : h682 61 1 = h625 61 1 := by rw [← e684]; exact x_up_k (Ne.symm (tne_8_61 t1))
          have q713 : h625 61 1 = h389 61 1 := f627 61 1 (by decide +kernel)
          have q714 : h389 61 1 = h357 61 1 := f391 61 1 (by decide +kernel)
          have q715 : h357 61 1 = h234 61 1 := f359 61 1 (by decide +kernel)
          have q716 : h234 61 1 = h222 61 1 := f236 61 1 (by decide +kernel)
          have q717 : h222 61 1 = h180 61 1 := by rw [← e224]; exact x_up_k (Ne.symm (tne_8_61 t1))
          have q718 : h180 61 1 = h93 61 1 := f182 61 1 (by decide +kernel)
          have q719 : h93 61 1 = h81 61 1 := f95 61 1 (by decide +kernel)
          have q720 : h81 61 1 = h41 61 1 := by rw [← e83]; exact x_up_k (Ne.symm (tne_8_61 t1))
          have q721 : h41 61 1 = h8 61 1 := f43 61 1 (by decide +kernel)
          have q722 : h8 61 1 = h 61 1 := f10 61 1 (by decide +kernel)
          have q723 : h682 (h 61 1) 8 = h625 (h 61 1) 8 := by rw [← e684]; exact x_up_k tof_0_8
          have q724 : h625 (h 61 1) 8 = h389 (h 61 1) 8 := jK 0 f627 (rg_T0_8_0_1 t1) (by first | decide | omega) (by first | decide | omega) (by decide)
          have q725 : h389 (h 61 1) 8 = h357 (h 61 1) 8 := jK 0 f391 (rg_T0_8_0_1 t1) (by first | decide | omega) (by first | decide | omega) (by decide)
          have q726 : h357 (h 61 1) 8 = h234 (h 61 1) 8 := jK 0 f359 (rg_T0_8_0_1 t1) (by first | decide | omega) (by first | decide | omega) (by decide)
          have q727 : h234 (h 61 1) 8 = h222 (h 61 1) 8 := jK 0 f236 (rg_T0_8_0_1 t1) (by first | decide | omega) (by first | decide | omega) (by decide)
          have q728 : h222 (h 61 1) 8 = h180 (h 61 1) 8 := by rw [← e224]; exact x_up_k tof_0_8
          have q729 : h180 (h 61 1) 8 = h93 (h 61 1) 8 := jK 0 f182 (rg_T0_8_0_1 t1) (by first | decide | omega) (by first | decide | omega) (by decide)
          have q730 : h93 (h 61 1) 8 = h81 (h 61 1) 8 := jK 0 f95 (rg_T0_8_0_1 t1) (by first | decide | omega) (by first | decide | omega) (by decide)
          have q731 : h81 (h 61 1) 8 = h41 (h 61 1) 8 := by rw [← e83]; exact x_up_k tof_0_8
          have q732 : h41 (h 61 1) 8 = h8 (h 61 1) 8 := jK 0 f43 (rg_T0_8_0_1 t1) (by first | decide | omega) (by first | decide | omega) (by decide)
          have e733 : rv h682 1 = (h8 (h 61 1) 8) := (congrArg (fun z => svq h682 z 1) ((((((((((q712.trans q713).trans q714).trans q715).trans q716).trans q717).trans q718).trans q719).trans q720).trans q721).trans q722)).trans (((((((((q723.trans q724).trans q725).trans q726).trans q727).trans q728).trans q729).trans q730).trans q731).trans q732)
          have e734 : rv h 2 = (h ((h 61 1) + 1) 2) := (congrArg (fun z => svq h z 2) rfl).trans rfl
          have q735 : h682 61 1 = h625 61 1 := by rw [← e684]; exact x_up_k (Ne.symm (tne_8_61 t1))
          have q736 : h625 61 1 = h389 61 1 := f627 61 1 (by decide +kernel)
          have q737 : h389 61 1 = h357 61 1 := f391 61 1 (by decide +kernel)
          have q738 : h357 61 1 = h234 61 1 := f359 61 1 (by decide +kernel)
          have q739 : h234 61 1 = h222 61 1 := f236 61 1 (by decide +kernel)
          have q740 : h222 61 1 = h180 61 1 := by rw [← e224]; exact x_up_k (Ne.symm (tne_8_61 t1))
          have q741 : h180 61 1 = h93 61 1 := f182 61 1 (by decide +kernel)
          have q742 : h93 61 1 = h81 61 1 := f95 61 1 (by decide +kernel)
          have q743 : h81 61 1 = h41 61 1 := by rw [← e83]; exact x_up_k (Ne.symm (tne_8_61 t1))
          have q744 : h41 61 1 = h8 61 1 := f43 61 1 (by decide +kernel)
          have q745 : h8 61 1 = h 61 1 := f10 61 1 (by decide +kernel)
          have q746 : h682 ((h 61 1) + 1) 2 = h625 ((h 61 1) + 1) 2 := by rw [← e684]; exact x_up_k tof_1_8
          have q747 : h625 ((h 61 1) + 1) 2 = h389 ((h 61 1) + 1) 2 := jK 0 f627 (rg_T1_2_0_1 t1) (by first | decide | omega) (by first | decide | omega) (by decide)
          have q748 : h389 ((h 61 1) + 1) 2 = h357 ((h 61 1) + 1) 2 := jK 0 f391 (rg_T1_2_0_1 t1) (by first | decide | omega) (by first | decide | omega) (by decide)
          have q749 : h357 ((h 61 1) + 1) 2 = h234 ((h 61 1) + 1) 2 := jK 0 f359 (rg_T1_2_0_1 t1) (by first | decide | omega) (by first | decide | omega) (by decide)
          have q750 : h234 ((h 61 1) + 1) 2 = h222 ((h 61 1) + 1) 2 := jK 0 f236 (rg_T1_2_0_1 t1) (by first | decide | omega) (by first | decide | omega) (by decide)
          have q751 : h222 ((h 61 1) + 1) 2 = h180 ((h 61 1) + 1) 2 := by rw [← e224]; exact x_up_k tof_1_8
          have q752 : h180 ((h 61 1) + 1) 2 = h93 ((h 61 1) + 1) 2 := jK 0 f182 (rg_T1_2_0_1 t1) (by first | decide | omega) (by first | decide | omega) (by decide)
          have q753 : h93 ((h 61 1) + 1) 2 = h81 ((h 61 1) + 1) 2 := jK 0 f95 (rg_T1_2_0_1 t1) (by first | decide | omega) (by first | decide | omega) (by decide)
          have q754 : h81 ((h 61 1) + 1) 2 = h41 ((h 61 1) + 1) 2 := by rw [← e83]; exact x_up_k tof_1_8
          have q755 : h41 ((h 61 1) + 1) 2 = h8 ((h 61 1) + 1) 2 := jK 0 f43 (rg_T1_2_0_1 t1) (by first | decide | omega) (by first | decide | omega) (by decide)
          have e756 : rv h682 2 = (h8 ((h 61 1) + 1) 2) := (congrArg (fun z => svq h682 z 2) ((((((((((q735.trans q736).trans q737).trans q738).trans q739).trans q740).trans q741).trans q742).trans q743).trans q744).trans q745)).trans (((((((((q746.trans q747).trans q748).trans q749).trans q750).trans q751).trans q752).trans q753).trans q754).trans q755)
          have e757 : rv h 3 = (h ((h 61 1) + 3) 2) := (congrArg (fun z => svq h z 3) rfl).trans rfl
          have q758 : h682 61 1 = h625 61 1 := by rw [← e684]; exact x_up_k (Ne.symm (tne_8_61 t1))
          have q759 : h625 61 1 = h389 61 1 := f627 61 1 (by decide +kernel)
          have q760 : h389 61 1 = h357 61 1 := f391 61 1 (by decide +kernel)
          have q761 : h357 61 1 = h234 61 1 := f359 61 1 (by decide +kernel)
          have q762 : h234 61 1 = h222 61 1 := f236 61 1 (by decide +kernel)
          have q763 : h222 61 1 = h180 61 1 := by rw [← e224]; exact x_up_k (Ne.symm (tne_8_61 t1))
          have q764 : h180 61 1 = h93 61 1 := f182 61 1 (by decide +kernel)
          have q765 : h93 61 1 = h81 61 1 := f95 61 1 (by decide +kernel)
          have q766 : h81 61 1 = h41 61 1 := by rw [← e83]; exact x_up_k (Ne.symm (tne_8_61 t1))
          have q767 : h41 61 1 = h8 61 1 := f43 61 1 (by decide +kernel)
          have q768 : h8 61 1 = h 61 1 := f10 61 1 (by decide +kernel)
          have q769 : h682 ((h 61 1) + 3) 2 = h625 ((h 61 1) + 3) 2 := by rw [← e684]; exact x_up_k tof_3_8
          have q770 : h625 ((h 61 1) + 3) 2 = h389 ((h 61 1) + 3) 2 := jK 0 f627 (rg_T3_2_0_1 t1) (by first | decide | omega) (by first | decide | omega) (by decide)
          have q771 : h389 ((h 61 1) + 3) 2 = h357 ((h 61 1) + 3) 2 := jK 0 f391 (rg_T3_2_0_1 t1) (by first | decide | omega) (by first | decide | omega) (by decide)
          have q772 : h357 ((h 61 1) + 3) 2 = h234 ((h 61 1) + 3) 2 := jK 0 f359 (rg_T3_2_0_1 t1) (by first | decide | omega) (by first | decide | omega) (by decide)
          have q773 : h234 ((h 61 1) + 3) 2 = h222 ((h 61 1) + 3) 2 := jK 0 f236 (rg_T3_2_0_1 t1) (by first | decide | omega) (by first | decide | omega) (by decide)
          have q774 : h222 ((h 61 1) + 3) 2 = h180 ((h 61 1) + 3) 2 := by rw [← e224]; exact x_up_k tof_3_8
          have q775 : h180 ((h 61 1) + 3) 2 = h93 ((h 61 1) + 3) 2 := jK 0 f182 (rg_T3_2_0_1 t1) (by first | decide | omega) (by first | decide | omega) (by decide)
          have q776 : h93 ((h 61 1) + 3) 2 = h81 ((h 61 1) + 3) 2 := jK 0 f95 (rg_T3_2_0_1 t1) (by first | decide | omega) (by first | decide | omega) (by decide)
          have q777 : h81 ((h 61 1) + 3) 2 = h41 ((h 61 1) + 3) 2 := by rw [← e83]; exact x_up_k tof_3_8
          have q778 : h41 ((h 61 1) + 3) 2 = h8 ((h 61 1) + 3) 2 := jK 0 f43 (rg_T3_2_0_1 t1) (by first | decide | omega) (by first | decide | omega) (by decide)
          have e779 : rv h682 3 = (h8 ((h 61 1) + 3) 2) := (congrArg (fun z => svq h682 z 3) ((((((((((q758.trans q759).trans q760).trans q761).trans q762).trans q763).trans q764).trans q765).trans q766).trans q767).trans q768)).trans (((((((((q769.trans q770).trans q771).trans q772).trans q773).trans q774).trans q775).trans q776).trans q777).trans q778)
          have e780 : rv h 4 = (h ((h 61 1) + 5) 2) := (congrArg (fun z => svq h z 4) rfl).trans rfl
          have q781 : h682 61 1 = h625 61 1 := by rw [← e684]; exact x_up_k (Ne.symm (tne_8_61 t1))
          have q782 : h625 61 1 = h389 61 1 := f627 61 1 (by decide +kernel)
          have q783 : h389 61 1 = h357 61 1 := f391 61 1 (by decide +kernel)
          have q784 : h357 61 1 = h234 61 1 := f359 61 1 (by decide +kernel)
          have q785 : h234 61 1 = h222 61 1 := f236 61 1 (by decide +kernel)
          have q786 : h222 61 1 = h180 61 1 := by rw [← e224]; exact x_up_k (Ne.symm (tne_8_61 t1))
          have q787 : h180 61 1 = h93 61 1 := f182 61 1 (by decide +kernel)
          have q788 : h93 61 1 = h81 61 1 := f95 61 1 (by decide +kernel)
          have q789 : h81 61 1 = h41 61 1 := by rw [← e83]; exact x_up_k (Ne.symm (tne_8_61 t1))
          have q790 : h41 61 1 = h8 61 1 := f43 61 1 (by decide +kernel)
          have q791 : h8 61 1 = h 61 1 := f10 61 1 (by decide +kernel)
          have q792 : h682 ((h 61 1) + 5) 2 = h625 ((h 61 1) + 5) 2 := by rw [← e684]; exact x_up_k tof_5_8
          have q793 : h625 ((h 61 1) + 5) 2 = h389 ((h 61 1) + 5) 2 := jK 0 f627 (rg_T5_2_0_1 t1) (by first | decide | omega) (by first | decide | omega) (by decide)
          have q794 : h389 ((h 61 1) + 5) 2 = h357 ((h 61 1) + 5) 2 := jK 0 f391 (rg_T5_2_0_1 t1) (by first | decide | omega) (by first | decide | omega) (by decide)
          have q795 : h357 ((h 61 1) + 5) 2 = h234 ((h 61 1) + 5) 2 := jK 0 f359 (rg_T5_2_0_1 t1) (by first | decide | omega) (by first | decide | omega) (by decide)
          have q796 : h234 ((h 61 1) + 5) 2 = h222 ((h 61 1) + 5) 2 := jK 0 f236 (rg_T5_2_0_1 t1) (by first | decide | omega) (by first | decide | omega) (by decide)
          have q797 : h222 ((h 61 1) + 5) 2 = h180 ((h 61 1) + 5) 2 := by rw [← e224]; exact x_up_k tof_5_8
          have q798 : h180 ((h 61 1) + 5) 2 = h93 ((h 61 1) + 5) 2 := jK 0 f182 (rg_T5_2_0_1 t1) (by first | decide | omega) (by first | decide | omega) (by decide)
          have q799 : h93 ((h 61 1) + 5) 2 = h81 ((h 61 1) + 5) 2 := jK 0 f95 (rg_T5_2_0_1 t1) (by first | decide | omega) (by first | decide | omega) (by decide)
          have q800 : h81 ((h 61 1) + 5) 2 = h41 ((h 61 1) + 5) 2 := by rw [← e83]; exact x_up_k tof_5_8
          have q801 : h41 ((h 61 1) + 5) 2 = h8 ((h 61 1) + 5) 2 := jK 0 f43 (rg_T5_2_0_1 t1) (by first | decide | omega) (by first | decide | omega) (by decide)
          have e802 : rv h682 4 = (h8 ((h 61 1) + 5) 2) := (congrArg (fun z => svq h682 z 4) ((((((((((q781.trans q782).trans q783).trans q784).trans q785).trans q786).trans q787).trans q788).trans q789).trans q790).trans q791)).trans (((((((((q792.trans q793).trans q794).trans q795).trans q796).trans q797).trans q798).trans q799).trans q800).trans q801)
          have q803 : h682 61 1 = h625 61 1 := by rw [← e684]; exact x_up_k (Ne.symm (tne_8_61 t1))
          have q804 : h625 61 1 = h389 61 1 := f627 61 1 (by decide +kernel)
          have q805 : h389 61 1 = h357 61 1 := f391 61 1 (by decide +kernel)
          have q806 : h357 61 1 = h234 61 1 := f359 61 1 (by decide +kernel)
          have q807 : h234 61 1 = h222 61 1 := f236 61 1 (by decide +kernel)
          have q808 : h222 61 1 = h180 61 1 := by rw [← e224]; exact x_up_k (Ne.symm (tne_8_61 t1))
          have q809 : h180 61 1 = h93 61 1 := f182 61 1 (by decide +kernel)
          have q810 : h93 61 1 = h81 61 1 := f95 61 1 (by decide +kernel)
          have q811 : h81 61 1 = h41 61 1 := by rw [← e83]; exact x_up_k (Ne.symm (tne_8_61 t1))
          have q812 : h41 61 1 = h8 61 1 := f43 61 1 (by decide +kernel)
          have q813 : h8 61 1 = h 61 1 := f10 61 1 (by decide +kernel)
          have q814 : h682 ((h 61 1) + 7) 2 = h625 ((h 61 1) + 7) 2 := by rw [← e684]; exact x_up_k tof_7_8
          have q815 : h625 ((h 61 1) + 7) 2 = h389 ((h 61 1) + 7) 2 := jK 0 f627 (rg_T7_2_0_1 t1) (by first | decide | omega) (by first | decide | omega) (by decide)
          have q816 : h389 ((h 61 1) + 7) 2 = h357 ((h 61 1) + 7) 2 := jK 0 f391 (rg_T7_2_0_1 t1) (by first | decide | omega) (by first | decide | omega) (by decide)
          have q817 : h357 ((h 61 1) + 7) 2 = h234 ((h 61 1) + 7) 2 := jK 0 f359 (rg_T7_2_0_1 t1) (by first | decide | omega) (by first | decide | omega) (by decide)
          have q818 : h234 ((h 61 1) + 7) 2 = h222 ((h 61 1) + 7) 2 := jK 0 f236 (rg_T7_2_0_1 t1) (by first | decide | omega) (by first | decide | omega) (by decide)
          have q819 : h222 ((h 61 1) + 7) 2 = h180 ((h 61 1) + 7) 2 := by rw [← e224]; exact x_up_k tof_7_8
          have q820 : h180 ((h 61 1) + 7) 2 = h93 ((h 61 1) + 7) 2 := jK 0 f182 (rg_T7_2_0_1 t1) (by first | decide | omega) (by first | decide | omega) (by decide)
          have q821 : h93 ((h 61 1) + 7) 2 = h81 ((h 61 1) + 7) 2 := jK 0 f95 (rg_T7_2_0_1 t1) (by first | decide | omega) (by first | decide | omega) (by decide)
          have q822 : h81 ((h 61 1) + 7) 2 = h41 ((h 61 1) + 7) 2 := by rw [← e83]; exact x_up_k tof_7_8
          have q823 : h41 ((h 61 1) + 7) 2 = h8 ((h 61 1) + 7) 2 := jK 0 f43 (rg_T7_2_0_1 t1) (by first | decide | omega) (by first | decide | omega) (by decide)
          have e824 : rv h682 5 = (h8 ((h 61 1) + 7) 2) := (congrArg (fun z => svq h682 z 5) ((((((((((q803.trans q804).trans q805).trans q806).trans q807).trans q808).trans q809).trans q810).trans q811).trans q812).trans q813)).trans (((((((((q814.trans q815).trans q816).trans q817).trans q818).trans q819).trans q820).trans q821).trans q822).trans q823)
          have q825 : h8 1 2 = h 1 2 := jK 0 f10 rg_1_2_0_1 (by first | decide | omega) (by first | decide | omega) (by decide)
          have q826 : h81 1 2 = h41 1 2 := by rw [← e83]; exact x_up_k (Ne.symm (tne_8_1 t1))
          obtain ⟨w827, e828⟩ := Tk.yes c99 (by first | decide | omega)
          have q829 : h222 1 2 = h180 1 2 := by rw [← e224]; exact x_up_k (Ne.symm (tne_8_1 t1))
          obtain ⟨w830, e831⟩ := Tk.yes c240 (by first | decide | omega)
          have q832 : h234 61 1 = h222 61 1 := f236 61 1 (by decide +kernel)
          have q833 : h222 61 1 = h180 61 1 := by rw [← e224]; exact x_up_k (Ne.symm (tne_8_61 t1))
          have q834 : h180 61 1 = h93 61 1 := f182 61 1 (by decide +kernel)
          have q835 : h93 61 1 = h81 61 1 := f95 61 1 (by decide +kernel)
          have q836 : h81 61 1 = h41 61 1 := by rw [← e83]; exact x_up_k (Ne.symm (tne_8_61 t1))
          have q837 : h41 61 1 = h8 61 1 := f43 61 1 (by decide +kernel)
          have q838 : h8 61 1 = h 61 1 := f10 61 1 (by decide +kernel)
          have q839 : h234 (h 61 1) 7 = h222 (h 61 1) 7 := jK 0 f236 (rg_T0_7_0_1 t1) (by first | decide | omega) (by first | decide | omega) (by decide)
          have q840 : h222 (h 61 1) 7 = h180 (h 61 1) 7 := by rw [← e224]; exact x_up_k tof_0_8
          have q841 : h180 (h 61 1) 7 = h93 (h 61 1) 7 := jK 0 f182 (rg_T0_7_0_1 t1) (by first | decide | omega) (by first | decide | omega) (by decide)
          have q842 : h93 (h 61 1) 7 = h81 (h 61 1) 7 := jK 0 f95 (rg_T0_7_0_1 t1) (by first | decide | omega) (by first | decide | omega) (by decide)
          have q843 : h81 (h 61 1) 7 = h41 (h 61 1) 7 := by rw [← e83]; exact x_up_k tof_0_8
          have q844 : h41 (h 61 1) 7 = h8 (h 61 1) 7 := jK 0 f43 (rg_T0_7_0_1 t1) (by first | decide | omega) (by first | decide | omega) (by decide)
          have e845 : rv h234 0 = (h8 (h 61 1) 7) := (congrArg (fun z => svq h234 z 0) ((((((q832.trans q833).trans q834).trans q835).trans q836).trans q837).trans q838)).trans (((((q839.trans q840).trans q841).trans q842).trans q843).trans q844)
          obtain ⟨w846, e847⟩ := Tk.yes c395 (by first | decide | omega)
          have q848 : h682 1 2 = h625 1 2 := by rw [← e684]; exact x_up_k (Ne.symm (tne_8_1 t1))
          have m849 : Ot (h 61 1) h h8 := Ot.trans Ot.refl (c19)
          have m850 : Ot (h 61 1) h h41 := Ot.fr m849 f43 (by decide)
          have m851 : Ot (h 61 1) h h81 := by rw [← e83]; exact Ot.up (o := 8) m850 t1 (by decide) rfl
          have m852 : Ot (h 61 1) h h93 := Ot.fr m851 f95 (by decide)
          have m853 : Ot (h 61 1) h h180 := Ot.fr m852 f182 (by decide)
          have m854 : Ot (h 61 1) h h222 := by rw [← e224]; exact Ot.up (o := 8) m853 t1 (by decide) rfl
          have m855 : Ot (h 61 1) h h234 := Ot.fr m854 f236 (by decide)
          have m856 : Ot (h 61 1) h h357 := Ot.trans m855 (Ot.cast c363 ((((((q365.trans q366).trans q367).trans q368).trans q369).trans q370).trans q371))
          have m857 : Ot (h 61 1) h h389 := Ot.fr m856 f391 (by decide)
          have m858 : Ot (h 61 1) h h625 := Ot.fr m857 f627 (by decide)
          have m859 : Ot (h 61 1) h h682 := by rw [← e684]; exact Ot.up (o := 8) m858 t1 (by decide) rfl
          refine x_retI (np := 138) (x := 0) (by decide +kernel) (by decide) (Or.inr ⟨by decide +kernel, by first | decide | omega, by first | decide | omega⟩) ⟨_, rfl, (by decide), ?_⟩
          exact ⟨j683, f685, (by first | decide | omega), (by first | decide | omega), (by first | decide | omega), (by first | decide | omega), (by first | decide | omega), (by first | decide | omega), (fun z => by first | decide | omega), (nm9.y c48 (by first | decide | omega) (by first | decide | omega) (show h8 1 2 = h 1 2 by first | decide | omega) (by first | decide | omega) rfl (wd9.y w827 (show h81 1 2 = h41 1 2 by first | decide | omega) e828 rfl (nm9.y c187 (by first | decide | omega) (by first | decide | omega) rfl (by first | decide | omega) rfl (wd9.y w830 (show h222 1 2 = h180 1 2 by first | decide | omega) e831 rfl (bl9.y c361 (by first | decide | omega) rfl (by first | decide | omega) rfl (wd9.y w846 rfl e847 rfl (nm9.y c632 (by first | decide | omega) (by first | decide | omega) rfl (by first | decide | omega) rfl (fin9.mk (by first | decide | omega) (show h625 1 2 = h682 1 2 by first | decide | omega))))))))), m859⟩
        have q636 : ¬ (v621 ≠ 2147483647) := q636
        have b860 := c631 (by first | decide | omega)
        refine x_const (np := 20) (x := 9223372039002259456) (a := 2147483648) (by decide +kernel) (by decide) (by decide) ?_
        refine x_retI (np := 21) (x := 0) (by decide +kernel) (by decide) (Or.inr ⟨by decide +kernel, by first | decide | omega, by first | decide | omega⟩) ⟨_, rfl, (by decide), ?_⟩
        refine x_ifz (k := 0) (tg := 136) (np := 132) (by decide +kernel) (by decide) (by decide) (fun q861 => ?_) (fun q862 => ?_)
        · have q861 : 2147483648 = 2147483648 := q861
          refine x_const (np := 137) (x := 9223372039002259456) (a := 2147483648) (by decide +kernel) (by decide) (by decide) ?_
          have e863 : rv h 0 = (h (h 61 1) 7) := (congrArg (fun z => svq h z 0) rfl).trans rfl
          have q864 : h625 61 1 = h389 61 1 := f627 61 1 (by decide +kernel)
          have q865 : h389 61 1 = h357 61 1 := f391 61 1 (by decide +kernel)
          have q866 : h357 61 1 = h234 61 1 := f359 61 1 (by decide +kernel)
          have q867 : h234 61 1 = h222 61 1 := f236 61 1 (by decide +kernel)
          have q868 : h222 61 1 = h180 61 1 := by rw [← e224]; exact x_up_k (Ne.symm (tne_8_61 t1))
          have q869 : h180 61 1 = h93 61 1 := f182 61 1 (by decide +kernel)
          have q870 : h93 61 1 = h81 61 1 := f95 61 1 (by decide +kernel)
          have q871 : h81 61 1 = h41 61 1 := by rw [← e83]; exact x_up_k (Ne.symm (tne_8_61 t1))
          have q872 : h41 61 1 = h8 61 1 := f43 61 1 (by decide +kernel)
          have q873 : h8 61 1 = h 61 1 := f10 61 1 (by decide +kernel)
          have q874 : h625 (h 61 1) 7 = h389 (h 61 1) 7 := jK 0 f627 (rg_T0_7_0_1 t1) (by first | decide | omega) (by first | decide | omega) (by decide)
          have q875 : h389 (h 61 1) 7 = h357 (h 61 1) 7 := jK 0 f391 (rg_T0_7_0_1 t1) (by first | decide | omega) (by first | decide | omega) (by decide)
          have q876 : h357 (h 61 1) 7 = h234 (h 61 1) 7 := jK 0 f359 (rg_T0_7_0_1 t1) (by first | decide | omega) (by first | decide | omega) (by decide)
          have q877 : h234 (h 61 1) 7 = h222 (h 61 1) 7 := jK 0 f236 (rg_T0_7_0_1 t1) (by first | decide | omega) (by first | decide | omega) (by decide)
          have q878 : h222 (h 61 1) 7 = h180 (h 61 1) 7 := by rw [← e224]; exact x_up_k tof_0_8
          have q879 : h180 (h 61 1) 7 = h93 (h 61 1) 7 := jK 0 f182 (rg_T0_7_0_1 t1) (by first | decide | omega) (by first | decide | omega) (by decide)
          have q880 : h93 (h 61 1) 7 = h81 (h 61 1) 7 := jK 0 f95 (rg_T0_7_0_1 t1) (by first | decide | omega) (by first | decide | omega) (by decide)
          have q881 : h81 (h 61 1) 7 = h41 (h 61 1) 7 := by rw [← e83]; exact x_up_k tof_0_8
          have q882 : h41 (h 61 1) 7 = h8 (h 61 1) 7 := jK 0 f43 (rg_T0_7_0_1 t1) (by first | decide | omega) (by first | decide | omega) (by decide)
          have e883 : rv h625 0 = (h8 (h 61 1) 7) := (congrArg (fun z => svq h625 z 0) (((((((((q864.trans q865).trans q866).trans q867).trans q868).trans q869).trans q870).trans q871).trans q872).trans q873)).trans ((((((((q874.trans q875).trans q876).trans q877).trans q878).trans q879).trans q880).trans q881).trans q882)
          have e884 : rv h 1 = (h (h 61 1) 8) := (congrArg (fun z => svq h z 1) rfl).trans rfl
          have q885 : h625 61 1 = h389 61 1 := f627 61 1 (by decide +kernel)
          have q886 : h389 61 1 = h357 61 1 := f391 61 1 (by decide +kernel)
          have q887 : h357 61 1 = h234 61 1 := f359 61 1 (by decide +kernel)
          have q888 : h234 61 1 = h222 61 1 := f236 61 1 (by decide +kernel)
          have q889 : h222 61 1 = h180 61 1 := by rw [← e224]; exact x_up_k (Ne.symm (tne_8_61 t1))
          have q890 : h180 61 1 = h93 61 1 := f182 61 1 (by decide +kernel)
          have q891 : h93 61 1 = h81 61 1 := f95 61 1 (by decide +kernel)
          have q892 : h81 61 1 = h41 61 1 := by rw [← e83]; exact x_up_k (Ne.symm (tne_8_61 t1))
          have q893 : h41 61 1 = h8 61 1 := f43 61 1 (by decide +kernel)
          have q894 : h8 61 1 = h 61 1 := f10 61 1 (by decide +kernel)
          have q895 : h625 (h 61 1) 8 = h389 (h 61 1) 8 := jK 0 f627 (rg_T0_8_0_1 t1) (by first | decide | omega) (by first | decide | omega) (by decide)
          have q896 : h389 (h 61 1) 8 = h357 (h 61 1) 8 := jK 0 f391 (rg_T0_8_0_1 t1) (by first | decide | omega) (by first | decide | omega) (by decide)
          have q897 : h357 (h 61 1) 8 = h234 (h 61 1) 8 := jK 0 f359 (rg_T0_8_0_1 t1) (by first | decide | omega) (by first | decide | omega) (by decide)
          have q898 : h234 (h 61 1) 8 = h222 (h 61 1) 8 := jK 0 f236 (rg_T0_8_0_1 t1) (by first | decide | omega) (by first | decide | omega) (by decide)
          have q899 : h222 (h 61 1) 8 = h180 (h 61 1) 8 := by rw [← e224]; exact x_up_k tof_0_8
          have q900 : h180 (h 61 1) 8 = h93 (h 61 1) 8 := jK 0 f182 (rg_T0_8_0_1 t1) (by first | decide | omega) (by first | decide | omega) (by decide)
          have q901 : h93 (h 61 1) 8 = h81 (h 61 1) 8 := jK 0 f95 (rg_T0_8_0_1 t1) (by first | decide | omega) (by first | decide | omega) (by decide)
          have q902 : h81 (h 61 1) 8 = h41 (h 61 1) 8 := by rw [← e83]; exact x_up_k tof_0_8
          have q903 : h41 (h 61 1) 8 = h8 (h 61 1) 8 := jK 0 f43 (rg_T0_8_0_1 t1) (by first | decide | omega) (by first | decide | omega) (by decide)
          have e904 : rv h625 1 = (h8 (h 61 1) 8) := (congrArg (fun z => svq h625 z 1) (((((((((q885.trans q886).trans q887).trans q888).trans q889).trans q890).trans q891).trans q892).trans q893).trans q894)).trans ((((((((q895.trans q896).trans q897).trans q898).trans q899).trans q900).trans q901).trans q902).trans q903)
          have e905 : rv h 2 = (h ((h 61 1) + 1) 2) := (congrArg (fun z => svq h z 2) rfl).trans rfl
          have q906 : h625 61 1 = h389 61 1 := f627 61 1 (by decide +kernel)
          have q907 : h389 61 1 = h357 61 1 := f391 61 1 (by decide +kernel)
          have q908 : h357 61 1 = h234 61 1 := f359 61 1 (by decide +kernel)
          have q909 : h234 61 1 = h222 61 1 := f236 61 1 (by decide +kernel)
          have q910 : h222 61 1 = h180 61 1 := by rw [← e224]; exact x_up_k (Ne.symm (tne_8_61 t1))
          have q911 : h180 61 1 = h93 61 1 := f182 61 1 (by decide +kernel)
          have q912 : h93 61 1 = h81 61 1 := f95 61 1 (by decide +kernel)
          have q913 : h81 61 1 = h41 61 1 := by rw [← e83]; exact x_up_k (Ne.symm (tne_8_61 t1))
          have q914 : h41 61 1 = h8 61 1 := f43 61 1 (by decide +kernel)
          have q915 : h8 61 1 = h 61 1 := f10 61 1 (by decide +kernel)
          have q916 : h625 ((h 61 1) + 1) 2 = h389 ((h 61 1) + 1) 2 := jK 0 f627 (rg_T1_2_0_1 t1) (by first | decide | omega) (by first | decide | omega) (by decide)
          have q917 : h389 ((h 61 1) + 1) 2 = h357 ((h 61 1) + 1) 2 := jK 0 f391 (rg_T1_2_0_1 t1) (by first | decide | omega) (by first | decide | omega) (by decide)
          have q918 : h357 ((h 61 1) + 1) 2 = h234 ((h 61 1) + 1) 2 := jK 0 f359 (rg_T1_2_0_1 t1) (by first | decide | omega) (by first | decide | omega) (by decide)
          have q919 : h234 ((h 61 1) + 1) 2 = h222 ((h 61 1) + 1) 2 := jK 0 f236 (rg_T1_2_0_1 t1) (by first | decide | omega) (by first | decide | omega) (by decide)
          have q920 : h222 ((h 61 1) + 1) 2 = h180 ((h 61 1) + 1) 2 := by rw [← e224]; exact x_up_k tof_1_8
          have q921 : h180 ((h 61 1) + 1) 2 = h93 ((h 61 1) + 1) 2 := jK 0 f182 (rg_T1_2_0_1 t1) (by first | decide | omega) (by first | decide | omega) (by decide)
          have q922 : h93 ((h 61 1) + 1) 2 = h81 ((h 61 1) + 1) 2 := jK 0 f95 (rg_T1_2_0_1 t1) (by first | decide | omega) (by first | decide | omega) (by decide)
          have q923 : h81 ((h 61 1) + 1) 2 = h41 ((h 61 1) + 1) 2 := by rw [← e83]; exact x_up_k tof_1_8
          have q924 : h41 ((h 61 1) + 1) 2 = h8 ((h 61 1) + 1) 2 := jK 0 f43 (rg_T1_2_0_1 t1) (by first | decide | omega) (by first | decide | omega) (by decide)
          have e925 : rv h625 2 = (h8 ((h 61 1) + 1) 2) := (congrArg (fun z => svq h625 z 2) (((((((((q906.trans q907).trans q908).trans q909).trans q910).trans q911).trans q912).trans q913).trans q914).trans q915)).trans ((((((((q916.trans q917).trans q918).trans q919).trans q920).trans q921).trans q922).trans q923).trans q924)
          have e926 : rv h 3 = (h ((h 61 1) + 3) 2) := (congrArg (fun z => svq h z 3) rfl).trans rfl
          have q927 : h625 61 1 = h389 61 1 := f627 61 1 (by decide +kernel)
          have q928 : h389 61 1 = h357 61 1 := f391 61 1 (by decide +kernel)
          have q929 : h357 61 1 = h234 61 1 := f359 61 1 (by decide +kernel)
          have q930 : h234 61 1 = h222 61 1 := f236 61 1 (by decide +kernel)
          have q931 : h222 61 1 = h180 61 1 := by rw [← e224]; exact x_up_k (Ne.symm (tne_8_61 t1))
          have q932 : h180 61 1 = h93 61 1 := f182 61 1 (by decide +kernel)
          have q933 : h93 61 1 = h81 61 1 := f95 61 1 (by decide +kernel)
          have q934 : h81 61 1 = h41 61 1 := by rw [← e83]; exact x_up_k (Ne.symm (tne_8_61 t1))
          have q935 : h41 61 1 = h8 61 1 := f43 61 1 (by decide +kernel)
          have q936 : h8 61 1 = h 61 1 := f10 61 1 (by decide +kernel)
          have q937 : h625 ((h 61 1) + 3) 2 = h389 ((h 61 1) + 3) 2 := jK 0 f627 (rg_T3_2_0_1 t1) (by first | decide | omega) (by first | decide | omega) (by decide)
          have q938 : h389 ((h 61 1) + 3) 2 = h357 ((h 61 1) + 3) 2 := jK 0 f391 (rg_T3_2_0_1 t1) (by first | decide | omega) (by first | decide | omega) (by decide)
          have q939 : h357 ((h 61 1) + 3) 2 = h234 ((h 61 1) + 3) 2 := jK 0 f359 (rg_T3_2_0_1 t1) (by first | decide | omega) (by first | decide | omega) (by decide)
          have q940 : h234 ((h 61 1) + 3) 2 = h222 ((h 61 1) + 3) 2 := jK 0 f236 (rg_T3_2_0_1 t1) (by first | decide | omega) (by first | decide | omega) (by decide)
          have q941 : h222 ((h 61 1) + 3) 2 = h180 ((h 61 1) + 3) 2 := by rw [← e224]; exact x_up_k tof_3_8
          have q942 : h180 ((h 61 1) + 3) 2 = h93 ((h 61 1) + 3) 2 := jK 0 f182 (rg_T3_2_0_1 t1) (by first | decide | omega) (by first | decide | omega) (by decide)
          have q943 : h93 ((h 61 1) + 3) 2 = h81 ((h 61 1) + 3) 2 := jK 0 f95 (rg_T3_2_0_1 t1) (by first | decide | omega) (by first | decide | omega) (by decide)
          have q944 : h81 ((h 61 1) + 3) 2 = h41 ((h 61 1) + 3) 2 := by rw [← e83]; exact x_up_k tof_3_8
          have q945 : h41 ((h 61 1) + 3) 2 = h8 ((h 61 1) + 3) 2 := jK 0 f43 (rg_T3_2_0_1 t1) (by first | decide | omega) (by first | decide | omega) (by decide)
          have e946 : rv h625 3 = (h8 ((h 61 1) + 3) 2) := (congrArg (fun z => svq h625 z 3) (((((((((q927.trans q928).trans q929).trans q930).trans q931).trans q932).trans q933).trans q934).trans q935).trans q936)).trans ((((((((q937.trans q938).trans q939).trans q940).trans q941).trans q942).trans q943).trans q944).trans q945)
          have e947 : rv h 4 = (h ((h 61 1) + 5) 2) := (congrArg (fun z => svq h z 4) rfl).trans rfl
          have q948 : h625 61 1 = h389 61 1 := f627 61 1 (by decide +kernel)
          have q949 : h389 61 1 = h357 61 1 := f391 61 1 (by decide +kernel)
          have q950 : h357 61 1 = h234 61 1 := f359 61 1 (by decide +kernel)
          have q951 : h234 61 1 = h222 61 1 := f236 61 1 (by decide +kernel)
          have q952 : h222 61 1 = h180 61 1 := by rw [← e224]; exact x_up_k (Ne.symm (tne_8_61 t1))
          have q953 : h180 61 1 = h93 61 1 := f182 61 1 (by decide +kernel)
          have q954 : h93 61 1 = h81 61 1 := f95 61 1 (by decide +kernel)
          have q955 : h81 61 1 = h41 61 1 := by rw [← e83]; exact x_up_k (Ne.symm (tne_8_61 t1))
          have q956 : h41 61 1 = h8 61 1 := f43 61 1 (by decide +kernel)
          have q957 : h8 61 1 = h 61 1 := f10 61 1 (by decide +kernel)
          have q958 : h625 ((h 61 1) + 5) 2 = h389 ((h 61 1) + 5) 2 := jK 0 f627 (rg_T5_2_0_1 t1) (by first | decide | omega) (by first | decide | omega) (by decide)
          have q959 : h389 ((h 61 1) + 5) 2 = h357 ((h 61 1) + 5) 2 := jK 0 f391 (rg_T5_2_0_1 t1) (by first | decide | omega) (by first | decide | omega) (by decide)
          have q960 : h357 ((h 61 1) + 5) 2 = h234 ((h 61 1) + 5) 2 := jK 0 f359 (rg_T5_2_0_1 t1) (by first | decide | omega) (by first | decide | omega) (by decide)
          have q961 : h234 ((h 61 1) + 5) 2 = h222 ((h 61 1) + 5) 2 := jK 0 f236 (rg_T5_2_0_1 t1) (by first | decide | omega) (by first | decide | omega) (by decide)
          have q962 : h222 ((h 61 1) + 5) 2 = h180 ((h 61 1) + 5) 2 := by rw [← e224]; exact x_up_k tof_5_8
          have q963 : h180 ((h 61 1) + 5) 2 = h93 ((h 61 1) + 5) 2 := jK 0 f182 (rg_T5_2_0_1 t1) (by first | decide | omega) (by first | decide | omega) (by decide)
          have q964 : h93 ((h 61 1) + 5) 2 = h81 ((h 61 1) + 5) 2 := jK 0 f95 (rg_T5_2_0_1 t1) (by first | decide | omega) (by first | decide | omega) (by decide)
          have q965 : h81 ((h 61 1) + 5) 2 = h41 ((h 61 1) + 5) 2 := by rw [← e83]; exact x_up_k tof_5_8
          have q966 : h41 ((h 61 1) + 5) 2 = h8 ((h 61 1) + 5) 2 := jK 0 f43 (rg_T5_2_0_1 t1) (by first | decide | omega) (by first | decide | omega) (by decide)
          have e967 : rv h625 4 = (h8 ((h 61 1) + 5) 2) := (congrArg (fun z => svq h625 z 4) (((((((((q948.trans q949).trans q950).trans q951).trans q952).trans q953).trans q954).trans q955).trans q956).trans q957)).trans ((((((((q958.trans q959).trans q960).trans q961).trans q962).trans q963).trans q964).trans q965).trans q966)
          have q968 : h625 61 1 = h389 61 1 := f627 61 1 (by decide +kernel)
          have q969 : h389 61 1 = h357 61 1 := f391 61 1 (by decide +kernel)
          have q970 : h357 61 1 = h234 61 1 := f359 61 1 (by decide +kernel)
          have q971 : h234 61 1 = h222 61 1 := f236 61 1 (by decide +kernel)
          have q972 : h222 61 1 = h180 61 1 := by rw [← e224]; exact x_up_k (Ne.symm (tne_8_61 t1))
          have q973 : h180 61 1 = h93 61 1 := f182 61 1 (by decide +kernel)
          have q974 : h93 61 1 = h81 61 1 := f95 61 1 (by decide +kernel)
          have q975 : h81 61 1 = h41 61 1 := by rw [← e83]; exact x_up_k (Ne.symm (tne_8_61 t1))
          have q976 : h41 61 1 = h8 61 1 := f43 61 1 (by decide +kernel)
          have q977 : h8 61 1 = h 61 1 := f10 61 1 (by decide +kernel)
          have q978 : h625 ((h 61 1) + 7) 2 = h389 ((h 61 1) + 7) 2 := jK 0 f627 (rg_T7_2_0_1 t1) (by first | decide | omega) (by first | decide | omega) (by decide)
          have q979 : h389 ((h 61 1) + 7) 2 = h357 ((h 61 1) + 7) 2 := jK 0 f391 (rg_T7_2_0_1 t1) (by first | decide | omega) (by first | decide | omega) (by decide)
          have q980 : h357 ((h 61 1) + 7) 2 = h234 ((h 61 1) + 7) 2 := jK 0 f359 (rg_T7_2_0_1 t1) (by first | decide | omega) (by first | decide | omega) (by decide)
          have q981 : h234 ((h 61 1) + 7) 2 = h222 ((h 61 1) + 7) 2 := jK 0 f236 (rg_T7_2_0_1 t1) (by first | decide | omega) (by first | decide | omega) (by decide)
          have q982 : h222 ((h 61 1) + 7) 2 = h180 ((h 61 1) + 7) 2 := by rw [← e224]; exact x_up_k tof_7_8
          have q983 : h180 ((h 61 1) + 7) 2 = h93 ((h 61 1) + 7) 2 := jK 0 f182 (rg_T7_2_0_1 t1) (by first | decide | omega) (by first | decide | omega) (by decide)
          have q984 : h93 ((h 61 1) + 7) 2 = h81 ((h 61 1) + 7) 2 := jK 0 f95 (rg_T7_2_0_1 t1) (by first | decide | omega) (by first | decide | omega) (by decide)
          have q985 : h81 ((h 61 1) + 7) 2 = h41 ((h 61 1) + 7) 2 := by rw [← e83]; exact x_up_k tof_7_8
          have q986 : h41 ((h 61 1) + 7) 2 = h8 ((h 61 1) + 7) 2 := jK 0 f43 (rg_T7_2_0_1 t1) (by first | decide | omega) (by first | decide | omega) (by decide)
          have e987 : rv h625 5 = (h8 ((h 61 1) + 7) 2) := (congrArg (fun z => svq h625 z 5) (((((((((q968.trans q969).trans q970).trans q971).trans q972).trans q973).trans q974).trans q975).trans q976).trans q977)).trans ((((((((q978.trans q979).trans q980).trans q981).trans q982).trans q983).trans q984).trans q985).trans q986)
          have q988 : h8 1 2 = h 1 2 := jK 0 f10 rg_1_2_0_1 (by first | decide | omega) (by first | decide | omega) (by decide)
          have q989 : h81 1 2 = h41 1 2 := by rw [← e83]; exact x_up_k (Ne.symm (tne_8_1 t1))
          obtain ⟨w990, e991⟩ := Tk.yes c99 (by first | decide | omega)
          have q992 : h222 1 2 = h180 1 2 := by rw [← e224]; exact x_up_k (Ne.symm (tne_8_1 t1))
          obtain ⟨w993, e994⟩ := Tk.yes c240 (by first | decide | omega)
          have q995 : h234 61 1 = h222 61 1 := f236 61 1 (by decide +kernel)
          have q996 : h222 61 1 = h180 61 1 := by rw [← e224]; exact x_up_k (Ne.symm (tne_8_61 t1))
          have q997 : h180 61 1 = h93 61 1 := f182 61 1 (by decide +kernel)
          have q998 : h93 61 1 = h81 61 1 := f95 61 1 (by decide +kernel)
          have q999 : h81 61 1 = h41 61 1 := by rw [← e83]; exact x_up_k (Ne.symm (tne_8_61 t1))
          have q1000 : h41 61 1 = h8 61 1 := f43 61 1 (by decide +kernel)
          have q1001 : h8 61 1 = h 61 1 := f10 61 1 (by decide +kernel)
          have q1002 : h234 (h 61 1) 7 = h222 (h 61 1) 7 := jK 0 f236 (rg_T0_7_0_1 t1) (by first | decide | omega) (by first | decide | omega) (by decide)
          have q1003 : h222 (h 61 1) 7 = h180 (h 61 1) 7 := by rw [← e224]; exact x_up_k tof_0_8
          have q1004 : h180 (h 61 1) 7 = h93 (h 61 1) 7 := jK 0 f182 (rg_T0_7_0_1 t1) (by first | decide | omega) (by first | decide | omega) (by decide)
          have q1005 : h93 (h 61 1) 7 = h81 (h 61 1) 7 := jK 0 f95 (rg_T0_7_0_1 t1) (by first | decide | omega) (by first | decide | omega) (by decide)
          have q1006 : h81 (h 61 1) 7 = h41 (h 61 1) 7 := by rw [← e83]; exact x_up_k tof_0_8
          have q1007 : h41 (h 61 1) 7 = h8 (h 61 1) 7 := jK 0 f43 (rg_T0_7_0_1 t1) (by first | decide | omega) (by first | decide | omega) (by decide)
          have e1008 : rv h234 0 = (h8 (h 61 1) 7) := (congrArg (fun z => svq h234 z 0) ((((((q995.trans q996).trans q997).trans q998).trans q999).trans q1000).trans q1001)).trans (((((q1002.trans q1003).trans q1004).trans q1005).trans q1006).trans q1007)
          obtain ⟨w1009, e1010⟩ := Tk.yes c395 (by first | decide | omega)
          have m1011 : Ot (h 61 1) h h8 := Ot.trans Ot.refl (c19)
          have m1012 : Ot (h 61 1) h h41 := Ot.fr m1011 f43 (by decide)
          have m1013 : Ot (h 61 1) h h81 := by rw [← e83]; exact Ot.up (o := 8) m1012 t1 (by decide) rfl
          have m1014 : Ot (h 61 1) h h93 := Ot.fr m1013 f95 (by decide)
          have m1015 : Ot (h 61 1) h h180 := Ot.fr m1014 f182 (by decide)
          have m1016 : Ot (h 61 1) h h222 := by rw [← e224]; exact Ot.up (o := 8) m1015 t1 (by decide) rfl
          have m1017 : Ot (h 61 1) h h234 := Ot.fr m1016 f236 (by decide)
          have m1018 : Ot (h 61 1) h h357 := Ot.trans m1017 (Ot.cast c363 ((((((q365.trans q366).trans q367).trans q368).trans q369).trans q370).trans q371))
          have m1019 : Ot (h 61 1) h h389 := Ot.fr m1018 f391 (by decide)
          have m1020 : Ot (h 61 1) h h625 := Ot.fr m1019 f627 (by decide)
          refine x_retI (np := 138) (x := 0) (by decide +kernel) (by decide) (Or.inr ⟨by decide +kernel, by first | decide | omega, by first | decide | omega⟩) ⟨_, rfl, (by decide), ?_⟩
          exact ⟨j626, f633, (by first | decide | omega), (by first | decide | omega), (by first | decide | omega), (by first | decide | omega), (by first | decide | omega), (by first | decide | omega), (fun z => by first | decide | omega), (nm9.y c48 (by first | decide | omega) (by first | decide | omega) (show h8 1 2 = h 1 2 by first | decide | omega) (by first | decide | omega) rfl (wd9.y w990 (show h81 1 2 = h41 1 2 by first | decide | omega) e991 rfl (nm9.y c187 (by first | decide | omega) (by first | decide | omega) rfl (by first | decide | omega) rfl (wd9.y w993 (show h222 1 2 = h180 1 2 by first | decide | omega) e994 rfl (bl9.y c361 (by first | decide | omega) rfl (by first | decide | omega) rfl (wd9.y w1009 rfl e1010 rfl (nm9.f c632 (by first | decide | omega) (by first | decide | omega) rfl (by first | decide | omega) (by first | decide | omega)))))))), m1020⟩
        have q862 : ¬ (2147483648 = 2147483648) := q862
        exfalso; omega
      have q383 : ¬ (v353 ≠ 2147483648) := q383
      refine x_const (np := 89) (x := 9223372039002259456) (a := 2147483648) (by decide +kernel) (by decide) (by decide) ?_
      have e1021 : rv h 0 = (h (h 61 1) 7) := (congrArg (fun z => svq h z 0) rfl).trans rfl
      have q1022 : h357 61 1 = h234 61 1 := f359 61 1 (by decide +kernel)
      have q1023 : h234 61 1 = h222 61 1 := f236 61 1 (by decide +kernel)
      have q1024 : h222 61 1 = h180 61 1 := by rw [← e224]; exact x_up_k (Ne.symm (tne_8_61 t1))
      have q1025 : h180 61 1 = h93 61 1 := f182 61 1 (by decide +kernel)
      have q1026 : h93 61 1 = h81 61 1 := f95 61 1 (by decide +kernel)
      have q1027 : h81 61 1 = h41 61 1 := by rw [← e83]; exact x_up_k (Ne.symm (tne_8_61 t1))
      have q1028 : h41 61 1 = h8 61 1 := f43 61 1 (by decide +kernel)
      have q1029 : h8 61 1 = h 61 1 := f10 61 1 (by decide +kernel)
      have q1030 : h357 (h 61 1) 7 = h234 (h 61 1) 7 := jK 0 f359 (rg_T0_7_0_1 t1) (by first | decide | omega) (by first | decide | omega) (by decide)
      have q1031 : h234 (h 61 1) 7 = h222 (h 61 1) 7 := jK 0 f236 (rg_T0_7_0_1 t1) (by first | decide | omega) (by first | decide | omega) (by decide)
      have q1032 : h222 (h 61 1) 7 = h180 (h 61 1) 7 := by rw [← e224]; exact x_up_k tof_0_8
      have q1033 : h180 (h 61 1) 7 = h93 (h 61 1) 7 := jK 0 f182 (rg_T0_7_0_1 t1) (by first | decide | omega) (by first | decide | omega) (by decide)
      have q1034 : h93 (h 61 1) 7 = h81 (h 61 1) 7 := jK 0 f95 (rg_T0_7_0_1 t1) (by first | decide | omega) (by first | decide | omega) (by decide)
      have q1035 : h81 (h 61 1) 7 = h41 (h 61 1) 7 := by rw [← e83]; exact x_up_k tof_0_8
      have q1036 : h41 (h 61 1) 7 = h8 (h 61 1) 7 := jK 0 f43 (rg_T0_7_0_1 t1) (by first | decide | omega) (by first | decide | omega) (by decide)
      have e1037 : rv h357 0 = (h8 (h 61 1) 7) := (congrArg (fun z => svq h357 z 0) (((((((q1022.trans q1023).trans q1024).trans q1025).trans q1026).trans q1027).trans q1028).trans q1029)).trans ((((((q1030.trans q1031).trans q1032).trans q1033).trans q1034).trans q1035).trans q1036)
      have e1038 : rv h 1 = (h (h 61 1) 8) := (congrArg (fun z => svq h z 1) rfl).trans rfl
      have q1039 : h357 61 1 = h234 61 1 := f359 61 1 (by decide +kernel)
      have q1040 : h234 61 1 = h222 61 1 := f236 61 1 (by decide +kernel)
      have q1041 : h222 61 1 = h180 61 1 := by rw [← e224]; exact x_up_k (Ne.symm (tne_8_61 t1))
      have q1042 : h180 61 1 = h93 61 1 := f182 61 1 (by decide +kernel)
      have q1043 : h93 61 1 = h81 61 1 := f95 61 1 (by decide +kernel)
      have q1044 : h81 61 1 = h41 61 1 := by rw [← e83]; exact x_up_k (Ne.symm (tne_8_61 t1))
      have q1045 : h41 61 1 = h8 61 1 := f43 61 1 (by decide +kernel)
      have q1046 : h8 61 1 = h 61 1 := f10 61 1 (by decide +kernel)
      have q1047 : h357 (h 61 1) 8 = h234 (h 61 1) 8 := jK 0 f359 (rg_T0_8_0_1 t1) (by first | decide | omega) (by first | decide | omega) (by decide)
      have q1048 : h234 (h 61 1) 8 = h222 (h 61 1) 8 := jK 0 f236 (rg_T0_8_0_1 t1) (by first | decide | omega) (by first | decide | omega) (by decide)
      have q1049 : h222 (h 61 1) 8 = h180 (h 61 1) 8 := by rw [← e224]; exact x_up_k tof_0_8
      have q1050 : h180 (h 61 1) 8 = h93 (h 61 1) 8 := jK 0 f182 (rg_T0_8_0_1 t1) (by first | decide | omega) (by first | decide | omega) (by decide)
      have q1051 : h93 (h 61 1) 8 = h81 (h 61 1) 8 := jK 0 f95 (rg_T0_8_0_1 t1) (by first | decide | omega) (by first | decide | omega) (by decide)
      have q1052 : h81 (h 61 1) 8 = h41 (h 61 1) 8 := by rw [← e83]; exact x_up_k tof_0_8
      have q1053 : h41 (h 61 1) 8 = h8 (h 61 1) 8 := jK 0 f43 (rg_T0_8_0_1 t1) (by first | decide | omega) (by first | decide | omega) (by decide)
      have e1054 : rv h357 1 = (h8 (h 61 1) 8) := (congrArg (fun z => svq h357 z 1) (((((((q1039.trans q1040).trans q1041).trans q1042).trans q1043).trans q1044).trans q1045).trans q1046)).trans ((((((q1047.trans q1048).trans q1049).trans q1050).trans q1051).trans q1052).trans q1053)
      have e1055 : rv h 2 = (h ((h 61 1) + 1) 2) := (congrArg (fun z => svq h z 2) rfl).trans rfl
      have q1056 : h357 61 1 = h234 61 1 := f359 61 1 (by decide +kernel)
      have q1057 : h234 61 1 = h222 61 1 := f236 61 1 (by decide +kernel)
      have q1058 : h222 61 1 = h180 61 1 := by rw [← e224]; exact x_up_k (Ne.symm (tne_8_61 t1))
      have q1059 : h180 61 1 = h93 61 1 := f182 61 1 (by decide +kernel)
      have q1060 : h93 61 1 = h81 61 1 := f95 61 1 (by decide +kernel)
      have q1061 : h81 61 1 = h41 61 1 := by rw [← e83]; exact x_up_k (Ne.symm (tne_8_61 t1))
      have q1062 : h41 61 1 = h8 61 1 := f43 61 1 (by decide +kernel)
      have q1063 : h8 61 1 = h 61 1 := f10 61 1 (by decide +kernel)
      have q1064 : h357 ((h 61 1) + 1) 2 = h234 ((h 61 1) + 1) 2 := jK 0 f359 (rg_T1_2_0_1 t1) (by first | decide | omega) (by first | decide | omega) (by decide)
      have q1065 : h234 ((h 61 1) + 1) 2 = h222 ((h 61 1) + 1) 2 := jK 0 f236 (rg_T1_2_0_1 t1) (by first | decide | omega) (by first | decide | omega) (by decide)
      have q1066 : h222 ((h 61 1) + 1) 2 = h180 ((h 61 1) + 1) 2 := by rw [← e224]; exact x_up_k tof_1_8
      have q1067 : h180 ((h 61 1) + 1) 2 = h93 ((h 61 1) + 1) 2 := jK 0 f182 (rg_T1_2_0_1 t1) (by first | decide | omega) (by first | decide | omega) (by decide)
      have q1068 : h93 ((h 61 1) + 1) 2 = h81 ((h 61 1) + 1) 2 := jK 0 f95 (rg_T1_2_0_1 t1) (by first | decide | omega) (by first | decide | omega) (by decide)
      have q1069 : h81 ((h 61 1) + 1) 2 = h41 ((h 61 1) + 1) 2 := by rw [← e83]; exact x_up_k tof_1_8
      have q1070 : h41 ((h 61 1) + 1) 2 = h8 ((h 61 1) + 1) 2 := jK 0 f43 (rg_T1_2_0_1 t1) (by first | decide | omega) (by first | decide | omega) (by decide)
      have e1071 : rv h357 2 = (h8 ((h 61 1) + 1) 2) := (congrArg (fun z => svq h357 z 2) (((((((q1056.trans q1057).trans q1058).trans q1059).trans q1060).trans q1061).trans q1062).trans q1063)).trans ((((((q1064.trans q1065).trans q1066).trans q1067).trans q1068).trans q1069).trans q1070)
      have e1072 : rv h 3 = (h ((h 61 1) + 3) 2) := (congrArg (fun z => svq h z 3) rfl).trans rfl
      have q1073 : h357 61 1 = h234 61 1 := f359 61 1 (by decide +kernel)
      have q1074 : h234 61 1 = h222 61 1 := f236 61 1 (by decide +kernel)
      have q1075 : h222 61 1 = h180 61 1 := by rw [← e224]; exact x_up_k (Ne.symm (tne_8_61 t1))
      have q1076 : h180 61 1 = h93 61 1 := f182 61 1 (by decide +kernel)
      have q1077 : h93 61 1 = h81 61 1 := f95 61 1 (by decide +kernel)
      have q1078 : h81 61 1 = h41 61 1 := by rw [← e83]; exact x_up_k (Ne.symm (tne_8_61 t1))
      have q1079 : h41 61 1 = h8 61 1 := f43 61 1 (by decide +kernel)
      have q1080 : h8 61 1 = h 61 1 := f10 61 1 (by decide +kernel)
      have q1081 : h357 ((h 61 1) + 3) 2 = h234 ((h 61 1) + 3) 2 := jK 0 f359 (rg_T3_2_0_1 t1) (by first | decide | omega) (by first | decide | omega) (by decide)
      have q1082 : h234 ((h 61 1) + 3) 2 = h222 ((h 61 1) + 3) 2 := jK 0 f236 (rg_T3_2_0_1 t1) (by first | decide | omega) (by first | decide | omega) (by decide)
      have q1083 : h222 ((h 61 1) + 3) 2 = h180 ((h 61 1) + 3) 2 := by rw [← e224]; exact x_up_k tof_3_8
      have q1084 : h180 ((h 61 1) + 3) 2 = h93 ((h 61 1) + 3) 2 := jK 0 f182 (rg_T3_2_0_1 t1) (by first | decide | omega) (by first | decide | omega) (by decide)
      have q1085 : h93 ((h 61 1) + 3) 2 = h81 ((h 61 1) + 3) 2 := jK 0 f95 (rg_T3_2_0_1 t1) (by first | decide | omega) (by first | decide | omega) (by decide)
      have q1086 : h81 ((h 61 1) + 3) 2 = h41 ((h 61 1) + 3) 2 := by rw [← e83]; exact x_up_k tof_3_8
      have q1087 : h41 ((h 61 1) + 3) 2 = h8 ((h 61 1) + 3) 2 := jK 0 f43 (rg_T3_2_0_1 t1) (by first | decide | omega) (by first | decide | omega) (by decide)
      have e1088 : rv h357 3 = (h8 ((h 61 1) + 3) 2) := (congrArg (fun z => svq h357 z 3) (((((((q1073.trans q1074).trans q1075).trans q1076).trans q1077).trans q1078).trans q1079).trans q1080)).trans ((((((q1081.trans q1082).trans q1083).trans q1084).trans q1085).trans q1086).trans q1087)
      have e1089 : rv h 4 = (h ((h 61 1) + 5) 2) := (congrArg (fun z => svq h z 4) rfl).trans rfl
      have q1090 : h357 61 1 = h234 61 1 := f359 61 1 (by decide +kernel)
      have q1091 : h234 61 1 = h222 61 1 := f236 61 1 (by decide +kernel)
      have q1092 : h222 61 1 = h180 61 1 := by rw [← e224]; exact x_up_k (Ne.symm (tne_8_61 t1))
      have q1093 : h180 61 1 = h93 61 1 := f182 61 1 (by decide +kernel)
      have q1094 : h93 61 1 = h81 61 1 := f95 61 1 (by decide +kernel)
      have q1095 : h81 61 1 = h41 61 1 := by rw [← e83]; exact x_up_k (Ne.symm (tne_8_61 t1))
      have q1096 : h41 61 1 = h8 61 1 := f43 61 1 (by decide +kernel)
      have q1097 : h8 61 1 = h 61 1 := f10 61 1 (by decide +kernel)
      have q1098 : h357 ((h 61 1) + 5) 2 = h234 ((h 61 1) + 5) 2 := jK 0 f359 (rg_T5_2_0_1 t1) (by first | decide | omega) (by first | decide | omega) (by decide)
      have q1099 : h234 ((h 61 1) + 5) 2 = h222 ((h 61 1) + 5) 2 := jK 0 f236 (rg_T5_2_0_1 t1) (by first | decide | omega) (by first | decide | omega) (by decide)
      have q1100 : h222 ((h 61 1) + 5) 2 = h180 ((h 61 1) + 5) 2 := by rw [← e224]; exact x_up_k tof_5_8
      have q1101 : h180 ((h 61 1) + 5) 2 = h93 ((h 61 1) + 5) 2 := jK 0 f182 (rg_T5_2_0_1 t1) (by first | decide | omega) (by first | decide | omega) (by decide)
      have q1102 : h93 ((h 61 1) + 5) 2 = h81 ((h 61 1) + 5) 2 := jK 0 f95 (rg_T5_2_0_1 t1) (by first | decide | omega) (by first | decide | omega) (by decide)
      have q1103 : h81 ((h 61 1) + 5) 2 = h41 ((h 61 1) + 5) 2 := by rw [← e83]; exact x_up_k tof_5_8
      have q1104 : h41 ((h 61 1) + 5) 2 = h8 ((h 61 1) + 5) 2 := jK 0 f43 (rg_T5_2_0_1 t1) (by first | decide | omega) (by first | decide | omega) (by decide)
      have e1105 : rv h357 4 = (h8 ((h 61 1) + 5) 2) := (congrArg (fun z => svq h357 z 4) (((((((q1090.trans q1091).trans q1092).trans q1093).trans q1094).trans q1095).trans q1096).trans q1097)).trans ((((((q1098.trans q1099).trans q1100).trans q1101).trans q1102).trans q1103).trans q1104)
      have q1106 : h357 61 1 = h234 61 1 := f359 61 1 (by decide +kernel)
      have q1107 : h234 61 1 = h222 61 1 := f236 61 1 (by decide +kernel)
      have q1108 : h222 61 1 = h180 61 1 := by rw [← e224]; exact x_up_k (Ne.symm (tne_8_61 t1))
      have q1109 : h180 61 1 = h93 61 1 := f182 61 1 (by decide +kernel)
      have q1110 : h93 61 1 = h81 61 1 := f95 61 1 (by decide +kernel)
      have q1111 : h81 61 1 = h41 61 1 := by rw [← e83]; exact x_up_k (Ne.symm (tne_8_61 t1))
      have q1112 : h41 61 1 = h8 61 1 := f43 61 1 (by decide +kernel)
      have q1113 : h8 61 1 = h 61 1 := f10 61 1 (by decide +kernel)
      have q1114 : h357 ((h 61 1) + 7) 2 = h234 ((h 61 1) + 7) 2 := jK 0 f359 (rg_T7_2_0_1 t1) (by first | decide | omega) (by first | decide | omega) (by decide)
      have q1115 : h234 ((h 61 1) + 7) 2 = h222 ((h 61 1) + 7) 2 := jK 0 f236 (rg_T7_2_0_1 t1) (by first | decide | omega) (by first | decide | omega) (by decide)
      have q1116 : h222 ((h 61 1) + 7) 2 = h180 ((h 61 1) + 7) 2 := by rw [← e224]; exact x_up_k tof_7_8
      have q1117 : h180 ((h 61 1) + 7) 2 = h93 ((h 61 1) + 7) 2 := jK 0 f182 (rg_T7_2_0_1 t1) (by first | decide | omega) (by first | decide | omega) (by decide)
      have q1118 : h93 ((h 61 1) + 7) 2 = h81 ((h 61 1) + 7) 2 := jK 0 f95 (rg_T7_2_0_1 t1) (by first | decide | omega) (by first | decide | omega) (by decide)
      have q1119 : h81 ((h 61 1) + 7) 2 = h41 ((h 61 1) + 7) 2 := by rw [← e83]; exact x_up_k tof_7_8
      have q1120 : h41 ((h 61 1) + 7) 2 = h8 ((h 61 1) + 7) 2 := jK 0 f43 (rg_T7_2_0_1 t1) (by first | decide | omega) (by first | decide | omega) (by decide)
      have e1121 : rv h357 5 = (h8 ((h 61 1) + 7) 2) := (congrArg (fun z => svq h357 z 5) (((((((q1106.trans q1107).trans q1108).trans q1109).trans q1110).trans q1111).trans q1112).trans q1113)).trans ((((((q1114.trans q1115).trans q1116).trans q1117).trans q1118).trans q1119).trans q1120)
      have q1122 : h8 1 2 = h 1 2 := jK 0 f10 rg_1_2_0_1 (by first | decide | omega) (by first | decide | omega) (by decide)
      have q1123 : h81 1 2 = h41 1 2 := by rw [← e83]; exact x_up_k (Ne.symm (tne_8_1 t1))
      obtain ⟨w1124, e1125⟩ := Tk.yes c99 (by first | decide | omega)
      have q1126 : h222 1 2 = h180 1 2 := by rw [← e224]; exact x_up_k (Ne.symm (tne_8_1 t1))
      obtain ⟨w1127, e1128⟩ := Tk.yes c240 (by first | decide | omega)
      have q1129 : h234 61 1 = h222 61 1 := f236 61 1 (by decide +kernel)
      have q1130 : h222 61 1 = h180 61 1 := by rw [← e224]; exact x_up_k (Ne.symm (tne_8_61 t1))
      have q1131 : h180 61 1 = h93 61 1 := f182 61 1 (by decide +kernel)
      have q1132 : h93 61 1 = h81 61 1 := f95 61 1 (by decide +kernel)
      have q1133 : h81 61 1 = h41 61 1 := by rw [← e83]; exact x_up_k (Ne.symm (tne_8_61 t1))
      have q1134 : h41 61 1 = h8 61 1 := f43 61 1 (by decide +kernel)
      have q1135 : h8 61 1 = h 61 1 := f10 61 1 (by decide +kernel)
      have q1136 : h234 (h 61 1) 7 = h222 (h 61 1) 7 := jK 0 f236 (rg_T0_7_0_1 t1) (by first | decide | omega) (by first | decide | omega) (by decide)
      have q1137 : h222 (h 61 1) 7 = h180 (h 61 1) 7 := by rw [← e224]; exact x_up_k tof_0_8
      have q1138 : h180 (h 61 1) 7 = h93 (h 61 1) 7 := jK 0 f182 (rg_T0_7_0_1 t1) (by first | decide | omega) (by first | decide | omega) (by decide)
      have q1139 : h93 (h 61 1) 7 = h81 (h 61 1) 7 := jK 0 f95 (rg_T0_7_0_1 t1) (by first | decide | omega) (by first | decide | omega) (by decide)
      have q1140 : h81 (h 61 1) 7 = h41 (h 61 1) 7 := by rw [← e83]; exact x_up_k tof_0_8
      have q1141 : h41 (h 61 1) 7 = h8 (h 61 1) 7 := jK 0 f43 (rg_T0_7_0_1 t1) (by first | decide | omega) (by first | decide | omega) (by decide)
      have e1142 : rv h234 0 = (h8 (h 61 1) 7) := (congrArg (fun z => svq h234 z 0) ((((((q1129.trans q1130).trans q1131).trans q1132).trans q1133).trans q1134).trans q1135)).trans (((((q1136.trans q1137).trans q1138).trans q1139).trans q1140).trans q1141)
      have m1143 : Ot (h 61 1) h h8 := Ot.trans Ot.refl (c19)
      have m1144 : Ot (h 61 1) h h41 := Ot.fr m1143 f43 (by decide)
      have m1145 : Ot (h 61 1) h h81 := by rw [← e83]; exact Ot.up (o := 8) m1144 t1 (by decide) rfl
      have m1146 : Ot (h 61 1) h h93 := Ot.fr m1145 f95 (by decide)
      have m1147 : Ot (h 61 1) h h180 := Ot.fr m1146 f182 (by decide)
      have m1148 : Ot (h 61 1) h h222 := by rw [← e224]; exact Ot.up (o := 8) m1147 t1 (by decide) rfl
      have m1149 : Ot (h 61 1) h h234 := Ot.fr m1148 f236 (by decide)
      have m1150 : Ot (h 61 1) h h357 := Ot.trans m1149 (Ot.cast c363 ((((((q365.trans q366).trans q367).trans q368).trans q369).trans q370).trans q371))
      refine x_retI (np := 90) (x := 0) (by decide +kernel) (by decide) (Or.inr ⟨by decide +kernel, by first | decide | omega, by first | decide | omega⟩) ⟨_, rfl, (by decide), ?_⟩
      exact ⟨j358, f364, (by first | decide | omega), (by first | decide | omega), (by first | decide | omega), (by first | decide | omega), (by first | decide | omega), (by first | decide | omega), (fun z => by first | decide | omega), (nm9.y c48 (by first | decide | omega) (by first | decide | omega) (show h8 1 2 = h 1 2 by first | decide | omega) (by first | decide | omega) rfl (wd9.y w1124 (show h81 1 2 = h41 1 2 by first | decide | omega) e1125 rfl (nm9.y c187 (by first | decide | omega) (by first | decide | omega) rfl (by first | decide | omega) rfl (wd9.y w1127 (show h222 1 2 = h180 1 2 by first | decide | omega) e1128 rfl (bl9.f c361 (by first | decide | omega) rfl (by first | decide | omega) (by first | decide | omega)))))), m1150⟩
    have q191 : ¬ (v176 ≠ 2147483647) := q191
    have b1151 := c186 (by first | decide | omega)
    refine x_const (np := 20) (x := 9223372039002259456) (a := 2147483648) (by decide +kernel) (by decide) (by decide) ?_
    refine x_retI (np := 21) (x := 0) (by decide +kernel) (by decide) (Or.inr ⟨by decide +kernel, by first | decide | omega, by first | decide | omega⟩) ⟨_, rfl, (by decide), ?_⟩
    refine x_ifz (k := 0) (tg := 88) (np := 68) (by decide +kernel) (by decide) (by decide) (fun q1152 => ?_) (fun q1153 => ?_)
    · have q1152 : 2147483648 = 2147483648 := q1152
      refine x_const (np := 89) (x := 9223372039002259456) (a := 2147483648) (by decide +kernel) (by decide) (by decide) ?_
      have e1154 : rv h 0 = (h (h 61 1) 7) := (congrArg (fun z => svq h z 0) rfl).trans rfl
      have q1155 : h180 61 1 = h93 61 1 := f182 61 1 (by decide +kernel)
      have q1156 : h93 61 1 = h81 61 1 := f95 61 1 (by decide +kernel)
      have q1157 : h81 61 1 = h41 61 1 := by rw [← e83]; exact x_up_k (Ne.symm (tne_8_61 t1))
      have q1158 : h41 61 1 = h8 61 1 := f43 61 1 (by decide +kernel)
      have q1159 : h8 61 1 = h 61 1 := f10 61 1 (by decide +kernel)
      have q1160 : h180 (h 61 1) 7 = h93 (h 61 1) 7 := jK 0 f182 (rg_T0_7_0_1 t1) (by first | decide | omega) (by first | decide | omega) (by decide)
      have q1161 : h93 (h 61 1) 7 = h81 (h 61 1) 7 := jK 0 f95 (rg_T0_7_0_1 t1) (by first | decide | omega) (by first | decide | omega) (by decide)
      have q1162 : h81 (h 61 1) 7 = h41 (h 61 1) 7 := by rw [← e83]; exact x_up_k tof_0_8
      have q1163 : h41 (h 61 1) 7 = h8 (h 61 1) 7 := jK 0 f43 (rg_T0_7_0_1 t1) (by first | decide | omega) (by first | decide | omega) (by decide)
      have e1164 : rv h180 0 = (h8 (h 61 1) 7) := (congrArg (fun z => svq h180 z 0) ((((q1155.trans q1156).trans q1157).trans q1158).trans q1159)).trans (((q1160.trans q1161).trans q1162).trans q1163)
      have e1165 : rv h 1 = (h (h 61 1) 8) := (congrArg (fun z => svq h z 1) rfl).trans rfl
      have q1166 : h180 61 1 = h93 61 1 := f182 61 1 (by decide +kernel)
      have q1167 : h93 61 1 = h81 61 1 := f95 61 1 (by decide +kernel)
      have q1168 : h81 61 1 = h41 61 1 := by rw [← e83]; exact x_up_k (Ne.symm (tne_8_61 t1))
      have q1169 : h41 61 1 = h8 61 1 := f43 61 1 (by decide +kernel)
      have q1170 : h8 61 1 = h 61 1 := f10 61 1 (by decide +kernel)
      have q1171 : h180 (h 61 1) 8 = h93 (h 61 1) 8 := jK 0 f182 (rg_T0_8_0_1 t1) (by first | decide | omega) (by first | decide | omega) (by decide)
      have q1172 : h93 (h 61 1) 8 = h81 (h 61 1) 8 := jK 0 f95 (rg_T0_8_0_1 t1) (by first | decide | omega) (by first | decide | omega) (by decide)
      have q1173 : h81 (h 61 1) 8 = h41 (h 61 1) 8 := by rw [← e83]; exact x_up_k tof_0_8
      have q1174 : h41 (h 61 1) 8 = h8 (h 61 1) 8 := jK 0 f43 (rg_T0_8_0_1 t1) (by first | decide | omega) (by first | decide | omega) (by decide)
      have e1175 : rv h180 1 = (h8 (h 61 1) 8) := (congrArg (fun z => svq h180 z 1) ((((q1166.trans q1167).trans q1168).trans q1169).trans q1170)).trans (((q1171.trans q1172).trans q1173).trans q1174)
      have e1176 : rv h 2 = (h ((h 61 1) + 1) 2) := (congrArg (fun z => svq h z 2) rfl).trans rfl
      have q1177 : h180 61 1 = h93 61 1 := f182 61 1 (by decide +kernel)
      have q1178 : h93 61 1 = h81 61 1 := f95 61 1 (by decide +kernel)
      have q1179 : h81 61 1 = h41 61 1 := by rw [← e83]; exact x_up_k (Ne.symm (tne_8_61 t1))
      have q1180 : h41 61 1 = h8 61 1 := f43 61 1 (by decide +kernel)
      have q1181 : h8 61 1 = h 61 1 := f10 61 1 (by decide +kernel)
      have q1182 : h180 ((h 61 1) + 1) 2 = h93 ((h 61 1) + 1) 2 := jK 0 f182 (rg_T1_2_0_1 t1) (by first | decide | omega) (by first | decide | omega) (by decide)
      have q1183 : h93 ((h 61 1) + 1) 2 = h81 ((h 61 1) + 1) 2 := jK 0 f95 (rg_T1_2_0_1 t1) (by first | decide | omega) (by first | decide | omega) (by decide)
      have q1184 : h81 ((h 61 1) + 1) 2 = h41 ((h 61 1) + 1) 2 := by rw [← e83]; exact x_up_k tof_1_8
      have q1185 : h41 ((h 61 1) + 1) 2 = h8 ((h 61 1) + 1) 2 := jK 0 f43 (rg_T1_2_0_1 t1) (by first | decide | omega) (by first | decide | omega) (by decide)
      have e1186 : rv h180 2 = (h8 ((h 61 1) + 1) 2) := (congrArg (fun z => svq h180 z 2) ((((q1177.trans q1178).trans q1179).trans q1180).trans q1181)).trans (((q1182.trans q1183).trans q1184).trans q1185)
      have e1187 : rv h 3 = (h ((h 61 1) + 3) 2) := (congrArg (fun z => svq h z 3) rfl).trans rfl
      have q1188 : h180 61 1 = h93 61 1 := f182 61 1 (by decide +kernel)
      have q1189 : h93 61 1 = h81 61 1 := f95 61 1 (by decide +kernel)
      have q1190 : h81 61 1 = h41 61 1 := by rw [← e83]; exact x_up_k (Ne.symm (tne_8_61 t1))
      have q1191 : h41 61 1 = h8 61 1 := f43 61 1 (by decide +kernel)
      have q1192 : h8 61 1 = h 61 1 := f10 61 1 (by decide +kernel)
      have q1193 : h180 ((h 61 1) + 3) 2 = h93 ((h 61 1) + 3) 2 := jK 0 f182 (rg_T3_2_0_1 t1) (by first | decide | omega) (by first | decide | omega) (by decide)
      have q1194 : h93 ((h 61 1) + 3) 2 = h81 ((h 61 1) + 3) 2 := jK 0 f95 (rg_T3_2_0_1 t1) (by first | decide | omega) (by first | decide | omega) (by decide)
      have q1195 : h81 ((h 61 1) + 3) 2 = h41 ((h 61 1) + 3) 2 := by rw [← e83]; exact x_up_k tof_3_8
      have q1196 : h41 ((h 61 1) + 3) 2 = h8 ((h 61 1) + 3) 2 := jK 0 f43 (rg_T3_2_0_1 t1) (by first | decide | omega) (by first | decide | omega) (by decide)
      have e1197 : rv h180 3 = (h8 ((h 61 1) + 3) 2) := (congrArg (fun z => svq h180 z 3) ((((q1188.trans q1189).trans q1190).trans q1191).trans q1192)).trans (((q1193.trans q1194).trans q1195).trans q1196)
      have e1198 : rv h 4 = (h ((h 61 1) + 5) 2) := (congrArg (fun z => svq h z 4) rfl).trans rfl
      have q1199 : h180 61 1 = h93 61 1 := f182 61 1 (by decide +kernel)
      have q1200 : h93 61 1 = h81 61 1 := f95 61 1 (by decide +kernel)
      have q1201 : h81 61 1 = h41 61 1 := by rw [← e83]; exact x_up_k (Ne.symm (tne_8_61 t1))
      have q1202 : h41 61 1 = h8 61 1 := f43 61 1 (by decide +kernel)
      have q1203 : h8 61 1 = h 61 1 := f10 61 1 (by decide +kernel)
      have q1204 : h180 ((h 61 1) + 5) 2 = h93 ((h 61 1) + 5) 2 := jK 0 f182 (rg_T5_2_0_1 t1) (by first | decide | omega) (by first | decide | omega) (by decide)
      have q1205 : h93 ((h 61 1) + 5) 2 = h81 ((h 61 1) + 5) 2 := jK 0 f95 (rg_T5_2_0_1 t1) (by first | decide | omega) (by first | decide | omega) (by decide)
      have q1206 : h81 ((h 61 1) + 5) 2 = h41 ((h 61 1) + 5) 2 := by rw [← e83]; exact x_up_k tof_5_8
      have q1207 : h41 ((h 61 1) + 5) 2 = h8 ((h 61 1) + 5) 2 := jK 0 f43 (rg_T5_2_0_1 t1) (by first | decide | omega) (by first | decide | omega) (by decide)
      have e1208 : rv h180 4 = (h8 ((h 61 1) + 5) 2) := (congrArg (fun z => svq h180 z 4) ((((q1199.trans q1200).trans q1201).trans q1202).trans q1203)).trans (((q1204.trans q1205).trans q1206).trans q1207)
      have q1209 : h180 61 1 = h93 61 1 := f182 61 1 (by decide +kernel)
      have q1210 : h93 61 1 = h81 61 1 := f95 61 1 (by decide +kernel)
      have q1211 : h81 61 1 = h41 61 1 := by rw [← e83]; exact x_up_k (Ne.symm (tne_8_61 t1))
      have q1212 : h41 61 1 = h8 61 1 := f43 61 1 (by decide +kernel)
      have q1213 : h8 61 1 = h 61 1 := f10 61 1 (by decide +kernel)
      have q1214 : h180 ((h 61 1) + 7) 2 = h93 ((h 61 1) + 7) 2 := jK 0 f182 (rg_T7_2_0_1 t1) (by first | decide | omega) (by first | decide | omega) (by decide)
      have q1215 : h93 ((h 61 1) + 7) 2 = h81 ((h 61 1) + 7) 2 := jK 0 f95 (rg_T7_2_0_1 t1) (by first | decide | omega) (by first | decide | omega) (by decide)
      have q1216 : h81 ((h 61 1) + 7) 2 = h41 ((h 61 1) + 7) 2 := by rw [← e83]; exact x_up_k tof_7_8
      have q1217 : h41 ((h 61 1) + 7) 2 = h8 ((h 61 1) + 7) 2 := jK 0 f43 (rg_T7_2_0_1 t1) (by first | decide | omega) (by first | decide | omega) (by decide)
      have e1218 : rv h180 5 = (h8 ((h 61 1) + 7) 2) := (congrArg (fun z => svq h180 z 5) ((((q1209.trans q1210).trans q1211).trans q1212).trans q1213)).trans (((q1214.trans q1215).trans q1216).trans q1217)
      have q1219 : h8 1 2 = h 1 2 := jK 0 f10 rg_1_2_0_1 (by first | decide | omega) (by first | decide | omega) (by decide)
      have q1220 : h81 1 2 = h41 1 2 := by rw [← e83]; exact x_up_k (Ne.symm (tne_8_1 t1))
      obtain ⟨w1221, e1222⟩ := Tk.yes c99 (by first | decide | omega)
      have m1223 : Ot (h 61 1) h h8 := Ot.trans Ot.refl (c19)
      have m1224 : Ot (h 61 1) h h41 := Ot.fr m1223 f43 (by decide)
      have m1225 : Ot (h 61 1) h h81 := by rw [← e83]; exact Ot.up (o := 8) m1224 t1 (by decide) rfl
      have m1226 : Ot (h 61 1) h h93 := Ot.fr m1225 f95 (by decide)
      have m1227 : Ot (h 61 1) h h180 := Ot.fr m1226 f182 (by decide)
      refine x_retI (np := 90) (x := 0) (by decide +kernel) (by decide) (Or.inr ⟨by decide +kernel, by first | decide | omega, by first | decide | omega⟩) ⟨_, rfl, (by decide), ?_⟩
      exact ⟨j181, f188, (by first | decide | omega), (by first | decide | omega), (by first | decide | omega), (by first | decide | omega), (by first | decide | omega), (by first | decide | omega), (fun z => by first | decide | omega), (nm9.y c48 (by first | decide | omega) (by first | decide | omega) (show h8 1 2 = h 1 2 by first | decide | omega) (by first | decide | omega) rfl (wd9.y w1221 (show h81 1 2 = h41 1 2 by first | decide | omega) e1222 rfl (nm9.f c187 (by first | decide | omega) (by first | decide | omega) rfl (by first | decide | omega) (by first | decide | omega)))), m1227⟩
    have q1153 : ¬ (2147483648 = 2147483648) := q1153
    exfalso; omega
  have q55 : ¬ (v37 ≠ 2147483647) := q55
  have b1228 := c47 (by first | decide | omega)
  refine x_const (np := 20) (x := 9223372039002259456) (a := 2147483648) (by decide +kernel) (by decide) (by decide) ?_
  refine x_retI (np := 21) (x := 0) (by decide +kernel) (by decide) (Or.inr ⟨by decide +kernel, by first | decide | omega, by first | decide | omega⟩) ⟨_, rfl, (by decide), ?_⟩
  refine x_ifz (k := 0) (tg := 88) (np := 37) (by decide +kernel) (by decide) (by decide) (fun q1229 => ?_) (fun q1230 => ?_)
  · have q1229 : 2147483648 = 2147483648 := q1229
    refine x_const (np := 89) (x := 9223372039002259456) (a := 2147483648) (by decide +kernel) (by decide) (by decide) ?_
    have e1231 : rv h 0 = (h (h 61 1) 7) := (congrArg (fun z => svq h z 0) rfl).trans rfl
    have q1232 : h41 61 1 = h8 61 1 := f43 61 1 (by decide +kernel)
    have q1233 : h8 61 1 = h 61 1 := f10 61 1 (by decide +kernel)
    have q1234 : h41 (h 61 1) 7 = h8 (h 61 1) 7 := jK 0 f43 (rg_T0_7_0_1 t1) (by first | decide | omega) (by first | decide | omega) (by decide)
    have e1235 : rv h41 0 = (h8 (h 61 1) 7) := (congrArg (fun z => svq h41 z 0) (q1232.trans q1233)).trans q1234
    have e1236 : rv h 1 = (h (h 61 1) 8) := (congrArg (fun z => svq h z 1) rfl).trans rfl
    have q1237 : h41 61 1 = h8 61 1 := f43 61 1 (by decide +kernel)
    have q1238 : h8 61 1 = h 61 1 := f10 61 1 (by decide +kernel)
    have q1239 : h41 (h 61 1) 8 = h8 (h 61 1) 8 := jK 0 f43 (rg_T0_8_0_1 t1) (by first | decide | omega) (by first | decide | omega) (by decide)
    have e1240 : rv h41 1 = (h8 (h 61 1) 8) := (congrArg (fun z => svq h41 z 1) (q1237.trans q1238)).trans q1239
    have e1241 : rv h 2 = (h ((h 61 1) + 1) 2) := (congrArg (fun z => svq h z 2) rfl).trans rfl
    have q1242 : h41 61 1 = h8 61 1 := f43 61 1 (by decide +kernel)
    have q1243 : h8 61 1 = h 61 1 := f10 61 1 (by decide +kernel)
    have q1244 : h41 ((h 61 1) + 1) 2 = h8 ((h 61 1) + 1) 2 := jK 0 f43 (rg_T1_2_0_1 t1) (by first | decide | omega) (by first | decide | omega) (by decide)
    have e1245 : rv h41 2 = (h8 ((h 61 1) + 1) 2) := (congrArg (fun z => svq h41 z 2) (q1242.trans q1243)).trans q1244
    have e1246 : rv h 3 = (h ((h 61 1) + 3) 2) := (congrArg (fun z => svq h z 3) rfl).trans rfl
    have q1247 : h41 61 1 = h8 61 1 := f43 61 1 (by decide +kernel)
    have q1248 : h8 61 1 = h 61 1 := f10 61 1 (by decide +kernel)
    have q1249 : h41 ((h 61 1) + 3) 2 = h8 ((h 61 1) + 3) 2 := jK 0 f43 (rg_T3_2_0_1 t1) (by first | decide | omega) (by first | decide | omega) (by decide)
    have e1250 : rv h41 3 = (h8 ((h 61 1) + 3) 2) := (congrArg (fun z => svq h41 z 3) (q1247.trans q1248)).trans q1249
    have e1251 : rv h 4 = (h ((h 61 1) + 5) 2) := (congrArg (fun z => svq h z 4) rfl).trans rfl
    have q1252 : h41 61 1 = h8 61 1 := f43 61 1 (by decide +kernel)
    have q1253 : h8 61 1 = h 61 1 := f10 61 1 (by decide +kernel)
    have q1254 : h41 ((h 61 1) + 5) 2 = h8 ((h 61 1) + 5) 2 := jK 0 f43 (rg_T5_2_0_1 t1) (by first | decide | omega) (by first | decide | omega) (by decide)
    have e1255 : rv h41 4 = (h8 ((h 61 1) + 5) 2) := (congrArg (fun z => svq h41 z 4) (q1252.trans q1253)).trans q1254
    have q1256 : h41 61 1 = h8 61 1 := f43 61 1 (by decide +kernel)
    have q1257 : h8 61 1 = h 61 1 := f10 61 1 (by decide +kernel)
    have q1258 : h41 ((h 61 1) + 7) 2 = h8 ((h 61 1) + 7) 2 := jK 0 f43 (rg_T7_2_0_1 t1) (by first | decide | omega) (by first | decide | omega) (by decide)
    have e1259 : rv h41 5 = (h8 ((h 61 1) + 7) 2) := (congrArg (fun z => svq h41 z 5) (q1256.trans q1257)).trans q1258
    have q1260 : h8 1 2 = h 1 2 := jK 0 f10 rg_1_2_0_1 (by first | decide | omega) (by first | decide | omega) (by decide)
    have m1261 : Ot (h 61 1) h h8 := Ot.trans Ot.refl (c19)
    have m1262 : Ot (h 61 1) h h41 := Ot.fr m1261 f43 (by decide)
    refine x_retI (np := 90) (x := 0) (by decide +kernel) (by decide) (Or.inr ⟨by decide +kernel, by first | decide | omega, by first | decide | omega⟩) ⟨_, rfl, (by decide), ?_⟩
    exact ⟨j42, f49, (by first | decide | omega), (by first | decide | omega), (by first | decide | omega), (by first | decide | omega), (by first | decide | omega), (by first | decide | omega), (fun z => by first | decide | omega), (nm9.f c48 (by first | decide | omega) (by first | decide | omega) (show h8 1 2 = h 1 2 by first | decide | omega) (by first | decide | omega) (by first | decide | omega)), m1262⟩
  have q1230 : ¬ (2147483648 = 2147483648) := q1230
  exfalso; omega
