/-! ===== methods ===== -/
set_option maxHeartbeats 0 in
/-- LentNames$Table.put(III)V -/
theorem c69_T1_c6 {sc : Nat × Nat} {d ra0 a1 a3 : Nat} {h : xh} (hJ : J h) (ta0 : tw ra0) (ba1 : 2147483648 ≤ a1 ∧ a1 ≤ 2147483667) (ba3 : 2147483648 ≤ a3 ∧ a3 ≤ 2147483660) : X sc 69 d (xV fun h' => J h' ∧ Fr 129 h h') 0 0 0 [x_r (ra0 + 1), iv_c a1, iv_c 2147483654, iv_c a3, 147573952589676412928] [] h := by
  have la1 : a1 < 4294967296 := by first | decide | omega
  have la3 : a3 < 4294967296 := by first | decide | omega
  have hF := Fr.refl 129 h
  refine x_iload (np := 1) (x := 1) (by decide +kernel) rfl la1 ?_
  refine x_ifz (k := 2) (tg := 28) (np := 4) (by decide +kernel) (by decide) la1 (fun q1 => ?_) (fun q2 => ?_)
  · have q1 : a1 < 2147483648 := q1
    exfalso; omega
  have q2 : ¬ (a1 < 2147483648) := q2
  refine x_iload (np := 5) (x := 1) (by decide +kernel) rfl la1 ?_
  refine x_aload (np := 6) (x := 0) (by decide +kernel) rfl (x_nc_le (tn_1 ta0)) ?_
  have b3 := jB (e := 2) 0 hJ (rg_T1_2_0_1 ta0) (by first | decide | omega) (by first | decide | omega)
  refine x_getC (np := 9) (x := 386) (f := 2) (q := (h (ra0 + 1) 2)) (by decide +kernel) (by decide) (tg_1_386_2_0 ta0) rfl (fun l4 => ?_)
  refine x_icmp (k := 3) (tg := 28) (np := 12) (by decide +kernel) (by decide) la1 l4 (fun q5 => ?_) (fun q6 => ?_)
  · have q5 : (h (ra0 + 1) 2) ≤ a1 := q5
    refine x_const (np := 29) (x := 9223372039002259456) (a := 2147483648) (by decide +kernel) (by decide) (by decide) ?_
    refine x_istore (np := 31) (x := 4) (lo' := [x_r (ra0 + 1), iv_c a1, iv_c 2147483654, iv_c a3, iv_c 2147483648]) (by decide +kernel) (by decide) (Nat.le_of_ble_eq_true rfl) rfl ?_
    refine x_iload (np := 33) (x := 4) (by decide +kernel) rfl (by decide) ?_
    refine x_ifz (k := 0) (tg := 50) (np := 36) (by decide +kernel) (by decide) (by decide) (fun q7 => ?_) (fun q8 => ?_)
    · have q7 : 2147483648 = 2147483648 := q7
      refine x_retV (np := 51) (x := 0) (by decide +kernel) (by decide +kernel) ⟨rfl, ?_⟩
      exact ⟨hJ, hF⟩
    have q8 : ¬ (2147483648 = 2147483648) := q8
    exfalso; omega
  have q6 : ¬ ((h (ra0 + 1) 2) ≤ a1) := q6
  refine x_iload (np := 13) (x := 2) (by decide +kernel) rfl (by decide) ?_
  refine x_ifz (k := 2) (tg := 28) (np := 16) (by decide +kernel) (by decide) (by decide) (fun q9 => ?_) (fun q10 => ?_)
  · have q9 : 2147483654 < 2147483648 := q9
    exfalso; omega
  have q10 : ¬ (2147483654 < 2147483648) := q10
  refine x_iload (np := 17) (x := 2) (by decide +kernel) rfl (by decide) ?_
  refine x_aload (np := 18) (x := 0) (by decide +kernel) rfl (x_nc_le (tn_1 ta0)) ?_
  have b11 := jB (e := 0) 0 hJ (rg_T1_0_0_1 ta0) (by first | decide | omega) (by first | decide | omega)
  have q12 : (h (ra0 + 1) 0) = 2147483655 := by first | decide | omega
  refine x_getC (np := 21) (x := 384) (f := 0) (q := 2147483655) (by decide +kernel) (by decide) (tg_1_384_0_0 ta0) q12 (fun l13 => ?_)
  refine x_icmp (k := 3) (tg := 28) (np := 24) (by decide +kernel) (by decide) (by decide) (by decide) (fun q14 => ?_) (fun q15 => ?_)
  · have q14 : 2147483655 ≤ 2147483654 := q14
    exfalso; omega
  have q15 : ¬ (2147483655 ≤ 2147483654) := q15
  refine x_const (np := 25) (x := 9223372043297226753) (a := 2147483649) (by decide +kernel) (by decide) (by decide) ?_
  refine x_goto (np := 28) (x := 29) (by decide +kernel) ?_
  refine x_istore (np := 31) (x := 4) (lo' := [x_r (ra0 + 1), iv_c a1, iv_c 2147483654, iv_c a3, iv_c 2147483649]) (by decide +kernel) (by decide) (Nat.le_of_ble_eq_true rfl) rfl ?_
  refine x_iload (np := 33) (x := 4) (by decide +kernel) rfl (by decide) ?_
  refine x_ifz (k := 0) (tg := 50) (np := 36) (by decide +kernel) (by decide) (by decide) (fun q16 => ?_) (fun q17 => ?_)
  · have q16 : 2147483649 = 2147483648 := q16
    exfalso; omega
  have q17 : ¬ (2147483649 = 2147483648) := q17
  refine x_aload (np := 37) (x := 0) (by decide +kernel) rfl (x_nc_le (tn_1 ta0)) ?_
  have q18 : h (ra0 + 1) 1 = (ra0 + 2) := tf_1_1 hJ ta0
  refine x_getR (np := 40) (x := 385) (f := 1) (q := (ra0 + 2)) (by decide +kernel) (by decide) (tg_1_385_1_1 ta0) q18 ?_
  refine x_iload (np := 41) (x := 1) (by decide +kernel) rfl la1 ?_
  refine x_aload (np := 42) (x := 0) (by decide +kernel) rfl (x_nc_le (tn_1 ta0)) ?_
  refine x_getC (np := 45) (x := 384) (f := 0) (q := 2147483655) (by decide +kernel) (by decide) (tg_1_384_0_0 ta0) q12 (fun l19 => ?_)
  obtain ⟨u20, q21⟩ : ∃ z, a1 = 2147483648 + z := ⟨a1 - 2147483648, by first | decide | omega⟩
  refine x_imul (np := 46) (x := 0) (i := u20) (j := 7) (v := (2147483648 + 7 * u20)) (by decide +kernel) (by first | decide | omega) (by first | decide | omega) (by first | decide | omega) (by first | decide | omega) la1 (by decide) ?_
  refine x_iload (np := 47) (x := 2) (by decide +kernel) rfl (by decide) ?_
  refine x_iadd (np := 48) (x := 0) (v := (2147483654 + 7 * u20)) (by decide +kernel) (by first | decide | omega) (by decide) (by first | decide | omega) (by first | decide | omega) ?_
  refine x_iload (np := 49) (x := 3) (by decide +kernel) rfl la3 ?_
  refine x_ast (np := 50) (x := 0) (kd := 1) (n := 140) (i := (6 + 7 * u20)) (by decide +kernel) (Or.inl rfl) (ta_2_140 ta0) (by first | decide | omega) (by first | decide | omega) (by decide) la3 (fun z => absurd z (by decide)) ?_
  have j24 := jU (e := (6 + 7 * u20)) (v := a3) u20 hJ (rg_T2_6_7_20 ta0) (by first | decide | omega) (by first | decide | omega) (by first | decide | omega)
  have f26 := jF (e := (6 + 7 * u20)) (v := a3) u20 hF (rg_T2_6_7_20 ta0) (by first | decide | omega) (by first | decide | omega) (by decide)
  generalize e25 : x_up h (ra0 + 2) (6 + 7 * u20) a3 = h23 at j24 f26 ⊢
  refine x_retV (np := 51) (x := 0) (by decide +kernel) (by decide +kernel) ⟨rfl, ?_⟩
  exact ⟨j24, f26⟩
set_option maxHeartbeats 0 in
/-- LentNames$TownReader.readLate()Z -/
theorem c95_61 {sc : Nat × Nat} {d  : Nat} {h : xh} {tB : Nat → Nat} {tN : Nat} (hJ : J h) (hT : Tp tB tN h) : X sc 95 (d + 6) (xI fun r h' => J h' ∧ Fr 161 h h' ∧ (2147483648 ≤ r ∧ r ≤ 2147483649) ∧ late9 tB tN (rv h 2) (h 1 2) (rs r (h' 1 2)) ∧ (r = 2147483648 → lateF tB tN (rv h 2) (h 1 2) (h' 1 2))) 0 0 0 [x_r 61, 147573952589676412928] [] h := by
  have hF := Fr.refl 161 h
  refine x_aload (np := 1) (x := 0) (by decide +kernel) rfl (x_nc_le (by decide)) ?_
  have q1 : h 61 0 = 1 := by have z := jB (e := 0) 0 hJ rg_61_0_0_1 (by decide) (by decide); omega
  refine x_getR (np := 4) (x := 576) (f := 0) (q := 1) (by decide +kernel) (by decide) (by decide +kernel) q1 ?_
  refine x_const (np := 5) (x := 9223372039002259456) (a := 2147483648) (by decide +kernel) (by decide) (by decide) ?_
  refine x_aload (np := 6) (x := 0) (by decide +kernel) rfl (x_nc_le (by decide)) ?_
  have t2 : tw (h 61 1) := hJ.2.2.2.2.1
  refine x_getR (np := 9) (x := 577) (f := 1) (q := (h 61 1)) (by decide +kernel) (by decide) (by decide +kernel) rfl ?_
  have q3 : h (h 61 1) 0 = ((h 61 1) + 1) := tf_0_0 hJ t2
  refine x_getR (np := 12) (x := 512) (f := 0) (q := ((h 61 1) + 1)) (by decide +kernel) (by decide) (tg_0_512_0_1 t2) q3 ?_
  have b4 := jB (e := 2) 0 hJ (rg_T1_2_0_1 t2) (by first | decide | omega) (by first | decide | omega)
  refine x_getC (np := 15) (x := 386) (f := 2) (q := (h ((h 61 1) + 1) 2)) (by decide +kernel) (by decide) (tg_1_386_2_0 t2) rfl (fun l5 => ?_)
  refine x_const (np := 16) (x := 9223372043297226753) (a := 2147483649) (by decide +kernel) (by decide) (by decide) ?_
  obtain ⟨v6, q7⟩ : ∃ z, z + 2147483649 = (h ((h 61 1) + 1) 2) + 2147483648 := ⟨(h ((h 61 1) + 1) 2) + 2147483648 - 2147483649, by first | decide | omega⟩
  refine x_isub (np := 17) (x := 0) (v := v6) (by decide +kernel) l5 (by decide) (by first | decide | omega) (by first | decide | omega) ?_
  refine x_cI (t := 6) (mj := 79) (n := 3) (rc := 8) (ml := 5) (nr := 0) (np := 20) (as := [x_r 1, iv_c 2147483648, iv_c v6]) (rest := []) (lo1 := [x_r 1, iv_c 2147483648, iv_c v6, 147573952589676412928, 147573952589676412928]) (by decide +kernel) (by decide) (by decide +kernel) (x_rb_of (by decide +kernel)) rfl rfl (x_wr (by decide) (x_wi (by decide) (x_wi (by first | decide | omega) x_wn))) x_wn (by decide) rfl (c79_1_c0 hJ   (by first | decide | omega) hT) (fun v8 h11 l9 q10 => ?_)
  obtain ⟨j12, f13, b14, c15, c16, c17, c18⟩ := q10
  have f19 := Fr.trans hF f13 (by decide)
  have b20 := jB (e := 2) 0 hJ rg_1_2_0_1 (by first | decide | omega) (by first | decide | omega)
  have b21 := jB (e := 2) 0 j12 rg_1_2_0_1 (by first | decide | omega) (by first | decide | omega)
  refine x_istore (np := 21) (x := 1) (lo' := [x_r 61, iv_c v8]) (by decide +kernel) l9 (Nat.le_of_ble_eq_true rfl) rfl ?_
  refine x_iload (np := 22) (x := 1) (by decide +kernel) rfl l9 ?_
  refine x_const (np := 23) (x := 9223372034707292159) (a := 2147483647) (by decide +kernel) (by decide) (by decide) ?_
  refine x_icmp (k := 0) (tg := 62) (np := 26) (by decide +kernel) (by decide) l9 (by decide) (fun q22 => ?_) (fun q23 => ?_)
  · have q22 : v8 = 2147483647 := q22
    have b24 := c17 (by first | decide | omega)
    refine x_const (np := 63) (x := 9223372039002259456) (a := 2147483648) (by decide +kernel) (by decide) (by decide) ?_
    have e25 : rv h 2 = (h ((h 61 1) + 1) 2) := (congrArg (fun z => svq h z 2) rfl).trans rfl
    refine x_retI (np := 64) (x := 0) (by decide +kernel) (by decide) (Or.inr ⟨by decide +kernel, by first | decide | omega, by first | decide | omega⟩) ⟨_, rfl, (by decide), ?_⟩
    exact ⟨j12, f19, (by first | decide | omega), (nm9.f c18 (by first | decide | omega) (by first | decide | omega) rfl (by first | decide | omega) (by first | decide | omega)), (fun _ => (mF.no c18 (by first | decide | omega) (by first | decide | omega) rfl (by first | decide | omega) (show h11 1 2 = h 1 2 by first | decide | omega)))⟩
  have q23 : ¬ (v8 = 2147483647) := q23
  have b26 := c16 (by first | decide | omega)
  refine x_aload (np := 27) (x := 0) (by decide +kernel) rfl (x_nc_le (by decide)) ?_
  have q27 : h11 61 0 = 1 := by have z := jB (e := 0) 0 j12 rg_61_0_0_1 (by decide) (by decide); omega
  refine x_getR (np := 30) (x := 576) (f := 0) (q := 1) (by decide +kernel) (by decide) (by decide +kernel) q27 ?_
  refine x_ldcB (i := 18) (idx := 130) (tx := "by") (by rw [tb_y95]; exact List.mem_of_getElem? (i := 18) rfl) (by decide) (by rw [tb_b95]; decide +kernel) ?_
  have m31 := Tp.fr hT f13 (by decide) (by decide)
  refine x_cI (t := 6) (mj := 78) (n := 2) (rc := 8) (ml := 2) (nr := 0) (np := 35) (as := [x_r 1, x_b (18 + 1)]) (rest := []) (lo1 := [x_r 1, x_b (18 + 1)]) (by decide +kernel) (by decide) (by decide +kernel) (x_rb_of (by decide +kernel)) rfl rfl (x_wr (by decide) (x_wB (by decide) x_wn)) x_wn (by decide) rfl (c78_1_S0 j12  (by decide) m31) (fun v28 h32 l29 q30 => ?_)
  obtain ⟨j33, f34, b35, c36, c37, c38⟩ := q30
  have f39 := Fr.trans f19 f34 (by decide)
  have b40 := jB (e := 2) 0 j33 rg_1_2_0_1 (by first | decide | omega) (by first | decide | omega)
  have b41 : iv_tl 18 = 2 := by decide
  refine x_ifz (k := 0) (tg := 62) (np := 38) (by decide +kernel) (by decide) l29 (fun q42 => ?_) (fun q43 => ?_)
  · have q42 : v28 = 2147483648 := q42
    have b44 := c37 (by first | decide | omega)
    refine x_const (np := 63) (x := 9223372039002259456) (a := 2147483648) (by decide +kernel) (by decide) (by decide) ?_
    have e45 : rv h 2 = (h ((h 61 1) + 1) 2) := (congrArg (fun z => svq h z 2) rfl).trans rfl
    obtain ⟨w46, e47⟩ := Tk.no c38 (by first | decide | omega)
    obtain ⟨w48, e49⟩ := Tk.no c38 (by first | decide | omega)
    refine x_retI (np := 64) (x := 0) (by decide +kernel) (by decide) (Or.inr ⟨by decide +kernel, by first | decide | omega, by first | decide | omega⟩) ⟨_, rfl, (by decide), ?_⟩
    exact ⟨j33, f39, (by first | decide | omega), (nm9.y c18 (by first | decide | omega) (by first | decide | omega) rfl (by first | decide | omega) rfl (wd9.f w46 rfl (by first | decide | omega))), (fun _ => (mF.y c18 (by first | decide | omega) (by first | decide | omega) rfl (by first | decide | omega) rfl (wF.no w48 rfl (show h32 1 2 = h11 1 2 by first | decide | omega))))⟩
  have q43 : ¬ (v28 = 2147483648) := q43
  have b50 := c36 (by first | decide | omega)
  refine x_aload (np := 39) (x := 0) (by decide +kernel) rfl (x_nc_le (by decide)) ?_
  refine x_aload (np := 40) (x := 0) (by decide +kernel) rfl (x_nc_le (by decide)) ?_
  have q51 : h32 61 1 = h11 61 1 := f34 61 1 (by decide +kernel)
  have q52 : h11 61 1 = h 61 1 := f13 61 1 (by decide +kernel)
  refine x_getR (np := 43) (x := 577) (f := 1) (q := (h 61 1)) (by decide +kernel) (by decide) (by decide +kernel) (q51.trans q52) ?_
  have q53 : h32 (h 61 1) 0 = ((h 61 1) + 1) := tf_0_0 j33 t2
  refine x_getR (np := 46) (x := 512) (f := 0) (q := ((h 61 1) + 1)) (by decide +kernel) (by decide) (tg_0_512_0_1 t2) q53 ?_
  refine x_iload (np := 47) (x := 1) (by decide +kernel) rfl l9 ?_
  refine x_const (np := 49) (x := 9223372064772063238) (a := 2147483654) (by decide +kernel) (by decide) (by decide) ?_
  refine x_const (np := 50) (x := 9223372043297226753) (a := 2147483649) (by decide +kernel) (by decide) (by decide) ?_
  refine x_const (np := 52) (x := 9223372090541867020) (a := 2147483660) (by decide +kernel) (by decide) (by decide) ?_
  refine x_nI (t := 6) (mj := 102) (n := 6) (rc := 10) (ml := 7) (nr := 0) (np := 55) (as := [x_r 61, x_r ((h 61 1) + 1), iv_c v8, iv_c 2147483654, iv_c 2147483649, iv_c 2147483660]) (rest := []) (lo1 := [x_r 61, x_r ((h 61 1) + 1), iv_c v8, iv_c 2147483654, iv_c 2147483649, iv_c 2147483660, 147573952589676412928]) (by decide +kernel) (by decide) (by decide +kernel) (x_rb_of (by decide +kernel)) rfl rfl (x_wr (by decide) (x_wr (tn_1 t2) (x_wi l9 (x_wi (by decide) (x_wi (by decide) (x_wi (by decide) x_wn)))))) x_wn (by decide) rfl ?_
  refine x_aload (np := 1) (x := 0) (by decide +kernel) rfl (x_nc_le (by decide)) ?_
  have q54 : h32 61 0 = 1 := by have z := jB (e := 0) 0 j33 rg_61_0_0_1 (by decide) (by decide); omega
  refine x_getR (np := 4) (x := 576) (f := 0) (q := 1) (by decide +kernel) (by decide) (by decide +kernel) q54 ?_
  refine x_iload (np := 6) (x := 4) (by decide +kernel) rfl (by decide) ?_
  refine x_iload (np := 8) (x := 5) (by decide +kernel) rfl (by decide) ?_
  have m58 := Tp.fr m31 f34 (by decide) (by decide)
  refine x_cI (t := 6) (mj := 79) (n := 3) (rc := 8) (ml := 5) (nr := 0) (np := 11) (as := [x_r 1, iv_c 2147483649, iv_c 2147483660]) (rest := []) (lo1 := [x_r 1, iv_c 2147483649, iv_c 2147483660, 147573952589676412928, 147573952589676412928]) (by decide +kernel) (by decide) (by decide +kernel) (x_rb_of (by decide +kernel)) rfl rfl (x_wr (by decide) (x_wi (by decide) (x_wi (by decide) x_wn))) x_wn (by decide) rfl (c79_1_c1 j33   (by first | decide | omega) m58) (fun v55 h59 l56 q57 => ?_)
  obtain ⟨j60, f61, b62, c63, c64, c65, c66⟩ := q57
  have f67 := Fr.trans f39 f61 (by decide)
  have b68 := jB (e := 2) 0 j60 rg_1_2_0_1 (by first | decide | omega) (by first | decide | omega)
  refine x_istore (np := 13) (x := 6) (lo' := [x_r 61, x_r ((h 61 1) + 1), iv_c v8, iv_c 2147483654, iv_c 2147483649, iv_c 2147483660, iv_c v55]) (by decide +kernel) l56 (Nat.le_of_ble_eq_true rfl) rfl ?_
  refine x_iload (np := 15) (x := 6) (by decide +kernel) rfl l56 ?_
  refine x_const (np := 16) (x := 9223372034707292159) (a := 2147483647) (by decide +kernel) (by decide) (by decide) ?_
  refine x_icmp (k := 1) (tg := 21) (np := 19) (by decide +kernel) (by decide) l56 (by decide) (fun q69 => ?_) (fun q70 => ?_)
  · have q69 : v55 ≠ 2147483647 := q69
    have b71 := c64 (by first | decide | omega)
    refine x_aload (np := 22) (x := 1) (by decide +kernel) rfl (x_nc_le (tn_1 t2)) ?_
    refine x_iload (np := 23) (x := 2) (by decide +kernel) rfl l9 ?_
    refine x_iload (np := 24) (x := 3) (by decide +kernel) rfl (by decide) ?_
    refine x_iload (np := 26) (x := 6) (by decide +kernel) rfl l56 ?_
    refine x_cV (t := 6) (mj := 69) (n := 4) (rc := 7) (ml := 5) (nr := 0) (np := 29) (as := [x_r ((h 61 1) + 1), iv_c v8, iv_c 2147483654, iv_c v55]) (rest := []) (lo1 := [x_r ((h 61 1) + 1), iv_c v8, iv_c 2147483654, iv_c v55, 147573952589676412928]) (by decide +kernel) (by decide) (by decide +kernel) (x_rb_of (tr_1_7 t2)) rfl rfl (x_wr (tn_1 t2) (x_wi l9 (x_wi (by decide) (x_wi l56 x_wn)))) x_wn (by decide) rfl (c69_T1_c6 j60 t2 (by first | decide | omega)  (by first | decide | omega)) (fun h75 q74 => ?_)
    obtain ⟨j76, f77⟩ := q74
    have f80 := Fr.trans f67 f77 (by decide)
    refine x_const (np := 30) (x := 9223372043297226753) (a := 2147483649) (by decide +kernel) (by decide) (by decide) ?_
    refine x_retI (np := 31) (x := 0) (by decide +kernel) (by decide) (Or.inr ⟨by decide +kernel, by first | decide | omega, by first | decide | omega⟩) ⟨_, rfl, (by decide), ?_⟩
    refine x_ifz (k := 0) (tg := 62) (np := 58) (by decide +kernel) (by decide) (by decide) (fun q81 => ?_) (fun q82 => ?_)
    · have q81 : 2147483649 = 2147483648 := q81
      exfalso; omega
    have q82 : ¬ (2147483649 = 2147483648) := q82
    refine x_const (np := 59) (x := 9223372043297226753) (a := 2147483649) (by decide +kernel) (by decide) (by decide) ?_
    refine x_goto (np := 62) (x := 63) (by decide +kernel) ?_
    have e83 : rv h 2 = (h ((h 61 1) + 1) 2) := (congrArg (fun z => svq h z 2) rfl).trans rfl
    obtain ⟨w84, e85⟩ := Tk.yes c38 (by first | decide | omega)
    have q86 : h75 1 2 = h59 1 2 := jK 0 f77 rg_1_2_0_1 (by first | decide | omega) (by first | decide | omega) (by decide)
    refine x_retI (np := 64) (x := 0) (by decide +kernel) (by decide) (Or.inr ⟨by decide +kernel, by first | decide | omega, by first | decide | omega⟩) ⟨_, rfl, (by decide), ?_⟩
    exact ⟨j76, f80, (by first | decide | omega), (nm9.y c18 (by first | decide | omega) (by first | decide | omega) rfl (by first | decide | omega) rfl (wd9.y w84 rfl e85 rfl (nm9.y c66 (by first | decide | omega) (by first | decide | omega) rfl (by first | decide | omega) rfl (fin9.mk (by first | decide | omega) (show h59 1 2 = h75 1 2 by first | decide | omega))))), (fun z => absurd z (by first | decide | omega))⟩
  have q70 : ¬ (v55 ≠ 2147483647) := q70
  have b87 := c65 (by first | decide | omega)
  refine x_const (np := 20) (x := 9223372039002259456) (a := 2147483648) (by decide +kernel) (by decide) (by decide) ?_
  refine x_retI (np := 21) (x := 0) (by decide +kernel) (by decide) (Or.inr ⟨by decide +kernel, by first | decide | omega, by first | decide | omega⟩) ⟨_, rfl, (by decide), ?_⟩
  refine x_ifz (k := 0) (tg := 62) (np := 58) (by decide +kernel) (by decide) (by decide) (fun q88 => ?_) (fun q89 => ?_)
  · have q88 : 2147483648 = 2147483648 := q88
    refine x_const (np := 63) (x := 9223372039002259456) (a := 2147483648) (by decide +kernel) (by decide) (by decide) ?_
    have e90 : rv h 2 = (h ((h 61 1) + 1) 2) := (congrArg (fun z => svq h z 2) rfl).trans rfl
    obtain ⟨w91, e92⟩ := Tk.yes c38 (by first | decide | omega)
    obtain ⟨w93, e94⟩ := Tk.yes c38 (by first | decide | omega)
    refine x_retI (np := 64) (x := 0) (by decide +kernel) (by decide) (Or.inr ⟨by decide +kernel, by first | decide | omega, by first | decide | omega⟩) ⟨_, rfl, (by decide), ?_⟩
    exact ⟨j60, f67, (by first | decide | omega), (nm9.y c18 (by first | decide | omega) (by first | decide | omega) rfl (by first | decide | omega) rfl (wd9.y w91 rfl e92 rfl (nm9.f c66 (by first | decide | omega) (by first | decide | omega) rfl (by first | decide | omega) (by first | decide | omega)))), (fun _ => (mF.y c18 (by first | decide | omega) (by first | decide | omega) rfl (by first | decide | omega) rfl (wF.y w93 rfl e94 rfl (mF.no c66 (by first | decide | omega) (by first | decide | omega) rfl (by first | decide | omega) (show h59 1 2 = h32 1 2 by first | decide | omega)))))⟩
  have q89 : ¬ (2147483648 = 2147483648) := q89
  exfalso; omega
set_option maxHeartbeats 0 in
/-- LentNames$Table.put(III)V -/
theorem c69_T7 {sc : Nat × Nat} {d ra0 a1 a2 a3 : Nat} {h : xh} (hJ : J h) (ta0 : tw ra0) (ba1 : 2147483648 ≤ a1 ∧ a1 ≤ 2147483657) (ba2 : 2147483648 ≤ a2 ∧ a2 ≤ 2147483652) (ba3 : 2147483648 ≤ a3 ∧ a3 ≤ 2147483648) : X sc 69 d (xV fun h' => J h' ∧ Fr 129 h h') 0 0 0 [x_r (ra0 + 7), iv_c a1, iv_c a2, iv_c a3, 147573952589676412928] [] h := by
  have la1 : a1 < 4294967296 := by first | decide | omega
  have la2 : a2 < 4294967296 := by first | decide | omega
  have la3 : a3 < 4294967296 := by first | decide | omega
  have hF := Fr.refl 129 h
  refine x_iload (np := 1) (x := 1) (by decide +kernel) rfl la1 ?_
  refine x_ifz (k := 2) (tg := 28) (np := 4) (by decide +kernel) (by decide) la1 (fun q1 => ?_) (fun q2 => ?_)
  · have q1 : a1 < 2147483648 := q1
    exfalso; omega
  have q2 : ¬ (a1 < 2147483648) := q2
  refine x_iload (np := 5) (x := 1) (by decide +kernel) rfl la1 ?_
  refine x_aload (np := 6) (x := 0) (by decide +kernel) rfl (x_nc_le (tn_7 ta0)) ?_
  have b3 := jB (e := 2) 0 hJ (rg_T7_2_0_1 ta0) (by first | decide | omega) (by first | decide | omega)
  refine x_getC (np := 9) (x := 386) (f := 2) (q := (h (ra0 + 7) 2)) (by decide +kernel) (by decide) (tg_7_386_2_0 ta0) rfl (fun l4 => ?_)
  refine x_icmp (k := 3) (tg := 28) (np := 12) (by decide +kernel) (by decide) la1 l4 (fun q5 => ?_) (fun q6 => ?_)
  · have q5 : (h (ra0 + 7) 2) ≤ a1 := q5
    refine x_const (np := 29) (x := 9223372039002259456) (a := 2147483648) (by decide +kernel) (by decide) (by decide) ?_
    refine x_istore (np := 31) (x := 4) (lo' := [x_r (ra0 + 7), iv_c a1, iv_c a2, iv_c a3, iv_c 2147483648]) (by decide +kernel) (by decide) (Nat.le_of_ble_eq_true rfl) rfl ?_
    refine x_iload (np := 33) (x := 4) (by decide +kernel) rfl (by decide) ?_
    refine x_ifz (k := 0) (tg := 50) (np := 36) (by decide +kernel) (by decide) (by decide) (fun q7 => ?_) (fun q8 => ?_)
    · have q7 : 2147483648 = 2147483648 := q7
      refine x_retV (np := 51) (x := 0) (by decide +kernel) (by decide +kernel) ⟨rfl, ?_⟩
      exact ⟨hJ, hF⟩
    have q8 : ¬ (2147483648 = 2147483648) := q8
    exfalso; omega
  have q6 : ¬ ((h (ra0 + 7) 2) ≤ a1) := q6
  refine x_iload (np := 13) (x := 2) (by decide +kernel) rfl la2 ?_
  refine x_ifz (k := 2) (tg := 28) (np := 16) (by decide +kernel) (by decide) la2 (fun q9 => ?_) (fun q10 => ?_)
  · have q9 : a2 < 2147483648 := q9
    exfalso; omega
  have q10 : ¬ (a2 < 2147483648) := q10
  refine x_iload (np := 17) (x := 2) (by decide +kernel) rfl la2 ?_
  refine x_aload (np := 18) (x := 0) (by decide +kernel) rfl (x_nc_le (tn_7 ta0)) ?_
  have b11 := jB (e := 0) 0 hJ (rg_T7_0_0_1 ta0) (by first | decide | omega) (by first | decide | omega)
  have q12 : (h (ra0 + 7) 0) = 2147483652 := by first | decide | omega
  refine x_getC (np := 21) (x := 384) (f := 0) (q := 2147483652) (by decide +kernel) (by decide) (tg_7_384_0_0 ta0) q12 (fun l13 => ?_)
  refine x_icmp (k := 3) (tg := 28) (np := 24) (by decide +kernel) (by decide) la2 (by decide) (fun q14 => ?_) (fun q15 => ?_)
  · have q14 : 2147483652 ≤ a2 := q14
    refine x_const (np := 29) (x := 9223372039002259456) (a := 2147483648) (by decide +kernel) (by decide) (by decide) ?_
    refine x_istore (np := 31) (x := 4) (lo' := [x_r (ra0 + 7), iv_c a1, iv_c a2, iv_c a3, iv_c 2147483648]) (by decide +kernel) (by decide) (Nat.le_of_ble_eq_true rfl) rfl ?_
    refine x_iload (np := 33) (x := 4) (by decide +kernel) rfl (by decide) ?_
    refine x_ifz (k := 0) (tg := 50) (np := 36) (by decide +kernel) (by decide) (by decide) (fun q16 => ?_) (fun q17 => ?_)
    · have q16 : 2147483648 = 2147483648 := q16
      refine x_retV (np := 51) (x := 0) (by decide +kernel) (by decide +kernel) ⟨rfl, ?_⟩
      exact ⟨hJ, hF⟩
    have q17 : ¬ (2147483648 = 2147483648) := q17
    exfalso; omega
  have q15 : ¬ (2147483652 ≤ a2) := q15
  refine x_const (np := 25) (x := 9223372043297226753) (a := 2147483649) (by decide +kernel) (by decide) (by decide) ?_
  refine x_goto (np := 28) (x := 29) (by decide +kernel) ?_
  refine x_istore (np := 31) (x := 4) (lo' := [x_r (ra0 + 7), iv_c a1, iv_c a2, iv_c a3, iv_c 2147483649]) (by decide +kernel) (by decide) (Nat.le_of_ble_eq_true rfl) rfl ?_
  refine x_iload (np := 33) (x := 4) (by decide +kernel) rfl (by decide) ?_
  refine x_ifz (k := 0) (tg := 50) (np := 36) (by decide +kernel) (by decide) (by decide) (fun q18 => ?_) (fun q19 => ?_)
  · have q18 : 2147483649 = 2147483648 := q18
    exfalso; omega
  have q19 : ¬ (2147483649 = 2147483648) := q19
  refine x_aload (np := 37) (x := 0) (by decide +kernel) rfl (x_nc_le (tn_7 ta0)) ?_
  have q20 : h (ra0 + 7) 1 = (ra0 + 8) := tf_7_1 hJ ta0
  refine x_getR (np := 40) (x := 385) (f := 1) (q := (ra0 + 8)) (by decide +kernel) (by decide) (tg_7_385_1_1 ta0) q20 ?_
  refine x_iload (np := 41) (x := 1) (by decide +kernel) rfl la1 ?_
  refine x_aload (np := 42) (x := 0) (by decide +kernel) rfl (x_nc_le (tn_7 ta0)) ?_
  refine x_getC (np := 45) (x := 384) (f := 0) (q := 2147483652) (by decide +kernel) (by decide) (tg_7_384_0_0 ta0) q12 (fun l21 => ?_)
  obtain ⟨u22, q23⟩ : ∃ z, a1 = 2147483648 + z := ⟨a1 - 2147483648, by first | decide | omega⟩
  refine x_imul (np := 46) (x := 0) (i := u22) (j := 4) (v := (2147483648 + 4 * u22)) (by decide +kernel) (by first | decide | omega) (by first | decide | omega) (by first | decide | omega) (by first | decide | omega) la1 (by decide) ?_
  refine x_iload (np := 47) (x := 2) (by decide +kernel) rfl la2 ?_
  refine x_iadd (np := 48) (x := 0) (v := (4 * u22 + a2)) (by decide +kernel) (by first | decide | omega) la2 (by first | decide | omega) (by first | decide | omega) ?_
  refine x_iload (np := 49) (x := 3) (by decide +kernel) rfl la3 ?_
  obtain ⟨u25, q26⟩ : ∃ z, a2 = 2147483648 + z := ⟨a2 - 2147483648, by first | decide | omega⟩
  refine x_ast (np := 50) (x := 0) (kd := 1) (n := 40) (i := (4 * u22 + u25)) (by decide +kernel) (Or.inl rfl) (ta_8_40 ta0) (by first | decide | omega) (by first | decide | omega) (by decide) la3 (fun z => absurd z (by decide)) ?_
  have j28 := jUw (e := (4 * u22 + u25)) (v := a3) hJ (rw_T8 ta0) (by first | decide | omega) (by first | decide | omega)
  have f30 := jFw (e := (4 * u22 + u25)) (v := a3) hF (rw_T8 ta0) (by first | decide | omega) (by decide)
  generalize e29 : x_up h (ra0 + 8) (4 * u22 + u25) a3 = h27 at j28 f30 ⊢
  refine x_retV (np := 51) (x := 0) (by decide +kernel) (by decide +kernel) ⟨rfl, ?_⟩
  exact ⟨j28, f30⟩
set_option maxHeartbeats 0 in
/-- LentNames$Table.addRow()I -/
theorem c67_T7 {sc : Nat × Nat} {d ra0 : Nat} {h : xh} (hJ : J h) (ta0 : tw ra0) (hr0 : (h (ra0 + 7) 2) + 1 ≤ 2147483658) : X sc 67 (d + 1) (xI fun r h' => J h' ∧ Fr 281474976710785 h h' ∧ (2147483648 ≤ r ∧ r ≤ 2147483657) ∧ (h' ra0 7 = h ra0 7) ∧ (h' ra0 8 = h ra0 8) ∧ (h' (ra0 + 1) 2 = h (ra0 + 1) 2) ∧ (h' (ra0 + 3) 2 = h (ra0 + 3) 2) ∧ (h' (ra0 + 5) 2 = h (ra0 + 5) 2) ∧ (h' (ra0 + 7) 2 = h (ra0 + 7) 2 + 1) ∧ (r + 1 = h' (ra0 + 7) 2) ∧ Ot ra0 h h') 0 0 0 [x_r (ra0 + 7), 147573952589676412928] [] h := by
  have hF := Fr.refl 281474976710785 h
  have b1 := jB (e := 2) 0 hJ (rg_T7_2_0_1 ta0) (by first | decide | omega) (by first | decide | omega)
  refine x_aload (np := 1) (x := 0) (by decide +kernel) rfl (x_nc_le (tn_7 ta0)) ?_
  refine x_nI (t := 6) (mj := 66) (n := 1) (rc := 7) (ml := 1) (nr := 0) (np := 4) (as := [x_r (ra0 + 7)]) (rest := []) (lo1 := [x_r (ra0 + 7)]) (by decide +kernel) (by decide) (by decide +kernel) (x_rb_of (tr_7_7 ta0)) rfl rfl (x_wr (tn_7 ta0) x_wn) x_wn (by decide) rfl ?_
  refine x_aload (np := 1) (x := 0) (by decide +kernel) rfl (x_nc_le (tn_7 ta0)) ?_
  refine x_getC (np := 4) (x := 386) (f := 2) (q := (h (ra0 + 7) 2)) (by decide +kernel) (by decide) (tg_7_386_2_0 ta0) rfl (fun l2 => ?_)
  refine x_const (np := 5) (x := 9223372043297226753) (a := 2147483649) (by decide +kernel) (by decide) (by decide) ?_
  refine x_iadd (np := 6) (x := 0) (v := (1 + (h (ra0 + 7) 2))) (by decide +kernel) l2 (by decide) (by first | decide | omega) (by first | decide | omega) ?_
  refine x_aload (np := 7) (x := 0) (by decide +kernel) rfl (x_nc_le (tn_7 ta0)) ?_
  have b3 := jB (e := 0) 0 hJ (rg_T7_0_0_1 ta0) (by first | decide | omega) (by first | decide | omega)
  have q4 : (h (ra0 + 7) 0) = 2147483652 := by first | decide | omega
  refine x_getC (np := 10) (x := 384) (f := 0) (q := 2147483652) (by decide +kernel) (by decide) (tg_7_384_0_0 ta0) q4 (fun l5 => ?_)
  obtain ⟨u6, q7⟩ : ∃ z, (h (ra0 + 7) 2) = 2147483648 + z := ⟨(h (ra0 + 7) 2) - 2147483648, by first | decide | omega⟩
  refine x_imul (np := 11) (x := 0) (i := (1 + u6)) (j := 4) (v := (2147483652 + 4 * u6)) (by decide +kernel) (by first | decide | omega) (by first | decide | omega) (by first | decide | omega) (by first | decide | omega) (by first | decide | omega) (by decide) ?_
  refine x_aload (np := 12) (x := 0) (by decide +kernel) rfl (x_nc_le (tn_7 ta0)) ?_
  have q9 : h (ra0 + 7) 1 = (ra0 + 8) := tf_7_1 hJ ta0
  refine x_getR (np := 15) (x := 385) (f := 1) (q := (ra0 + 8)) (by decide +kernel) (by decide) (tg_7_385_1_1 ta0) q9 ?_
  refine x_alen (np := 16) (x := 0) (n := 40) (by decide +kernel) (tn_8 ta0) (tl_8 ta0).1 (tl_8 ta0).2 (by decide) ?_
  show X _ _ _ _ _ _ _ _ [iv_c 2147483688, iv_c (2147483652 + 4 * u6)] _
  refine x_icmp (k := 5) (tg := 23) (np := 19) (by decide +kernel) (by decide) (by first | decide | omega) (by decide) (fun q10 => ?_) (fun q11 => ?_)
  · have q10 : (2147483652 + 4 * u6) ≤ 2147483688 := q10
    refine x_const (np := 24) (x := 9223372039002259456) (a := 2147483648) (by decide +kernel) (by decide) (by decide) ?_
    refine x_retI (np := 25) (x := 0) (by decide +kernel) (by decide) (Or.inr ⟨by decide +kernel, by first | decide | omega, by first | decide | omega⟩) ⟨_, rfl, (by decide), ?_⟩
    refine x_ifz (k := 0) (tg := 9) (np := 7) (by decide +kernel) (by decide) (by decide) (fun q12 => ?_) (fun q13 => ?_)
    · have q12 : 2147483648 = 2147483648 := q12
      refine x_aload (np := 10) (x := 0) (by decide +kernel) rfl (x_nc_le (tn_7 ta0)) ?_
      refine x_dup (np := 11) (x := 0) (by decide +kernel) (by have z := x_nc_le (k := (ra0 + 7)) (tn_7 ta0); unfold x_r; omega) ?_
      refine x_getC (np := 14) (x := 386) (f := 2) (q := (h (ra0 + 7) 2)) (by decide +kernel) (by decide) (tg_7_386_2_0 ta0) rfl (fun l14 => ?_)
      refine x_const (np := 15) (x := 9223372043297226753) (a := 2147483649) (by decide +kernel) (by decide) (by decide) ?_
      refine x_iadd (np := 16) (x := 0) (v := (1 + (h (ra0 + 7) 2))) (by decide +kernel) l2 (by decide) (by first | decide | omega) (by first | decide | omega) ?_
      refine x_putI (np := 19) (x := 386) (f := 2) (by decide +kernel) (tg_7_386_2_0 ta0) (by first | decide | omega) (Or.inl (by decide)) ?_
      have j16 := jU (e := 2) (v := (1 + (h (ra0 + 7) 2))) 0 hJ (rg_T7_2_0_1 ta0) (by first | decide | omega) (by first | decide | omega) (by first | decide | omega)
      have f18 := jF (e := 2) (v := (1 + (h (ra0 + 7) 2))) 0 hF (rg_T7_2_0_1 ta0) (by first | decide | omega) (by first | decide | omega) (by decide)
      generalize e17 : x_up h (ra0 + 7) 2 (1 + (h (ra0 + 7) 2)) = h15 at j16 f18 ⊢
      refine x_const (np := 20) (x := 9223372039002259456) (a := 2147483648) (by decide +kernel) (by decide) (by decide) ?_
      refine x_istore (np := 21) (x := 1) (lo' := [x_r (ra0 + 7), iv_c 2147483648]) (by decide +kernel) (by decide) (Nat.le_of_ble_eq_true rfl) rfl ?_
      have p111 : ∀ (n : Nat) (v106 : Nat) (h108 : xh), 4294967296 - v106 < n → (2147483648 ≤ v106 ∧ v106 ≤ 2147483652) → J h108 → Fr 129 h15 h108 → Ot ra0 h h108 → X sc 67 (d + 1) (xI fun r h' => J h' ∧ Fr 281474976710785 h h' ∧ (2147483648 ≤ r ∧ r ≤ 2147483657) ∧ (h' ra0 7 = h ra0 7) ∧ (h' ra0 8 = h ra0 8) ∧ (h' (ra0 + 1) 2 = h (ra0 + 1) 2) ∧ (h' (ra0 + 3) 2 = h (ra0 + 3) 2) ∧ (h' (ra0 + 5) 2 = h (ra0 + 5) 2) ∧ (h' (ra0 + 7) 2 = h (ra0 + 7) 2 + 1) ∧ (r + 1 = h' (ra0 + 7) 2) ∧ Ot ra0 h h') 0 0 21 [x_r (ra0 + 7), iv_c v106] [] h108 := by
        intro n
        induction n with
        | zero => intro v106 h108 q113; exact absurd q113 (Nat.not_lt_zero _)
        | succ n i114 =>
          intro v106 h108 q113 b107 j110 f109 m112
          have f115 := Fr.trans f18 f109 (by decide)
          refine x_iload (np := 22) (x := 1) (by decide +kernel) rfl (by first | decide | omega) ?_
          refine x_aload (np := 23) (x := 0) (by decide +kernel) rfl (x_nc_le (tn_7 ta0)) ?_
          have b116 := jB (e := 0) 0 j110 (rg_T7_0_0_1 ta0) (by first | decide | omega) (by first | decide | omega)
          have q117 : (h108 (ra0 + 7) 0) = 2147483652 := by first | decide | omega
          refine x_getC (np := 26) (x := 384) (f := 0) (q := 2147483652) (by decide +kernel) (by decide) (tg_7_384_0_0 ta0) q117 (fun l118 => ?_)
          refine x_icmp (k := 3) (tg := 47) (np := 29) (by decide +kernel) (by decide) (by first | decide | omega) (by decide) (fun q119 => ?_) (fun q120 => ?_)
          · have q119 : 2147483652 ≤ v106 := q119
            refine x_aload (np := 48) (x := 0) (by decide +kernel) rfl (x_nc_le (tn_7 ta0)) ?_
            have q121 : h108 (ra0 + 7) 2 = h15 (ra0 + 7) 2 := jK 0 f109 (rg_T7_2_0_1 ta0) (by first | decide | omega) (by first | decide | omega) (by decide)
            have q122 : h15 (ra0 + 7) 2 = (1 + (h (ra0 + 7) 2)) := by rw [← e17]; exact x_up_at
            refine x_getC (np := 51) (x := 386) (f := 2) (q := (1 + (h (ra0 + 7) 2))) (by decide +kernel) (by decide) (tg_7_386_2_0 ta0) (q121.trans q122) (fun l123 => ?_)
            refine x_const (np := 52) (x := 9223372043297226753) (a := 2147483649) (by decide +kernel) (by decide) (by decide) ?_
            refine x_isub (np := 53) (x := 0) (v := (h (ra0 + 7) 2)) (by decide +kernel) (by first | decide | omega) (by decide) (by first | decide | omega) (by first | decide | omega) ?_
            have b124 := jB (e := 7) 0 hJ (rg_T0_7_0_1 ta0) (by first | decide | omega) (by first | decide | omega)
            have q125 : h108 ra0 7 = h15 ra0 7 := jK 0 f109 (rg_T0_7_0_1 ta0) (by first | decide | omega) (by first | decide | omega) (by decide)
            have q126 : h15 ra0 7 = h ra0 7 := by rw [← e17]; exact x_up_k tof_0_7
            have q127 : h108 ra0 8 = h15 ra0 8 := jK 0 f109 (rg_T0_8_0_1 ta0) (by first | decide | omega) (by first | decide | omega) (by decide)
            have q128 : h15 ra0 8 = h ra0 8 := by rw [← e17]; exact x_up_k tof_0_7
            have b129 := jB (e := 2) 0 hJ (rg_T1_2_0_1 ta0) (by first | decide | omega) (by first | decide | omega)
            have q130 : h108 (ra0 + 1) 2 = h15 (ra0 + 1) 2 := jK 0 f109 (rg_T1_2_0_1 ta0) (by first | decide | omega) (by first | decide | omega) (by decide)
            have q131 : h15 (ra0 + 1) 2 = h (ra0 + 1) 2 := by rw [← e17]; exact x_up_k tof_1_7
            have b132 := jB (e := 2) 0 hJ (rg_T3_2_0_1 ta0) (by first | decide | omega) (by first | decide | omega)
            have q133 : h108 (ra0 + 3) 2 = h15 (ra0 + 3) 2 := jK 0 f109 (rg_T3_2_0_1 ta0) (by first | decide | omega) (by first | decide | omega) (by decide)
            have q134 : h15 (ra0 + 3) 2 = h (ra0 + 3) 2 := by rw [← e17]; exact x_up_k tof_3_7
            have b135 := jB (e := 2) 0 hJ (rg_T5_2_0_1 ta0) (by first | decide | omega) (by first | decide | omega)
            have q136 : h108 (ra0 + 5) 2 = h15 (ra0 + 5) 2 := jK 0 f109 (rg_T5_2_0_1 ta0) (by first | decide | omega) (by first | decide | omega) (by decide)
            have q137 : h15 (ra0 + 5) 2 = h (ra0 + 5) 2 := by rw [← e17]; exact x_up_k tof_5_7
            have q138 : h108 (ra0 + 7) 2 = h15 (ra0 + 7) 2 := jK 0 f109 (rg_T7_2_0_1 ta0) (by first | decide | omega) (by first | decide | omega) (by decide)
            have q139 : h15 (ra0 + 7) 2 = (1 + (h (ra0 + 7) 2)) := by rw [← e17]; exact x_up_at
            have q140 : h108 (ra0 + 7) 2 = h15 (ra0 + 7) 2 := jK 0 f109 (rg_T7_2_0_1 ta0) (by first | decide | omega) (by first | decide | omega) (by decide)
            have q141 : h15 (ra0 + 7) 2 = (1 + (h (ra0 + 7) 2)) := by rw [← e17]; exact x_up_at
            refine x_retI (np := 54) (x := 0) (by decide +kernel) l2 (Or.inl (by decide +kernel)) ⟨_, rfl, l2, ?_⟩
            exact ⟨j110, f115, (by first | decide | omega), (by first | decide | omega), (by first | decide | omega), (by first | decide | omega), (by first | decide | omega), (by first | decide | omega), (by first | decide | omega), (by first | decide | omega), m112⟩
          have q120 : ¬ (2147483652 ≤ v106) := q120
          refine x_aload (np := 30) (x := 0) (by decide +kernel) rfl (x_nc_le (tn_7 ta0)) ?_
          refine x_aload (np := 31) (x := 0) (by decide +kernel) rfl (x_nc_le (tn_7 ta0)) ?_
          have q142 : h108 (ra0 + 7) 2 = h15 (ra0 + 7) 2 := jK 0 f109 (rg_T7_2_0_1 ta0) (by first | decide | omega) (by first | decide | omega) (by decide)
          have q143 : h15 (ra0 + 7) 2 = (1 + (h (ra0 + 7) 2)) := by rw [← e17]; exact x_up_at
          refine x_getC (np := 34) (x := 386) (f := 2) (q := (1 + (h (ra0 + 7) 2))) (by decide +kernel) (by decide) (tg_7_386_2_0 ta0) (q142.trans q143) (fun l144 => ?_)
          refine x_const (np := 35) (x := 9223372043297226753) (a := 2147483649) (by decide +kernel) (by decide) (by decide) ?_
          refine x_isub (np := 36) (x := 0) (v := (h (ra0 + 7) 2)) (by decide +kernel) (by first | decide | omega) (by decide) (by first | decide | omega) (by first | decide | omega) ?_
          refine x_iload (np := 37) (x := 1) (by decide +kernel) rfl (by first | decide | omega) ?_
          refine x_const (np := 38) (x := 9223372039002259456) (a := 2147483648) (by decide +kernel) (by decide) (by decide) ?_
          refine x_cV (t := 6) (mj := 69) (n := 4) (rc := 7) (ml := 5) (nr := 0) (np := 41) (as := [x_r (ra0 + 7), iv_c (h (ra0 + 7) 2), iv_c v106, iv_c 2147483648]) (rest := []) (lo1 := [x_r (ra0 + 7), iv_c (h (ra0 + 7) 2), iv_c v106, iv_c 2147483648, 147573952589676412928]) (by decide +kernel) (by decide) (by decide +kernel) (x_rb_of (tr_7_7 ta0)) rfl rfl (x_wr (tn_7 ta0) (x_wi l2 (x_wi (by first | decide | omega) (x_wi (by decide) x_wn)))) x_wn (by decide) rfl (c69_T7 j110 ta0 (by first | decide | omega) (by first | decide | omega) (by first | decide | omega)) (fun h148 q147 => ?_)
          obtain ⟨j149, f150⟩ := q147
          have f153 := Fr.trans f115 f150 (by decide)
          have f154 := Fr.trans f109 f150 (by decide)
          refine x_iinc (np := 44) (i := 1) (j := 2147483649) (v := (1 + v106)) (lo' := [x_r (ra0 + 7), iv_c (1 + v106)]) (by decide +kernel) (by decide) (by decide) rfl (by first | decide | omega) (by first | decide | omega) (by first | decide | omega) rfl ?_
          refine x_goto (np := 47) (x := 21) (by decide +kernel) ?_
          have m155 : Ot ra0 h h148 := Ot.fr m112 f150 (by decide)
          exact i114 (1 + v106) h148 (by first | decide | omega) (by first | decide | omega) j149 f154 m155
      have m156 : Ot ra0 h h15 := by rw [← e17]; exact Ot.up (o := 7) Ot.refl ta0 (by decide) rfl
      exact p111 _ 2147483648 h15 (Nat.lt_succ_self _) (by first | decide | omega) j16 (Fr.refl _ _) m156
    have q13 : ¬ (2147483648 = 2147483648) := q13
    exfalso; omega
  have q11 : ¬ ((2147483652 + 4 * u6) ≤ 2147483688) := q11
  exfalso; omega
set_option maxHeartbeats 0 in
/-- LentNames$TownReader.readBodies(I)Z -/
theorem c101_61 {sc : Nat × Nat} {d a1 : Nat} {h : xh} {tB : Nat → Nat} {tN : Nat} (hJ : J h) (ba1 : 2147483648 ≤ a1 ∧ a1 ≤ 2147483657) (hT : Tp tB tN h) : X sc 101 (d + 6) (xI fun r h' => J h' ∧ Fr 161 h h' ∧ (2147483648 ≤ r ∧ r ≤ 2147483649) ∧ Bl tB tN (rv h 0 - 1) (h 1 2) (rs r (h' 1 2)) ∧ (∀ b u, h 61 1 = b → a1 = 2147483648 + u → h' (b + 8) (1 + 4 * u) = h (b + 8) (1 + 4 * u)) ∧ (r = 2147483648 → BlF tB tN (rv h 0 - 1) (h 1 2) (h' 1 2))) 0 0 0 [x_r 61, iv_c a1, 147573952589676412928, 147573952589676412928, 147573952589676412928] [] h := by
  have la1 : a1 < 4294967296 := by first | decide | omega
  have hF := Fr.refl 161 h
  refine x_const (np := 1) (x := 9223372039002259456) (a := 2147483648) (by decide +kernel) (by decide) (by decide) ?_
  refine x_istore (np := 2) (x := 2) (lo' := [x_r 61, iv_c a1, iv_c 2147483648, 147573952589676412928, 147573952589676412928]) (by decide +kernel) (by decide) (Nat.le_of_ble_eq_true rfl) rfl ?_
  refine x_const (np := 3) (x := 9223372039002259456) (a := 2147483648) (by decide +kernel) (by decide) (by decide) ?_
  refine x_istore (np := 4) (x := 3) (lo' := [x_r 61, iv_c a1, iv_c 2147483648, iv_c 2147483648, 147573952589676412928]) (by decide +kernel) (by decide) (Nat.le_of_ble_eq_true rfl) rfl ?_
  have p1320 : ∀ (n : Nat) (v1312 : Nat) (v1314 : Nat) (w1316 : Nat) (h1317 : xh), 4294967296 - v1314 < n → (0 ≤ v1312 ∧ v1312 ≤ 4294967295) → (2147483648 ≤ v1314 ∧ v1314 ≤ 2147483788) → 3 * v1314 ≤ h1317 1 2 + 4294967296 → J h1317 → Fr 33 h h1317 → Bq tB tN (rv h 0 - 1) (h1317 1 2) (h 1 2) → Bqf tB tN (rv h 0 - 1) (h1317 1 2) (h 1 2) → X sc 101 (d + 6) (xI fun r h' => J h' ∧ Fr 161 h h' ∧ (2147483648 ≤ r ∧ r ≤ 2147483649) ∧ Bl tB tN (rv h 0 - 1) (h 1 2) (rs r (h' 1 2)) ∧ (∀ b u, h 61 1 = b → a1 = 2147483648 + u → h' (b + 8) (1 + 4 * u) = h (b + 8) (1 + 4 * u)) ∧ (r = 2147483648 → BlF tB tN (rv h 0 - 1) (h 1 2) (h' 1 2))) 0 0 4 [x_r 61, iv_c a1, iv_c v1312, iv_c v1314, w1316] [] h1317 := by
    intro n
    induction n with
    | zero => intro v1312 v1314 w1316 h1317 q1324; exact absurd q1324 (Nat.not_lt_zero _)
    | succ n i1325 =>
      intro v1312 v1314 w1316 h1317 q1324 b1313 b1315 b1321 j1319 f1318 m1322 m1323
      have f1326 := Fr.trans hF f1318 (by decide)
      have b1327 := jB (e := 2) 0 j1319 rg_1_2_0_1 (by first | decide | omega) (by first | decide | omega)
      have q1328 : h1317 61 1 = h 61 1 := f1318 61 1 (by decide +kernel)
      have t1329 : tw (h 61 1) := hJ.2.2.2.2.1
      have q1330 : h1317 (h 61 1) 7 = h (h 61 1) 7 := jK 0 f1318 (rg_T0_7_0_1 t1329) (by first | decide | omega) (by first | decide | omega) (by decide)
      have b1331 := jB (e := 7) 0 hJ (rg_T0_7_0_1 t1329) (by first | decide | omega) (by first | decide | omega)
      have e1332 : rv h1317 0 = (h (h 61 1) 7) := (congrArg (fun z => svq h1317 z 0) q1328).trans q1330
      have e1333 : rv h 0 = (h (h 61 1) 7) := (congrArg (fun z => svq h z 0) rfl).trans rfl
      refine x_iload (np := 5) (x := 3) (by decide +kernel) rfl (by first | decide | omega) ?_
      refine x_const (np := 8) (x := 9223373756989178256) (a := 2147484048) (by decide +kernel) (by decide) (by decide) ?_
      refine x_icmp (k := 3) (tg := 66) (np := 11) (by decide +kernel) (by decide) (by first | decide | omega) (by decide) (fun q1334 => ?_) (fun q1335 => ?_)
      · have q1334 : 2147484048 ≤ v1314 := q1334
        exfalso; omega
      have q1335 : ¬ (2147484048 ≤ v1314) := q1335
      refine x_aload (np := 12) (x := 0) (by decide +kernel) rfl (x_nc_le (by decide)) ?_
      have q1336 : h1317 61 0 = 1 := by have z := jB (e := 0) 0 j1319 rg_61_0_0_1 (by decide) (by decide); omega
      refine x_getR (np := 15) (x := 576) (f := 0) (q := 1) (by decide +kernel) (by decide) (by decide +kernel) q1336 ?_
      refine x_const (np := 16) (x := 9223372039002259456) (a := 2147483648) (by decide +kernel) (by decide) (by decide) ?_
      refine x_aload (np := 17) (x := 0) (by decide +kernel) rfl (x_nc_le (by decide)) ?_
      have q1337 : h1317 61 1 = h 61 1 := f1318 61 1 (by decide +kernel)
      refine x_getR (np := 20) (x := 577) (f := 1) (q := (h 61 1)) (by decide +kernel) (by decide) (by decide +kernel) q1337 ?_
      have q1338 : h1317 (h 61 1) 7 = h (h 61 1) 7 := jK 0 f1318 (rg_T0_7_0_1 t1329) (by first | decide | omega) (by first | decide | omega) (by decide)
      refine x_getC (np := 23) (x := 519) (f := 7) (q := (h (h 61 1) 7)) (by decide +kernel) (by decide) (tg_0_519_7_0 t1329) q1338 (fun l1339 => ?_)
      refine x_const (np := 24) (x := 9223372043297226753) (a := 2147483649) (by decide +kernel) (by decide) (by decide) ?_
      obtain ⟨v1340, q1341⟩ : ∃ z, z + 2147483649 = (h (h 61 1) 7) + 2147483648 := ⟨(h (h 61 1) 7) + 2147483648 - 2147483649, by first | decide | omega⟩
      refine x_isub (np := 25) (x := 0) (v := v1340) (by decide +kernel) l1339 (by decide) (by first | decide | omega) (by first | decide | omega) ?_
      have m1345 := Tp.fr hT f1318 (by decide) (by decide)
      refine x_cI (t := 6) (mj := 79) (n := 3) (rc := 8) (ml := 5) (nr := 0) (np := 28) (as := [x_r 1, iv_c 2147483648, iv_c v1340]) (rest := []) (lo1 := [x_r 1, iv_c 2147483648, iv_c v1340, 147573952589676412928, 147573952589676412928]) (by decide +kernel) (by decide) (by decide +kernel) (x_rb_of (by decide +kernel)) rfl rfl (x_wr (by decide) (x_wi (by decide) (x_wi (by first | decide | omega) x_wn))) x_wn (by decide) rfl (c79_1_c0 j1319   (by first | decide | omega) m1345) (fun v1342 h1346 l1343 q1344 => ?_)
      obtain ⟨j1347, f1348, b1349, c1350, c1351, c1352, c1353⟩ := q1344
      have f1354 := Fr.trans f1326 f1348 (by decide)
      have f1355 := Fr.trans f1318 f1348 (by decide)
      have b1356 := jB (e := 2) 0 j1347 rg_1_2_0_1 (by first | decide | omega) (by first | decide | omega)
      refine x_istore (np := 30) (x := 4) (lo' := [x_r 61, iv_c a1, iv_c v1312, iv_c v1314, iv_c v1342]) (by decide +kernel) l1343 (Nat.le_of_ble_eq_true rfl) rfl ?_
      refine x_iload (np := 32) (x := 4) (by decide +kernel) rfl l1343 ?_
      refine x_const (np := 33) (x := 9223372034707292159) (a := 2147483647) (by decide +kernel) (by decide) (by decide) ?_
      refine x_icmp (k := 1) (tg := 38) (np := 36) (by decide +kernel) (by decide) l1343 (by decide) (fun q1357 => ?_) (fun q1358 => ?_)
      · have q1357 : v1342 ≠ 2147483647 := q1357
        have b1359 := c1351 (by first | decide | omega)
        refine x_iload (np := 39) (x := 2) (by decide +kernel) rfl (by first | decide | omega) ?_
        refine x_const (np := 40) (x := 9223372043297226753) (a := 2147483649) (by decide +kernel) (by decide) (by decide) ?_
        refine x_iload (np := 42) (x := 4) (by decide +kernel) rfl l1343 ?_
        refine x_any (np := 43) (k9 := 3) (by decide +kernel) (by decide) (by decide) l1343 (fun v1360 l1361 => ?_)
        refine x_any (np := 44) (k9 := 1) (by decide +kernel) (by decide) (by first | decide | omega) l1361 (fun v1362 l1363 => ?_)
        refine x_istore (np := 45) (x := 2) (lo' := [x_r 61, iv_c a1, iv_c v1362, iv_c v1314, iv_c v1342]) (by decide +kernel) l1363 (Nat.le_of_ble_eq_true rfl) rfl ?_
        refine x_aload (np := 46) (x := 0) (by decide +kernel) rfl (x_nc_le (by decide)) ?_
        have q1364 : h1346 61 0 = 1 := by have z := jB (e := 0) 0 j1347 rg_61_0_0_1 (by decide) (by decide); omega
        refine x_getR (np := 49) (x := 576) (f := 0) (q := 1) (by decide +kernel) (by decide) (by decide +kernel) q1364 ?_
        refine x_ldcB (i := 15) (idx := 165) (tx := "or") (by rw [tb_y101]; exact List.mem_of_getElem? (i := 15) rfl) (by decide) (by rw [tb_b101]; decide +kernel) ?_
        have m1368 := Tp.fr m1345 f1348 (by decide) (by decide)
        refine x_cI (t := 6) (mj := 78) (n := 2) (rc := 8) (ml := 2) (nr := 0) (np := 54) (as := [x_r 1, x_b (15 + 1)]) (rest := []) (lo1 := [x_r 1, x_b (15 + 1)]) (by decide +kernel) (by decide) (by decide +kernel) (x_rb_of (by decide +kernel)) rfl rfl (x_wr (by decide) (x_wB (by decide) x_wn)) x_wn (by decide) rfl (c78_1_S0 j1347  (by decide) m1368) (fun v1365 h1369 l1366 q1367 => ?_)
        obtain ⟨j1370, f1371, b1372, c1373, c1374, c1375⟩ := q1367
        have f1376 := Fr.trans f1354 f1371 (by decide)
        have f1377 := Fr.trans f1355 f1371 (by decide)
        have b1378 := jB (e := 2) 0 j1370 rg_1_2_0_1 (by first | decide | omega) (by first | decide | omega)
        have b1379 : iv_tl 15 = 2 := by decide
        refine x_ifz (k := 1) (tg := 60) (np := 57) (by decide +kernel) (by decide) l1366 (fun q1380 => ?_) (fun q1381 => ?_)
        · have q1380 : v1365 ≠ 2147483648 := q1380
          have b1382 := c1373 (by first | decide | omega)
          refine x_iinc (np := 63) (i := 3) (j := 2147483649) (v := (1 + v1314)) (lo' := [x_r 61, iv_c a1, iv_c v1362, iv_c (1 + v1314), iv_c v1342]) (by decide +kernel) (by decide) (by decide) rfl (by first | decide | omega) (by first | decide | omega) (by first | decide | omega) rfl ?_
          refine x_goto (np := 66) (x := 4) (by decide +kernel) ?_
          obtain ⟨w1383, e1384⟩ := Tk.yes c1375 (by first | decide | omega)
          obtain ⟨w1385, e1386⟩ := Tk.yes c1375 (by first | decide | omega)
          exact i1325 v1362 (1 + v1314) (iv_c v1342) h1369 (by first | decide | omega) (by first | decide | omega) (by first | decide | omega) (by first | decide | omega) j1370 f1377 (Bq.go m1322 c1353 (by first | decide | omega) (by first | decide | omega) rfl (by first | decide | omega) w1383 rfl e1384 rfl) (Bqf.go m1323 c1353 (by first | decide | omega) (by first | decide | omega) rfl (by first | decide | omega) w1385 rfl e1386 rfl)
        have q1381 : ¬ (v1365 ≠ 2147483648) := q1381
        have b1387 := c1374 (by first | decide | omega)
        refine x_goto (np := 60) (x := 66) (by decide +kernel) ?_
        refine x_aload (np := 67) (x := 0) (by decide +kernel) rfl (x_nc_le (by decide)) ?_
        have q1388 : h1369 61 1 = h1346 61 1 := f1371 61 1 (by decide +kernel)
        have q1389 : h1346 61 1 = h1317 61 1 := f1348 61 1 (by decide +kernel)
        have q1390 : h1317 61 1 = h 61 1 := f1318 61 1 (by decide +kernel)
        refine x_getR (np := 70) (x := 577) (f := 1) (q := (h 61 1)) (by decide +kernel) (by decide) (by decide +kernel) ((q1388.trans q1389).trans q1390) ?_
        have q1391 : h1369 (h 61 1) 3 = ((h 61 1) + 7) := tf_0_3 j1370 t1329
        refine x_getR (np := 73) (x := 515) (f := 3) (q := ((h 61 1) + 7)) (by decide +kernel) (by decide) (tg_0_515_3_1 t1329) q1391 ?_
        refine x_iload (np := 74) (x := 1) (by decide +kernel) rfl la1 ?_
        refine x_const (np := 75) (x := 9223372047592194050) (a := 2147483650) (by decide +kernel) (by decide) (by decide) ?_
        refine x_iload (np := 76) (x := 2) (by decide +kernel) rfl l1363 ?_
        refine x_nV (t := 6) (mj := 69) (n := 4) (rc := 7) (ml := 5) (nr := 0) (np := 79) (as := [x_r ((h 61 1) + 7), iv_c a1, iv_c 2147483650, iv_c v1362]) (rest := []) (lo1 := [x_r ((h 61 1) + 7), iv_c a1, iv_c 2147483650, iv_c v1362, 147573952589676412928]) (by decide +kernel) (by decide) (by decide +kernel) (x_rb_of (tr_7_7 t1329)) rfl rfl (x_wr (tn_7 t1329) (x_wi la1 (x_wi (by decide) (x_wi l1363 x_wn)))) x_wn (by decide) rfl ?_
        refine x_iload (np := 1) (x := 1) (by decide +kernel) rfl la1 ?_
        refine x_ifz (k := 2) (tg := 28) (np := 4) (by decide +kernel) (by decide) la1 (fun q1392 => ?_) (fun q1393 => ?_)
        · have q1392 : a1 < 2147483648 := q1392
          exfalso; omega
        have q1393 : ¬ (a1 < 2147483648) := q1393
        refine x_iload (np := 5) (x := 1) (by decide +kernel) rfl la1 ?_
        refine x_aload (np := 6) (x := 0) (by decide +kernel) rfl (x_nc_le (tn_7 t1329)) ?_
        have q1394 : h1369 ((h 61 1) + 7) 2 = h1346 ((h 61 1) + 7) 2 := jK 0 f1371 (rg_T7_2_0_1 t1329) (by first | decide | omega) (by first | decide | omega) (by decide)
        have q1395 : h1346 ((h 61 1) + 7) 2 = h1317 ((h 61 1) + 7) 2 := jK 0 f1348 (rg_T7_2_0_1 t1329) (by first | decide | omega) (by first | decide | omega) (by decide)
        have q1396 : h1317 ((h 61 1) + 7) 2 = h ((h 61 1) + 7) 2 := jK 0 f1318 (rg_T7_2_0_1 t1329) (by first | decide | omega) (by first | decide | omega) (by decide)
        have b1397 := jB (e := 2) 0 hJ (rg_T7_2_0_1 t1329) (by first | decide | omega) (by first | decide | omega)
        refine x_getC (np := 9) (x := 386) (f := 2) (q := (h ((h 61 1) + 7) 2)) (by decide +kernel) (by decide) (tg_7_386_2_0 t1329) ((q1394.trans q1395).trans q1396) (fun l1398 => ?_)
        refine x_icmp (k := 3) (tg := 28) (np := 12) (by decide +kernel) (by decide) la1 l1398 (fun q1399 => ?_) (fun q1400 => ?_)
        · have q1399 : (h ((h 61 1) + 7) 2) ≤ a1 := q1399
          refine x_const (np := 29) (x := 9223372039002259456) (a := 2147483648) (by decide +kernel) (by decide) (by decide) ?_
          refine x_istore (np := 31) (x := 4) (lo' := [x_r ((h 61 1) + 7), iv_c a1, iv_c 2147483650, iv_c v1362, iv_c 2147483648]) (by decide +kernel) (by decide) (Nat.le_of_ble_eq_true rfl) rfl ?_
          refine x_iload (np := 33) (x := 4) (by decide +kernel) rfl (by decide) ?_
          refine x_ifz (k := 0) (tg := 50) (np := 36) (by decide +kernel) (by decide) (by decide) (fun q1401 => ?_) (fun q1402 => ?_)
          · have q1401 : 2147483648 = 2147483648 := q1401
            refine x_retV (np := 51) (x := 0) (by decide +kernel) (by decide +kernel) ⟨rfl, ?_⟩
            refine x_const (np := 80) (x := 9223372043297226753) (a := 2147483649) (by decide +kernel) (by decide) (by decide) ?_
            obtain ⟨w1403, e1404⟩ := Tk.no c1375 (by first | decide | omega)
            obtain ⟨u1405, q1406⟩ : ∃ z, a1 = 2147483648 + z := ⟨a1 - 2147483648, by first | decide | omega⟩
            have q1407 : h1369 ((h 61 1) + 8) (1 + 4 * u1405) = h1346 ((h 61 1) + 8) (1 + 4 * u1405) := jK u1405 f1371 (rg_T8_1_4_10 t1329) (by first | decide | omega) (by first | decide | omega) (by decide)
            have q1408 : h1346 ((h 61 1) + 8) (1 + 4 * u1405) = h1317 ((h 61 1) + 8) (1 + 4 * u1405) := jK u1405 f1348 (rg_T8_1_4_10 t1329) (by first | decide | omega) (by first | decide | omega) (by decide)
            have q1409 : h1317 ((h 61 1) + 8) (1 + 4 * u1405) = h ((h 61 1) + 8) (1 + 4 * u1405) := jK u1405 f1318 (rg_T8_1_4_10 t1329) (by first | decide | omega) (by first | decide | omega) (by decide)
            refine x_retI (np := 81) (x := 0) (by decide +kernel) (by decide) (Or.inr ⟨by decide +kernel, by first | decide | omega, by first | decide | omega⟩) ⟨_, rfl, (by decide), ?_⟩
            exact ⟨j1370, f1376, (by first | decide | omega), (Bq.fin m1322 c1353 (by first | decide | omega) (by first | decide | omega) rfl (by first | decide | omega) w1403 rfl (by first | decide | omega) (show h1346 1 2 = h1369 1 2 by first | decide | omega)), (fun b u e1 e2 => by rw [← e1, show u = u1405 by first | decide | omega]; exact ((q1407.trans q1408).trans q1409)), (fun z => absurd z (by first | decide | omega))⟩
          have q1402 : ¬ (2147483648 = 2147483648) := q1402
          exfalso; omega
        have q1400 : ¬ ((h ((h 61 1) + 7) 2) ≤ a1) := q1400
        refine x_iload (np := 13) (x := 2) (by decide +kernel) rfl (by decide) ?_
        refine x_ifz (k := 2) (tg := 28) (np := 16) (by decide +kernel) (by decide) (by decide) (fun q1410 => ?_) (fun q1411 => ?_)
        · have q1410 : 2147483650 < 2147483648 := q1410
          exfalso; omega
        have q1411 : ¬ (2147483650 < 2147483648) := q1411
        refine x_iload (np := 17) (x := 2) (by decide +kernel) rfl (by decide) ?_
        refine x_aload (np := 18) (x := 0) (by decide +kernel) rfl (x_nc_le (tn_7 t1329)) ?_
        have q1412 : h1369 ((h 61 1) + 7) 0 = h1346 ((h 61 1) + 7) 0 := jK 0 f1371 (rg_T7_0_0_1 t1329) (by first | decide | omega) (by first | decide | omega) (by decide)
        have q1413 : h1346 ((h 61 1) + 7) 0 = h1317 ((h 61 1) + 7) 0 := jK 0 f1348 (rg_T7_0_0_1 t1329) (by first | decide | omega) (by first | decide | omega) (by decide)
        have q1414 : h1317 ((h 61 1) + 7) 0 = h ((h 61 1) + 7) 0 := jK 0 f1318 (rg_T7_0_0_1 t1329) (by first | decide | omega) (by first | decide | omega) (by decide)
        have b1415 := jB (e := 0) 0 hJ (rg_T7_0_0_1 t1329) (by first | decide | omega) (by first | decide | omega)
        have q1416 : (h ((h 61 1) + 7) 0) = 2147483652 := by first | decide | omega
        refine x_getC (np := 21) (x := 384) (f := 0) (q := 2147483652) (by decide +kernel) (by decide) (tg_7_384_0_0 t1329) (((q1412.trans q1413).trans q1414).trans q1416) (fun l1417 => ?_)
        refine x_icmp (k := 3) (tg := 28) (np := 24) (by decide +kernel) (by decide) (by decide) (by decide) (fun q1418 => ?_) (fun q1419 => ?_)
        · have q1418 : 2147483652 ≤ 2147483650 := q1418
          exfalso; omega
        have q1419 : ¬ (2147483652 ≤ 2147483650) := q1419
        refine x_const (np := 25) (x := 9223372043297226753) (a := 2147483649) (by decide +kernel) (by decide) (by decide) ?_
        refine x_goto (np := 28) (x := 29) (by decide +kernel) ?_
        refine x_istore (np := 31) (x := 4) (lo' := [x_r ((h 61 1) + 7), iv_c a1, iv_c 2147483650, iv_c v1362, iv_c 2147483649]) (by decide +kernel) (by decide) (Nat.le_of_ble_eq_true rfl) rfl ?_
        refine x_iload (np := 33) (x := 4) (by decide +kernel) rfl (by decide) ?_
        refine x_ifz (k := 0) (tg := 50) (np := 36) (by decide +kernel) (by decide) (by decide) (fun q1420 => ?_) (fun q1421 => ?_)
        · have q1420 : 2147483649 = 2147483648 := q1420
          exfalso; omega
        have q1421 : ¬ (2147483649 = 2147483648) := q1421
        refine x_aload (np := 37) (x := 0) (by decide +kernel) rfl (x_nc_le (tn_7 t1329)) ?_
        have q1422 : h1369 ((h 61 1) + 7) 1 = ((h 61 1) + 8) := tf_7_1 j1370 t1329
        refine x_getR (np := 40) (x := 385) (f := 1) (q := ((h 61 1) + 8)) (by decide +kernel) (by decide) (tg_7_385_1_1 t1329) q1422 ?_
        refine x_iload (np := 41) (x := 1) (by decide +kernel) rfl la1 ?_
        refine x_aload (np := 42) (x := 0) (by decide +kernel) rfl (x_nc_le (tn_7 t1329)) ?_
        have q1423 : h1369 ((h 61 1) + 7) 0 = h1346 ((h 61 1) + 7) 0 := jK 0 f1371 (rg_T7_0_0_1 t1329) (by first | decide | omega) (by first | decide | omega) (by decide)
        have q1424 : h1346 ((h 61 1) + 7) 0 = h1317 ((h 61 1) + 7) 0 := jK 0 f1348 (rg_T7_0_0_1 t1329) (by first | decide | omega) (by first | decide | omega) (by decide)
        have q1425 : h1317 ((h 61 1) + 7) 0 = h ((h 61 1) + 7) 0 := jK 0 f1318 (rg_T7_0_0_1 t1329) (by first | decide | omega) (by first | decide | omega) (by decide)
        refine x_getC (np := 45) (x := 384) (f := 0) (q := 2147483652) (by decide +kernel) (by decide) (tg_7_384_0_0 t1329) (((q1423.trans q1424).trans q1425).trans q1416) (fun l1426 => ?_)
        obtain ⟨u1427, q1428⟩ : ∃ z, a1 = 2147483648 + z := ⟨a1 - 2147483648, by first | decide | omega⟩
        refine x_imul (np := 46) (x := 0) (i := u1427) (j := 4) (v := (2147483648 + 4 * u1427)) (by decide +kernel) (by first | decide | omega) (by first | decide | omega) (by first | decide | omega) (by first | decide | omega) la1 (by decide) ?_
        refine x_iload (np := 47) (x := 2) (by decide +kernel) rfl (by decide) ?_
        refine x_iadd (np := 48) (x := 0) (v := (2147483650 + 4 * u1427)) (by decide +kernel) (by first | decide | omega) (by decide) (by first | decide | omega) (by first | decide | omega) ?_
        refine x_iload (np := 49) (x := 3) (by decide +kernel) rfl l1363 ?_
        refine x_ast (np := 50) (x := 0) (kd := 1) (n := 40) (i := (2 + 4 * u1427)) (by decide +kernel) (Or.inl rfl) (ta_8_40 t1329) (by first | decide | omega) (by first | decide | omega) (by decide) l1363 (fun z => absurd z (by decide)) ?_
        have j1431 := jU (e := (2 + 4 * u1427)) (v := v1362) u1427 j1370 (rg_T8_2_4_10 t1329) (by first | decide | omega) (by first | decide | omega) (by first | decide | omega)
        have f1433 := jF (e := (2 + 4 * u1427)) (v := v1362) u1427 f1376 (rg_T8_2_4_10 t1329) (by first | decide | omega) (by first | decide | omega) (by decide)
        generalize e1432 : x_up h1369 ((h 61 1) + 8) (2 + 4 * u1427) v1362 = h1430 at j1431 f1433 ⊢
        refine x_retV (np := 51) (x := 0) (by decide +kernel) (by decide +kernel) ⟨rfl, ?_⟩
        refine x_const (np := 80) (x := 9223372043297226753) (a := 2147483649) (by decide +kernel) (by decide) (by decide) ?_
        obtain ⟨w1434, e1435⟩ := Tk.no c1375 (by first | decide | omega)
        have q1436 : h1430 1 2 = h1369 1 2 := by rw [← e1432]; exact x_up_k (Ne.symm (tne_8_1 t1329))
        have q1437 : h1430 ((h 61 1) + 8) (1 + 4 * u1427) = h1369 ((h 61 1) + 8) (1 + 4 * u1427) := by rw [← e1432]; exact x_up_i (by first | decide | omega)
        have q1438 : h1369 ((h 61 1) + 8) (1 + 4 * u1427) = h1346 ((h 61 1) + 8) (1 + 4 * u1427) := jK u1427 f1371 (rg_T8_1_4_10 t1329) (by first | decide | omega) (by first | decide | omega) (by decide)
        have q1439 : h1346 ((h 61 1) + 8) (1 + 4 * u1427) = h1317 ((h 61 1) + 8) (1 + 4 * u1427) := jK u1427 f1348 (rg_T8_1_4_10 t1329) (by first | decide | omega) (by first | decide | omega) (by decide)
        have q1440 : h1317 ((h 61 1) + 8) (1 + 4 * u1427) = h ((h 61 1) + 8) (1 + 4 * u1427) := jK u1427 f1318 (rg_T8_1_4_10 t1329) (by first | decide | omega) (by first | decide | omega) (by decide)
        refine x_retI (np := 81) (x := 0) (by decide +kernel) (by decide) (Or.inr ⟨by decide +kernel, by first | decide | omega, by first | decide | omega⟩) ⟨_, rfl, (by decide), ?_⟩
        exact ⟨j1431, f1433, (by first | decide | omega), (Bq.fin m1322 c1353 (by first | decide | omega) (by first | decide | omega) rfl (by first | decide | omega) w1434 rfl (by first | decide | omega) (show h1346 1 2 = h1430 1 2 by first | decide | omega)), (fun b u e1 e2 => by rw [← e1, show u = u1427 by first | decide | omega]; exact (((q1437.trans q1438).trans q1439).trans q1440)), (fun z => absurd z (by first | decide | omega))⟩
      have q1358 : ¬ (v1342 ≠ 2147483647) := q1358
      have b1441 := c1352 (by first | decide | omega)
      refine x_const (np := 37) (x := 9223372039002259456) (a := 2147483648) (by decide +kernel) (by decide) (by decide) ?_
      obtain ⟨u1442, q1443⟩ : ∃ z, a1 = 2147483648 + z := ⟨a1 - 2147483648, by first | decide | omega⟩
      have q1444 : h1346 ((h 61 1) + 8) (1 + 4 * u1442) = h1317 ((h 61 1) + 8) (1 + 4 * u1442) := jK u1442 f1348 (rg_T8_1_4_10 t1329) (by first | decide | omega) (by first | decide | omega) (by decide)
      have q1445 : h1317 ((h 61 1) + 8) (1 + 4 * u1442) = h ((h 61 1) + 8) (1 + 4 * u1442) := jK u1442 f1318 (rg_T8_1_4_10 t1329) (by first | decide | omega) (by first | decide | omega) (by decide)
      refine x_retI (np := 38) (x := 0) (by decide +kernel) (by decide) (Or.inr ⟨by decide +kernel, by first | decide | omega, by first | decide | omega⟩) ⟨_, rfl, (by decide), ?_⟩
      exact ⟨j1347, f1354, (by first | decide | omega), (Bq.no m1322 c1353 (by first | decide | omega) (by first | decide | omega) rfl (by first | decide | omega) (by first | decide | omega)), (fun b u e1 e2 => by rw [← e1, show u = u1442 by first | decide | omega]; exact (q1444.trans q1445)), (fun _ => Bqf.no m1323 c1353 (by first | decide | omega) (by first | decide | omega) rfl (by first | decide | omega) (show h1346 1 2 = h1317 1 2 by first | decide | omega))⟩
  have b1446 := jB (e := 2) 0 hJ rg_1_2_0_1 (by first | decide | omega) (by first | decide | omega)
  exact p1320 _ 2147483648 2147483648 147573952589676412928 h (Nat.lt_succ_self _) (by first | decide | omega) (by first | decide | omega) (by first | decide | omega) hJ (Fr.refl _ _) (Bq.zero rfl) (Bqf.zero rfl)
set_option maxHeartbeats 0 in
/-- LentNames$Tape.takesNumber(II)I -/
theorem c79_1 {sc : Nat × Nat} {d a1 a2 : Nat} {h : xh} {tB : Nat → Nat} {tN : Nat} (hJ : J h) (ba1 : 2147483648 ≤ a1 ∧ a1 ≤ 2147483659) (ba2 : 2147483659 ≤ a2 ∧ a2 ≤ 2147483659) (hT : Tp tB tN h) : X sc 79 (d + 1) (xI fun r h' => J h' ∧ Fr 33 h h' ∧ (2147483647 ≤ r ∧ r ≤ 2147483659) ∧ (r ≤ a2) ∧ (2147483648 ≤ r → h 1 2 + 1 ≤ h' 1 2) ∧ (r = 2147483647 → h' 1 2 = h 1 2) ∧ Nr tB tN a1 a2 (h 1 2) r (h' 1 2)) 0 0 0 [x_r 1, iv_c a1, iv_c a2, 147573952589676412928, 147573952589676412928] [] h := by
  have la1 : a1 < 4294967296 := by first | decide | omega
  have la2 : a2 < 4294967296 := by first | decide | omega
  have hF := Fr.refl 33 h
  refine x_const (np := 1) (x := 9223372039002259456) (a := 2147483648) (by decide +kernel) (by decide) (by decide) ?_
  refine x_istore (np := 2) (x := 3) (lo' := [x_r 1, iv_c a1, iv_c a2, iv_c 2147483648, 147573952589676412928]) (by decide +kernel) (by decide) (Nat.le_of_ble_eq_true rfl) rfl ?_
  refine x_const (np := 3) (x := 9223372039002259456) (a := 2147483648) (by decide +kernel) (by decide) (by decide) ?_
  refine x_istore (np := 5) (x := 4) (lo' := [x_r 1, iv_c a1, iv_c a2, iv_c 2147483648, iv_c 2147483648]) (by decide +kernel) (by decide) (Nat.le_of_ble_eq_true rfl) rfl ?_
  refine x_iload (np := 7) (x := 4) (by decide +kernel) rfl (by decide) ?_
  refine x_const (np := 8) (x := 9223372051887161347) (a := 2147483651) (by decide +kernel) (by decide) (by decide) ?_
  refine x_icmp (k := 4) (tg := 54) (np := 11) (by decide +kernel) (by decide) (by decide) (by decide) (fun q1 => ?_) (fun q2 => ?_)
  · have q1 : 2147483651 < 2147483648 := q1
    exfalso; omega
  have q2 : ¬ (2147483651 < 2147483648) := q2
  refine x_aload (np := 12) (x := 0) (by decide +kernel) rfl (x_nc_le (by decide)) ?_
  refine x_aload (np := 13) (x := 0) (by decide +kernel) rfl (x_nc_le (by decide)) ?_
  have b3 := jB (e := 2) 0 hJ rg_1_2_0_1 (by first | decide | omega) (by first | decide | omega)
  refine x_getC (np := 16) (x := 450) (f := 2) (q := (h 1 2)) (by decide +kernel) (by decide) (by decide +kernel) rfl (fun l4 => ?_)
  refine x_iload (np := 18) (x := 4) (by decide +kernel) rfl (by decide) ?_
  refine x_iadd (np := 19) (x := 0) (v := (h 1 2)) (by decide +kernel) l4 (by decide) (by first | decide | omega) (by first | decide | omega) ?_
  refine x_nI (t := 6) (mj := 81) (n := 2) (rc := 8) (ml := 2) (nr := 0) (np := 22) (as := [x_r 1, iv_c (h 1 2)]) (rest := []) (lo1 := [x_r 1, iv_c (h 1 2)]) (by decide +kernel) (by decide) (by decide +kernel) (x_rb_of (by decide +kernel)) rfl rfl (x_wr (by decide) (x_wi l4 x_wn)) x_wn (by decide) rfl ?_
  refine x_iload (np := 1) (x := 1) (by decide +kernel) rfl l4 ?_
  refine x_aload (np := 2) (x := 0) (by decide +kernel) rfl (x_nc_le (by decide)) ?_
  have b5 := jB (e := 1) 0 hJ rg_1_1_0_1 (by first | decide | omega) (by first | decide | omega)
  refine x_getC (np := 5) (x := 449) (f := 1) (q := (h 1 1)) (by decide +kernel) (by decide) (by decide +kernel) rfl (fun l6 => ?_)
  refine x_icmp (k := 3) (tg := 17) (np := 8) (by decide +kernel) (by decide) l4 l6 (fun q7 => ?_) (fun q8 => ?_)
  · have q7 : (h 1 1) ≤ (h 1 2) := q7
    refine x_const (np := 18) (x := 9223372034707292159) (a := 2147483647) (by decide +kernel) (by decide) (by decide) ?_
    refine x_retI (np := 19) (x := 0) (by decide +kernel) (by decide) (Or.inl (by decide +kernel)) ⟨_, rfl, (by decide), ?_⟩
    refine x_nI (t := 0) (mj := 82) (n := 1) (rc := 0) (ml := 1) (nr := 0) (np := 25) (as := [iv_c 2147483647]) (rest := []) (lo1 := [iv_c 2147483647]) (by decide +kernel) (by decide) (by decide +kernel) (Or.inl rfl) rfl rfl (x_wi (by decide) x_wn) x_wn (by decide) rfl ?_
    refine x_iload (np := 1) (x := 0) (by decide +kernel) rfl (by decide) ?_
    refine x_const (np := 3) (x := 9223372245160689712) (a := 2147483696) (by decide +kernel) (by decide) (by decide) ?_
    refine x_icmp (k := 2) (tg := 16) (np := 6) (by decide +kernel) (by decide) (by decide) (by decide) (fun q9 => ?_) (fun q10 => ?_)
    · have q9 : 2147483647 < 2147483696 := q9
      refine x_const (np := 17) (x := 9223372039002259456) (a := 2147483648) (by decide +kernel) (by decide) (by decide) ?_
      refine x_retI (np := 18) (x := 0) (by decide +kernel) (by decide) (Or.inr ⟨by decide +kernel, by first | decide | omega, by first | decide | omega⟩) ⟨_, rfl, (by decide), ?_⟩
      refine x_ifz (k := 0) (tg := 54) (np := 28) (by decide +kernel) (by decide) (by decide) (fun q11 => ?_) (fun q12 => ?_)
      · have q11 : 2147483648 = 2147483648 := q11
        refine x_iload (np := 56) (x := 4) (by decide +kernel) rfl (by decide) ?_
        refine x_ifz (k := 0) (tg := 75) (np := 59) (by decide +kernel) (by decide) (by decide) (fun q13 => ?_) (fun q14 => ?_)
        · have q13 : 2147483648 = 2147483648 := q13
          refine x_const (np := 76) (x := 9223372034707292159) (a := 2147483647) (by decide +kernel) (by decide) (by decide) ?_
          have z15 := hT.1
          have z16 := hT.1
          have g17 : ¬ Dg tB tN (h 1 2 + 0) := fun z => by have z1 := z.1; have z2 := z.2.1; have z3 := z.2.2; omega
          refine x_retI (np := 77) (x := 0) (by decide +kernel) (by decide) (Or.inl (by decide +kernel)) ⟨_, rfl, (by decide), ?_⟩
          exact ⟨hJ, hF, (by first | decide | omega), (by first | decide | omega), (fun z => by first | decide | omega), (fun z => by first | decide | omega), (Nr.nob (by first | decide | omega) (Nb.mk0 g17))⟩
        have q14 : ¬ (2147483648 = 2147483648) := q14
        exfalso; omega
      have q12 : ¬ (2147483648 = 2147483648) := q12
      exfalso; omega
    have q10 : ¬ (2147483647 < 2147483696) := q10
    exfalso; omega
  have q8 : ¬ ((h 1 1) ≤ (h 1 2)) := q8
  refine x_aload (np := 9) (x := 0) (by decide +kernel) rfl (x_nc_le (by decide)) ?_
  have q18 : h 1 0 = 2 := by have z := jB (e := 0) 0 hJ rg_1_0_0_1 (by decide) (by decide); omega
  refine x_getR (np := 12) (x := 448) (f := 0) (q := 2) (by decide +kernel) (by decide) (by decide +kernel) q18 ?_
  refine x_iload (np := 13) (x := 1) (by decide +kernel) rfl l4 ?_
  obtain ⟨u19, q20⟩ : ∃ z, (h 1 2) = 2147483648 + z := ⟨(h 1 2) - 2147483648, by first | decide | omega⟩
  refine x_aldC (np := 14) (x := 0) (n := 400) (i := u19) (q := (h 2 u19)) (by decide +kernel) (by decide +kernel) (by first | decide | omega) (by first | decide | omega) (by decide) rfl (fun l21 => ?_)
  refine x_goto (np := 17) (x := 18) (by decide +kernel) ?_
  refine x_retI (np := 19) (x := 0) (by decide +kernel) l21 (Or.inl (by decide +kernel)) ⟨_, rfl, l21, ?_⟩
  refine x_nI (t := 0) (mj := 82) (n := 1) (rc := 0) (ml := 1) (nr := 0) (np := 25) (as := [iv_c (h 2 u19)]) (rest := []) (lo1 := [iv_c (h 2 u19)]) (by decide +kernel) (by decide) (by decide +kernel) (Or.inl rfl) rfl rfl (x_wi l21 x_wn) x_wn (by decide) rfl ?_
  refine x_iload (np := 1) (x := 0) (by decide +kernel) rfl l21 ?_
  refine x_const (np := 3) (x := 9223372245160689712) (a := 2147483696) (by decide +kernel) (by decide) (by decide) ?_
  refine x_icmp (k := 2) (tg := 16) (np := 6) (by decide +kernel) (by decide) l21 (by decide) (fun q22 => ?_) (fun q23 => ?_)
  · have q22 : (h 2 u19) < 2147483696 := q22
    refine x_const (np := 17) (x := 9223372039002259456) (a := 2147483648) (by decide +kernel) (by decide) (by decide) ?_
    refine x_retI (np := 18) (x := 0) (by decide +kernel) (by decide) (Or.inr ⟨by decide +kernel, by first | decide | omega, by first | decide | omega⟩) ⟨_, rfl, (by decide), ?_⟩
    refine x_ifz (k := 0) (tg := 54) (np := 28) (by decide +kernel) (by decide) (by decide) (fun q24 => ?_) (fun q25 => ?_)
    · have q24 : 2147483648 = 2147483648 := q24
      refine x_iload (np := 56) (x := 4) (by decide +kernel) rfl (by decide) ?_
      refine x_ifz (k := 0) (tg := 75) (np := 59) (by decide +kernel) (by decide) (by decide) (fun q26 => ?_) (fun q27 => ?_)
      · have q26 : 2147483648 = 2147483648 := q26
        refine x_const (np := 76) (x := 9223372034707292159) (a := 2147483647) (by decide +kernel) (by decide) (by decide) ?_
        have z28 := hT.1
        have z29 := hT.1
        have z30 := Tp.at (p := (h 1 2 + 0)) (u := u19) hT (by first | decide | omega) (by first | decide | omega)
        have g31 : ¬ Dg tB tN (h 1 2 + 0) := fun z => by have z1 := z.1; have z2 := z.2.1; have z3 := z.2.2; omega
        refine x_retI (np := 77) (x := 0) (by decide +kernel) (by decide) (Or.inl (by decide +kernel)) ⟨_, rfl, (by decide), ?_⟩
        exact ⟨hJ, hF, (by first | decide | omega), (by first | decide | omega), (fun z => by first | decide | omega), (fun z => by first | decide | omega), (Nr.nob (by first | decide | omega) (Nb.mk0 g31))⟩
      have q27 : ¬ (2147483648 = 2147483648) := q27
      exfalso; omega
    have q25 : ¬ (2147483648 = 2147483648) := q25
    exfalso; omega
  have q23 : ¬ ((h 2 u19) < 2147483696) := q23
  refine x_iload (np := 7) (x := 0) (by decide +kernel) rfl l21 ?_
  refine x_const (np := 9) (x := 9223372283815395385) (a := 2147483705) (by decide +kernel) (by decide) (by decide) ?_
  refine x_icmp (k := 4) (tg := 16) (np := 12) (by decide +kernel) (by decide) l21 (by decide) (fun q32 => ?_) (fun q33 => ?_)
  · have q32 : 2147483705 < (h 2 u19) := q32
    refine x_const (np := 17) (x := 9223372039002259456) (a := 2147483648) (by decide +kernel) (by decide) (by decide) ?_
    refine x_retI (np := 18) (x := 0) (by decide +kernel) (by decide) (Or.inr ⟨by decide +kernel, by first | decide | omega, by first | decide | omega⟩) ⟨_, rfl, (by decide), ?_⟩
    refine x_ifz (k := 0) (tg := 54) (np := 28) (by decide +kernel) (by decide) (by decide) (fun q34 => ?_) (fun q35 => ?_)
    · have q34 : 2147483648 = 2147483648 := q34
      refine x_iload (np := 56) (x := 4) (by decide +kernel) rfl (by decide) ?_
      refine x_ifz (k := 0) (tg := 75) (np := 59) (by decide +kernel) (by decide) (by decide) (fun q36 => ?_) (fun q37 => ?_)
      · have q36 : 2147483648 = 2147483648 := q36
        refine x_const (np := 76) (x := 9223372034707292159) (a := 2147483647) (by decide +kernel) (by decide) (by decide) ?_
        have z38 := hT.1
        have z39 := hT.1
        have z40 := Tp.at (p := (h 1 2 + 0)) (u := u19) hT (by first | decide | omega) (by first | decide | omega)
        have g41 : ¬ Dg tB tN (h 1 2 + 0) := fun z => by have z1 := z.1; have z2 := z.2.1; have z3 := z.2.2; omega
        refine x_retI (np := 77) (x := 0) (by decide +kernel) (by decide) (Or.inl (by decide +kernel)) ⟨_, rfl, (by decide), ?_⟩
        exact ⟨hJ, hF, (by first | decide | omega), (by first | decide | omega), (fun z => by first | decide | omega), (fun z => by first | decide | omega), (Nr.nob (by first | decide | omega) (Nb.mk0 g41))⟩
      have q37 : ¬ (2147483648 = 2147483648) := q37
      exfalso; omega
    have q35 : ¬ (2147483648 = 2147483648) := q35
    exfalso; omega
  have q33 : ¬ (2147483705 < (h 2 u19)) := q33
  refine x_const (np := 13) (x := 9223372043297226753) (a := 2147483649) (by decide +kernel) (by decide) (by decide) ?_
  refine x_goto (np := 16) (x := 17) (by decide +kernel) ?_
  refine x_retI (np := 18) (x := 0) (by decide +kernel) (by decide) (Or.inr ⟨by decide +kernel, by first | decide | omega, by first | decide | omega⟩) ⟨_, rfl, (by decide), ?_⟩
  refine x_ifz (k := 0) (tg := 54) (np := 28) (by decide +kernel) (by decide) (by decide) (fun q42 => ?_) (fun q43 => ?_)
  · have q42 : 2147483649 = 2147483648 := q42
    exfalso; omega
  have q43 : ¬ (2147483649 = 2147483648) := q43
  refine x_iload (np := 29) (x := 3) (by decide +kernel) rfl (by decide) ?_
  refine x_const (np := 31) (x := 9223372081951932426) (a := 2147483658) (by decide +kernel) (by decide) (by decide) ?_
  refine x_imul (np := 32) (x := 0) (i := 0) (j := 10) (v := 2147483648) (by decide +kernel) (by first | decide | omega) (by first | decide | omega) (by first | decide | omega) (by first | decide | omega) (by decide) (by decide) ?_
  refine x_aload (np := 33) (x := 0) (by decide +kernel) rfl (x_nc_le (by decide)) ?_
  refine x_aload (np := 34) (x := 0) (by decide +kernel) rfl (x_nc_le (by decide)) ?_
  refine x_getC (np := 37) (x := 450) (f := 2) (q := (h 1 2)) (by decide +kernel) (by decide) (by decide +kernel) rfl (fun l45 => ?_)
  refine x_iload (np := 39) (x := 4) (by decide +kernel) rfl (by decide) ?_
  refine x_iadd (np := 40) (x := 0) (v := (h 1 2)) (by decide +kernel) l4 (by decide) (by first | decide | omega) (by first | decide | omega) ?_
  refine x_nI (t := 6) (mj := 81) (n := 2) (rc := 8) (ml := 2) (nr := 1) (np := 43) (as := [x_r 1, iv_c (h 1 2)]) (rest := [iv_c 2147483648]) (lo1 := [x_r 1, iv_c (h 1 2)]) (by decide +kernel) (by decide) (by decide +kernel) (x_rb_of (by decide +kernel)) rfl rfl (x_wr (by decide) (x_wi l4 x_wn)) (x_wi (by decide) x_wn) (by decide) rfl ?_
  refine x_iload (np := 1) (x := 1) (by decide +kernel) rfl l4 ?_
  refine x_aload (np := 2) (x := 0) (by decide +kernel) rfl (x_nc_le (by decide)) ?_
  refine x_getC (np := 5) (x := 449) (f := 1) (q := (h 1 1)) (by decide +kernel) (by decide) (by decide +kernel) rfl (fun l46 => ?_)
  refine x_icmp (k := 3) (tg := 17) (np := 8) (by decide +kernel) (by decide) l4 l6 (fun q47 => ?_) (fun q48 => ?_)
  · have q47 : (h 1 1) ≤ (h 1 2) := q47
    exfalso; omega
  have q48 : ¬ ((h 1 1) ≤ (h 1 2)) := q48
  refine x_aload (np := 9) (x := 0) (by decide +kernel) rfl (x_nc_le (by decide)) ?_
  have q49 : h 1 0 = 2 := by have z := jB (e := 0) 0 hJ rg_1_0_0_1 (by decide) (by decide); omega
  refine x_getR (np := 12) (x := 448) (f := 0) (q := 2) (by decide +kernel) (by decide) (by decide +kernel) q49 ?_
  refine x_iload (np := 13) (x := 1) (by decide +kernel) rfl l4 ?_
  refine x_aldC (np := 14) (x := 0) (n := 400) (i := u19) (q := (h 2 u19)) (by decide +kernel) (by decide +kernel) (by first | decide | omega) (by first | decide | omega) (by decide) rfl (fun l50 => ?_)
  refine x_goto (np := 17) (x := 18) (by decide +kernel) ?_
  refine x_retI (np := 19) (x := 0) (by decide +kernel) l21 (Or.inl (by decide +kernel)) ⟨_, rfl, l21, ?_⟩
  refine x_iadd (np := 44) (x := 0) (v := (h 2 u19)) (by decide +kernel) (by decide) l21 (by first | decide | omega) (by first | decide | omega) ?_
  refine x_const (np := 46) (x := 9223372245160689712) (a := 2147483696) (by decide +kernel) (by decide) (by decide) ?_
  obtain ⟨v51, q52⟩ : ∃ z, z + 2147483696 = (h 2 u19) + 2147483648 := ⟨(h 2 u19) + 2147483648 - 2147483696, by first | decide | omega⟩
  refine x_isub (np := 47) (x := 0) (v := v51) (by decide +kernel) l21 (by decide) (by first | decide | omega) (by first | decide | omega) ?_
  refine x_istore (np := 48) (x := 3) (lo' := [x_r 1, iv_c a1, iv_c a2, iv_c v51, iv_c 2147483648]) (by decide +kernel) (by first | decide | omega) (Nat.le_of_ble_eq_true rfl) rfl ?_
  refine x_iinc (np := 51) (i := 4) (j := 2147483649) (v := 2147483649) (lo' := [x_r 1, iv_c a1, iv_c a2, iv_c v51, iv_c 2147483649]) (by decide +kernel) (by decide) (by decide) rfl (by decide) (by first | decide | omega) (by first | decide | omega) rfl ?_
  refine x_goto (np := 54) (x := 5) (by decide +kernel) ?_
  refine x_iload (np := 7) (x := 4) (by decide +kernel) rfl (by decide) ?_
  refine x_const (np := 8) (x := 9223372051887161347) (a := 2147483651) (by decide +kernel) (by decide) (by decide) ?_
  refine x_icmp (k := 4) (tg := 54) (np := 11) (by decide +kernel) (by decide) (by decide) (by decide) (fun q53 => ?_) (fun q54 => ?_)
  · have q53 : 2147483651 < 2147483649 := q53
    exfalso; omega
  have q54 : ¬ (2147483651 < 2147483649) := q54
  refine x_aload (np := 12) (x := 0) (by decide +kernel) rfl (x_nc_le (by decide)) ?_
  refine x_aload (np := 13) (x := 0) (by decide +kernel) rfl (x_nc_le (by decide)) ?_
  refine x_getC (np := 16) (x := 450) (f := 2) (q := (h 1 2)) (by decide +kernel) (by decide) (by decide +kernel) rfl (fun l55 => ?_)
  refine x_iload (np := 18) (x := 4) (by decide +kernel) rfl (by decide) ?_
  refine x_iadd (np := 19) (x := 0) (v := (1 + (h 1 2))) (by decide +kernel) l4 (by decide) (by first | decide | omega) (by first | decide | omega) ?_
  refine x_nI (t := 6) (mj := 81) (n := 2) (rc := 8) (ml := 2) (nr := 0) (np := 22) (as := [x_r 1, iv_c (1 + (h 1 2))]) (rest := []) (lo1 := [x_r 1, iv_c (1 + (h 1 2))]) (by decide +kernel) (by decide) (by decide +kernel) (x_rb_of (by decide +kernel)) rfl rfl (x_wr (by decide) (x_wi (by first | decide | omega) x_wn)) x_wn (by decide) rfl ?_
  refine x_iload (np := 1) (x := 1) (by decide +kernel) rfl (by first | decide | omega) ?_
  refine x_aload (np := 2) (x := 0) (by decide +kernel) rfl (x_nc_le (by decide)) ?_
  refine x_getC (np := 5) (x := 449) (f := 1) (q := (h 1 1)) (by decide +kernel) (by decide) (by decide +kernel) rfl (fun l56 => ?_)
  refine x_icmp (k := 3) (tg := 17) (np := 8) (by decide +kernel) (by decide) (by first | decide | omega) l6 (fun q57 => ?_) (fun q58 => ?_)
  · have q57 : (h 1 1) ≤ (1 + (h 1 2)) := q57
    refine x_const (np := 18) (x := 9223372034707292159) (a := 2147483647) (by decide +kernel) (by decide) (by decide) ?_
    refine x_retI (np := 19) (x := 0) (by decide +kernel) (by decide) (Or.inl (by decide +kernel)) ⟨_, rfl, (by decide), ?_⟩
    refine x_nI (t := 0) (mj := 82) (n := 1) (rc := 0) (ml := 1) (nr := 0) (np := 25) (as := [iv_c 2147483647]) (rest := []) (lo1 := [iv_c 2147483647]) (by decide +kernel) (by decide) (by decide +kernel) (Or.inl rfl) rfl rfl (x_wi (by decide) x_wn) x_wn (by decide) rfl ?_
    refine x_iload (np := 1) (x := 0) (by decide +kernel) rfl (by decide) ?_
    refine x_const (np := 3) (x := 9223372245160689712) (a := 2147483696) (by decide +kernel) (by decide) (by decide) ?_
    refine x_icmp (k := 2) (tg := 16) (np := 6) (by decide +kernel) (by decide) (by decide) (by decide) (fun q59 => ?_) (fun q60 => ?_)
    · have q59 : 2147483647 < 2147483696 := q59
      refine x_const (np := 17) (x := 9223372039002259456) (a := 2147483648) (by decide +kernel) (by decide) (by decide) ?_
      refine x_retI (np := 18) (x := 0) (by decide +kernel) (by decide) (Or.inr ⟨by decide +kernel, by first | decide | omega, by first | decide | omega⟩) ⟨_, rfl, (by decide), ?_⟩
      refine x_ifz (k := 0) (tg := 54) (np := 28) (by decide +kernel) (by decide) (by decide) (fun q61 => ?_) (fun q62 => ?_)
      · have q61 : 2147483648 = 2147483648 := q61
        refine x_iload (np := 56) (x := 4) (by decide +kernel) rfl (by decide) ?_
        refine x_ifz (k := 0) (tg := 75) (np := 59) (by decide +kernel) (by decide) (by decide) (fun q63 => ?_) (fun q64 => ?_)
        · have q63 : 2147483649 = 2147483648 := q63
          exfalso; omega
        have q64 : ¬ (2147483649 = 2147483648) := q64
        refine x_iload (np := 61) (x := 4) (by decide +kernel) rfl (by decide) ?_
        refine x_const (np := 62) (x := 9223372051887161347) (a := 2147483651) (by decide +kernel) (by decide) (by decide) ?_
        refine x_icmp (k := 4) (tg := 75) (np := 65) (by decide +kernel) (by decide) (by decide) (by decide) (fun q65 => ?_) (fun q66 => ?_)
        · have q65 : 2147483651 < 2147483649 := q65
          exfalso; omega
        have q66 : ¬ (2147483651 < 2147483649) := q66
        refine x_iload (np := 66) (x := 3) (by decide +kernel) rfl (by first | decide | omega) ?_
        refine x_iload (np := 67) (x := 1) (by decide +kernel) rfl la1 ?_
        refine x_icmp (k := 2) (tg := 75) (np := 70) (by decide +kernel) (by decide) (by first | decide | omega) la1 (fun q67 => ?_) (fun q68 => ?_)
        · have q67 : v51 < a1 := q67
          refine x_const (np := 76) (x := 9223372034707292159) (a := 2147483647) (by decide +kernel) (by decide) (by decide) ?_
          have z69 := hT.1
          have z70 := Tp.at (p := (h 1 2 + 0)) (u := u19) hT (by first | decide | omega) (by first | decide | omega)
          have g71 : Dg tB tN (h 1 2 + 0) := ⟨by first | decide | omega, by first | decide | omega, by first | decide | omega⟩
          have z72 := hT.1
          have g73 : ¬ Dg tB tN (h 1 2 + 1) := fun z => by have z1 := z.1; have z2 := z.2.1; have z3 := z.2.2; omega
          have z74 := nv1 (B := tB) (p := h 1 2)
          refine x_retI (np := 77) (x := 0) (by decide +kernel) (by decide) (Or.inl (by decide +kernel)) ⟨_, rfl, (by decide), ?_⟩
          exact ⟨hJ, hF, (by first | decide | omega), (by first | decide | omega), (fun z => by first | decide | omega), (fun z => by first | decide | omega), (Nr.nor (by first | decide | omega) (Nu.mk1 g71 g73) (by first | decide | omega))⟩
        have q68 : ¬ (v51 < a1) := q68
        refine x_iload (np := 71) (x := 3) (by decide +kernel) rfl (by first | decide | omega) ?_
        refine x_iload (np := 72) (x := 2) (by decide +kernel) rfl la2 ?_
        refine x_icmp (k := 5) (tg := 77) (np := 75) (by decide +kernel) (by decide) (by first | decide | omega) la2 (fun q75 => ?_) (fun q76 => ?_)
        · have q75 : v51 ≤ a2 := q75
          refine x_aload (np := 78) (x := 0) (by decide +kernel) rfl (x_nc_le (by decide)) ?_
          refine x_aload (np := 79) (x := 0) (by decide +kernel) rfl (x_nc_le (by decide)) ?_
          refine x_getC (np := 82) (x := 450) (f := 2) (q := (h 1 2)) (by decide +kernel) (by decide) (by decide +kernel) rfl (fun l77 => ?_)
          refine x_iload (np := 84) (x := 4) (by decide +kernel) rfl (by decide) ?_
          refine x_iadd (np := 85) (x := 0) (v := (1 + (h 1 2))) (by decide +kernel) l4 (by decide) (by first | decide | omega) (by first | decide | omega) ?_
          refine x_cV (t := 6) (mj := 80) (n := 2) (rc := 8) (ml := 2) (nr := 0) (np := 88) (as := [x_r 1, iv_c (1 + (h 1 2))]) (rest := []) (lo1 := [x_r 1, iv_c (1 + (h 1 2))]) (by decide +kernel) (by decide) (by decide +kernel) (x_rb_of (by decide +kernel)) rfl rfl (x_wr (by decide) (x_wi (by first | decide | omega) x_wn)) x_wn (by decide) rfl (c80_1 hJ  (by first | decide | omega) hT) (fun h81 q80 => ?_)
          obtain ⟨j82, f83, c86, c87⟩ := q80
          have f88 := Fr.trans hF f83 (by decide)
          have b89 := jB (e := 2) 0 j82 rg_1_2_0_1 (by first | decide | omega) (by first | decide | omega)
          refine x_iload (np := 89) (x := 3) (by decide +kernel) rfl (by first | decide | omega) ?_
          have z90 := hT.1
          have z91 := Tp.at (p := (h 1 2 + 0)) (u := u19) hT (by first | decide | omega) (by first | decide | omega)
          have g92 : Dg tB tN (h 1 2 + 0) := ⟨by first | decide | omega, by first | decide | omega, by first | decide | omega⟩
          have z93 := hT.1
          have g94 : ¬ Dg tB tN (h 1 2 + 1) := fun z => by have z1 := z.1; have z2 := z.2.1; have z3 := z.2.2; omega
          have z95 := nv1 (B := tB) (p := h 1 2)
          refine x_retI (np := 90) (x := 0) (by decide +kernel) (by first | decide | omega) (Or.inl (by decide +kernel)) ⟨_, rfl, (by first | decide | omega), ?_⟩
          exact ⟨j82, f88, (by first | decide | omega), (by first | decide | omega), (fun z => by first | decide | omega), (fun z => by first | decide | omega), (Nr.yes (Nu.mk1 g92 g94) (by first | decide | omega) (by first | decide | omega) (by first | decide | omega) c87 (by first | decide | omega))⟩
        have q76 : ¬ (v51 ≤ a2) := q76
        exfalso; omega
      have q62 : ¬ (2147483648 = 2147483648) := q62
      exfalso; omega
    have q60 : ¬ (2147483647 < 2147483696) := q60
    exfalso; omega
  have q58 : ¬ ((h 1 1) ≤ (1 + (h 1 2))) := q58
  refine x_aload (np := 9) (x := 0) (by decide +kernel) rfl (x_nc_le (by decide)) ?_
  have q96 : h 1 0 = 2 := by have z := jB (e := 0) 0 hJ rg_1_0_0_1 (by decide) (by decide); omega
  refine x_getR (np := 12) (x := 448) (f := 0) (q := 2) (by decide +kernel) (by decide) (by decide +kernel) q96 ?_
  refine x_iload (np := 13) (x := 1) (by decide +kernel) rfl (by first | decide | omega) ?_
  refine x_aldC (np := 14) (x := 0) (n := 400) (i := (1 + u19)) (q := (h 2 (1 + u19))) (by decide +kernel) (by decide +kernel) (by first | decide | omega) (by first | decide | omega) (by decide) rfl (fun l97 => ?_)
  refine x_goto (np := 17) (x := 18) (by decide +kernel) ?_
  refine x_retI (np := 19) (x := 0) (by decide +kernel) l97 (Or.inl (by decide +kernel)) ⟨_, rfl, l97, ?_⟩
  refine x_nI (t := 0) (mj := 82) (n := 1) (rc := 0) (ml := 1) (nr := 0) (np := 25) (as := [iv_c (h 2 (1 + u19))]) (rest := []) (lo1 := [iv_c (h 2 (1 + u19))]) (by decide +kernel) (by decide) (by decide +kernel) (Or.inl rfl) rfl rfl (x_wi l97 x_wn) x_wn (by decide) rfl ?_
  refine x_iload (np := 1) (x := 0) (by decide +kernel) rfl l97 ?_
  refine x_const (np := 3) (x := 9223372245160689712) (a := 2147483696) (by decide +kernel) (by decide) (by decide) ?_
  refine x_icmp (k := 2) (tg := 16) (np := 6) (by decide +kernel) (by decide) l97 (by decide) (fun q98 => ?_) (fun q99 => ?_)
  · have q98 : (h 2 (1 + u19)) < 2147483696 := q98
    refine x_const (np := 17) (x := 9223372039002259456) (a := 2147483648) (by decide +kernel) (by decide) (by decide) ?_
    refine x_retI (np := 18) (x := 0) (by decide +kernel) (by decide) (Or.inr ⟨by decide +kernel, by first | decide | omega, by first | decide | omega⟩) ⟨_, rfl, (by decide), ?_⟩
    refine x_ifz (k := 0) (tg := 54) (np := 28) (by decide +kernel) (by decide) (by decide) (fun q100 => ?_) (fun q101 => ?_)
    · have q100 : 2147483648 = 2147483648 := q100
      refine x_iload (np := 56) (x := 4) (by decide +kernel) rfl (by decide) ?_
      refine x_ifz (k := 0) (tg := 75) (np := 59) (by decide +kernel) (by decide) (by decide) (fun q102 => ?_) (fun q103 => ?_)
      · have q102 : 2147483649 = 2147483648 := q102
        exfalso; omega
      have q103 : ¬ (2147483649 = 2147483648) := q103
      refine x_iload (np := 61) (x := 4) (by decide +kernel) rfl (by decide) ?_
      refine x_const (np := 62) (x := 9223372051887161347) (a := 2147483651) (by decide +kernel) (by decide) (by decide) ?_
      refine x_icmp (k := 4) (tg := 75) (np := 65) (by decide +kernel) (by decide) (by decide) (by decide) (fun q104 => ?_) (fun q105 => ?_)
      · have q104 : 2147483651 < 2147483649 := q104
        exfalso; omega
      have q105 : ¬ (2147483651 < 2147483649) := q105
      refine x_iload (np := 66) (x := 3) (by decide +kernel) rfl (by first | decide | omega) ?_
      refine x_iload (np := 67) (x := 1) (by decide +kernel) rfl la1 ?_
      refine x_icmp (k := 2) (tg := 75) (np := 70) (by decide +kernel) (by decide) (by first | decide | omega) la1 (fun q106 => ?_) (fun q107 => ?_)
      · have q106 : v51 < a1 := q106
        refine x_const (np := 76) (x := 9223372034707292159) (a := 2147483647) (by decide +kernel) (by decide) (by decide) ?_
        have z108 := hT.1
        have z109 := Tp.at (p := (h 1 2 + 0)) (u := u19) hT (by first | decide | omega) (by first | decide | omega)
        have g110 : Dg tB tN (h 1 2 + 0) := ⟨by first | decide | omega, by first | decide | omega, by first | decide | omega⟩
        have z111 := hT.1
        have z112 := Tp.at (p := (h 1 2 + 1)) (u := (1 + u19)) hT (by first | decide | omega) (by first | decide | omega)
        have g113 : ¬ Dg tB tN (h 1 2 + 1) := fun z => by have z1 := z.1; have z2 := z.2.1; have z3 := z.2.2; omega
        have z114 := nv1 (B := tB) (p := h 1 2)
        refine x_retI (np := 77) (x := 0) (by decide +kernel) (by decide) (Or.inl (by decide +kernel)) ⟨_, rfl, (by decide), ?_⟩
        exact ⟨hJ, hF, (by first | decide | omega), (by first | decide | omega), (fun z => by first | decide | omega), (fun z => by first | decide | omega), (Nr.nor (by first | decide | omega) (Nu.mk1 g110 g113) (by first | decide | omega))⟩
      have q107 : ¬ (v51 < a1) := q107
      refine x_iload (np := 71) (x := 3) (by decide +kernel) rfl (by first | decide | omega) ?_
      refine x_iload (np := 72) (x := 2) (by decide +kernel) rfl la2 ?_
      refine x_icmp (k := 5) (tg := 77) (np := 75) (by decide +kernel) (by decide) (by first | decide | omega) la2 (fun q115 => ?_) (fun q116 => ?_)
      · have q115 : v51 ≤ a2 := q115
        refine x_aload (np := 78) (x := 0) (by decide +kernel) rfl (x_nc_le (by decide)) ?_
        refine x_aload (np := 79) (x := 0) (by decide +kernel) rfl (x_nc_le (by decide)) ?_
        refine x_getC (np := 82) (x := 450) (f := 2) (q := (h 1 2)) (by decide +kernel) (by decide) (by decide +kernel) rfl (fun l117 => ?_)
        refine x_iload (np := 84) (x := 4) (by decide +kernel) rfl (by decide) ?_
        refine x_iadd (np := 85) (x := 0) (v := (1 + (h 1 2))) (by decide +kernel) l4 (by decide) (by first | decide | omega) (by first | decide | omega) ?_
        refine x_cV (t := 6) (mj := 80) (n := 2) (rc := 8) (ml := 2) (nr := 0) (np := 88) (as := [x_r 1, iv_c (1 + (h 1 2))]) (rest := []) (lo1 := [x_r 1, iv_c (1 + (h 1 2))]) (by decide +kernel) (by decide) (by decide +kernel) (x_rb_of (by decide +kernel)) rfl rfl (x_wr (by decide) (x_wi (by first | decide | omega) x_wn)) x_wn (by decide) rfl (c80_1 hJ  (by first | decide | omega) hT) (fun h121 q120 => ?_)
        obtain ⟨j122, f123, c126, c127⟩ := q120
        have f128 := Fr.trans hF f123 (by decide)
        have b129 := jB (e := 2) 0 j122 rg_1_2_0_1 (by first | decide | omega) (by first | decide | omega)
        refine x_iload (np := 89) (x := 3) (by decide +kernel) rfl (by first | decide | omega) ?_
        have z130 := hT.1
        have z131 := Tp.at (p := (h 1 2 + 0)) (u := u19) hT (by first | decide | omega) (by first | decide | omega)
        have g132 : Dg tB tN (h 1 2 + 0) := ⟨by first | decide | omega, by first | decide | omega, by first | decide | omega⟩
        have z133 := hT.1
        have z134 := Tp.at (p := (h 1 2 + 1)) (u := (1 + u19)) hT (by first | decide | omega) (by first | decide | omega)
        have g135 : ¬ Dg tB tN (h 1 2 + 1) := fun z => by have z1 := z.1; have z2 := z.2.1; have z3 := z.2.2; omega
        have z136 := nv1 (B := tB) (p := h 1 2)
        refine x_retI (np := 90) (x := 0) (by decide +kernel) (by first | decide | omega) (Or.inl (by decide +kernel)) ⟨_, rfl, (by first | decide | omega), ?_⟩
        exact ⟨j122, f128, (by first | decide | omega), (by first | decide | omega), (fun z => by first | decide | omega), (fun z => by first | decide | omega), (Nr.yes (Nu.mk1 g132 g135) (by first | decide | omega) (by first | decide | omega) (by first | decide | omega) c127 (by first | decide | omega))⟩
      have q116 : ¬ (v51 ≤ a2) := q116
      exfalso; omega
    have q101 : ¬ (2147483648 = 2147483648) := q101
    exfalso; omega
  have q99 : ¬ ((h 2 (1 + u19)) < 2147483696) := q99
  refine x_iload (np := 7) (x := 0) (by decide +kernel) rfl l97 ?_
  refine x_const (np := 9) (x := 9223372283815395385) (a := 2147483705) (by decide +kernel) (by decide) (by decide) ?_
  refine x_icmp (k := 4) (tg := 16) (np := 12) (by decide +kernel) (by decide) l97 (by decide) (fun q137 => ?_) (fun q138 => ?_)
  · have q137 : 2147483705 < (h 2 (1 + u19)) := q137
    refine x_const (np := 17) (x := 9223372039002259456) (a := 2147483648) (by decide +kernel) (by decide) (by decide) ?_
    refine x_retI (np := 18) (x := 0) (by decide +kernel) (by decide) (Or.inr ⟨by decide +kernel, by first | decide | omega, by first | decide | omega⟩) ⟨_, rfl, (by decide), ?_⟩
    refine x_ifz (k := 0) (tg := 54) (np := 28) (by decide +kernel) (by decide) (by decide) (fun q139 => ?_) (fun q140 => ?_)
    · have q139 : 2147483648 = 2147483648 := q139
      refine x_iload (np := 56) (x := 4) (by decide +kernel) rfl (by decide) ?_
      refine x_ifz (k := 0) (tg := 75) (np := 59) (by decide +kernel) (by decide) (by decide) (fun q141 => ?_) (fun q142 => ?_)
      · have q141 : 2147483649 = 2147483648 := q141
        exfalso; omega
      have q142 : ¬ (2147483649 = 2147483648) := q142
      refine x_iload (np := 61) (x := 4) (by decide +kernel) rfl (by decide) ?_
      refine x_const (np := 62) (x := 9223372051887161347) (a := 2147483651) (by decide +kernel) (by decide) (by decide) ?_
      refine x_icmp (k := 4) (tg := 75) (np := 65) (by decide +kernel) (by decide) (by decide) (by decide) (fun q143 => ?_) (fun q144 => ?_)
      · have q143 : 2147483651 < 2147483649 := q143
        exfalso; omega
      have q144 : ¬ (2147483651 < 2147483649) := q144
      refine x_iload (np := 66) (x := 3) (by decide +kernel) rfl (by first | decide | omega) ?_
      refine x_iload (np := 67) (x := 1) (by decide +kernel) rfl la1 ?_
      refine x_icmp (k := 2) (tg := 75) (np := 70) (by decide +kernel) (by decide) (by first | decide | omega) la1 (fun q145 => ?_) (fun q146 => ?_)
      · have q145 : v51 < a1 := q145
        refine x_const (np := 76) (x := 9223372034707292159) (a := 2147483647) (by decide +kernel) (by decide) (by decide) ?_
        have z147 := hT.1
        have z148 := Tp.at (p := (h 1 2 + 0)) (u := u19) hT (by first | decide | omega) (by first | decide | omega)
        have g149 : Dg tB tN (h 1 2 + 0) := ⟨by first | decide | omega, by first | decide | omega, by first | decide | omega⟩
        have z150 := hT.1
        have z151 := Tp.at (p := (h 1 2 + 1)) (u := (1 + u19)) hT (by first | decide | omega) (by first | decide | omega)
        have g152 : ¬ Dg tB tN (h 1 2 + 1) := fun z => by have z1 := z.1; have z2 := z.2.1; have z3 := z.2.2; omega
        have z153 := nv1 (B := tB) (p := h 1 2)
        refine x_retI (np := 77) (x := 0) (by decide +kernel) (by decide) (Or.inl (by decide +kernel)) ⟨_, rfl, (by decide), ?_⟩
        exact ⟨hJ, hF, (by first | decide | omega), (by first | decide | omega), (fun z => by first | decide | omega), (fun z => by first | decide | omega), (Nr.nor (by first | decide | omega) (Nu.mk1 g149 g152) (by first | decide | omega))⟩
      have q146 : ¬ (v51 < a1) := q146
      refine x_iload (np := 71) (x := 3) (by decide +kernel) rfl (by first | decide | omega) ?_
      refine x_iload (np := 72) (x := 2) (by decide +kernel) rfl la2 ?_
      refine x_icmp (k := 5) (tg := 77) (np := 75) (by decide +kernel) (by decide) (by first | decide | omega) la2 (fun q154 => ?_) (fun q155 => ?_)
      · have q154 : v51 ≤ a2 := q154
        refine x_aload (np := 78) (x := 0) (by decide +kernel) rfl (x_nc_le (by decide)) ?_
        refine x_aload (np := 79) (x := 0) (by decide +kernel) rfl (x_nc_le (by decide)) ?_
        refine x_getC (np := 82) (x := 450) (f := 2) (q := (h 1 2)) (by decide +kernel) (by decide) (by decide +kernel) rfl (fun l156 => ?_)
        refine x_iload (np := 84) (x := 4) (by decide +kernel) rfl (by decide) ?_
        refine x_iadd (np := 85) (x := 0) (v := (1 + (h 1 2))) (by decide +kernel) l4 (by decide) (by first | decide | omega) (by first | decide | omega) ?_
        refine x_cV (t := 6) (mj := 80) (n := 2) (rc := 8) (ml := 2) (nr := 0) (np := 88) (as := [x_r 1, iv_c (1 + (h 1 2))]) (rest := []) (lo1 := [x_r 1, iv_c (1 + (h 1 2))]) (by decide +kernel) (by decide) (by decide +kernel) (x_rb_of (by decide +kernel)) rfl rfl (x_wr (by decide) (x_wi (by first | decide | omega) x_wn)) x_wn (by decide) rfl (c80_1 hJ  (by first | decide | omega) hT) (fun h160 q159 => ?_)
        obtain ⟨j161, f162, c165, c166⟩ := q159
        have f167 := Fr.trans hF f162 (by decide)
        have b168 := jB (e := 2) 0 j161 rg_1_2_0_1 (by first | decide | omega) (by first | decide | omega)
        refine x_iload (np := 89) (x := 3) (by decide +kernel) rfl (by first | decide | omega) ?_
        have z169 := hT.1
        have z170 := Tp.at (p := (h 1 2 + 0)) (u := u19) hT (by first | decide | omega) (by first | decide | omega)
        have g171 : Dg tB tN (h 1 2 + 0) := ⟨by first | decide | omega, by first | decide | omega, by first | decide | omega⟩
        have z172 := hT.1
        have z173 := Tp.at (p := (h 1 2 + 1)) (u := (1 + u19)) hT (by first | decide | omega) (by first | decide | omega)
        have g174 : ¬ Dg tB tN (h 1 2 + 1) := fun z => by have z1 := z.1; have z2 := z.2.1; have z3 := z.2.2; omega
        have z175 := nv1 (B := tB) (p := h 1 2)
        refine x_retI (np := 90) (x := 0) (by decide +kernel) (by first | decide | omega) (Or.inl (by decide +kernel)) ⟨_, rfl, (by first | decide | omega), ?_⟩
        exact ⟨j161, f167, (by first | decide | omega), (by first | decide | omega), (fun z => by first | decide | omega), (fun z => by first | decide | omega), (Nr.yes (Nu.mk1 g171 g174) (by first | decide | omega) (by first | decide | omega) (by first | decide | omega) c166 (by first | decide | omega))⟩
      have q155 : ¬ (v51 ≤ a2) := q155
      exfalso; omega
    have q140 : ¬ (2147483648 = 2147483648) := q140
    exfalso; omega
  have q138 : ¬ (2147483705 < (h 2 (1 + u19))) := q138
  refine x_const (np := 13) (x := 9223372043297226753) (a := 2147483649) (by decide +kernel) (by decide) (by decide) ?_
  refine x_goto (np := 16) (x := 17) (by decide +kernel) ?_
  refine x_retI (np := 18) (x := 0) (by decide +kernel) (by decide) (Or.inr ⟨by decide +kernel, by first | decide | omega, by first | decide | omega⟩) ⟨_, rfl, (by decide), ?_⟩
  refine x_ifz (k := 0) (tg := 54) (np := 28) (by decide +kernel) (by decide) (by decide) (fun q176 => ?_) (fun q177 => ?_)
  · have q176 : 2147483649 = 2147483648 := q176
    exfalso; omega
  have q177 : ¬ (2147483649 = 2147483648) := q177
  refine x_iload (np := 29) (x := 3) (by decide +kernel) rfl (by first | decide | omega) ?_
  refine x_const (np := 31) (x := 9223372081951932426) (a := 2147483658) (by decide +kernel) (by decide) (by decide) ?_
  obtain ⟨u178, q179⟩ : ∃ z, v51 = 2147483648 + z := ⟨v51 - 2147483648, by first | decide | omega⟩
  refine x_imul (np := 32) (x := 0) (i := u178) (j := 10) (v := (2147483648 + 10 * u178)) (by decide +kernel) (by first | decide | omega) (by first | decide | omega) (by first | decide | omega) (by first | decide | omega) (by first | decide | omega) (by decide) ?_
  refine x_aload (np := 33) (x := 0) (by decide +kernel) rfl (x_nc_le (by decide)) ?_
  refine x_aload (np := 34) (x := 0) (by decide +kernel) rfl (x_nc_le (by decide)) ?_
  refine x_getC (np := 37) (x := 450) (f := 2) (q := (h 1 2)) (by decide +kernel) (by decide) (by decide +kernel) rfl (fun l181 => ?_)
  refine x_iload (np := 39) (x := 4) (by decide +kernel) rfl (by decide) ?_
  refine x_iadd (np := 40) (x := 0) (v := (1 + (h 1 2))) (by decide +kernel) l4 (by decide) (by first | decide | omega) (by first | decide | omega) ?_
  refine x_nI (t := 6) (mj := 81) (n := 2) (rc := 8) (ml := 2) (nr := 1) (np := 43) (as := [x_r 1, iv_c (1 + (h 1 2))]) (rest := [iv_c (2147483648 + 10 * u178)]) (lo1 := [x_r 1, iv_c (1 + (h 1 2))]) (by decide +kernel) (by decide) (by decide +kernel) (x_rb_of (by decide +kernel)) rfl rfl (x_wr (by decide) (x_wi (by first | decide | omega) x_wn)) (x_wi (by first | decide | omega) x_wn) (by decide) rfl ?_
  refine x_iload (np := 1) (x := 1) (by decide +kernel) rfl (by first | decide | omega) ?_
  refine x_aload (np := 2) (x := 0) (by decide +kernel) rfl (x_nc_le (by decide)) ?_
  refine x_getC (np := 5) (x := 449) (f := 1) (q := (h 1 1)) (by decide +kernel) (by decide) (by decide +kernel) rfl (fun l182 => ?_)
  refine x_icmp (k := 3) (tg := 17) (np := 8) (by decide +kernel) (by decide) (by first | decide | omega) l6 (fun q183 => ?_) (fun q184 => ?_)
  · have q183 : (h 1 1) ≤ (1 + (h 1 2)) := q183
    exfalso; omega
  have q184 : ¬ ((h 1 1) ≤ (1 + (h 1 2))) := q184
  refine x_aload (np := 9) (x := 0) (by decide +kernel) rfl (x_nc_le (by decide)) ?_
  have q185 : h 1 0 = 2 := by have z := jB (e := 0) 0 hJ rg_1_0_0_1 (by decide) (by decide); omega
  refine x_getR (np := 12) (x := 448) (f := 0) (q := 2) (by decide +kernel) (by decide) (by decide +kernel) q185 ?_
  refine x_iload (np := 13) (x := 1) (by decide +kernel) rfl (by first | decide | omega) ?_
  refine x_aldC (np := 14) (x := 0) (n := 400) (i := (1 + u19)) (q := (h 2 (1 + u19))) (by decide +kernel) (by decide +kernel) (by first | decide | omega) (by first | decide | omega) (by decide) rfl (fun l186 => ?_)
  refine x_goto (np := 17) (x := 18) (by decide +kernel) ?_
  refine x_retI (np := 19) (x := 0) (by decide +kernel) l97 (Or.inl (by decide +kernel)) ⟨_, rfl, l97, ?_⟩
  refine x_iadd (np := 44) (x := 0) (v := (10 * u178 + (h 2 (1 + u19)))) (by decide +kernel) (by first | decide | omega) l97 (by first | decide | omega) (by first | decide | omega) ?_
  refine x_const (np := 46) (x := 9223372245160689712) (a := 2147483696) (by decide +kernel) (by decide) (by decide) ?_
  obtain ⟨v187, q188⟩ : ∃ z, z + 2147483696 = (10 * u178 + (h 2 (1 + u19))) + 2147483648 := ⟨(10 * u178 + (h 2 (1 + u19))) + 2147483648 - 2147483696, by first | decide | omega⟩
  refine x_isub (np := 47) (x := 0) (v := v187) (by decide +kernel) (by first | decide | omega) (by decide) (by first | decide | omega) (by first | decide | omega) ?_
  refine x_istore (np := 48) (x := 3) (lo' := [x_r 1, iv_c a1, iv_c a2, iv_c v187, iv_c 2147483649]) (by decide +kernel) (by first | decide | omega) (Nat.le_of_ble_eq_true rfl) rfl ?_
  refine x_iinc (np := 51) (i := 4) (j := 2147483649) (v := 2147483650) (lo' := [x_r 1, iv_c a1, iv_c a2, iv_c v187, iv_c 2147483650]) (by decide +kernel) (by decide) (by decide) rfl (by decide) (by first | decide | omega) (by first | decide | omega) rfl ?_
  refine x_goto (np := 54) (x := 5) (by decide +kernel) ?_
  refine x_iload (np := 7) (x := 4) (by decide +kernel) rfl (by decide) ?_
  refine x_const (np := 8) (x := 9223372051887161347) (a := 2147483651) (by decide +kernel) (by decide) (by decide) ?_
  refine x_icmp (k := 4) (tg := 54) (np := 11) (by decide +kernel) (by decide) (by decide) (by decide) (fun q189 => ?_) (fun q190 => ?_)
  · have q189 : 2147483651 < 2147483650 := q189
    exfalso; omega
  have q190 : ¬ (2147483651 < 2147483650) := q190
  refine x_aload (np := 12) (x := 0) (by decide +kernel) rfl (x_nc_le (by decide)) ?_
  refine x_aload (np := 13) (x := 0) (by decide +kernel) rfl (x_nc_le (by decide)) ?_
  refine x_getC (np := 16) (x := 450) (f := 2) (q := (h 1 2)) (by decide +kernel) (by decide) (by decide +kernel) rfl (fun l191 => ?_)
  refine x_iload (np := 18) (x := 4) (by decide +kernel) rfl (by decide) ?_
  refine x_iadd (np := 19) (x := 0) (v := (2 + (h 1 2))) (by decide +kernel) l4 (by decide) (by first | decide | omega) (by first | decide | omega) ?_
  refine x_nI (t := 6) (mj := 81) (n := 2) (rc := 8) (ml := 2) (nr := 0) (np := 22) (as := [x_r 1, iv_c (2 + (h 1 2))]) (rest := []) (lo1 := [x_r 1, iv_c (2 + (h 1 2))]) (by decide +kernel) (by decide) (by decide +kernel) (x_rb_of (by decide +kernel)) rfl rfl (x_wr (by decide) (x_wi (by first | decide | omega) x_wn)) x_wn (by decide) rfl ?_
  refine x_iload (np := 1) (x := 1) (by decide +kernel) rfl (by first | decide | omega) ?_
  refine x_aload (np := 2) (x := 0) (by decide +kernel) rfl (x_nc_le (by decide)) ?_
  refine x_getC (np := 5) (x := 449) (f := 1) (q := (h 1 1)) (by decide +kernel) (by decide) (by decide +kernel) rfl (fun l192 => ?_)
  refine x_icmp (k := 3) (tg := 17) (np := 8) (by decide +kernel) (by decide) (by first | decide | omega) l6 (fun q193 => ?_) (fun q194 => ?_)
  · have q193 : (h 1 1) ≤ (2 + (h 1 2)) := q193
    refine x_const (np := 18) (x := 9223372034707292159) (a := 2147483647) (by decide +kernel) (by decide) (by decide) ?_
    refine x_retI (np := 19) (x := 0) (by decide +kernel) (by decide) (Or.inl (by decide +kernel)) ⟨_, rfl, (by decide), ?_⟩
    refine x_nI (t := 0) (mj := 82) (n := 1) (rc := 0) (ml := 1) (nr := 0) (np := 25) (as := [iv_c 2147483647]) (rest := []) (lo1 := [iv_c 2147483647]) (by decide +kernel) (by decide) (by decide +kernel) (Or.inl rfl) rfl rfl (x_wi (by decide) x_wn) x_wn (by decide) rfl ?_
    refine x_iload (np := 1) (x := 0) (by decide +kernel) rfl (by decide) ?_
    refine x_const (np := 3) (x := 9223372245160689712) (a := 2147483696) (by decide +kernel) (by decide) (by decide) ?_
    refine x_icmp (k := 2) (tg := 16) (np := 6) (by decide +kernel) (by decide) (by decide) (by decide) (fun q195 => ?_) (fun q196 => ?_)
    · have q195 : 2147483647 < 2147483696 := q195
      refine x_const (np := 17) (x := 9223372039002259456) (a := 2147483648) (by decide +kernel) (by decide) (by decide) ?_
      refine x_retI (np := 18) (x := 0) (by decide +kernel) (by decide) (Or.inr ⟨by decide +kernel, by first | decide | omega, by first | decide | omega⟩) ⟨_, rfl, (by decide), ?_⟩
      refine x_ifz (k := 0) (tg := 54) (np := 28) (by decide +kernel) (by decide) (by decide) (fun q197 => ?_) (fun q198 => ?_)
      · have q197 : 2147483648 = 2147483648 := q197
        refine x_iload (np := 56) (x := 4) (by decide +kernel) rfl (by decide) ?_
        refine x_ifz (k := 0) (tg := 75) (np := 59) (by decide +kernel) (by decide) (by decide) (fun q199 => ?_) (fun q200 => ?_)
        · have q199 : 2147483650 = 2147483648 := q199
          exfalso; omega
        have q200 : ¬ (2147483650 = 2147483648) := q200
        refine x_iload (np := 61) (x := 4) (by decide +kernel) rfl (by decide) ?_
        refine x_const (np := 62) (x := 9223372051887161347) (a := 2147483651) (by decide +kernel) (by decide) (by decide) ?_
        refine x_icmp (k := 4) (tg := 75) (np := 65) (by decide +kernel) (by decide) (by decide) (by decide) (fun q201 => ?_) (fun q202 => ?_)
        · have q201 : 2147483651 < 2147483650 := q201
          exfalso; omega
        have q202 : ¬ (2147483651 < 2147483650) := q202
        refine x_iload (np := 66) (x := 3) (by decide +kernel) rfl (by first | decide | omega) ?_
        refine x_iload (np := 67) (x := 1) (by decide +kernel) rfl la1 ?_
        refine x_icmp (k := 2) (tg := 75) (np := 70) (by decide +kernel) (by decide) (by first | decide | omega) la1 (fun q203 => ?_) (fun q204 => ?_)
        · have q203 : v187 < a1 := q203
          refine x_const (np := 76) (x := 9223372034707292159) (a := 2147483647) (by decide +kernel) (by decide) (by decide) ?_
          have z205 := hT.1
          have z206 := Tp.at (p := (h 1 2 + 0)) (u := u19) hT (by first | decide | omega) (by first | decide | omega)
          have g207 : Dg tB tN (h 1 2 + 0) := ⟨by first | decide | omega, by first | decide | omega, by first | decide | omega⟩
          have z208 := Tp.at (p := (h 1 2 + 1)) (u := (1 + u19)) hT (by first | decide | omega) (by first | decide | omega)
          have g209 : Dg tB tN (h 1 2 + 1) := ⟨by first | decide | omega, by first | decide | omega, by first | decide | omega⟩
          have z210 := hT.1
          have g211 : ¬ Dg tB tN (h 1 2 + 2) := fun z => by have z1 := z.1; have z2 := z.2.1; have z3 := z.2.2; omega
          have z212 := nv2 (B := tB) (p := h 1 2)
          refine x_retI (np := 77) (x := 0) (by decide +kernel) (by decide) (Or.inl (by decide +kernel)) ⟨_, rfl, (by decide), ?_⟩
          exact ⟨hJ, hF, (by first | decide | omega), (by first | decide | omega), (fun z => by first | decide | omega), (fun z => by first | decide | omega), (Nr.nor (by first | decide | omega) (Nu.mk2 g207 g209 g211) (by first | decide | omega))⟩
        have q204 : ¬ (v187 < a1) := q204
        refine x_iload (np := 71) (x := 3) (by decide +kernel) rfl (by first | decide | omega) ?_
        refine x_iload (np := 72) (x := 2) (by decide +kernel) rfl la2 ?_
        refine x_icmp (k := 5) (tg := 77) (np := 75) (by decide +kernel) (by decide) (by first | decide | omega) la2 (fun q213 => ?_) (fun q214 => ?_)
        · have q213 : v187 ≤ a2 := q213
          refine x_aload (np := 78) (x := 0) (by decide +kernel) rfl (x_nc_le (by decide)) ?_
          refine x_aload (np := 79) (x := 0) (by decide +kernel) rfl (x_nc_le (by decide)) ?_
          refine x_getC (np := 82) (x := 450) (f := 2) (q := (h 1 2)) (by decide +kernel) (by decide) (by decide +kernel) rfl (fun l215 => ?_)
          refine x_iload (np := 84) (x := 4) (by decide +kernel) rfl (by decide) ?_
          refine x_iadd (np := 85) (x := 0) (v := (2 + (h 1 2))) (by decide +kernel) l4 (by decide) (by first | decide | omega) (by first | decide | omega) ?_
          refine x_cV (t := 6) (mj := 80) (n := 2) (rc := 8) (ml := 2) (nr := 0) (np := 88) (as := [x_r 1, iv_c (2 + (h 1 2))]) (rest := []) (lo1 := [x_r 1, iv_c (2 + (h 1 2))]) (by decide +kernel) (by decide) (by decide +kernel) (x_rb_of (by decide +kernel)) rfl rfl (x_wr (by decide) (x_wi (by first | decide | omega) x_wn)) x_wn (by decide) rfl (c80_1 hJ  (by first | decide | omega) hT) (fun h219 q218 => ?_)
          obtain ⟨j220, f221, c224, c225⟩ := q218
          have f226 := Fr.trans hF f221 (by decide)
          have b227 := jB (e := 2) 0 j220 rg_1_2_0_1 (by first | decide | omega) (by first | decide | omega)
          refine x_iload (np := 89) (x := 3) (by decide +kernel) rfl (by first | decide | omega) ?_
          have z228 := hT.1
          have z229 := Tp.at (p := (h 1 2 + 0)) (u := u19) hT (by first | decide | omega) (by first | decide | omega)
          have g230 : Dg tB tN (h 1 2 + 0) := ⟨by first | decide | omega, by first | decide | omega, by first | decide | omega⟩
          have z231 := Tp.at (p := (h 1 2 + 1)) (u := (1 + u19)) hT (by first | decide | omega) (by first | decide | omega)
          have g232 : Dg tB tN (h 1 2 + 1) := ⟨by first | decide | omega, by first | decide | omega, by first | decide | omega⟩
          have z233 := hT.1
          have g234 : ¬ Dg tB tN (h 1 2 + 2) := fun z => by have z1 := z.1; have z2 := z.2.1; have z3 := z.2.2; omega
          have z235 := nv2 (B := tB) (p := h 1 2)
          refine x_retI (np := 90) (x := 0) (by decide +kernel) (by first | decide | omega) (Or.inl (by decide +kernel)) ⟨_, rfl, (by first | decide | omega), ?_⟩
          exact ⟨j220, f226, (by first | decide | omega), (by first | decide | omega), (fun z => by first | decide | omega), (fun z => by first | decide | omega), (Nr.yes (Nu.mk2 g230 g232 g234) (by first | decide | omega) (by first | decide | omega) (by first | decide | omega) c225 (by first | decide | omega))⟩
        have q214 : ¬ (v187 ≤ a2) := q214
        refine x_const (np := 76) (x := 9223372034707292159) (a := 2147483647) (by decide +kernel) (by decide) (by decide) ?_
        have z236 := hT.1
        have z237 := Tp.at (p := (h 1 2 + 0)) (u := u19) hT (by first | decide | omega) (by first | decide | omega)
        have g238 : Dg tB tN (h 1 2 + 0) := ⟨by first | decide | omega, by first | decide | omega, by first | decide | omega⟩
        have z239 := Tp.at (p := (h 1 2 + 1)) (u := (1 + u19)) hT (by first | decide | omega) (by first | decide | omega)
        have g240 : Dg tB tN (h 1 2 + 1) := ⟨by first | decide | omega, by first | decide | omega, by first | decide | omega⟩
        have z241 := hT.1
        have g242 : ¬ Dg tB tN (h 1 2 + 2) := fun z => by have z1 := z.1; have z2 := z.2.1; have z3 := z.2.2; omega
        have z243 := nv2 (B := tB) (p := h 1 2)
        refine x_retI (np := 77) (x := 0) (by decide +kernel) (by decide) (Or.inl (by decide +kernel)) ⟨_, rfl, (by decide), ?_⟩
        exact ⟨hJ, hF, (by first | decide | omega), (by first | decide | omega), (fun z => by first | decide | omega), (fun z => by first | decide | omega), (Nr.nor (by first | decide | omega) (Nu.mk2 g238 g240 g242) (by first | decide | omega))⟩
      have q198 : ¬ (2147483648 = 2147483648) := q198
      exfalso; omega
    have q196 : ¬ (2147483647 < 2147483696) := q196
    exfalso; omega
  have q194 : ¬ ((h 1 1) ≤ (2 + (h 1 2))) := q194
  refine x_aload (np := 9) (x := 0) (by decide +kernel) rfl (x_nc_le (by decide)) ?_
  have q244 : h 1 0 = 2 := by have z := jB (e := 0) 0 hJ rg_1_0_0_1 (by decide) (by decide); omega
  refine x_getR (np := 12) (x := 448) (f := 0) (q := 2) (by decide +kernel) (by decide) (by decide +kernel) q244 ?_
  refine x_iload (np := 13) (x := 1) (by decide +kernel) rfl (by first | decide | omega) ?_
  refine x_aldC (np := 14) (x := 0) (n := 400) (i := (2 + u19)) (q := (h 2 (2 + u19))) (by decide +kernel) (by decide +kernel) (by first | decide | omega) (by first | decide | omega) (by decide) rfl (fun l245 => ?_)
  refine x_goto (np := 17) (x := 18) (by decide +kernel) ?_
  refine x_retI (np := 19) (x := 0) (by decide +kernel) l245 (Or.inl (by decide +kernel)) ⟨_, rfl, l245, ?_⟩
  refine x_nI (t := 0) (mj := 82) (n := 1) (rc := 0) (ml := 1) (nr := 0) (np := 25) (as := [iv_c (h 2 (2 + u19))]) (rest := []) (lo1 := [iv_c (h 2 (2 + u19))]) (by decide +kernel) (by decide) (by decide +kernel) (Or.inl rfl) rfl rfl (x_wi l245 x_wn) x_wn (by decide) rfl ?_
  refine x_iload (np := 1) (x := 0) (by decide +kernel) rfl l245 ?_
  refine x_const (np := 3) (x := 9223372245160689712) (a := 2147483696) (by decide +kernel) (by decide) (by decide) ?_
  refine x_icmp (k := 2) (tg := 16) (np := 6) (by decide +kernel) (by decide) l245 (by decide) (fun q246 => ?_) (fun q247 => ?_)
  · have q246 : (h 2 (2 + u19)) < 2147483696 := q246
    refine x_const (np := 17) (x := 9223372039002259456) (a := 2147483648) (by decide +kernel) (by decide) (by decide) ?_
    refine x_retI (np := 18) (x := 0) (by decide +kernel) (by decide) (Or.inr ⟨by decide +kernel, by first | decide | omega, by first | decide | omega⟩) ⟨_, rfl, (by decide), ?_⟩
    refine x_ifz (k := 0) (tg := 54) (np := 28) (by decide +kernel) (by decide) (by decide) (fun q248 => ?_) (fun q249 => ?_)
    · have q248 : 2147483648 = 2147483648 := q248
      refine x_iload (np := 56) (x := 4) (by decide +kernel) rfl (by decide) ?_
      refine x_ifz (k := 0) (tg := 75) (np := 59) (by decide +kernel) (by decide) (by decide) (fun q250 => ?_) (fun q251 => ?_)
      · have q250 : 2147483650 = 2147483648 := q250
        exfalso; omega
      have q251 : ¬ (2147483650 = 2147483648) := q251
      refine x_iload (np := 61) (x := 4) (by decide +kernel) rfl (by decide) ?_
      refine x_const (np := 62) (x := 9223372051887161347) (a := 2147483651) (by decide +kernel) (by decide) (by decide) ?_
      refine x_icmp (k := 4) (tg := 75) (np := 65) (by decide +kernel) (by decide) (by decide) (by decide) (fun q252 => ?_) (fun q253 => ?_)
      · have q252 : 2147483651 < 2147483650 := q252
        exfalso; omega
      have q253 : ¬ (2147483651 < 2147483650) := q253
      refine x_iload (np := 66) (x := 3) (by decide +kernel) rfl (by first | decide | omega) ?_
      refine x_iload (np := 67) (x := 1) (by decide +kernel) rfl la1 ?_
      refine x_icmp (k := 2) (tg := 75) (np := 70) (by decide +kernel) (by decide) (by first | decide | omega) la1 (fun q254 => ?_) (fun q255 => ?_)
      · have q254 : v187 < a1 := q254
        refine x_const (np := 76) (x := 9223372034707292159) (a := 2147483647) (by decide +kernel) (by decide) (by decide) ?_
        have z256 := hT.1
        have z257 := Tp.at (p := (h 1 2 + 0)) (u := u19) hT (by first | decide | omega) (by first | decide | omega)
        have g258 : Dg tB tN (h 1 2 + 0) := ⟨by first | decide | omega, by first | decide | omega, by first | decide | omega⟩
        have z259 := Tp.at (p := (h 1 2 + 1)) (u := (1 + u19)) hT (by first | decide | omega) (by first | decide | omega)
        have g260 : Dg tB tN (h 1 2 + 1) := ⟨by first | decide | omega, by first | decide | omega, by first | decide | omega⟩
        have z261 := hT.1
        have z262 := Tp.at (p := (h 1 2 + 2)) (u := (2 + u19)) hT (by first | decide | omega) (by first | decide | omega)
        have g263 : ¬ Dg tB tN (h 1 2 + 2) := fun z => by have z1 := z.1; have z2 := z.2.1; have z3 := z.2.2; omega
        have z264 := nv2 (B := tB) (p := h 1 2)
        refine x_retI (np := 77) (x := 0) (by decide +kernel) (by decide) (Or.inl (by decide +kernel)) ⟨_, rfl, (by decide), ?_⟩
        exact ⟨hJ, hF, (by first | decide | omega), (by first | decide | omega), (fun z => by first | decide | omega), (fun z => by first | decide | omega), (Nr.nor (by first | decide | omega) (Nu.mk2 g258 g260 g263) (by first | decide | omega))⟩
      have q255 : ¬ (v187 < a1) := q255
      refine x_iload (np := 71) (x := 3) (by decide +kernel) rfl (by first | decide | omega) ?_
      refine x_iload (np := 72) (x := 2) (by decide +kernel) rfl la2 ?_
      refine x_icmp (k := 5) (tg := 77) (np := 75) (by decide +kernel) (by decide) (by first | decide | omega) la2 (fun q265 => ?_) (fun q266 => ?_)
      · have q265 : v187 ≤ a2 := q265
        refine x_aload (np := 78) (x := 0) (by decide +kernel) rfl (x_nc_le (by decide)) ?_
        refine x_aload (np := 79) (x := 0) (by decide +kernel) rfl (x_nc_le (by decide)) ?_
        refine x_getC (np := 82) (x := 450) (f := 2) (q := (h 1 2)) (by decide +kernel) (by decide) (by decide +kernel) rfl (fun l267 => ?_)
        refine x_iload (np := 84) (x := 4) (by decide +kernel) rfl (by decide) ?_
        refine x_iadd (np := 85) (x := 0) (v := (2 + (h 1 2))) (by decide +kernel) l4 (by decide) (by first | decide | omega) (by first | decide | omega) ?_
        refine x_cV (t := 6) (mj := 80) (n := 2) (rc := 8) (ml := 2) (nr := 0) (np := 88) (as := [x_r 1, iv_c (2 + (h 1 2))]) (rest := []) (lo1 := [x_r 1, iv_c (2 + (h 1 2))]) (by decide +kernel) (by decide) (by decide +kernel) (x_rb_of (by decide +kernel)) rfl rfl (x_wr (by decide) (x_wi (by first | decide | omega) x_wn)) x_wn (by decide) rfl (c80_1 hJ  (by first | decide | omega) hT) (fun h271 q270 => ?_)
        obtain ⟨j272, f273, c276, c277⟩ := q270
        have f278 := Fr.trans hF f273 (by decide)
        have b279 := jB (e := 2) 0 j272 rg_1_2_0_1 (by first | decide | omega) (by first | decide | omega)
        refine x_iload (np := 89) (x := 3) (by decide +kernel) rfl (by first | decide | omega) ?_
        have z280 := hT.1
        have z281 := Tp.at (p := (h 1 2 + 0)) (u := u19) hT (by first | decide | omega) (by first | decide | omega)
        have g282 : Dg tB tN (h 1 2 + 0) := ⟨by first | decide | omega, by first | decide | omega, by first | decide | omega⟩
        have z283 := Tp.at (p := (h 1 2 + 1)) (u := (1 + u19)) hT (by first | decide | omega) (by first | decide | omega)
        have g284 : Dg tB tN (h 1 2 + 1) := ⟨by first | decide | omega, by first | decide | omega, by first | decide | omega⟩
        have z285 := hT.1
        have z286 := Tp.at (p := (h 1 2 + 2)) (u := (2 + u19)) hT (by first | decide | omega) (by first | decide | omega)
        have g287 : ¬ Dg tB tN (h 1 2 + 2) := fun z => by have z1 := z.1; have z2 := z.2.1; have z3 := z.2.2; omega
        have z288 := nv2 (B := tB) (p := h 1 2)
        refine x_retI (np := 90) (x := 0) (by decide +kernel) (by first | decide | omega) (Or.inl (by decide +kernel)) ⟨_, rfl, (by first | decide | omega), ?_⟩
        exact ⟨j272, f278, (by first | decide | omega), (by first | decide | omega), (fun z => by first | decide | omega), (fun z => by first | decide | omega), (Nr.yes (Nu.mk2 g282 g284 g287) (by first | decide | omega) (by first | decide | omega) (by first | decide | omega) c277 (by first | decide | omega))⟩
      have q266 : ¬ (v187 ≤ a2) := q266
      refine x_const (np := 76) (x := 9223372034707292159) (a := 2147483647) (by decide +kernel) (by decide) (by decide) ?_
      have z289 := hT.1
      have z290 := Tp.at (p := (h 1 2 + 0)) (u := u19) hT (by first | decide | omega) (by first | decide | omega)
      have g291 : Dg tB tN (h 1 2 + 0) := ⟨by first | decide | omega, by first | decide | omega, by first | decide | omega⟩
      have z292 := Tp.at (p := (h 1 2 + 1)) (u := (1 + u19)) hT (by first | decide | omega) (by first | decide | omega)
      have g293 : Dg tB tN (h 1 2 + 1) := ⟨by first | decide | omega, by first | decide | omega, by first | decide | omega⟩
      have z294 := hT.1
      have z295 := Tp.at (p := (h 1 2 + 2)) (u := (2 + u19)) hT (by first | decide | omega) (by first | decide | omega)
      have g296 : ¬ Dg tB tN (h 1 2 + 2) := fun z => by have z1 := z.1; have z2 := z.2.1; have z3 := z.2.2; omega
      have z297 := nv2 (B := tB) (p := h 1 2)
      refine x_retI (np := 77) (x := 0) (by decide +kernel) (by decide) (Or.inl (by decide +kernel)) ⟨_, rfl, (by decide), ?_⟩
      exact ⟨hJ, hF, (by first | decide | omega), (by first | decide | omega), (fun z => by first | decide | omega), (fun z => by first | decide | omega), (Nr.nor (by first | decide | omega) (Nu.mk2 g291 g293 g296) (by first | decide | omega))⟩
    have q249 : ¬ (2147483648 = 2147483648) := q249
    exfalso; omega
  have q247 : ¬ ((h 2 (2 + u19)) < 2147483696) := q247
  refine x_iload (np := 7) (x := 0) (by decide +kernel) rfl l245 ?_
  refine x_const (np := 9) (x := 9223372283815395385) (a := 2147483705) (by decide +kernel) (by decide) (by decide) ?_
  refine x_icmp (k := 4) (tg := 16) (np := 12) (by decide +kernel) (by decide) l245 (by decide) (fun q298 => ?_) (fun q299 => ?_)
  · have q298 : 2147483705 < (h 2 (2 + u19)) := q298
    refine x_const (np := 17) (x := 9223372039002259456) (a := 2147483648) (by decide +kernel) (by decide) (by decide) ?_
    refine x_retI (np := 18) (x := 0) (by decide +kernel) (by decide) (Or.inr ⟨by decide +kernel, by first | decide | omega, by first | decide | omega⟩) ⟨_, rfl, (by decide), ?_⟩
    refine x_ifz (k := 0) (tg := 54) (np := 28) (by decide +kernel) (by decide) (by decide) (fun q300 => ?_) (fun q301 => ?_)
    · have q300 : 2147483648 = 2147483648 := q300
      refine x_iload (np := 56) (x := 4) (by decide +kernel) rfl (by decide) ?_
      refine x_ifz (k := 0) (tg := 75) (np := 59) (by decide +kernel) (by decide) (by decide) (fun q302 => ?_) (fun q303 => ?_)
      · have q302 : 2147483650 = 2147483648 := q302
        exfalso; omega
      have q303 : ¬ (2147483650 = 2147483648) := q303
      refine x_iload (np := 61) (x := 4) (by decide +kernel) rfl (by decide) ?_
      refine x_const (np := 62) (x := 9223372051887161347) (a := 2147483651) (by decide +kernel) (by decide) (by decide) ?_
      refine x_icmp (k := 4) (tg := 75) (np := 65) (by decide +kernel) (by decide) (by decide) (by decide) (fun q304 => ?_) (fun q305 => ?_)
      · have q304 : 2147483651 < 2147483650 := q304
        exfalso; omega
      have q305 : ¬ (2147483651 < 2147483650) := q305
      refine x_iload (np := 66) (x := 3) (by decide +kernel) rfl (by first | decide | omega) ?_
      refine x_iload (np := 67) (x := 1) (by decide +kernel) rfl la1 ?_
      refine x_icmp (k := 2) (tg := 75) (np := 70) (by decide +kernel) (by decide) (by first | decide | omega) la1 (fun q306 => ?_) (fun q307 => ?_)
      · have q306 : v187 < a1 := q306
        refine x_const (np := 76) (x := 9223372034707292159) (a := 2147483647) (by decide +kernel) (by decide) (by decide) ?_
        have z308 := hT.1
        have z309 := Tp.at (p := (h 1 2 + 0)) (u := u19) hT (by first | decide | omega) (by first | decide | omega)
        have g310 : Dg tB tN (h 1 2 + 0) := ⟨by first | decide | omega, by first | decide | omega, by first | decide | omega⟩
        have z311 := Tp.at (p := (h 1 2 + 1)) (u := (1 + u19)) hT (by first | decide | omega) (by first | decide | omega)
        have g312 : Dg tB tN (h 1 2 + 1) := ⟨by first | decide | omega, by first | decide | omega, by first | decide | omega⟩
        have z313 := hT.1
        have z314 := Tp.at (p := (h 1 2 + 2)) (u := (2 + u19)) hT (by first | decide | omega) (by first | decide | omega)
        have g315 : ¬ Dg tB tN (h 1 2 + 2) := fun z => by have z1 := z.1; have z2 := z.2.1; have z3 := z.2.2; omega
        have z316 := nv2 (B := tB) (p := h 1 2)
        refine x_retI (np := 77) (x := 0) (by decide +kernel) (by decide) (Or.inl (by decide +kernel)) ⟨_, rfl, (by decide), ?_⟩
        exact ⟨hJ, hF, (by first | decide | omega), (by first | decide | omega), (fun z => by first | decide | omega), (fun z => by first | decide | omega), (Nr.nor (by first | decide | omega) (Nu.mk2 g310 g312 g315) (by first | decide | omega))⟩
      have q307 : ¬ (v187 < a1) := q307
      refine x_iload (np := 71) (x := 3) (by decide +kernel) rfl (by first | decide | omega) ?_
      refine x_iload (np := 72) (x := 2) (by decide +kernel) rfl la2 ?_
      refine x_icmp (k := 5) (tg := 77) (np := 75) (by decide +kernel) (by decide) (by first | decide | omega) la2 (fun q317 => ?_) (fun q318 => ?_)
      · have q317 : v187 ≤ a2 := q317
        refine x_aload (np := 78) (x := 0) (by decide +kernel) rfl (x_nc_le (by decide)) ?_
        refine x_aload (np := 79) (x := 0) (by decide +kernel) rfl (x_nc_le (by decide)) ?_
        refine x_getC (np := 82) (x := 450) (f := 2) (q := (h 1 2)) (by decide +kernel) (by decide) (by decide +kernel) rfl (fun l319 => ?_)
        refine x_iload (np := 84) (x := 4) (by decide +kernel) rfl (by decide) ?_
        refine x_iadd (np := 85) (x := 0) (v := (2 + (h 1 2))) (by decide +kernel) l4 (by decide) (by first | decide | omega) (by first | decide | omega) ?_
        refine x_cV (t := 6) (mj := 80) (n := 2) (rc := 8) (ml := 2) (nr := 0) (np := 88) (as := [x_r 1, iv_c (2 + (h 1 2))]) (rest := []) (lo1 := [x_r 1, iv_c (2 + (h 1 2))]) (by decide +kernel) (by decide) (by decide +kernel) (x_rb_of (by decide +kernel)) rfl rfl (x_wr (by decide) (x_wi (by first | decide | omega) x_wn)) x_wn (by decide) rfl (c80_1 hJ  (by first | decide | omega) hT) (fun h323 q322 => ?_)
        obtain ⟨j324, f325, c328, c329⟩ := q322
        have f330 := Fr.trans hF f325 (by decide)
        have b331 := jB (e := 2) 0 j324 rg_1_2_0_1 (by first | decide | omega) (by first | decide | omega)
        refine x_iload (np := 89) (x := 3) (by decide +kernel) rfl (by first | decide | omega) ?_
        have z332 := hT.1
        have z333 := Tp.at (p := (h 1 2 + 0)) (u := u19) hT (by first | decide | omega) (by first | decide | omega)
        have g334 : Dg tB tN (h 1 2 + 0) := ⟨by first | decide | omega, by first | decide | omega, by first | decide | omega⟩
        have z335 := Tp.at (p := (h 1 2 + 1)) (u := (1 + u19)) hT (by first | decide | omega) (by first | decide | omega)
        have g336 : Dg tB tN (h 1 2 + 1) := ⟨by first | decide | omega, by first | decide | omega, by first | decide | omega⟩
        have z337 := hT.1
        have z338 := Tp.at (p := (h 1 2 + 2)) (u := (2 + u19)) hT (by first | decide | omega) (by first | decide | omega)
        have g339 : ¬ Dg tB tN (h 1 2 + 2) := fun z => by have z1 := z.1; have z2 := z.2.1; have z3 := z.2.2; omega
        have z340 := nv2 (B := tB) (p := h 1 2)
        refine x_retI (np := 90) (x := 0) (by decide +kernel) (by first | decide | omega) (Or.inl (by decide +kernel)) ⟨_, rfl, (by first | decide | omega), ?_⟩
        exact ⟨j324, f330, (by first | decide | omega), (by first | decide | omega), (fun z => by first | decide | omega), (fun z => by first | decide | omega), (Nr.yes (Nu.mk2 g334 g336 g339) (by first | decide | omega) (by first | decide | omega) (by first | decide | omega) c329 (by first | decide | omega))⟩
      have q318 : ¬ (v187 ≤ a2) := q318
      refine x_const (np := 76) (x := 9223372034707292159) (a := 2147483647) (by decide +kernel) (by decide) (by decide) ?_
      have z341 := hT.1
      have z342 := Tp.at (p := (h 1 2 + 0)) (u := u19) hT (by first | decide | omega) (by first | decide | omega)
      have g343 : Dg tB tN (h 1 2 + 0) := ⟨by first | decide | omega, by first | decide | omega, by first | decide | omega⟩
      have z344 := Tp.at (p := (h 1 2 + 1)) (u := (1 + u19)) hT (by first | decide | omega) (by first | decide | omega)
      have g345 : Dg tB tN (h 1 2 + 1) := ⟨by first | decide | omega, by first | decide | omega, by first | decide | omega⟩
      have z346 := hT.1
      have z347 := Tp.at (p := (h 1 2 + 2)) (u := (2 + u19)) hT (by first | decide | omega) (by first | decide | omega)
      have g348 : ¬ Dg tB tN (h 1 2 + 2) := fun z => by have z1 := z.1; have z2 := z.2.1; have z3 := z.2.2; omega
      have z349 := nv2 (B := tB) (p := h 1 2)
      refine x_retI (np := 77) (x := 0) (by decide +kernel) (by decide) (Or.inl (by decide +kernel)) ⟨_, rfl, (by decide), ?_⟩
      exact ⟨hJ, hF, (by first | decide | omega), (by first | decide | omega), (fun z => by first | decide | omega), (fun z => by first | decide | omega), (Nr.nor (by first | decide | omega) (Nu.mk2 g343 g345 g348) (by first | decide | omega))⟩
    have q301 : ¬ (2147483648 = 2147483648) := q301
    exfalso; omega
  have q299 : ¬ (2147483705 < (h 2 (2 + u19))) := q299
  refine x_const (np := 13) (x := 9223372043297226753) (a := 2147483649) (by decide +kernel) (by decide) (by decide) ?_
  refine x_goto (np := 16) (x := 17) (by decide +kernel) ?_
  refine x_retI (np := 18) (x := 0) (by decide +kernel) (by decide) (Or.inr ⟨by decide +kernel, by first | decide | omega, by first | decide | omega⟩) ⟨_, rfl, (by decide), ?_⟩
  refine x_ifz (k := 0) (tg := 54) (np := 28) (by decide +kernel) (by decide) (by decide) (fun q350 => ?_) (fun q351 => ?_)
  · have q350 : 2147483649 = 2147483648 := q350
    exfalso; omega
  have q351 : ¬ (2147483649 = 2147483648) := q351
  refine x_iload (np := 29) (x := 3) (by decide +kernel) rfl (by first | decide | omega) ?_
  refine x_const (np := 31) (x := 9223372081951932426) (a := 2147483658) (by decide +kernel) (by decide) (by decide) ?_
  obtain ⟨u352, q353⟩ : ∃ z, v187 = 2147483648 + z := ⟨v187 - 2147483648, by first | decide | omega⟩
  refine x_imul (np := 32) (x := 0) (i := u352) (j := 10) (v := (2147483648 + 10 * u352)) (by decide +kernel) (by first | decide | omega) (by first | decide | omega) (by first | decide | omega) (by first | decide | omega) (by first | decide | omega) (by decide) ?_
  refine x_aload (np := 33) (x := 0) (by decide +kernel) rfl (x_nc_le (by decide)) ?_
  refine x_aload (np := 34) (x := 0) (by decide +kernel) rfl (x_nc_le (by decide)) ?_
  refine x_getC (np := 37) (x := 450) (f := 2) (q := (h 1 2)) (by decide +kernel) (by decide) (by decide +kernel) rfl (fun l355 => ?_)
  refine x_iload (np := 39) (x := 4) (by decide +kernel) rfl (by decide) ?_
  refine x_iadd (np := 40) (x := 0) (v := (2 + (h 1 2))) (by decide +kernel) l4 (by decide) (by first | decide | omega) (by first | decide | omega) ?_
  refine x_nI (t := 6) (mj := 81) (n := 2) (rc := 8) (ml := 2) (nr := 1) (np := 43) (as := [x_r 1, iv_c (2 + (h 1 2))]) (rest := [iv_c (2147483648 + 10 * u352)]) (lo1 := [x_r 1, iv_c (2 + (h 1 2))]) (by decide +kernel) (by decide) (by decide +kernel) (x_rb_of (by decide +kernel)) rfl rfl (x_wr (by decide) (x_wi (by first | decide | omega) x_wn)) (x_wi (by first | decide | omega) x_wn) (by decide) rfl ?_
  refine x_iload (np := 1) (x := 1) (by decide +kernel) rfl (by first | decide | omega) ?_
  refine x_aload (np := 2) (x := 0) (by decide +kernel) rfl (x_nc_le (by decide)) ?_
  refine x_getC (np := 5) (x := 449) (f := 1) (q := (h 1 1)) (by decide +kernel) (by decide) (by decide +kernel) rfl (fun l356 => ?_)
  refine x_icmp (k := 3) (tg := 17) (np := 8) (by decide +kernel) (by decide) (by first | decide | omega) l6 (fun q357 => ?_) (fun q358 => ?_)
  · have q357 : (h 1 1) ≤ (2 + (h 1 2)) := q357
    exfalso; omega
  have q358 : ¬ ((h 1 1) ≤ (2 + (h 1 2))) := q358
  refine x_aload (np := 9) (x := 0) (by decide +kernel) rfl (x_nc_le (by decide)) ?_
  have q359 : h 1 0 = 2 := by have z := jB (e := 0) 0 hJ rg_1_0_0_1 (by decide) (by decide); omega
  refine x_getR (np := 12) (x := 448) (f := 0) (q := 2) (by decide +kernel) (by decide) (by decide +kernel) q359 ?_
  refine x_iload (np := 13) (x := 1) (by decide +kernel) rfl (by first | decide | omega) ?_
  refine x_aldC (np := 14) (x := 0) (n := 400) (i := (2 + u19)) (q := (h 2 (2 + u19))) (by decide +kernel) (by decide +kernel) (by first | decide | omega) (by first | decide | omega) (by decide) rfl (fun l360 => ?_)
  refine x_goto (np := 17) (x := 18) (by decide +kernel) ?_
  refine x_retI (np := 19) (x := 0) (by decide +kernel) l245 (Or.inl (by decide +kernel)) ⟨_, rfl, l245, ?_⟩
  refine x_iadd (np := 44) (x := 0) (v := (10 * u352 + (h 2 (2 + u19)))) (by decide +kernel) (by first | decide | omega) l245 (by first | decide | omega) (by first | decide | omega) ?_
  refine x_const (np := 46) (x := 9223372245160689712) (a := 2147483696) (by decide +kernel) (by decide) (by decide) ?_
  obtain ⟨v361, q362⟩ : ∃ z, z + 2147483696 = (10 * u352 + (h 2 (2 + u19))) + 2147483648 := ⟨(10 * u352 + (h 2 (2 + u19))) + 2147483648 - 2147483696, by first | decide | omega⟩
  refine x_isub (np := 47) (x := 0) (v := v361) (by decide +kernel) (by first | decide | omega) (by decide) (by first | decide | omega) (by first | decide | omega) ?_
  refine x_istore (np := 48) (x := 3) (lo' := [x_r 1, iv_c a1, iv_c a2, iv_c v361, iv_c 2147483650]) (by decide +kernel) (by first | decide | omega) (Nat.le_of_ble_eq_true rfl) rfl ?_
  refine x_iinc (np := 51) (i := 4) (j := 2147483649) (v := 2147483651) (lo' := [x_r 1, iv_c a1, iv_c a2, iv_c v361, iv_c 2147483651]) (by decide +kernel) (by decide) (by decide) rfl (by decide) (by first | decide | omega) (by first | decide | omega) rfl ?_
  refine x_goto (np := 54) (x := 5) (by decide +kernel) ?_
  refine x_iload (np := 7) (x := 4) (by decide +kernel) rfl (by decide) ?_
  refine x_const (np := 8) (x := 9223372051887161347) (a := 2147483651) (by decide +kernel) (by decide) (by decide) ?_
  refine x_icmp (k := 4) (tg := 54) (np := 11) (by decide +kernel) (by decide) (by decide) (by decide) (fun q363 => ?_) (fun q364 => ?_)
  · have q363 : 2147483651 < 2147483651 := q363
    exfalso; omega
  have q364 : ¬ (2147483651 < 2147483651) := q364
  refine x_aload (np := 12) (x := 0) (by decide +kernel) rfl (x_nc_le (by decide)) ?_
  refine x_aload (np := 13) (x := 0) (by decide +kernel) rfl (x_nc_le (by decide)) ?_
  refine x_getC (np := 16) (x := 450) (f := 2) (q := (h 1 2)) (by decide +kernel) (by decide) (by decide +kernel) rfl (fun l365 => ?_)
  refine x_iload (np := 18) (x := 4) (by decide +kernel) rfl (by decide) ?_
  refine x_iadd (np := 19) (x := 0) (v := (3 + (h 1 2))) (by decide +kernel) l4 (by decide) (by first | decide | omega) (by first | decide | omega) ?_
  refine x_nI (t := 6) (mj := 81) (n := 2) (rc := 8) (ml := 2) (nr := 0) (np := 22) (as := [x_r 1, iv_c (3 + (h 1 2))]) (rest := []) (lo1 := [x_r 1, iv_c (3 + (h 1 2))]) (by decide +kernel) (by decide) (by decide +kernel) (x_rb_of (by decide +kernel)) rfl rfl (x_wr (by decide) (x_wi (by first | decide | omega) x_wn)) x_wn (by decide) rfl ?_
  refine x_iload (np := 1) (x := 1) (by decide +kernel) rfl (by first | decide | omega) ?_
  refine x_aload (np := 2) (x := 0) (by decide +kernel) rfl (x_nc_le (by decide)) ?_
  refine x_getC (np := 5) (x := 449) (f := 1) (q := (h 1 1)) (by decide +kernel) (by decide) (by decide +kernel) rfl (fun l366 => ?_)
  refine x_icmp (k := 3) (tg := 17) (np := 8) (by decide +kernel) (by decide) (by first | decide | omega) l6 (fun q367 => ?_) (fun q368 => ?_)
  · have q367 : (h 1 1) ≤ (3 + (h 1 2)) := q367
    refine x_const (np := 18) (x := 9223372034707292159) (a := 2147483647) (by decide +kernel) (by decide) (by decide) ?_
    refine x_retI (np := 19) (x := 0) (by decide +kernel) (by decide) (Or.inl (by decide +kernel)) ⟨_, rfl, (by decide), ?_⟩
    refine x_nI (t := 0) (mj := 82) (n := 1) (rc := 0) (ml := 1) (nr := 0) (np := 25) (as := [iv_c 2147483647]) (rest := []) (lo1 := [iv_c 2147483647]) (by decide +kernel) (by decide) (by decide +kernel) (Or.inl rfl) rfl rfl (x_wi (by decide) x_wn) x_wn (by decide) rfl ?_
    refine x_iload (np := 1) (x := 0) (by decide +kernel) rfl (by decide) ?_
    refine x_const (np := 3) (x := 9223372245160689712) (a := 2147483696) (by decide +kernel) (by decide) (by decide) ?_
    refine x_icmp (k := 2) (tg := 16) (np := 6) (by decide +kernel) (by decide) (by decide) (by decide) (fun q369 => ?_) (fun q370 => ?_)
    · have q369 : 2147483647 < 2147483696 := q369
      refine x_const (np := 17) (x := 9223372039002259456) (a := 2147483648) (by decide +kernel) (by decide) (by decide) ?_
      refine x_retI (np := 18) (x := 0) (by decide +kernel) (by decide) (Or.inr ⟨by decide +kernel, by first | decide | omega, by first | decide | omega⟩) ⟨_, rfl, (by decide), ?_⟩
      refine x_ifz (k := 0) (tg := 54) (np := 28) (by decide +kernel) (by decide) (by decide) (fun q371 => ?_) (fun q372 => ?_)
      · have q371 : 2147483648 = 2147483648 := q371
        refine x_iload (np := 56) (x := 4) (by decide +kernel) rfl (by decide) ?_
        refine x_ifz (k := 0) (tg := 75) (np := 59) (by decide +kernel) (by decide) (by decide) (fun q373 => ?_) (fun q374 => ?_)
        · have q373 : 2147483651 = 2147483648 := q373
          exfalso; omega
        have q374 : ¬ (2147483651 = 2147483648) := q374
        refine x_iload (np := 61) (x := 4) (by decide +kernel) rfl (by decide) ?_
        refine x_const (np := 62) (x := 9223372051887161347) (a := 2147483651) (by decide +kernel) (by decide) (by decide) ?_
        refine x_icmp (k := 4) (tg := 75) (np := 65) (by decide +kernel) (by decide) (by decide) (by decide) (fun q375 => ?_) (fun q376 => ?_)
        · have q375 : 2147483651 < 2147483651 := q375
          exfalso; omega
        have q376 : ¬ (2147483651 < 2147483651) := q376
        refine x_iload (np := 66) (x := 3) (by decide +kernel) rfl (by first | decide | omega) ?_
        refine x_iload (np := 67) (x := 1) (by decide +kernel) rfl la1 ?_
        refine x_icmp (k := 2) (tg := 75) (np := 70) (by decide +kernel) (by decide) (by first | decide | omega) la1 (fun q377 => ?_) (fun q378 => ?_)
        · have q377 : v361 < a1 := q377
          refine x_const (np := 76) (x := 9223372034707292159) (a := 2147483647) (by decide +kernel) (by decide) (by decide) ?_
          have z379 := hT.1
          have z380 := Tp.at (p := (h 1 2 + 0)) (u := u19) hT (by first | decide | omega) (by first | decide | omega)
          have g381 : Dg tB tN (h 1 2 + 0) := ⟨by first | decide | omega, by first | decide | omega, by first | decide | omega⟩
          have z382 := Tp.at (p := (h 1 2 + 1)) (u := (1 + u19)) hT (by first | decide | omega) (by first | decide | omega)
          have g383 : Dg tB tN (h 1 2 + 1) := ⟨by first | decide | omega, by first | decide | omega, by first | decide | omega⟩
          have z384 := Tp.at (p := (h 1 2 + 2)) (u := (2 + u19)) hT (by first | decide | omega) (by first | decide | omega)
          have g385 : Dg tB tN (h 1 2 + 2) := ⟨by first | decide | omega, by first | decide | omega, by first | decide | omega⟩
          have z386 := hT.1
          have g387 : ¬ Dg tB tN (h 1 2 + 3) := fun z => by have z1 := z.1; have z2 := z.2.1; have z3 := z.2.2; omega
          have z388 := nv3 (B := tB) (p := h 1 2)
          refine x_retI (np := 77) (x := 0) (by decide +kernel) (by decide) (Or.inl (by decide +kernel)) ⟨_, rfl, (by decide), ?_⟩
          exact ⟨hJ, hF, (by first | decide | omega), (by first | decide | omega), (fun z => by first | decide | omega), (fun z => by first | decide | omega), (Nr.nor (by first | decide | omega) (Nu.mk3 g381 g383 g385 g387) (by first | decide | omega))⟩
        have q378 : ¬ (v361 < a1) := q378
        refine x_iload (np := 71) (x := 3) (by decide +kernel) rfl (by first | decide | omega) ?_
        refine x_iload (np := 72) (x := 2) (by decide +kernel) rfl la2 ?_
        refine x_icmp (k := 5) (tg := 77) (np := 75) (by decide +kernel) (by decide) (by first | decide | omega) la2 (fun q389 => ?_) (fun q390 => ?_)
        · have q389 : v361 ≤ a2 := q389
          refine x_aload (np := 78) (x := 0) (by decide +kernel) rfl (x_nc_le (by decide)) ?_
          refine x_aload (np := 79) (x := 0) (by decide +kernel) rfl (x_nc_le (by decide)) ?_
          refine x_getC (np := 82) (x := 450) (f := 2) (q := (h 1 2)) (by decide +kernel) (by decide) (by decide +kernel) rfl (fun l391 => ?_)
          refine x_iload (np := 84) (x := 4) (by decide +kernel) rfl (by decide) ?_
          refine x_iadd (np := 85) (x := 0) (v := (3 + (h 1 2))) (by decide +kernel) l4 (by decide) (by first | decide | omega) (by first | decide | omega) ?_
          refine x_cV (t := 6) (mj := 80) (n := 2) (rc := 8) (ml := 2) (nr := 0) (np := 88) (as := [x_r 1, iv_c (3 + (h 1 2))]) (rest := []) (lo1 := [x_r 1, iv_c (3 + (h 1 2))]) (by decide +kernel) (by decide) (by decide +kernel) (x_rb_of (by decide +kernel)) rfl rfl (x_wr (by decide) (x_wi (by first | decide | omega) x_wn)) x_wn (by decide) rfl (c80_1 hJ  (by first | decide | omega) hT) (fun h395 q394 => ?_)
          obtain ⟨j396, f397, c400, c401⟩ := q394
          have f402 := Fr.trans hF f397 (by decide)
          have b403 := jB (e := 2) 0 j396 rg_1_2_0_1 (by first | decide | omega) (by first | decide | omega)
          refine x_iload (np := 89) (x := 3) (by decide +kernel) rfl (by first | decide | omega) ?_
          have z404 := hT.1
          have z405 := Tp.at (p := (h 1 2 + 0)) (u := u19) hT (by first | decide | omega) (by first | decide | omega)
          have g406 : Dg tB tN (h 1 2 + 0) := ⟨by first | decide | omega, by first | decide | omega, by first | decide | omega⟩
          have z407 := Tp.at (p := (h 1 2 + 1)) (u := (1 + u19)) hT (by first | decide | omega) (by first | decide | omega)
          have g408 : Dg tB tN (h 1 2 + 1) := ⟨by first | decide | omega, by first | decide | omega, by first | decide | omega⟩
          have z409 := Tp.at (p := (h 1 2 + 2)) (u := (2 + u19)) hT (by first | decide | omega) (by first | decide | omega)
          have g410 : Dg tB tN (h 1 2 + 2) := ⟨by first | decide | omega, by first | decide | omega, by first | decide | omega⟩
          have z411 := hT.1
          have g412 : ¬ Dg tB tN (h 1 2 + 3) := fun z => by have z1 := z.1; have z2 := z.2.1; have z3 := z.2.2; omega
          have z413 := nv3 (B := tB) (p := h 1 2)
          refine x_retI (np := 90) (x := 0) (by decide +kernel) (by first | decide | omega) (Or.inl (by decide +kernel)) ⟨_, rfl, (by first | decide | omega), ?_⟩
          exact ⟨j396, f402, (by first | decide | omega), (by first | decide | omega), (fun z => by first | decide | omega), (fun z => by first | decide | omega), (Nr.yes (Nu.mk3 g406 g408 g410 g412) (by first | decide | omega) (by first | decide | omega) (by first | decide | omega) c401 (by first | decide | omega))⟩
        have q390 : ¬ (v361 ≤ a2) := q390
        refine x_const (np := 76) (x := 9223372034707292159) (a := 2147483647) (by decide +kernel) (by decide) (by decide) ?_
        have z414 := hT.1
        have z415 := Tp.at (p := (h 1 2 + 0)) (u := u19) hT (by first | decide | omega) (by first | decide | omega)
        have g416 : Dg tB tN (h 1 2 + 0) := ⟨by first | decide | omega, by first | decide | omega, by first | decide | omega⟩
        have z417 := Tp.at (p := (h 1 2 + 1)) (u := (1 + u19)) hT (by first | decide | omega) (by first | decide | omega)
        have g418 : Dg tB tN (h 1 2 + 1) := ⟨by first | decide | omega, by first | decide | omega, by first | decide | omega⟩
        have z419 := Tp.at (p := (h 1 2 + 2)) (u := (2 + u19)) hT (by first | decide | omega) (by first | decide | omega)
        have g420 : Dg tB tN (h 1 2 + 2) := ⟨by first | decide | omega, by first | decide | omega, by first | decide | omega⟩
        have z421 := hT.1
        have g422 : ¬ Dg tB tN (h 1 2 + 3) := fun z => by have z1 := z.1; have z2 := z.2.1; have z3 := z.2.2; omega
        have z423 := nv3 (B := tB) (p := h 1 2)
        refine x_retI (np := 77) (x := 0) (by decide +kernel) (by decide) (Or.inl (by decide +kernel)) ⟨_, rfl, (by decide), ?_⟩
        exact ⟨hJ, hF, (by first | decide | omega), (by first | decide | omega), (fun z => by first | decide | omega), (fun z => by first | decide | omega), (Nr.nor (by first | decide | omega) (Nu.mk3 g416 g418 g420 g422) (by first | decide | omega))⟩
      have q372 : ¬ (2147483648 = 2147483648) := q372
      exfalso; omega
    have q370 : ¬ (2147483647 < 2147483696) := q370
    exfalso; omega
  have q368 : ¬ ((h 1 1) ≤ (3 + (h 1 2))) := q368
  refine x_aload (np := 9) (x := 0) (by decide +kernel) rfl (x_nc_le (by decide)) ?_
  have q424 : h 1 0 = 2 := by have z := jB (e := 0) 0 hJ rg_1_0_0_1 (by decide) (by decide); omega
  refine x_getR (np := 12) (x := 448) (f := 0) (q := 2) (by decide +kernel) (by decide) (by decide +kernel) q424 ?_
  refine x_iload (np := 13) (x := 1) (by decide +kernel) rfl (by first | decide | omega) ?_
  refine x_aldC (np := 14) (x := 0) (n := 400) (i := (3 + u19)) (q := (h 2 (3 + u19))) (by decide +kernel) (by decide +kernel) (by first | decide | omega) (by first | decide | omega) (by decide) rfl (fun l425 => ?_)
  refine x_goto (np := 17) (x := 18) (by decide +kernel) ?_
  refine x_retI (np := 19) (x := 0) (by decide +kernel) l425 (Or.inl (by decide +kernel)) ⟨_, rfl, l425, ?_⟩
  refine x_nI (t := 0) (mj := 82) (n := 1) (rc := 0) (ml := 1) (nr := 0) (np := 25) (as := [iv_c (h 2 (3 + u19))]) (rest := []) (lo1 := [iv_c (h 2 (3 + u19))]) (by decide +kernel) (by decide) (by decide +kernel) (Or.inl rfl) rfl rfl (x_wi l425 x_wn) x_wn (by decide) rfl ?_
  refine x_iload (np := 1) (x := 0) (by decide +kernel) rfl l425 ?_
  refine x_const (np := 3) (x := 9223372245160689712) (a := 2147483696) (by decide +kernel) (by decide) (by decide) ?_
  refine x_icmp (k := 2) (tg := 16) (np := 6) (by decide +kernel) (by decide) l425 (by decide) (fun q426 => ?_) (fun q427 => ?_)
  · have q426 : (h 2 (3 + u19)) < 2147483696 := q426
    refine x_const (np := 17) (x := 9223372039002259456) (a := 2147483648) (by decide +kernel) (by decide) (by decide) ?_
    refine x_retI (np := 18) (x := 0) (by decide +kernel) (by decide) (Or.inr ⟨by decide +kernel, by first | decide | omega, by first | decide | omega⟩) ⟨_, rfl, (by decide), ?_⟩
    refine x_ifz (k := 0) (tg := 54) (np := 28) (by decide +kernel) (by decide) (by decide) (fun q428 => ?_) (fun q429 => ?_)
    · have q428 : 2147483648 = 2147483648 := q428
      refine x_iload (np := 56) (x := 4) (by decide +kernel) rfl (by decide) ?_
      refine x_ifz (k := 0) (tg := 75) (np := 59) (by decide +kernel) (by decide) (by decide) (fun q430 => ?_) (fun q431 => ?_)
      · have q430 : 2147483651 = 2147483648 := q430
        exfalso; omega
      have q431 : ¬ (2147483651 = 2147483648) := q431
      refine x_iload (np := 61) (x := 4) (by decide +kernel) rfl (by decide) ?_
      refine x_const (np := 62) (x := 9223372051887161347) (a := 2147483651) (by decide +kernel) (by decide) (by decide) ?_
      refine x_icmp (k := 4) (tg := 75) (np := 65) (by decide +kernel) (by decide) (by decide) (by decide) (fun q432 => ?_) (fun q433 => ?_)
      · have q432 : 2147483651 < 2147483651 := q432
        exfalso; omega
      have q433 : ¬ (2147483651 < 2147483651) := q433
      refine x_iload (np := 66) (x := 3) (by decide +kernel) rfl (by first | decide | omega) ?_
      refine x_iload (np := 67) (x := 1) (by decide +kernel) rfl la1 ?_
      refine x_icmp (k := 2) (tg := 75) (np := 70) (by decide +kernel) (by decide) (by first | decide | omega) la1 (fun q434 => ?_) (fun q435 => ?_)
      · have q434 : v361 < a1 := q434
        refine x_const (np := 76) (x := 9223372034707292159) (a := 2147483647) (by decide +kernel) (by decide) (by decide) ?_
        have z436 := hT.1
        have z437 := Tp.at (p := (h 1 2 + 0)) (u := u19) hT (by first | decide | omega) (by first | decide | omega)
        have g438 : Dg tB tN (h 1 2 + 0) := ⟨by first | decide | omega, by first | decide | omega, by first | decide | omega⟩
        have z439 := Tp.at (p := (h 1 2 + 1)) (u := (1 + u19)) hT (by first | decide | omega) (by first | decide | omega)
        have g440 : Dg tB tN (h 1 2 + 1) := ⟨by first | decide | omega, by first | decide | omega, by first | decide | omega⟩
        have z441 := Tp.at (p := (h 1 2 + 2)) (u := (2 + u19)) hT (by first | decide | omega) (by first | decide | omega)
        have g442 : Dg tB tN (h 1 2 + 2) := ⟨by first | decide | omega, by first | decide | omega, by first | decide | omega⟩
        have z443 := hT.1
        have z444 := Tp.at (p := (h 1 2 + 3)) (u := (3 + u19)) hT (by first | decide | omega) (by first | decide | omega)
        have g445 : ¬ Dg tB tN (h 1 2 + 3) := fun z => by have z1 := z.1; have z2 := z.2.1; have z3 := z.2.2; omega
        have z446 := nv3 (B := tB) (p := h 1 2)
        refine x_retI (np := 77) (x := 0) (by decide +kernel) (by decide) (Or.inl (by decide +kernel)) ⟨_, rfl, (by decide), ?_⟩
        exact ⟨hJ, hF, (by first | decide | omega), (by first | decide | omega), (fun z => by first | decide | omega), (fun z => by first | decide | omega), (Nr.nor (by first | decide | omega) (Nu.mk3 g438 g440 g442 g445) (by first | decide | omega))⟩
      have q435 : ¬ (v361 < a1) := q435
      refine x_iload (np := 71) (x := 3) (by decide +kernel) rfl (by first | decide | omega) ?_
      refine x_iload (np := 72) (x := 2) (by decide +kernel) rfl la2 ?_
      refine x_icmp (k := 5) (tg := 77) (np := 75) (by decide +kernel) (by decide) (by first | decide | omega) la2 (fun q447 => ?_) (fun q448 => ?_)
      · have q447 : v361 ≤ a2 := q447
        refine x_aload (np := 78) (x := 0) (by decide +kernel) rfl (x_nc_le (by decide)) ?_
        refine x_aload (np := 79) (x := 0) (by decide +kernel) rfl (x_nc_le (by decide)) ?_
        refine x_getC (np := 82) (x := 450) (f := 2) (q := (h 1 2)) (by decide +kernel) (by decide) (by decide +kernel) rfl (fun l449 => ?_)
        refine x_iload (np := 84) (x := 4) (by decide +kernel) rfl (by decide) ?_
        refine x_iadd (np := 85) (x := 0) (v := (3 + (h 1 2))) (by decide +kernel) l4 (by decide) (by first | decide | omega) (by first | decide | omega) ?_
        refine x_cV (t := 6) (mj := 80) (n := 2) (rc := 8) (ml := 2) (nr := 0) (np := 88) (as := [x_r 1, iv_c (3 + (h 1 2))]) (rest := []) (lo1 := [x_r 1, iv_c (3 + (h 1 2))]) (by decide +kernel) (by decide) (by decide +kernel) (x_rb_of (by decide +kernel)) rfl rfl (x_wr (by decide) (x_wi (by first | decide | omega) x_wn)) x_wn (by decide) rfl (c80_1 hJ  (by first | decide | omega) hT) (fun h453 q452 => ?_)
        obtain ⟨j454, f455, c458, c459⟩ := q452
        have f460 := Fr.trans hF f455 (by decide)
        have b461 := jB (e := 2) 0 j454 rg_1_2_0_1 (by first | decide | omega) (by first | decide | omega)
        refine x_iload (np := 89) (x := 3) (by decide +kernel) rfl (by first | decide | omega) ?_
        have z462 := hT.1
        have z463 := Tp.at (p := (h 1 2 + 0)) (u := u19) hT (by first | decide | omega) (by first | decide | omega)
        have g464 : Dg tB tN (h 1 2 + 0) := ⟨by first | decide | omega, by first | decide | omega, by first | decide | omega⟩
        have z465 := Tp.at (p := (h 1 2 + 1)) (u := (1 + u19)) hT (by first | decide | omega) (by first | decide | omega)
        have g466 : Dg tB tN (h 1 2 + 1) := ⟨by first | decide | omega, by first | decide | omega, by first | decide | omega⟩
        have z467 := Tp.at (p := (h 1 2 + 2)) (u := (2 + u19)) hT (by first | decide | omega) (by first | decide | omega)
        have g468 : Dg tB tN (h 1 2 + 2) := ⟨by first | decide | omega, by first | decide | omega, by first | decide | omega⟩
        have z469 := hT.1
        have z470 := Tp.at (p := (h 1 2 + 3)) (u := (3 + u19)) hT (by first | decide | omega) (by first | decide | omega)
        have g471 : ¬ Dg tB tN (h 1 2 + 3) := fun z => by have z1 := z.1; have z2 := z.2.1; have z3 := z.2.2; omega
        have z472 := nv3 (B := tB) (p := h 1 2)
        refine x_retI (np := 90) (x := 0) (by decide +kernel) (by first | decide | omega) (Or.inl (by decide +kernel)) ⟨_, rfl, (by first | decide | omega), ?_⟩
        exact ⟨j454, f460, (by first | decide | omega), (by first | decide | omega), (fun z => by first | decide | omega), (fun z => by first | decide | omega), (Nr.yes (Nu.mk3 g464 g466 g468 g471) (by first | decide | omega) (by first | decide | omega) (by first | decide | omega) c459 (by first | decide | omega))⟩
      have q448 : ¬ (v361 ≤ a2) := q448
      refine x_const (np := 76) (x := 9223372034707292159) (a := 2147483647) (by decide +kernel) (by decide) (by decide) ?_
      have z473 := hT.1
      have z474 := Tp.at (p := (h 1 2 + 0)) (u := u19) hT (by first | decide | omega) (by first | decide | omega)
      have g475 : Dg tB tN (h 1 2 + 0) := ⟨by first | decide | omega, by first | decide | omega, by first | decide | omega⟩
      have z476 := Tp.at (p := (h 1 2 + 1)) (u := (1 + u19)) hT (by first | decide | omega) (by first | decide | omega)
      have g477 : Dg tB tN (h 1 2 + 1) := ⟨by first | decide | omega, by first | decide | omega, by first | decide | omega⟩
      have z478 := Tp.at (p := (h 1 2 + 2)) (u := (2 + u19)) hT (by first | decide | omega) (by first | decide | omega)
      have g479 : Dg tB tN (h 1 2 + 2) := ⟨by first | decide | omega, by first | decide | omega, by first | decide | omega⟩
      have z480 := hT.1
      have z481 := Tp.at (p := (h 1 2 + 3)) (u := (3 + u19)) hT (by first | decide | omega) (by first | decide | omega)
      have g482 : ¬ Dg tB tN (h 1 2 + 3) := fun z => by have z1 := z.1; have z2 := z.2.1; have z3 := z.2.2; omega
      have z483 := nv3 (B := tB) (p := h 1 2)
      refine x_retI (np := 77) (x := 0) (by decide +kernel) (by decide) (Or.inl (by decide +kernel)) ⟨_, rfl, (by decide), ?_⟩
      exact ⟨hJ, hF, (by first | decide | omega), (by first | decide | omega), (fun z => by first | decide | omega), (fun z => by first | decide | omega), (Nr.nor (by first | decide | omega) (Nu.mk3 g475 g477 g479 g482) (by first | decide | omega))⟩
    have q429 : ¬ (2147483648 = 2147483648) := q429
    exfalso; omega
  have q427 : ¬ ((h 2 (3 + u19)) < 2147483696) := q427
  refine x_iload (np := 7) (x := 0) (by decide +kernel) rfl l425 ?_
  refine x_const (np := 9) (x := 9223372283815395385) (a := 2147483705) (by decide +kernel) (by decide) (by decide) ?_
  refine x_icmp (k := 4) (tg := 16) (np := 12) (by decide +kernel) (by decide) l425 (by decide) (fun q484 => ?_) (fun q485 => ?_)
  · have q484 : 2147483705 < (h 2 (3 + u19)) := q484
    refine x_const (np := 17) (x := 9223372039002259456) (a := 2147483648) (by decide +kernel) (by decide) (by decide) ?_
    refine x_retI (np := 18) (x := 0) (by decide +kernel) (by decide) (Or.inr ⟨by decide +kernel, by first | decide | omega, by first | decide | omega⟩) ⟨_, rfl, (by decide), ?_⟩
    refine x_ifz (k := 0) (tg := 54) (np := 28) (by decide +kernel) (by decide) (by decide) (fun q486 => ?_) (fun q487 => ?_)
    · have q486 : 2147483648 = 2147483648 := q486
      refine x_iload (np := 56) (x := 4) (by decide +kernel) rfl (by decide) ?_
      refine x_ifz (k := 0) (tg := 75) (np := 59) (by decide +kernel) (by decide) (by decide) (fun q488 => ?_) (fun q489 => ?_)
      · have q488 : 2147483651 = 2147483648 := q488
        exfalso; omega
      have q489 : ¬ (2147483651 = 2147483648) := q489
      refine x_iload (np := 61) (x := 4) (by decide +kernel) rfl (by decide) ?_
      refine x_const (np := 62) (x := 9223372051887161347) (a := 2147483651) (by decide +kernel) (by decide) (by decide) ?_
      refine x_icmp (k := 4) (tg := 75) (np := 65) (by decide +kernel) (by decide) (by decide) (by decide) (fun q490 => ?_) (fun q491 => ?_)
      · have q490 : 2147483651 < 2147483651 := q490
        exfalso; omega
      have q491 : ¬ (2147483651 < 2147483651) := q491
      refine x_iload (np := 66) (x := 3) (by decide +kernel) rfl (by first | decide | omega) ?_
      refine x_iload (np := 67) (x := 1) (by decide +kernel) rfl la1 ?_
      refine x_icmp (k := 2) (tg := 75) (np := 70) (by decide +kernel) (by decide) (by first | decide | omega) la1 (fun q492 => ?_) (fun q493 => ?_)
      · have q492 : v361 < a1 := q492
        refine x_const (np := 76) (x := 9223372034707292159) (a := 2147483647) (by decide +kernel) (by decide) (by decide) ?_
        have z494 := hT.1
        have z495 := Tp.at (p := (h 1 2 + 0)) (u := u19) hT (by first | decide | omega) (by first | decide | omega)
        have g496 : Dg tB tN (h 1 2 + 0) := ⟨by first | decide | omega, by first | decide | omega, by first | decide | omega⟩
        have z497 := Tp.at (p := (h 1 2 + 1)) (u := (1 + u19)) hT (by first | decide | omega) (by first | decide | omega)
        have g498 : Dg tB tN (h 1 2 + 1) := ⟨by first | decide | omega, by first | decide | omega, by first | decide | omega⟩
        have z499 := Tp.at (p := (h 1 2 + 2)) (u := (2 + u19)) hT (by first | decide | omega) (by first | decide | omega)
        have g500 : Dg tB tN (h 1 2 + 2) := ⟨by first | decide | omega, by first | decide | omega, by first | decide | omega⟩
        have z501 := hT.1
        have z502 := Tp.at (p := (h 1 2 + 3)) (u := (3 + u19)) hT (by first | decide | omega) (by first | decide | omega)
        have g503 : ¬ Dg tB tN (h 1 2 + 3) := fun z => by have z1 := z.1; have z2 := z.2.1; have z3 := z.2.2; omega
        have z504 := nv3 (B := tB) (p := h 1 2)
        refine x_retI (np := 77) (x := 0) (by decide +kernel) (by decide) (Or.inl (by decide +kernel)) ⟨_, rfl, (by decide), ?_⟩
        exact ⟨hJ, hF, (by first | decide | omega), (by first | decide | omega), (fun z => by first | decide | omega), (fun z => by first | decide | omega), (Nr.nor (by first | decide | omega) (Nu.mk3 g496 g498 g500 g503) (by first | decide | omega))⟩
      have q493 : ¬ (v361 < a1) := q493
      refine x_iload (np := 71) (x := 3) (by decide +kernel) rfl (by first | decide | omega) ?_
      refine x_iload (np := 72) (x := 2) (by decide +kernel) rfl la2 ?_
      refine x_icmp (k := 5) (tg := 77) (np := 75) (by decide +kernel) (by decide) (by first | decide | omega) la2 (fun q505 => ?_) (fun q506 => ?_)
      · have q505 : v361 ≤ a2 := q505
        refine x_aload (np := 78) (x := 0) (by decide +kernel) rfl (x_nc_le (by decide)) ?_
        refine x_aload (np := 79) (x := 0) (by decide +kernel) rfl (x_nc_le (by decide)) ?_
        refine x_getC (np := 82) (x := 450) (f := 2) (q := (h 1 2)) (by decide +kernel) (by decide) (by decide +kernel) rfl (fun l507 => ?_)
        refine x_iload (np := 84) (x := 4) (by decide +kernel) rfl (by decide) ?_
        refine x_iadd (np := 85) (x := 0) (v := (3 + (h 1 2))) (by decide +kernel) l4 (by decide) (by first | decide | omega) (by first | decide | omega) ?_
        refine x_cV (t := 6) (mj := 80) (n := 2) (rc := 8) (ml := 2) (nr := 0) (np := 88) (as := [x_r 1, iv_c (3 + (h 1 2))]) (rest := []) (lo1 := [x_r 1, iv_c (3 + (h 1 2))]) (by decide +kernel) (by decide) (by decide +kernel) (x_rb_of (by decide +kernel)) rfl rfl (x_wr (by decide) (x_wi (by first | decide | omega) x_wn)) x_wn (by decide) rfl (c80_1 hJ  (by first | decide | omega) hT) (fun h511 q510 => ?_)
        obtain ⟨j512, f513, c516, c517⟩ := q510
        have f518 := Fr.trans hF f513 (by decide)
        have b519 := jB (e := 2) 0 j512 rg_1_2_0_1 (by first | decide | omega) (by first | decide | omega)
        refine x_iload (np := 89) (x := 3) (by decide +kernel) rfl (by first | decide | omega) ?_
        have z520 := hT.1
        have z521 := Tp.at (p := (h 1 2 + 0)) (u := u19) hT (by first | decide | omega) (by first | decide | omega)
        have g522 : Dg tB tN (h 1 2 + 0) := ⟨by first | decide | omega, by first | decide | omega, by first | decide | omega⟩
        have z523 := Tp.at (p := (h 1 2 + 1)) (u := (1 + u19)) hT (by first | decide | omega) (by first | decide | omega)
        have g524 : Dg tB tN (h 1 2 + 1) := ⟨by first | decide | omega, by first | decide | omega, by first | decide | omega⟩
        have z525 := Tp.at (p := (h 1 2 + 2)) (u := (2 + u19)) hT (by first | decide | omega) (by first | decide | omega)
        have g526 : Dg tB tN (h 1 2 + 2) := ⟨by first | decide | omega, by first | decide | omega, by first | decide | omega⟩
        have z527 := hT.1
        have z528 := Tp.at (p := (h 1 2 + 3)) (u := (3 + u19)) hT (by first | decide | omega) (by first | decide | omega)
        have g529 : ¬ Dg tB tN (h 1 2 + 3) := fun z => by have z1 := z.1; have z2 := z.2.1; have z3 := z.2.2; omega
        have z530 := nv3 (B := tB) (p := h 1 2)
        refine x_retI (np := 90) (x := 0) (by decide +kernel) (by first | decide | omega) (Or.inl (by decide +kernel)) ⟨_, rfl, (by first | decide | omega), ?_⟩
        exact ⟨j512, f518, (by first | decide | omega), (by first | decide | omega), (fun z => by first | decide | omega), (fun z => by first | decide | omega), (Nr.yes (Nu.mk3 g522 g524 g526 g529) (by first | decide | omega) (by first | decide | omega) (by first | decide | omega) c517 (by first | decide | omega))⟩
      have q506 : ¬ (v361 ≤ a2) := q506
      refine x_const (np := 76) (x := 9223372034707292159) (a := 2147483647) (by decide +kernel) (by decide) (by decide) ?_
      have z531 := hT.1
      have z532 := Tp.at (p := (h 1 2 + 0)) (u := u19) hT (by first | decide | omega) (by first | decide | omega)
      have g533 : Dg tB tN (h 1 2 + 0) := ⟨by first | decide | omega, by first | decide | omega, by first | decide | omega⟩
      have z534 := Tp.at (p := (h 1 2 + 1)) (u := (1 + u19)) hT (by first | decide | omega) (by first | decide | omega)
      have g535 : Dg tB tN (h 1 2 + 1) := ⟨by first | decide | omega, by first | decide | omega, by first | decide | omega⟩
      have z536 := Tp.at (p := (h 1 2 + 2)) (u := (2 + u19)) hT (by first | decide | omega) (by first | decide | omega)
      have g537 : Dg tB tN (h 1 2 + 2) := ⟨by first | decide | omega, by first | decide | omega, by first | decide | omega⟩
      have z538 := hT.1
      have z539 := Tp.at (p := (h 1 2 + 3)) (u := (3 + u19)) hT (by first | decide | omega) (by first | decide | omega)
      have g540 : ¬ Dg tB tN (h 1 2 + 3) := fun z => by have z1 := z.1; have z2 := z.2.1; have z3 := z.2.2; omega
      have z541 := nv3 (B := tB) (p := h 1 2)
      refine x_retI (np := 77) (x := 0) (by decide +kernel) (by decide) (Or.inl (by decide +kernel)) ⟨_, rfl, (by decide), ?_⟩
      exact ⟨hJ, hF, (by first | decide | omega), (by first | decide | omega), (fun z => by first | decide | omega), (fun z => by first | decide | omega), (Nr.nor (by first | decide | omega) (Nu.mk3 g533 g535 g537 g540) (by first | decide | omega))⟩
    have q487 : ¬ (2147483648 = 2147483648) := q487
    exfalso; omega
  have q485 : ¬ (2147483705 < (h 2 (3 + u19))) := q485
  refine x_const (np := 13) (x := 9223372043297226753) (a := 2147483649) (by decide +kernel) (by decide) (by decide) ?_
  refine x_goto (np := 16) (x := 17) (by decide +kernel) ?_
  refine x_retI (np := 18) (x := 0) (by decide +kernel) (by decide) (Or.inr ⟨by decide +kernel, by first | decide | omega, by first | decide | omega⟩) ⟨_, rfl, (by decide), ?_⟩
  refine x_ifz (k := 0) (tg := 54) (np := 28) (by decide +kernel) (by decide) (by decide) (fun q542 => ?_) (fun q543 => ?_)
  · have q542 : 2147483649 = 2147483648 := q542
    exfalso; omega
  have q543 : ¬ (2147483649 = 2147483648) := q543
  refine x_iload (np := 29) (x := 3) (by decide +kernel) rfl (by first | decide | omega) ?_
  refine x_const (np := 31) (x := 9223372081951932426) (a := 2147483658) (by decide +kernel) (by decide) (by decide) ?_
  obtain ⟨u544, q545⟩ : ∃ z, v361 = 2147483648 + z := ⟨v361 - 2147483648, by first | decide | omega⟩
  refine x_imul (np := 32) (x := 0) (i := u544) (j := 10) (v := (2147483648 + 10 * u544)) (by decide +kernel) (by first | decide | omega) (by first | decide | omega) (by first | decide | omega) (by first | decide | omega) (by first | decide | omega) (by decide) ?_
  refine x_aload (np := 33) (x := 0) (by decide +kernel) rfl (x_nc_le (by decide)) ?_
  refine x_aload (np := 34) (x := 0) (by decide +kernel) rfl (x_nc_le (by decide)) ?_
  refine x_getC (np := 37) (x := 450) (f := 2) (q := (h 1 2)) (by decide +kernel) (by decide) (by decide +kernel) rfl (fun l547 => ?_)
  refine x_iload (np := 39) (x := 4) (by decide +kernel) rfl (by decide) ?_
  refine x_iadd (np := 40) (x := 0) (v := (3 + (h 1 2))) (by decide +kernel) l4 (by decide) (by first | decide | omega) (by first | decide | omega) ?_
  refine x_nI (t := 6) (mj := 81) (n := 2) (rc := 8) (ml := 2) (nr := 1) (np := 43) (as := [x_r 1, iv_c (3 + (h 1 2))]) (rest := [iv_c (2147483648 + 10 * u544)]) (lo1 := [x_r 1, iv_c (3 + (h 1 2))]) (by decide +kernel) (by decide) (by decide +kernel) (x_rb_of (by decide +kernel)) rfl rfl (x_wr (by decide) (x_wi (by first | decide | omega) x_wn)) (x_wi (by first | decide | omega) x_wn) (by decide) rfl ?_
  refine x_iload (np := 1) (x := 1) (by decide +kernel) rfl (by first | decide | omega) ?_
  refine x_aload (np := 2) (x := 0) (by decide +kernel) rfl (x_nc_le (by decide)) ?_
  refine x_getC (np := 5) (x := 449) (f := 1) (q := (h 1 1)) (by decide +kernel) (by decide) (by decide +kernel) rfl (fun l548 => ?_)
  refine x_icmp (k := 3) (tg := 17) (np := 8) (by decide +kernel) (by decide) (by first | decide | omega) l6 (fun q549 => ?_) (fun q550 => ?_)
  · have q549 : (h 1 1) ≤ (3 + (h 1 2)) := q549
    exfalso; omega
  have q550 : ¬ ((h 1 1) ≤ (3 + (h 1 2))) := q550
  refine x_aload (np := 9) (x := 0) (by decide +kernel) rfl (x_nc_le (by decide)) ?_
  have q551 : h 1 0 = 2 := by have z := jB (e := 0) 0 hJ rg_1_0_0_1 (by decide) (by decide); omega
  refine x_getR (np := 12) (x := 448) (f := 0) (q := 2) (by decide +kernel) (by decide) (by decide +kernel) q551 ?_
  refine x_iload (np := 13) (x := 1) (by decide +kernel) rfl (by first | decide | omega) ?_
  refine x_aldC (np := 14) (x := 0) (n := 400) (i := (3 + u19)) (q := (h 2 (3 + u19))) (by decide +kernel) (by decide +kernel) (by first | decide | omega) (by first | decide | omega) (by decide) rfl (fun l552 => ?_)
  refine x_goto (np := 17) (x := 18) (by decide +kernel) ?_
  refine x_retI (np := 19) (x := 0) (by decide +kernel) l425 (Or.inl (by decide +kernel)) ⟨_, rfl, l425, ?_⟩
  refine x_iadd (np := 44) (x := 0) (v := (10 * u544 + (h 2 (3 + u19)))) (by decide +kernel) (by first | decide | omega) l425 (by first | decide | omega) (by first | decide | omega) ?_
  refine x_const (np := 46) (x := 9223372245160689712) (a := 2147483696) (by decide +kernel) (by decide) (by decide) ?_
  obtain ⟨v553, q554⟩ : ∃ z, z + 2147483696 = (10 * u544 + (h 2 (3 + u19))) + 2147483648 := ⟨(10 * u544 + (h 2 (3 + u19))) + 2147483648 - 2147483696, by first | decide | omega⟩
  refine x_isub (np := 47) (x := 0) (v := v553) (by decide +kernel) (by first | decide | omega) (by decide) (by first | decide | omega) (by first | decide | omega) ?_
  refine x_istore (np := 48) (x := 3) (lo' := [x_r 1, iv_c a1, iv_c a2, iv_c v553, iv_c 2147483651]) (by decide +kernel) (by first | decide | omega) (Nat.le_of_ble_eq_true rfl) rfl ?_
  refine x_iinc (np := 51) (i := 4) (j := 2147483649) (v := 2147483652) (lo' := [x_r 1, iv_c a1, iv_c a2, iv_c v553, iv_c 2147483652]) (by decide +kernel) (by decide) (by decide) rfl (by decide) (by first | decide | omega) (by first | decide | omega) rfl ?_
  refine x_goto (np := 54) (x := 5) (by decide +kernel) ?_
  refine x_iload (np := 7) (x := 4) (by decide +kernel) rfl (by decide) ?_
  refine x_const (np := 8) (x := 9223372051887161347) (a := 2147483651) (by decide +kernel) (by decide) (by decide) ?_
  refine x_icmp (k := 4) (tg := 54) (np := 11) (by decide +kernel) (by decide) (by decide) (by decide) (fun q555 => ?_) (fun q556 => ?_)
  · have q555 : 2147483651 < 2147483652 := q555
    refine x_iload (np := 56) (x := 4) (by decide +kernel) rfl (by decide) ?_
    refine x_ifz (k := 0) (tg := 75) (np := 59) (by decide +kernel) (by decide) (by decide) (fun q557 => ?_) (fun q558 => ?_)
    · have q557 : 2147483652 = 2147483648 := q557
      exfalso; omega
    have q558 : ¬ (2147483652 = 2147483648) := q558
    refine x_iload (np := 61) (x := 4) (by decide +kernel) rfl (by decide) ?_
    refine x_const (np := 62) (x := 9223372051887161347) (a := 2147483651) (by decide +kernel) (by decide) (by decide) ?_
    refine x_icmp (k := 4) (tg := 75) (np := 65) (by decide +kernel) (by decide) (by decide) (by decide) (fun q559 => ?_) (fun q560 => ?_)
    · have q559 : 2147483651 < 2147483652 := q559
      refine x_const (np := 76) (x := 9223372034707292159) (a := 2147483647) (by decide +kernel) (by decide) (by decide) ?_
      have z561 := hT.1
      have z562 := Tp.at (p := (h 1 2 + 0)) (u := u19) hT (by first | decide | omega) (by first | decide | omega)
      have g563 : Dg tB tN (h 1 2 + 0) := ⟨by first | decide | omega, by first | decide | omega, by first | decide | omega⟩
      have z564 := Tp.at (p := (h 1 2 + 1)) (u := (1 + u19)) hT (by first | decide | omega) (by first | decide | omega)
      have g565 : Dg tB tN (h 1 2 + 1) := ⟨by first | decide | omega, by first | decide | omega, by first | decide | omega⟩
      have z566 := Tp.at (p := (h 1 2 + 2)) (u := (2 + u19)) hT (by first | decide | omega) (by first | decide | omega)
      have g567 : Dg tB tN (h 1 2 + 2) := ⟨by first | decide | omega, by first | decide | omega, by first | decide | omega⟩
      have z568 := Tp.at (p := (h 1 2 + 3)) (u := (3 + u19)) hT (by first | decide | omega) (by first | decide | omega)
      have g569 : Dg tB tN (h 1 2 + 3) := ⟨by first | decide | omega, by first | decide | omega, by first | decide | omega⟩
      refine x_retI (np := 77) (x := 0) (by decide +kernel) (by decide) (Or.inl (by decide +kernel)) ⟨_, rfl, (by decide), ?_⟩
      exact ⟨hJ, hF, (by first | decide | omega), (by first | decide | omega), (fun z => by first | decide | omega), (fun z => by first | decide | omega), (Nr.nob (by first | decide | omega) (Nb.mk4 g563 g565 g567 g569))⟩
    have q560 : ¬ (2147483651 < 2147483652) := q560
    exfalso; omega
  have q556 : ¬ (2147483651 < 2147483652) := q556
  exfalso; omega
set_option maxHeartbeats 0 in
/-- LentNames$TownReader.readSighting()Z -/
theorem c100_61 {sc : Nat × Nat} {d  : Nat} {h : xh} {tB : Nat → Nat} {tN : Nat} (hJ : J h) (hr0 : (rv h 5) + 1 ≤ 2147483658) (hT : Tp tB tN h) : X sc 100 (d + 7) (xI fun r h' => J h' ∧ Fr 281474976710817 h h' ∧ (2147483648 ≤ r ∧ r ≤ 2147483649) ∧ (rv h' 0 = rv h 0) ∧ (rv h' 1 = rv h 1) ∧ (rv h' 2 = rv h 2) ∧ (rv h' 3 = rv h 3) ∧ (rv h' 4 = rv h 4) ∧ (r = 2147483649 → rv h' 5 = rv h 5 + 1) ∧ seen9 tB tN (rv h 0) (h 1 2) (rs r (h' 1 2)) ∧ Ot (h 61 1) h h' ∧ (r = 2147483648 → seenF tB tN (rv h 0) (h 1 2) (h' 1 2))) 0 0 0 [x_r 61, 147573952589676412928] [] h := by
  have hF := Fr.refl 281474976710817 h
  have t1 : tw (h 61 1) := hJ.2.2.2.2.1
  have b2 := jB (e := 2) 0 hJ (rg_T7_2_0_1 t1) (by first | decide | omega) (by first | decide | omega)
  have e3 : rv h 5 = (h ((h 61 1) + 7) 2) := (congrArg (fun z => svq h z 5) rfl).trans rfl
  refine x_aload (np := 1) (x := 0) (by decide +kernel) rfl (x_nc_le (by decide)) ?_
  refine x_getR (np := 4) (x := 577) (f := 1) (q := (h 61 1)) (by decide +kernel) (by decide) (by decide +kernel) rfl ?_
  have q4 : h (h 61 1) 3 = ((h 61 1) + 7) := tf_0_3 hJ t1
  refine x_getR (np := 7) (x := 515) (f := 3) (q := ((h 61 1) + 7)) (by decide +kernel) (by decide) (tg_0_515_3_1 t1) q4 ?_
  refine x_cI (t := 6) (mj := 67) (n := 1) (rc := 7) (ml := 2) (nr := 0) (np := 10) (as := [x_r ((h 61 1) + 7)]) (rest := []) (lo1 := [x_r ((h 61 1) + 7), 147573952589676412928]) (by decide +kernel) (by decide) (by decide +kernel) (x_rb_of (tr_7_7 t1)) rfl rfl (x_wr (tn_7 t1) x_wn) x_wn (by decide) rfl (c67_T7 hJ t1 (by first | decide | omega)) (fun v5 h8 l6 q7 => ?_)
  obtain ⟨j9, f10, b11, c12, c13, c14, c15, c16, c17, c18, c19⟩ := q7
  have f20 := Fr.trans hF f10 (by decide)
  have b21 := jB (e := 7) 0 hJ (rg_T0_7_0_1 t1) (by first | decide | omega) (by first | decide | omega)
  have b22 := jB (e := 7) 0 j9 (rg_T0_7_0_1 t1) (by first | decide | omega) (by first | decide | omega)
  have b23 := jB (e := 2) 0 hJ (rg_T1_2_0_1 t1) (by first | decide | omega) (by first | decide | omega)
  have b24 := jB (e := 2) 0 j9 (rg_T1_2_0_1 t1) (by first | decide | omega) (by first | decide | omega)
  have b25 := jB (e := 2) 0 hJ (rg_T3_2_0_1 t1) (by first | decide | omega) (by first | decide | omega)
  have b26 := jB (e := 2) 0 j9 (rg_T3_2_0_1 t1) (by first | decide | omega) (by first | decide | omega)
  have b27 := jB (e := 2) 0 hJ (rg_T5_2_0_1 t1) (by first | decide | omega) (by first | decide | omega)
  have b28 := jB (e := 2) 0 j9 (rg_T5_2_0_1 t1) (by first | decide | omega) (by first | decide | omega)
  have b29 := jB (e := 2) 0 j9 (rg_T7_2_0_1 t1) (by first | decide | omega) (by first | decide | omega)
  refine x_istore (np := 11) (x := 1) (lo' := [x_r 61, iv_c v5]) (by decide +kernel) l6 (Nat.le_of_ble_eq_true rfl) rfl ?_
  refine x_aload (np := 12) (x := 0) (by decide +kernel) rfl (x_nc_le (by decide)) ?_
  refine x_aload (np := 13) (x := 0) (by decide +kernel) rfl (x_nc_le (by decide)) ?_
  have q30 : h8 61 1 = h 61 1 := f10 61 1 (by decide +kernel)
  refine x_getR (np := 16) (x := 577) (f := 1) (q := (h 61 1)) (by decide +kernel) (by decide) (by decide +kernel) q30 ?_
  have q31 : h8 (h 61 1) 3 = ((h 61 1) + 7) := tf_0_3 j9 t1
  refine x_getR (np := 19) (x := 515) (f := 3) (q := ((h 61 1) + 7)) (by decide +kernel) (by decide) (tg_0_515_3_1 t1) q31 ?_
  refine x_iload (np := 20) (x := 1) (by decide +kernel) rfl l6 ?_
  refine x_const (np := 21) (x := 9223372039002259456) (a := 2147483648) (by decide +kernel) (by decide) (by decide) ?_
  refine x_const (np := 22) (x := 9223372039002259456) (a := 2147483648) (by decide +kernel) (by decide) (by decide) ?_
  refine x_aload (np := 23) (x := 0) (by decide +kernel) rfl (x_nc_le (by decide)) ?_
  have q32 : h8 61 1 = h 61 1 := f10 61 1 (by decide +kernel)
  refine x_getR (np := 26) (x := 577) (f := 1) (q := (h 61 1)) (by decide +kernel) (by decide) (by decide +kernel) q32 ?_
  refine x_getC (np := 29) (x := 519) (f := 7) (q := (h8 (h 61 1) 7)) (by decide +kernel) (by decide) (tg_0_519_7_0 t1) rfl (fun l33 => ?_)
  refine x_const (np := 30) (x := 9223372043297226753) (a := 2147483649) (by decide +kernel) (by decide) (by decide) ?_
  obtain ⟨v34, q35⟩ : ∃ z, z + 2147483649 = (h8 (h 61 1) 7) + 2147483648 := ⟨(h8 (h 61 1) 7) + 2147483648 - 2147483649, by first | decide | omega⟩
  refine x_isub (np := 31) (x := 0) (v := v34) (by decide +kernel) l33 (by decide) (by first | decide | omega) (by first | decide | omega) ?_
  refine x_nI (t := 6) (mj := 102) (n := 6) (rc := 10) (ml := 7) (nr := 0) (np := 34) (as := [x_r 61, x_r ((h 61 1) + 7), iv_c v5, iv_c 2147483648, iv_c 2147483648, iv_c v34]) (rest := []) (lo1 := [x_r 61, x_r ((h 61 1) + 7), iv_c v5, iv_c 2147483648, iv_c 2147483648, iv_c v34, 147573952589676412928]) (by decide +kernel) (by decide) (by decide +kernel) (x_rb_of (by decide +kernel)) rfl rfl (x_wr (by decide) (x_wr (tn_7 t1) (x_wi l6 (x_wi (by decide) (x_wi (by decide) (x_wi (by first | decide | omega) x_wn)))))) x_wn (by decide) rfl ?_
  refine x_aload (np := 1) (x := 0) (by decide +kernel) rfl (x_nc_le (by decide)) ?_
  have q36 : h8 61 0 = 1 := by have z := jB (e := 0) 0 j9 rg_61_0_0_1 (by decide) (by decide); omega
  refine x_getR (np := 4) (x := 576) (f := 0) (q := 1) (by decide +kernel) (by decide) (by decide +kernel) q36 ?_
  refine x_iload (np := 6) (x := 4) (by decide +kernel) rfl (by decide) ?_
  refine x_iload (np := 8) (x := 5) (by decide +kernel) rfl (by first | decide | omega) ?_
  have m40 := Tp.fr hT f10 (by decide) (by decide)
  refine x_cI (t := 6) (mj := 79) (n := 3) (rc := 8) (ml := 5) (nr := 0) (np := 11) (as := [x_r 1, iv_c 2147483648, iv_c v34]) (rest := []) (lo1 := [x_r 1, iv_c 2147483648, iv_c v34, 147573952589676412928, 147573952589676412928]) (by decide +kernel) (by decide) (by decide +kernel) (x_rb_of (by decide +kernel)) rfl rfl (x_wr (by decide) (x_wi (by decide) (x_wi (by first | decide | omega) x_wn))) x_wn (by decide) rfl (c79_1_c0 j9   (by first | decide | omega) m40) (fun v37 h41 l38 q39 => ?_)
  obtain ⟨j42, f43, b44, c45, c46, c47, c48⟩ := q39
  have f49 := Fr.trans f20 f43 (by decide)
  have q50 : h8 1 2 = h 1 2 := jK 0 f10 rg_1_2_0_1 (by first | decide | omega) (by first | decide | omega) (by decide)
  have b51 := jB (e := 2) 0 hJ rg_1_2_0_1 (by first | decide | omega) (by first | decide | omega)
  have b52 := jB (e := 2) 0 j42 rg_1_2_0_1 (by first | decide | omega) (by first | decide | omega)
  have q53 : h8 1 2 = h 1 2 := jK 0 f10 rg_1_2_0_1 (by first | decide | omega) (by first | decide | omega) (by decide)
  refine x_istore (np := 13) (x := 6) (lo' := [x_r 61, x_r ((h 61 1) + 7), iv_c v5, iv_c 2147483648, iv_c 2147483648, iv_c v34, iv_c v37]) (by decide +kernel) l38 (Nat.le_of_ble_eq_true rfl) rfl ?_
  refine x_iload (np := 15) (x := 6) (by decide +kernel) rfl l38 ?_
  refine x_const (np := 16) (x := 9223372034707292159) (a := 2147483647) (by decide +kernel) (by decide) (by decide) ?_
  refine x_icmp (k := 1) (tg := 21) (np := 19) (by decide +kernel) (by decide) l38 (by decide) (fun q54 => ?_) (fun q55 => ?_)
  · have q54 : v37 ≠ 2147483647 := q54
    have b56 := c46 (by first | decide | omega)
    refine x_aload (np := 22) (x := 1) (by decide +kernel) rfl (x_nc_le (tn_7 t1)) ?_
    refine x_iload (np := 23) (x := 2) (by decide +kernel) rfl l6 ?_
    refine x_iload (np := 24) (x := 3) (by decide +kernel) rfl (by decide) ?_
    refine x_iload (np := 26) (x := 6) (by decide +kernel) rfl l38 ?_
    refine x_nV (t := 6) (mj := 69) (n := 4) (rc := 7) (ml := 5) (nr := 0) (np := 29) (as := [x_r ((h 61 1) + 7), iv_c v5, iv_c 2147483648, iv_c v37]) (rest := []) (lo1 := [x_r ((h 61 1) + 7), iv_c v5, iv_c 2147483648, iv_c v37, 147573952589676412928]) (by decide +kernel) (by decide) (by decide +kernel) (x_rb_of (tr_7_7 t1)) rfl rfl (x_wr (tn_7 t1) (x_wi l6 (x_wi (by decide) (x_wi l38 x_wn)))) x_wn (by decide) rfl ?_
    refine x_iload (np := 1) (x := 1) (by decide +kernel) rfl l6 ?_
    refine x_ifz (k := 2) (tg := 28) (np := 4) (by decide +kernel) (by decide) l6 (fun q57 => ?_) (fun q58 => ?_)
    · have q57 : v5 < 2147483648 := q57
      exfalso; omega
    have q58 : ¬ (v5 < 2147483648) := q58
    refine x_iload (np := 5) (x := 1) (by decide +kernel) rfl l6 ?_
    refine x_aload (np := 6) (x := 0) (by decide +kernel) rfl (x_nc_le (tn_7 t1)) ?_
    have q59 : h41 ((h 61 1) + 7) 2 = h8 ((h 61 1) + 7) 2 := jK 0 f43 (rg_T7_2_0_1 t1) (by first | decide | omega) (by first | decide | omega) (by decide)
    refine x_getC (np := 9) (x := 386) (f := 2) (q := (h8 ((h 61 1) + 7) 2)) (by decide +kernel) (by decide) (tg_7_386_2_0 t1) q59 (fun l60 => ?_)
    refine x_icmp (k := 3) (tg := 28) (np := 12) (by decide +kernel) (by decide) l6 l60 (fun q61 => ?_) (fun q62 => ?_)
    · have q61 : (h8 ((h 61 1) + 7) 2) ≤ v5 := q61
      exfalso; omega
    have q62 : ¬ ((h8 ((h 61 1) + 7) 2) ≤ v5) := q62
    refine x_iload (np := 13) (x := 2) (by decide +kernel) rfl (by decide) ?_
    refine x_ifz (k := 2) (tg := 28) (np := 16) (by decide +kernel) (by decide) (by decide) (fun q63 => ?_) (fun q64 => ?_)
    · have q63 : 2147483648 < 2147483648 := q63
      exfalso; omega
    have q64 : ¬ (2147483648 < 2147483648) := q64
    refine x_iload (np := 17) (x := 2) (by decide +kernel) rfl (by decide) ?_
    refine x_aload (np := 18) (x := 0) (by decide +kernel) rfl (x_nc_le (tn_7 t1)) ?_
    have q65 : h41 ((h 61 1) + 7) 0 = h8 ((h 61 1) + 7) 0 := jK 0 f43 (rg_T7_0_0_1 t1) (by first | decide | omega) (by first | decide | omega) (by decide)
    have b66 := jB (e := 0) 0 j9 (rg_T7_0_0_1 t1) (by first | decide | omega) (by first | decide | omega)
    have q67 : (h8 ((h 61 1) + 7) 0) = 2147483652 := by first | decide | omega
    refine x_getC (np := 21) (x := 384) (f := 0) (q := 2147483652) (by decide +kernel) (by decide) (tg_7_384_0_0 t1) (q65.trans q67) (fun l68 => ?_)
    refine x_icmp (k := 3) (tg := 28) (np := 24) (by decide +kernel) (by decide) (by decide) (by decide) (fun q69 => ?_) (fun q70 => ?_)
    · have q69 : 2147483652 ≤ 2147483648 := q69
      exfalso; omega
    have q70 : ¬ (2147483652 ≤ 2147483648) := q70
    refine x_const (np := 25) (x := 9223372043297226753) (a := 2147483649) (by decide +kernel) (by decide) (by decide) ?_
    refine x_goto (np := 28) (x := 29) (by decide +kernel) ?_
    refine x_istore (np := 31) (x := 4) (lo' := [x_r ((h 61 1) + 7), iv_c v5, iv_c 2147483648, iv_c v37, iv_c 2147483649]) (by decide +kernel) (by decide) (Nat.le_of_ble_eq_true rfl) rfl ?_
    refine x_iload (np := 33) (x := 4) (by decide +kernel) rfl (by decide) ?_
    refine x_ifz (k := 0) (tg := 50) (np := 36) (by decide +kernel) (by decide) (by decide) (fun q71 => ?_) (fun q72 => ?_)
    · have q71 : 2147483649 = 2147483648 := q71
      exfalso; omega
    have q72 : ¬ (2147483649 = 2147483648) := q72
    refine x_aload (np := 37) (x := 0) (by decide +kernel) rfl (x_nc_le (tn_7 t1)) ?_
    have q73 : h41 ((h 61 1) + 7) 1 = ((h 61 1) + 8) := tf_7_1 j42 t1
    refine x_getR (np := 40) (x := 385) (f := 1) (q := ((h 61 1) + 8)) (by decide +kernel) (by decide) (tg_7_385_1_1 t1) q73 ?_
    refine x_iload (np := 41) (x := 1) (by decide +kernel) rfl l6 ?_
    refine x_aload (np := 42) (x := 0) (by decide +kernel) rfl (x_nc_le (tn_7 t1)) ?_
    have q74 : h41 ((h 61 1) + 7) 0 = h8 ((h 61 1) + 7) 0 := jK 0 f43 (rg_T7_0_0_1 t1) (by first | decide | omega) (by first | decide | omega) (by decide)
    refine x_getC (np := 45) (x := 384) (f := 0) (q := 2147483652) (by decide +kernel) (by decide) (tg_7_384_0_0 t1) (q74.trans q67) (fun l75 => ?_)
    obtain ⟨u76, q77⟩ : ∃ z, v5 = 2147483648 + z := ⟨v5 - 2147483648, by first | decide | omega⟩
    refine x_imul (np := 46) (x := 0) (i := u76) (j := 4) (v := (2147483648 + 4 * u76)) (by decide +kernel) (by first | decide | omega) (by first | decide | omega) (by first | decide | omega) (by first | decide | omega) l6 (by decide) ?_
    refine x_iload (np := 47) (x := 2) (by decide +kernel) rfl (by decide) ?_
    refine x_iadd (np := 48) (x := 0) (v := (2147483648 + 4 * u76)) (by decide +kernel) (by first | decide | omega) (by decide) (by first | decide | omega) (by first | decide | omega) ?_
    refine x_iload (np := 49) (x := 3) (by decide +kernel) rfl l38 ?_
    refine x_ast (np := 50) (x := 0) (kd := 1) (n := 40) (i := (4 * u76)) (by decide +kernel) (Or.inl rfl) (ta_8_40 t1) (by first | decide | omega) (by first | decide | omega) (by decide) l38 (fun z => absurd z (by decide)) ?_
    have j80 := jU (e := (4 * u76)) (v := v37) u76 j42 (rg_T8_0_4_10 t1) (by first | decide | omega) (by first | decide | omega) (by first | decide | omega)
    have f82 := jF (e := (4 * u76)) (v := v37) u76 f49 (rg_T8_0_4_10 t1) (by first | decide | omega) (by first | decide | omega) (by decide)
    generalize e81 : x_up h41 ((h 61 1) + 8) (4 * u76) v37 = h79 at j80 f82 ⊢
    refine x_retV (np := 51) (x := 0) (by decide +kernel) (by decide +kernel) ⟨rfl, ?_⟩
    refine x_const (np := 30) (x := 9223372043297226753) (a := 2147483649) (by decide +kernel) (by decide) (by decide) ?_
    refine x_retI (np := 31) (x := 0) (by decide +kernel) (by decide) (Or.inr ⟨by decide +kernel, by first | decide | omega, by first | decide | omega⟩) ⟨_, rfl, (by decide), ?_⟩
    refine x_ifz (k := 0) (tg := 88) (np := 37) (by decide +kernel) (by decide) (by decide) (fun q83 => ?_) (fun q84 => ?_)
    · have q83 : 2147483649 = 2147483648 := q83
      exfalso; omega
    have q84 : ¬ (2147483649 = 2147483648) := q84
    refine x_aload (np := 38) (x := 0) (by decide +kernel) rfl (x_nc_le (by decide)) ?_
    have q85 : h79 61 0 = 1 := by have z := jB (e := 0) 0 j80 rg_61_0_0_1 (by decide) (by decide); omega
    refine x_getR (np := 41) (x := 576) (f := 0) (q := 1) (by decide +kernel) (by decide) (by decide +kernel) q85 ?_
    refine x_ldcB (i := 2) (idx := 111) (tx := "day") (by rw [tb_y100]; exact List.mem_of_getElem? (i := 2) rfl) (by decide) (by rw [tb_b100]; decide +kernel) ?_
    have m90 := Tp.fr m40 f43 (by decide) (by decide)
    have m89 : Tp tB tN h79 := by rw [← e81]; exact Tp.oth m90 (tne_8_2 t1) (fun z => absurd z.1 (tne_8_1 t1))
    refine x_cI (t := 6) (mj := 78) (n := 2) (rc := 8) (ml := 2) (nr := 0) (np := 46) (as := [x_r 1, x_b (2 + 1)]) (rest := []) (lo1 := [x_r 1, x_b (2 + 1)]) (by decide +kernel) (by decide) (by decide +kernel) (x_rb_of (by decide +kernel)) rfl rfl (x_wr (by decide) (x_wB (by decide) x_wn)) x_wn (by decide) rfl (c78_1_S0 j80  (by decide) m89) (fun v86 h91 l87 q88 => ?_)
    obtain ⟨j92, f93, b94, c95, c96, c97⟩ := q88
    have f98 := Fr.trans f82 f93 (by decide)
    have q99 : h79 1 2 = h41 1 2 := by rw [← e81]; exact x_up_k (Ne.symm (tne_8_1 t1))
    have b100 := jB (e := 2) 0 j92 rg_1_2_0_1 (by first | decide | omega) (by first | decide | omega)
    have b101 : iv_tl 2 = 3 := by decide
    have q102 : h79 1 2 = h41 1 2 := by rw [← e81]; exact x_up_k (Ne.symm (tne_8_1 t1))
    refine x_ifz (k := 0) (tg := 88) (np := 49) (by decide +kernel) (by decide) l87 (fun q103 => ?_) (fun q104 => ?_)
    · have q103 : v86 = 2147483648 := q103
      have b105 := c96 (by first | decide | omega)
      refine x_const (np := 89) (x := 9223372039002259456) (a := 2147483648) (by decide +kernel) (by decide) (by decide) ?_
      have e106 : rv h 0 = (h (h 61 1) 7) := (congrArg (fun z => svq h z 0) rfl).trans rfl
      have q107 : h91 61 1 = h79 61 1 := f93 61 1 (by decide +kernel)
      have q108 : h79 61 1 = h41 61 1 := by rw [← e81]; exact x_up_k (Ne.symm (tne_8_61 t1))
      have q109 : h41 61 1 = h8 61 1 := f43 61 1 (by decide +kernel)
      have q110 : h8 61 1 = h 61 1 := f10 61 1 (by decide +kernel)
      have q111 : h91 (h 61 1) 7 = h79 (h 61 1) 7 := jK 0 f93 (rg_T0_7_0_1 t1) (by first | decide | omega) (by first | decide | omega) (by decide)
      have q112 : h79 (h 61 1) 7 = h41 (h 61 1) 7 := by rw [← e81]; exact x_up_k tof_0_8
      have q113 : h41 (h 61 1) 7 = h8 (h 61 1) 7 := jK 0 f43 (rg_T0_7_0_1 t1) (by first | decide | omega) (by first | decide | omega) (by decide)
      have e114 : rv h91 0 = (h8 (h 61 1) 7) := (congrArg (fun z => svq h91 z 0) (((q107.trans q108).trans q109).trans q110)).trans ((q111.trans q112).trans q113)
      have e115 : rv h 1 = (h (h 61 1) 8) := (congrArg (fun z => svq h z 1) rfl).trans rfl
      have q116 : h91 61 1 = h79 61 1 := f93 61 1 (by decide +kernel)
      have q117 : h79 61 1 = h41 61 1 := by rw [← e81]; exact x_up_k (Ne.symm (tne_8_61 t1))
      have q118 : h41 61 1 = h8 61 1 := f43 61 1 (by decide +kernel)
      have q119 : h8 61 1 = h 61 1 := f10 61 1 (by decide +kernel)
      have q120 : h91 (h 61 1) 8 = h79 (h 61 1) 8 := jK 0 f93 (rg_T0_8_0_1 t1) (by first | decide | omega) (by first | decide | omega) (by decide)
      have q121 : h79 (h 61 1) 8 = h41 (h 61 1) 8 := by rw [← e81]; exact x_up_k tof_0_8
      have q122 : h41 (h 61 1) 8 = h8 (h 61 1) 8 := jK 0 f43 (rg_T0_8_0_1 t1) (by first | decide | omega) (by first | decide | omega) (by decide)
      have e123 : rv h91 1 = (h8 (h 61 1) 8) := (congrArg (fun z => svq h91 z 1) (((q116.trans q117).trans q118).trans q119)).trans ((q120.trans q121).trans q122)
      have e124 : rv h 2 = (h ((h 61 1) + 1) 2) := (congrArg (fun z => svq h z 2) rfl).trans rfl
      have q125 : h91 61 1 = h79 61 1 := f93 61 1 (by decide +kernel)
      have q126 : h79 61 1 = h41 61 1 := by rw [← e81]; exact x_up_k (Ne.symm (tne_8_61 t1))
      have q127 : h41 61 1 = h8 61 1 := f43 61 1 (by decide +kernel)
      have q128 : h8 61 1 = h 61 1 := f10 61 1 (by decide +kernel)
      have q129 : h91 ((h 61 1) + 1) 2 = h79 ((h 61 1) + 1) 2 := jK 0 f93 (rg_T1_2_0_1 t1) (by first | decide | omega) (by first | decide | omega) (by decide)
      have q130 : h79 ((h 61 1) + 1) 2 = h41 ((h 61 1) + 1) 2 := by rw [← e81]; exact x_up_k tof_1_8
      have q131 : h41 ((h 61 1) + 1) 2 = h8 ((h 61 1) + 1) 2 := jK 0 f43 (rg_T1_2_0_1 t1) (by first | decide | omega) (by first | decide | omega) (by decide)
      have e132 : rv h91 2 = (h8 ((h 61 1) + 1) 2) := (congrArg (fun z => svq h91 z 2) (((q125.trans q126).trans q127).trans q128)).trans ((q129.trans q130).trans q131)
      have e133 : rv h 3 = (h ((h 61 1) + 3) 2) := (congrArg (fun z => svq h z 3) rfl).trans rfl
      have q134 : h91 61 1 = h79 61 1 := f93 61 1 (by decide +kernel)
      have q135 : h79 61 1 = h41 61 1 := by rw [← e81]; exact x_up_k (Ne.symm (tne_8_61 t1))
      have q136 : h41 61 1 = h8 61 1 := f43 61 1 (by decide +kernel)
      have q137 : h8 61 1 = h 61 1 := f10 61 1 (by decide +kernel)
      have q138 : h91 ((h 61 1) + 3) 2 = h79 ((h 61 1) + 3) 2 := jK 0 f93 (rg_T3_2_0_1 t1) (by first | decide | omega) (by first | decide | omega) (by decide)
      have q139 : h79 ((h 61 1) + 3) 2 = h41 ((h 61 1) + 3) 2 := by rw [← e81]; exact x_up_k tof_3_8
      have q140 : h41 ((h 61 1) + 3) 2 = h8 ((h 61 1) + 3) 2 := jK 0 f43 (rg_T3_2_0_1 t1) (by first | decide | omega) (by first | decide | omega) (by decide)
      have e141 : rv h91 3 = (h8 ((h 61 1) + 3) 2) := (congrArg (fun z => svq h91 z 3) (((q134.trans q135).trans q136).trans q137)).trans ((q138.trans q139).trans q140)
      have e142 : rv h 4 = (h ((h 61 1) + 5) 2) := (congrArg (fun z => svq h z 4) rfl).trans rfl
      have q143 : h91 61 1 = h79 61 1 := f93 61 1 (by decide +kernel)
      have q144 : h79 61 1 = h41 61 1 := by rw [← e81]; exact x_up_k (Ne.symm (tne_8_61 t1))
      have q145 : h41 61 1 = h8 61 1 := f43 61 1 (by decide +kernel)
      have q146 : h8 61 1 = h 61 1 := f10 61 1 (by decide +kernel)
      have q147 : h91 ((h 61 1) + 5) 2 = h79 ((h 61 1) + 5) 2 := jK 0 f93 (rg_T5_2_0_1 t1) (by first | decide | omega) (by first | decide | omega) (by decide)
      have q148 : h79 ((h 61 1) + 5) 2 = h41 ((h 61 1) + 5) 2 := by rw [← e81]; exact x_up_k tof_5_8
      have q149 : h41 ((h 61 1) + 5) 2 = h8 ((h 61 1) + 5) 2 := jK 0 f43 (rg_T5_2_0_1 t1) (by first | decide | omega) (by first | decide | omega) (by decide)
      have e150 : rv h91 4 = (h8 ((h 61 1) + 5) 2) := (congrArg (fun z => svq h91 z 4) (((q143.trans q144).trans q145).trans q146)).trans ((q147.trans q148).trans q149)
      have q151 : h91 61 1 = h79 61 1 := f93 61 1 (by decide +kernel)
      have q152 : h79 61 1 = h41 61 1 := by rw [← e81]; exact x_up_k (Ne.symm (tne_8_61 t1))
      have q153 : h41 61 1 = h8 61 1 := f43 61 1 (by decide +kernel)
      have q154 : h8 61 1 = h 61 1 := f10 61 1 (by decide +kernel)
      have q155 : h91 ((h 61 1) + 7) 2 = h79 ((h 61 1) + 7) 2 := jK 0 f93 (rg_T7_2_0_1 t1) (by first | decide | omega) (by first | decide | omega) (by decide)
      have q156 : h79 ((h 61 1) + 7) 2 = h41 ((h 61 1) + 7) 2 := by rw [← e81]; exact x_up_k tof_7_8
      have q157 : h41 ((h 61 1) + 7) 2 = h8 ((h 61 1) + 7) 2 := jK 0 f43 (rg_T7_2_0_1 t1) (by first | decide | omega) (by first | decide | omega) (by decide)
      have e158 : rv h91 5 = (h8 ((h 61 1) + 7) 2) := (congrArg (fun z => svq h91 z 5) (((q151.trans q152).trans q153).trans q154)).trans ((q155.trans q156).trans q157)
      have q159 : h8 1 2 = h 1 2 := jK 0 f10 rg_1_2_0_1 (by first | decide | omega) (by first | decide | omega) (by decide)
      have q160 : h79 1 2 = h41 1 2 := by rw [← e81]; exact x_up_k (Ne.symm (tne_8_1 t1))
      obtain ⟨w161, e162⟩ := Tk.no c97 (by first | decide | omega)
      have m163 : Ot (h 61 1) h h8 := Ot.trans Ot.refl (c19)
      have m164 : Ot (h 61 1) h h41 := Ot.fr m163 f43 (by decide)
      have m165 : Ot (h 61 1) h h79 := by rw [← e81]; exact Ot.up (o := 8) m164 t1 (by decide) rfl
      have m166 : Ot (h 61 1) h h91 := Ot.fr m165 f93 (by decide)
      have q167 : h8 1 2 = h 1 2 := jK 0 f10 rg_1_2_0_1 (by first | decide | omega) (by first | decide | omega) (by decide)
      have q168 : h79 1 2 = h41 1 2 := by rw [← e81]; exact x_up_k (Ne.symm (tne_8_1 t1))
      obtain ⟨w169, e170⟩ := Tk.no c97 (by first | decide | omega)
      have q171 : h79 1 2 = h41 1 2 := by rw [← e81]; exact x_up_k (Ne.symm (tne_8_1 t1))
      refine x_retI (np := 90) (x := 0) (by decide +kernel) (by decide) (Or.inr ⟨by decide +kernel, by first | decide | omega, by first | decide | omega⟩) ⟨_, rfl, (by decide), ?_⟩
      exact ⟨j92, f98, (by first | decide | omega), (by first | decide | omega), (by first | decide | omega), (by first | decide | omega), (by first | decide | omega), (by first | decide | omega), (fun z => by first | decide | omega), (nm9.y c48 (by first | decide | omega) (by first | decide | omega) (show h8 1 2 = h 1 2 by first | decide | omega) (by first | decide | omega) rfl (wd9.f w161 (show h79 1 2 = h41 1 2 by first | decide | omega) (by first | decide | omega))), m166, (fun _ => (mF.y c48 (by first | decide | omega) (by first | decide | omega) (show h8 1 2 = h 1 2 by first | decide | omega) (by first | decide | omega) rfl (wF.no w169 (show h79 1 2 = h41 1 2 by first | decide | omega) (show h91 1 2 = h79 1 2 by first | decide | omega))))⟩
    have q104 : ¬ (v86 = 2147483648) := q104
    have b172 := c95 (by first | decide | omega)
    refine x_aload (np := 50) (x := 0) (by decide +kernel) rfl (x_nc_le (by decide)) ?_
    refine x_aload (np := 51) (x := 0) (by decide +kernel) rfl (x_nc_le (by decide)) ?_
    have q173 : h91 61 1 = h79 61 1 := f93 61 1 (by decide +kernel)
    have q174 : h79 61 1 = h41 61 1 := by rw [← e81]; exact x_up_k (Ne.symm (tne_8_61 t1))
    have q175 : h41 61 1 = h8 61 1 := f43 61 1 (by decide +kernel)
    have q176 : h8 61 1 = h 61 1 := f10 61 1 (by decide +kernel)
    refine x_getR (np := 54) (x := 577) (f := 1) (q := (h 61 1)) (by decide +kernel) (by decide) (by decide +kernel) (((q173.trans q174).trans q175).trans q176) ?_
    have q177 : h91 (h 61 1) 3 = ((h 61 1) + 7) := tf_0_3 j92 t1
    refine x_getR (np := 57) (x := 515) (f := 3) (q := ((h 61 1) + 7)) (by decide +kernel) (by decide) (tg_0_515_3_1 t1) q177 ?_
    refine x_iload (np := 58) (x := 1) (by decide +kernel) rfl l6 ?_
    refine x_const (np := 59) (x := 9223372043297226753) (a := 2147483649) (by decide +kernel) (by decide) (by decide) ?_
    refine x_const (np := 60) (x := 9223372039002259456) (a := 2147483648) (by decide +kernel) (by decide) (by decide) ?_
    refine x_const (np := 62) (x := 9223372086246899723) (a := 2147483659) (by decide +kernel) (by decide) (by decide) ?_
    refine x_nI (t := 6) (mj := 102) (n := 6) (rc := 10) (ml := 7) (nr := 0) (np := 65) (as := [x_r 61, x_r ((h 61 1) + 7), iv_c v5, iv_c 2147483649, iv_c 2147483648, iv_c 2147483659]) (rest := []) (lo1 := [x_r 61, x_r ((h 61 1) + 7), iv_c v5, iv_c 2147483649, iv_c 2147483648, iv_c 2147483659, 147573952589676412928]) (by decide +kernel) (by decide) (by decide +kernel) (x_rb_of (by decide +kernel)) rfl rfl (x_wr (by decide) (x_wr (tn_7 t1) (x_wi l6 (x_wi (by decide) (x_wi (by decide) (x_wi (by decide) x_wn)))))) x_wn (by decide) rfl ?_
    refine x_aload (np := 1) (x := 0) (by decide +kernel) rfl (x_nc_le (by decide)) ?_
    have q178 : h91 61 0 = 1 := by have z := jB (e := 0) 0 j92 rg_61_0_0_1 (by decide) (by decide); omega
    refine x_getR (np := 4) (x := 576) (f := 0) (q := 1) (by decide +kernel) (by decide) (by decide +kernel) q178 ?_
    refine x_iload (np := 6) (x := 4) (by decide +kernel) rfl (by decide) ?_
    refine x_iload (np := 8) (x := 5) (by decide +kernel) rfl (by decide) ?_
    have m182 := Tp.fr m89 f93 (by decide) (by decide)
    refine x_cI (t := 6) (mj := 79) (n := 3) (rc := 8) (ml := 5) (nr := 0) (np := 11) (as := [x_r 1, iv_c 2147483648, iv_c 2147483659]) (rest := []) (lo1 := [x_r 1, iv_c 2147483648, iv_c 2147483659, 147573952589676412928, 147573952589676412928]) (by decide +kernel) (by decide) (by decide +kernel) (x_rb_of (by decide +kernel)) rfl rfl (x_wr (by decide) (x_wi (by decide) (x_wi (by decide) x_wn))) x_wn (by decide) rfl (c79_1_c0 j92   (by first | decide | omega) m182) (fun v179 h183 l180 q181 => ?_)
    obtain ⟨j184, f185, b186, c187, c188, c189, c190⟩ := q181
    have f191 := Fr.trans f98 f185 (by decide)
    have b192 := jB (e := 2) 0 j184 rg_1_2_0_1 (by first | decide | omega) (by first | decide | omega)
    refine x_istore (np := 13) (x := 6) (lo' := [x_r 61, x_r ((h 61 1) + 7), iv_c v5, iv_c 2147483649, iv_c 2147483648, iv_c 2147483659, iv_c v179]) (by decide +kernel) l180 (Nat.le_of_ble_eq_true rfl) rfl ?_
    refine x_iload (np := 15) (x := 6) (by decide +kernel) rfl l180 ?_
    refine x_const (np := 16) (x := 9223372034707292159) (a := 2147483647) (by decide +kernel) (by decide) (by decide) ?_
    refine x_icmp (k := 1) (tg := 21) (np := 19) (by decide +kernel) (by decide) l180 (by decide) (fun q193 => ?_) (fun q194 => ?_)
    · have q193 : v179 ≠ 2147483647 := q193
      have b195 := c188 (by first | decide | omega)
      refine x_aload (np := 22) (x := 1) (by decide +kernel) rfl (x_nc_le (tn_7 t1)) ?_
      refine x_iload (np := 23) (x := 2) (by decide +kernel) rfl l6 ?_
      refine x_iload (np := 24) (x := 3) (by decide +kernel) rfl (by decide) ?_
      refine x_iload (np := 26) (x := 6) (by decide +kernel) rfl l180 ?_
      refine x_nV (t := 6) (mj := 69) (n := 4) (rc := 7) (ml := 5) (nr := 0) (np := 29) (as := [x_r ((h 61 1) + 7), iv_c v5, iv_c 2147483649, iv_c v179]) (rest := []) (lo1 := [x_r ((h 61 1) + 7), iv_c v5, iv_c 2147483649, iv_c v179, 147573952589676412928]) (by decide +kernel) (by decide) (by decide +kernel) (x_rb_of (tr_7_7 t1)) rfl rfl (x_wr (tn_7 t1) (x_wi l6 (x_wi (by decide) (x_wi l180 x_wn)))) x_wn (by decide) rfl ?_
      refine x_iload (np := 1) (x := 1) (by decide +kernel) rfl l6 ?_
      refine x_ifz (k := 2) (tg := 28) (np := 4) (by decide +kernel) (by decide) l6 (fun q196 => ?_) (fun q197 => ?_)
      · have q196 : v5 < 2147483648 := q196
        exfalso; omega
      have q197 : ¬ (v5 < 2147483648) := q197
      refine x_iload (np := 5) (x := 1) (by decide +kernel) rfl l6 ?_
      refine x_aload (np := 6) (x := 0) (by decide +kernel) rfl (x_nc_le (tn_7 t1)) ?_
      have q198 : h183 ((h 61 1) + 7) 2 = h91 ((h 61 1) + 7) 2 := jK 0 f185 (rg_T7_2_0_1 t1) (by first | decide | omega) (by first | decide | omega) (by decide)
      have q199 : h91 ((h 61 1) + 7) 2 = h79 ((h 61 1) + 7) 2 := jK 0 f93 (rg_T7_2_0_1 t1) (by first | decide | omega) (by first | decide | omega) (by decide)
      have q200 : h79 ((h 61 1) + 7) 2 = h41 ((h 61 1) + 7) 2 := by rw [← e81]; exact x_up_k tof_7_8
      have q201 : h41 ((h 61 1) + 7) 2 = h8 ((h 61 1) + 7) 2 := jK 0 f43 (rg_T7_2_0_1 t1) (by first | decide | omega) (by first | decide | omega) (by decide)
      refine x_getC (np := 9) (x := 386) (f := 2) (q := (h8 ((h 61 1) + 7) 2)) (by decide +kernel) (by decide) (tg_7_386_2_0 t1) (((q198.trans q199).trans q200).trans q201) (fun l202 => ?_)
      refine x_icmp (k := 3) (tg := 28) (np := 12) (by decide +kernel) (by decide) l6 l60 (fun q203 => ?_) (fun q204 => ?_)
      · have q203 : (h8 ((h 61 1) + 7) 2) ≤ v5 := q203
        exfalso; omega
      have q204 : ¬ ((h8 ((h 61 1) + 7) 2) ≤ v5) := q204
      refine x_iload (np := 13) (x := 2) (by decide +kernel) rfl (by decide) ?_
      refine x_ifz (k := 2) (tg := 28) (np := 16) (by decide +kernel) (by decide) (by decide) (fun q205 => ?_) (fun q206 => ?_)
      · have q205 : 2147483649 < 2147483648 := q205
        exfalso; omega
      have q206 : ¬ (2147483649 < 2147483648) := q206
      refine x_iload (np := 17) (x := 2) (by decide +kernel) rfl (by decide) ?_
      refine x_aload (np := 18) (x := 0) (by decide +kernel) rfl (x_nc_le (tn_7 t1)) ?_
      have q207 : h183 ((h 61 1) + 7) 0 = h91 ((h 61 1) + 7) 0 := jK 0 f185 (rg_T7_0_0_1 t1) (by first | decide | omega) (by first | decide | omega) (by decide)
      have q208 : h91 ((h 61 1) + 7) 0 = h79 ((h 61 1) + 7) 0 := jK 0 f93 (rg_T7_0_0_1 t1) (by first | decide | omega) (by first | decide | omega) (by decide)
      have q209 : h79 ((h 61 1) + 7) 0 = h41 ((h 61 1) + 7) 0 := by rw [← e81]; exact x_up_k tof_7_8
      have q210 : h41 ((h 61 1) + 7) 0 = h8 ((h 61 1) + 7) 0 := jK 0 f43 (rg_T7_0_0_1 t1) (by first | decide | omega) (by first | decide | omega) (by decide)
      refine x_getC (np := 21) (x := 384) (f := 0) (q := 2147483652) (by decide +kernel) (by decide) (tg_7_384_0_0 t1) ((((q207.trans q208).trans q209).trans q210).trans q67) (fun l211 => ?_)
      refine x_icmp (k := 3) (tg := 28) (np := 24) (by decide +kernel) (by decide) (by decide) (by decide) (fun q212 => ?_) (fun q213 => ?_)
      · have q212 : 2147483652 ≤ 2147483649 := q212
        exfalso; omega
      have q213 : ¬ (2147483652 ≤ 2147483649) := q213
      refine x_const (np := 25) (x := 9223372043297226753) (a := 2147483649) (by decide +kernel) (by decide) (by decide) ?_
      refine x_goto (np := 28) (x := 29) (by decide +kernel) ?_
      refine x_istore (np := 31) (x := 4) (lo' := [x_r ((h 61 1) + 7), iv_c v5, iv_c 2147483649, iv_c v179, iv_c 2147483649]) (by decide +kernel) (by decide) (Nat.le_of_ble_eq_true rfl) rfl ?_
      refine x_iload (np := 33) (x := 4) (by decide +kernel) rfl (by decide) ?_
      refine x_ifz (k := 0) (tg := 50) (np := 36) (by decide +kernel) (by decide) (by decide) (fun q214 => ?_) (fun q215 => ?_)
      · have q214 : 2147483649 = 2147483648 := q214
        exfalso; omega
      have q215 : ¬ (2147483649 = 2147483648) := q215
      refine x_aload (np := 37) (x := 0) (by decide +kernel) rfl (x_nc_le (tn_7 t1)) ?_
      have q216 : h183 ((h 61 1) + 7) 1 = ((h 61 1) + 8) := tf_7_1 j184 t1
      refine x_getR (np := 40) (x := 385) (f := 1) (q := ((h 61 1) + 8)) (by decide +kernel) (by decide) (tg_7_385_1_1 t1) q216 ?_
      refine x_iload (np := 41) (x := 1) (by decide +kernel) rfl l6 ?_
      refine x_aload (np := 42) (x := 0) (by decide +kernel) rfl (x_nc_le (tn_7 t1)) ?_
      have q217 : h183 ((h 61 1) + 7) 0 = h91 ((h 61 1) + 7) 0 := jK 0 f185 (rg_T7_0_0_1 t1) (by first | decide | omega) (by first | decide | omega) (by decide)
      have q218 : h91 ((h 61 1) + 7) 0 = h79 ((h 61 1) + 7) 0 := jK 0 f93 (rg_T7_0_0_1 t1) (by first | decide | omega) (by first | decide | omega) (by decide)
      have q219 : h79 ((h 61 1) + 7) 0 = h41 ((h 61 1) + 7) 0 := by rw [← e81]; exact x_up_k tof_7_8
      have q220 : h41 ((h 61 1) + 7) 0 = h8 ((h 61 1) + 7) 0 := jK 0 f43 (rg_T7_0_0_1 t1) (by first | decide | omega) (by first | decide | omega) (by decide)
      refine x_getC (np := 45) (x := 384) (f := 0) (q := 2147483652) (by decide +kernel) (by decide) (tg_7_384_0_0 t1) ((((q217.trans q218).trans q219).trans q220).trans q67) (fun l221 => ?_)
      refine x_imul (np := 46) (x := 0) (i := u76) (j := 4) (v := (2147483648 + 4 * u76)) (by decide +kernel) (by first | decide | omega) (by first | decide | omega) (by first | decide | omega) (by first | decide | omega) l6 (by decide) ?_
      refine x_iload (np := 47) (x := 2) (by decide +kernel) rfl (by decide) ?_
      refine x_iadd (np := 48) (x := 0) (v := (2147483649 + 4 * u76)) (by decide +kernel) (by first | decide | omega) (by decide) (by first | decide | omega) (by first | decide | omega) ?_
      refine x_iload (np := 49) (x := 3) (by decide +kernel) rfl l180 ?_
      refine x_ast (np := 50) (x := 0) (kd := 1) (n := 40) (i := (1 + 4 * u76)) (by decide +kernel) (Or.inl rfl) (ta_8_40 t1) (by first | decide | omega) (by first | decide | omega) (by decide) l180 (fun z => absurd z (by decide)) ?_
      have j224 := jU (e := (1 + 4 * u76)) (v := v179) u76 j184 (rg_T8_1_4_10 t1) (by first | decide | omega) (by first | decide | omega) (by first | decide | omega)
      have f226 := jF (e := (1 + 4 * u76)) (v := v179) u76 f191 (rg_T8_1_4_10 t1) (by first | decide | omega) (by first | decide | omega) (by decide)
      generalize e225 : x_up h183 ((h 61 1) + 8) (1 + 4 * u76) v179 = h223 at j224 f226 ⊢
      refine x_retV (np := 51) (x := 0) (by decide +kernel) (by decide +kernel) ⟨rfl, ?_⟩
      refine x_const (np := 30) (x := 9223372043297226753) (a := 2147483649) (by decide +kernel) (by decide) (by decide) ?_
      refine x_retI (np := 31) (x := 0) (by decide +kernel) (by decide) (Or.inr ⟨by decide +kernel, by first | decide | omega, by first | decide | omega⟩) ⟨_, rfl, (by decide), ?_⟩
      refine x_ifz (k := 0) (tg := 88) (np := 68) (by decide +kernel) (by decide) (by decide) (fun q227 => ?_) (fun q228 => ?_)
      · have q227 : 2147483649 = 2147483648 := q227
        exfalso; omega
      have q228 : ¬ (2147483649 = 2147483648) := q228
      refine x_aload (np := 69) (x := 0) (by decide +kernel) rfl (x_nc_le (by decide)) ?_
      have q229 : h223 61 0 = 1 := by have z := jB (e := 0) 0 j224 rg_61_0_0_1 (by decide) (by decide); omega
      refine x_getR (np := 72) (x := 576) (f := 0) (q := 1) (by decide +kernel) (by decide) (by decide +kernel) q229 ?_
      refine x_ldcB (i := 14) (idx := 157) (tx := "as") (by rw [tb_y100]; exact List.mem_of_getElem? (i := 14) rfl) (by decide) (by rw [tb_b100]; decide +kernel) ?_
      have m234 := Tp.fr m182 f185 (by decide) (by decide)
      have m233 : Tp tB tN h223 := by rw [← e225]; exact Tp.oth m234 (tne_8_2 t1) (fun z => absurd z.1 (tne_8_1 t1))
      refine x_cI (t := 6) (mj := 78) (n := 2) (rc := 8) (ml := 2) (nr := 0) (np := 77) (as := [x_r 1, x_b (14 + 1)]) (rest := []) (lo1 := [x_r 1, x_b (14 + 1)]) (by decide +kernel) (by decide) (by decide +kernel) (x_rb_of (by decide +kernel)) rfl rfl (x_wr (by decide) (x_wB (by decide) x_wn)) x_wn (by decide) rfl (c78_1_S0 j224  (by decide) m233) (fun v230 h235 l231 q232 => ?_)
      obtain ⟨j236, f237, b238, c239, c240, c241⟩ := q232
      have f242 := Fr.trans f226 f237 (by decide)
      have q243 : h223 1 2 = h183 1 2 := by rw [← e225]; exact x_up_k (Ne.symm (tne_8_1 t1))
      have b244 := jB (e := 2) 0 j236 rg_1_2_0_1 (by first | decide | omega) (by first | decide | omega)
      have b245 : iv_tl 14 = 2 := by decide
      have q246 : h223 1 2 = h183 1 2 := by rw [← e225]; exact x_up_k (Ne.symm (tne_8_1 t1))
      refine x_ifz (k := 0) (tg := 88) (np := 80) (by decide +kernel) (by decide) l231 (fun q247 => ?_) (fun q248 => ?_)
      · have q247 : v230 = 2147483648 := q247
        have b249 := c240 (by first | decide | omega)
        refine x_const (np := 89) (x := 9223372039002259456) (a := 2147483648) (by decide +kernel) (by decide) (by decide) ?_
        have e250 : rv h 0 = (h (h 61 1) 7) := (congrArg (fun z => svq h z 0) rfl).trans rfl
        have q251 : h235 61 1 = h223 61 1 := f237 61 1 (by decide +kernel)
        have q252 : h223 61 1 = h183 61 1 := by rw [← e225]; exact x_up_k (Ne.symm (tne_8_61 t1))
        have q253 : h183 61 1 = h91 61 1 := f185 61 1 (by decide +kernel)
        have q254 : h91 61 1 = h79 61 1 := f93 61 1 (by decide +kernel)
        have q255 : h79 61 1 = h41 61 1 := by rw [← e81]; exact x_up_k (Ne.symm (tne_8_61 t1))
        have q256 : h41 61 1 = h8 61 1 := f43 61 1 (by decide +kernel)
        have q257 : h8 61 1 = h 61 1 := f10 61 1 (by decide +kernel)
        have q258 : h235 (h 61 1) 7 = h223 (h 61 1) 7 := jK 0 f237 (rg_T0_7_0_1 t1) (by first | decide | omega) (by first | decide | omega) (by decide)
        have q259 : h223 (h 61 1) 7 = h183 (h 61 1) 7 := by rw [← e225]; exact x_up_k tof_0_8
        have q260 : h183 (h 61 1) 7 = h91 (h 61 1) 7 := jK 0 f185 (rg_T0_7_0_1 t1) (by first | decide | omega) (by first | decide | omega) (by decide)
        have q261 : h91 (h 61 1) 7 = h79 (h 61 1) 7 := jK 0 f93 (rg_T0_7_0_1 t1) (by first | decide | omega) (by first | decide | omega) (by decide)
        have q262 : h79 (h 61 1) 7 = h41 (h 61 1) 7 := by rw [← e81]; exact x_up_k tof_0_8
        have q263 : h41 (h 61 1) 7 = h8 (h 61 1) 7 := jK 0 f43 (rg_T0_7_0_1 t1) (by first | decide | omega) (by first | decide | omega) (by decide)
        have e264 : rv h235 0 = (h8 (h 61 1) 7) := (congrArg (fun z => svq h235 z 0) ((((((q251.trans q252).trans q253).trans q254).trans q255).trans q256).trans q257)).trans (((((q258.trans q259).trans q260).trans q261).trans q262).trans q263)
        have e265 : rv h 1 = (h (h 61 1) 8) := (congrArg (fun z => svq h z 1) rfl).trans rfl
        have q266 : h235 61 1 = h223 61 1 := f237 61 1 (by decide +kernel)
        have q267 : h223 61 1 = h183 61 1 := by rw [← e225]; exact x_up_k (Ne.symm (tne_8_61 t1))
        have q268 : h183 61 1 = h91 61 1 := f185 61 1 (by decide +kernel)
        have q269 : h91 61 1 = h79 61 1 := f93 61 1 (by decide +kernel)
        have q270 : h79 61 1 = h41 61 1 := by rw [← e81]; exact x_up_k (Ne.symm (tne_8_61 t1))
        have q271 : h41 61 1 = h8 61 1 := f43 61 1 (by decide +kernel)
        have q272 : h8 61 1 = h 61 1 := f10 61 1 (by decide +kernel)
        have q273 : h235 (h 61 1) 8 = h223 (h 61 1) 8 := jK 0 f237 (rg_T0_8_0_1 t1) (by first | decide | omega) (by first | decide | omega) (by decide)
        have q274 : h223 (h 61 1) 8 = h183 (h 61 1) 8 := by rw [← e225]; exact x_up_k tof_0_8
        have q275 : h183 (h 61 1) 8 = h91 (h 61 1) 8 := jK 0 f185 (rg_T0_8_0_1 t1) (by first | decide | omega) (by first | decide | omega) (by decide)
        have q276 : h91 (h 61 1) 8 = h79 (h 61 1) 8 := jK 0 f93 (rg_T0_8_0_1 t1) (by first | decide | omega) (by first | decide | omega) (by decide)
        have q277 : h79 (h 61 1) 8 = h41 (h 61 1) 8 := by rw [← e81]; exact x_up_k tof_0_8
        have q278 : h41 (h 61 1) 8 = h8 (h 61 1) 8 := jK 0 f43 (rg_T0_8_0_1 t1) (by first | decide | omega) (by first | decide | omega) (by decide)
        have e279 : rv h235 1 = (h8 (h 61 1) 8) := (congrArg (fun z => svq h235 z 1) ((((((q266.trans q267).trans q268).trans q269).trans q270).trans q271).trans q272)).trans (((((q273.trans q274).trans q275).trans q276).trans q277).trans q278)
        have e280 : rv h 2 = (h ((h 61 1) + 1) 2) := (congrArg (fun z => svq h z 2) rfl).trans rfl
        have q281 : h235 61 1 = h223 61 1 := f237 61 1 (by decide +kernel)
        have q282 : h223 61 1 = h183 61 1 := by rw [← e225]; exact x_up_k (Ne.symm (tne_8_61 t1))
        have q283 : h183 61 1 = h91 61 1 := f185 61 1 (by decide +kernel)
        have q284 : h91 61 1 = h79 61 1 := f93 61 1 (by decide +kernel)
        have q285 : h79 61 1 = h41 61 1 := by rw [← e81]; exact x_up_k (Ne.symm (tne_8_61 t1))
        have q286 : h41 61 1 = h8 61 1 := f43 61 1 (by decide +kernel)
        have q287 : h8 61 1 = h 61 1 := f10 61 1 (by decide +kernel)
        have q288 : h235 ((h 61 1) + 1) 2 = h223 ((h 61 1) + 1) 2 := jK 0 f237 (rg_T1_2_0_1 t1) (by first | decide | omega) (by first | decide | omega) (by decide)
        have q289 : h223 ((h 61 1) + 1) 2 = h183 ((h 61 1) + 1) 2 := by rw [← e225]; exact x_up_k tof_1_8
        have q290 : h183 ((h 61 1) + 1) 2 = h91 ((h 61 1) + 1) 2 := jK 0 f185 (rg_T1_2_0_1 t1) (by first | decide | omega) (by first | decide | omega) (by decide)
        have q291 : h91 ((h 61 1) + 1) 2 = h79 ((h 61 1) + 1) 2 := jK 0 f93 (rg_T1_2_0_1 t1) (by first | decide | omega) (by first | decide | omega) (by decide)
        have q292 : h79 ((h 61 1) + 1) 2 = h41 ((h 61 1) + 1) 2 := by rw [← e81]; exact x_up_k tof_1_8
        have q293 : h41 ((h 61 1) + 1) 2 = h8 ((h 61 1) + 1) 2 := jK 0 f43 (rg_T1_2_0_1 t1) (by first | decide | omega) (by first | decide | omega) (by decide)
        have e294 : rv h235 2 = (h8 ((h 61 1) + 1) 2) := (congrArg (fun z => svq h235 z 2) ((((((q281.trans q282).trans q283).trans q284).trans q285).trans q286).trans q287)).trans (((((q288.trans q289).trans q290).trans q291).trans q292).trans q293)
        have e295 : rv h 3 = (h ((h 61 1) + 3) 2) := (congrArg (fun z => svq h z 3) rfl).trans rfl
        have q296 : h235 61 1 = h223 61 1 := f237 61 1 (by decide +kernel)
        have q297 : h223 61 1 = h183 61 1 := by rw [← e225]; exact x_up_k (Ne.symm (tne_8_61 t1))
        have q298 : h183 61 1 = h91 61 1 := f185 61 1 (by decide +kernel)
        have q299 : h91 61 1 = h79 61 1 := f93 61 1 (by decide +kernel)
        have q300 : h79 61 1 = h41 61 1 := by rw [← e81]; exact x_up_k (Ne.symm (tne_8_61 t1))
        have q301 : h41 61 1 = h8 61 1 := f43 61 1 (by decide +kernel)
        have q302 : h8 61 1 = h 61 1 := f10 61 1 (by decide +kernel)
        have q303 : h235 ((h 61 1) + 3) 2 = h223 ((h 61 1) + 3) 2 := jK 0 f237 (rg_T3_2_0_1 t1) (by first | decide | omega) (by first | decide | omega) (by decide)
        have q304 : h223 ((h 61 1) + 3) 2 = h183 ((h 61 1) + 3) 2 := by rw [← e225]; exact x_up_k tof_3_8
        have q305 : h183 ((h 61 1) + 3) 2 = h91 ((h 61 1) + 3) 2 := jK 0 f185 (rg_T3_2_0_1 t1) (by first | decide | omega) (by first | decide | omega) (by decide)
        have q306 : h91 ((h 61 1) + 3) 2 = h79 ((h 61 1) + 3) 2 := jK 0 f93 (rg_T3_2_0_1 t1) (by first | decide | omega) (by first | decide | omega) (by decide)
        have q307 : h79 ((h 61 1) + 3) 2 = h41 ((h 61 1) + 3) 2 := by rw [← e81]; exact x_up_k tof_3_8
        have q308 : h41 ((h 61 1) + 3) 2 = h8 ((h 61 1) + 3) 2 := jK 0 f43 (rg_T3_2_0_1 t1) (by first | decide | omega) (by first | decide | omega) (by decide)
        have e309 : rv h235 3 = (h8 ((h 61 1) + 3) 2) := (congrArg (fun z => svq h235 z 3) ((((((q296.trans q297).trans q298).trans q299).trans q300).trans q301).trans q302)).trans (((((q303.trans q304).trans q305).trans q306).trans q307).trans q308)
        have e310 : rv h 4 = (h ((h 61 1) + 5) 2) := (congrArg (fun z => svq h z 4) rfl).trans rfl
        have q311 : h235 61 1 = h223 61 1 := f237 61 1 (by decide +kernel)
        have q312 : h223 61 1 = h183 61 1 := by rw [← e225]; exact x_up_k (Ne.symm (tne_8_61 t1))
        have q313 : h183 61 1 = h91 61 1 := f185 61 1 (by decide +kernel)
        have q314 : h91 61 1 = h79 61 1 := f93 61 1 (by decide +kernel)
        have q315 : h79 61 1 = h41 61 1 := by rw [← e81]; exact x_up_k (Ne.symm (tne_8_61 t1))
        have q316 : h41 61 1 = h8 61 1 := f43 61 1 (by decide +kernel)
        have q317 : h8 61 1 = h 61 1 := f10 61 1 (by decide +kernel)
        have q318 : h235 ((h 61 1) + 5) 2 = h223 ((h 61 1) + 5) 2 := jK 0 f237 (rg_T5_2_0_1 t1) (by first | decide | omega) (by first | decide | omega) (by decide)
        have q319 : h223 ((h 61 1) + 5) 2 = h183 ((h 61 1) + 5) 2 := by rw [← e225]; exact x_up_k tof_5_8
        have q320 : h183 ((h 61 1) + 5) 2 = h91 ((h 61 1) + 5) 2 := jK 0 f185 (rg_T5_2_0_1 t1) (by first | decide | omega) (by first | decide | omega) (by decide)
        have q321 : h91 ((h 61 1) + 5) 2 = h79 ((h 61 1) + 5) 2 := jK 0 f93 (rg_T5_2_0_1 t1) (by first | decide | omega) (by first | decide | omega) (by decide)
        have q322 : h79 ((h 61 1) + 5) 2 = h41 ((h 61 1) + 5) 2 := by rw [← e81]; exact x_up_k tof_5_8
        have q323 : h41 ((h 61 1) + 5) 2 = h8 ((h 61 1) + 5) 2 := jK 0 f43 (rg_T5_2_0_1 t1) (by first | decide | omega) (by first | decide | omega) (by decide)
        have e324 : rv h235 4 = (h8 ((h 61 1) + 5) 2) := (congrArg (fun z => svq h235 z 4) ((((((q311.trans q312).trans q313).trans q314).trans q315).trans q316).trans q317)).trans (((((q318.trans q319).trans q320).trans q321).trans q322).trans q323)
        have q325 : h235 61 1 = h223 61 1 := f237 61 1 (by decide +kernel)
        have q326 : h223 61 1 = h183 61 1 := by rw [← e225]; exact x_up_k (Ne.symm (tne_8_61 t1))
        have q327 : h183 61 1 = h91 61 1 := f185 61 1 (by decide +kernel)
        have q328 : h91 61 1 = h79 61 1 := f93 61 1 (by decide +kernel)
        have q329 : h79 61 1 = h41 61 1 := by rw [← e81]; exact x_up_k (Ne.symm (tne_8_61 t1))
        have q330 : h41 61 1 = h8 61 1 := f43 61 1 (by decide +kernel)
        have q331 : h8 61 1 = h 61 1 := f10 61 1 (by decide +kernel)
        have q332 : h235 ((h 61 1) + 7) 2 = h223 ((h 61 1) + 7) 2 := jK 0 f237 (rg_T7_2_0_1 t1) (by first | decide | omega) (by first | decide | omega) (by decide)
        have q333 : h223 ((h 61 1) + 7) 2 = h183 ((h 61 1) + 7) 2 := by rw [← e225]; exact x_up_k tof_7_8
        have q334 : h183 ((h 61 1) + 7) 2 = h91 ((h 61 1) + 7) 2 := jK 0 f185 (rg_T7_2_0_1 t1) (by first | decide | omega) (by first | decide | omega) (by decide)
        have q335 : h91 ((h 61 1) + 7) 2 = h79 ((h 61 1) + 7) 2 := jK 0 f93 (rg_T7_2_0_1 t1) (by first | decide | omega) (by first | decide | omega) (by decide)
        have q336 : h79 ((h 61 1) + 7) 2 = h41 ((h 61 1) + 7) 2 := by rw [← e81]; exact x_up_k tof_7_8
        have q337 : h41 ((h 61 1) + 7) 2 = h8 ((h 61 1) + 7) 2 := jK 0 f43 (rg_T7_2_0_1 t1) (by first | decide | omega) (by first | decide | omega) (by decide)
        have e338 : rv h235 5 = (h8 ((h 61 1) + 7) 2) := (congrArg (fun z => svq h235 z 5) ((((((q325.trans q326).trans q327).trans q328).trans q329).trans q330).trans q331)).trans (((((q332.trans q333).trans q334).trans q335).trans q336).trans q337)
        have q339 : h8 1 2 = h 1 2 := jK 0 f10 rg_1_2_0_1 (by first | decide | omega) (by first | decide | omega) (by decide)
        have q340 : h79 1 2 = h41 1 2 := by rw [← e81]; exact x_up_k (Ne.symm (tne_8_1 t1))
        obtain ⟨w341, e342⟩ := Tk.yes c97 (by first | decide | omega)
        have q343 : h223 1 2 = h183 1 2 := by rw [← e225]; exact x_up_k (Ne.symm (tne_8_1 t1))
        obtain ⟨w344, e345⟩ := Tk.no c241 (by first | decide | omega)
        have m346 : Ot (h 61 1) h h8 := Ot.trans Ot.refl (c19)
        have m347 : Ot (h 61 1) h h41 := Ot.fr m346 f43 (by decide)
        have m348 : Ot (h 61 1) h h79 := by rw [← e81]; exact Ot.up (o := 8) m347 t1 (by decide) rfl
        have m349 : Ot (h 61 1) h h91 := Ot.fr m348 f93 (by decide)
        have m350 : Ot (h 61 1) h h183 := Ot.fr m349 f185 (by decide)
        have m351 : Ot (h 61 1) h h223 := by rw [← e225]; exact Ot.up (o := 8) m350 t1 (by decide) rfl
        have m352 : Ot (h 61 1) h h235 := Ot.fr m351 f237 (by decide)
        have q353 : h8 1 2 = h 1 2 := jK 0 f10 rg_1_2_0_1 (by first | decide | omega) (by first | decide | omega) (by decide)
        have q354 : h79 1 2 = h41 1 2 := by rw [← e81]; exact x_up_k (Ne.symm (tne_8_1 t1))
        obtain ⟨w355, e356⟩ := Tk.yes c97 (by first | decide | omega)
        have q357 : h223 1 2 = h183 1 2 := by rw [← e225]; exact x_up_k (Ne.symm (tne_8_1 t1))
        obtain ⟨w358, e359⟩ := Tk.no c241 (by first | decide | omega)
        have q360 : h223 1 2 = h183 1 2 := by rw [← e225]; exact x_up_k (Ne.symm (tne_8_1 t1))
        refine x_retI (np := 90) (x := 0) (by decide +kernel) (by decide) (Or.inr ⟨by decide +kernel, by first | decide | omega, by first | decide | omega⟩) ⟨_, rfl, (by decide), ?_⟩
        exact ⟨j236, f242, (by first | decide | omega), (by first | decide | omega), (by first | decide | omega), (by first | decide | omega), (by first | decide | omega), (by first | decide | omega), (fun z => by first | decide | omega), (nm9.y c48 (by first | decide | omega) (by first | decide | omega) (show h8 1 2 = h 1 2 by first | decide | omega) (by first | decide | omega) rfl (wd9.y w341 (show h79 1 2 = h41 1 2 by first | decide | omega) e342 rfl (nm9.y c190 (by first | decide | omega) (by first | decide | omega) rfl (by first | decide | omega) rfl (wd9.f w344 (show h223 1 2 = h183 1 2 by first | decide | omega) (by first | decide | omega))))), m352, (fun _ => (mF.y c48 (by first | decide | omega) (by first | decide | omega) (show h8 1 2 = h 1 2 by first | decide | omega) (by first | decide | omega) rfl (wF.y w355 (show h79 1 2 = h41 1 2 by first | decide | omega) e356 rfl (mF.y c190 (by first | decide | omega) (by first | decide | omega) rfl (by first | decide | omega) rfl (wF.no w358 (show h223 1 2 = h183 1 2 by first | decide | omega) (show h235 1 2 = h223 1 2 by first | decide | omega))))))⟩
      have q248 : ¬ (v230 = 2147483648) := q248
      have b361 := c239 (by first | decide | omega)
      refine x_aload (np := 81) (x := 0) (by decide +kernel) rfl (x_nc_le (by decide)) ?_
      refine x_iload (np := 82) (x := 1) (by decide +kernel) rfl l6 ?_
      have m365 := Tp.fr m233 f237 (by decide) (by decide)
      refine x_cI (t := 6) (mj := 101) (n := 2) (rc := 10) (ml := 5) (nr := 0) (np := 85) (as := [x_r 61, iv_c v5]) (rest := []) (lo1 := [x_r 61, iv_c v5, 147573952589676412928, 147573952589676412928, 147573952589676412928]) (by decide +kernel) (by decide) (by decide +kernel) (x_rb_of (by decide +kernel)) rfl rfl (x_wr (by decide) (x_wi l6 x_wn)) x_wn (by decide) rfl (c101_61 j236  (by first | decide | omega) m365) (fun v362 h366 l363 q364 => ?_)
      obtain ⟨j367, f368, b369, c370, c371, c372⟩ := q364
      have f373 := Fr.trans f242 f368 (by decide)
      have q374 : h235 61 1 = h223 61 1 := f237 61 1 (by decide +kernel)
      have q375 : h223 61 1 = h183 61 1 := by rw [← e225]; exact x_up_k (Ne.symm (tne_8_61 t1))
      have q376 : h183 61 1 = h91 61 1 := f185 61 1 (by decide +kernel)
      have q377 : h91 61 1 = h79 61 1 := f93 61 1 (by decide +kernel)
      have q378 : h79 61 1 = h41 61 1 := by rw [← e81]; exact x_up_k (Ne.symm (tne_8_61 t1))
      have q379 : h41 61 1 = h8 61 1 := f43 61 1 (by decide +kernel)
      have q380 : h8 61 1 = h 61 1 := f10 61 1 (by decide +kernel)
      have q381 : h235 ((h 61 1) + 8) (1 + 4 * u76) = h223 ((h 61 1) + 8) (1 + 4 * u76) := jK u76 f237 (rg_T8_1_4_10 t1) (by first | decide | omega) (by first | decide | omega) (by decide)
      have q382 : h223 ((h 61 1) + 8) (1 + 4 * u76) = v179 := by rw [← e225]; exact x_up_at
      have z383 := c371 (h 61 1) u76 ((((((q374.trans q375).trans q376).trans q377).trans q378).trans q379).trans q380) (by first | decide | omega)
      refine x_ifz (k := 1) (tg := 90) (np := 88) (by decide +kernel) (by decide) l363 (fun q384 => ?_) (fun q385 => ?_)
      · have q384 : v362 ≠ 2147483648 := q384
        refine x_aload (np := 91) (x := 0) (by decide +kernel) rfl (x_nc_le (by decide)) ?_
        have q386 : h366 61 0 = 1 := by have z := jB (e := 0) 0 j367 rg_61_0_0_1 (by decide) (by decide); omega
        refine x_getR (np := 94) (x := 576) (f := 0) (q := 1) (by decide +kernel) (by decide) (by decide +kernel) q386 ?_
        refine x_ldcB (i := 16) (idx := 163) (tx := "known") (by rw [tb_y100]; exact List.mem_of_getElem? (i := 16) rfl) (by decide) (by rw [tb_b100]; decide +kernel) ?_
        have m390 := Tp.fr m365 f368 (by decide) (by decide)
        refine x_cI (t := 6) (mj := 78) (n := 2) (rc := 8) (ml := 2) (nr := 0) (np := 99) (as := [x_r 1, x_b (16 + 1)]) (rest := []) (lo1 := [x_r 1, x_b (16 + 1)]) (by decide +kernel) (by decide) (by decide +kernel) (x_rb_of (by decide +kernel)) rfl rfl (x_wr (by decide) (x_wB (by decide) x_wn)) x_wn (by decide) rfl (c78_1_S0 j367  (by decide) m390) (fun v387 h391 l388 q389 => ?_)
        obtain ⟨j392, f393, b394, c395, c396, c397⟩ := q389
        have f398 := Fr.trans f373 f393 (by decide)
        have b399 := jB (e := 2) 0 j367 rg_1_2_0_1 (by first | decide | omega) (by first | decide | omega)
        have b400 := jB (e := 2) 0 j392 rg_1_2_0_1 (by first | decide | omega) (by first | decide | omega)
        have b401 : iv_tl 16 = 5 := by decide
        refine x_ifz (k := 0) (tg := 136) (np := 102) (by decide +kernel) (by decide) l388 (fun q402 => ?_) (fun q403 => ?_)
        · have q402 : v387 = 2147483648 := q402
          have b404 := c396 (by first | decide | omega)
          refine x_const (np := 137) (x := 9223372039002259456) (a := 2147483648) (by decide +kernel) (by decide) (by decide) ?_
          have e405 : rv h 0 = (h (h 61 1) 7) := (congrArg (fun z => svq h z 0) rfl).trans rfl
          have q406 : h391 61 1 = h366 61 1 := f393 61 1 (by decide +kernel)
          have q407 : h366 61 1 = h235 61 1 := f368 61 1 (by decide +kernel)
          have q408 : h235 61 1 = h223 61 1 := f237 61 1 (by decide +kernel)
          have q409 : h223 61 1 = h183 61 1 := by rw [← e225]; exact x_up_k (Ne.symm (tne_8_61 t1))
          have q410 : h183 61 1 = h91 61 1 := f185 61 1 (by decide +kernel)
          have q411 : h91 61 1 = h79 61 1 := f93 61 1 (by decide +kernel)
          have q412 : h79 61 1 = h41 61 1 := by rw [← e81]; exact x_up_k (Ne.symm (tne_8_61 t1))
          have q413 : h41 61 1 = h8 61 1 := f43 61 1 (by decide +kernel)
          have q414 : h8 61 1 = h 61 1 := f10 61 1 (by decide +kernel)
          have q415 : h391 (h 61 1) 7 = h366 (h 61 1) 7 := jK 0 f393 (rg_T0_7_0_1 t1) (by first | decide | omega) (by first | decide | omega) (by decide)
          have q416 : h366 (h 61 1) 7 = h235 (h 61 1) 7 := jK 0 f368 (rg_T0_7_0_1 t1) (by first | decide | omega) (by first | decide | omega) (by decide)
          have q417 : h235 (h 61 1) 7 = h223 (h 61 1) 7 := jK 0 f237 (rg_T0_7_0_1 t1) (by first | decide | omega) (by first | decide | omega) (by decide)
          have q418 : h223 (h 61 1) 7 = h183 (h 61 1) 7 := by rw [← e225]; exact x_up_k tof_0_8
          have q419 : h183 (h 61 1) 7 = h91 (h 61 1) 7 := jK 0 f185 (rg_T0_7_0_1 t1) (by first | decide | omega) (by first | decide | omega) (by decide)
          have q420 : h91 (h 61 1) 7 = h79 (h 61 1) 7 := jK 0 f93 (rg_T0_7_0_1 t1) (by first | decide | omega) (by first | decide | omega) (by decide)
          have q421 : h79 (h 61 1) 7 = h41 (h 61 1) 7 := by rw [← e81]; exact x_up_k tof_0_8
          have q422 : h41 (h 61 1) 7 = h8 (h 61 1) 7 := jK 0 f43 (rg_T0_7_0_1 t1) (by first | decide | omega) (by first | decide | omega) (by decide)
          have e423 : rv h391 0 = (h8 (h 61 1) 7) := (congrArg (fun z => svq h391 z 0) ((((((((q406.trans q407).trans q408).trans q409).trans q410).trans q411).trans q412).trans q413).trans q414)).trans (((((((q415.trans q416).trans q417).trans q418).trans q419).trans q420).trans q421).trans q422)
          have e424 : rv h 1 = (h (h 61 1) 8) := (congrArg (fun z => svq h z 1) rfl).trans rfl
          have q425 : h391 61 1 = h366 61 1 := f393 61 1 (by decide +kernel)
          have q426 : h366 61 1 = h235 61 1 := f368 61 1 (by decide +kernel)
          have q427 : h235 61 1 = h223 61 1 := f237 61 1 (by decide +kernel)
          have q428 : h223 61 1 = h183 61 1 := by rw [← e225]; exact x_up_k (Ne.symm (tne_8_61 t1))
          have q429 : h183 61 1 = h91 61 1 := f185 61 1 (by decide +kernel)
          have q430 : h91 61 1 = h79 61 1 := f93 61 1 (by decide +kernel)
          have q431 : h79 61 1 = h41 61 1 := by rw [← e81]; exact x_up_k (Ne.symm (tne_8_61 t1))
          have q432 : h41 61 1 = h8 61 1 := f43 61 1 (by decide +kernel)
          have q433 : h8 61 1 = h 61 1 := f10 61 1 (by decide +kernel)
          have q434 : h391 (h 61 1) 8 = h366 (h 61 1) 8 := jK 0 f393 (rg_T0_8_0_1 t1) (by first | decide | omega) (by first | decide | omega) (by decide)
          have q435 : h366 (h 61 1) 8 = h235 (h 61 1) 8 := jK 0 f368 (rg_T0_8_0_1 t1) (by first | decide | omega) (by first | decide | omega) (by decide)
          have q436 : h235 (h 61 1) 8 = h223 (h 61 1) 8 := jK 0 f237 (rg_T0_8_0_1 t1) (by first | decide | omega) (by first | decide | omega) (by decide)
          have q437 : h223 (h 61 1) 8 = h183 (h 61 1) 8 := by rw [← e225]; exact x_up_k tof_0_8
          have q438 : h183 (h 61 1) 8 = h91 (h 61 1) 8 := jK 0 f185 (rg_T0_8_0_1 t1) (by first | decide | omega) (by first | decide | omega) (by decide)
          have q439 : h91 (h 61 1) 8 = h79 (h 61 1) 8 := jK 0 f93 (rg_T0_8_0_1 t1) (by first | decide | omega) (by first | decide | omega) (by decide)
          have q440 : h79 (h 61 1) 8 = h41 (h 61 1) 8 := by rw [← e81]; exact x_up_k tof_0_8
          have q441 : h41 (h 61 1) 8 = h8 (h 61 1) 8 := jK 0 f43 (rg_T0_8_0_1 t1) (by first | decide | omega) (by first | decide | omega) (by decide)
          have e442 : rv h391 1 = (h8 (h 61 1) 8) := (congrArg (fun z => svq h391 z 1) ((((((((q425.trans q426).trans q427).trans q428).trans q429).trans q430).trans q431).trans q432).trans q433)).trans (((((((q434.trans q435).trans q436).trans q437).trans q438).trans q439).trans q440).trans q441)
          have e443 : rv h 2 = (h ((h 61 1) + 1) 2) := (congrArg (fun z => svq h z 2) rfl).trans rfl
          have q444 : h391 61 1 = h366 61 1 := f393 61 1 (by decide +kernel)
          have q445 : h366 61 1 = h235 61 1 := f368 61 1 (by decide +kernel)
          have q446 : h235 61 1 = h223 61 1 := f237 61 1 (by decide +kernel)
          have q447 : h223 61 1 = h183 61 1 := by rw [← e225]; exact x_up_k (Ne.symm (tne_8_61 t1))
          have q448 : h183 61 1 = h91 61 1 := f185 61 1 (by decide +kernel)
          have q449 : h91 61 1 = h79 61 1 := f93 61 1 (by decide +kernel)
          have q450 : h79 61 1 = h41 61 1 := by rw [← e81]; exact x_up_k (Ne.symm (tne_8_61 t1))
          have q451 : h41 61 1 = h8 61 1 := f43 61 1 (by decide +kernel)
          have q452 : h8 61 1 = h 61 1 := f10 61 1 (by decide +kernel)
          have q453 : h391 ((h 61 1) + 1) 2 = h366 ((h 61 1) + 1) 2 := jK 0 f393 (rg_T1_2_0_1 t1) (by first | decide | omega) (by first | decide | omega) (by decide)
          have q454 : h366 ((h 61 1) + 1) 2 = h235 ((h 61 1) + 1) 2 := jK 0 f368 (rg_T1_2_0_1 t1) (by first | decide | omega) (by first | decide | omega) (by decide)
          have q455 : h235 ((h 61 1) + 1) 2 = h223 ((h 61 1) + 1) 2 := jK 0 f237 (rg_T1_2_0_1 t1) (by first | decide | omega) (by first | decide | omega) (by decide)
          have q456 : h223 ((h 61 1) + 1) 2 = h183 ((h 61 1) + 1) 2 := by rw [← e225]; exact x_up_k tof_1_8
          have q457 : h183 ((h 61 1) + 1) 2 = h91 ((h 61 1) + 1) 2 := jK 0 f185 (rg_T1_2_0_1 t1) (by first | decide | omega) (by first | decide | omega) (by decide)
          have q458 : h91 ((h 61 1) + 1) 2 = h79 ((h 61 1) + 1) 2 := jK 0 f93 (rg_T1_2_0_1 t1) (by first | decide | omega) (by first | decide | omega) (by decide)
          have q459 : h79 ((h 61 1) + 1) 2 = h41 ((h 61 1) + 1) 2 := by rw [← e81]; exact x_up_k tof_1_8
          have q460 : h41 ((h 61 1) + 1) 2 = h8 ((h 61 1) + 1) 2 := jK 0 f43 (rg_T1_2_0_1 t1) (by first | decide | omega) (by first | decide | omega) (by decide)
          have e461 : rv h391 2 = (h8 ((h 61 1) + 1) 2) := (congrArg (fun z => svq h391 z 2) ((((((((q444.trans q445).trans q446).trans q447).trans q448).trans q449).trans q450).trans q451).trans q452)).trans (((((((q453.trans q454).trans q455).trans q456).trans q457).trans q458).trans q459).trans q460)
          have e462 : rv h 3 = (h ((h 61 1) + 3) 2) := (congrArg (fun z => svq h z 3) rfl).trans rfl
          have q463 : h391 61 1 = h366 61 1 := f393 61 1 (by decide +kernel)
          have q464 : h366 61 1 = h235 61 1 := f368 61 1 (by decide +kernel)
          have q465 : h235 61 1 = h223 61 1 := f237 61 1 (by decide +kernel)
          have q466 : h223 61 1 = h183 61 1 := by rw [← e225]; exact x_up_k (Ne.symm (tne_8_61 t1))
          have q467 : h183 61 1 = h91 61 1 := f185 61 1 (by decide +kernel)
          have q468 : h91 61 1 = h79 61 1 := f93 61 1 (by decide +kernel)
          have q469 : h79 61 1 = h41 61 1 := by rw [← e81]; exact x_up_k (Ne.symm (tne_8_61 t1))
          have q470 : h41 61 1 = h8 61 1 := f43 61 1 (by decide +kernel)
          have q471 : h8 61 1 = h 61 1 := f10 61 1 (by decide +kernel)
          have q472 : h391 ((h 61 1) + 3) 2 = h366 ((h 61 1) + 3) 2 := jK 0 f393 (rg_T3_2_0_1 t1) (by first | decide | omega) (by first | decide | omega) (by decide)
          have q473 : h366 ((h 61 1) + 3) 2 = h235 ((h 61 1) + 3) 2 := jK 0 f368 (rg_T3_2_0_1 t1) (by first | decide | omega) (by first | decide | omega) (by decide)
          have q474 : h235 ((h 61 1) + 3) 2 = h223 ((h 61 1) + 3) 2 := jK 0 f237 (rg_T3_2_0_1 t1) (by first | decide | omega) (by first | decide | omega) (by decide)
          have q475 : h223 ((h 61 1) + 3) 2 = h183 ((h 61 1) + 3) 2 := by rw [← e225]; exact x_up_k tof_3_8
          have q476 : h183 ((h 61 1) + 3) 2 = h91 ((h 61 1) + 3) 2 := jK 0 f185 (rg_T3_2_0_1 t1) (by first | decide | omega) (by first | decide | omega) (by decide)
          have q477 : h91 ((h 61 1) + 3) 2 = h79 ((h 61 1) + 3) 2 := jK 0 f93 (rg_T3_2_0_1 t1) (by first | decide | omega) (by first | decide | omega) (by decide)
          have q478 : h79 ((h 61 1) + 3) 2 = h41 ((h 61 1) + 3) 2 := by rw [← e81]; exact x_up_k tof_3_8
          have q479 : h41 ((h 61 1) + 3) 2 = h8 ((h 61 1) + 3) 2 := jK 0 f43 (rg_T3_2_0_1 t1) (by first | decide | omega) (by first | decide | omega) (by decide)
          have e480 : rv h391 3 = (h8 ((h 61 1) + 3) 2) := (congrArg (fun z => svq h391 z 3) ((((((((q463.trans q464).trans q465).trans q466).trans q467).trans q468).trans q469).trans q470).trans q471)).trans (((((((q472.trans q473).trans q474).trans q475).trans q476).trans q477).trans q478).trans q479)
          have e481 : rv h 4 = (h ((h 61 1) + 5) 2) := (congrArg (fun z => svq h z 4) rfl).trans rfl
          have q482 : h391 61 1 = h366 61 1 := f393 61 1 (by decide +kernel)
          have q483 : h366 61 1 = h235 61 1 := f368 61 1 (by decide +kernel)
          have q484 : h235 61 1 = h223 61 1 := f237 61 1 (by decide +kernel)
          have q485 : h223 61 1 = h183 61 1 := by rw [← e225]; exact x_up_k (Ne.symm (tne_8_61 t1))
          have q486 : h183 61 1 = h91 61 1 := f185 61 1 (by decide +kernel)
          have q487 : h91 61 1 = h79 61 1 := f93 61 1 (by decide +kernel)
          have q488 : h79 61 1 = h41 61 1 := by rw [← e81]; exact x_up_k (Ne.symm (tne_8_61 t1))
          have q489 : h41 61 1 = h8 61 1 := f43 61 1 (by decide +kernel)
          have q490 : h8 61 1 = h 61 1 := f10 61 1 (by decide +kernel)
          have q491 : h391 ((h 61 1) + 5) 2 = h366 ((h 61 1) + 5) 2 := jK 0 f393 (rg_T5_2_0_1 t1) (by first | decide | omega) (by first | decide | omega) (by decide)
          have q492 : h366 ((h 61 1) + 5) 2 = h235 ((h 61 1) + 5) 2 := jK 0 f368 (rg_T5_2_0_1 t1) (by first | decide | omega) (by first | decide | omega) (by decide)
          have q493 : h235 ((h 61 1) + 5) 2 = h223 ((h 61 1) + 5) 2 := jK 0 f237 (rg_T5_2_0_1 t1) (by first | decide | omega) (by first | decide | omega) (by decide)
          have q494 : h223 ((h 61 1) + 5) 2 = h183 ((h 61 1) + 5) 2 := by rw [← e225]; exact x_up_k tof_5_8
          have q495 : h183 ((h 61 1) + 5) 2 = h91 ((h 61 1) + 5) 2 := jK 0 f185 (rg_T5_2_0_1 t1) (by first | decide | omega) (by first | decide | omega) (by decide)
          have q496 : h91 ((h 61 1) + 5) 2 = h79 ((h 61 1) + 5) 2 := jK 0 f93 (rg_T5_2_0_1 t1) (by first | decide | omega) (by first | decide | omega) (by decide)
          have q497 : h79 ((h 61 1) + 5) 2 = h41 ((h 61 1) + 5) 2 := by rw [← e81]; exact x_up_k tof_5_8
          have q498 : h41 ((h 61 1) + 5) 2 = h8 ((h 61 1) + 5) 2 := jK 0 f43 (rg_T5_2_0_1 t1) (by first | decide | omega) (by first | decide | omega) (by decide)
          have e499 : rv h391 4 = (h8 ((h 61 1) + 5) 2) := (congrArg (fun z => svq h391 z 4) ((((((((q482.trans q483).trans q484).trans q485).trans q486).trans q487).trans q488).trans q489).trans q490)).trans (((((((q491.trans q492).trans q493).trans q494).trans q495).trans q496).trans q497).trans q498)
          have q500 : h391 61 1 = h366 61 1 := f393 61 1 (by decide +kernel)
          have q501 : h366 61 1 = h235 61 1 := f368 61 1 (by decide +kernel)
          have q502 : h235 61 1 = h223 61 1 := f237 61 1 (by decide +kernel)
          have q503 : h223 61 1 = h183 61 1 := by rw [← e225]; exact x_up_k (Ne.symm (tne_8_61 t1))
          have q504 : h183 61 1 = h91 61 1 := f185 61 1 (by decide +kernel)
          have q505 : h91 61 1 = h79 61 1 := f93 61 1 (by decide +kernel)
          have q506 : h79 61 1 = h41 61 1 := by rw [← e81]; exact x_up_k (Ne.symm (tne_8_61 t1))
          have q507 : h41 61 1 = h8 61 1 := f43 61 1 (by decide +kernel)
          have q508 : h8 61 1 = h 61 1 := f10 61 1 (by decide +kernel)
          have q509 : h391 ((h 61 1) + 7) 2 = h366 ((h 61 1) + 7) 2 := jK 0 f393 (rg_T7_2_0_1 t1) (by first | decide | omega) (by first | decide | omega) (by decide)
          have q510 : h366 ((h 61 1) + 7) 2 = h235 ((h 61 1) + 7) 2 := jK 0 f368 (rg_T7_2_0_1 t1) (by first | decide | omega) (by first | decide | omega) (by decide)
          have q511 : h235 ((h 61 1) + 7) 2 = h223 ((h 61 1) + 7) 2 := jK 0 f237 (rg_T7_2_0_1 t1) (by first | decide | omega) (by first | decide | omega) (by decide)
          have q512 : h223 ((h 61 1) + 7) 2 = h183 ((h 61 1) + 7) 2 := by rw [← e225]; exact x_up_k tof_7_8
          have q513 : h183 ((h 61 1) + 7) 2 = h91 ((h 61 1) + 7) 2 := jK 0 f185 (rg_T7_2_0_1 t1) (by first | decide | omega) (by first | decide | omega) (by decide)
          have q514 : h91 ((h 61 1) + 7) 2 = h79 ((h 61 1) + 7) 2 := jK 0 f93 (rg_T7_2_0_1 t1) (by first | decide | omega) (by first | decide | omega) (by decide)
          have q515 : h79 ((h 61 1) + 7) 2 = h41 ((h 61 1) + 7) 2 := by rw [← e81]; exact x_up_k tof_7_8
          have q516 : h41 ((h 61 1) + 7) 2 = h8 ((h 61 1) + 7) 2 := jK 0 f43 (rg_T7_2_0_1 t1) (by first | decide | omega) (by first | decide | omega) (by decide)
          have e517 : rv h391 5 = (h8 ((h 61 1) + 7) 2) := (congrArg (fun z => svq h391 z 5) ((((((((q500.trans q501).trans q502).trans q503).trans q504).trans q505).trans q506).trans q507).trans q508)).trans (((((((q509.trans q510).trans q511).trans q512).trans q513).trans q514).trans q515).trans q516)
          have q518 : h8 1 2 = h 1 2 := jK 0 f10 rg_1_2_0_1 (by first | decide | omega) (by first | decide | omega) (by decide)
          have q519 : h79 1 2 = h41 1 2 := by rw [← e81]; exact x_up_k (Ne.symm (tne_8_1 t1))
          obtain ⟨w520, e521⟩ := Tk.yes c97 (by first | decide | omega)
          have q522 : h223 1 2 = h183 1 2 := by rw [← e225]; exact x_up_k (Ne.symm (tne_8_1 t1))
          obtain ⟨w523, e524⟩ := Tk.yes c241 (by first | decide | omega)
          have q525 : h235 61 1 = h223 61 1 := f237 61 1 (by decide +kernel)
          have q526 : h223 61 1 = h183 61 1 := by rw [← e225]; exact x_up_k (Ne.symm (tne_8_61 t1))
          have q527 : h183 61 1 = h91 61 1 := f185 61 1 (by decide +kernel)
          have q528 : h91 61 1 = h79 61 1 := f93 61 1 (by decide +kernel)
          have q529 : h79 61 1 = h41 61 1 := by rw [← e81]; exact x_up_k (Ne.symm (tne_8_61 t1))
          have q530 : h41 61 1 = h8 61 1 := f43 61 1 (by decide +kernel)
          have q531 : h8 61 1 = h 61 1 := f10 61 1 (by decide +kernel)
          have q532 : h235 (h 61 1) 7 = h223 (h 61 1) 7 := jK 0 f237 (rg_T0_7_0_1 t1) (by first | decide | omega) (by first | decide | omega) (by decide)
          have q533 : h223 (h 61 1) 7 = h183 (h 61 1) 7 := by rw [← e225]; exact x_up_k tof_0_8
          have q534 : h183 (h 61 1) 7 = h91 (h 61 1) 7 := jK 0 f185 (rg_T0_7_0_1 t1) (by first | decide | omega) (by first | decide | omega) (by decide)
          have q535 : h91 (h 61 1) 7 = h79 (h 61 1) 7 := jK 0 f93 (rg_T0_7_0_1 t1) (by first | decide | omega) (by first | decide | omega) (by decide)
          have q536 : h79 (h 61 1) 7 = h41 (h 61 1) 7 := by rw [← e81]; exact x_up_k tof_0_8
          have q537 : h41 (h 61 1) 7 = h8 (h 61 1) 7 := jK 0 f43 (rg_T0_7_0_1 t1) (by first | decide | omega) (by first | decide | omega) (by decide)
          have e538 : rv h235 0 = (h8 (h 61 1) 7) := (congrArg (fun z => svq h235 z 0) ((((((q525.trans q526).trans q527).trans q528).trans q529).trans q530).trans q531)).trans (((((q532.trans q533).trans q534).trans q535).trans q536).trans q537)
          obtain ⟨w539, e540⟩ := Tk.no c397 (by first | decide | omega)
          have m541 : Ot (h 61 1) h h8 := Ot.trans Ot.refl (c19)
          have m542 : Ot (h 61 1) h h41 := Ot.fr m541 f43 (by decide)
          have m543 : Ot (h 61 1) h h79 := by rw [← e81]; exact Ot.up (o := 8) m542 t1 (by decide) rfl
          have m544 : Ot (h 61 1) h h91 := Ot.fr m543 f93 (by decide)
          have m545 : Ot (h 61 1) h h183 := Ot.fr m544 f185 (by decide)
          have m546 : Ot (h 61 1) h h223 := by rw [← e225]; exact Ot.up (o := 8) m545 t1 (by decide) rfl
          have m547 : Ot (h 61 1) h h235 := Ot.fr m546 f237 (by decide)
          have m548 : Ot (h 61 1) h h366 := Ot.fr m547 f368 (by decide)
          have m549 : Ot (h 61 1) h h391 := Ot.fr m548 f393 (by decide)
          have q550 : h8 1 2 = h 1 2 := jK 0 f10 rg_1_2_0_1 (by first | decide | omega) (by first | decide | omega) (by decide)
          have q551 : h79 1 2 = h41 1 2 := by rw [← e81]; exact x_up_k (Ne.symm (tne_8_1 t1))
          obtain ⟨w552, e553⟩ := Tk.yes c97 (by first | decide | omega)
          have q554 : h223 1 2 = h183 1 2 := by rw [← e225]; exact x_up_k (Ne.symm (tne_8_1 t1))
          obtain ⟨w555, e556⟩ := Tk.yes c241 (by first | decide | omega)
          have q557 : h235 61 1 = h223 61 1 := f237 61 1 (by decide +kernel)
          have q558 : h223 61 1 = h183 61 1 := by rw [← e225]; exact x_up_k (Ne.symm (tne_8_61 t1))
          have q559 : h183 61 1 = h91 61 1 := f185 61 1 (by decide +kernel)
          have q560 : h91 61 1 = h79 61 1 := f93 61 1 (by decide +kernel)
          have q561 : h79 61 1 = h41 61 1 := by rw [← e81]; exact x_up_k (Ne.symm (tne_8_61 t1))
          have q562 : h41 61 1 = h8 61 1 := f43 61 1 (by decide +kernel)
          have q563 : h8 61 1 = h 61 1 := f10 61 1 (by decide +kernel)
          have q564 : h235 (h 61 1) 7 = h223 (h 61 1) 7 := jK 0 f237 (rg_T0_7_0_1 t1) (by first | decide | omega) (by first | decide | omega) (by decide)
          have q565 : h223 (h 61 1) 7 = h183 (h 61 1) 7 := by rw [← e225]; exact x_up_k tof_0_8
          have q566 : h183 (h 61 1) 7 = h91 (h 61 1) 7 := jK 0 f185 (rg_T0_7_0_1 t1) (by first | decide | omega) (by first | decide | omega) (by decide)
          have q567 : h91 (h 61 1) 7 = h79 (h 61 1) 7 := jK 0 f93 (rg_T0_7_0_1 t1) (by first | decide | omega) (by first | decide | omega) (by decide)
          have q568 : h79 (h 61 1) 7 = h41 (h 61 1) 7 := by rw [← e81]; exact x_up_k tof_0_8
          have q569 : h41 (h 61 1) 7 = h8 (h 61 1) 7 := jK 0 f43 (rg_T0_7_0_1 t1) (by first | decide | omega) (by first | decide | omega) (by decide)
          obtain ⟨w570, e571⟩ := Tk.no c397 (by first | decide | omega)
          refine x_retI (np := 138) (x := 0) (by decide +kernel) (by decide) (Or.inr ⟨by decide +kernel, by first | decide | omega, by first | decide | omega⟩) ⟨_, rfl, (by decide), ?_⟩
          exact ⟨j392, f398, (by first | decide | omega), (by first | decide | omega), (by first | decide | omega), (by first | decide | omega), (by first | decide | omega), (by first | decide | omega), (fun z => by first | decide | omega), (nm9.y c48 (by first | decide | omega) (by first | decide | omega) (show h8 1 2 = h 1 2 by first | decide | omega) (by first | decide | omega) rfl (wd9.y w520 (show h79 1 2 = h41 1 2 by first | decide | omega) e521 rfl (nm9.y c190 (by first | decide | omega) (by first | decide | omega) rfl (by first | decide | omega) rfl (wd9.y w523 (show h223 1 2 = h183 1 2 by first | decide | omega) e524 rfl (bl9.y c370 (by first | decide | omega) rfl (by first | decide | omega) rfl (wd9.f w539 rfl (by first | decide | omega))))))), m549, (fun _ => (mF.y c48 (by first | decide | omega) (by first | decide | omega) (show h8 1 2 = h 1 2 by first | decide | omega) (by first | decide | omega) rfl (wF.y w552 (show h79 1 2 = h41 1 2 by first | decide | omega) e553 rfl (mF.y c190 (by first | decide | omega) (by first | decide | omega) rfl (by first | decide | omega) rfl (wF.y w555 (show h223 1 2 = h183 1 2 by first | decide | omega) e556 rfl (bF.y c370 (by first | decide | omega) rfl (by first | decide | omega) rfl (wF.no w570 rfl (show h391 1 2 = h366 1 2 by first | decide | omega))))))))⟩
        have q403 : ¬ (v387 = 2147483648) := q403
        have b572 := c395 (by first | decide | omega)
        refine x_aload (np := 103) (x := 0) (by decide +kernel) rfl (x_nc_le (by decide)) ?_
        refine x_aload (np := 104) (x := 0) (by decide +kernel) rfl (x_nc_le (by decide)) ?_
        have q573 : h391 61 1 = h366 61 1 := f393 61 1 (by decide +kernel)
        have q574 : h366 61 1 = h235 61 1 := f368 61 1 (by decide +kernel)
        have q575 : h235 61 1 = h223 61 1 := f237 61 1 (by decide +kernel)
        have q576 : h223 61 1 = h183 61 1 := by rw [← e225]; exact x_up_k (Ne.symm (tne_8_61 t1))
        have q577 : h183 61 1 = h91 61 1 := f185 61 1 (by decide +kernel)
        have q578 : h91 61 1 = h79 61 1 := f93 61 1 (by decide +kernel)
        have q579 : h79 61 1 = h41 61 1 := by rw [← e81]; exact x_up_k (Ne.symm (tne_8_61 t1))
        have q580 : h41 61 1 = h8 61 1 := f43 61 1 (by decide +kernel)
        have q581 : h8 61 1 = h 61 1 := f10 61 1 (by decide +kernel)
        refine x_getR (np := 107) (x := 577) (f := 1) (q := (h 61 1)) (by decide +kernel) (by decide) (by decide +kernel) ((((((((q573.trans q574).trans q575).trans q576).trans q577).trans q578).trans q579).trans q580).trans q581) ?_
        have q582 : h391 (h 61 1) 3 = ((h 61 1) + 7) := tf_0_3 j392 t1
        refine x_getR (np := 110) (x := 515) (f := 3) (q := ((h 61 1) + 7)) (by decide +kernel) (by decide) (tg_0_515_3_1 t1) q582 ?_
        refine x_iload (np := 111) (x := 1) (by decide +kernel) rfl l6 ?_
        refine x_const (np := 112) (x := 9223372051887161347) (a := 2147483651) (by decide +kernel) (by decide) (by decide) ?_
        refine x_aload (np := 113) (x := 0) (by decide +kernel) rfl (x_nc_le (by decide)) ?_
        have q583 : h391 61 1 = h366 61 1 := f393 61 1 (by decide +kernel)
        have q584 : h366 61 1 = h235 61 1 := f368 61 1 (by decide +kernel)
        have q585 : h235 61 1 = h223 61 1 := f237 61 1 (by decide +kernel)
        have q586 : h223 61 1 = h183 61 1 := by rw [← e225]; exact x_up_k (Ne.symm (tne_8_61 t1))
        have q587 : h183 61 1 = h91 61 1 := f185 61 1 (by decide +kernel)
        have q588 : h91 61 1 = h79 61 1 := f93 61 1 (by decide +kernel)
        have q589 : h79 61 1 = h41 61 1 := by rw [← e81]; exact x_up_k (Ne.symm (tne_8_61 t1))
        have q590 : h41 61 1 = h8 61 1 := f43 61 1 (by decide +kernel)
        have q591 : h8 61 1 = h 61 1 := f10 61 1 (by decide +kernel)
        refine x_getR (np := 116) (x := 577) (f := 1) (q := (h 61 1)) (by decide +kernel) (by decide) (by decide +kernel) ((((((((q583.trans q584).trans q585).trans q586).trans q587).trans q588).trans q589).trans q590).trans q591) ?_
        have q592 : h391 (h 61 1) 3 = ((h 61 1) + 7) := tf_0_3 j392 t1
        refine x_getR (np := 119) (x := 515) (f := 3) (q := ((h 61 1) + 7)) (by decide +kernel) (by decide) (tg_0_515_3_1 t1) q592 ?_
        refine x_iload (np := 120) (x := 1) (by decide +kernel) rfl l6 ?_
        refine x_const (np := 121) (x := 9223372043297226753) (a := 2147483649) (by decide +kernel) (by decide) (by decide) ?_
        refine x_nI (t := 6) (mj := 68) (n := 3) (rc := 7) (ml := 4) (nr := 4) (np := 124) (as := [x_r ((h 61 1) + 7), iv_c v5, iv_c 2147483649]) (rest := [iv_c 2147483651, iv_c v5, x_r ((h 61 1) + 7), x_r 61]) (lo1 := [x_r ((h 61 1) + 7), iv_c v5, iv_c 2147483649, 147573952589676412928]) (by decide +kernel) (by decide) (by decide +kernel) (x_rb_of (tr_7_7 t1)) rfl rfl (x_wr (tn_7 t1) (x_wi l6 (x_wi (by decide) x_wn))) (x_wi (by decide) (x_wi l6 (x_wr (tn_7 t1) (x_wr (by decide) x_wn)))) (by decide) rfl ?_
        refine x_iload (np := 1) (x := 1) (by decide +kernel) rfl l6 ?_
        refine x_ifz (k := 2) (tg := 28) (np := 4) (by decide +kernel) (by decide) l6 (fun q601 => ?_) (fun q602 => ?_)
        · have q601 : v5 < 2147483648 := q601
          exfalso; omega
        have q602 : ¬ (v5 < 2147483648) := q602
        refine x_iload (np := 5) (x := 1) (by decide +kernel) rfl l6 ?_
        refine x_aload (np := 6) (x := 0) (by decide +kernel) rfl (x_nc_le (tn_7 t1)) ?_
        have q603 : h391 ((h 61 1) + 7) 2 = h366 ((h 61 1) + 7) 2 := jK 0 f393 (rg_T7_2_0_1 t1) (by first | decide | omega) (by first | decide | omega) (by decide)
        have q604 : h366 ((h 61 1) + 7) 2 = h235 ((h 61 1) + 7) 2 := jK 0 f368 (rg_T7_2_0_1 t1) (by first | decide | omega) (by first | decide | omega) (by decide)
        have q605 : h235 ((h 61 1) + 7) 2 = h223 ((h 61 1) + 7) 2 := jK 0 f237 (rg_T7_2_0_1 t1) (by first | decide | omega) (by first | decide | omega) (by decide)
        have q606 : h223 ((h 61 1) + 7) 2 = h183 ((h 61 1) + 7) 2 := by rw [← e225]; exact x_up_k tof_7_8
        have q607 : h183 ((h 61 1) + 7) 2 = h91 ((h 61 1) + 7) 2 := jK 0 f185 (rg_T7_2_0_1 t1) (by first | decide | omega) (by first | decide | omega) (by decide)
        have q608 : h91 ((h 61 1) + 7) 2 = h79 ((h 61 1) + 7) 2 := jK 0 f93 (rg_T7_2_0_1 t1) (by first | decide | omega) (by first | decide | omega) (by decide)
        have q609 : h79 ((h 61 1) + 7) 2 = h41 ((h 61 1) + 7) 2 := by rw [← e81]; exact x_up_k tof_7_8
        have q610 : h41 ((h 61 1) + 7) 2 = h8 ((h 61 1) + 7) 2 := jK 0 f43 (rg_T7_2_0_1 t1) (by first | decide | omega) (by first | decide | omega) (by decide)
        refine x_getC (np := 9) (x := 386) (f := 2) (q := (h8 ((h 61 1) + 7) 2)) (by decide +kernel) (by decide) (tg_7_386_2_0 t1) (((((((q603.trans q604).trans q605).trans q606).trans q607).trans q608).trans q609).trans q610) (fun l611 => ?_)
        refine x_icmp (k := 3) (tg := 28) (np := 12) (by decide +kernel) (by decide) l6 l60 (fun q612 => ?_) (fun q613 => ?_)
        · have q612 : (h8 ((h 61 1) + 7) 2) ≤ v5 := q612
          exfalso; omega
        have q613 : ¬ ((h8 ((h 61 1) + 7) 2) ≤ v5) := q613
        refine x_iload (np := 13) (x := 2) (by decide +kernel) rfl (by decide) ?_
        refine x_ifz (k := 2) (tg := 28) (np := 16) (by decide +kernel) (by decide) (by decide) (fun q614 => ?_) (fun q615 => ?_)
        · have q614 : 2147483649 < 2147483648 := q614
          exfalso; omega
        have q615 : ¬ (2147483649 < 2147483648) := q615
        refine x_iload (np := 17) (x := 2) (by decide +kernel) rfl (by decide) ?_
        refine x_aload (np := 18) (x := 0) (by decide +kernel) rfl (x_nc_le (tn_7 t1)) ?_
        have q616 : h391 ((h 61 1) + 7) 0 = h366 ((h 61 1) + 7) 0 := jK 0 f393 (rg_T7_0_0_1 t1) (by first | decide | omega) (by first | decide | omega) (by decide)
        have b617 := jB (e := 0) 0 j367 (rg_T7_0_0_1 t1) (by first | decide | omega) (by first | decide | omega)
        have q618 : (h366 ((h 61 1) + 7) 0) = 2147483652 := by first | decide | omega
        refine x_getC (np := 21) (x := 384) (f := 0) (q := 2147483652) (by decide +kernel) (by decide) (tg_7_384_0_0 t1) (q616.trans q618) (fun l619 => ?_)
        refine x_icmp (k := 3) (tg := 28) (np := 24) (by decide +kernel) (by decide) (by decide) (by decide) (fun q620 => ?_) (fun q621 => ?_)
        · have q620 : 2147483652 ≤ 2147483649 := q620
          exfalso; omega
        have q621 : ¬ (2147483652 ≤ 2147483649) := q621
        refine x_const (np := 25) (x := 9223372043297226753) (a := 2147483649) (by decide +kernel) (by decide) (by decide) ?_
        refine x_goto (np := 28) (x := 29) (by decide +kernel) ?_
        refine x_istore (np := 30) (x := 3) (lo' := [x_r ((h 61 1) + 7), iv_c v5, iv_c 2147483649, iv_c 2147483649]) (by decide +kernel) (by decide) (Nat.le_of_ble_eq_true rfl) rfl ?_
        refine x_iload (np := 31) (x := 3) (by decide +kernel) rfl (by decide) ?_
        refine x_ifz (k := 0) (tg := 50) (np := 34) (by decide +kernel) (by decide) (by decide) (fun q622 => ?_) (fun q623 => ?_)
        · have q622 : 2147483649 = 2147483648 := q622
          exfalso; omega
        have q623 : ¬ (2147483649 = 2147483648) := q623
        refine x_aload (np := 35) (x := 0) (by decide +kernel) rfl (x_nc_le (tn_7 t1)) ?_
        have q624 : h391 ((h 61 1) + 7) 1 = ((h 61 1) + 8) := tf_7_1 j392 t1
        refine x_getR (np := 38) (x := 385) (f := 1) (q := ((h 61 1) + 8)) (by decide +kernel) (by decide) (tg_7_385_1_1 t1) q624 ?_
        refine x_iload (np := 39) (x := 1) (by decide +kernel) rfl l6 ?_
        refine x_aload (np := 40) (x := 0) (by decide +kernel) rfl (x_nc_le (tn_7 t1)) ?_
        have q625 : h391 ((h 61 1) + 7) 0 = h366 ((h 61 1) + 7) 0 := jK 0 f393 (rg_T7_0_0_1 t1) (by first | decide | omega) (by first | decide | omega) (by decide)
        refine x_getC (np := 43) (x := 384) (f := 0) (q := 2147483652) (by decide +kernel) (by decide) (tg_7_384_0_0 t1) (q625.trans q618) (fun l626 => ?_)
        refine x_imul (np := 44) (x := 0) (i := u76) (j := 4) (v := (2147483648 + 4 * u76)) (by decide +kernel) (by first | decide | omega) (by first | decide | omega) (by first | decide | omega) (by first | decide | omega) l6 (by decide) ?_
        refine x_iload (np := 45) (x := 2) (by decide +kernel) rfl (by decide) ?_
        refine x_iadd (np := 46) (x := 0) (v := (2147483649 + 4 * u76)) (by decide +kernel) (by first | decide | omega) (by decide) (by first | decide | omega) (by first | decide | omega) ?_
        have q628 : h391 ((h 61 1) + 8) (1 + 4 * u76) = h366 ((h 61 1) + 8) (1 + 4 * u76) := jK u76 f393 (rg_T8_1_4_10 t1) (by first | decide | omega) (by first | decide | omega) (by decide)
        refine x_aldC (np := 47) (x := 0) (n := 40) (i := (1 + 4 * u76)) (q := ((h366 ((h 61 1) + 8) (1 + 4 * u76)))) (by decide +kernel) (ta_8_40 t1) (by first | decide | omega) (by first | decide | omega) (by decide) q628 (fun l629 => ?_)
        refine x_goto (np := 50) (x := 51) (by decide +kernel) ?_
        refine x_retI (np := 52) (x := 0) (by decide +kernel) l629 (Or.inl (by decide +kernel)) ⟨_, rfl, l629, ?_⟩
        refine x_const (np := 126) (x := 9223372086246899723) (a := 2147483659) (by decide +kernel) (by decide) (by decide) ?_
        refine x_nI (t := 6) (mj := 102) (n := 6) (rc := 10) (ml := 7) (nr := 0) (np := 129) (as := [x_r 61, x_r ((h 61 1) + 7), iv_c v5, iv_c 2147483651, iv_c ((h366 ((h 61 1) + 8) (1 + 4 * u76))), iv_c 2147483659]) (rest := []) (lo1 := [x_r 61, x_r ((h 61 1) + 7), iv_c v5, iv_c 2147483651, iv_c ((h366 ((h 61 1) + 8) (1 + 4 * u76))), iv_c 2147483659, 147573952589676412928]) (by decide +kernel) (by decide) (by decide +kernel) (x_rb_of (by decide +kernel)) rfl rfl (x_wr (by decide) (x_wr (tn_7 t1) (x_wi l6 (x_wi (by decide) (x_wi l629 (x_wi (by decide) x_wn)))))) x_wn (by decide) rfl ?_
        refine x_aload (np := 1) (x := 0) (by decide +kernel) rfl (x_nc_le (by decide)) ?_
        have q630 : h391 61 0 = 1 := by have z := jB (e := 0) 0 j392 rg_61_0_0_1 (by decide) (by decide); omega
        refine x_getR (np := 4) (x := 576) (f := 0) (q := 1) (by decide +kernel) (by decide) (by decide +kernel) q630 ?_
        refine x_iload (np := 6) (x := 4) (by decide +kernel) rfl l629 ?_
        refine x_iload (np := 8) (x := 5) (by decide +kernel) rfl (by decide) ?_
        have m634 := Tp.fr m390 f393 (by decide) (by decide)
        refine x_cI (t := 6) (mj := 79) (n := 3) (rc := 8) (ml := 5) (nr := 0) (np := 11) (as := [x_r 1, iv_c ((h366 ((h 61 1) + 8) (1 + 4 * u76))), iv_c 2147483659]) (rest := []) (lo1 := [x_r 1, iv_c ((h366 ((h 61 1) + 8) (1 + 4 * u76))), iv_c 2147483659, 147573952589676412928, 147573952589676412928]) (by decide +kernel) (by decide) (by decide +kernel) (x_rb_of (by decide +kernel)) rfl rfl (x_wr (by decide) (x_wi l629 (x_wi (by decide) x_wn))) x_wn (by decide) rfl (c79_1 j392  (by first | decide | omega) (by first | decide | omega) m634) (fun v631 h635 l632 q633 => ?_)
        obtain ⟨j636, f637, b638, c639, c640, c641, c642⟩ := q633
        have f643 := Fr.trans f398 f637 (by decide)
        have b644 := jB (e := 2) 0 j636 rg_1_2_0_1 (by first | decide | omega) (by first | decide | omega)
        refine x_istore (np := 13) (x := 6) (lo' := [x_r 61, x_r ((h 61 1) + 7), iv_c v5, iv_c 2147483651, iv_c ((h366 ((h 61 1) + 8) (1 + 4 * u76))), iv_c 2147483659, iv_c v631]) (by decide +kernel) l632 (Nat.le_of_ble_eq_true rfl) rfl ?_
        refine x_iload (np := 15) (x := 6) (by decide +kernel) rfl l632 ?_
        refine x_const (np := 16) (x := 9223372034707292159) (a := 2147483647) (by decide +kernel) (by decide) (by decide) ?_
        refine x_icmp (k := 1) (tg := 21) (np := 19) (by decide +kernel) (by decide) l632 (by decide) (fun q645 => ?_) (fun q646 => ?_)
        · have q645 : v631 ≠ 2147483647 := q645
          have b647 := c640 (by first | decide | omega)
          refine x_aload (np := 22) (x := 1) (by decide +kernel) rfl (x_nc_le (tn_7 t1)) ?_
          refine x_iload (np := 23) (x := 2) (by decide +kernel) rfl l6 ?_
          refine x_iload (np := 24) (x := 3) (by decide +kernel) rfl (by decide) ?_
          refine x_iload (np := 26) (x := 6) (by decide +kernel) rfl l632 ?_
          refine x_nV (t := 6) (mj := 69) (n := 4) (rc := 7) (ml := 5) (nr := 0) (np := 29) (as := [x_r ((h 61 1) + 7), iv_c v5, iv_c 2147483651, iv_c v631]) (rest := []) (lo1 := [x_r ((h 61 1) + 7), iv_c v5, iv_c 2147483651, iv_c v631, 147573952589676412928]) (by decide +kernel) (by decide) (by decide +kernel) (x_rb_of (tr_7_7 t1)) rfl rfl (x_wr (tn_7 t1) (x_wi l6 (x_wi (by decide) (x_wi l632 x_wn)))) x_wn (by decide) rfl ?_
          refine x_iload (np := 1) (x := 1) (by decide +kernel) rfl l6 ?_
          refine x_ifz (k := 2) (tg := 28) (np := 4) (by decide +kernel) (by decide) l6 (fun q648 => ?_) (fun q649 => ?_)
          · have q648 : v5 < 2147483648 := q648
            exfalso; omega
          have q649 : ¬ (v5 < 2147483648) := q649
          refine x_iload (np := 5) (x := 1) (by decide +kernel) rfl l6 ?_
          refine x_aload (np := 6) (x := 0) (by decide +kernel) rfl (x_nc_le (tn_7 t1)) ?_
          have q650 : h635 ((h 61 1) + 7) 2 = h391 ((h 61 1) + 7) 2 := jK 0 f637 (rg_T7_2_0_1 t1) (by first | decide | omega) (by first | decide | omega) (by decide)
          have q651 : h391 ((h 61 1) + 7) 2 = h366 ((h 61 1) + 7) 2 := jK 0 f393 (rg_T7_2_0_1 t1) (by first | decide | omega) (by first | decide | omega) (by decide)
          have q652 : h366 ((h 61 1) + 7) 2 = h235 ((h 61 1) + 7) 2 := jK 0 f368 (rg_T7_2_0_1 t1) (by first | decide | omega) (by first | decide | omega) (by decide)
          have q653 : h235 ((h 61 1) + 7) 2 = h223 ((h 61 1) + 7) 2 := jK 0 f237 (rg_T7_2_0_1 t1) (by first | decide | omega) (by first | decide | omega) (by decide)
          have q654 : h223 ((h 61 1) + 7) 2 = h183 ((h 61 1) + 7) 2 := by rw [← e225]; exact x_up_k tof_7_8
          have q655 : h183 ((h 61 1) + 7) 2 = h91 ((h 61 1) + 7) 2 := jK 0 f185 (rg_T7_2_0_1 t1) (by first | decide | omega) (by first | decide | omega) (by decide)
          have q656 : h91 ((h 61 1) + 7) 2 = h79 ((h 61 1) + 7) 2 := jK 0 f93 (rg_T7_2_0_1 t1) (by first | decide | omega) (by first | decide | omega) (by decide)
          have q657 : h79 ((h 61 1) + 7) 2 = h41 ((h 61 1) + 7) 2 := by rw [← e81]; exact x_up_k tof_7_8
          have q658 : h41 ((h 61 1) + 7) 2 = h8 ((h 61 1) + 7) 2 := jK 0 f43 (rg_T7_2_0_1 t1) (by first | decide | omega) (by first | decide | omega) (by decide)
          refine x_getC (np := 9) (x := 386) (f := 2) (q := (h8 ((h 61 1) + 7) 2)) (by decide +kernel) (by decide) (tg_7_386_2_0 t1) ((((((((q650.trans q651).trans q652).trans q653).trans q654).trans q655).trans q656).trans q657).trans q658) (fun l659 => ?_)
          refine x_icmp (k := 3) (tg := 28) (np := 12) (by decide +kernel) (by decide) l6 l60 (fun q660 => ?_) (fun q661 => ?_)
          · have q660 : (h8 ((h 61 1) + 7) 2) ≤ v5 := q660
            exfalso; omega
          have q661 : ¬ ((h8 ((h 61 1) + 7) 2) ≤ v5) := q661
          refine x_iload (np := 13) (x := 2) (by decide +kernel) rfl (by decide) ?_
          refine x_ifz (k := 2) (tg := 28) (np := 16) (by decide +kernel) (by decide) (by decide) (fun q662 => ?_) (fun q663 => ?_)
          · have q662 : 2147483651 < 2147483648 := q662
            exfalso; omega
          have q663 : ¬ (2147483651 < 2147483648) := q663
          refine x_iload (np := 17) (x := 2) (by decide +kernel) rfl (by decide) ?_
          refine x_aload (np := 18) (x := 0) (by decide +kernel) rfl (x_nc_le (tn_7 t1)) ?_
          have q664 : h635 ((h 61 1) + 7) 0 = h391 ((h 61 1) + 7) 0 := jK 0 f637 (rg_T7_0_0_1 t1) (by first | decide | omega) (by first | decide | omega) (by decide)
          have q665 : h391 ((h 61 1) + 7) 0 = h366 ((h 61 1) + 7) 0 := jK 0 f393 (rg_T7_0_0_1 t1) (by first | decide | omega) (by first | decide | omega) (by decide)
          refine x_getC (np := 21) (x := 384) (f := 0) (q := 2147483652) (by decide +kernel) (by decide) (tg_7_384_0_0 t1) ((q664.trans q665).trans q618) (fun l666 => ?_)
          refine x_icmp (k := 3) (tg := 28) (np := 24) (by decide +kernel) (by decide) (by decide) (by decide) (fun q667 => ?_) (fun q668 => ?_)
          · have q667 : 2147483652 ≤ 2147483651 := q667
            exfalso; omega
          have q668 : ¬ (2147483652 ≤ 2147483651) := q668
          refine x_const (np := 25) (x := 9223372043297226753) (a := 2147483649) (by decide +kernel) (by decide) (by decide) ?_
          refine x_goto (np := 28) (x := 29) (by decide +kernel) ?_
          refine x_istore (np := 31) (x := 4) (lo' := [x_r ((h 61 1) + 7), iv_c v5, iv_c 2147483651, iv_c v631, iv_c 2147483649]) (by decide +kernel) (by decide) (Nat.le_of_ble_eq_true rfl) rfl ?_
          refine x_iload (np := 33) (x := 4) (by decide +kernel) rfl (by decide) ?_
          refine x_ifz (k := 0) (tg := 50) (np := 36) (by decide +kernel) (by decide) (by decide) (fun q669 => ?_) (fun q670 => ?_)
          · have q669 : 2147483649 = 2147483648 := q669
            exfalso; omega
          have q670 : ¬ (2147483649 = 2147483648) := q670
          refine x_aload (np := 37) (x := 0) (by decide +kernel) rfl (x_nc_le (tn_7 t1)) ?_
          have q671 : h635 ((h 61 1) + 7) 1 = ((h 61 1) + 8) := tf_7_1 j636 t1
          refine x_getR (np := 40) (x := 385) (f := 1) (q := ((h 61 1) + 8)) (by decide +kernel) (by decide) (tg_7_385_1_1 t1) q671 ?_
          refine x_iload (np := 41) (x := 1) (by decide +kernel) rfl l6 ?_
          refine x_aload (np := 42) (x := 0) (by decide +kernel) rfl (x_nc_le (tn_7 t1)) ?_
          have q672 : h635 ((h 61 1) + 7) 0 = h391 ((h 61 1) + 7) 0 := jK 0 f637 (rg_T7_0_0_1 t1) (by first | decide | omega) (by first | decide | omega) (by decide)
          have q673 : h391 ((h 61 1) + 7) 0 = h366 ((h 61 1) + 7) 0 := jK 0 f393 (rg_T7_0_0_1 t1) (by first | decide | omega) (by first | decide | omega) (by decide)
          refine x_getC (np := 45) (x := 384) (f := 0) (q := 2147483652) (by decide +kernel) (by decide) (tg_7_384_0_0 t1) ((q672.trans q673).trans q618) (fun l674 => ?_)
          refine x_imul (np := 46) (x := 0) (i := u76) (j := 4) (v := (2147483648 + 4 * u76)) (by decide +kernel) (by first | decide | omega) (by first | decide | omega) (by first | decide | omega) (by first | decide | omega) l6 (by decide) ?_
          refine x_iload (np := 47) (x := 2) (by decide +kernel) rfl (by decide) ?_
          refine x_iadd (np := 48) (x := 0) (v := (2147483651 + 4 * u76)) (by decide +kernel) (by first | decide | omega) (by decide) (by first | decide | omega) (by first | decide | omega) ?_
          refine x_iload (np := 49) (x := 3) (by decide +kernel) rfl l632 ?_
          refine x_ast (np := 50) (x := 0) (kd := 1) (n := 40) (i := (3 + 4 * u76)) (by decide +kernel) (Or.inl rfl) (ta_8_40 t1) (by first | decide | omega) (by first | decide | omega) (by decide) l632 (fun z => absurd z (by decide)) ?_
          have j677 := jU (e := (3 + 4 * u76)) (v := v631) u76 j636 (rg_T8_3_4_10 t1) (by first | decide | omega) (by first | decide | omega) (by first | decide | omega)
          have f679 := jF (e := (3 + 4 * u76)) (v := v631) u76 f643 (rg_T8_3_4_10 t1) (by first | decide | omega) (by first | decide | omega) (by decide)
          generalize e678 : x_up h635 ((h 61 1) + 8) (3 + 4 * u76) v631 = h676 at j677 f679 ⊢
          refine x_retV (np := 51) (x := 0) (by decide +kernel) (by decide +kernel) ⟨rfl, ?_⟩
          refine x_const (np := 30) (x := 9223372043297226753) (a := 2147483649) (by decide +kernel) (by decide) (by decide) ?_
          refine x_retI (np := 31) (x := 0) (by decide +kernel) (by decide) (Or.inr ⟨by decide +kernel, by first | decide | omega, by first | decide | omega⟩) ⟨_, rfl, (by decide), ?_⟩
          refine x_ifz (k := 0) (tg := 136) (np := 132) (by decide +kernel) (by decide) (by decide) (fun q680 => ?_) (fun q681 => ?_)
          · have q680 : 2147483649 = 2147483648 := q680
            exfalso; omega
          have q681 : ¬ (2147483649 = 2147483648) := q681
          refine x_const (np := 133) (x := 9223372043297226753) (a := 2147483649) (by decide +kernel) (by decide) (by decide) ?_
          refine x_goto (np := 136) (x := 137) (by decide +kernel) ?_
          have e682 : rv h 0 = (h (h 61 1) 7) := (congrArg (fun z => svq h z 0) rfl).trans rfl
          have q683 : h676 61 1 = h635 61 1 := by rw [← e678]; exact x_up_k (Ne.symm (tne_8_61 t1))
          have q684 : h635 61 1 = h391 61 1 := f637 61 1 (by decide +kernel)
          have q685 : h391 61 1 = h366 61 1 := f393 61 1 (by decide +kernel)
          have q686 : h366 61 1 = h235 61 1 := f368 61 1 (by decide +kernel)
          have q687 : h235 61 1 = h223 61 1 := f237 61 1 (by decide +kernel)
          have q688 : h223 61 1 = h183 61 1 := by rw [← e225]; exact x_up_k (Ne.symm (tne_8_61 t1))
          have q689 : h183 61 1 = h91 61 1 := f185 61 1 (by decide +kernel)
          have q690 : h91 61 1 = h79 61 1 := f93 61 1 (by decide +kernel)
          have q691 : h79 61 1 = h41 61 1 := by rw [← e81]; exact x_up_k (Ne.symm (tne_8_61 t1))
          have q692 : h41 61 1 = h8 61 1 := f43 61 1 (by decide +kernel)
          have q693 : h8 61 1 = h 61 1 := f10 61 1 (by decide +kernel)
          have q694 : h676 (h 61 1) 7 = h635 (h 61 1) 7 := by rw [← e678]; exact x_up_k tof_0_8
          have q695 : h635 (h 61 1) 7 = h391 (h 61 1) 7 := jK 0 f637 (rg_T0_7_0_1 t1) (by first | decide | omega) (by first | decide | omega) (by decide)
          have q696 : h391 (h 61 1) 7 = h366 (h 61 1) 7 := jK 0 f393 (rg_T0_7_0_1 t1) (by first | decide | omega) (by first | decide | omega) (by decide)
          have q697 : h366 (h 61 1) 7 = h235 (h 61 1) 7 := jK 0 f368 (rg_T0_7_0_1 t1) (by first | decide | omega) (by first | decide | omega) (by decide)
          have q698 : h235 (h 61 1) 7 = h223 (h 61 1) 7 := jK 0 f237 (rg_T0_7_0_1 t1) (by first | decide | omega) (by first | decide | omega) (by decide)
          have q699 : h223 (h 61 1) 7 = h183 (h 61 1) 7 := by rw [← e225]; exact x_up_k tof_0_8
          have q700 : h183 (h 61 1) 7 = h91 (h 61 1) 7 := jK 0 f185 (rg_T0_7_0_1 t1) (by first | decide | omega) (by first | decide | omega) (by decide)
          have q701 : h91 (h 61 1) 7 = h79 (h 61 1) 7 := jK 0 f93 (rg_T0_7_0_1 t1) (by first | decide | omega) (by first | decide | omega) (by decide)
          have q702 : h79 (h 61 1) 7 = h41 (h 61 1) 7 := by rw [← e81]; exact x_up_k tof_0_8
          have q703 : h41 (h 61 1) 7 = h8 (h 61 1) 7 := jK 0 f43 (rg_T0_7_0_1 t1) (by first | decide | omega) (by first | decide | omega) (by decide)
          have e704 : rv h676 0 = (h8 (h 61 1) 7) := (congrArg (fun z => svq h676 z 0) ((((((((((q683.trans q684).trans q685).trans q686).trans q687).trans q688).trans q689).trans q690).trans q691).trans q692).trans q693)).trans (((((((((q694.trans q695).trans q696).trans q697).trans q698).trans q699).trans q700).trans q701).trans q702).trans q703)
          have e705 : rv h 1 = (h (h 61 1) 8) := (congrArg (fun z => svq h z 1) rfl).trans rfl
          have q706 : h676 61 1 = h635 61 1 := by rw [← e678]; exact x_up_k (Ne.symm (tne_8_61 t1))
          have q707 : h635 61 1 = h391 61 1 := f637 61 1 (by decide +kernel)
          have q708 : h391 61 1 = h366 61 1 := f393 61 1 (by decide +kernel)
          have q709 : h366 61 1 = h235 61 1 := f368 61 1 (by decide +kernel)
          have q710 : h235 61 1 = h223 61 1 := f237 61 1 (by decide +kernel)
          have q711 : h223 61 1 = h183 61 1 := by rw [← e225]; exact x_up_k (Ne.symm (tne_8_61 t1))
          have q712 : h183 61 1 = h91 61 1 := f185 61 1 (by decide +kernel)
          have q713 : h91 61 1 = h79 61 1 := f93 61 1 (by decide +kernel)
          have q714 : h79 61 1 = h41 61 1 := by rw [← e81]; exact x_up_k (Ne.symm (tne_8_61 t1))
          have q715 : h41 61 1 = h8 61 1 := f43 61 1 (by decide +kernel)
          have q716 : h8 61 1 = h 61 1 := f10 61 1 (by decide +kernel)
          have q717 : h676 (h 61 1) 8 = h635 (h 61 1) 8 := by rw [← e678]; exact x_up_k tof_0_8
          have q718 : h635 (h 61 1) 8 = h391 (h 61 1) 8 := jK 0 f637 (rg_T0_8_0_1 t1) (by first | decide | omega) (by first | decide | omega) (by decide)
          have q719 : h391 (h 61 1) 8 = h366 (h 61 1) 8 := jK 0 f393 (rg_T0_8_0_1 t1) (by first | decide | omega) (by first | decide | omega) (by decide)
          have q720 : h366 (h 61 1) 8 = h235 (h 61 1) 8 := jK 0 f368 (rg_T0_8_0_1 t1) (by first | decide | omega) (by first | decide | omega) (by decide)
          have q721 : h235 (h 61 1) 8 = h223 (h 61 1) 8 := jK 0 f237 (rg_T0_8_0_1 t1) (by first | decide | omega) (by first | decide | omega) (by decide)
          have q722 : h223 (h 61 1) 8 = h183 (h 61 1) 8 := by rw [← e225]; exact x_up_k tof_0_8
          have q723 : h183 (h 61 1) 8 = h91 (h 61 1) 8 := jK 0 f185 (rg_T0_8_0_1 t1) (by first | decide | omega) (by first | decide | omega) (by decide)
          have q724 : h91 (h 61 1) 8 = h79 (h 61 1) 8 := jK 0 f93 (rg_T0_8_0_1 t1) (by first | decide | omega) (by first | decide | omega) (by decide)
          have q725 : h79 (h 61 1) 8 = h41 (h 61 1) 8 := by rw [← e81]; exact x_up_k tof_0_8
          have q726 : h41 (h 61 1) 8 = h8 (h 61 1) 8 := jK 0 f43 (rg_T0_8_0_1 t1) (by first | decide | omega) (by first | decide | omega) (by decide)
          have e727 : rv h676 1 = (h8 (h 61 1) 8) := (congrArg (fun z => svq h676 z 1) ((((((((((q706.trans q707).trans q708).trans q709).trans q710).trans q711).trans q712).trans q713).trans q714).trans q715).trans q716)).trans (((((((((q717.trans q718).trans q719).trans q720).trans q721).trans q722).trans q723).trans q724).trans q725).trans q726)
          have e728 : rv h 2 = (h ((h 61 1) + 1) 2) := (congrArg (fun z => svq h z 2) rfl).trans rfl
          have q729 : h676 61 1 = h635 61 1 := by rw [← e678]; exact x_up_k (Ne.symm (tne_8_61 t1))
          have q730 : h635 61 1 = h391 61 1 := f637 61 1 (by decide +kernel)
          have q731 : h391 61 1 = h366 61 1 := f393 61 1 (by decide +kernel)
          have q732 : h366 61 1 = h235 61 1 := f368 61 1 (by decide +kernel)
          have q733 : h235 61 1 = h223 61 1 := f237 61 1 (by decide +kernel)
          have q734 : h223 61 1 = h183 61 1 := by rw [← e225]; exact x_up_k (Ne.symm (tne_8_61 t1))
          have q735 : h183 61 1 = h91 61 1 := f185 61 1 (by decide +kernel)
          have q736 : h91 61 1 = h79 61 1 := f93 61 1 (by decide +kernel)
          have q737 : h79 61 1 = h41 61 1 := by rw [← e81]; exact x_up_k (Ne.symm (tne_8_61 t1))
          have q738 : h41 61 1 = h8 61 1 := f43 61 1 (by decide +kernel)
          have q739 : h8 61 1 = h 61 1 := f10 61 1 (by decide +kernel)
          have q740 : h676 ((h 61 1) + 1) 2 = h635 ((h 61 1) + 1) 2 := by rw [← e678]; exact x_up_k tof_1_8
          have q741 : h635 ((h 61 1) + 1) 2 = h391 ((h 61 1) + 1) 2 := jK 0 f637 (rg_T1_2_0_1 t1) (by first | decide | omega) (by first | decide | omega) (by decide)
          have q742 : h391 ((h 61 1) + 1) 2 = h366 ((h 61 1) + 1) 2 := jK 0 f393 (rg_T1_2_0_1 t1) (by first | decide | omega) (by first | decide | omega) (by decide)
          have q743 : h366 ((h 61 1) + 1) 2 = h235 ((h 61 1) + 1) 2 := jK 0 f368 (rg_T1_2_0_1 t1) (by first | decide | omega) (by first | decide | omega) (by decide)
          have q744 : h235 ((h 61 1) + 1) 2 = h223 ((h 61 1) + 1) 2 := jK 0 f237 (rg_T1_2_0_1 t1) (by first | decide | omega) (by first | decide | omega) (by decide)
          have q745 : h223 ((h 61 1) + 1) 2 = h183 ((h 61 1) + 1) 2 := by rw [← e225]; exact x_up_k tof_1_8
          have q746 : h183 ((h 61 1) + 1) 2 = h91 ((h 61 1) + 1) 2 := jK 0 f185 (rg_T1_2_0_1 t1) (by first | decide | omega) (by first | decide | omega) (by decide)
          have q747 : h91 ((h 61 1) + 1) 2 = h79 ((h 61 1) + 1) 2 := jK 0 f93 (rg_T1_2_0_1 t1) (by first | decide | omega) (by first | decide | omega) (by decide)
          have q748 : h79 ((h 61 1) + 1) 2 = h41 ((h 61 1) + 1) 2 := by rw [← e81]; exact x_up_k tof_1_8
          have q749 : h41 ((h 61 1) + 1) 2 = h8 ((h 61 1) + 1) 2 := jK 0 f43 (rg_T1_2_0_1 t1) (by first | decide | omega) (by first | decide | omega) (by decide)
          have e750 : rv h676 2 = (h8 ((h 61 1) + 1) 2) := (congrArg (fun z => svq h676 z 2) ((((((((((q729.trans q730).trans q731).trans q732).trans q733).trans q734).trans q735).trans q736).trans q737).trans q738).trans q739)).trans (((((((((q740.trans q741).trans q742).trans q743).trans q744).trans q745).trans q746).trans q747).trans q748).trans q749)
          have e751 : rv h 3 = (h ((h 61 1) + 3) 2) := (congrArg (fun z => svq h z 3) rfl).trans rfl
          have q752 : h676 61 1 = h635 61 1 := by rw [← e678]; exact x_up_k (Ne.symm (tne_8_61 t1))
          have q753 : h635 61 1 = h391 61 1 := f637 61 1 (by decide +kernel)
          have q754 : h391 61 1 = h366 61 1 := f393 61 1 (by decide +kernel)
          have q755 : h366 61 1 = h235 61 1 := f368 61 1 (by decide +kernel)
          have q756 : h235 61 1 = h223 61 1 := f237 61 1 (by decide +kernel)
          have q757 : h223 61 1 = h183 61 1 := by rw [← e225]; exact x_up_k (Ne.symm (tne_8_61 t1))
          have q758 : h183 61 1 = h91 61 1 := f185 61 1 (by decide +kernel)
          have q759 : h91 61 1 = h79 61 1 := f93 61 1 (by decide +kernel)
          have q760 : h79 61 1 = h41 61 1 := by rw [← e81]; exact x_up_k (Ne.symm (tne_8_61 t1))
          have q761 : h41 61 1 = h8 61 1 := f43 61 1 (by decide +kernel)
          have q762 : h8 61 1 = h 61 1 := f10 61 1 (by decide +kernel)
          have q763 : h676 ((h 61 1) + 3) 2 = h635 ((h 61 1) + 3) 2 := by rw [← e678]; exact x_up_k tof_3_8
          have q764 : h635 ((h 61 1) + 3) 2 = h391 ((h 61 1) + 3) 2 := jK 0 f637 (rg_T3_2_0_1 t1) (by first | decide | omega) (by first | decide | omega) (by decide)
          have q765 : h391 ((h 61 1) + 3) 2 = h366 ((h 61 1) + 3) 2 := jK 0 f393 (rg_T3_2_0_1 t1) (by first | decide | omega) (by first | decide | omega) (by decide)
          have q766 : h366 ((h 61 1) + 3) 2 = h235 ((h 61 1) + 3) 2 := jK 0 f368 (rg_T3_2_0_1 t1) (by first | decide | omega) (by first | decide | omega) (by decide)
          have q767 : h235 ((h 61 1) + 3) 2 = h223 ((h 61 1) + 3) 2 := jK 0 f237 (rg_T3_2_0_1 t1) (by first | decide | omega) (by first | decide | omega) (by decide)
          have q768 : h223 ((h 61 1) + 3) 2 = h183 ((h 61 1) + 3) 2 := by rw [← e225]; exact x_up_k tof_3_8
          have q769 : h183 ((h 61 1) + 3) 2 = h91 ((h 61 1) + 3) 2 := jK 0 f185 (rg_T3_2_0_1 t1) (by first | decide | omega) (by first | decide | omega) (by decide)
          have q770 : h91 ((h 61 1) + 3) 2 = h79 ((h 61 1) + 3) 2 := jK 0 f93 (rg_T3_2_0_1 t1) (by first | decide | omega) (by first | decide | omega) (by decide)
          have q771 : h79 ((h 61 1) + 3) 2 = h41 ((h 61 1) + 3) 2 := by rw [← e81]; exact x_up_k tof_3_8
          have q772 : h41 ((h 61 1) + 3) 2 = h8 ((h 61 1) + 3) 2 := jK 0 f43 (rg_T3_2_0_1 t1) (by first | decide | omega) (by first | decide | omega) (by decide)
          have e773 : rv h676 3 = (h8 ((h 61 1) + 3) 2) := (congrArg (fun z => svq h676 z 3) ((((((((((q752.trans q753).trans q754).trans q755).trans q756).trans q757).trans q758).trans q759).trans q760).trans q761).trans q762)).trans (((((((((q763.trans q764).trans q765).trans q766).trans q767).trans q768).trans q769).trans q770).trans q771).trans q772)
          have e774 : rv h 4 = (h ((h 61 1) + 5) 2) := (congrArg (fun z => svq h z 4) rfl).trans rfl
          have q775 : h676 61 1 = h635 61 1 := by rw [← e678]; exact x_up_k (Ne.symm (tne_8_61 t1))
          have q776 : h635 61 1 = h391 61 1 := f637 61 1 (by decide +kernel)
          have q777 : h391 61 1 = h366 61 1 := f393 61 1 (by decide +kernel)
          have q778 : h366 61 1 = h235 61 1 := f368 61 1 (by decide +kernel)
          have q779 : h235 61 1 = h223 61 1 := f237 61 1 (by decide +kernel)
          have q780 : h223 61 1 = h183 61 1 := by rw [← e225]; exact x_up_k (Ne.symm (tne_8_61 t1))
          have q781 : h183 61 1 = h91 61 1 := f185 61 1 (by decide +kernel)
          have q782 : h91 61 1 = h79 61 1 := f93 61 1 (by decide +kernel)
          have q783 : h79 61 1 = h41 61 1 := by rw [← e81]; exact x_up_k (Ne.symm (tne_8_61 t1))
          have q784 : h41 61 1 = h8 61 1 := f43 61 1 (by decide +kernel)
          have q785 : h8 61 1 = h 61 1 := f10 61 1 (by decide +kernel)
          have q786 : h676 ((h 61 1) + 5) 2 = h635 ((h 61 1) + 5) 2 := by rw [← e678]; exact x_up_k tof_5_8
          have q787 : h635 ((h 61 1) + 5) 2 = h391 ((h 61 1) + 5) 2 := jK 0 f637 (rg_T5_2_0_1 t1) (by first | decide | omega) (by first | decide | omega) (by decide)
          have q788 : h391 ((h 61 1) + 5) 2 = h366 ((h 61 1) + 5) 2 := jK 0 f393 (rg_T5_2_0_1 t1) (by first | decide | omega) (by first | decide | omega) (by decide)
          have q789 : h366 ((h 61 1) + 5) 2 = h235 ((h 61 1) + 5) 2 := jK 0 f368 (rg_T5_2_0_1 t1) (by first | decide | omega) (by first | decide | omega) (by decide)
          have q790 : h235 ((h 61 1) + 5) 2 = h223 ((h 61 1) + 5) 2 := jK 0 f237 (rg_T5_2_0_1 t1) (by first | decide | omega) (by first | decide | omega) (by decide)
          have q791 : h223 ((h 61 1) + 5) 2 = h183 ((h 61 1) + 5) 2 := by rw [← e225]; exact x_up_k tof_5_8
          have q792 : h183 ((h 61 1) + 5) 2 = h91 ((h 61 1) + 5) 2 := jK 0 f185 (rg_T5_2_0_1 t1) (by first | decide | omega) (by first | decide | omega) (by decide)
          have q793 : h91 ((h 61 1) + 5) 2 = h79 ((h 61 1) + 5) 2 := jK 0 f93 (rg_T5_2_0_1 t1) (by first | decide | omega) (by first | decide | omega) (by decide)
          have q794 : h79 ((h 61 1) + 5) 2 = h41 ((h 61 1) + 5) 2 := by rw [← e81]; exact x_up_k tof_5_8
          have q795 : h41 ((h 61 1) + 5) 2 = h8 ((h 61 1) + 5) 2 := jK 0 f43 (rg_T5_2_0_1 t1) (by first | decide | omega) (by first | decide | omega) (by decide)
          have e796 : rv h676 4 = (h8 ((h 61 1) + 5) 2) := (congrArg (fun z => svq h676 z 4) ((((((((((q775.trans q776).trans q777).trans q778).trans q779).trans q780).trans q781).trans q782).trans q783).trans q784).trans q785)).trans (((((((((q786.trans q787).trans q788).trans q789).trans q790).trans q791).trans q792).trans q793).trans q794).trans q795)
          have q797 : h676 61 1 = h635 61 1 := by rw [← e678]; exact x_up_k (Ne.symm (tne_8_61 t1))
          have q798 : h635 61 1 = h391 61 1 := f637 61 1 (by decide +kernel)
          have q799 : h391 61 1 = h366 61 1 := f393 61 1 (by decide +kernel)
          have q800 : h366 61 1 = h235 61 1 := f368 61 1 (by decide +kernel)
          have q801 : h235 61 1 = h223 61 1 := f237 61 1 (by decide +kernel)
          have q802 : h223 61 1 = h183 61 1 := by rw [← e225]; exact x_up_k (Ne.symm (tne_8_61 t1))
          have q803 : h183 61 1 = h91 61 1 := f185 61 1 (by decide +kernel)
          have q804 : h91 61 1 = h79 61 1 := f93 61 1 (by decide +kernel)
          have q805 : h79 61 1 = h41 61 1 := by rw [← e81]; exact x_up_k (Ne.symm (tne_8_61 t1))
          have q806 : h41 61 1 = h8 61 1 := f43 61 1 (by decide +kernel)
          have q807 : h8 61 1 = h 61 1 := f10 61 1 (by decide +kernel)
          have q808 : h676 ((h 61 1) + 7) 2 = h635 ((h 61 1) + 7) 2 := by rw [← e678]; exact x_up_k tof_7_8
          have q809 : h635 ((h 61 1) + 7) 2 = h391 ((h 61 1) + 7) 2 := jK 0 f637 (rg_T7_2_0_1 t1) (by first | decide | omega) (by first | decide | omega) (by decide)
          have q810 : h391 ((h 61 1) + 7) 2 = h366 ((h 61 1) + 7) 2 := jK 0 f393 (rg_T7_2_0_1 t1) (by first | decide | omega) (by first | decide | omega) (by decide)
          have q811 : h366 ((h 61 1) + 7) 2 = h235 ((h 61 1) + 7) 2 := jK 0 f368 (rg_T7_2_0_1 t1) (by first | decide | omega) (by first | decide | omega) (by decide)
          have q812 : h235 ((h 61 1) + 7) 2 = h223 ((h 61 1) + 7) 2 := jK 0 f237 (rg_T7_2_0_1 t1) (by first | decide | omega) (by first | decide | omega) (by decide)
          have q813 : h223 ((h 61 1) + 7) 2 = h183 ((h 61 1) + 7) 2 := by rw [← e225]; exact x_up_k tof_7_8
          have q814 : h183 ((h 61 1) + 7) 2 = h91 ((h 61 1) + 7) 2 := jK 0 f185 (rg_T7_2_0_1 t1) (by first | decide | omega) (by first | decide | omega) (by decide)
          have q815 : h91 ((h 61 1) + 7) 2 = h79 ((h 61 1) + 7) 2 := jK 0 f93 (rg_T7_2_0_1 t1) (by first | decide | omega) (by first | decide | omega) (by decide)
          have q816 : h79 ((h 61 1) + 7) 2 = h41 ((h 61 1) + 7) 2 := by rw [← e81]; exact x_up_k tof_7_8
          have q817 : h41 ((h 61 1) + 7) 2 = h8 ((h 61 1) + 7) 2 := jK 0 f43 (rg_T7_2_0_1 t1) (by first | decide | omega) (by first | decide | omega) (by decide)
          have e818 : rv h676 5 = (h8 ((h 61 1) + 7) 2) := (congrArg (fun z => svq h676 z 5) ((((((((((q797.trans q798).trans q799).trans q800).trans q801).trans q802).trans q803).trans q804).trans q805).trans q806).trans q807)).trans (((((((((q808.trans q809).trans q810).trans q811).trans q812).trans q813).trans q814).trans q815).trans q816).trans q817)
          have q819 : h8 1 2 = h 1 2 := jK 0 f10 rg_1_2_0_1 (by first | decide | omega) (by first | decide | omega) (by decide)
          have q820 : h79 1 2 = h41 1 2 := by rw [← e81]; exact x_up_k (Ne.symm (tne_8_1 t1))
          obtain ⟨w821, e822⟩ := Tk.yes c97 (by first | decide | omega)
          have q823 : h223 1 2 = h183 1 2 := by rw [← e225]; exact x_up_k (Ne.symm (tne_8_1 t1))
          obtain ⟨w824, e825⟩ := Tk.yes c241 (by first | decide | omega)
          have q826 : h235 61 1 = h223 61 1 := f237 61 1 (by decide +kernel)
          have q827 : h223 61 1 = h183 61 1 := by rw [← e225]; exact x_up_k (Ne.symm (tne_8_61 t1))
          have q828 : h183 61 1 = h91 61 1 := f185 61 1 (by decide +kernel)
          have q829 : h91 61 1 = h79 61 1 := f93 61 1 (by decide +kernel)
          have q830 : h79 61 1 = h41 61 1 := by rw [← e81]; exact x_up_k (Ne.symm (tne_8_61 t1))
          have q831 : h41 61 1 = h8 61 1 := f43 61 1 (by decide +kernel)
          have q832 : h8 61 1 = h 61 1 := f10 61 1 (by decide +kernel)
          have q833 : h235 (h 61 1) 7 = h223 (h 61 1) 7 := jK 0 f237 (rg_T0_7_0_1 t1) (by first | decide | omega) (by first | decide | omega) (by decide)
          have q834 : h223 (h 61 1) 7 = h183 (h 61 1) 7 := by rw [← e225]; exact x_up_k tof_0_8
          have q835 : h183 (h 61 1) 7 = h91 (h 61 1) 7 := jK 0 f185 (rg_T0_7_0_1 t1) (by first | decide | omega) (by first | decide | omega) (by decide)
          have q836 : h91 (h 61 1) 7 = h79 (h 61 1) 7 := jK 0 f93 (rg_T0_7_0_1 t1) (by first | decide | omega) (by first | decide | omega) (by decide)
          have q837 : h79 (h 61 1) 7 = h41 (h 61 1) 7 := by rw [← e81]; exact x_up_k tof_0_8
          have q838 : h41 (h 61 1) 7 = h8 (h 61 1) 7 := jK 0 f43 (rg_T0_7_0_1 t1) (by first | decide | omega) (by first | decide | omega) (by decide)
          have e839 : rv h235 0 = (h8 (h 61 1) 7) := (congrArg (fun z => svq h235 z 0) ((((((q826.trans q827).trans q828).trans q829).trans q830).trans q831).trans q832)).trans (((((q833.trans q834).trans q835).trans q836).trans q837).trans q838)
          obtain ⟨w840, e841⟩ := Tk.yes c397 (by first | decide | omega)
          have q842 : h676 1 2 = h635 1 2 := by rw [← e678]; exact x_up_k (Ne.symm (tne_8_1 t1))
          have m843 : Ot (h 61 1) h h8 := Ot.trans Ot.refl (c19)
          have m844 : Ot (h 61 1) h h41 := Ot.fr m843 f43 (by decide)
          have m845 : Ot (h 61 1) h h79 := by rw [← e81]; exact Ot.up (o := 8) m844 t1 (by decide) rfl
          have m846 : Ot (h 61 1) h h91 := Ot.fr m845 f93 (by decide)
          have m847 : Ot (h 61 1) h h183 := Ot.fr m846 f185 (by decide)
          have m848 : Ot (h 61 1) h h223 := by rw [← e225]; exact Ot.up (o := 8) m847 t1 (by decide) rfl
          have m849 : Ot (h 61 1) h h235 := Ot.fr m848 f237 (by decide)
          have m850 : Ot (h 61 1) h h366 := Ot.fr m849 f368 (by decide)
          have m851 : Ot (h 61 1) h h391 := Ot.fr m850 f393 (by decide)
          have m852 : Ot (h 61 1) h h635 := Ot.fr m851 f637 (by decide)
          have m853 : Ot (h 61 1) h h676 := by rw [← e678]; exact Ot.up (o := 8) m852 t1 (by decide) rfl
          refine x_retI (np := 138) (x := 0) (by decide +kernel) (by decide) (Or.inr ⟨by decide +kernel, by first | decide | omega, by first | decide | omega⟩) ⟨_, rfl, (by decide), ?_⟩
          exact ⟨j677, f679, (by first | decide | omega), (by first | decide | omega), (by first | decide | omega), (by first | decide | omega), (by first | decide | omega), (by first | decide | omega), (fun z => by first | decide | omega), (nm9.y c48 (by first | decide | omega) (by first | decide | omega) (show h8 1 2 = h 1 2 by first | decide | omega) (by first | decide | omega) rfl (wd9.y w821 (show h79 1 2 = h41 1 2 by first | decide | omega) e822 rfl (nm9.y c190 (by first | decide | omega) (by first | decide | omega) rfl (by first | decide | omega) rfl (wd9.y w824 (show h223 1 2 = h183 1 2 by first | decide | omega) e825 rfl (bl9.y c370 (by first | decide | omega) rfl (by first | decide | omega) rfl (wd9.y w840 rfl e841 rfl (nm9.y c642 (by first | decide | omega) (by first | decide | omega) rfl (by first | decide | omega) rfl (fin9.mk (by first | decide | omega) (show h635 1 2 = h676 1 2 by first | decide | omega))))))))), m853, (fun z => absurd z (by first | decide | omega))⟩
        have q646 : ¬ (v631 ≠ 2147483647) := q646
        have b854 := c641 (by first | decide | omega)
        refine x_const (np := 20) (x := 9223372039002259456) (a := 2147483648) (by decide +kernel) (by decide) (by decide) ?_
        refine x_retI (np := 21) (x := 0) (by decide +kernel) (by decide) (Or.inr ⟨by decide +kernel, by first | decide | omega, by first | decide | omega⟩) ⟨_, rfl, (by decide), ?_⟩
        refine x_ifz (k := 0) (tg := 136) (np := 132) (by decide +kernel) (by decide) (by decide) (fun q855 => ?_) (fun q856 => ?_)
        · have q855 : 2147483648 = 2147483648 := q855
          refine x_const (np := 137) (x := 9223372039002259456) (a := 2147483648) (by decide +kernel) (by decide) (by decide) ?_
          have e857 : rv h 0 = (h (h 61 1) 7) := (congrArg (fun z => svq h z 0) rfl).trans rfl
          have q858 : h635 61 1 = h391 61 1 := f637 61 1 (by decide +kernel)
          have q859 : h391 61 1 = h366 61 1 := f393 61 1 (by decide +kernel)
          have q860 : h366 61 1 = h235 61 1 := f368 61 1 (by decide +kernel)
          have q861 : h235 61 1 = h223 61 1 := f237 61 1 (by decide +kernel)
          have q862 : h223 61 1 = h183 61 1 := by rw [← e225]; exact x_up_k (Ne.symm (tne_8_61 t1))
          have q863 : h183 61 1 = h91 61 1 := f185 61 1 (by decide +kernel)
          have q864 : h91 61 1 = h79 61 1 := f93 61 1 (by decide +kernel)
          have q865 : h79 61 1 = h41 61 1 := by rw [← e81]; exact x_up_k (Ne.symm (tne_8_61 t1))
          have q866 : h41 61 1 = h8 61 1 := f43 61 1 (by decide +kernel)
          have q867 : h8 61 1 = h 61 1 := f10 61 1 (by decide +kernel)
          have q868 : h635 (h 61 1) 7 = h391 (h 61 1) 7 := jK 0 f637 (rg_T0_7_0_1 t1) (by first | decide | omega) (by first | decide | omega) (by decide)
          have q869 : h391 (h 61 1) 7 = h366 (h 61 1) 7 := jK 0 f393 (rg_T0_7_0_1 t1) (by first | decide | omega) (by first | decide | omega) (by decide)
          have q870 : h366 (h 61 1) 7 = h235 (h 61 1) 7 := jK 0 f368 (rg_T0_7_0_1 t1) (by first | decide | omega) (by first | decide | omega) (by decide)
          have q871 : h235 (h 61 1) 7 = h223 (h 61 1) 7 := jK 0 f237 (rg_T0_7_0_1 t1) (by first | decide | omega) (by first | decide | omega) (by decide)
          have q872 : h223 (h 61 1) 7 = h183 (h 61 1) 7 := by rw [← e225]; exact x_up_k tof_0_8
          have q873 : h183 (h 61 1) 7 = h91 (h 61 1) 7 := jK 0 f185 (rg_T0_7_0_1 t1) (by first | decide | omega) (by first | decide | omega) (by decide)
          have q874 : h91 (h 61 1) 7 = h79 (h 61 1) 7 := jK 0 f93 (rg_T0_7_0_1 t1) (by first | decide | omega) (by first | decide | omega) (by decide)
          have q875 : h79 (h 61 1) 7 = h41 (h 61 1) 7 := by rw [← e81]; exact x_up_k tof_0_8
          have q876 : h41 (h 61 1) 7 = h8 (h 61 1) 7 := jK 0 f43 (rg_T0_7_0_1 t1) (by first | decide | omega) (by first | decide | omega) (by decide)
          have e877 : rv h635 0 = (h8 (h 61 1) 7) := (congrArg (fun z => svq h635 z 0) (((((((((q858.trans q859).trans q860).trans q861).trans q862).trans q863).trans q864).trans q865).trans q866).trans q867)).trans ((((((((q868.trans q869).trans q870).trans q871).trans q872).trans q873).trans q874).trans q875).trans q876)
          have e878 : rv h 1 = (h (h 61 1) 8) := (congrArg (fun z => svq h z 1) rfl).trans rfl
          have q879 : h635 61 1 = h391 61 1 := f637 61 1 (by decide +kernel)
          have q880 : h391 61 1 = h366 61 1 := f393 61 1 (by decide +kernel)
          have q881 : h366 61 1 = h235 61 1 := f368 61 1 (by decide +kernel)
          have q882 : h235 61 1 = h223 61 1 := f237 61 1 (by decide +kernel)
          have q883 : h223 61 1 = h183 61 1 := by rw [← e225]; exact x_up_k (Ne.symm (tne_8_61 t1))
          have q884 : h183 61 1 = h91 61 1 := f185 61 1 (by decide +kernel)
          have q885 : h91 61 1 = h79 61 1 := f93 61 1 (by decide +kernel)
          have q886 : h79 61 1 = h41 61 1 := by rw [← e81]; exact x_up_k (Ne.symm (tne_8_61 t1))
          have q887 : h41 61 1 = h8 61 1 := f43 61 1 (by decide +kernel)
          have q888 : h8 61 1 = h 61 1 := f10 61 1 (by decide +kernel)
          have q889 : h635 (h 61 1) 8 = h391 (h 61 1) 8 := jK 0 f637 (rg_T0_8_0_1 t1) (by first | decide | omega) (by first | decide | omega) (by decide)
          have q890 : h391 (h 61 1) 8 = h366 (h 61 1) 8 := jK 0 f393 (rg_T0_8_0_1 t1) (by first | decide | omega) (by first | decide | omega) (by decide)
          have q891 : h366 (h 61 1) 8 = h235 (h 61 1) 8 := jK 0 f368 (rg_T0_8_0_1 t1) (by first | decide | omega) (by first | decide | omega) (by decide)
          have q892 : h235 (h 61 1) 8 = h223 (h 61 1) 8 := jK 0 f237 (rg_T0_8_0_1 t1) (by first | decide | omega) (by first | decide | omega) (by decide)
          have q893 : h223 (h 61 1) 8 = h183 (h 61 1) 8 := by rw [← e225]; exact x_up_k tof_0_8
          have q894 : h183 (h 61 1) 8 = h91 (h 61 1) 8 := jK 0 f185 (rg_T0_8_0_1 t1) (by first | decide | omega) (by first | decide | omega) (by decide)
          have q895 : h91 (h 61 1) 8 = h79 (h 61 1) 8 := jK 0 f93 (rg_T0_8_0_1 t1) (by first | decide | omega) (by first | decide | omega) (by decide)
          have q896 : h79 (h 61 1) 8 = h41 (h 61 1) 8 := by rw [← e81]; exact x_up_k tof_0_8
          have q897 : h41 (h 61 1) 8 = h8 (h 61 1) 8 := jK 0 f43 (rg_T0_8_0_1 t1) (by first | decide | omega) (by first | decide | omega) (by decide)
          have e898 : rv h635 1 = (h8 (h 61 1) 8) := (congrArg (fun z => svq h635 z 1) (((((((((q879.trans q880).trans q881).trans q882).trans q883).trans q884).trans q885).trans q886).trans q887).trans q888)).trans ((((((((q889.trans q890).trans q891).trans q892).trans q893).trans q894).trans q895).trans q896).trans q897)
          have e899 : rv h 2 = (h ((h 61 1) + 1) 2) := (congrArg (fun z => svq h z 2) rfl).trans rfl
          have q900 : h635 61 1 = h391 61 1 := f637 61 1 (by decide +kernel)
          have q901 : h391 61 1 = h366 61 1 := f393 61 1 (by decide +kernel)
          have q902 : h366 61 1 = h235 61 1 := f368 61 1 (by decide +kernel)
          have q903 : h235 61 1 = h223 61 1 := f237 61 1 (by decide +kernel)
          have q904 : h223 61 1 = h183 61 1 := by rw [← e225]; exact x_up_k (Ne.symm (tne_8_61 t1))
          have q905 : h183 61 1 = h91 61 1 := f185 61 1 (by decide +kernel)
          have q906 : h91 61 1 = h79 61 1 := f93 61 1 (by decide +kernel)
          have q907 : h79 61 1 = h41 61 1 := by rw [← e81]; exact x_up_k (Ne.symm (tne_8_61 t1))
          have q908 : h41 61 1 = h8 61 1 := f43 61 1 (by decide +kernel)
          have q909 : h8 61 1 = h 61 1 := f10 61 1 (by decide +kernel)
          have q910 : h635 ((h 61 1) + 1) 2 = h391 ((h 61 1) + 1) 2 := jK 0 f637 (rg_T1_2_0_1 t1) (by first | decide | omega) (by first | decide | omega) (by decide)
          have q911 : h391 ((h 61 1) + 1) 2 = h366 ((h 61 1) + 1) 2 := jK 0 f393 (rg_T1_2_0_1 t1) (by first | decide | omega) (by first | decide | omega) (by decide)
          have q912 : h366 ((h 61 1) + 1) 2 = h235 ((h 61 1) + 1) 2 := jK 0 f368 (rg_T1_2_0_1 t1) (by first | decide | omega) (by first | decide | omega) (by decide)
          have q913 : h235 ((h 61 1) + 1) 2 = h223 ((h 61 1) + 1) 2 := jK 0 f237 (rg_T1_2_0_1 t1) (by first | decide | omega) (by first | decide | omega) (by decide)
          have q914 : h223 ((h 61 1) + 1) 2 = h183 ((h 61 1) + 1) 2 := by rw [← e225]; exact x_up_k tof_1_8
          have q915 : h183 ((h 61 1) + 1) 2 = h91 ((h 61 1) + 1) 2 := jK 0 f185 (rg_T1_2_0_1 t1) (by first | decide | omega) (by first | decide | omega) (by decide)
          have q916 : h91 ((h 61 1) + 1) 2 = h79 ((h 61 1) + 1) 2 := jK 0 f93 (rg_T1_2_0_1 t1) (by first | decide | omega) (by first | decide | omega) (by decide)
          have q917 : h79 ((h 61 1) + 1) 2 = h41 ((h 61 1) + 1) 2 := by rw [← e81]; exact x_up_k tof_1_8
          have q918 : h41 ((h 61 1) + 1) 2 = h8 ((h 61 1) + 1) 2 := jK 0 f43 (rg_T1_2_0_1 t1) (by first | decide | omega) (by first | decide | omega) (by decide)
          have e919 : rv h635 2 = (h8 ((h 61 1) + 1) 2) := (congrArg (fun z => svq h635 z 2) (((((((((q900.trans q901).trans q902).trans q903).trans q904).trans q905).trans q906).trans q907).trans q908).trans q909)).trans ((((((((q910.trans q911).trans q912).trans q913).trans q914).trans q915).trans q916).trans q917).trans q918)
          have e920 : rv h 3 = (h ((h 61 1) + 3) 2) := (congrArg (fun z => svq h z 3) rfl).trans rfl
          have q921 : h635 61 1 = h391 61 1 := f637 61 1 (by decide +kernel)
          have q922 : h391 61 1 = h366 61 1 := f393 61 1 (by decide +kernel)
          have q923 : h366 61 1 = h235 61 1 := f368 61 1 (by decide +kernel)
          have q924 : h235 61 1 = h223 61 1 := f237 61 1 (by decide +kernel)
          have q925 : h223 61 1 = h183 61 1 := by rw [← e225]; exact x_up_k (Ne.symm (tne_8_61 t1))
          have q926 : h183 61 1 = h91 61 1 := f185 61 1 (by decide +kernel)
          have q927 : h91 61 1 = h79 61 1 := f93 61 1 (by decide +kernel)
          have q928 : h79 61 1 = h41 61 1 := by rw [← e81]; exact x_up_k (Ne.symm (tne_8_61 t1))
          have q929 : h41 61 1 = h8 61 1 := f43 61 1 (by decide +kernel)
          have q930 : h8 61 1 = h 61 1 := f10 61 1 (by decide +kernel)
          have q931 : h635 ((h 61 1) + 3) 2 = h391 ((h 61 1) + 3) 2 := jK 0 f637 (rg_T3_2_0_1 t1) (by first | decide | omega) (by first | decide | omega) (by decide)
          have q932 : h391 ((h 61 1) + 3) 2 = h366 ((h 61 1) + 3) 2 := jK 0 f393 (rg_T3_2_0_1 t1) (by first | decide | omega) (by first | decide | omega) (by decide)
          have q933 : h366 ((h 61 1) + 3) 2 = h235 ((h 61 1) + 3) 2 := jK 0 f368 (rg_T3_2_0_1 t1) (by first | decide | omega) (by first | decide | omega) (by decide)
          have q934 : h235 ((h 61 1) + 3) 2 = h223 ((h 61 1) + 3) 2 := jK 0 f237 (rg_T3_2_0_1 t1) (by first | decide | omega) (by first | decide | omega) (by decide)
          have q935 : h223 ((h 61 1) + 3) 2 = h183 ((h 61 1) + 3) 2 := by rw [← e225]; exact x_up_k tof_3_8
          have q936 : h183 ((h 61 1) + 3) 2 = h91 ((h 61 1) + 3) 2 := jK 0 f185 (rg_T3_2_0_1 t1) (by first | decide | omega) (by first | decide | omega) (by decide)
          have q937 : h91 ((h 61 1) + 3) 2 = h79 ((h 61 1) + 3) 2 := jK 0 f93 (rg_T3_2_0_1 t1) (by first | decide | omega) (by first | decide | omega) (by decide)
          have q938 : h79 ((h 61 1) + 3) 2 = h41 ((h 61 1) + 3) 2 := by rw [← e81]; exact x_up_k tof_3_8
          have q939 : h41 ((h 61 1) + 3) 2 = h8 ((h 61 1) + 3) 2 := jK 0 f43 (rg_T3_2_0_1 t1) (by first | decide | omega) (by first | decide | omega) (by decide)
          have e940 : rv h635 3 = (h8 ((h 61 1) + 3) 2) := (congrArg (fun z => svq h635 z 3) (((((((((q921.trans q922).trans q923).trans q924).trans q925).trans q926).trans q927).trans q928).trans q929).trans q930)).trans ((((((((q931.trans q932).trans q933).trans q934).trans q935).trans q936).trans q937).trans q938).trans q939)
          have e941 : rv h 4 = (h ((h 61 1) + 5) 2) := (congrArg (fun z => svq h z 4) rfl).trans rfl
          have q942 : h635 61 1 = h391 61 1 := f637 61 1 (by decide +kernel)
          have q943 : h391 61 1 = h366 61 1 := f393 61 1 (by decide +kernel)
          have q944 : h366 61 1 = h235 61 1 := f368 61 1 (by decide +kernel)
          have q945 : h235 61 1 = h223 61 1 := f237 61 1 (by decide +kernel)
          have q946 : h223 61 1 = h183 61 1 := by rw [← e225]; exact x_up_k (Ne.symm (tne_8_61 t1))
          have q947 : h183 61 1 = h91 61 1 := f185 61 1 (by decide +kernel)
          have q948 : h91 61 1 = h79 61 1 := f93 61 1 (by decide +kernel)
          have q949 : h79 61 1 = h41 61 1 := by rw [← e81]; exact x_up_k (Ne.symm (tne_8_61 t1))
          have q950 : h41 61 1 = h8 61 1 := f43 61 1 (by decide +kernel)
          have q951 : h8 61 1 = h 61 1 := f10 61 1 (by decide +kernel)
          have q952 : h635 ((h 61 1) + 5) 2 = h391 ((h 61 1) + 5) 2 := jK 0 f637 (rg_T5_2_0_1 t1) (by first | decide | omega) (by first | decide | omega) (by decide)
          have q953 : h391 ((h 61 1) + 5) 2 = h366 ((h 61 1) + 5) 2 := jK 0 f393 (rg_T5_2_0_1 t1) (by first | decide | omega) (by first | decide | omega) (by decide)
          have q954 : h366 ((h 61 1) + 5) 2 = h235 ((h 61 1) + 5) 2 := jK 0 f368 (rg_T5_2_0_1 t1) (by first | decide | omega) (by first | decide | omega) (by decide)
          have q955 : h235 ((h 61 1) + 5) 2 = h223 ((h 61 1) + 5) 2 := jK 0 f237 (rg_T5_2_0_1 t1) (by first | decide | omega) (by first | decide | omega) (by decide)
          have q956 : h223 ((h 61 1) + 5) 2 = h183 ((h 61 1) + 5) 2 := by rw [← e225]; exact x_up_k tof_5_8
          have q957 : h183 ((h 61 1) + 5) 2 = h91 ((h 61 1) + 5) 2 := jK 0 f185 (rg_T5_2_0_1 t1) (by first | decide | omega) (by first | decide | omega) (by decide)
          have q958 : h91 ((h 61 1) + 5) 2 = h79 ((h 61 1) + 5) 2 := jK 0 f93 (rg_T5_2_0_1 t1) (by first | decide | omega) (by first | decide | omega) (by decide)
          have q959 : h79 ((h 61 1) + 5) 2 = h41 ((h 61 1) + 5) 2 := by rw [← e81]; exact x_up_k tof_5_8
          have q960 : h41 ((h 61 1) + 5) 2 = h8 ((h 61 1) + 5) 2 := jK 0 f43 (rg_T5_2_0_1 t1) (by first | decide | omega) (by first | decide | omega) (by decide)
          have e961 : rv h635 4 = (h8 ((h 61 1) + 5) 2) := (congrArg (fun z => svq h635 z 4) (((((((((q942.trans q943).trans q944).trans q945).trans q946).trans q947).trans q948).trans q949).trans q950).trans q951)).trans ((((((((q952.trans q953).trans q954).trans q955).trans q956).trans q957).trans q958).trans q959).trans q960)
          have q962 : h635 61 1 = h391 61 1 := f637 61 1 (by decide +kernel)
          have q963 : h391 61 1 = h366 61 1 := f393 61 1 (by decide +kernel)
          have q964 : h366 61 1 = h235 61 1 := f368 61 1 (by decide +kernel)
          have q965 : h235 61 1 = h223 61 1 := f237 61 1 (by decide +kernel)
          have q966 : h223 61 1 = h183 61 1 := by rw [← e225]; exact x_up_k (Ne.symm (tne_8_61 t1))
          have q967 : h183 61 1 = h91 61 1 := f185 61 1 (by decide +kernel)
          have q968 : h91 61 1 = h79 61 1 := f93 61 1 (by decide +kernel)
          have q969 : h79 61 1 = h41 61 1 := by rw [← e81]; exact x_up_k (Ne.symm (tne_8_61 t1))
          have q970 : h41 61 1 = h8 61 1 := f43 61 1 (by decide +kernel)
          have q971 : h8 61 1 = h 61 1 := f10 61 1 (by decide +kernel)
          have q972 : h635 ((h 61 1) + 7) 2 = h391 ((h 61 1) + 7) 2 := jK 0 f637 (rg_T7_2_0_1 t1) (by first | decide | omega) (by first | decide | omega) (by decide)
          have q973 : h391 ((h 61 1) + 7) 2 = h366 ((h 61 1) + 7) 2 := jK 0 f393 (rg_T7_2_0_1 t1) (by first | decide | omega) (by first | decide | omega) (by decide)
          have q974 : h366 ((h 61 1) + 7) 2 = h235 ((h 61 1) + 7) 2 := jK 0 f368 (rg_T7_2_0_1 t1) (by first | decide | omega) (by first | decide | omega) (by decide)
          have q975 : h235 ((h 61 1) + 7) 2 = h223 ((h 61 1) + 7) 2 := jK 0 f237 (rg_T7_2_0_1 t1) (by first | decide | omega) (by first | decide | omega) (by decide)
          have q976 : h223 ((h 61 1) + 7) 2 = h183 ((h 61 1) + 7) 2 := by rw [← e225]; exact x_up_k tof_7_8
          have q977 : h183 ((h 61 1) + 7) 2 = h91 ((h 61 1) + 7) 2 := jK 0 f185 (rg_T7_2_0_1 t1) (by first | decide | omega) (by first | decide | omega) (by decide)
          have q978 : h91 ((h 61 1) + 7) 2 = h79 ((h 61 1) + 7) 2 := jK 0 f93 (rg_T7_2_0_1 t1) (by first | decide | omega) (by first | decide | omega) (by decide)
          have q979 : h79 ((h 61 1) + 7) 2 = h41 ((h 61 1) + 7) 2 := by rw [← e81]; exact x_up_k tof_7_8
          have q980 : h41 ((h 61 1) + 7) 2 = h8 ((h 61 1) + 7) 2 := jK 0 f43 (rg_T7_2_0_1 t1) (by first | decide | omega) (by first | decide | omega) (by decide)
          have e981 : rv h635 5 = (h8 ((h 61 1) + 7) 2) := (congrArg (fun z => svq h635 z 5) (((((((((q962.trans q963).trans q964).trans q965).trans q966).trans q967).trans q968).trans q969).trans q970).trans q971)).trans ((((((((q972.trans q973).trans q974).trans q975).trans q976).trans q977).trans q978).trans q979).trans q980)
          have q982 : h8 1 2 = h 1 2 := jK 0 f10 rg_1_2_0_1 (by first | decide | omega) (by first | decide | omega) (by decide)
          have q983 : h79 1 2 = h41 1 2 := by rw [← e81]; exact x_up_k (Ne.symm (tne_8_1 t1))
          obtain ⟨w984, e985⟩ := Tk.yes c97 (by first | decide | omega)
          have q986 : h223 1 2 = h183 1 2 := by rw [← e225]; exact x_up_k (Ne.symm (tne_8_1 t1))
          obtain ⟨w987, e988⟩ := Tk.yes c241 (by first | decide | omega)
          have q989 : h235 61 1 = h223 61 1 := f237 61 1 (by decide +kernel)
          have q990 : h223 61 1 = h183 61 1 := by rw [← e225]; exact x_up_k (Ne.symm (tne_8_61 t1))
          have q991 : h183 61 1 = h91 61 1 := f185 61 1 (by decide +kernel)
          have q992 : h91 61 1 = h79 61 1 := f93 61 1 (by decide +kernel)
          have q993 : h79 61 1 = h41 61 1 := by rw [← e81]; exact x_up_k (Ne.symm (tne_8_61 t1))
          have q994 : h41 61 1 = h8 61 1 := f43 61 1 (by decide +kernel)
          have q995 : h8 61 1 = h 61 1 := f10 61 1 (by decide +kernel)
          have q996 : h235 (h 61 1) 7 = h223 (h 61 1) 7 := jK 0 f237 (rg_T0_7_0_1 t1) (by first | decide | omega) (by first | decide | omega) (by decide)
          have q997 : h223 (h 61 1) 7 = h183 (h 61 1) 7 := by rw [← e225]; exact x_up_k tof_0_8
          have q998 : h183 (h 61 1) 7 = h91 (h 61 1) 7 := jK 0 f185 (rg_T0_7_0_1 t1) (by first | decide | omega) (by first | decide | omega) (by decide)
          have q999 : h91 (h 61 1) 7 = h79 (h 61 1) 7 := jK 0 f93 (rg_T0_7_0_1 t1) (by first | decide | omega) (by first | decide | omega) (by decide)
          have q1000 : h79 (h 61 1) 7 = h41 (h 61 1) 7 := by rw [← e81]; exact x_up_k tof_0_8
          have q1001 : h41 (h 61 1) 7 = h8 (h 61 1) 7 := jK 0 f43 (rg_T0_7_0_1 t1) (by first | decide | omega) (by first | decide | omega) (by decide)
          have e1002 : rv h235 0 = (h8 (h 61 1) 7) := (congrArg (fun z => svq h235 z 0) ((((((q989.trans q990).trans q991).trans q992).trans q993).trans q994).trans q995)).trans (((((q996.trans q997).trans q998).trans q999).trans q1000).trans q1001)
          obtain ⟨w1003, e1004⟩ := Tk.yes c397 (by first | decide | omega)
          have m1005 : Ot (h 61 1) h h8 := Ot.trans Ot.refl (c19)
          have m1006 : Ot (h 61 1) h h41 := Ot.fr m1005 f43 (by decide)
          have m1007 : Ot (h 61 1) h h79 := by rw [← e81]; exact Ot.up (o := 8) m1006 t1 (by decide) rfl
          have m1008 : Ot (h 61 1) h h91 := Ot.fr m1007 f93 (by decide)
          have m1009 : Ot (h 61 1) h h183 := Ot.fr m1008 f185 (by decide)
          have m1010 : Ot (h 61 1) h h223 := by rw [← e225]; exact Ot.up (o := 8) m1009 t1 (by decide) rfl
          have m1011 : Ot (h 61 1) h h235 := Ot.fr m1010 f237 (by decide)
          have m1012 : Ot (h 61 1) h h366 := Ot.fr m1011 f368 (by decide)
          have m1013 : Ot (h 61 1) h h391 := Ot.fr m1012 f393 (by decide)
          have m1014 : Ot (h 61 1) h h635 := Ot.fr m1013 f637 (by decide)
          have q1015 : h8 1 2 = h 1 2 := jK 0 f10 rg_1_2_0_1 (by first | decide | omega) (by first | decide | omega) (by decide)
          have q1016 : h79 1 2 = h41 1 2 := by rw [← e81]; exact x_up_k (Ne.symm (tne_8_1 t1))
          obtain ⟨w1017, e1018⟩ := Tk.yes c97 (by first | decide | omega)
          have q1019 : h223 1 2 = h183 1 2 := by rw [← e225]; exact x_up_k (Ne.symm (tne_8_1 t1))
          obtain ⟨w1020, e1021⟩ := Tk.yes c241 (by first | decide | omega)
          have q1022 : h235 61 1 = h223 61 1 := f237 61 1 (by decide +kernel)
          have q1023 : h223 61 1 = h183 61 1 := by rw [← e225]; exact x_up_k (Ne.symm (tne_8_61 t1))
          have q1024 : h183 61 1 = h91 61 1 := f185 61 1 (by decide +kernel)
          have q1025 : h91 61 1 = h79 61 1 := f93 61 1 (by decide +kernel)
          have q1026 : h79 61 1 = h41 61 1 := by rw [← e81]; exact x_up_k (Ne.symm (tne_8_61 t1))
          have q1027 : h41 61 1 = h8 61 1 := f43 61 1 (by decide +kernel)
          have q1028 : h8 61 1 = h 61 1 := f10 61 1 (by decide +kernel)
          have q1029 : h235 (h 61 1) 7 = h223 (h 61 1) 7 := jK 0 f237 (rg_T0_7_0_1 t1) (by first | decide | omega) (by first | decide | omega) (by decide)
          have q1030 : h223 (h 61 1) 7 = h183 (h 61 1) 7 := by rw [← e225]; exact x_up_k tof_0_8
          have q1031 : h183 (h 61 1) 7 = h91 (h 61 1) 7 := jK 0 f185 (rg_T0_7_0_1 t1) (by first | decide | omega) (by first | decide | omega) (by decide)
          have q1032 : h91 (h 61 1) 7 = h79 (h 61 1) 7 := jK 0 f93 (rg_T0_7_0_1 t1) (by first | decide | omega) (by first | decide | omega) (by decide)
          have q1033 : h79 (h 61 1) 7 = h41 (h 61 1) 7 := by rw [← e81]; exact x_up_k tof_0_8
          have q1034 : h41 (h 61 1) 7 = h8 (h 61 1) 7 := jK 0 f43 (rg_T0_7_0_1 t1) (by first | decide | omega) (by first | decide | omega) (by decide)
          obtain ⟨w1035, e1036⟩ := Tk.yes c397 (by first | decide | omega)
          refine x_retI (np := 138) (x := 0) (by decide +kernel) (by decide) (Or.inr ⟨by decide +kernel, by first | decide | omega, by first | decide | omega⟩) ⟨_, rfl, (by decide), ?_⟩
          exact ⟨j636, f643, (by first | decide | omega), (by first | decide | omega), (by first | decide | omega), (by first | decide | omega), (by first | decide | omega), (by first | decide | omega), (fun z => by first | decide | omega), (nm9.y c48 (by first | decide | omega) (by first | decide | omega) (show h8 1 2 = h 1 2 by first | decide | omega) (by first | decide | omega) rfl (wd9.y w984 (show h79 1 2 = h41 1 2 by first | decide | omega) e985 rfl (nm9.y c190 (by first | decide | omega) (by first | decide | omega) rfl (by first | decide | omega) rfl (wd9.y w987 (show h223 1 2 = h183 1 2 by first | decide | omega) e988 rfl (bl9.y c370 (by first | decide | omega) rfl (by first | decide | omega) rfl (wd9.y w1003 rfl e1004 rfl (nm9.f c642 (by first | decide | omega) (by first | decide | omega) rfl (by first | decide | omega) (by first | decide | omega)))))))), m1014, (fun _ => (mF.y c48 (by first | decide | omega) (by first | decide | omega) (show h8 1 2 = h 1 2 by first | decide | omega) (by first | decide | omega) rfl (wF.y w1017 (show h79 1 2 = h41 1 2 by first | decide | omega) e1018 rfl (mF.y c190 (by first | decide | omega) (by first | decide | omega) rfl (by first | decide | omega) rfl (wF.y w1020 (show h223 1 2 = h183 1 2 by first | decide | omega) e1021 rfl (bF.y c370 (by first | decide | omega) rfl (by first | decide | omega) rfl (wF.y w1035 rfl e1036 rfl (mF.no c642 (by first | decide | omega) (by first | decide | omega) rfl (by first | decide | omega) (show h635 1 2 = h391 1 2 by first | decide | omega)))))))))⟩
        have q856 : ¬ (2147483648 = 2147483648) := q856
        exfalso; omega
      have q385 : ¬ (v362 ≠ 2147483648) := q385
      refine x_const (np := 89) (x := 9223372039002259456) (a := 2147483648) (by decide +kernel) (by decide) (by decide) ?_
      have e1037 : rv h 0 = (h (h 61 1) 7) := (congrArg (fun z => svq h z 0) rfl).trans rfl
      have q1038 : h366 61 1 = h235 61 1 := f368 61 1 (by decide +kernel)
      have q1039 : h235 61 1 = h223 61 1 := f237 61 1 (by decide +kernel)
      have q1040 : h223 61 1 = h183 61 1 := by rw [← e225]; exact x_up_k (Ne.symm (tne_8_61 t1))
      have q1041 : h183 61 1 = h91 61 1 := f185 61 1 (by decide +kernel)
      have q1042 : h91 61 1 = h79 61 1 := f93 61 1 (by decide +kernel)
      have q1043 : h79 61 1 = h41 61 1 := by rw [← e81]; exact x_up_k (Ne.symm (tne_8_61 t1))
      have q1044 : h41 61 1 = h8 61 1 := f43 61 1 (by decide +kernel)
      have q1045 : h8 61 1 = h 61 1 := f10 61 1 (by decide +kernel)
      have q1046 : h366 (h 61 1) 7 = h235 (h 61 1) 7 := jK 0 f368 (rg_T0_7_0_1 t1) (by first | decide | omega) (by first | decide | omega) (by decide)
      have q1047 : h235 (h 61 1) 7 = h223 (h 61 1) 7 := jK 0 f237 (rg_T0_7_0_1 t1) (by first | decide | omega) (by first | decide | omega) (by decide)
      have q1048 : h223 (h 61 1) 7 = h183 (h 61 1) 7 := by rw [← e225]; exact x_up_k tof_0_8
      have q1049 : h183 (h 61 1) 7 = h91 (h 61 1) 7 := jK 0 f185 (rg_T0_7_0_1 t1) (by first | decide | omega) (by first | decide | omega) (by decide)
      have q1050 : h91 (h 61 1) 7 = h79 (h 61 1) 7 := jK 0 f93 (rg_T0_7_0_1 t1) (by first | decide | omega) (by first | decide | omega) (by decide)
      have q1051 : h79 (h 61 1) 7 = h41 (h 61 1) 7 := by rw [← e81]; exact x_up_k tof_0_8
      have q1052 : h41 (h 61 1) 7 = h8 (h 61 1) 7 := jK 0 f43 (rg_T0_7_0_1 t1) (by first | decide | omega) (by first | decide | omega) (by decide)
      have e1053 : rv h366 0 = (h8 (h 61 1) 7) := (congrArg (fun z => svq h366 z 0) (((((((q1038.trans q1039).trans q1040).trans q1041).trans q1042).trans q1043).trans q1044).trans q1045)).trans ((((((q1046.trans q1047).trans q1048).trans q1049).trans q1050).trans q1051).trans q1052)
      have e1054 : rv h 1 = (h (h 61 1) 8) := (congrArg (fun z => svq h z 1) rfl).trans rfl
      have q1055 : h366 61 1 = h235 61 1 := f368 61 1 (by decide +kernel)
      have q1056 : h235 61 1 = h223 61 1 := f237 61 1 (by decide +kernel)
      have q1057 : h223 61 1 = h183 61 1 := by rw [← e225]; exact x_up_k (Ne.symm (tne_8_61 t1))
      have q1058 : h183 61 1 = h91 61 1 := f185 61 1 (by decide +kernel)
      have q1059 : h91 61 1 = h79 61 1 := f93 61 1 (by decide +kernel)
      have q1060 : h79 61 1 = h41 61 1 := by rw [← e81]; exact x_up_k (Ne.symm (tne_8_61 t1))
      have q1061 : h41 61 1 = h8 61 1 := f43 61 1 (by decide +kernel)
      have q1062 : h8 61 1 = h 61 1 := f10 61 1 (by decide +kernel)
      have q1063 : h366 (h 61 1) 8 = h235 (h 61 1) 8 := jK 0 f368 (rg_T0_8_0_1 t1) (by first | decide | omega) (by first | decide | omega) (by decide)
      have q1064 : h235 (h 61 1) 8 = h223 (h 61 1) 8 := jK 0 f237 (rg_T0_8_0_1 t1) (by first | decide | omega) (by first | decide | omega) (by decide)
      have q1065 : h223 (h 61 1) 8 = h183 (h 61 1) 8 := by rw [← e225]; exact x_up_k tof_0_8
      have q1066 : h183 (h 61 1) 8 = h91 (h 61 1) 8 := jK 0 f185 (rg_T0_8_0_1 t1) (by first | decide | omega) (by first | decide | omega) (by decide)
      have q1067 : h91 (h 61 1) 8 = h79 (h 61 1) 8 := jK 0 f93 (rg_T0_8_0_1 t1) (by first | decide | omega) (by first | decide | omega) (by decide)
      have q1068 : h79 (h 61 1) 8 = h41 (h 61 1) 8 := by rw [← e81]; exact x_up_k tof_0_8
      have q1069 : h41 (h 61 1) 8 = h8 (h 61 1) 8 := jK 0 f43 (rg_T0_8_0_1 t1) (by first | decide | omega) (by first | decide | omega) (by decide)
      have e1070 : rv h366 1 = (h8 (h 61 1) 8) := (congrArg (fun z => svq h366 z 1) (((((((q1055.trans q1056).trans q1057).trans q1058).trans q1059).trans q1060).trans q1061).trans q1062)).trans ((((((q1063.trans q1064).trans q1065).trans q1066).trans q1067).trans q1068).trans q1069)
      have e1071 : rv h 2 = (h ((h 61 1) + 1) 2) := (congrArg (fun z => svq h z 2) rfl).trans rfl
      have q1072 : h366 61 1 = h235 61 1 := f368 61 1 (by decide +kernel)
      have q1073 : h235 61 1 = h223 61 1 := f237 61 1 (by decide +kernel)
      have q1074 : h223 61 1 = h183 61 1 := by rw [← e225]; exact x_up_k (Ne.symm (tne_8_61 t1))
      have q1075 : h183 61 1 = h91 61 1 := f185 61 1 (by decide +kernel)
      have q1076 : h91 61 1 = h79 61 1 := f93 61 1 (by decide +kernel)
      have q1077 : h79 61 1 = h41 61 1 := by rw [← e81]; exact x_up_k (Ne.symm (tne_8_61 t1))
      have q1078 : h41 61 1 = h8 61 1 := f43 61 1 (by decide +kernel)
      have q1079 : h8 61 1 = h 61 1 := f10 61 1 (by decide +kernel)
      have q1080 : h366 ((h 61 1) + 1) 2 = h235 ((h 61 1) + 1) 2 := jK 0 f368 (rg_T1_2_0_1 t1) (by first | decide | omega) (by first | decide | omega) (by decide)
      have q1081 : h235 ((h 61 1) + 1) 2 = h223 ((h 61 1) + 1) 2 := jK 0 f237 (rg_T1_2_0_1 t1) (by first | decide | omega) (by first | decide | omega) (by decide)
      have q1082 : h223 ((h 61 1) + 1) 2 = h183 ((h 61 1) + 1) 2 := by rw [← e225]; exact x_up_k tof_1_8
      have q1083 : h183 ((h 61 1) + 1) 2 = h91 ((h 61 1) + 1) 2 := jK 0 f185 (rg_T1_2_0_1 t1) (by first | decide | omega) (by first | decide | omega) (by decide)
      have q1084 : h91 ((h 61 1) + 1) 2 = h79 ((h 61 1) + 1) 2 := jK 0 f93 (rg_T1_2_0_1 t1) (by first | decide | omega) (by first | decide | omega) (by decide)
      have q1085 : h79 ((h 61 1) + 1) 2 = h41 ((h 61 1) + 1) 2 := by rw [← e81]; exact x_up_k tof_1_8
      have q1086 : h41 ((h 61 1) + 1) 2 = h8 ((h 61 1) + 1) 2 := jK 0 f43 (rg_T1_2_0_1 t1) (by first | decide | omega) (by first | decide | omega) (by decide)
      have e1087 : rv h366 2 = (h8 ((h 61 1) + 1) 2) := (congrArg (fun z => svq h366 z 2) (((((((q1072.trans q1073).trans q1074).trans q1075).trans q1076).trans q1077).trans q1078).trans q1079)).trans ((((((q1080.trans q1081).trans q1082).trans q1083).trans q1084).trans q1085).trans q1086)
      have e1088 : rv h 3 = (h ((h 61 1) + 3) 2) := (congrArg (fun z => svq h z 3) rfl).trans rfl
      have q1089 : h366 61 1 = h235 61 1 := f368 61 1 (by decide +kernel)
      have q1090 : h235 61 1 = h223 61 1 := f237 61 1 (by decide +kernel)
      have q1091 : h223 61 1 = h183 61 1 := by rw [← e225]; exact x_up_k (Ne.symm (tne_8_61 t1))
      have q1092 : h183 61 1 = h91 61 1 := f185 61 1 (by decide +kernel)
      have q1093 : h91 61 1 = h79 61 1 := f93 61 1 (by decide +kernel)
      have q1094 : h79 61 1 = h41 61 1 := by rw [← e81]; exact x_up_k (Ne.symm (tne_8_61 t1))
      have q1095 : h41 61 1 = h8 61 1 := f43 61 1 (by decide +kernel)
      have q1096 : h8 61 1 = h 61 1 := f10 61 1 (by decide +kernel)
      have q1097 : h366 ((h 61 1) + 3) 2 = h235 ((h 61 1) + 3) 2 := jK 0 f368 (rg_T3_2_0_1 t1) (by first | decide | omega) (by first | decide | omega) (by decide)
      have q1098 : h235 ((h 61 1) + 3) 2 = h223 ((h 61 1) + 3) 2 := jK 0 f237 (rg_T3_2_0_1 t1) (by first | decide | omega) (by first | decide | omega) (by decide)
      have q1099 : h223 ((h 61 1) + 3) 2 = h183 ((h 61 1) + 3) 2 := by rw [← e225]; exact x_up_k tof_3_8
      have q1100 : h183 ((h 61 1) + 3) 2 = h91 ((h 61 1) + 3) 2 := jK 0 f185 (rg_T3_2_0_1 t1) (by first | decide | omega) (by first | decide | omega) (by decide)
      have q1101 : h91 ((h 61 1) + 3) 2 = h79 ((h 61 1) + 3) 2 := jK 0 f93 (rg_T3_2_0_1 t1) (by first | decide | omega) (by first | decide | omega) (by decide)
      have q1102 : h79 ((h 61 1) + 3) 2 = h41 ((h 61 1) + 3) 2 := by rw [← e81]; exact x_up_k tof_3_8
      have q1103 : h41 ((h 61 1) + 3) 2 = h8 ((h 61 1) + 3) 2 := jK 0 f43 (rg_T3_2_0_1 t1) (by first | decide | omega) (by first | decide | omega) (by decide)
      have e1104 : rv h366 3 = (h8 ((h 61 1) + 3) 2) := (congrArg (fun z => svq h366 z 3) (((((((q1089.trans q1090).trans q1091).trans q1092).trans q1093).trans q1094).trans q1095).trans q1096)).trans ((((((q1097.trans q1098).trans q1099).trans q1100).trans q1101).trans q1102).trans q1103)
      have e1105 : rv h 4 = (h ((h 61 1) + 5) 2) := (congrArg (fun z => svq h z 4) rfl).trans rfl
      have q1106 : h366 61 1 = h235 61 1 := f368 61 1 (by decide +kernel)
      have q1107 : h235 61 1 = h223 61 1 := f237 61 1 (by decide +kernel)
      have q1108 : h223 61 1 = h183 61 1 := by rw [← e225]; exact x_up_k (Ne.symm (tne_8_61 t1))
      have q1109 : h183 61 1 = h91 61 1 := f185 61 1 (by decide +kernel)
      have q1110 : h91 61 1 = h79 61 1 := f93 61 1 (by decide +kernel)
      have q1111 : h79 61 1 = h41 61 1 := by rw [← e81]; exact x_up_k (Ne.symm (tne_8_61 t1))
      have q1112 : h41 61 1 = h8 61 1 := f43 61 1 (by decide +kernel)
      have q1113 : h8 61 1 = h 61 1 := f10 61 1 (by decide +kernel)
      have q1114 : h366 ((h 61 1) + 5) 2 = h235 ((h 61 1) + 5) 2 := jK 0 f368 (rg_T5_2_0_1 t1) (by first | decide | omega) (by first | decide | omega) (by decide)
      have q1115 : h235 ((h 61 1) + 5) 2 = h223 ((h 61 1) + 5) 2 := jK 0 f237 (rg_T5_2_0_1 t1) (by first | decide | omega) (by first | decide | omega) (by decide)
      have q1116 : h223 ((h 61 1) + 5) 2 = h183 ((h 61 1) + 5) 2 := by rw [← e225]; exact x_up_k tof_5_8
      have q1117 : h183 ((h 61 1) + 5) 2 = h91 ((h 61 1) + 5) 2 := jK 0 f185 (rg_T5_2_0_1 t1) (by first | decide | omega) (by first | decide | omega) (by decide)
      have q1118 : h91 ((h 61 1) + 5) 2 = h79 ((h 61 1) + 5) 2 := jK 0 f93 (rg_T5_2_0_1 t1) (by first | decide | omega) (by first | decide | omega) (by decide)
      have q1119 : h79 ((h 61 1) + 5) 2 = h41 ((h 61 1) + 5) 2 := by rw [← e81]; exact x_up_k tof_5_8
      have q1120 : h41 ((h 61 1) + 5) 2 = h8 ((h 61 1) + 5) 2 := jK 0 f43 (rg_T5_2_0_1 t1) (by first | decide | omega) (by first | decide | omega) (by decide)
      have e1121 : rv h366 4 = (h8 ((h 61 1) + 5) 2) := (congrArg (fun z => svq h366 z 4) (((((((q1106.trans q1107).trans q1108).trans q1109).trans q1110).trans q1111).trans q1112).trans q1113)).trans ((((((q1114.trans q1115).trans q1116).trans q1117).trans q1118).trans q1119).trans q1120)
      have q1122 : h366 61 1 = h235 61 1 := f368 61 1 (by decide +kernel)
      have q1123 : h235 61 1 = h223 61 1 := f237 61 1 (by decide +kernel)
      have q1124 : h223 61 1 = h183 61 1 := by rw [← e225]; exact x_up_k (Ne.symm (tne_8_61 t1))
      have q1125 : h183 61 1 = h91 61 1 := f185 61 1 (by decide +kernel)
      have q1126 : h91 61 1 = h79 61 1 := f93 61 1 (by decide +kernel)
      have q1127 : h79 61 1 = h41 61 1 := by rw [← e81]; exact x_up_k (Ne.symm (tne_8_61 t1))
      have q1128 : h41 61 1 = h8 61 1 := f43 61 1 (by decide +kernel)
      have q1129 : h8 61 1 = h 61 1 := f10 61 1 (by decide +kernel)
      have q1130 : h366 ((h 61 1) + 7) 2 = h235 ((h 61 1) + 7) 2 := jK 0 f368 (rg_T7_2_0_1 t1) (by first | decide | omega) (by first | decide | omega) (by decide)
      have q1131 : h235 ((h 61 1) + 7) 2 = h223 ((h 61 1) + 7) 2 := jK 0 f237 (rg_T7_2_0_1 t1) (by first | decide | omega) (by first | decide | omega) (by decide)
      have q1132 : h223 ((h 61 1) + 7) 2 = h183 ((h 61 1) + 7) 2 := by rw [← e225]; exact x_up_k tof_7_8
      have q1133 : h183 ((h 61 1) + 7) 2 = h91 ((h 61 1) + 7) 2 := jK 0 f185 (rg_T7_2_0_1 t1) (by first | decide | omega) (by first | decide | omega) (by decide)
      have q1134 : h91 ((h 61 1) + 7) 2 = h79 ((h 61 1) + 7) 2 := jK 0 f93 (rg_T7_2_0_1 t1) (by first | decide | omega) (by first | decide | omega) (by decide)
      have q1135 : h79 ((h 61 1) + 7) 2 = h41 ((h 61 1) + 7) 2 := by rw [← e81]; exact x_up_k tof_7_8
      have q1136 : h41 ((h 61 1) + 7) 2 = h8 ((h 61 1) + 7) 2 := jK 0 f43 (rg_T7_2_0_1 t1) (by first | decide | omega) (by first | decide | omega) (by decide)
      have e1137 : rv h366 5 = (h8 ((h 61 1) + 7) 2) := (congrArg (fun z => svq h366 z 5) (((((((q1122.trans q1123).trans q1124).trans q1125).trans q1126).trans q1127).trans q1128).trans q1129)).trans ((((((q1130.trans q1131).trans q1132).trans q1133).trans q1134).trans q1135).trans q1136)
      have q1138 : h8 1 2 = h 1 2 := jK 0 f10 rg_1_2_0_1 (by first | decide | omega) (by first | decide | omega) (by decide)
      have q1139 : h79 1 2 = h41 1 2 := by rw [← e81]; exact x_up_k (Ne.symm (tne_8_1 t1))
      obtain ⟨w1140, e1141⟩ := Tk.yes c97 (by first | decide | omega)
      have q1142 : h223 1 2 = h183 1 2 := by rw [← e225]; exact x_up_k (Ne.symm (tne_8_1 t1))
      obtain ⟨w1143, e1144⟩ := Tk.yes c241 (by first | decide | omega)
      have q1145 : h235 61 1 = h223 61 1 := f237 61 1 (by decide +kernel)
      have q1146 : h223 61 1 = h183 61 1 := by rw [← e225]; exact x_up_k (Ne.symm (tne_8_61 t1))
      have q1147 : h183 61 1 = h91 61 1 := f185 61 1 (by decide +kernel)
      have q1148 : h91 61 1 = h79 61 1 := f93 61 1 (by decide +kernel)
      have q1149 : h79 61 1 = h41 61 1 := by rw [← e81]; exact x_up_k (Ne.symm (tne_8_61 t1))
      have q1150 : h41 61 1 = h8 61 1 := f43 61 1 (by decide +kernel)
      have q1151 : h8 61 1 = h 61 1 := f10 61 1 (by decide +kernel)
      have q1152 : h235 (h 61 1) 7 = h223 (h 61 1) 7 := jK 0 f237 (rg_T0_7_0_1 t1) (by first | decide | omega) (by first | decide | omega) (by decide)
      have q1153 : h223 (h 61 1) 7 = h183 (h 61 1) 7 := by rw [← e225]; exact x_up_k tof_0_8
      have q1154 : h183 (h 61 1) 7 = h91 (h 61 1) 7 := jK 0 f185 (rg_T0_7_0_1 t1) (by first | decide | omega) (by first | decide | omega) (by decide)
      have q1155 : h91 (h 61 1) 7 = h79 (h 61 1) 7 := jK 0 f93 (rg_T0_7_0_1 t1) (by first | decide | omega) (by first | decide | omega) (by decide)
      have q1156 : h79 (h 61 1) 7 = h41 (h 61 1) 7 := by rw [← e81]; exact x_up_k tof_0_8
      have q1157 : h41 (h 61 1) 7 = h8 (h 61 1) 7 := jK 0 f43 (rg_T0_7_0_1 t1) (by first | decide | omega) (by first | decide | omega) (by decide)
      have e1158 : rv h235 0 = (h8 (h 61 1) 7) := (congrArg (fun z => svq h235 z 0) ((((((q1145.trans q1146).trans q1147).trans q1148).trans q1149).trans q1150).trans q1151)).trans (((((q1152.trans q1153).trans q1154).trans q1155).trans q1156).trans q1157)
      have m1159 : Ot (h 61 1) h h8 := Ot.trans Ot.refl (c19)
      have m1160 : Ot (h 61 1) h h41 := Ot.fr m1159 f43 (by decide)
      have m1161 : Ot (h 61 1) h h79 := by rw [← e81]; exact Ot.up (o := 8) m1160 t1 (by decide) rfl
      have m1162 : Ot (h 61 1) h h91 := Ot.fr m1161 f93 (by decide)
      have m1163 : Ot (h 61 1) h h183 := Ot.fr m1162 f185 (by decide)
      have m1164 : Ot (h 61 1) h h223 := by rw [← e225]; exact Ot.up (o := 8) m1163 t1 (by decide) rfl
      have m1165 : Ot (h 61 1) h h235 := Ot.fr m1164 f237 (by decide)
      have m1166 : Ot (h 61 1) h h366 := Ot.fr m1165 f368 (by decide)
      have q1167 : h8 1 2 = h 1 2 := jK 0 f10 rg_1_2_0_1 (by first | decide | omega) (by first | decide | omega) (by decide)
      have q1168 : h79 1 2 = h41 1 2 := by rw [← e81]; exact x_up_k (Ne.symm (tne_8_1 t1))
      obtain ⟨w1169, e1170⟩ := Tk.yes c97 (by first | decide | omega)
      have q1171 : h223 1 2 = h183 1 2 := by rw [← e225]; exact x_up_k (Ne.symm (tne_8_1 t1))
      obtain ⟨w1172, e1173⟩ := Tk.yes c241 (by first | decide | omega)
      have q1174 : h235 61 1 = h223 61 1 := f237 61 1 (by decide +kernel)
      have q1175 : h223 61 1 = h183 61 1 := by rw [← e225]; exact x_up_k (Ne.symm (tne_8_61 t1))
      have q1176 : h183 61 1 = h91 61 1 := f185 61 1 (by decide +kernel)
      have q1177 : h91 61 1 = h79 61 1 := f93 61 1 (by decide +kernel)
      have q1178 : h79 61 1 = h41 61 1 := by rw [← e81]; exact x_up_k (Ne.symm (tne_8_61 t1))
      have q1179 : h41 61 1 = h8 61 1 := f43 61 1 (by decide +kernel)
      have q1180 : h8 61 1 = h 61 1 := f10 61 1 (by decide +kernel)
      have q1181 : h235 (h 61 1) 7 = h223 (h 61 1) 7 := jK 0 f237 (rg_T0_7_0_1 t1) (by first | decide | omega) (by first | decide | omega) (by decide)
      have q1182 : h223 (h 61 1) 7 = h183 (h 61 1) 7 := by rw [← e225]; exact x_up_k tof_0_8
      have q1183 : h183 (h 61 1) 7 = h91 (h 61 1) 7 := jK 0 f185 (rg_T0_7_0_1 t1) (by first | decide | omega) (by first | decide | omega) (by decide)
      have q1184 : h91 (h 61 1) 7 = h79 (h 61 1) 7 := jK 0 f93 (rg_T0_7_0_1 t1) (by first | decide | omega) (by first | decide | omega) (by decide)
      have q1185 : h79 (h 61 1) 7 = h41 (h 61 1) 7 := by rw [← e81]; exact x_up_k tof_0_8
      have q1186 : h41 (h 61 1) 7 = h8 (h 61 1) 7 := jK 0 f43 (rg_T0_7_0_1 t1) (by first | decide | omega) (by first | decide | omega) (by decide)
      refine x_retI (np := 90) (x := 0) (by decide +kernel) (by decide) (Or.inr ⟨by decide +kernel, by first | decide | omega, by first | decide | omega⟩) ⟨_, rfl, (by decide), ?_⟩
      exact ⟨j367, f373, (by first | decide | omega), (by first | decide | omega), (by first | decide | omega), (by first | decide | omega), (by first | decide | omega), (by first | decide | omega), (fun z => by first | decide | omega), (nm9.y c48 (by first | decide | omega) (by first | decide | omega) (show h8 1 2 = h 1 2 by first | decide | omega) (by first | decide | omega) rfl (wd9.y w1140 (show h79 1 2 = h41 1 2 by first | decide | omega) e1141 rfl (nm9.y c190 (by first | decide | omega) (by first | decide | omega) rfl (by first | decide | omega) rfl (wd9.y w1143 (show h223 1 2 = h183 1 2 by first | decide | omega) e1144 rfl (bl9.f c370 (by first | decide | omega) rfl (by first | decide | omega) (by first | decide | omega)))))), m1166, (fun _ => (mF.y c48 (by first | decide | omega) (by first | decide | omega) (show h8 1 2 = h 1 2 by first | decide | omega) (by first | decide | omega) rfl (wF.y w1169 (show h79 1 2 = h41 1 2 by first | decide | omega) e1170 rfl (mF.y c190 (by first | decide | omega) (by first | decide | omega) rfl (by first | decide | omega) rfl (wF.y w1172 (show h223 1 2 = h183 1 2 by first | decide | omega) e1173 rfl (bF.no (c372 (by first | decide | omega)) (by first | decide | omega) rfl rfl))))))⟩
    have q194 : ¬ (v179 ≠ 2147483647) := q194
    have b1187 := c189 (by first | decide | omega)
    refine x_const (np := 20) (x := 9223372039002259456) (a := 2147483648) (by decide +kernel) (by decide) (by decide) ?_
    refine x_retI (np := 21) (x := 0) (by decide +kernel) (by decide) (Or.inr ⟨by decide +kernel, by first | decide | omega, by first | decide | omega⟩) ⟨_, rfl, (by decide), ?_⟩
    refine x_ifz (k := 0) (tg := 88) (np := 68) (by decide +kernel) (by decide) (by decide) (fun q1188 => ?_) (fun q1189 => ?_)
    · have q1188 : 2147483648 = 2147483648 := q1188
      refine x_const (np := 89) (x := 9223372039002259456) (a := 2147483648) (by decide +kernel) (by decide) (by decide) ?_
      have e1190 : rv h 0 = (h (h 61 1) 7) := (congrArg (fun z => svq h z 0) rfl).trans rfl
      have q1191 : h183 61 1 = h91 61 1 := f185 61 1 (by decide +kernel)
      have q1192 : h91 61 1 = h79 61 1 := f93 61 1 (by decide +kernel)
      have q1193 : h79 61 1 = h41 61 1 := by rw [← e81]; exact x_up_k (Ne.symm (tne_8_61 t1))
      have q1194 : h41 61 1 = h8 61 1 := f43 61 1 (by decide +kernel)
      have q1195 : h8 61 1 = h 61 1 := f10 61 1 (by decide +kernel)
      have q1196 : h183 (h 61 1) 7 = h91 (h 61 1) 7 := jK 0 f185 (rg_T0_7_0_1 t1) (by first | decide | omega) (by first | decide | omega) (by decide)
      have q1197 : h91 (h 61 1) 7 = h79 (h 61 1) 7 := jK 0 f93 (rg_T0_7_0_1 t1) (by first | decide | omega) (by first | decide | omega) (by decide)
      have q1198 : h79 (h 61 1) 7 = h41 (h 61 1) 7 := by rw [← e81]; exact x_up_k tof_0_8
      have q1199 : h41 (h 61 1) 7 = h8 (h 61 1) 7 := jK 0 f43 (rg_T0_7_0_1 t1) (by first | decide | omega) (by first | decide | omega) (by decide)
      have e1200 : rv h183 0 = (h8 (h 61 1) 7) := (congrArg (fun z => svq h183 z 0) ((((q1191.trans q1192).trans q1193).trans q1194).trans q1195)).trans (((q1196.trans q1197).trans q1198).trans q1199)
      have e1201 : rv h 1 = (h (h 61 1) 8) := (congrArg (fun z => svq h z 1) rfl).trans rfl
      have q1202 : h183 61 1 = h91 61 1 := f185 61 1 (by decide +kernel)
      have q1203 : h91 61 1 = h79 61 1 := f93 61 1 (by decide +kernel)
      have q1204 : h79 61 1 = h41 61 1 := by rw [← e81]; exact x_up_k (Ne.symm (tne_8_61 t1))
      have q1205 : h41 61 1 = h8 61 1 := f43 61 1 (by decide +kernel)
      have q1206 : h8 61 1 = h 61 1 := f10 61 1 (by decide +kernel)
      have q1207 : h183 (h 61 1) 8 = h91 (h 61 1) 8 := jK 0 f185 (rg_T0_8_0_1 t1) (by first | decide | omega) (by first | decide | omega) (by decide)
      have q1208 : h91 (h 61 1) 8 = h79 (h 61 1) 8 := jK 0 f93 (rg_T0_8_0_1 t1) (by first | decide | omega) (by first | decide | omega) (by decide)
      have q1209 : h79 (h 61 1) 8 = h41 (h 61 1) 8 := by rw [← e81]; exact x_up_k tof_0_8
      have q1210 : h41 (h 61 1) 8 = h8 (h 61 1) 8 := jK 0 f43 (rg_T0_8_0_1 t1) (by first | decide | omega) (by first | decide | omega) (by decide)
      have e1211 : rv h183 1 = (h8 (h 61 1) 8) := (congrArg (fun z => svq h183 z 1) ((((q1202.trans q1203).trans q1204).trans q1205).trans q1206)).trans (((q1207.trans q1208).trans q1209).trans q1210)
      have e1212 : rv h 2 = (h ((h 61 1) + 1) 2) := (congrArg (fun z => svq h z 2) rfl).trans rfl
      have q1213 : h183 61 1 = h91 61 1 := f185 61 1 (by decide +kernel)
      have q1214 : h91 61 1 = h79 61 1 := f93 61 1 (by decide +kernel)
      have q1215 : h79 61 1 = h41 61 1 := by rw [← e81]; exact x_up_k (Ne.symm (tne_8_61 t1))
      have q1216 : h41 61 1 = h8 61 1 := f43 61 1 (by decide +kernel)
      have q1217 : h8 61 1 = h 61 1 := f10 61 1 (by decide +kernel)
      have q1218 : h183 ((h 61 1) + 1) 2 = h91 ((h 61 1) + 1) 2 := jK 0 f185 (rg_T1_2_0_1 t1) (by first | decide | omega) (by first | decide | omega) (by decide)
      have q1219 : h91 ((h 61 1) + 1) 2 = h79 ((h 61 1) + 1) 2 := jK 0 f93 (rg_T1_2_0_1 t1) (by first | decide | omega) (by first | decide | omega) (by decide)
      have q1220 : h79 ((h 61 1) + 1) 2 = h41 ((h 61 1) + 1) 2 := by rw [← e81]; exact x_up_k tof_1_8
      have q1221 : h41 ((h 61 1) + 1) 2 = h8 ((h 61 1) + 1) 2 := jK 0 f43 (rg_T1_2_0_1 t1) (by first | decide | omega) (by first | decide | omega) (by decide)
      have e1222 : rv h183 2 = (h8 ((h 61 1) + 1) 2) := (congrArg (fun z => svq h183 z 2) ((((q1213.trans q1214).trans q1215).trans q1216).trans q1217)).trans (((q1218.trans q1219).trans q1220).trans q1221)
      have e1223 : rv h 3 = (h ((h 61 1) + 3) 2) := (congrArg (fun z => svq h z 3) rfl).trans rfl
      have q1224 : h183 61 1 = h91 61 1 := f185 61 1 (by decide +kernel)
      have q1225 : h91 61 1 = h79 61 1 := f93 61 1 (by decide +kernel)
      have q1226 : h79 61 1 = h41 61 1 := by rw [← e81]; exact x_up_k (Ne.symm (tne_8_61 t1))
      have q1227 : h41 61 1 = h8 61 1 := f43 61 1 (by decide +kernel)
      have q1228 : h8 61 1 = h 61 1 := f10 61 1 (by decide +kernel)
      have q1229 : h183 ((h 61 1) + 3) 2 = h91 ((h 61 1) + 3) 2 := jK 0 f185 (rg_T3_2_0_1 t1) (by first | decide | omega) (by first | decide | omega) (by decide)
      have q1230 : h91 ((h 61 1) + 3) 2 = h79 ((h 61 1) + 3) 2 := jK 0 f93 (rg_T3_2_0_1 t1) (by first | decide | omega) (by first | decide | omega) (by decide)
      have q1231 : h79 ((h 61 1) + 3) 2 = h41 ((h 61 1) + 3) 2 := by rw [← e81]; exact x_up_k tof_3_8
      have q1232 : h41 ((h 61 1) + 3) 2 = h8 ((h 61 1) + 3) 2 := jK 0 f43 (rg_T3_2_0_1 t1) (by first | decide | omega) (by first | decide | omega) (by decide)
      have e1233 : rv h183 3 = (h8 ((h 61 1) + 3) 2) := (congrArg (fun z => svq h183 z 3) ((((q1224.trans q1225).trans q1226).trans q1227).trans q1228)).trans (((q1229.trans q1230).trans q1231).trans q1232)
      have e1234 : rv h 4 = (h ((h 61 1) + 5) 2) := (congrArg (fun z => svq h z 4) rfl).trans rfl
      have q1235 : h183 61 1 = h91 61 1 := f185 61 1 (by decide +kernel)
      have q1236 : h91 61 1 = h79 61 1 := f93 61 1 (by decide +kernel)
      have q1237 : h79 61 1 = h41 61 1 := by rw [← e81]; exact x_up_k (Ne.symm (tne_8_61 t1))
      have q1238 : h41 61 1 = h8 61 1 := f43 61 1 (by decide +kernel)
      have q1239 : h8 61 1 = h 61 1 := f10 61 1 (by decide +kernel)
      have q1240 : h183 ((h 61 1) + 5) 2 = h91 ((h 61 1) + 5) 2 := jK 0 f185 (rg_T5_2_0_1 t1) (by first | decide | omega) (by first | decide | omega) (by decide)
      have q1241 : h91 ((h 61 1) + 5) 2 = h79 ((h 61 1) + 5) 2 := jK 0 f93 (rg_T5_2_0_1 t1) (by first | decide | omega) (by first | decide | omega) (by decide)
      have q1242 : h79 ((h 61 1) + 5) 2 = h41 ((h 61 1) + 5) 2 := by rw [← e81]; exact x_up_k tof_5_8
      have q1243 : h41 ((h 61 1) + 5) 2 = h8 ((h 61 1) + 5) 2 := jK 0 f43 (rg_T5_2_0_1 t1) (by first | decide | omega) (by first | decide | omega) (by decide)
      have e1244 : rv h183 4 = (h8 ((h 61 1) + 5) 2) := (congrArg (fun z => svq h183 z 4) ((((q1235.trans q1236).trans q1237).trans q1238).trans q1239)).trans (((q1240.trans q1241).trans q1242).trans q1243)
      have q1245 : h183 61 1 = h91 61 1 := f185 61 1 (by decide +kernel)
      have q1246 : h91 61 1 = h79 61 1 := f93 61 1 (by decide +kernel)
      have q1247 : h79 61 1 = h41 61 1 := by rw [← e81]; exact x_up_k (Ne.symm (tne_8_61 t1))
      have q1248 : h41 61 1 = h8 61 1 := f43 61 1 (by decide +kernel)
      have q1249 : h8 61 1 = h 61 1 := f10 61 1 (by decide +kernel)
      have q1250 : h183 ((h 61 1) + 7) 2 = h91 ((h 61 1) + 7) 2 := jK 0 f185 (rg_T7_2_0_1 t1) (by first | decide | omega) (by first | decide | omega) (by decide)
      have q1251 : h91 ((h 61 1) + 7) 2 = h79 ((h 61 1) + 7) 2 := jK 0 f93 (rg_T7_2_0_1 t1) (by first | decide | omega) (by first | decide | omega) (by decide)
      have q1252 : h79 ((h 61 1) + 7) 2 = h41 ((h 61 1) + 7) 2 := by rw [← e81]; exact x_up_k tof_7_8
      have q1253 : h41 ((h 61 1) + 7) 2 = h8 ((h 61 1) + 7) 2 := jK 0 f43 (rg_T7_2_0_1 t1) (by first | decide | omega) (by first | decide | omega) (by decide)
      have e1254 : rv h183 5 = (h8 ((h 61 1) + 7) 2) := (congrArg (fun z => svq h183 z 5) ((((q1245.trans q1246).trans q1247).trans q1248).trans q1249)).trans (((q1250.trans q1251).trans q1252).trans q1253)
      have q1255 : h8 1 2 = h 1 2 := jK 0 f10 rg_1_2_0_1 (by first | decide | omega) (by first | decide | omega) (by decide)
      have q1256 : h79 1 2 = h41 1 2 := by rw [← e81]; exact x_up_k (Ne.symm (tne_8_1 t1))
      obtain ⟨w1257, e1258⟩ := Tk.yes c97 (by first | decide | omega)
      have m1259 : Ot (h 61 1) h h8 := Ot.trans Ot.refl (c19)
      have m1260 : Ot (h 61 1) h h41 := Ot.fr m1259 f43 (by decide)
      have m1261 : Ot (h 61 1) h h79 := by rw [← e81]; exact Ot.up (o := 8) m1260 t1 (by decide) rfl
      have m1262 : Ot (h 61 1) h h91 := Ot.fr m1261 f93 (by decide)
      have m1263 : Ot (h 61 1) h h183 := Ot.fr m1262 f185 (by decide)
      have q1264 : h8 1 2 = h 1 2 := jK 0 f10 rg_1_2_0_1 (by first | decide | omega) (by first | decide | omega) (by decide)
      have q1265 : h79 1 2 = h41 1 2 := by rw [← e81]; exact x_up_k (Ne.symm (tne_8_1 t1))
      obtain ⟨w1266, e1267⟩ := Tk.yes c97 (by first | decide | omega)
      refine x_retI (np := 90) (x := 0) (by decide +kernel) (by decide) (Or.inr ⟨by decide +kernel, by first | decide | omega, by first | decide | omega⟩) ⟨_, rfl, (by decide), ?_⟩
      exact ⟨j184, f191, (by first | decide | omega), (by first | decide | omega), (by first | decide | omega), (by first | decide | omega), (by first | decide | omega), (by first | decide | omega), (fun z => by first | decide | omega), (nm9.y c48 (by first | decide | omega) (by first | decide | omega) (show h8 1 2 = h 1 2 by first | decide | omega) (by first | decide | omega) rfl (wd9.y w1257 (show h79 1 2 = h41 1 2 by first | decide | omega) e1258 rfl (nm9.f c190 (by first | decide | omega) (by first | decide | omega) rfl (by first | decide | omega) (by first | decide | omega)))), m1263, (fun _ => (mF.y c48 (by first | decide | omega) (by first | decide | omega) (show h8 1 2 = h 1 2 by first | decide | omega) (by first | decide | omega) rfl (wF.y w1266 (show h79 1 2 = h41 1 2 by first | decide | omega) e1267 rfl (mF.no c190 (by first | decide | omega) (by first | decide | omega) rfl (by first | decide | omega) (show h183 1 2 = h91 1 2 by first | decide | omega)))))⟩
    have q1189 : ¬ (2147483648 = 2147483648) := q1189
    exfalso; omega
  have q55 : ¬ (v37 ≠ 2147483647) := q55
  have b1268 := c47 (by first | decide | omega)
  refine x_const (np := 20) (x := 9223372039002259456) (a := 2147483648) (by decide +kernel) (by decide) (by decide) ?_
  refine x_retI (np := 21) (x := 0) (by decide +kernel) (by decide) (Or.inr ⟨by decide +kernel, by first | decide | omega, by first | decide | omega⟩) ⟨_, rfl, (by decide), ?_⟩
  refine x_ifz (k := 0) (tg := 88) (np := 37) (by decide +kernel) (by decide) (by decide) (fun q1269 => ?_) (fun q1270 => ?_)
  · have q1269 : 2147483648 = 2147483648 := q1269
    refine x_const (np := 89) (x := 9223372039002259456) (a := 2147483648) (by decide +kernel) (by decide) (by decide) ?_
    have e1271 : rv h 0 = (h (h 61 1) 7) := (congrArg (fun z => svq h z 0) rfl).trans rfl
    have q1272 : h41 61 1 = h8 61 1 := f43 61 1 (by decide +kernel)
    have q1273 : h8 61 1 = h 61 1 := f10 61 1 (by decide +kernel)
    have q1274 : h41 (h 61 1) 7 = h8 (h 61 1) 7 := jK 0 f43 (rg_T0_7_0_1 t1) (by first | decide | omega) (by first | decide | omega) (by decide)
    have e1275 : rv h41 0 = (h8 (h 61 1) 7) := (congrArg (fun z => svq h41 z 0) (q1272.trans q1273)).trans q1274
    have e1276 : rv h 1 = (h (h 61 1) 8) := (congrArg (fun z => svq h z 1) rfl).trans rfl
    have q1277 : h41 61 1 = h8 61 1 := f43 61 1 (by decide +kernel)
    have q1278 : h8 61 1 = h 61 1 := f10 61 1 (by decide +kernel)
    have q1279 : h41 (h 61 1) 8 = h8 (h 61 1) 8 := jK 0 f43 (rg_T0_8_0_1 t1) (by first | decide | omega) (by first | decide | omega) (by decide)
    have e1280 : rv h41 1 = (h8 (h 61 1) 8) := (congrArg (fun z => svq h41 z 1) (q1277.trans q1278)).trans q1279
    have e1281 : rv h 2 = (h ((h 61 1) + 1) 2) := (congrArg (fun z => svq h z 2) rfl).trans rfl
    have q1282 : h41 61 1 = h8 61 1 := f43 61 1 (by decide +kernel)
    have q1283 : h8 61 1 = h 61 1 := f10 61 1 (by decide +kernel)
    have q1284 : h41 ((h 61 1) + 1) 2 = h8 ((h 61 1) + 1) 2 := jK 0 f43 (rg_T1_2_0_1 t1) (by first | decide | omega) (by first | decide | omega) (by decide)
    have e1285 : rv h41 2 = (h8 ((h 61 1) + 1) 2) := (congrArg (fun z => svq h41 z 2) (q1282.trans q1283)).trans q1284
    have e1286 : rv h 3 = (h ((h 61 1) + 3) 2) := (congrArg (fun z => svq h z 3) rfl).trans rfl
    have q1287 : h41 61 1 = h8 61 1 := f43 61 1 (by decide +kernel)
    have q1288 : h8 61 1 = h 61 1 := f10 61 1 (by decide +kernel)
    have q1289 : h41 ((h 61 1) + 3) 2 = h8 ((h 61 1) + 3) 2 := jK 0 f43 (rg_T3_2_0_1 t1) (by first | decide | omega) (by first | decide | omega) (by decide)
    have e1290 : rv h41 3 = (h8 ((h 61 1) + 3) 2) := (congrArg (fun z => svq h41 z 3) (q1287.trans q1288)).trans q1289
    have e1291 : rv h 4 = (h ((h 61 1) + 5) 2) := (congrArg (fun z => svq h z 4) rfl).trans rfl
    have q1292 : h41 61 1 = h8 61 1 := f43 61 1 (by decide +kernel)
    have q1293 : h8 61 1 = h 61 1 := f10 61 1 (by decide +kernel)
    have q1294 : h41 ((h 61 1) + 5) 2 = h8 ((h 61 1) + 5) 2 := jK 0 f43 (rg_T5_2_0_1 t1) (by first | decide | omega) (by first | decide | omega) (by decide)
    have e1295 : rv h41 4 = (h8 ((h 61 1) + 5) 2) := (congrArg (fun z => svq h41 z 4) (q1292.trans q1293)).trans q1294
    have q1296 : h41 61 1 = h8 61 1 := f43 61 1 (by decide +kernel)
    have q1297 : h8 61 1 = h 61 1 := f10 61 1 (by decide +kernel)
    have q1298 : h41 ((h 61 1) + 7) 2 = h8 ((h 61 1) + 7) 2 := jK 0 f43 (rg_T7_2_0_1 t1) (by first | decide | omega) (by first | decide | omega) (by decide)
    have e1299 : rv h41 5 = (h8 ((h 61 1) + 7) 2) := (congrArg (fun z => svq h41 z 5) (q1296.trans q1297)).trans q1298
    have q1300 : h8 1 2 = h 1 2 := jK 0 f10 rg_1_2_0_1 (by first | decide | omega) (by first | decide | omega) (by decide)
    have m1301 : Ot (h 61 1) h h8 := Ot.trans Ot.refl (c19)
    have m1302 : Ot (h 61 1) h h41 := Ot.fr m1301 f43 (by decide)
    have q1303 : h8 1 2 = h 1 2 := jK 0 f10 rg_1_2_0_1 (by first | decide | omega) (by first | decide | omega) (by decide)
    have q1304 : h8 1 2 = h 1 2 := jK 0 f10 rg_1_2_0_1 (by first | decide | omega) (by first | decide | omega) (by decide)
    refine x_retI (np := 90) (x := 0) (by decide +kernel) (by decide) (Or.inr ⟨by decide +kernel, by first | decide | omega, by first | decide | omega⟩) ⟨_, rfl, (by decide), ?_⟩
    exact ⟨j42, f49, (by first | decide | omega), (by first | decide | omega), (by first | decide | omega), (by first | decide | omega), (by first | decide | omega), (by first | decide | omega), (fun z => by first | decide | omega), (nm9.f c48 (by first | decide | omega) (by first | decide | omega) (show h8 1 2 = h 1 2 by first | decide | omega) (by first | decide | omega) (by first | decide | omega)), m1302, (fun _ => (mF.no c48 (by first | decide | omega) (by first | decide | omega) (show h8 1 2 = h 1 2 by first | decide | omega) (by first | decide | omega) (show h41 1 2 = h8 1 2 by first | decide | omega)))⟩
  have q1270 : ¬ (2147483648 = 2147483648) := q1270
  exfalso; omega
