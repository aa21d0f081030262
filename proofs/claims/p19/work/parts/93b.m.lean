/-! ===== methods ===== -/
set_option maxHeartbeats 0 in
/-- LentNames$TownReader.readSighting()Z -/
theorem c100_61 {sc : Nat × Nat} {d  : Nat} {h : xh} (hJ : J h) : X sc 100 (d + 7) (xI fun r h' => J h' ∧ Fr 161 h h' ∧ (2147483648 ≤ r ∧ r ≤ 2147483649)) 0 0 0 [x_r 61, 147573952589676412928] [] h := by
  have hF := Fr.refl 161 h
  refine x_aload (np := 1) (x := 0) (by decide +kernel) rfl (x_nc_le (by decide)) ?_
  have t1 : tw (h 61 1) := hJ.2.2.2.2.1
  refine x_getR (np := 4) (x := 577) (f := 1) (q := (h 61 1)) (by decide +kernel) (by decide) (by decide +kernel) rfl ?_
  have q2 : h (h 61 1) 3 = ((h 61 1) + 7) := tf_0_3 hJ t1
  refine x_getR (np := 7) (x := 515) (f := 3) (q := ((h 61 1) + 7)) (by decide +kernel) (by decide) (tg_0_515_3_1 t1) q2 ?_
  refine x_cI (t := 6) (mj := 67) (n := 1) (rc := 7) (ml := 2) (nr := 0) (np := 10) (as := [x_r ((h 61 1) + 7)]) (rest := []) (lo1 := [x_r ((h 61 1) + 7), 147573952589676412928]) (by decide +kernel) (by decide) (by decide +kernel) (x_rb_of (tr_7_7 t1)) rfl rfl (x_wr (tn_7 t1) x_wn) x_wn (by decide) rfl (c67_T7 hJ t1) (fun v3 h6 l4 q5 => ?_)
  obtain ⟨j7, f8, b9⟩ := q5
  have f10 := Fr.trans hF f8 (by decide)
  refine x_istore (np := 11) (x := 1) (lo' := [x_r 61, iv_c v3]) (by decide +kernel) l4 (Nat.le_of_ble_eq_true rfl) rfl ?_
  refine x_aload (np := 12) (x := 0) (by decide +kernel) rfl (x_nc_le (by decide)) ?_
  refine x_aload (np := 13) (x := 0) (by decide +kernel) rfl (x_nc_le (by decide)) ?_
  have q11 : h6 61 1 = h 61 1 := f8 61 1 (by decide +kernel)
  refine x_getR (np := 16) (x := 577) (f := 1) (q := (h 61 1)) (by decide +kernel) (by decide) (by decide +kernel) q11 ?_
  have q12 : h6 (h 61 1) 3 = ((h 61 1) + 7) := tf_0_3 j7 t1
  refine x_getR (np := 19) (x := 515) (f := 3) (q := ((h 61 1) + 7)) (by decide +kernel) (by decide) (tg_0_515_3_1 t1) q12 ?_
  refine x_iload (np := 20) (x := 1) (by decide +kernel) rfl l4 ?_
  refine x_const (np := 21) (x := 9223372039002259456) (a := 2147483648) (by decide +kernel) (by decide) (by decide) ?_
  refine x_const (np := 22) (x := 9223372039002259456) (a := 2147483648) (by decide +kernel) (by decide) (by decide) ?_
  refine x_aload (np := 23) (x := 0) (by decide +kernel) rfl (x_nc_le (by decide)) ?_
  have q13 : h6 61 1 = h 61 1 := f8 61 1 (by decide +kernel)
  refine x_getR (np := 26) (x := 577) (f := 1) (q := (h 61 1)) (by decide +kernel) (by decide) (by decide +kernel) q13 ?_
  have b14 := jB (e := 7) 0 j7 (rg_T0_7_0_1 t1) (by omega) (by omega)
  refine x_getC (np := 29) (x := 519) (f := 7) (q := (h6 (h 61 1) 7)) (by decide +kernel) (by decide) (tg_0_519_7_0 t1) rfl (fun l15 => ?_)
  refine x_const (np := 30) (x := 9223372043297226753) (a := 2147483649) (by decide +kernel) (by decide) (by decide) ?_
  obtain ⟨v16, q17⟩ : ∃ z, z + 2147483649 = (h6 (h 61 1) 7) + 2147483648 := ⟨(h6 (h 61 1) 7) + 2147483648 - 2147483649, by omega⟩
  refine x_isub (np := 31) (x := 0) (v := v16) (by decide +kernel) l15 (by decide) (by omega) (by omega) ?_
  refine x_cI (t := 6) (mj := 102) (n := 6) (rc := 10) (ml := 7) (nr := 0) (np := 34) (as := [x_r 61, x_r ((h 61 1) + 7), iv_c v3, iv_c 2147483648, iv_c 2147483648, iv_c v16]) (rest := []) (lo1 := [x_r 61, x_r ((h 61 1) + 7), iv_c v3, iv_c 2147483648, iv_c 2147483648, iv_c v16, 147573952589676412928]) (by decide +kernel) (by decide) (by decide +kernel) (x_rb_of (by decide +kernel)) rfl rfl (x_wr (by decide) (x_wr (tn_7 t1) (x_wi l4 (x_wi (by decide) (x_wi (by decide) (x_wi (by omega) x_wn)))))) x_wn (by decide) rfl (c102_61_T7_c0_c0 j7  t1 (by omega)   (by omega)) (fun v18 h21 l19 q20 => ?_)
  obtain ⟨j22, f23, b24⟩ := q20
  have f25 := Fr.trans f10 f23 (by decide)
  refine x_ifz (k := 0) (tg := 88) (np := 37) (by decide +kernel) (by decide) l19 (fun q26 => ?_) (fun q27 => ?_)
  · have q26 : v18 = 2147483648 := q26
    refine x_const (np := 89) (x := 9223372039002259456) (a := 2147483648) (by decide +kernel) (by decide) (by decide) ?_
    refine x_retI (np := 90) (x := 0) (by decide +kernel) (by decide) (Or.inr ⟨by decide +kernel, by omega, by omega⟩) ⟨_, rfl, (by decide), ?_⟩
    exact ⟨j22, f25, (by omega)⟩
  have q27 : ¬ (v18 = 2147483648) := q27
  refine x_aload (np := 38) (x := 0) (by decide +kernel) rfl (x_nc_le (by decide)) ?_
  have q28 : h21 61 0 = 1 := by have z := jB (e := 0) 0 j22 rg_61_0_0_1 (by decide) (by decide); omega
  refine x_getR (np := 41) (x := 576) (f := 0) (q := 1) (by decide +kernel) (by decide) (by decide +kernel) q28 ?_
  refine x_ldcB (i := 2) (idx := 111) (tx := "day") (by rw [tb_y100]; exact List.mem_of_getElem? (i := 2) rfl) (by decide) (by rw [tb_b100]; decide +kernel) ?_
  refine x_nI (t := 6) (mj := 78) (n := 2) (rc := 8) (ml := 2) (nr := 0) (np := 46) (as := [x_r 1, x_b (2 + 1)]) (rest := []) (lo1 := [x_r 1, x_b (2 + 1)]) (by decide +kernel) (by decide) (by decide +kernel) (x_rb_of (by decide +kernel)) rfl rfl (x_wr (by decide) (x_wB (by decide) x_wn)) x_wn (by decide) rfl ?_
  refine x_aload (np := 1) (x := 0) (by decide +kernel) rfl (x_nc_le (by decide)) ?_
  refine x_aloadB (i := 2) (k4 := 1) rfl (by decide) (by rw [tb_b78]; decide +kernel) ?_
  refine x_cP (t := 6) (mj := 77) (n := 2) (rc := 8) (ml := 4) (nr := 0) (np := 5) (as := [x_r 1, x_b (2 + 1)]) (rest := []) (lo1 := [x_r 1, x_b (2 + 1), 147573952589676412928, 147573952589676412928]) (by decide +kernel) (by decide) (by decide +kernel) (x_rb_of (by decide +kernel)) rfl rfl (x_wr (by decide) (x_wB (by decide) x_wn)) x_wn (by decide) rfl (c77_1_S0 j22  (by decide)) (fun v29 l30 q31 => ?_)
  obtain ⟨b33, c32⟩ := q31
  have b34 := jB (e := 2) 0 j22 rg_1_2_0_1 (by omega) (by omega)
  refine x_ifz (k := 1) (tg := 10) (np := 8) (by decide +kernel) (by decide) l30 (fun q35 => ?_) (fun q36 => ?_)
  · have q35 : v29 ≠ 2147483648 := q35
    have b37 := c32 (by omega)
    refine x_aload (np := 11) (x := 0) (by decide +kernel) rfl (x_nc_le (by decide)) ?_
    refine x_aload (np := 12) (x := 0) (by decide +kernel) rfl (x_nc_le (by decide)) ?_
    refine x_getC (np := 15) (x := 450) (f := 2) (q := (h21 1 2)) (by decide +kernel) (by decide) (by decide +kernel) rfl (fun l38 => ?_)
    refine x_aloadB (i := 2) (k4 := 1) rfl (by decide) (by rw [tb_b78]; decide +kernel) ?_
    have b39 := (iv_tl_lt 2 (by decide)).1
    have b40 := iv_tl_ge 2 (by decide)
    refine x_len (by decide +kernel) (by rw [tb_y78]; exact sl_Tl) (by decide) (by rw [tb_b78]; decide +kernel) (Nat.le_trans (x_wi l38 (x_wr (by decide) x_wn)) (by decide)) ?_
    refine x_iadd (np := 20) (x := 0) (v := ((h21 1 2) + (iv_tl 2))) (by decide +kernel) l38 (by omega) (by omega) (by omega) ?_
    refine x_cV (t := 6) (mj := 80) (n := 2) (rc := 8) (ml := 2) (nr := 0) (np := 23) (as := [x_r 1, iv_c ((h21 1 2) + (iv_tl 2))]) (rest := []) (lo1 := [x_r 1, iv_c ((h21 1 2) + (iv_tl 2))]) (by decide +kernel) (by decide) (by decide +kernel) (x_rb_of (by decide +kernel)) rfl rfl (x_wr (by decide) (x_wi (by omega) x_wn)) x_wn (by decide) rfl (c80_1n j22  (by omega)) (fun h44 q43 => ?_)
    obtain ⟨j45, f46⟩ := q43
    have f49 := Fr.trans f25 f46 (by decide)
    refine x_const (np := 24) (x := 9223372043297226753) (a := 2147483649) (by decide +kernel) (by decide) (by decide) ?_
    refine x_retI (np := 25) (x := 0) (by decide +kernel) (by decide) (Or.inr ⟨by decide +kernel, by omega, by omega⟩) ⟨_, rfl, (by decide), ?_⟩
    refine x_ifz (k := 0) (tg := 88) (np := 49) (by decide +kernel) (by decide) (by decide) (fun q50 => ?_) (fun q51 => ?_)
    · have q50 : 2147483649 = 2147483648 := q50
      exfalso; omega
    have q51 : ¬ (2147483649 = 2147483648) := q51
    refine x_aload (np := 50) (x := 0) (by decide +kernel) rfl (x_nc_le (by decide)) ?_
    refine x_aload (np := 51) (x := 0) (by decide +kernel) rfl (x_nc_le (by decide)) ?_
    have q52 : h44 61 1 = h21 61 1 := f46 61 1 (by decide +kernel)
    have q53 : h21 61 1 = h6 61 1 := f23 61 1 (by decide +kernel)
    have q54 : h6 61 1 = h 61 1 := f8 61 1 (by decide +kernel)
    refine x_getR (np := 54) (x := 577) (f := 1) (q := (h 61 1)) (by decide +kernel) (by decide) (by decide +kernel) ((q52.trans q53).trans q54) ?_
    have q55 : h44 (h 61 1) 3 = ((h 61 1) + 7) := tf_0_3 j45 t1
    refine x_getR (np := 57) (x := 515) (f := 3) (q := ((h 61 1) + 7)) (by decide +kernel) (by decide) (tg_0_515_3_1 t1) q55 ?_
    refine x_iload (np := 58) (x := 1) (by decide +kernel) rfl l4 ?_
    refine x_const (np := 59) (x := 9223372043297226753) (a := 2147483649) (by decide +kernel) (by decide) (by decide) ?_
    refine x_const (np := 60) (x := 9223372039002259456) (a := 2147483648) (by decide +kernel) (by decide) (by decide) ?_
    refine x_const (np := 62) (x := 9223372086246899723) (a := 2147483659) (by decide +kernel) (by decide) (by decide) ?_
    refine x_cI (t := 6) (mj := 102) (n := 6) (rc := 10) (ml := 7) (nr := 0) (np := 65) (as := [x_r 61, x_r ((h 61 1) + 7), iv_c v3, iv_c 2147483649, iv_c 2147483648, iv_c 2147483659]) (rest := []) (lo1 := [x_r 61, x_r ((h 61 1) + 7), iv_c v3, iv_c 2147483649, iv_c 2147483648, iv_c 2147483659, 147573952589676412928]) (by decide +kernel) (by decide) (by decide +kernel) (x_rb_of (by decide +kernel)) rfl rfl (x_wr (by decide) (x_wr (tn_7 t1) (x_wi l4 (x_wi (by decide) (x_wi (by decide) (x_wi (by decide) x_wn)))))) x_wn (by decide) rfl (c102_61_T7_c1_c0 j45  t1 (by omega)   (by omega)) (fun v56 h59 l57 q58 => ?_)
    obtain ⟨j60, f61, b62⟩ := q58
    have f63 := Fr.trans f49 f61 (by decide)
    refine x_ifz (k := 0) (tg := 88) (np := 68) (by decide +kernel) (by decide) l57 (fun q64 => ?_) (fun q65 => ?_)
    · have q64 : v56 = 2147483648 := q64
      refine x_const (np := 89) (x := 9223372039002259456) (a := 2147483648) (by decide +kernel) (by decide) (by decide) ?_
      refine x_retI (np := 90) (x := 0) (by decide +kernel) (by decide) (Or.inr ⟨by decide +kernel, by omega, by omega⟩) ⟨_, rfl, (by decide), ?_⟩
      exact ⟨j60, f63, (by omega)⟩
    have q65 : ¬ (v56 = 2147483648) := q65
    refine x_aload (np := 69) (x := 0) (by decide +kernel) rfl (x_nc_le (by decide)) ?_
    have q66 : h59 61 0 = 1 := by have z := jB (e := 0) 0 j60 rg_61_0_0_1 (by decide) (by decide); omega
    refine x_getR (np := 72) (x := 576) (f := 0) (q := 1) (by decide +kernel) (by decide) (by decide +kernel) q66 ?_
    refine x_ldcB (i := 14) (idx := 157) (tx := "as") (by rw [tb_y100]; exact List.mem_of_getElem? (i := 14) rfl) (by decide) (by rw [tb_b100]; decide +kernel) ?_
    refine x_nI (t := 6) (mj := 78) (n := 2) (rc := 8) (ml := 2) (nr := 0) (np := 77) (as := [x_r 1, x_b (14 + 1)]) (rest := []) (lo1 := [x_r 1, x_b (14 + 1)]) (by decide +kernel) (by decide) (by decide +kernel) (x_rb_of (by decide +kernel)) rfl rfl (x_wr (by decide) (x_wB (by decide) x_wn)) x_wn (by decide) rfl ?_
    refine x_aload (np := 1) (x := 0) (by decide +kernel) rfl (x_nc_le (by decide)) ?_
    refine x_aloadB (i := 14) (k4 := 1) rfl (by decide) (by rw [tb_b78]; decide +kernel) ?_
    refine x_cP (t := 6) (mj := 77) (n := 2) (rc := 8) (ml := 4) (nr := 0) (np := 5) (as := [x_r 1, x_b (14 + 1)]) (rest := []) (lo1 := [x_r 1, x_b (14 + 1), 147573952589676412928, 147573952589676412928]) (by decide +kernel) (by decide) (by decide +kernel) (x_rb_of (by decide +kernel)) rfl rfl (x_wr (by decide) (x_wB (by decide) x_wn)) x_wn (by decide) rfl (c77_1_S0 j60  (by decide)) (fun v67 l68 q69 => ?_)
    obtain ⟨b71, c70⟩ := q69
    have b72 := jB (e := 2) 0 j60 rg_1_2_0_1 (by omega) (by omega)
    refine x_ifz (k := 1) (tg := 10) (np := 8) (by decide +kernel) (by decide) l68 (fun q73 => ?_) (fun q74 => ?_)
    · have q73 : v67 ≠ 2147483648 := q73
      have b75 := c70 (by omega)
      refine x_aload (np := 11) (x := 0) (by decide +kernel) rfl (x_nc_le (by decide)) ?_
      refine x_aload (np := 12) (x := 0) (by decide +kernel) rfl (x_nc_le (by decide)) ?_
      refine x_getC (np := 15) (x := 450) (f := 2) (q := (h59 1 2)) (by decide +kernel) (by decide) (by decide +kernel) rfl (fun l76 => ?_)
      refine x_aloadB (i := 14) (k4 := 1) rfl (by decide) (by rw [tb_b78]; decide +kernel) ?_
      have b77 := (iv_tl_lt 14 (by decide)).1
      have b78 := iv_tl_ge 14 (by decide)
      refine x_len (by decide +kernel) (by rw [tb_y78]; exact sl_Tl) (by decide) (by rw [tb_b78]; decide +kernel) (Nat.le_trans (x_wi l76 (x_wr (by decide) x_wn)) (by decide)) ?_
      refine x_iadd (np := 20) (x := 0) (v := ((h59 1 2) + (iv_tl 14))) (by decide +kernel) l76 (by omega) (by omega) (by omega) ?_
      refine x_cV (t := 6) (mj := 80) (n := 2) (rc := 8) (ml := 2) (nr := 0) (np := 23) (as := [x_r 1, iv_c ((h59 1 2) + (iv_tl 14))]) (rest := []) (lo1 := [x_r 1, iv_c ((h59 1 2) + (iv_tl 14))]) (by decide +kernel) (by decide) (by decide +kernel) (x_rb_of (by decide +kernel)) rfl rfl (x_wr (by decide) (x_wi (by omega) x_wn)) x_wn (by decide) rfl (c80_1n j60  (by omega)) (fun h82 q81 => ?_)
      obtain ⟨j83, f84⟩ := q81
      have f87 := Fr.trans f63 f84 (by decide)
      refine x_const (np := 24) (x := 9223372043297226753) (a := 2147483649) (by decide +kernel) (by decide) (by decide) ?_
      refine x_retI (np := 25) (x := 0) (by decide +kernel) (by decide) (Or.inr ⟨by decide +kernel, by omega, by omega⟩) ⟨_, rfl, (by decide), ?_⟩
      refine x_ifz (k := 0) (tg := 88) (np := 80) (by decide +kernel) (by decide) (by decide) (fun q88 => ?_) (fun q89 => ?_)
      · have q88 : 2147483649 = 2147483648 := q88
        exfalso; omega
      have q89 : ¬ (2147483649 = 2147483648) := q89
      refine x_aload (np := 81) (x := 0) (by decide +kernel) rfl (x_nc_le (by decide)) ?_
      refine x_iload (np := 82) (x := 1) (by decide +kernel) rfl l4 ?_
      refine x_cI (t := 6) (mj := 101) (n := 2) (rc := 10) (ml := 5) (nr := 0) (np := 85) (as := [x_r 61, iv_c v3]) (rest := []) (lo1 := [x_r 61, iv_c v3, 147573952589676412928, 147573952589676412928, 147573952589676412928]) (by decide +kernel) (by decide) (by decide +kernel) (x_rb_of (by decide +kernel)) rfl rfl (x_wr (by decide) (x_wi l4 x_wn)) x_wn (by decide) rfl (c101_61 j83  (by omega)) (fun v90 h93 l91 q92 => ?_)
      obtain ⟨j94, f95, b96⟩ := q92
      have f97 := Fr.trans f87 f95 (by decide)
      refine x_ifz (k := 1) (tg := 90) (np := 88) (by decide +kernel) (by decide) l91 (fun q98 => ?_) (fun q99 => ?_)
      · have q98 : v90 ≠ 2147483648 := q98
        refine x_aload (np := 91) (x := 0) (by decide +kernel) rfl (x_nc_le (by decide)) ?_
        have q100 : h93 61 0 = 1 := by have z := jB (e := 0) 0 j94 rg_61_0_0_1 (by decide) (by decide); omega
        refine x_getR (np := 94) (x := 576) (f := 0) (q := 1) (by decide +kernel) (by decide) (by decide +kernel) q100 ?_
        refine x_ldcB (i := 16) (idx := 163) (tx := "known") (by rw [tb_y100]; exact List.mem_of_getElem? (i := 16) rfl) (by decide) (by rw [tb_b100]; decide +kernel) ?_
        refine x_nI (t := 6) (mj := 78) (n := 2) (rc := 8) (ml := 2) (nr := 0) (np := 99) (as := [x_r 1, x_b (16 + 1)]) (rest := []) (lo1 := [x_r 1, x_b (16 + 1)]) (by decide +kernel) (by decide) (by decide +kernel) (x_rb_of (by decide +kernel)) rfl rfl (x_wr (by decide) (x_wB (by decide) x_wn)) x_wn (by decide) rfl ?_
        refine x_aload (np := 1) (x := 0) (by decide +kernel) rfl (x_nc_le (by decide)) ?_
        refine x_aloadB (i := 16) (k4 := 1) rfl (by decide) (by rw [tb_b78]; decide +kernel) ?_
        refine x_cP (t := 6) (mj := 77) (n := 2) (rc := 8) (ml := 4) (nr := 0) (np := 5) (as := [x_r 1, x_b (16 + 1)]) (rest := []) (lo1 := [x_r 1, x_b (16 + 1), 147573952589676412928, 147573952589676412928]) (by decide +kernel) (by decide) (by decide +kernel) (x_rb_of (by decide +kernel)) rfl rfl (x_wr (by decide) (x_wB (by decide) x_wn)) x_wn (by decide) rfl (c77_1_S0 j94  (by decide)) (fun v101 l102 q103 => ?_)
        obtain ⟨b105, c104⟩ := q103
        have b106 := jB (e := 2) 0 j94 rg_1_2_0_1 (by omega) (by omega)
        refine x_ifz (k := 1) (tg := 10) (np := 8) (by decide +kernel) (by decide) l102 (fun q107 => ?_) (fun q108 => ?_)
        · have q107 : v101 ≠ 2147483648 := q107
          have b109 := c104 (by omega)
          refine x_aload (np := 11) (x := 0) (by decide +kernel) rfl (x_nc_le (by decide)) ?_
          refine x_aload (np := 12) (x := 0) (by decide +kernel) rfl (x_nc_le (by decide)) ?_
          refine x_getC (np := 15) (x := 450) (f := 2) (q := (h93 1 2)) (by decide +kernel) (by decide) (by decide +kernel) rfl (fun l110 => ?_)
          refine x_aloadB (i := 16) (k4 := 1) rfl (by decide) (by rw [tb_b78]; decide +kernel) ?_
          have b111 := (iv_tl_lt 16 (by decide)).1
          have b112 := iv_tl_ge 16 (by decide)
          refine x_len (by decide +kernel) (by rw [tb_y78]; exact sl_Tl) (by decide) (by rw [tb_b78]; decide +kernel) (Nat.le_trans (x_wi l110 (x_wr (by decide) x_wn)) (by decide)) ?_
          refine x_iadd (np := 20) (x := 0) (v := ((h93 1 2) + (iv_tl 16))) (by decide +kernel) l110 (by omega) (by omega) (by omega) ?_
          refine x_cV (t := 6) (mj := 80) (n := 2) (rc := 8) (ml := 2) (nr := 0) (np := 23) (as := [x_r 1, iv_c ((h93 1 2) + (iv_tl 16))]) (rest := []) (lo1 := [x_r 1, iv_c ((h93 1 2) + (iv_tl 16))]) (by decide +kernel) (by decide) (by decide +kernel) (x_rb_of (by decide +kernel)) rfl rfl (x_wr (by decide) (x_wi (by omega) x_wn)) x_wn (by decide) rfl (c80_1n j94  (by omega)) (fun h116 q115 => ?_)
          obtain ⟨j117, f118⟩ := q115
          have f121 := Fr.trans f97 f118 (by decide)
          refine x_const (np := 24) (x := 9223372043297226753) (a := 2147483649) (by decide +kernel) (by decide) (by decide) ?_
          refine x_retI (np := 25) (x := 0) (by decide +kernel) (by decide) (Or.inr ⟨by decide +kernel, by omega, by omega⟩) ⟨_, rfl, (by decide), ?_⟩
          refine x_ifz (k := 0) (tg := 136) (np := 102) (by decide +kernel) (by decide) (by decide) (fun q122 => ?_) (fun q123 => ?_)
          · have q122 : 2147483649 = 2147483648 := q122
            exfalso; omega
          have q123 : ¬ (2147483649 = 2147483648) := q123
          refine x_aload (np := 103) (x := 0) (by decide +kernel) rfl (x_nc_le (by decide)) ?_
          refine x_aload (np := 104) (x := 0) (by decide +kernel) rfl (x_nc_le (by decide)) ?_
          have q124 : h116 61 1 = h93 61 1 := f118 61 1 (by decide +kernel)
          have q125 : h93 61 1 = h82 61 1 := f95 61 1 (by decide +kernel)
          have q126 : h82 61 1 = h59 61 1 := f84 61 1 (by decide +kernel)
          have q127 : h59 61 1 = h44 61 1 := f61 61 1 (by decide +kernel)
          have q128 : h44 61 1 = h21 61 1 := f46 61 1 (by decide +kernel)
          have q129 : h21 61 1 = h6 61 1 := f23 61 1 (by decide +kernel)
          have q130 : h6 61 1 = h 61 1 := f8 61 1 (by decide +kernel)
          refine x_getR (np := 107) (x := 577) (f := 1) (q := (h 61 1)) (by decide +kernel) (by decide) (by decide +kernel) ((((((q124.trans q125).trans q126).trans q127).trans q128).trans q129).trans q130) ?_
          have q131 : h116 (h 61 1) 3 = ((h 61 1) + 7) := tf_0_3 j117 t1
          refine x_getR (np := 110) (x := 515) (f := 3) (q := ((h 61 1) + 7)) (by decide +kernel) (by decide) (tg_0_515_3_1 t1) q131 ?_
          refine x_iload (np := 111) (x := 1) (by decide +kernel) rfl l4 ?_
          refine x_const (np := 112) (x := 9223372051887161347) (a := 2147483651) (by decide +kernel) (by decide) (by decide) ?_
          refine x_aload (np := 113) (x := 0) (by decide +kernel) rfl (x_nc_le (by decide)) ?_
          have q132 : h116 61 1 = h93 61 1 := f118 61 1 (by decide +kernel)
          have q133 : h93 61 1 = h82 61 1 := f95 61 1 (by decide +kernel)
          have q134 : h82 61 1 = h59 61 1 := f84 61 1 (by decide +kernel)
          have q135 : h59 61 1 = h44 61 1 := f61 61 1 (by decide +kernel)
          have q136 : h44 61 1 = h21 61 1 := f46 61 1 (by decide +kernel)
          have q137 : h21 61 1 = h6 61 1 := f23 61 1 (by decide +kernel)
          have q138 : h6 61 1 = h 61 1 := f8 61 1 (by decide +kernel)
          refine x_getR (np := 116) (x := 577) (f := 1) (q := (h 61 1)) (by decide +kernel) (by decide) (by decide +kernel) ((((((q132.trans q133).trans q134).trans q135).trans q136).trans q137).trans q138) ?_
          have q139 : h116 (h 61 1) 3 = ((h 61 1) + 7) := tf_0_3 j117 t1
          refine x_getR (np := 119) (x := 515) (f := 3) (q := ((h 61 1) + 7)) (by decide +kernel) (by decide) (tg_0_515_3_1 t1) q139 ?_
          refine x_iload (np := 120) (x := 1) (by decide +kernel) rfl l4 ?_
          refine x_const (np := 121) (x := 9223372043297226753) (a := 2147483649) (by decide +kernel) (by decide) (by decide) ?_
          refine x_cP (t := 6) (mj := 68) (n := 3) (rc := 7) (ml := 4) (nr := 4) (np := 124) (as := [x_r ((h 61 1) + 7), iv_c v3, iv_c 2147483649]) (rest := [iv_c 2147483651, iv_c v3, x_r ((h 61 1) + 7), x_r 61]) (lo1 := [x_r ((h 61 1) + 7), iv_c v3, iv_c 2147483649, 147573952589676412928]) (by decide +kernel) (by decide) (by decide +kernel) (x_rb_of (tr_7_7 t1)) rfl rfl (x_wr (tn_7 t1) (x_wi l4 (x_wi (by decide) x_wn))) (x_wi (by decide) (x_wi l4 (x_wr (tn_7 t1) (x_wr (by decide) x_wn)))) (by decide) rfl (c68_T7_c1n j117 t1 (by omega) ) (fun v142 l143 q144 => ?_)
          refine x_const (np := 126) (x := 9223372086246899723) (a := 2147483659) (by decide +kernel) (by decide) (by decide) ?_
          refine x_cI (t := 6) (mj := 102) (n := 6) (rc := 10) (ml := 7) (nr := 0) (np := 129) (as := [x_r 61, x_r ((h 61 1) + 7), iv_c v3, iv_c 2147483651, iv_c v142, iv_c 2147483659]) (rest := []) (lo1 := [x_r 61, x_r ((h 61 1) + 7), iv_c v3, iv_c 2147483651, iv_c v142, iv_c 2147483659, 147573952589676412928]) (by decide +kernel) (by decide) (by decide +kernel) (x_rb_of (by decide +kernel)) rfl rfl (x_wr (by decide) (x_wr (tn_7 t1) (x_wi l4 (x_wi (by decide) (x_wi l143 (x_wi (by decide) x_wn)))))) x_wn (by decide) rfl (c102_61_T7_c3 j117  t1 (by omega)  (by omega) (by omega)) (fun v145 h148 l146 q147 => ?_)
          obtain ⟨j149, f150, b151⟩ := q147
          have f152 := Fr.trans f121 f150 (by decide)
          refine x_ifz (k := 0) (tg := 136) (np := 132) (by decide +kernel) (by decide) l146 (fun q153 => ?_) (fun q154 => ?_)
          · have q153 : v145 = 2147483648 := q153
            refine x_const (np := 137) (x := 9223372039002259456) (a := 2147483648) (by decide +kernel) (by decide) (by decide) ?_
            refine x_retI (np := 138) (x := 0) (by decide +kernel) (by decide) (Or.inr ⟨by decide +kernel, by omega, by omega⟩) ⟨_, rfl, (by decide), ?_⟩
            exact ⟨j149, f152, (by omega)⟩
          have q154 : ¬ (v145 = 2147483648) := q154
          refine x_const (np := 133) (x := 9223372043297226753) (a := 2147483649) (by decide +kernel) (by decide) (by decide) ?_
          refine x_goto (np := 136) (x := 137) (by decide +kernel) ?_
          refine x_retI (np := 138) (x := 0) (by decide +kernel) (by decide) (Or.inr ⟨by decide +kernel, by omega, by omega⟩) ⟨_, rfl, (by decide), ?_⟩
          exact ⟨j149, f152, (by omega)⟩
        have q108 : ¬ (v101 ≠ 2147483648) := q108
        refine x_const (np := 9) (x := 9223372039002259456) (a := 2147483648) (by decide +kernel) (by decide) (by decide) ?_
        refine x_retI (np := 10) (x := 0) (by decide +kernel) (by decide) (Or.inr ⟨by decide +kernel, by omega, by omega⟩) ⟨_, rfl, (by decide), ?_⟩
        refine x_ifz (k := 0) (tg := 136) (np := 102) (by decide +kernel) (by decide) (by decide) (fun q155 => ?_) (fun q156 => ?_)
        · have q155 : 2147483648 = 2147483648 := q155
          refine x_const (np := 137) (x := 9223372039002259456) (a := 2147483648) (by decide +kernel) (by decide) (by decide) ?_
          refine x_retI (np := 138) (x := 0) (by decide +kernel) (by decide) (Or.inr ⟨by decide +kernel, by omega, by omega⟩) ⟨_, rfl, (by decide), ?_⟩
          exact ⟨j94, f97, (by omega)⟩
        have q156 : ¬ (2147483648 = 2147483648) := q156
        exfalso; omega
      have q99 : ¬ (v90 ≠ 2147483648) := q99
      refine x_const (np := 89) (x := 9223372039002259456) (a := 2147483648) (by decide +kernel) (by decide) (by decide) ?_
      refine x_retI (np := 90) (x := 0) (by decide +kernel) (by decide) (Or.inr ⟨by decide +kernel, by omega, by omega⟩) ⟨_, rfl, (by decide), ?_⟩
      exact ⟨j94, f97, (by omega)⟩
    have q74 : ¬ (v67 ≠ 2147483648) := q74
    refine x_const (np := 9) (x := 9223372039002259456) (a := 2147483648) (by decide +kernel) (by decide) (by decide) ?_
    refine x_retI (np := 10) (x := 0) (by decide +kernel) (by decide) (Or.inr ⟨by decide +kernel, by omega, by omega⟩) ⟨_, rfl, (by decide), ?_⟩
    refine x_ifz (k := 0) (tg := 88) (np := 80) (by decide +kernel) (by decide) (by decide) (fun q157 => ?_) (fun q158 => ?_)
    · have q157 : 2147483648 = 2147483648 := q157
      refine x_const (np := 89) (x := 9223372039002259456) (a := 2147483648) (by decide +kernel) (by decide) (by decide) ?_
      refine x_retI (np := 90) (x := 0) (by decide +kernel) (by decide) (Or.inr ⟨by decide +kernel, by omega, by omega⟩) ⟨_, rfl, (by decide), ?_⟩
      exact ⟨j60, f63, (by omega)⟩
    have q158 : ¬ (2147483648 = 2147483648) := q158
    exfalso; omega
  have q36 : ¬ (v29 ≠ 2147483648) := q36
  refine x_const (np := 9) (x := 9223372039002259456) (a := 2147483648) (by decide +kernel) (by decide) (by decide) ?_
  refine x_retI (np := 10) (x := 0) (by decide +kernel) (by decide) (Or.inr ⟨by decide +kernel, by omega, by omega⟩) ⟨_, rfl, (by decide), ?_⟩
  refine x_ifz (k := 0) (tg := 88) (np := 49) (by decide +kernel) (by decide) (by decide) (fun q159 => ?_) (fun q160 => ?_)
  · have q159 : 2147483648 = 2147483648 := q159
    refine x_const (np := 89) (x := 9223372039002259456) (a := 2147483648) (by decide +kernel) (by decide) (by decide) ?_
    refine x_retI (np := 90) (x := 0) (by decide +kernel) (by decide) (Or.inr ⟨by decide +kernel, by omega, by omega⟩) ⟨_, rfl, (by decide), ?_⟩
    exact ⟨j22, f25, (by omega)⟩
  have q160 : ¬ (2147483648 = 2147483648) := q160
  exfalso; omega
set_option maxHeartbeats 0 in
/-- LentNames$Table.put(III)V -/
theorem c69_T5 {sc : Nat × Nat} {d ra0 a1 a2 a3 : Nat} {h : xh} (hJ : J h) (ta0 : tw ra0) (ba1 : 2147483647 ≤ a1 ∧ a1 ≤ 2147483657) (ba2 : 2147483648 ≤ a2 ∧ a2 ≤ 2147483652) (ba3 : 2147483648 ≤ a3 ∧ a3 ≤ 2147483648) : X sc 69 d (xV fun h' => J h' ∧ Fr 129 h h') 0 0 0 [x_r (ra0 + 5), iv_c a1, iv_c a2, iv_c a3, 147573952589676412928] [] h := by
  have la1 : a1 < 4294967296 := by omega
  have la2 : a2 < 4294967296 := by omega
  have la3 : a3 < 4294967296 := by omega
  have hF := Fr.refl 129 h
  refine x_iload (np := 1) (x := 1) (by decide +kernel) rfl la1 ?_
  refine x_ifz (k := 2) (tg := 28) (np := 4) (by decide +kernel) (by decide) la1 (fun q1 => ?_) (fun q2 => ?_)
  · have q1 : a1 < 2147483648 := q1
    refine x_const (np := 29) (x := 9223372039002259456) (a := 2147483648) (by decide +kernel) (by decide) (by decide) ?_
    refine x_istore (np := 31) (x := 4) (lo' := [x_r (ra0 + 5), iv_c a1, iv_c a2, iv_c a3, iv_c 2147483648]) (by decide +kernel) (by decide) (Nat.le_of_ble_eq_true rfl) rfl ?_
    refine x_iload (np := 33) (x := 4) (by decide +kernel) rfl (by decide) ?_
    refine x_ifz (k := 0) (tg := 50) (np := 36) (by decide +kernel) (by decide) (by decide) (fun q3 => ?_) (fun q4 => ?_)
    · have q3 : 2147483648 = 2147483648 := q3
      refine x_retV (np := 51) (x := 0) (by decide +kernel) (by decide +kernel) ⟨rfl, ?_⟩
      exact ⟨hJ, hF⟩
    have q4 : ¬ (2147483648 = 2147483648) := q4
    exfalso; omega
  have q2 : ¬ (a1 < 2147483648) := q2
  refine x_iload (np := 5) (x := 1) (by decide +kernel) rfl la1 ?_
  refine x_aload (np := 6) (x := 0) (by decide +kernel) rfl (x_nc_le (tn_5 ta0)) ?_
  have b5 := jB (e := 2) 0 hJ (rg_T5_2_0_1 ta0) (by omega) (by omega)
  refine x_getC (np := 9) (x := 386) (f := 2) (q := (h (ra0 + 5) 2)) (by decide +kernel) (by decide) (tg_5_386_2_0 ta0) rfl (fun l6 => ?_)
  refine x_icmp (k := 3) (tg := 28) (np := 12) (by decide +kernel) (by decide) la1 l6 (fun q7 => ?_) (fun q8 => ?_)
  · have q7 : (h (ra0 + 5) 2) ≤ a1 := q7
    refine x_const (np := 29) (x := 9223372039002259456) (a := 2147483648) (by decide +kernel) (by decide) (by decide) ?_
    refine x_istore (np := 31) (x := 4) (lo' := [x_r (ra0 + 5), iv_c a1, iv_c a2, iv_c a3, iv_c 2147483648]) (by decide +kernel) (by decide) (Nat.le_of_ble_eq_true rfl) rfl ?_
    refine x_iload (np := 33) (x := 4) (by decide +kernel) rfl (by decide) ?_
    refine x_ifz (k := 0) (tg := 50) (np := 36) (by decide +kernel) (by decide) (by decide) (fun q9 => ?_) (fun q10 => ?_)
    · have q9 : 2147483648 = 2147483648 := q9
      refine x_retV (np := 51) (x := 0) (by decide +kernel) (by decide +kernel) ⟨rfl, ?_⟩
      exact ⟨hJ, hF⟩
    have q10 : ¬ (2147483648 = 2147483648) := q10
    exfalso; omega
  have q8 : ¬ ((h (ra0 + 5) 2) ≤ a1) := q8
  refine x_iload (np := 13) (x := 2) (by decide +kernel) rfl la2 ?_
  refine x_ifz (k := 2) (tg := 28) (np := 16) (by decide +kernel) (by decide) la2 (fun q11 => ?_) (fun q12 => ?_)
  · have q11 : a2 < 2147483648 := q11
    exfalso; omega
  have q12 : ¬ (a2 < 2147483648) := q12
  refine x_iload (np := 17) (x := 2) (by decide +kernel) rfl la2 ?_
  refine x_aload (np := 18) (x := 0) (by decide +kernel) rfl (x_nc_le (tn_5 ta0)) ?_
  have b13 := jB (e := 0) 0 hJ (rg_T5_0_0_1 ta0) (by omega) (by omega)
  have q14 : (h (ra0 + 5) 0) = 2147483652 := by omega
  refine x_getC (np := 21) (x := 384) (f := 0) (q := 2147483652) (by decide +kernel) (by decide) (tg_5_384_0_0 ta0) q14 (fun l15 => ?_)
  refine x_icmp (k := 3) (tg := 28) (np := 24) (by decide +kernel) (by decide) la2 (by decide) (fun q16 => ?_) (fun q17 => ?_)
  · have q16 : 2147483652 ≤ a2 := q16
    refine x_const (np := 29) (x := 9223372039002259456) (a := 2147483648) (by decide +kernel) (by decide) (by decide) ?_
    refine x_istore (np := 31) (x := 4) (lo' := [x_r (ra0 + 5), iv_c a1, iv_c a2, iv_c a3, iv_c 2147483648]) (by decide +kernel) (by decide) (Nat.le_of_ble_eq_true rfl) rfl ?_
    refine x_iload (np := 33) (x := 4) (by decide +kernel) rfl (by decide) ?_
    refine x_ifz (k := 0) (tg := 50) (np := 36) (by decide +kernel) (by decide) (by decide) (fun q18 => ?_) (fun q19 => ?_)
    · have q18 : 2147483648 = 2147483648 := q18
      refine x_retV (np := 51) (x := 0) (by decide +kernel) (by decide +kernel) ⟨rfl, ?_⟩
      exact ⟨hJ, hF⟩
    have q19 : ¬ (2147483648 = 2147483648) := q19
    exfalso; omega
  have q17 : ¬ (2147483652 ≤ a2) := q17
  refine x_const (np := 25) (x := 9223372043297226753) (a := 2147483649) (by decide +kernel) (by decide) (by decide) ?_
  refine x_goto (np := 28) (x := 29) (by decide +kernel) ?_
  refine x_istore (np := 31) (x := 4) (lo' := [x_r (ra0 + 5), iv_c a1, iv_c a2, iv_c a3, iv_c 2147483649]) (by decide +kernel) (by decide) (Nat.le_of_ble_eq_true rfl) rfl ?_
  refine x_iload (np := 33) (x := 4) (by decide +kernel) rfl (by decide) ?_
  refine x_ifz (k := 0) (tg := 50) (np := 36) (by decide +kernel) (by decide) (by decide) (fun q20 => ?_) (fun q21 => ?_)
  · have q20 : 2147483649 = 2147483648 := q20
    exfalso; omega
  have q21 : ¬ (2147483649 = 2147483648) := q21
  refine x_aload (np := 37) (x := 0) (by decide +kernel) rfl (x_nc_le (tn_5 ta0)) ?_
  have q22 : h (ra0 + 5) 1 = (ra0 + 6) := tf_5_1 hJ ta0
  refine x_getR (np := 40) (x := 385) (f := 1) (q := (ra0 + 6)) (by decide +kernel) (by decide) (tg_5_385_1_1 ta0) q22 ?_
  refine x_iload (np := 41) (x := 1) (by decide +kernel) rfl la1 ?_
  refine x_aload (np := 42) (x := 0) (by decide +kernel) rfl (x_nc_le (tn_5 ta0)) ?_
  refine x_getC (np := 45) (x := 384) (f := 0) (q := 2147483652) (by decide +kernel) (by decide) (tg_5_384_0_0 ta0) q14 (fun l23 => ?_)
  obtain ⟨u24, q25⟩ : ∃ z, a1 = 2147483648 + z := ⟨a1 - 2147483648, by omega⟩
  refine x_imul (np := 46) (x := 0) (i := u24) (j := 4) (v := (2147483648 + 4 * u24)) (by decide +kernel) (by omega) (by omega) (by omega) (by omega) la1 (by decide) ?_
  refine x_iload (np := 47) (x := 2) (by decide +kernel) rfl la2 ?_
  refine x_iadd (np := 48) (x := 0) (v := (4 * u24 + a2)) (by decide +kernel) (by omega) la2 (by omega) (by omega) ?_
  refine x_iload (np := 49) (x := 3) (by decide +kernel) rfl la3 ?_
  obtain ⟨u27, q28⟩ : ∃ z, a2 = 2147483648 + z := ⟨a2 - 2147483648, by omega⟩
  refine x_ast (np := 50) (x := 0) (kd := 1) (n := 40) (i := (4 * u24 + u27)) (by decide +kernel) (Or.inl rfl) (ta_6_40 ta0) (by omega) (by omega) (by decide) la3 (fun z => absurd z (by decide)) ?_
  have j30 := jU (e := (4 * u24 + u27)) (v := a3) (4 * u24 + u27) hJ (rg_T6_0_1_40 ta0) (by omega) (by omega) (by omega)
  have f32 := jF (e := (4 * u24 + u27)) (v := a3) (4 * u24 + u27) hF (rg_T6_0_1_40 ta0) (by omega) (by omega) (by decide)
  generalize e31 : x_up h (ra0 + 6) (4 * u24 + u27) a3 = h29 at j30 f32 ⊢
  refine x_retV (np := 51) (x := 0) (by decide +kernel) (by decide +kernel) ⟨rfl, ?_⟩
  exact ⟨j30, f32⟩
set_option maxHeartbeats 0 in
/-- LentNames$Table.addRow()I -/
theorem c67_T5 {sc : Nat × Nat} {d ra0 : Nat} {h : xh} (hJ : J h) (ta0 : tw ra0) : X sc 67 (d + 1) (xI fun r h' => J h' ∧ Fr 129 h h' ∧ (2147483647 ≤ r ∧ r ≤ 2147483657)) 0 0 0 [x_r (ra0 + 5), 147573952589676412928] [] h := by
  have hF := Fr.refl 129 h
  refine x_aload (np := 1) (x := 0) (by decide +kernel) rfl (x_nc_le (tn_5 ta0)) ?_
  refine x_nI (t := 6) (mj := 66) (n := 1) (rc := 7) (ml := 1) (nr := 0) (np := 4) (as := [x_r (ra0 + 5)]) (rest := []) (lo1 := [x_r (ra0 + 5)]) (by decide +kernel) (by decide) (by decide +kernel) (x_rb_of (tr_5_7 ta0)) rfl rfl (x_wr (tn_5 ta0) x_wn) x_wn (by decide) rfl ?_
  refine x_aload (np := 1) (x := 0) (by decide +kernel) rfl (x_nc_le (tn_5 ta0)) ?_
  have b1 := jB (e := 2) 0 hJ (rg_T5_2_0_1 ta0) (by omega) (by omega)
  refine x_getC (np := 4) (x := 386) (f := 2) (q := (h (ra0 + 5) 2)) (by decide +kernel) (by decide) (tg_5_386_2_0 ta0) rfl (fun l2 => ?_)
  refine x_const (np := 5) (x := 9223372043297226753) (a := 2147483649) (by decide +kernel) (by decide) (by decide) ?_
  refine x_iadd (np := 6) (x := 0) (v := (1 + (h (ra0 + 5) 2))) (by decide +kernel) l2 (by decide) (by omega) (by omega) ?_
  refine x_aload (np := 7) (x := 0) (by decide +kernel) rfl (x_nc_le (tn_5 ta0)) ?_
  have b3 := jB (e := 0) 0 hJ (rg_T5_0_0_1 ta0) (by omega) (by omega)
  have q4 : (h (ra0 + 5) 0) = 2147483652 := by omega
  refine x_getC (np := 10) (x := 384) (f := 0) (q := 2147483652) (by decide +kernel) (by decide) (tg_5_384_0_0 ta0) q4 (fun l5 => ?_)
  obtain ⟨u6, q7⟩ : ∃ z, (h (ra0 + 5) 2) = 2147483648 + z := ⟨(h (ra0 + 5) 2) - 2147483648, by omega⟩
  refine x_imul (np := 11) (x := 0) (i := (1 + u6)) (j := 4) (v := (2147483652 + 4 * u6)) (by decide +kernel) (by omega) (by omega) (by omega) (by omega) (by omega) (by decide) ?_
  refine x_aload (np := 12) (x := 0) (by decide +kernel) rfl (x_nc_le (tn_5 ta0)) ?_
  have q9 : h (ra0 + 5) 1 = (ra0 + 6) := tf_5_1 hJ ta0
  refine x_getR (np := 15) (x := 385) (f := 1) (q := (ra0 + 6)) (by decide +kernel) (by decide) (tg_5_385_1_1 ta0) q9 ?_
  refine x_alen (np := 16) (x := 0) (n := 40) (by decide +kernel) (tn_6 ta0) (tl_6 ta0).1 (tl_6 ta0).2 (by decide) ?_
  show X _ _ _ _ _ _ _ _ [iv_c 2147483688, iv_c (2147483652 + 4 * u6)] _
  refine x_icmp (k := 5) (tg := 23) (np := 19) (by decide +kernel) (by decide) (by omega) (by decide) (fun q10 => ?_) (fun q11 => ?_)
  · have q10 : (2147483652 + 4 * u6) ≤ 2147483688 := q10
    refine x_const (np := 24) (x := 9223372039002259456) (a := 2147483648) (by decide +kernel) (by decide) (by decide) ?_
    refine x_retI (np := 25) (x := 0) (by decide +kernel) (by decide) (Or.inr ⟨by decide +kernel, by omega, by omega⟩) ⟨_, rfl, (by decide), ?_⟩
    refine x_ifz (k := 0) (tg := 9) (np := 7) (by decide +kernel) (by decide) (by decide) (fun q12 => ?_) (fun q13 => ?_)
    · have q12 : 2147483648 = 2147483648 := q12
      refine x_aload (np := 10) (x := 0) (by decide +kernel) rfl (x_nc_le (tn_5 ta0)) ?_
      refine x_dup (np := 11) (x := 0) (by decide +kernel) (by have z := x_nc_le (k := (ra0 + 5)) (tn_5 ta0); unfold x_r; omega) ?_
      refine x_getC (np := 14) (x := 386) (f := 2) (q := (h (ra0 + 5) 2)) (by decide +kernel) (by decide) (tg_5_386_2_0 ta0) rfl (fun l14 => ?_)
      refine x_const (np := 15) (x := 9223372043297226753) (a := 2147483649) (by decide +kernel) (by decide) (by decide) ?_
      refine x_iadd (np := 16) (x := 0) (v := (1 + (h (ra0 + 5) 2))) (by decide +kernel) l2 (by decide) (by omega) (by omega) ?_
      refine x_putI (np := 19) (x := 386) (f := 2) (by decide +kernel) (tg_5_386_2_0 ta0) (by omega) (Or.inl (by decide)) ?_
      have j16 := jU (e := 2) (v := (1 + (h (ra0 + 5) 2))) 0 hJ (rg_T5_2_0_1 ta0) (by omega) (by omega) (by omega)
      have f18 := jF (e := 2) (v := (1 + (h (ra0 + 5) 2))) 0 hF (rg_T5_2_0_1 ta0) (by omega) (by omega) (by decide)
      generalize e17 : x_up h (ra0 + 5) 2 (1 + (h (ra0 + 5) 2)) = h15 at j16 f18 ⊢
      refine x_const (np := 20) (x := 9223372039002259456) (a := 2147483648) (by decide +kernel) (by decide) (by decide) ?_
      refine x_istore (np := 21) (x := 1) (lo' := [x_r (ra0 + 5), iv_c 2147483648]) (by decide +kernel) (by decide) (Nat.le_of_ble_eq_true rfl) rfl ?_
      have p114 : ∀ (n : Nat) (v109 : Nat) (h111 : xh), 4294967296 - v109 < n → (2147483648 ≤ v109 ∧ v109 ≤ 2147483652) → J h111 → Fr 129 h15 h111 → X sc 67 (d + 1) (xI fun r h' => J h' ∧ Fr 129 h h' ∧ (2147483647 ≤ r ∧ r ≤ 2147483657)) 0 0 21 [x_r (ra0 + 5), iv_c v109] [] h111 := by
        intro n
        induction n with
        | zero => intro v109 h111 q115; exact absurd q115 (Nat.not_lt_zero _)
        | succ n i116 =>
          intro v109 h111 q115 b110 j113 f112
          have f117 := Fr.trans f18 f112 (by decide)
          refine x_iload (np := 22) (x := 1) (by decide +kernel) rfl (by omega) ?_
          refine x_aload (np := 23) (x := 0) (by decide +kernel) rfl (x_nc_le (tn_5 ta0)) ?_
          have b118 := jB (e := 0) 0 j113 (rg_T5_0_0_1 ta0) (by omega) (by omega)
          have q119 : (h111 (ra0 + 5) 0) = 2147483652 := by omega
          refine x_getC (np := 26) (x := 384) (f := 0) (q := 2147483652) (by decide +kernel) (by decide) (tg_5_384_0_0 ta0) q119 (fun l120 => ?_)
          refine x_icmp (k := 3) (tg := 47) (np := 29) (by decide +kernel) (by decide) (by omega) (by decide) (fun q121 => ?_) (fun q122 => ?_)
          · have q121 : 2147483652 ≤ v109 := q121
            refine x_aload (np := 48) (x := 0) (by decide +kernel) rfl (x_nc_le (tn_5 ta0)) ?_
            have b123 := jB (e := 2) 0 j113 (rg_T5_2_0_1 ta0) (by omega) (by omega)
            refine x_getC (np := 51) (x := 386) (f := 2) (q := (h111 (ra0 + 5) 2)) (by decide +kernel) (by decide) (tg_5_386_2_0 ta0) rfl (fun l124 => ?_)
            refine x_const (np := 52) (x := 9223372043297226753) (a := 2147483649) (by decide +kernel) (by decide) (by decide) ?_
            obtain ⟨v125, q126⟩ : ∃ z, z + 2147483649 = (h111 (ra0 + 5) 2) + 2147483648 := ⟨(h111 (ra0 + 5) 2) + 2147483648 - 2147483649, by omega⟩
            refine x_isub (np := 53) (x := 0) (v := v125) (by decide +kernel) l124 (by decide) (by omega) (by omega) ?_
            refine x_retI (np := 54) (x := 0) (by decide +kernel) (by omega) (Or.inl (by decide +kernel)) ⟨_, rfl, (by omega), ?_⟩
            exact ⟨j113, f117, (by omega)⟩
          have q122 : ¬ (2147483652 ≤ v109) := q122
          refine x_aload (np := 30) (x := 0) (by decide +kernel) rfl (x_nc_le (tn_5 ta0)) ?_
          refine x_aload (np := 31) (x := 0) (by decide +kernel) rfl (x_nc_le (tn_5 ta0)) ?_
          have b127 := jB (e := 2) 0 j113 (rg_T5_2_0_1 ta0) (by omega) (by omega)
          refine x_getC (np := 34) (x := 386) (f := 2) (q := (h111 (ra0 + 5) 2)) (by decide +kernel) (by decide) (tg_5_386_2_0 ta0) rfl (fun l128 => ?_)
          refine x_const (np := 35) (x := 9223372043297226753) (a := 2147483649) (by decide +kernel) (by decide) (by decide) ?_
          obtain ⟨v129, q130⟩ : ∃ z, z + 2147483649 = (h111 (ra0 + 5) 2) + 2147483648 := ⟨(h111 (ra0 + 5) 2) + 2147483648 - 2147483649, by omega⟩
          refine x_isub (np := 36) (x := 0) (v := v129) (by decide +kernel) l128 (by decide) (by omega) (by omega) ?_
          refine x_iload (np := 37) (x := 1) (by decide +kernel) rfl (by omega) ?_
          refine x_const (np := 38) (x := 9223372039002259456) (a := 2147483648) (by decide +kernel) (by decide) (by decide) ?_
          refine x_cV (t := 6) (mj := 69) (n := 4) (rc := 7) (ml := 5) (nr := 0) (np := 41) (as := [x_r (ra0 + 5), iv_c v129, iv_c v109, iv_c 2147483648]) (rest := []) (lo1 := [x_r (ra0 + 5), iv_c v129, iv_c v109, iv_c 2147483648, 147573952589676412928]) (by decide +kernel) (by decide) (by decide +kernel) (x_rb_of (tr_5_7 ta0)) rfl rfl (x_wr (tn_5 ta0) (x_wi (by omega) (x_wi (by omega) (x_wi (by decide) x_wn)))) x_wn (by decide) rfl (c69_T5 j113 ta0 (by omega) (by omega) (by omega)) (fun h134 q133 => ?_)
          obtain ⟨j135, f136⟩ := q133
          have f139 := Fr.trans f117 f136 (by decide)
          have f140 := Fr.trans f112 f136 (by decide)
          refine x_iinc (np := 44) (i := 1) (j := 2147483649) (v := (1 + v109)) (lo' := [x_r (ra0 + 5), iv_c (1 + v109)]) (by decide +kernel) (by decide) (by decide) rfl (by omega) (by omega) (by omega) rfl ?_
          refine x_goto (np := 47) (x := 21) (by decide +kernel) ?_
          exact i116 (1 + v109) h134 (by omega) (by omega) j135 f140
      exact p114 _ 2147483648 h15 (Nat.lt_succ_self _) (by omega) j16 (Fr.refl _ _)
    have q13 : ¬ (2147483648 = 2147483648) := q13
    exfalso; omega
  have q11 : ¬ ((2147483652 + 4 * u6) ≤ 2147483688) := q11
  refine x_const (np := 20) (x := 9223372043297226753) (a := 2147483649) (by decide +kernel) (by decide) (by decide) ?_
  refine x_goto (np := 23) (x := 24) (by decide +kernel) ?_
  refine x_retI (np := 25) (x := 0) (by decide +kernel) (by decide) (Or.inr ⟨by decide +kernel, by omega, by omega⟩) ⟨_, rfl, (by decide), ?_⟩
  refine x_ifz (k := 0) (tg := 9) (np := 7) (by decide +kernel) (by decide) (by decide) (fun q141 => ?_) (fun q142 => ?_)
  · have q141 : 2147483649 = 2147483648 := q141
    exfalso; omega
  have q142 : ¬ (2147483649 = 2147483648) := q142
  refine x_const (np := 8) (x := 9223372034707292159) (a := 2147483647) (by decide +kernel) (by decide) (by decide) ?_
  refine x_retI (np := 9) (x := 0) (by decide +kernel) (by decide) (Or.inl (by decide +kernel)) ⟨_, rfl, (by decide), ?_⟩
  exact ⟨hJ, hF, (by omega)⟩
set_option maxHeartbeats 0 in
/-- LentNames$Table.put(III)V -/
theorem c69_T5_c0 {sc : Nat × Nat} {d ra0 a1 a3 : Nat} {h : xh} (hJ : J h) (ta0 : tw ra0) (ba1 : 2147483647 ≤ a1 ∧ a1 ≤ 2147483657) (ba3 : 2147483649 ≤ a3 ∧ a3 ≤ 2147483649) : X sc 69 d (xV fun h' => J h' ∧ Fr 129 h h') 0 0 0 [x_r (ra0 + 5), iv_c a1, iv_c 2147483648, iv_c a3, 147573952589676412928] [] h := by
  have la1 : a1 < 4294967296 := by omega
  have la3 : a3 < 4294967296 := by omega
  have hF := Fr.refl 129 h
  refine x_iload (np := 1) (x := 1) (by decide +kernel) rfl la1 ?_
  refine x_ifz (k := 2) (tg := 28) (np := 4) (by decide +kernel) (by decide) la1 (fun q1 => ?_) (fun q2 => ?_)
  · have q1 : a1 < 2147483648 := q1
    refine x_const (np := 29) (x := 9223372039002259456) (a := 2147483648) (by decide +kernel) (by decide) (by decide) ?_
    refine x_istore (np := 31) (x := 4) (lo' := [x_r (ra0 + 5), iv_c a1, iv_c 2147483648, iv_c a3, iv_c 2147483648]) (by decide +kernel) (by decide) (Nat.le_of_ble_eq_true rfl) rfl ?_
    refine x_iload (np := 33) (x := 4) (by decide +kernel) rfl (by decide) ?_
    refine x_ifz (k := 0) (tg := 50) (np := 36) (by decide +kernel) (by decide) (by decide) (fun q3 => ?_) (fun q4 => ?_)
    · have q3 : 2147483648 = 2147483648 := q3
      refine x_retV (np := 51) (x := 0) (by decide +kernel) (by decide +kernel) ⟨rfl, ?_⟩
      exact ⟨hJ, hF⟩
    have q4 : ¬ (2147483648 = 2147483648) := q4
    exfalso; omega
  have q2 : ¬ (a1 < 2147483648) := q2
  refine x_iload (np := 5) (x := 1) (by decide +kernel) rfl la1 ?_
  refine x_aload (np := 6) (x := 0) (by decide +kernel) rfl (x_nc_le (tn_5 ta0)) ?_
  have b5 := jB (e := 2) 0 hJ (rg_T5_2_0_1 ta0) (by omega) (by omega)
  refine x_getC (np := 9) (x := 386) (f := 2) (q := (h (ra0 + 5) 2)) (by decide +kernel) (by decide) (tg_5_386_2_0 ta0) rfl (fun l6 => ?_)
  refine x_icmp (k := 3) (tg := 28) (np := 12) (by decide +kernel) (by decide) la1 l6 (fun q7 => ?_) (fun q8 => ?_)
  · have q7 : (h (ra0 + 5) 2) ≤ a1 := q7
    refine x_const (np := 29) (x := 9223372039002259456) (a := 2147483648) (by decide +kernel) (by decide) (by decide) ?_
    refine x_istore (np := 31) (x := 4) (lo' := [x_r (ra0 + 5), iv_c a1, iv_c 2147483648, iv_c a3, iv_c 2147483648]) (by decide +kernel) (by decide) (Nat.le_of_ble_eq_true rfl) rfl ?_
    refine x_iload (np := 33) (x := 4) (by decide +kernel) rfl (by decide) ?_
    refine x_ifz (k := 0) (tg := 50) (np := 36) (by decide +kernel) (by decide) (by decide) (fun q9 => ?_) (fun q10 => ?_)
    · have q9 : 2147483648 = 2147483648 := q9
      refine x_retV (np := 51) (x := 0) (by decide +kernel) (by decide +kernel) ⟨rfl, ?_⟩
      exact ⟨hJ, hF⟩
    have q10 : ¬ (2147483648 = 2147483648) := q10
    exfalso; omega
  have q8 : ¬ ((h (ra0 + 5) 2) ≤ a1) := q8
  refine x_iload (np := 13) (x := 2) (by decide +kernel) rfl (by decide) ?_
  refine x_ifz (k := 2) (tg := 28) (np := 16) (by decide +kernel) (by decide) (by decide) (fun q11 => ?_) (fun q12 => ?_)
  · have q11 : 2147483648 < 2147483648 := q11
    exfalso; omega
  have q12 : ¬ (2147483648 < 2147483648) := q12
  refine x_iload (np := 17) (x := 2) (by decide +kernel) rfl (by decide) ?_
  refine x_aload (np := 18) (x := 0) (by decide +kernel) rfl (x_nc_le (tn_5 ta0)) ?_
  have b13 := jB (e := 0) 0 hJ (rg_T5_0_0_1 ta0) (by omega) (by omega)
  have q14 : (h (ra0 + 5) 0) = 2147483652 := by omega
  refine x_getC (np := 21) (x := 384) (f := 0) (q := 2147483652) (by decide +kernel) (by decide) (tg_5_384_0_0 ta0) q14 (fun l15 => ?_)
  refine x_icmp (k := 3) (tg := 28) (np := 24) (by decide +kernel) (by decide) (by decide) (by decide) (fun q16 => ?_) (fun q17 => ?_)
  · have q16 : 2147483652 ≤ 2147483648 := q16
    exfalso; omega
  have q17 : ¬ (2147483652 ≤ 2147483648) := q17
  refine x_const (np := 25) (x := 9223372043297226753) (a := 2147483649) (by decide +kernel) (by decide) (by decide) ?_
  refine x_goto (np := 28) (x := 29) (by decide +kernel) ?_
  refine x_istore (np := 31) (x := 4) (lo' := [x_r (ra0 + 5), iv_c a1, iv_c 2147483648, iv_c a3, iv_c 2147483649]) (by decide +kernel) (by decide) (Nat.le_of_ble_eq_true rfl) rfl ?_
  refine x_iload (np := 33) (x := 4) (by decide +kernel) rfl (by decide) ?_
  refine x_ifz (k := 0) (tg := 50) (np := 36) (by decide +kernel) (by decide) (by decide) (fun q18 => ?_) (fun q19 => ?_)
  · have q18 : 2147483649 = 2147483648 := q18
    exfalso; omega
  have q19 : ¬ (2147483649 = 2147483648) := q19
  refine x_aload (np := 37) (x := 0) (by decide +kernel) rfl (x_nc_le (tn_5 ta0)) ?_
  have q20 : h (ra0 + 5) 1 = (ra0 + 6) := tf_5_1 hJ ta0
  refine x_getR (np := 40) (x := 385) (f := 1) (q := (ra0 + 6)) (by decide +kernel) (by decide) (tg_5_385_1_1 ta0) q20 ?_
  refine x_iload (np := 41) (x := 1) (by decide +kernel) rfl la1 ?_
  refine x_aload (np := 42) (x := 0) (by decide +kernel) rfl (x_nc_le (tn_5 ta0)) ?_
  refine x_getC (np := 45) (x := 384) (f := 0) (q := 2147483652) (by decide +kernel) (by decide) (tg_5_384_0_0 ta0) q14 (fun l21 => ?_)
  obtain ⟨u22, q23⟩ : ∃ z, a1 = 2147483648 + z := ⟨a1 - 2147483648, by omega⟩
  refine x_imul (np := 46) (x := 0) (i := u22) (j := 4) (v := (2147483648 + 4 * u22)) (by decide +kernel) (by omega) (by omega) (by omega) (by omega) la1 (by decide) ?_
  refine x_iload (np := 47) (x := 2) (by decide +kernel) rfl (by decide) ?_
  refine x_iadd (np := 48) (x := 0) (v := (2147483648 + 4 * u22)) (by decide +kernel) (by omega) (by decide) (by omega) (by omega) ?_
  refine x_iload (np := 49) (x := 3) (by decide +kernel) rfl la3 ?_
  refine x_ast (np := 50) (x := 0) (kd := 1) (n := 40) (i := (4 * u22)) (by decide +kernel) (Or.inl rfl) (ta_6_40 ta0) (by omega) (by omega) (by decide) la3 (fun z => absurd z (by decide)) ?_
  have j26 := jU (e := (4 * u22)) (v := a3) (4 * u22) hJ (rg_T6_0_1_40 ta0) (by omega) (by omega) (by omega)
  have f28 := jF (e := (4 * u22)) (v := a3) (4 * u22) hF (rg_T6_0_1_40 ta0) (by omega) (by omega) (by decide)
  generalize e27 : x_up h (ra0 + 6) (4 * u22) a3 = h25 at j26 f28 ⊢
  refine x_retV (np := 51) (x := 0) (by decide +kernel) (by decide +kernel) ⟨rfl, ?_⟩
  exact ⟨j26, f28⟩
set_option maxHeartbeats 0 in
/-- LentNames$Table.put(III)V -/
theorem c69_T5_c1 {sc : Nat × Nat} {d ra0 a1 a3 : Nat} {h : xh} (hJ : J h) (ta0 : tw ra0) (ba1 : 2147483647 ≤ a1 ∧ a1 ≤ 2147483657) (ba3 : 2147483648 ≤ a3 ∧ a3 ≤ 2147483653) : X sc 69 d (xV fun h' => J h' ∧ Fr 129 h h') 0 0 0 [x_r (ra0 + 5), iv_c a1, iv_c 2147483649, iv_c a3, 147573952589676412928] [] h := by
  have la1 : a1 < 4294967296 := by omega
  have la3 : a3 < 4294967296 := by omega
  have hF := Fr.refl 129 h
  refine x_iload (np := 1) (x := 1) (by decide +kernel) rfl la1 ?_
  refine x_ifz (k := 2) (tg := 28) (np := 4) (by decide +kernel) (by decide) la1 (fun q1 => ?_) (fun q2 => ?_)
  · have q1 : a1 < 2147483648 := q1
    refine x_const (np := 29) (x := 9223372039002259456) (a := 2147483648) (by decide +kernel) (by decide) (by decide) ?_
    refine x_istore (np := 31) (x := 4) (lo' := [x_r (ra0 + 5), iv_c a1, iv_c 2147483649, iv_c a3, iv_c 2147483648]) (by decide +kernel) (by decide) (Nat.le_of_ble_eq_true rfl) rfl ?_
    refine x_iload (np := 33) (x := 4) (by decide +kernel) rfl (by decide) ?_
    refine x_ifz (k := 0) (tg := 50) (np := 36) (by decide +kernel) (by decide) (by decide) (fun q3 => ?_) (fun q4 => ?_)
    · have q3 : 2147483648 = 2147483648 := q3
      refine x_retV (np := 51) (x := 0) (by decide +kernel) (by decide +kernel) ⟨rfl, ?_⟩
      exact ⟨hJ, hF⟩
    have q4 : ¬ (2147483648 = 2147483648) := q4
    exfalso; omega
  have q2 : ¬ (a1 < 2147483648) := q2
  refine x_iload (np := 5) (x := 1) (by decide +kernel) rfl la1 ?_
  refine x_aload (np := 6) (x := 0) (by decide +kernel) rfl (x_nc_le (tn_5 ta0)) ?_
  have b5 := jB (e := 2) 0 hJ (rg_T5_2_0_1 ta0) (by omega) (by omega)
  refine x_getC (np := 9) (x := 386) (f := 2) (q := (h (ra0 + 5) 2)) (by decide +kernel) (by decide) (tg_5_386_2_0 ta0) rfl (fun l6 => ?_)
  refine x_icmp (k := 3) (tg := 28) (np := 12) (by decide +kernel) (by decide) la1 l6 (fun q7 => ?_) (fun q8 => ?_)
  · have q7 : (h (ra0 + 5) 2) ≤ a1 := q7
    refine x_const (np := 29) (x := 9223372039002259456) (a := 2147483648) (by decide +kernel) (by decide) (by decide) ?_
    refine x_istore (np := 31) (x := 4) (lo' := [x_r (ra0 + 5), iv_c a1, iv_c 2147483649, iv_c a3, iv_c 2147483648]) (by decide +kernel) (by decide) (Nat.le_of_ble_eq_true rfl) rfl ?_
    refine x_iload (np := 33) (x := 4) (by decide +kernel) rfl (by decide) ?_
    refine x_ifz (k := 0) (tg := 50) (np := 36) (by decide +kernel) (by decide) (by decide) (fun q9 => ?_) (fun q10 => ?_)
    · have q9 : 2147483648 = 2147483648 := q9
      refine x_retV (np := 51) (x := 0) (by decide +kernel) (by decide +kernel) ⟨rfl, ?_⟩
      exact ⟨hJ, hF⟩
    have q10 : ¬ (2147483648 = 2147483648) := q10
    exfalso; omega
  have q8 : ¬ ((h (ra0 + 5) 2) ≤ a1) := q8
  refine x_iload (np := 13) (x := 2) (by decide +kernel) rfl (by decide) ?_
  refine x_ifz (k := 2) (tg := 28) (np := 16) (by decide +kernel) (by decide) (by decide) (fun q11 => ?_) (fun q12 => ?_)
  · have q11 : 2147483649 < 2147483648 := q11
    exfalso; omega
  have q12 : ¬ (2147483649 < 2147483648) := q12
  refine x_iload (np := 17) (x := 2) (by decide +kernel) rfl (by decide) ?_
  refine x_aload (np := 18) (x := 0) (by decide +kernel) rfl (x_nc_le (tn_5 ta0)) ?_
  have b13 := jB (e := 0) 0 hJ (rg_T5_0_0_1 ta0) (by omega) (by omega)
  have q14 : (h (ra0 + 5) 0) = 2147483652 := by omega
  refine x_getC (np := 21) (x := 384) (f := 0) (q := 2147483652) (by decide +kernel) (by decide) (tg_5_384_0_0 ta0) q14 (fun l15 => ?_)
  refine x_icmp (k := 3) (tg := 28) (np := 24) (by decide +kernel) (by decide) (by decide) (by decide) (fun q16 => ?_) (fun q17 => ?_)
  · have q16 : 2147483652 ≤ 2147483649 := q16
    exfalso; omega
  have q17 : ¬ (2147483652 ≤ 2147483649) := q17
  refine x_const (np := 25) (x := 9223372043297226753) (a := 2147483649) (by decide +kernel) (by decide) (by decide) ?_
  refine x_goto (np := 28) (x := 29) (by decide +kernel) ?_
  refine x_istore (np := 31) (x := 4) (lo' := [x_r (ra0 + 5), iv_c a1, iv_c 2147483649, iv_c a3, iv_c 2147483649]) (by decide +kernel) (by decide) (Nat.le_of_ble_eq_true rfl) rfl ?_
  refine x_iload (np := 33) (x := 4) (by decide +kernel) rfl (by decide) ?_
  refine x_ifz (k := 0) (tg := 50) (np := 36) (by decide +kernel) (by decide) (by decide) (fun q18 => ?_) (fun q19 => ?_)
  · have q18 : 2147483649 = 2147483648 := q18
    exfalso; omega
  have q19 : ¬ (2147483649 = 2147483648) := q19
  refine x_aload (np := 37) (x := 0) (by decide +kernel) rfl (x_nc_le (tn_5 ta0)) ?_
  have q20 : h (ra0 + 5) 1 = (ra0 + 6) := tf_5_1 hJ ta0
  refine x_getR (np := 40) (x := 385) (f := 1) (q := (ra0 + 6)) (by decide +kernel) (by decide) (tg_5_385_1_1 ta0) q20 ?_
  refine x_iload (np := 41) (x := 1) (by decide +kernel) rfl la1 ?_
  refine x_aload (np := 42) (x := 0) (by decide +kernel) rfl (x_nc_le (tn_5 ta0)) ?_
  refine x_getC (np := 45) (x := 384) (f := 0) (q := 2147483652) (by decide +kernel) (by decide) (tg_5_384_0_0 ta0) q14 (fun l21 => ?_)
  obtain ⟨u22, q23⟩ : ∃ z, a1 = 2147483648 + z := ⟨a1 - 2147483648, by omega⟩
  refine x_imul (np := 46) (x := 0) (i := u22) (j := 4) (v := (2147483648 + 4 * u22)) (by decide +kernel) (by omega) (by omega) (by omega) (by omega) la1 (by decide) ?_
  refine x_iload (np := 47) (x := 2) (by decide +kernel) rfl (by decide) ?_
  refine x_iadd (np := 48) (x := 0) (v := (2147483649 + 4 * u22)) (by decide +kernel) (by omega) (by decide) (by omega) (by omega) ?_
  refine x_iload (np := 49) (x := 3) (by decide +kernel) rfl la3 ?_
  refine x_ast (np := 50) (x := 0) (kd := 1) (n := 40) (i := (1 + 4 * u22)) (by decide +kernel) (Or.inl rfl) (ta_6_40 ta0) (by omega) (by omega) (by decide) la3 (fun z => absurd z (by decide)) ?_
  have j26 := jU (e := (1 + 4 * u22)) (v := a3) (1 + 4 * u22) hJ (rg_T6_0_1_40 ta0) (by omega) (by omega) (by omega)
  have f28 := jF (e := (1 + 4 * u22)) (v := a3) (1 + 4 * u22) hF (rg_T6_0_1_40 ta0) (by omega) (by omega) (by decide)
  generalize e27 : x_up h (ra0 + 6) (1 + 4 * u22) a3 = h25 at j26 f28 ⊢
  refine x_retV (np := 51) (x := 0) (by decide +kernel) (by decide +kernel) ⟨rfl, ?_⟩
  exact ⟨j26, f28⟩
set_option maxHeartbeats 0 in
/-- LentNames$TownReader.readInto(LLentNames$Table;IIII)Z -/
theorem c102_61_T5_c1_c0 {sc : Nat × Nat} {d ra1 a2 a5 : Nat} {h : xh} (hJ : J h) (ta1 : tw ra1) (ba2 : 2147483647 ≤ a2 ∧ a2 ≤ 2147483657) (ba5 : 2147483649 ≤ a5 ∧ a5 ≤ 2147483653) : X sc 102 (d + 2) (xI fun r h' => J h' ∧ Fr 161 h h' ∧ (2147483648 ≤ r ∧ r ≤ 2147483649)) 0 0 0 [x_r 61, x_r (ra1 + 5), iv_c a2, iv_c 2147483649, iv_c 2147483648, iv_c a5, 147573952589676412928] [] h := by
  have la2 : a2 < 4294967296 := by omega
  have la5 : a5 < 4294967296 := by omega
  have hF := Fr.refl 161 h
  refine x_aload (np := 1) (x := 0) (by decide +kernel) rfl (x_nc_le (by decide)) ?_
  have q1 : h 61 0 = 1 := by have z := jB (e := 0) 0 hJ rg_61_0_0_1 (by decide) (by decide); omega
  refine x_getR (np := 4) (x := 576) (f := 0) (q := 1) (by decide +kernel) (by decide) (by decide +kernel) q1 ?_
  refine x_iload (np := 6) (x := 4) (by decide +kernel) rfl (by decide) ?_
  refine x_iload (np := 8) (x := 5) (by decide +kernel) rfl la5 ?_
  refine x_cI (t := 6) (mj := 79) (n := 3) (rc := 8) (ml := 5) (nr := 0) (np := 11) (as := [x_r 1, iv_c 2147483648, iv_c a5]) (rest := []) (lo1 := [x_r 1, iv_c 2147483648, iv_c a5, 147573952589676412928, 147573952589676412928]) (by decide +kernel) (by decide) (by decide +kernel) (x_rb_of (by decide +kernel)) rfl rfl (x_wr (by decide) (x_wi (by decide) (x_wi la5 x_wn))) x_wn (by decide) rfl (c79_1_c0 hJ   (by omega)) (fun v2 h5 l3 q4 => ?_)
  obtain ⟨j6, f7, b8, c9⟩ := q4
  have f10 := Fr.trans hF f7 (by decide)
  refine x_istore (np := 13) (x := 6) (lo' := [x_r 61, x_r (ra1 + 5), iv_c a2, iv_c 2147483649, iv_c 2147483648, iv_c a5, iv_c v2]) (by decide +kernel) l3 (Nat.le_of_ble_eq_true rfl) rfl ?_
  refine x_iload (np := 15) (x := 6) (by decide +kernel) rfl l3 ?_
  refine x_const (np := 16) (x := 9223372034707292159) (a := 2147483647) (by decide +kernel) (by decide) (by decide) ?_
  refine x_icmp (k := 1) (tg := 21) (np := 19) (by decide +kernel) (by decide) l3 (by decide) (fun q11 => ?_) (fun q12 => ?_)
  · have q11 : v2 ≠ 2147483647 := q11
    refine x_aload (np := 22) (x := 1) (by decide +kernel) rfl (x_nc_le (tn_5 ta1)) ?_
    refine x_iload (np := 23) (x := 2) (by decide +kernel) rfl la2 ?_
    refine x_iload (np := 24) (x := 3) (by decide +kernel) rfl (by decide) ?_
    refine x_iload (np := 26) (x := 6) (by decide +kernel) rfl l3 ?_
    refine x_cV (t := 6) (mj := 69) (n := 4) (rc := 7) (ml := 5) (nr := 0) (np := 29) (as := [x_r (ra1 + 5), iv_c a2, iv_c 2147483649, iv_c v2]) (rest := []) (lo1 := [x_r (ra1 + 5), iv_c a2, iv_c 2147483649, iv_c v2, 147573952589676412928]) (by decide +kernel) (by decide) (by decide +kernel) (x_rb_of (tr_5_7 ta1)) rfl rfl (x_wr (tn_5 ta1) (x_wi la2 (x_wi (by decide) (x_wi l3 x_wn)))) x_wn (by decide) rfl (c69_T5_c1 j6 ta1 (by omega)  (by omega)) (fun h16 q15 => ?_)
    obtain ⟨j17, f18⟩ := q15
    have f21 := Fr.trans f10 f18 (by decide)
    refine x_const (np := 30) (x := 9223372043297226753) (a := 2147483649) (by decide +kernel) (by decide) (by decide) ?_
    refine x_retI (np := 31) (x := 0) (by decide +kernel) (by decide) (Or.inr ⟨by decide +kernel, by omega, by omega⟩) ⟨_, rfl, (by decide), ?_⟩
    exact ⟨j17, f21, (by omega)⟩
  have q12 : ¬ (v2 ≠ 2147483647) := q12
  refine x_const (np := 20) (x := 9223372039002259456) (a := 2147483648) (by decide +kernel) (by decide) (by decide) ?_
  refine x_retI (np := 21) (x := 0) (by decide +kernel) (by decide) (Or.inr ⟨by decide +kernel, by omega, by omega⟩) ⟨_, rfl, (by decide), ?_⟩
  exact ⟨j6, f10, (by omega)⟩
set_option maxHeartbeats 0 in
/-- LentNames$Table.put(III)V -/
theorem c69_T5_c2 {sc : Nat × Nat} {d ra0 a1 a3 : Nat} {h : xh} (hJ : J h) (ta0 : tw ra0) (ba1 : 2147483647 ≤ a1 ∧ a1 ≤ 2147483657) (ba3 : 0 ≤ a3 ∧ a3 ≤ 2147483659) : X sc 69 d (xV fun h' => J h' ∧ Fr 129 h h') 0 0 0 [x_r (ra0 + 5), iv_c a1, iv_c 2147483650, iv_c a3, 147573952589676412928] [] h := by
  have la1 : a1 < 4294967296 := by omega
  have la3 : a3 < 4294967296 := by omega
  have hF := Fr.refl 129 h
  refine x_iload (np := 1) (x := 1) (by decide +kernel) rfl la1 ?_
  refine x_ifz (k := 2) (tg := 28) (np := 4) (by decide +kernel) (by decide) la1 (fun q1 => ?_) (fun q2 => ?_)
  · have q1 : a1 < 2147483648 := q1
    refine x_const (np := 29) (x := 9223372039002259456) (a := 2147483648) (by decide +kernel) (by decide) (by decide) ?_
    refine x_istore (np := 31) (x := 4) (lo' := [x_r (ra0 + 5), iv_c a1, iv_c 2147483650, iv_c a3, iv_c 2147483648]) (by decide +kernel) (by decide) (Nat.le_of_ble_eq_true rfl) rfl ?_
    refine x_iload (np := 33) (x := 4) (by decide +kernel) rfl (by decide) ?_
    refine x_ifz (k := 0) (tg := 50) (np := 36) (by decide +kernel) (by decide) (by decide) (fun q3 => ?_) (fun q4 => ?_)
    · have q3 : 2147483648 = 2147483648 := q3
      refine x_retV (np := 51) (x := 0) (by decide +kernel) (by decide +kernel) ⟨rfl, ?_⟩
      exact ⟨hJ, hF⟩
    have q4 : ¬ (2147483648 = 2147483648) := q4
    exfalso; omega
  have q2 : ¬ (a1 < 2147483648) := q2
  refine x_iload (np := 5) (x := 1) (by decide +kernel) rfl la1 ?_
  refine x_aload (np := 6) (x := 0) (by decide +kernel) rfl (x_nc_le (tn_5 ta0)) ?_
  have b5 := jB (e := 2) 0 hJ (rg_T5_2_0_1 ta0) (by omega) (by omega)
  refine x_getC (np := 9) (x := 386) (f := 2) (q := (h (ra0 + 5) 2)) (by decide +kernel) (by decide) (tg_5_386_2_0 ta0) rfl (fun l6 => ?_)
  refine x_icmp (k := 3) (tg := 28) (np := 12) (by decide +kernel) (by decide) la1 l6 (fun q7 => ?_) (fun q8 => ?_)
  · have q7 : (h (ra0 + 5) 2) ≤ a1 := q7
    refine x_const (np := 29) (x := 9223372039002259456) (a := 2147483648) (by decide +kernel) (by decide) (by decide) ?_
    refine x_istore (np := 31) (x := 4) (lo' := [x_r (ra0 + 5), iv_c a1, iv_c 2147483650, iv_c a3, iv_c 2147483648]) (by decide +kernel) (by decide) (Nat.le_of_ble_eq_true rfl) rfl ?_
    refine x_iload (np := 33) (x := 4) (by decide +kernel) rfl (by decide) ?_
    refine x_ifz (k := 0) (tg := 50) (np := 36) (by decide +kernel) (by decide) (by decide) (fun q9 => ?_) (fun q10 => ?_)
    · have q9 : 2147483648 = 2147483648 := q9
      refine x_retV (np := 51) (x := 0) (by decide +kernel) (by decide +kernel) ⟨rfl, ?_⟩
      exact ⟨hJ, hF⟩
    have q10 : ¬ (2147483648 = 2147483648) := q10
    exfalso; omega
  have q8 : ¬ ((h (ra0 + 5) 2) ≤ a1) := q8
  refine x_iload (np := 13) (x := 2) (by decide +kernel) rfl (by decide) ?_
  refine x_ifz (k := 2) (tg := 28) (np := 16) (by decide +kernel) (by decide) (by decide) (fun q11 => ?_) (fun q12 => ?_)
  · have q11 : 2147483650 < 2147483648 := q11
    exfalso; omega
  have q12 : ¬ (2147483650 < 2147483648) := q12
  refine x_iload (np := 17) (x := 2) (by decide +kernel) rfl (by decide) ?_
  refine x_aload (np := 18) (x := 0) (by decide +kernel) rfl (x_nc_le (tn_5 ta0)) ?_
  have b13 := jB (e := 0) 0 hJ (rg_T5_0_0_1 ta0) (by omega) (by omega)
  have q14 : (h (ra0 + 5) 0) = 2147483652 := by omega
  refine x_getC (np := 21) (x := 384) (f := 0) (q := 2147483652) (by decide +kernel) (by decide) (tg_5_384_0_0 ta0) q14 (fun l15 => ?_)
  refine x_icmp (k := 3) (tg := 28) (np := 24) (by decide +kernel) (by decide) (by decide) (by decide) (fun q16 => ?_) (fun q17 => ?_)
  · have q16 : 2147483652 ≤ 2147483650 := q16
    exfalso; omega
  have q17 : ¬ (2147483652 ≤ 2147483650) := q17
  refine x_const (np := 25) (x := 9223372043297226753) (a := 2147483649) (by decide +kernel) (by decide) (by decide) ?_
  refine x_goto (np := 28) (x := 29) (by decide +kernel) ?_
  refine x_istore (np := 31) (x := 4) (lo' := [x_r (ra0 + 5), iv_c a1, iv_c 2147483650, iv_c a3, iv_c 2147483649]) (by decide +kernel) (by decide) (Nat.le_of_ble_eq_true rfl) rfl ?_
  refine x_iload (np := 33) (x := 4) (by decide +kernel) rfl (by decide) ?_
  refine x_ifz (k := 0) (tg := 50) (np := 36) (by decide +kernel) (by decide) (by decide) (fun q18 => ?_) (fun q19 => ?_)
  · have q18 : 2147483649 = 2147483648 := q18
    exfalso; omega
  have q19 : ¬ (2147483649 = 2147483648) := q19
  refine x_aload (np := 37) (x := 0) (by decide +kernel) rfl (x_nc_le (tn_5 ta0)) ?_
  have q20 : h (ra0 + 5) 1 = (ra0 + 6) := tf_5_1 hJ ta0
  refine x_getR (np := 40) (x := 385) (f := 1) (q := (ra0 + 6)) (by decide +kernel) (by decide) (tg_5_385_1_1 ta0) q20 ?_
  refine x_iload (np := 41) (x := 1) (by decide +kernel) rfl la1 ?_
  refine x_aload (np := 42) (x := 0) (by decide +kernel) rfl (x_nc_le (tn_5 ta0)) ?_
  refine x_getC (np := 45) (x := 384) (f := 0) (q := 2147483652) (by decide +kernel) (by decide) (tg_5_384_0_0 ta0) q14 (fun l21 => ?_)
  obtain ⟨u22, q23⟩ : ∃ z, a1 = 2147483648 + z := ⟨a1 - 2147483648, by omega⟩
  refine x_imul (np := 46) (x := 0) (i := u22) (j := 4) (v := (2147483648 + 4 * u22)) (by decide +kernel) (by omega) (by omega) (by omega) (by omega) la1 (by decide) ?_
  refine x_iload (np := 47) (x := 2) (by decide +kernel) rfl (by decide) ?_
  refine x_iadd (np := 48) (x := 0) (v := (2147483650 + 4 * u22)) (by decide +kernel) (by omega) (by decide) (by omega) (by omega) ?_
  refine x_iload (np := 49) (x := 3) (by decide +kernel) rfl la3 ?_
  refine x_ast (np := 50) (x := 0) (kd := 1) (n := 40) (i := (2 + 4 * u22)) (by decide +kernel) (Or.inl rfl) (ta_6_40 ta0) (by omega) (by omega) (by decide) la3 (fun z => absurd z (by decide)) ?_
  have j26 := jU (e := (2 + 4 * u22)) (v := a3) (2 + 4 * u22) hJ (rg_T6_0_1_40 ta0) (by omega) (by omega) (by omega)
  have f28 := jF (e := (2 + 4 * u22)) (v := a3) (2 + 4 * u22) hF (rg_T6_0_1_40 ta0) (by omega) (by omega) (by decide)
  generalize e27 : x_up h (ra0 + 6) (2 + 4 * u22) a3 = h25 at j26 f28 ⊢
  refine x_retV (np := 51) (x := 0) (by decide +kernel) (by decide +kernel) ⟨rfl, ?_⟩
  exact ⟨j26, f28⟩
set_option maxHeartbeats 0 in
/-- LentNames$TownReader.readInto(LLentNames$Table;IIII)Z -/
theorem c102_61_T5_c2 {sc : Nat × Nat} {d ra1 a2 a4 a5 : Nat} {h : xh} (hJ : J h) (ta1 : tw ra1) (ba2 : 2147483647 ≤ a2 ∧ a2 ≤ 2147483657) (ba4 : 2147483648 ≤ a4 ∧ a4 ≤ 2147483659) (ba5 : 2147483659 ≤ a5 ∧ a5 ≤ 2147483659) : X sc 102 (d + 2) (xI fun r h' => J h' ∧ Fr 161 h h' ∧ (2147483648 ≤ r ∧ r ≤ 2147483649)) 0 0 0 [x_r 61, x_r (ra1 + 5), iv_c a2, iv_c 2147483650, iv_c a4, iv_c a5, 147573952589676412928] [] h := by
  have la2 : a2 < 4294967296 := by omega
  have la4 : a4 < 4294967296 := by omega
  have la5 : a5 < 4294967296 := by omega
  have hF := Fr.refl 161 h
  refine x_aload (np := 1) (x := 0) (by decide +kernel) rfl (x_nc_le (by decide)) ?_
  have q1 : h 61 0 = 1 := by have z := jB (e := 0) 0 hJ rg_61_0_0_1 (by decide) (by decide); omega
  refine x_getR (np := 4) (x := 576) (f := 0) (q := 1) (by decide +kernel) (by decide) (by decide +kernel) q1 ?_
  refine x_iload (np := 6) (x := 4) (by decide +kernel) rfl la4 ?_
  refine x_iload (np := 8) (x := 5) (by decide +kernel) rfl la5 ?_
  refine x_cI (t := 6) (mj := 79) (n := 3) (rc := 8) (ml := 5) (nr := 0) (np := 11) (as := [x_r 1, iv_c a4, iv_c a5]) (rest := []) (lo1 := [x_r 1, iv_c a4, iv_c a5, 147573952589676412928, 147573952589676412928]) (by decide +kernel) (by decide) (by decide +kernel) (x_rb_of (by decide +kernel)) rfl rfl (x_wr (by decide) (x_wi la4 (x_wi la5 x_wn))) x_wn (by decide) rfl (c79_1 hJ  (by omega) (by omega)) (fun v2 h5 l3 q4 => ?_)
  obtain ⟨j6, f7, b8, c9⟩ := q4
  have f10 := Fr.trans hF f7 (by decide)
  refine x_istore (np := 13) (x := 6) (lo' := [x_r 61, x_r (ra1 + 5), iv_c a2, iv_c 2147483650, iv_c a4, iv_c a5, iv_c v2]) (by decide +kernel) l3 (Nat.le_of_ble_eq_true rfl) rfl ?_
  refine x_iload (np := 15) (x := 6) (by decide +kernel) rfl l3 ?_
  refine x_const (np := 16) (x := 9223372034707292159) (a := 2147483647) (by decide +kernel) (by decide) (by decide) ?_
  refine x_icmp (k := 1) (tg := 21) (np := 19) (by decide +kernel) (by decide) l3 (by decide) (fun q11 => ?_) (fun q12 => ?_)
  · have q11 : v2 ≠ 2147483647 := q11
    refine x_aload (np := 22) (x := 1) (by decide +kernel) rfl (x_nc_le (tn_5 ta1)) ?_
    refine x_iload (np := 23) (x := 2) (by decide +kernel) rfl la2 ?_
    refine x_iload (np := 24) (x := 3) (by decide +kernel) rfl (by decide) ?_
    refine x_iload (np := 26) (x := 6) (by decide +kernel) rfl l3 ?_
    refine x_cV (t := 6) (mj := 69) (n := 4) (rc := 7) (ml := 5) (nr := 0) (np := 29) (as := [x_r (ra1 + 5), iv_c a2, iv_c 2147483650, iv_c v2]) (rest := []) (lo1 := [x_r (ra1 + 5), iv_c a2, iv_c 2147483650, iv_c v2, 147573952589676412928]) (by decide +kernel) (by decide) (by decide +kernel) (x_rb_of (tr_5_7 ta1)) rfl rfl (x_wr (tn_5 ta1) (x_wi la2 (x_wi (by decide) (x_wi l3 x_wn)))) x_wn (by decide) rfl (c69_T5_c2 j6 ta1 (by omega)  (by omega)) (fun h16 q15 => ?_)
    obtain ⟨j17, f18⟩ := q15
    have f21 := Fr.trans f10 f18 (by decide)
    refine x_const (np := 30) (x := 9223372043297226753) (a := 2147483649) (by decide +kernel) (by decide) (by decide) ?_
    refine x_retI (np := 31) (x := 0) (by decide +kernel) (by decide) (Or.inr ⟨by decide +kernel, by omega, by omega⟩) ⟨_, rfl, (by decide), ?_⟩
    exact ⟨j17, f21, (by omega)⟩
  have q12 : ¬ (v2 ≠ 2147483647) := q12
  refine x_const (np := 20) (x := 9223372039002259456) (a := 2147483648) (by decide +kernel) (by decide) (by decide) ?_
  refine x_retI (np := 21) (x := 0) (by decide +kernel) (by decide) (Or.inr ⟨by decide +kernel, by omega, by omega⟩) ⟨_, rfl, (by decide), ?_⟩
  exact ⟨j6, f10, (by omega)⟩
set_option maxHeartbeats 0 in
/-- LentNames$Table.put(III)V -/
theorem c69_T5_c3 {sc : Nat × Nat} {d ra0 a1 a3 : Nat} {h : xh} (hJ : J h) (ta0 : tw ra0) (ba1 : 2147483647 ≤ a1 ∧ a1 ≤ 2147483657) (ba3 : 2147483648 ≤ a3 ∧ a3 ≤ 2147484769) : X sc 69 d (xV fun h' => J h' ∧ Fr 129 h h') 0 0 0 [x_r (ra0 + 5), iv_c a1, iv_c 2147483651, iv_c a3, 147573952589676412928] [] h := by
  have la1 : a1 < 4294967296 := by omega
  have la3 : a3 < 4294967296 := by omega
  have hF := Fr.refl 129 h
  refine x_iload (np := 1) (x := 1) (by decide +kernel) rfl la1 ?_
  refine x_ifz (k := 2) (tg := 28) (np := 4) (by decide +kernel) (by decide) la1 (fun q1 => ?_) (fun q2 => ?_)
  · have q1 : a1 < 2147483648 := q1
    refine x_const (np := 29) (x := 9223372039002259456) (a := 2147483648) (by decide +kernel) (by decide) (by decide) ?_
    refine x_istore (np := 31) (x := 4) (lo' := [x_r (ra0 + 5), iv_c a1, iv_c 2147483651, iv_c a3, iv_c 2147483648]) (by decide +kernel) (by decide) (Nat.le_of_ble_eq_true rfl) rfl ?_
    refine x_iload (np := 33) (x := 4) (by decide +kernel) rfl (by decide) ?_
    refine x_ifz (k := 0) (tg := 50) (np := 36) (by decide +kernel) (by decide) (by decide) (fun q3 => ?_) (fun q4 => ?_)
    · have q3 : 2147483648 = 2147483648 := q3
      refine x_retV (np := 51) (x := 0) (by decide +kernel) (by decide +kernel) ⟨rfl, ?_⟩
      exact ⟨hJ, hF⟩
    have q4 : ¬ (2147483648 = 2147483648) := q4
    exfalso; omega
  have q2 : ¬ (a1 < 2147483648) := q2
  refine x_iload (np := 5) (x := 1) (by decide +kernel) rfl la1 ?_
  refine x_aload (np := 6) (x := 0) (by decide +kernel) rfl (x_nc_le (tn_5 ta0)) ?_
  have b5 := jB (e := 2) 0 hJ (rg_T5_2_0_1 ta0) (by omega) (by omega)
  refine x_getC (np := 9) (x := 386) (f := 2) (q := (h (ra0 + 5) 2)) (by decide +kernel) (by decide) (tg_5_386_2_0 ta0) rfl (fun l6 => ?_)
  refine x_icmp (k := 3) (tg := 28) (np := 12) (by decide +kernel) (by decide) la1 l6 (fun q7 => ?_) (fun q8 => ?_)
  · have q7 : (h (ra0 + 5) 2) ≤ a1 := q7
    refine x_const (np := 29) (x := 9223372039002259456) (a := 2147483648) (by decide +kernel) (by decide) (by decide) ?_
    refine x_istore (np := 31) (x := 4) (lo' := [x_r (ra0 + 5), iv_c a1, iv_c 2147483651, iv_c a3, iv_c 2147483648]) (by decide +kernel) (by decide) (Nat.le_of_ble_eq_true rfl) rfl ?_
    refine x_iload (np := 33) (x := 4) (by decide +kernel) rfl (by decide) ?_
    refine x_ifz (k := 0) (tg := 50) (np := 36) (by decide +kernel) (by decide) (by decide) (fun q9 => ?_) (fun q10 => ?_)
    · have q9 : 2147483648 = 2147483648 := q9
      refine x_retV (np := 51) (x := 0) (by decide +kernel) (by decide +kernel) ⟨rfl, ?_⟩
      exact ⟨hJ, hF⟩
    have q10 : ¬ (2147483648 = 2147483648) := q10
    exfalso; omega
  have q8 : ¬ ((h (ra0 + 5) 2) ≤ a1) := q8
  refine x_iload (np := 13) (x := 2) (by decide +kernel) rfl (by decide) ?_
  refine x_ifz (k := 2) (tg := 28) (np := 16) (by decide +kernel) (by decide) (by decide) (fun q11 => ?_) (fun q12 => ?_)
  · have q11 : 2147483651 < 2147483648 := q11
    exfalso; omega
  have q12 : ¬ (2147483651 < 2147483648) := q12
  refine x_iload (np := 17) (x := 2) (by decide +kernel) rfl (by decide) ?_
  refine x_aload (np := 18) (x := 0) (by decide +kernel) rfl (x_nc_le (tn_5 ta0)) ?_
  have b13 := jB (e := 0) 0 hJ (rg_T5_0_0_1 ta0) (by omega) (by omega)
  have q14 : (h (ra0 + 5) 0) = 2147483652 := by omega
  refine x_getC (np := 21) (x := 384) (f := 0) (q := 2147483652) (by decide +kernel) (by decide) (tg_5_384_0_0 ta0) q14 (fun l15 => ?_)
  refine x_icmp (k := 3) (tg := 28) (np := 24) (by decide +kernel) (by decide) (by decide) (by decide) (fun q16 => ?_) (fun q17 => ?_)
  · have q16 : 2147483652 ≤ 2147483651 := q16
    exfalso; omega
  have q17 : ¬ (2147483652 ≤ 2147483651) := q17
  refine x_const (np := 25) (x := 9223372043297226753) (a := 2147483649) (by decide +kernel) (by decide) (by decide) ?_
  refine x_goto (np := 28) (x := 29) (by decide +kernel) ?_
  refine x_istore (np := 31) (x := 4) (lo' := [x_r (ra0 + 5), iv_c a1, iv_c 2147483651, iv_c a3, iv_c 2147483649]) (by decide +kernel) (by decide) (Nat.le_of_ble_eq_true rfl) rfl ?_
  refine x_iload (np := 33) (x := 4) (by decide +kernel) rfl (by decide) ?_
  refine x_ifz (k := 0) (tg := 50) (np := 36) (by decide +kernel) (by decide) (by decide) (fun q18 => ?_) (fun q19 => ?_)
  · have q18 : 2147483649 = 2147483648 := q18
    exfalso; omega
  have q19 : ¬ (2147483649 = 2147483648) := q19
  refine x_aload (np := 37) (x := 0) (by decide +kernel) rfl (x_nc_le (tn_5 ta0)) ?_
  have q20 : h (ra0 + 5) 1 = (ra0 + 6) := tf_5_1 hJ ta0
  refine x_getR (np := 40) (x := 385) (f := 1) (q := (ra0 + 6)) (by decide +kernel) (by decide) (tg_5_385_1_1 ta0) q20 ?_
  refine x_iload (np := 41) (x := 1) (by decide +kernel) rfl la1 ?_
  refine x_aload (np := 42) (x := 0) (by decide +kernel) rfl (x_nc_le (tn_5 ta0)) ?_
  refine x_getC (np := 45) (x := 384) (f := 0) (q := 2147483652) (by decide +kernel) (by decide) (tg_5_384_0_0 ta0) q14 (fun l21 => ?_)
  obtain ⟨u22, q23⟩ : ∃ z, a1 = 2147483648 + z := ⟨a1 - 2147483648, by omega⟩
  refine x_imul (np := 46) (x := 0) (i := u22) (j := 4) (v := (2147483648 + 4 * u22)) (by decide +kernel) (by omega) (by omega) (by omega) (by omega) la1 (by decide) ?_
  refine x_iload (np := 47) (x := 2) (by decide +kernel) rfl (by decide) ?_
  refine x_iadd (np := 48) (x := 0) (v := (2147483651 + 4 * u22)) (by decide +kernel) (by omega) (by decide) (by omega) (by omega) ?_
  refine x_iload (np := 49) (x := 3) (by decide +kernel) rfl la3 ?_
  refine x_ast (np := 50) (x := 0) (kd := 1) (n := 40) (i := (3 + 4 * u22)) (by decide +kernel) (Or.inl rfl) (ta_6_40 ta0) (by omega) (by omega) (by decide) la3 (fun z => absurd z (by decide)) ?_
  have j26 := jU (e := (3 + 4 * u22)) (v := a3) (3 + 4 * u22) hJ (rg_T6_0_1_40 ta0) (by omega) (by omega) (by omega)
  have f28 := jF (e := (3 + 4 * u22)) (v := a3) (3 + 4 * u22) hF (rg_T6_0_1_40 ta0) (by omega) (by omega) (by decide)
  generalize e27 : x_up h (ra0 + 6) (3 + 4 * u22) a3 = h25 at j26 f28 ⊢
  refine x_retV (np := 51) (x := 0) (by decide +kernel) (by decide +kernel) ⟨rfl, ?_⟩
  exact ⟨j26, f28⟩
set_option maxHeartbeats 0 in
/-- LentNames$TownReader.readInto(LLentNames$Table;IIII)Z -/
theorem c102_61_T5_c3_c0 {sc : Nat × Nat} {d ra1 a2 a5 : Nat} {h : xh} (hJ : J h) (ta1 : tw ra1) (ba2 : 2147483647 ≤ a2 ∧ a2 ≤ 2147483657) (ba5 : 2147484479 ≤ a5 ∧ a5 ≤ 2147484769) : X sc 102 (d + 2) (xI fun r h' => J h' ∧ Fr 161 h h' ∧ (2147483648 ≤ r ∧ r ≤ 2147483649)) 0 0 0 [x_r 61, x_r (ra1 + 5), iv_c a2, iv_c 2147483651, iv_c 2147483648, iv_c a5, 147573952589676412928] [] h := by
  have la2 : a2 < 4294967296 := by omega
  have la5 : a5 < 4294967296 := by omega
  have hF := Fr.refl 161 h
  refine x_aload (np := 1) (x := 0) (by decide +kernel) rfl (x_nc_le (by decide)) ?_
  have q1 : h 61 0 = 1 := by have z := jB (e := 0) 0 hJ rg_61_0_0_1 (by decide) (by decide); omega
  refine x_getR (np := 4) (x := 576) (f := 0) (q := 1) (by decide +kernel) (by decide) (by decide +kernel) q1 ?_
  refine x_iload (np := 6) (x := 4) (by decide +kernel) rfl (by decide) ?_
  refine x_iload (np := 8) (x := 5) (by decide +kernel) rfl la5 ?_
  refine x_cI (t := 6) (mj := 79) (n := 3) (rc := 8) (ml := 5) (nr := 0) (np := 11) (as := [x_r 1, iv_c 2147483648, iv_c a5]) (rest := []) (lo1 := [x_r 1, iv_c 2147483648, iv_c a5, 147573952589676412928, 147573952589676412928]) (by decide +kernel) (by decide) (by decide +kernel) (x_rb_of (by decide +kernel)) rfl rfl (x_wr (by decide) (x_wi (by decide) (x_wi la5 x_wn))) x_wn (by decide) rfl (c79_1_c0 hJ   (by omega)) (fun v2 h5 l3 q4 => ?_)
  obtain ⟨j6, f7, b8, c9⟩ := q4
  have f10 := Fr.trans hF f7 (by decide)
  refine x_istore (np := 13) (x := 6) (lo' := [x_r 61, x_r (ra1 + 5), iv_c a2, iv_c 2147483651, iv_c 2147483648, iv_c a5, iv_c v2]) (by decide +kernel) l3 (Nat.le_of_ble_eq_true rfl) rfl ?_
  refine x_iload (np := 15) (x := 6) (by decide +kernel) rfl l3 ?_
  refine x_const (np := 16) (x := 9223372034707292159) (a := 2147483647) (by decide +kernel) (by decide) (by decide) ?_
  refine x_icmp (k := 1) (tg := 21) (np := 19) (by decide +kernel) (by decide) l3 (by decide) (fun q11 => ?_) (fun q12 => ?_)
  · have q11 : v2 ≠ 2147483647 := q11
    refine x_aload (np := 22) (x := 1) (by decide +kernel) rfl (x_nc_le (tn_5 ta1)) ?_
    refine x_iload (np := 23) (x := 2) (by decide +kernel) rfl la2 ?_
    refine x_iload (np := 24) (x := 3) (by decide +kernel) rfl (by decide) ?_
    refine x_iload (np := 26) (x := 6) (by decide +kernel) rfl l3 ?_
    refine x_cV (t := 6) (mj := 69) (n := 4) (rc := 7) (ml := 5) (nr := 0) (np := 29) (as := [x_r (ra1 + 5), iv_c a2, iv_c 2147483651, iv_c v2]) (rest := []) (lo1 := [x_r (ra1 + 5), iv_c a2, iv_c 2147483651, iv_c v2, 147573952589676412928]) (by decide +kernel) (by decide) (by decide +kernel) (x_rb_of (tr_5_7 ta1)) rfl rfl (x_wr (tn_5 ta1) (x_wi la2 (x_wi (by decide) (x_wi l3 x_wn)))) x_wn (by decide) rfl (c69_T5_c3 j6 ta1 (by omega)  (by omega)) (fun h16 q15 => ?_)
    obtain ⟨j17, f18⟩ := q15
    have f21 := Fr.trans f10 f18 (by decide)
    refine x_const (np := 30) (x := 9223372043297226753) (a := 2147483649) (by decide +kernel) (by decide) (by decide) ?_
    refine x_retI (np := 31) (x := 0) (by decide +kernel) (by decide) (Or.inr ⟨by decide +kernel, by omega, by omega⟩) ⟨_, rfl, (by decide), ?_⟩
    exact ⟨j17, f21, (by omega)⟩
  have q12 : ¬ (v2 ≠ 2147483647) := q12
  refine x_const (np := 20) (x := 9223372039002259456) (a := 2147483648) (by decide +kernel) (by decide) (by decide) ?_
  refine x_retI (np := 21) (x := 0) (by decide +kernel) (by decide) (Or.inr ⟨by decide +kernel, by omega, by omega⟩) ⟨_, rfl, (by decide), ?_⟩
  exact ⟨j6, f10, (by omega)⟩
set_option maxHeartbeats 0 in
/-- LentNames$TownReader.readDebt()Z -/
theorem c99_61 {sc : Nat × Nat} {d  : Nat} {h : xh} (hJ : J h) : X sc 99 (d + 6) (xI fun r h' => J h' ∧ Fr 161 h h' ∧ (2147483648 ≤ r ∧ r ≤ 2147483649)) 0 0 0 [x_r 61, 147573952589676412928, 147573952589676412928] [] h := by
  have hF := Fr.refl 161 h
  refine x_aload (np := 1) (x := 0) (by decide +kernel) rfl (x_nc_le (by decide)) ?_
  have t1 : tw (h 61 1) := hJ.2.2.2.2.1
  refine x_getR (np := 4) (x := 577) (f := 1) (q := (h 61 1)) (by decide +kernel) (by decide) (by decide +kernel) rfl ?_
  have q2 : h (h 61 1) 2 = ((h 61 1) + 5) := tf_0_2 hJ t1
  refine x_getR (np := 7) (x := 514) (f := 2) (q := ((h 61 1) + 5)) (by decide +kernel) (by decide) (tg_0_514_2_1 t1) q2 ?_
  refine x_cI (t := 6) (mj := 67) (n := 1) (rc := 7) (ml := 2) (nr := 0) (np := 10) (as := [x_r ((h 61 1) + 5)]) (rest := []) (lo1 := [x_r ((h 61 1) + 5), 147573952589676412928]) (by decide +kernel) (by decide) (by decide +kernel) (x_rb_of (tr_5_7 t1)) rfl rfl (x_wr (tn_5 t1) x_wn) x_wn (by decide) rfl (c67_T5 hJ t1) (fun v3 h6 l4 q5 => ?_)
  obtain ⟨j7, f8, b9⟩ := q5
  have f10 := Fr.trans hF f8 (by decide)
  refine x_istore (np := 11) (x := 1) (lo' := [x_r 61, iv_c v3, 147573952589676412928]) (by decide +kernel) l4 (Nat.le_of_ble_eq_true rfl) rfl ?_
  refine x_aload (np := 12) (x := 0) (by decide +kernel) rfl (x_nc_le (by decide)) ?_
  have q11 : h6 61 0 = 1 := by have z := jB (e := 0) 0 j7 rg_61_0_0_1 (by decide) (by decide); omega
  refine x_getR (np := 15) (x := 576) (f := 0) (q := 1) (by decide +kernel) (by decide) (by decide +kernel) q11 ?_
  refine x_ldcB (i := 9) (idx := 149) (tx := "body") (by rw [tb_y99]; exact List.mem_of_getElem? (i := 9) rfl) (by decide) (by rw [tb_b99]; decide +kernel) ?_
  refine x_nI (t := 6) (mj := 78) (n := 2) (rc := 8) (ml := 2) (nr := 0) (np := 20) (as := [x_r 1, x_b (9 + 1)]) (rest := []) (lo1 := [x_r 1, x_b (9 + 1)]) (by decide +kernel) (by decide) (by decide +kernel) (x_rb_of (by decide +kernel)) rfl rfl (x_wr (by decide) (x_wB (by decide) x_wn)) x_wn (by decide) rfl ?_
  refine x_aload (np := 1) (x := 0) (by decide +kernel) rfl (x_nc_le (by decide)) ?_
  refine x_aloadB (i := 9) (k4 := 1) rfl (by decide) (by rw [tb_b78]; decide +kernel) ?_
  refine x_cP (t := 6) (mj := 77) (n := 2) (rc := 8) (ml := 4) (nr := 0) (np := 5) (as := [x_r 1, x_b (9 + 1)]) (rest := []) (lo1 := [x_r 1, x_b (9 + 1), 147573952589676412928, 147573952589676412928]) (by decide +kernel) (by decide) (by decide +kernel) (x_rb_of (by decide +kernel)) rfl rfl (x_wr (by decide) (x_wB (by decide) x_wn)) x_wn (by decide) rfl (c77_1_S0 j7  (by decide)) (fun v12 l13 q14 => ?_)
  obtain ⟨b16, c15⟩ := q14
  have q17 : h6 1 2 = h 1 2 := jK 0 f8 rg_1_2_0_1 (by omega) (by omega) (by decide)
  have b18 := jB (e := 2) 0 hJ rg_1_2_0_1 (by omega) (by omega)
  refine x_ifz (k := 1) (tg := 10) (np := 8) (by decide +kernel) (by decide) l13 (fun q19 => ?_) (fun q20 => ?_)
  · have q19 : v12 ≠ 2147483648 := q19
    have b21 := c15 (by omega)
    refine x_aload (np := 11) (x := 0) (by decide +kernel) rfl (x_nc_le (by decide)) ?_
    refine x_aload (np := 12) (x := 0) (by decide +kernel) rfl (x_nc_le (by decide)) ?_
    have q22 : h6 1 2 = h 1 2 := jK 0 f8 rg_1_2_0_1 (by omega) (by omega) (by decide)
    refine x_getC (np := 15) (x := 450) (f := 2) (q := (h 1 2)) (by decide +kernel) (by decide) (by decide +kernel) q22 (fun l23 => ?_)
    refine x_aloadB (i := 9) (k4 := 1) rfl (by decide) (by rw [tb_b78]; decide +kernel) ?_
    have b24 := (iv_tl_lt 9 (by decide)).1
    have b25 := iv_tl_ge 9 (by decide)
    refine x_len (by decide +kernel) (by rw [tb_y78]; exact sl_Tl) (by decide) (by rw [tb_b78]; decide +kernel) (Nat.le_trans (x_wi l23 (x_wr (by decide) x_wn)) (by decide)) ?_
    refine x_iadd (np := 20) (x := 0) (v := ((h 1 2) + (iv_tl 9))) (by decide +kernel) l23 (by omega) (by omega) (by omega) ?_
    refine x_cV (t := 6) (mj := 80) (n := 2) (rc := 8) (ml := 2) (nr := 0) (np := 23) (as := [x_r 1, iv_c ((h 1 2) + (iv_tl 9))]) (rest := []) (lo1 := [x_r 1, iv_c ((h 1 2) + (iv_tl 9))]) (by decide +kernel) (by decide) (by decide +kernel) (x_rb_of (by decide +kernel)) rfl rfl (x_wr (by decide) (x_wi (by omega) x_wn)) x_wn (by decide) rfl (c80_1n j7  (by omega)) (fun h29 q28 => ?_)
    obtain ⟨j30, f31⟩ := q28
    have f34 := Fr.trans f10 f31 (by decide)
    refine x_const (np := 24) (x := 9223372043297226753) (a := 2147483649) (by decide +kernel) (by decide) (by decide) ?_
    refine x_retI (np := 25) (x := 0) (by decide +kernel) (by decide) (Or.inr ⟨by decide +kernel, by omega, by omega⟩) ⟨_, rfl, (by decide), ?_⟩
    refine x_ifz (k := 0) (tg := 39) (np := 23) (by decide +kernel) (by decide) (by decide) (fun q35 => ?_) (fun q36 => ?_)
    · have q35 : 2147483649 = 2147483648 := q35
      exfalso; omega
    have q36 : ¬ (2147483649 = 2147483648) := q36
    refine x_aload (np := 24) (x := 0) (by decide +kernel) rfl (x_nc_le (by decide)) ?_
    have q37 : h29 61 1 = h6 61 1 := f31 61 1 (by decide +kernel)
    have q38 : h6 61 1 = h 61 1 := f8 61 1 (by decide +kernel)
    refine x_getR (np := 27) (x := 577) (f := 1) (q := (h 61 1)) (by decide +kernel) (by decide) (by decide +kernel) (q37.trans q38) ?_
    have q39 : h29 (h 61 1) 2 = ((h 61 1) + 5) := tf_0_2 j30 t1
    refine x_getR (np := 30) (x := 514) (f := 2) (q := ((h 61 1) + 5)) (by decide +kernel) (by decide) (tg_0_514_2_1 t1) q39 ?_
    refine x_iload (np := 31) (x := 1) (by decide +kernel) rfl l4 ?_
    refine x_const (np := 32) (x := 9223372039002259456) (a := 2147483648) (by decide +kernel) (by decide) (by decide) ?_
    refine x_const (np := 33) (x := 9223372043297226753) (a := 2147483649) (by decide +kernel) (by decide) (by decide) ?_
    refine x_cV (t := 6) (mj := 69) (n := 4) (rc := 7) (ml := 5) (nr := 0) (np := 36) (as := [x_r ((h 61 1) + 5), iv_c v3, iv_c 2147483648, iv_c 2147483649]) (rest := []) (lo1 := [x_r ((h 61 1) + 5), iv_c v3, iv_c 2147483648, iv_c 2147483649, 147573952589676412928]) (by decide +kernel) (by decide) (by decide +kernel) (x_rb_of (tr_5_7 t1)) rfl rfl (x_wr (tn_5 t1) (x_wi l4 (x_wi (by decide) (x_wi (by decide) x_wn)))) x_wn (by decide) rfl (c69_T5_c0 j30 t1 (by omega)  (by omega)) (fun h43 q42 => ?_)
    obtain ⟨j44, f45⟩ := q42
    have f48 := Fr.trans f34 f45 (by decide)
    refine x_goto (np := 39) (x := 53) (by decide +kernel) ?_
    refine x_aload (np := 54) (x := 0) (by decide +kernel) rfl (x_nc_le (by decide)) ?_
    refine x_aload (np := 55) (x := 0) (by decide +kernel) rfl (x_nc_le (by decide)) ?_
    have q49 : h43 61 1 = h29 61 1 := f45 61 1 (by decide +kernel)
    have q50 : h29 61 1 = h6 61 1 := f31 61 1 (by decide +kernel)
    have q51 : h6 61 1 = h 61 1 := f8 61 1 (by decide +kernel)
    refine x_getR (np := 58) (x := 577) (f := 1) (q := (h 61 1)) (by decide +kernel) (by decide) (by decide +kernel) ((q49.trans q50).trans q51) ?_
    have q52 : h43 (h 61 1) 2 = ((h 61 1) + 5) := tf_0_2 j44 t1
    refine x_getR (np := 61) (x := 514) (f := 2) (q := ((h 61 1) + 5)) (by decide +kernel) (by decide) (tg_0_514_2_1 t1) q52 ?_
    refine x_iload (np := 62) (x := 1) (by decide +kernel) rfl l4 ?_
    refine x_const (np := 63) (x := 9223372043297226753) (a := 2147483649) (by decide +kernel) (by decide) (by decide) ?_
    refine x_const (np := 64) (x := 9223372039002259456) (a := 2147483648) (by decide +kernel) (by decide) (by decide) ?_
    refine x_aload (np := 65) (x := 0) (by decide +kernel) rfl (x_nc_le (by decide)) ?_
    have q53 : h43 61 1 = h29 61 1 := f45 61 1 (by decide +kernel)
    have q54 : h29 61 1 = h6 61 1 := f31 61 1 (by decide +kernel)
    have q55 : h6 61 1 = h 61 1 := f8 61 1 (by decide +kernel)
    refine x_getR (np := 68) (x := 577) (f := 1) (q := (h 61 1)) (by decide +kernel) (by decide) (by decide +kernel) ((q53.trans q54).trans q55) ?_
    have b56 := jB (e := 7) 0 j44 (rg_T0_7_0_1 t1) (by omega) (by omega)
    refine x_getC (np := 71) (x := 519) (f := 7) (q := (h43 (h 61 1) 7)) (by decide +kernel) (by decide) (tg_0_519_7_0 t1) rfl (fun l57 => ?_)
    refine x_const (np := 72) (x := 9223372043297226753) (a := 2147483649) (by decide +kernel) (by decide) (by decide) ?_
    obtain ⟨v58, q59⟩ : ∃ z, z + 2147483649 = (h43 (h 61 1) 7) + 2147483648 := ⟨(h43 (h 61 1) 7) + 2147483648 - 2147483649, by omega⟩
    refine x_isub (np := 73) (x := 0) (v := v58) (by decide +kernel) l57 (by decide) (by omega) (by omega) ?_
    refine x_cI (t := 6) (mj := 102) (n := 6) (rc := 10) (ml := 7) (nr := 0) (np := 76) (as := [x_r 61, x_r ((h 61 1) + 5), iv_c v3, iv_c 2147483649, iv_c 2147483648, iv_c v58]) (rest := []) (lo1 := [x_r 61, x_r ((h 61 1) + 5), iv_c v3, iv_c 2147483649, iv_c 2147483648, iv_c v58, 147573952589676412928]) (by decide +kernel) (by decide) (by decide +kernel) (x_rb_of (by decide +kernel)) rfl rfl (x_wr (by decide) (x_wr (tn_5 t1) (x_wi l4 (x_wi (by decide) (x_wi (by decide) (x_wi (by omega) x_wn)))))) x_wn (by decide) rfl (c102_61_T5_c1_c0 j44  t1 (by omega)   (by omega)) (fun v60 h63 l61 q62 => ?_)
    obtain ⟨j64, f65, b66⟩ := q62
    have f67 := Fr.trans f48 f65 (by decide)
    refine x_ifz (k := 0) (tg := 91) (np := 79) (by decide +kernel) (by decide) l61 (fun q68 => ?_) (fun q69 => ?_)
    · have q68 : v60 = 2147483648 := q68
      refine x_const (np := 92) (x := 9223372039002259456) (a := 2147483648) (by decide +kernel) (by decide) (by decide) ?_
      refine x_retI (np := 93) (x := 0) (by decide +kernel) (by decide) (Or.inr ⟨by decide +kernel, by omega, by omega⟩) ⟨_, rfl, (by decide), ?_⟩
      exact ⟨j64, f67, (by omega)⟩
    have q69 : ¬ (v60 = 2147483648) := q69
    refine x_aload (np := 80) (x := 0) (by decide +kernel) rfl (x_nc_le (by decide)) ?_
    have q70 : h63 61 0 = 1 := by have z := jB (e := 0) 0 j64 rg_61_0_0_1 (by decide) (by decide); omega
    refine x_getR (np := 83) (x := 576) (f := 0) (q := 1) (by decide +kernel) (by decide) (by decide +kernel) q70 ?_
    refine x_ldcB (i := 2) (idx := 111) (tx := "day") (by rw [tb_y99]; exact List.mem_of_getElem? (i := 2) rfl) (by decide) (by rw [tb_b99]; decide +kernel) ?_
    refine x_nI (t := 6) (mj := 78) (n := 2) (rc := 8) (ml := 2) (nr := 0) (np := 88) (as := [x_r 1, x_b (2 + 1)]) (rest := []) (lo1 := [x_r 1, x_b (2 + 1)]) (by decide +kernel) (by decide) (by decide +kernel) (x_rb_of (by decide +kernel)) rfl rfl (x_wr (by decide) (x_wB (by decide) x_wn)) x_wn (by decide) rfl ?_
    refine x_aload (np := 1) (x := 0) (by decide +kernel) rfl (x_nc_le (by decide)) ?_
    refine x_aloadB (i := 2) (k4 := 1) rfl (by decide) (by rw [tb_b78]; decide +kernel) ?_
    refine x_cP (t := 6) (mj := 77) (n := 2) (rc := 8) (ml := 4) (nr := 0) (np := 5) (as := [x_r 1, x_b (2 + 1)]) (rest := []) (lo1 := [x_r 1, x_b (2 + 1), 147573952589676412928, 147573952589676412928]) (by decide +kernel) (by decide) (by decide +kernel) (x_rb_of (by decide +kernel)) rfl rfl (x_wr (by decide) (x_wB (by decide) x_wn)) x_wn (by decide) rfl (c77_1_S0 j64  (by decide)) (fun v71 l72 q73 => ?_)
    obtain ⟨b75, c74⟩ := q73
    have b76 := jB (e := 2) 0 j64 rg_1_2_0_1 (by omega) (by omega)
    refine x_ifz (k := 1) (tg := 10) (np := 8) (by decide +kernel) (by decide) l72 (fun q77 => ?_) (fun q78 => ?_)
    · have q77 : v71 ≠ 2147483648 := q77
      have b79 := c74 (by omega)
      refine x_aload (np := 11) (x := 0) (by decide +kernel) rfl (x_nc_le (by decide)) ?_
      refine x_aload (np := 12) (x := 0) (by decide +kernel) rfl (x_nc_le (by decide)) ?_
      refine x_getC (np := 15) (x := 450) (f := 2) (q := (h63 1 2)) (by decide +kernel) (by decide) (by decide +kernel) rfl (fun l80 => ?_)
      refine x_aloadB (i := 2) (k4 := 1) rfl (by decide) (by rw [tb_b78]; decide +kernel) ?_
      have b81 := (iv_tl_lt 2 (by decide)).1
      have b82 := iv_tl_ge 2 (by decide)
      refine x_len (by decide +kernel) (by rw [tb_y78]; exact sl_Tl) (by decide) (by rw [tb_b78]; decide +kernel) (Nat.le_trans (x_wi l80 (x_wr (by decide) x_wn)) (by decide)) ?_
      refine x_iadd (np := 20) (x := 0) (v := ((h63 1 2) + (iv_tl 2))) (by decide +kernel) l80 (by omega) (by omega) (by omega) ?_
      refine x_cV (t := 6) (mj := 80) (n := 2) (rc := 8) (ml := 2) (nr := 0) (np := 23) (as := [x_r 1, iv_c ((h63 1 2) + (iv_tl 2))]) (rest := []) (lo1 := [x_r 1, iv_c ((h63 1 2) + (iv_tl 2))]) (by decide +kernel) (by decide) (by decide +kernel) (x_rb_of (by decide +kernel)) rfl rfl (x_wr (by decide) (x_wi (by omega) x_wn)) x_wn (by decide) rfl (c80_1n j64  (by omega)) (fun h86 q85 => ?_)
      obtain ⟨j87, f88⟩ := q85
      have f91 := Fr.trans f67 f88 (by decide)
      refine x_const (np := 24) (x := 9223372043297226753) (a := 2147483649) (by decide +kernel) (by decide) (by decide) ?_
      refine x_retI (np := 25) (x := 0) (by decide +kernel) (by decide) (Or.inr ⟨by decide +kernel, by omega, by omega⟩) ⟨_, rfl, (by decide), ?_⟩
      refine x_ifz (k := 1) (tg := 93) (np := 91) (by decide +kernel) (by decide) (by decide) (fun q92 => ?_) (fun q93 => ?_)
      · have q92 : 2147483649 ≠ 2147483648 := q92
        refine x_aload (np := 94) (x := 0) (by decide +kernel) rfl (x_nc_le (by decide)) ?_
        have q94 : h86 61 0 = 1 := by have z := jB (e := 0) 0 j87 rg_61_0_0_1 (by decide) (by decide); omega
        refine x_getR (np := 97) (x := 576) (f := 0) (q := 1) (by decide +kernel) (by decide) (by decide +kernel) q94 ?_
        refine x_const (np := 98) (x := 9223372039002259456) (a := 2147483648) (by decide +kernel) (by decide) (by decide) ?_
        refine x_const (np := 100) (x := 9223372086246899723) (a := 2147483659) (by decide +kernel) (by decide) (by decide) ?_
        refine x_cI (t := 6) (mj := 79) (n := 3) (rc := 8) (ml := 5) (nr := 0) (np := 103) (as := [x_r 1, iv_c 2147483648, iv_c 2147483659]) (rest := []) (lo1 := [x_r 1, iv_c 2147483648, iv_c 2147483659, 147573952589676412928, 147573952589676412928]) (by decide +kernel) (by decide) (by decide +kernel) (x_rb_of (by decide +kernel)) rfl rfl (x_wr (by decide) (x_wi (by decide) (x_wi (by decide) x_wn))) x_wn (by decide) rfl (c79_1_c0 j87   (by omega)) (fun v95 h98 l96 q97 => ?_)
        obtain ⟨j99, f100, b101, c102⟩ := q97
        have f103 := Fr.trans f91 f100 (by decide)
        refine x_istore (np := 104) (x := 2) (lo' := [x_r 61, iv_c v3, iv_c v95]) (by decide +kernel) l96 (Nat.le_of_ble_eq_true rfl) rfl ?_
        refine x_iload (np := 105) (x := 2) (by decide +kernel) rfl l96 ?_
        refine x_const (np := 106) (x := 9223372034707292159) (a := 2147483647) (by decide +kernel) (by decide) (by decide) ?_
        refine x_icmp (k := 0) (tg := 176) (np := 109) (by decide +kernel) (by decide) l96 (by decide) (fun q104 => ?_) (fun q105 => ?_)
        · have q104 : v95 = 2147483647 := q104
          refine x_const (np := 177) (x := 9223372039002259456) (a := 2147483648) (by decide +kernel) (by decide) (by decide) ?_
          refine x_retI (np := 178) (x := 0) (by decide +kernel) (by decide) (Or.inr ⟨by decide +kernel, by omega, by omega⟩) ⟨_, rfl, (by decide), ?_⟩
          exact ⟨j99, f103, (by omega)⟩
        have q105 : ¬ (v95 = 2147483647) := q105
        refine x_aload (np := 110) (x := 0) (by decide +kernel) rfl (x_nc_le (by decide)) ?_
        have q106 : h98 61 0 = 1 := by have z := jB (e := 0) 0 j99 rg_61_0_0_1 (by decide) (by decide); omega
        refine x_getR (np := 113) (x := 576) (f := 0) (q := 1) (by decide +kernel) (by decide) (by decide +kernel) q106 ?_
        refine x_ldcB (i := 11) (idx := 153) (tx := "judged") (by rw [tb_y99]; exact List.mem_of_getElem? (i := 11) rfl) (by decide) (by rw [tb_b99]; decide +kernel) ?_
        refine x_nI (t := 6) (mj := 78) (n := 2) (rc := 8) (ml := 2) (nr := 0) (np := 118) (as := [x_r 1, x_b (11 + 1)]) (rest := []) (lo1 := [x_r 1, x_b (11 + 1)]) (by decide +kernel) (by decide) (by decide +kernel) (x_rb_of (by decide +kernel)) rfl rfl (x_wr (by decide) (x_wB (by decide) x_wn)) x_wn (by decide) rfl ?_
        refine x_aload (np := 1) (x := 0) (by decide +kernel) rfl (x_nc_le (by decide)) ?_
        refine x_aloadB (i := 11) (k4 := 1) rfl (by decide) (by rw [tb_b78]; decide +kernel) ?_
        refine x_cP (t := 6) (mj := 77) (n := 2) (rc := 8) (ml := 4) (nr := 0) (np := 5) (as := [x_r 1, x_b (11 + 1)]) (rest := []) (lo1 := [x_r 1, x_b (11 + 1), 147573952589676412928, 147573952589676412928]) (by decide +kernel) (by decide) (by decide +kernel) (x_rb_of (by decide +kernel)) rfl rfl (x_wr (by decide) (x_wB (by decide) x_wn)) x_wn (by decide) rfl (c77_1_S0 j99  (by decide)) (fun v107 l108 q109 => ?_)
        obtain ⟨b111, c110⟩ := q109
        have b112 := jB (e := 2) 0 j99 rg_1_2_0_1 (by omega) (by omega)
        refine x_ifz (k := 1) (tg := 10) (np := 8) (by decide +kernel) (by decide) l108 (fun q113 => ?_) (fun q114 => ?_)
        · have q113 : v107 ≠ 2147483648 := q113
          have b115 := c110 (by omega)
          refine x_aload (np := 11) (x := 0) (by decide +kernel) rfl (x_nc_le (by decide)) ?_
          refine x_aload (np := 12) (x := 0) (by decide +kernel) rfl (x_nc_le (by decide)) ?_
          refine x_getC (np := 15) (x := 450) (f := 2) (q := (h98 1 2)) (by decide +kernel) (by decide) (by decide +kernel) rfl (fun l116 => ?_)
          refine x_aloadB (i := 11) (k4 := 1) rfl (by decide) (by rw [tb_b78]; decide +kernel) ?_
          have b117 := (iv_tl_lt 11 (by decide)).1
          have b118 := iv_tl_ge 11 (by decide)
          refine x_len (by decide +kernel) (by rw [tb_y78]; exact sl_Tl) (by decide) (by rw [tb_b78]; decide +kernel) (Nat.le_trans (x_wi l116 (x_wr (by decide) x_wn)) (by decide)) ?_
          refine x_iadd (np := 20) (x := 0) (v := ((h98 1 2) + (iv_tl 11))) (by decide +kernel) l116 (by omega) (by omega) (by omega) ?_
          refine x_cV (t := 6) (mj := 80) (n := 2) (rc := 8) (ml := 2) (nr := 0) (np := 23) (as := [x_r 1, iv_c ((h98 1 2) + (iv_tl 11))]) (rest := []) (lo1 := [x_r 1, iv_c ((h98 1 2) + (iv_tl 11))]) (by decide +kernel) (by decide) (by decide +kernel) (x_rb_of (by decide +kernel)) rfl rfl (x_wr (by decide) (x_wi (by omega) x_wn)) x_wn (by decide) rfl (c80_1n j99  (by omega)) (fun h122 q121 => ?_)
          obtain ⟨j123, f124⟩ := q121
          have f127 := Fr.trans f103 f124 (by decide)
          refine x_const (np := 24) (x := 9223372043297226753) (a := 2147483649) (by decide +kernel) (by decide) (by decide) ?_
          refine x_retI (np := 25) (x := 0) (by decide +kernel) (by decide) (Or.inr ⟨by decide +kernel, by omega, by omega⟩) ⟨_, rfl, (by decide), ?_⟩
          refine x_ifz (k := 0) (tg := 176) (np := 121) (by decide +kernel) (by decide) (by decide) (fun q128 => ?_) (fun q129 => ?_)
          · have q128 : 2147483649 = 2147483648 := q128
            exfalso; omega
          have q129 : ¬ (2147483649 = 2147483648) := q129
          refine x_aload (np := 122) (x := 0) (by decide +kernel) rfl (x_nc_le (by decide)) ?_
          refine x_aload (np := 123) (x := 0) (by decide +kernel) rfl (x_nc_le (by decide)) ?_
          have q130 : h122 61 1 = h98 61 1 := f124 61 1 (by decide +kernel)
          have q131 : h98 61 1 = h86 61 1 := f100 61 1 (by decide +kernel)
          have q132 : h86 61 1 = h63 61 1 := f88 61 1 (by decide +kernel)
          have q133 : h63 61 1 = h43 61 1 := f65 61 1 (by decide +kernel)
          have q134 : h43 61 1 = h29 61 1 := f45 61 1 (by decide +kernel)
          have q135 : h29 61 1 = h6 61 1 := f31 61 1 (by decide +kernel)
          have q136 : h6 61 1 = h 61 1 := f8 61 1 (by decide +kernel)
          refine x_getR (np := 126) (x := 577) (f := 1) (q := (h 61 1)) (by decide +kernel) (by decide) (by decide +kernel) ((((((q130.trans q131).trans q132).trans q133).trans q134).trans q135).trans q136) ?_
          have q137 : h122 (h 61 1) 2 = ((h 61 1) + 5) := tf_0_2 j123 t1
          refine x_getR (np := 129) (x := 514) (f := 2) (q := ((h 61 1) + 5)) (by decide +kernel) (by decide) (tg_0_514_2_1 t1) q137 ?_
          refine x_iload (np := 130) (x := 1) (by decide +kernel) rfl l4 ?_
          refine x_const (np := 131) (x := 9223372047592194050) (a := 2147483650) (by decide +kernel) (by decide) (by decide) ?_
          refine x_iload (np := 132) (x := 2) (by decide +kernel) rfl l96 ?_
          refine x_const (np := 134) (x := 9223372086246899723) (a := 2147483659) (by decide +kernel) (by decide) (by decide) ?_
          refine x_cI (t := 6) (mj := 102) (n := 6) (rc := 10) (ml := 7) (nr := 0) (np := 137) (as := [x_r 61, x_r ((h 61 1) + 5), iv_c v3, iv_c 2147483650, iv_c v95, iv_c 2147483659]) (rest := []) (lo1 := [x_r 61, x_r ((h 61 1) + 5), iv_c v3, iv_c 2147483650, iv_c v95, iv_c 2147483659, 147573952589676412928]) (by decide +kernel) (by decide) (by decide +kernel) (x_rb_of (by decide +kernel)) rfl rfl (x_wr (by decide) (x_wr (tn_5 t1) (x_wi l4 (x_wi (by decide) (x_wi l96 (x_wi (by decide) x_wn)))))) x_wn (by decide) rfl (c102_61_T5_c2 j123  t1 (by omega)  (by omega) (by omega)) (fun v138 h141 l139 q140 => ?_)
          obtain ⟨j142, f143, b144⟩ := q140
          have f145 := Fr.trans f127 f143 (by decide)
          refine x_ifz (k := 0) (tg := 176) (np := 140) (by decide +kernel) (by decide) l139 (fun q146 => ?_) (fun q147 => ?_)
          · have q146 : v138 = 2147483648 := q146
            refine x_const (np := 177) (x := 9223372039002259456) (a := 2147483648) (by decide +kernel) (by decide) (by decide) ?_
            refine x_retI (np := 178) (x := 0) (by decide +kernel) (by decide) (Or.inr ⟨by decide +kernel, by omega, by omega⟩) ⟨_, rfl, (by decide), ?_⟩
            exact ⟨j142, f145, (by omega)⟩
          have q147 : ¬ (v138 = 2147483648) := q147
          refine x_aload (np := 141) (x := 0) (by decide +kernel) rfl (x_nc_le (by decide)) ?_
          have q148 : h141 61 0 = 1 := by have z := jB (e := 0) 0 j142 rg_61_0_0_1 (by decide) (by decide); omega
          refine x_getR (np := 144) (x := 576) (f := 0) (q := 1) (by decide +kernel) (by decide) (by decide +kernel) q148 ?_
          refine x_ldcB (i := 12) (idx := 155) (tx := "of") (by rw [tb_y99]; exact List.mem_of_getElem? (i := 12) rfl) (by decide) (by rw [tb_b99]; decide +kernel) ?_
          refine x_nI (t := 6) (mj := 78) (n := 2) (rc := 8) (ml := 2) (nr := 0) (np := 149) (as := [x_r 1, x_b (12 + 1)]) (rest := []) (lo1 := [x_r 1, x_b (12 + 1)]) (by decide +kernel) (by decide) (by decide +kernel) (x_rb_of (by decide +kernel)) rfl rfl (x_wr (by decide) (x_wB (by decide) x_wn)) x_wn (by decide) rfl ?_
          refine x_aload (np := 1) (x := 0) (by decide +kernel) rfl (x_nc_le (by decide)) ?_
          refine x_aloadB (i := 12) (k4 := 1) rfl (by decide) (by rw [tb_b78]; decide +kernel) ?_
          refine x_cP (t := 6) (mj := 77) (n := 2) (rc := 8) (ml := 4) (nr := 0) (np := 5) (as := [x_r 1, x_b (12 + 1)]) (rest := []) (lo1 := [x_r 1, x_b (12 + 1), 147573952589676412928, 147573952589676412928]) (by decide +kernel) (by decide) (by decide +kernel) (x_rb_of (by decide +kernel)) rfl rfl (x_wr (by decide) (x_wB (by decide) x_wn)) x_wn (by decide) rfl (c77_1_S0 j142  (by decide)) (fun v149 l150 q151 => ?_)
          obtain ⟨b153, c152⟩ := q151
          have b154 := jB (e := 2) 0 j142 rg_1_2_0_1 (by omega) (by omega)
          refine x_ifz (k := 1) (tg := 10) (np := 8) (by decide +kernel) (by decide) l150 (fun q155 => ?_) (fun q156 => ?_)
          · have q155 : v149 ≠ 2147483648 := q155
            have b157 := c152 (by omega)
            refine x_aload (np := 11) (x := 0) (by decide +kernel) rfl (x_nc_le (by decide)) ?_
            refine x_aload (np := 12) (x := 0) (by decide +kernel) rfl (x_nc_le (by decide)) ?_
            refine x_getC (np := 15) (x := 450) (f := 2) (q := (h141 1 2)) (by decide +kernel) (by decide) (by decide +kernel) rfl (fun l158 => ?_)
            refine x_aloadB (i := 12) (k4 := 1) rfl (by decide) (by rw [tb_b78]; decide +kernel) ?_
            have b159 := (iv_tl_lt 12 (by decide)).1
            have b160 := iv_tl_ge 12 (by decide)
            refine x_len (by decide +kernel) (by rw [tb_y78]; exact sl_Tl) (by decide) (by rw [tb_b78]; decide +kernel) (Nat.le_trans (x_wi l158 (x_wr (by decide) x_wn)) (by decide)) ?_
            refine x_iadd (np := 20) (x := 0) (v := ((h141 1 2) + (iv_tl 12))) (by decide +kernel) l158 (by omega) (by omega) (by omega) ?_
            refine x_cV (t := 6) (mj := 80) (n := 2) (rc := 8) (ml := 2) (nr := 0) (np := 23) (as := [x_r 1, iv_c ((h141 1 2) + (iv_tl 12))]) (rest := []) (lo1 := [x_r 1, iv_c ((h141 1 2) + (iv_tl 12))]) (by decide +kernel) (by decide) (by decide +kernel) (x_rb_of (by decide +kernel)) rfl rfl (x_wr (by decide) (x_wi (by omega) x_wn)) x_wn (by decide) rfl (c80_1n j142  (by omega)) (fun h164 q163 => ?_)
            obtain ⟨j165, f166⟩ := q163
            have f169 := Fr.trans f145 f166 (by decide)
            refine x_const (np := 24) (x := 9223372043297226753) (a := 2147483649) (by decide +kernel) (by decide) (by decide) ?_
            refine x_retI (np := 25) (x := 0) (by decide +kernel) (by decide) (Or.inr ⟨by decide +kernel, by omega, by omega⟩) ⟨_, rfl, (by decide), ?_⟩
            refine x_ifz (k := 0) (tg := 176) (np := 152) (by decide +kernel) (by decide) (by decide) (fun q170 => ?_) (fun q171 => ?_)
            · have q170 : 2147483649 = 2147483648 := q170
              exfalso; omega
            have q171 : ¬ (2147483649 = 2147483648) := q171
            refine x_aload (np := 153) (x := 0) (by decide +kernel) rfl (x_nc_le (by decide)) ?_
            refine x_aload (np := 154) (x := 0) (by decide +kernel) rfl (x_nc_le (by decide)) ?_
            have q172 : h164 61 1 = h141 61 1 := f166 61 1 (by decide +kernel)
            have q173 : h141 61 1 = h122 61 1 := f143 61 1 (by decide +kernel)
            have q174 : h122 61 1 = h98 61 1 := f124 61 1 (by decide +kernel)
            have q175 : h98 61 1 = h86 61 1 := f100 61 1 (by decide +kernel)
            have q176 : h86 61 1 = h63 61 1 := f88 61 1 (by decide +kernel)
            have q177 : h63 61 1 = h43 61 1 := f65 61 1 (by decide +kernel)
            have q178 : h43 61 1 = h29 61 1 := f45 61 1 (by decide +kernel)
            have q179 : h29 61 1 = h6 61 1 := f31 61 1 (by decide +kernel)
            have q180 : h6 61 1 = h 61 1 := f8 61 1 (by decide +kernel)
            refine x_getR (np := 157) (x := 577) (f := 1) (q := (h 61 1)) (by decide +kernel) (by decide) (by decide +kernel) ((((((((q172.trans q173).trans q174).trans q175).trans q176).trans q177).trans q178).trans q179).trans q180) ?_
            have q181 : h164 (h 61 1) 2 = ((h 61 1) + 5) := tf_0_2 j165 t1
            refine x_getR (np := 160) (x := 514) (f := 2) (q := ((h 61 1) + 5)) (by decide +kernel) (by decide) (tg_0_514_2_1 t1) q181 ?_
            refine x_iload (np := 161) (x := 1) (by decide +kernel) rfl l4 ?_
            refine x_const (np := 162) (x := 9223372051887161347) (a := 2147483651) (by decide +kernel) (by decide) (by decide) ?_
            refine x_const (np := 163) (x := 9223372039002259456) (a := 2147483648) (by decide +kernel) (by decide) (by decide) ?_
            refine x_const (np := 166) (x := 9223376329674589159) (a := 2147484647) (by decide +kernel) (by decide) (by decide) ?_
            refine x_cI (t := 6) (mj := 102) (n := 6) (rc := 10) (ml := 7) (nr := 0) (np := 169) (as := [x_r 61, x_r ((h 61 1) + 5), iv_c v3, iv_c 2147483651, iv_c 2147483648, iv_c 2147484647]) (rest := []) (lo1 := [x_r 61, x_r ((h 61 1) + 5), iv_c v3, iv_c 2147483651, iv_c 2147483648, iv_c 2147484647, 147573952589676412928]) (by decide +kernel) (by decide) (by decide +kernel) (x_rb_of (by decide +kernel)) rfl rfl (x_wr (by decide) (x_wr (tn_5 t1) (x_wi l4 (x_wi (by decide) (x_wi (by decide) (x_wi (by decide) x_wn)))))) x_wn (by decide) rfl (c102_61_T5_c3_c0 j165  t1 (by omega)   (by omega)) (fun v182 h185 l183 q184 => ?_)
            obtain ⟨j186, f187, b188⟩ := q184
            have f189 := Fr.trans f169 f187 (by decide)
            refine x_ifz (k := 0) (tg := 176) (np := 172) (by decide +kernel) (by decide) l183 (fun q190 => ?_) (fun q191 => ?_)
            · have q190 : v182 = 2147483648 := q190
              refine x_const (np := 177) (x := 9223372039002259456) (a := 2147483648) (by decide +kernel) (by decide) (by decide) ?_
              refine x_retI (np := 178) (x := 0) (by decide +kernel) (by decide) (Or.inr ⟨by decide +kernel, by omega, by omega⟩) ⟨_, rfl, (by decide), ?_⟩
              exact ⟨j186, f189, (by omega)⟩
            have q191 : ¬ (v182 = 2147483648) := q191
            refine x_const (np := 173) (x := 9223372043297226753) (a := 2147483649) (by decide +kernel) (by decide) (by decide) ?_
            refine x_goto (np := 176) (x := 177) (by decide +kernel) ?_
            refine x_retI (np := 178) (x := 0) (by decide +kernel) (by decide) (Or.inr ⟨by decide +kernel, by omega, by omega⟩) ⟨_, rfl, (by decide), ?_⟩
            exact ⟨j186, f189, (by omega)⟩
          have q156 : ¬ (v149 ≠ 2147483648) := q156
          refine x_const (np := 9) (x := 9223372039002259456) (a := 2147483648) (by decide +kernel) (by decide) (by decide) ?_
          refine x_retI (np := 10) (x := 0) (by decide +kernel) (by decide) (Or.inr ⟨by decide +kernel, by omega, by omega⟩) ⟨_, rfl, (by decide), ?_⟩
          refine x_ifz (k := 0) (tg := 176) (np := 152) (by decide +kernel) (by decide) (by decide) (fun q192 => ?_) (fun q193 => ?_)
          · have q192 : 2147483648 = 2147483648 := q192
            refine x_const (np := 177) (x := 9223372039002259456) (a := 2147483648) (by decide +kernel) (by decide) (by decide) ?_
            refine x_retI (np := 178) (x := 0) (by decide +kernel) (by decide) (Or.inr ⟨by decide +kernel, by omega, by omega⟩) ⟨_, rfl, (by decide), ?_⟩
            exact ⟨j142, f145, (by omega)⟩
          have q193 : ¬ (2147483648 = 2147483648) := q193
          exfalso; omega
        have q114 : ¬ (v107 ≠ 2147483648) := q114
        refine x_const (np := 9) (x := 9223372039002259456) (a := 2147483648) (by decide +kernel) (by decide) (by decide) ?_
        refine x_retI (np := 10) (x := 0) (by decide +kernel) (by decide) (Or.inr ⟨by decide +kernel, by omega, by omega⟩) ⟨_, rfl, (by decide), ?_⟩
        refine x_ifz (k := 0) (tg := 176) (np := 121) (by decide +kernel) (by decide) (by decide) (fun q194 => ?_) (fun q195 => ?_)
        · have q194 : 2147483648 = 2147483648 := q194
          refine x_const (np := 177) (x := 9223372039002259456) (a := 2147483648) (by decide +kernel) (by decide) (by decide) ?_
          refine x_retI (np := 178) (x := 0) (by decide +kernel) (by decide) (Or.inr ⟨by decide +kernel, by omega, by omega⟩) ⟨_, rfl, (by decide), ?_⟩
          exact ⟨j99, f103, (by omega)⟩
        have q195 : ¬ (2147483648 = 2147483648) := q195
        exfalso; omega
      have q93 : ¬ (2147483649 ≠ 2147483648) := q93
      exfalso; omega
    have q78 : ¬ (v71 ≠ 2147483648) := q78
    refine x_const (np := 9) (x := 9223372039002259456) (a := 2147483648) (by decide +kernel) (by decide) (by decide) ?_
    refine x_retI (np := 10) (x := 0) (by decide +kernel) (by decide) (Or.inr ⟨by decide +kernel, by omega, by omega⟩) ⟨_, rfl, (by decide), ?_⟩
    refine x_ifz (k := 1) (tg := 93) (np := 91) (by decide +kernel) (by decide) (by decide) (fun q196 => ?_) (fun q197 => ?_)
    · have q196 : 2147483648 ≠ 2147483648 := q196
      exfalso; omega
    have q197 : ¬ (2147483648 ≠ 2147483648) := q197
    refine x_const (np := 92) (x := 9223372039002259456) (a := 2147483648) (by decide +kernel) (by decide) (by decide) ?_
    refine x_retI (np := 93) (x := 0) (by decide +kernel) (by decide) (Or.inr ⟨by decide +kernel, by omega, by omega⟩) ⟨_, rfl, (by decide), ?_⟩
    exact ⟨j64, f67, (by omega)⟩
  have q20 : ¬ (v12 ≠ 2147483648) := q20
  refine x_const (np := 9) (x := 9223372039002259456) (a := 2147483648) (by decide +kernel) (by decide) (by decide) ?_
  refine x_retI (np := 10) (x := 0) (by decide +kernel) (by decide) (Or.inr ⟨by decide +kernel, by omega, by omega⟩) ⟨_, rfl, (by decide), ?_⟩
  refine x_ifz (k := 0) (tg := 39) (np := 23) (by decide +kernel) (by decide) (by decide) (fun q198 => ?_) (fun q199 => ?_)
  · have q198 : 2147483648 = 2147483648 := q198
    refine x_aload (np := 40) (x := 0) (by decide +kernel) rfl (x_nc_le (by decide)) ?_
    have q200 : h6 61 0 = 1 := by have z := jB (e := 0) 0 j7 rg_61_0_0_1 (by decide) (by decide); omega
    refine x_getR (np := 43) (x := 576) (f := 0) (q := 1) (by decide +kernel) (by decide) (by decide +kernel) q200 ?_
    refine x_ldcB (i := 10) (idx := 151) (tx := "name") (by rw [tb_y99]; exact List.mem_of_getElem? (i := 10) rfl) (by decide) (by rw [tb_b99]; decide +kernel) ?_
    refine x_nI (t := 6) (mj := 78) (n := 2) (rc := 8) (ml := 2) (nr := 0) (np := 48) (as := [x_r 1, x_b (10 + 1)]) (rest := []) (lo1 := [x_r 1, x_b (10 + 1)]) (by decide +kernel) (by decide) (by decide +kernel) (x_rb_of (by decide +kernel)) rfl rfl (x_wr (by decide) (x_wB (by decide) x_wn)) x_wn (by decide) rfl ?_
    refine x_aload (np := 1) (x := 0) (by decide +kernel) rfl (x_nc_le (by decide)) ?_
    refine x_aloadB (i := 10) (k4 := 1) rfl (by decide) (by rw [tb_b78]; decide +kernel) ?_
    refine x_cP (t := 6) (mj := 77) (n := 2) (rc := 8) (ml := 4) (nr := 0) (np := 5) (as := [x_r 1, x_b (10 + 1)]) (rest := []) (lo1 := [x_r 1, x_b (10 + 1), 147573952589676412928, 147573952589676412928]) (by decide +kernel) (by decide) (by decide +kernel) (x_rb_of (by decide +kernel)) rfl rfl (x_wr (by decide) (x_wB (by decide) x_wn)) x_wn (by decide) rfl (c77_1_S0 j7  (by decide)) (fun v201 l202 q203 => ?_)
    obtain ⟨b205, c204⟩ := q203
    have q206 : h6 1 2 = h 1 2 := jK 0 f8 rg_1_2_0_1 (by omega) (by omega) (by decide)
    refine x_ifz (k := 1) (tg := 10) (np := 8) (by decide +kernel) (by decide) l202 (fun q207 => ?_) (fun q208 => ?_)
    · have q207 : v201 ≠ 2147483648 := q207
      have b209 := c204 (by omega)
      refine x_aload (np := 11) (x := 0) (by decide +kernel) rfl (x_nc_le (by decide)) ?_
      refine x_aload (np := 12) (x := 0) (by decide +kernel) rfl (x_nc_le (by decide)) ?_
      have q210 : h6 1 2 = h 1 2 := jK 0 f8 rg_1_2_0_1 (by omega) (by omega) (by decide)
      refine x_getC (np := 15) (x := 450) (f := 2) (q := (h 1 2)) (by decide +kernel) (by decide) (by decide +kernel) q210 (fun l211 => ?_)
      refine x_aloadB (i := 10) (k4 := 1) rfl (by decide) (by rw [tb_b78]; decide +kernel) ?_
      have b212 := (iv_tl_lt 10 (by decide)).1
      have b213 := iv_tl_ge 10 (by decide)
      refine x_len (by decide +kernel) (by rw [tb_y78]; exact sl_Tl) (by decide) (by rw [tb_b78]; decide +kernel) (Nat.le_trans (x_wi l211 (x_wr (by decide) x_wn)) (by decide)) ?_
      refine x_iadd (np := 20) (x := 0) (v := ((h 1 2) + (iv_tl 10))) (by decide +kernel) l211 (by omega) (by omega) (by omega) ?_
      refine x_cV (t := 6) (mj := 80) (n := 2) (rc := 8) (ml := 2) (nr := 0) (np := 23) (as := [x_r 1, iv_c ((h 1 2) + (iv_tl 10))]) (rest := []) (lo1 := [x_r 1, iv_c ((h 1 2) + (iv_tl 10))]) (by decide +kernel) (by decide) (by decide +kernel) (x_rb_of (by decide +kernel)) rfl rfl (x_wr (by decide) (x_wi (by omega) x_wn)) x_wn (by decide) rfl (c80_1n j7  (by omega)) (fun h217 q216 => ?_)
      obtain ⟨j218, f219⟩ := q216
      have f222 := Fr.trans f10 f219 (by decide)
      refine x_const (np := 24) (x := 9223372043297226753) (a := 2147483649) (by decide +kernel) (by decide) (by decide) ?_
      refine x_retI (np := 25) (x := 0) (by decide +kernel) (by decide) (Or.inr ⟨by decide +kernel, by omega, by omega⟩) ⟨_, rfl, (by decide), ?_⟩
      refine x_ifz (k := 1) (tg := 53) (np := 51) (by decide +kernel) (by decide) (by decide) (fun q223 => ?_) (fun q224 => ?_)
      · have q223 : 2147483649 ≠ 2147483648 := q223
        refine x_aload (np := 54) (x := 0) (by decide +kernel) rfl (x_nc_le (by decide)) ?_
        refine x_aload (np := 55) (x := 0) (by decide +kernel) rfl (x_nc_le (by decide)) ?_
        have q225 : h217 61 1 = h6 61 1 := f219 61 1 (by decide +kernel)
        have q226 : h6 61 1 = h 61 1 := f8 61 1 (by decide +kernel)
        refine x_getR (np := 58) (x := 577) (f := 1) (q := (h 61 1)) (by decide +kernel) (by decide) (by decide +kernel) (q225.trans q226) ?_
        have q227 : h217 (h 61 1) 2 = ((h 61 1) + 5) := tf_0_2 j218 t1
        refine x_getR (np := 61) (x := 514) (f := 2) (q := ((h 61 1) + 5)) (by decide +kernel) (by decide) (tg_0_514_2_1 t1) q227 ?_
        refine x_iload (np := 62) (x := 1) (by decide +kernel) rfl l4 ?_
        refine x_const (np := 63) (x := 9223372043297226753) (a := 2147483649) (by decide +kernel) (by decide) (by decide) ?_
        refine x_const (np := 64) (x := 9223372039002259456) (a := 2147483648) (by decide +kernel) (by decide) (by decide) ?_
        refine x_aload (np := 65) (x := 0) (by decide +kernel) rfl (x_nc_le (by decide)) ?_
        have q228 : h217 61 1 = h6 61 1 := f219 61 1 (by decide +kernel)
        have q229 : h6 61 1 = h 61 1 := f8 61 1 (by decide +kernel)
        refine x_getR (np := 68) (x := 577) (f := 1) (q := (h 61 1)) (by decide +kernel) (by decide) (by decide +kernel) (q228.trans q229) ?_
        have q230 : h217 (h 61 1) 7 = h6 (h 61 1) 7 := jK 0 f219 (rg_T0_7_0_1 t1) (by omega) (by omega) (by decide)
        have b231 := jB (e := 7) 0 j7 (rg_T0_7_0_1 t1) (by omega) (by omega)
        refine x_getC (np := 71) (x := 519) (f := 7) (q := (h6 (h 61 1) 7)) (by decide +kernel) (by decide) (tg_0_519_7_0 t1) q230 (fun l232 => ?_)
        refine x_const (np := 72) (x := 9223372043297226753) (a := 2147483649) (by decide +kernel) (by decide) (by decide) ?_
        obtain ⟨v233, q234⟩ : ∃ z, z + 2147483649 = (h6 (h 61 1) 7) + 2147483648 := ⟨(h6 (h 61 1) 7) + 2147483648 - 2147483649, by omega⟩
        refine x_isub (np := 73) (x := 0) (v := v233) (by decide +kernel) l232 (by decide) (by omega) (by omega) ?_
        refine x_cI (t := 6) (mj := 102) (n := 6) (rc := 10) (ml := 7) (nr := 0) (np := 76) (as := [x_r 61, x_r ((h 61 1) + 5), iv_c v3, iv_c 2147483649, iv_c 2147483648, iv_c v233]) (rest := []) (lo1 := [x_r 61, x_r ((h 61 1) + 5), iv_c v3, iv_c 2147483649, iv_c 2147483648, iv_c v233, 147573952589676412928]) (by decide +kernel) (by decide) (by decide +kernel) (x_rb_of (by decide +kernel)) rfl rfl (x_wr (by decide) (x_wr (tn_5 t1) (x_wi l4 (x_wi (by decide) (x_wi (by decide) (x_wi (by omega) x_wn)))))) x_wn (by decide) rfl (c102_61_T5_c1_c0 j218  t1 (by omega)   (by omega)) (fun v235 h238 l236 q237 => ?_)
        obtain ⟨j239, f240, b241⟩ := q237
        have f242 := Fr.trans f222 f240 (by decide)
        refine x_ifz (k := 0) (tg := 91) (np := 79) (by decide +kernel) (by decide) l236 (fun q243 => ?_) (fun q244 => ?_)
        · have q243 : v235 = 2147483648 := q243
          refine x_const (np := 92) (x := 9223372039002259456) (a := 2147483648) (by decide +kernel) (by decide) (by decide) ?_
          refine x_retI (np := 93) (x := 0) (by decide +kernel) (by decide) (Or.inr ⟨by decide +kernel, by omega, by omega⟩) ⟨_, rfl, (by decide), ?_⟩
          exact ⟨j239, f242, (by omega)⟩
        have q244 : ¬ (v235 = 2147483648) := q244
        refine x_aload (np := 80) (x := 0) (by decide +kernel) rfl (x_nc_le (by decide)) ?_
        have q245 : h238 61 0 = 1 := by have z := jB (e := 0) 0 j239 rg_61_0_0_1 (by decide) (by decide); omega
        refine x_getR (np := 83) (x := 576) (f := 0) (q := 1) (by decide +kernel) (by decide) (by decide +kernel) q245 ?_
        refine x_ldcB (i := 2) (idx := 111) (tx := "day") (by rw [tb_y99]; exact List.mem_of_getElem? (i := 2) rfl) (by decide) (by rw [tb_b99]; decide +kernel) ?_
        refine x_nI (t := 6) (mj := 78) (n := 2) (rc := 8) (ml := 2) (nr := 0) (np := 88) (as := [x_r 1, x_b (2 + 1)]) (rest := []) (lo1 := [x_r 1, x_b (2 + 1)]) (by decide +kernel) (by decide) (by decide +kernel) (x_rb_of (by decide +kernel)) rfl rfl (x_wr (by decide) (x_wB (by decide) x_wn)) x_wn (by decide) rfl ?_
        refine x_aload (np := 1) (x := 0) (by decide +kernel) rfl (x_nc_le (by decide)) ?_
        refine x_aloadB (i := 2) (k4 := 1) rfl (by decide) (by rw [tb_b78]; decide +kernel) ?_
        refine x_cP (t := 6) (mj := 77) (n := 2) (rc := 8) (ml := 4) (nr := 0) (np := 5) (as := [x_r 1, x_b (2 + 1)]) (rest := []) (lo1 := [x_r 1, x_b (2 + 1), 147573952589676412928, 147573952589676412928]) (by decide +kernel) (by decide) (by decide +kernel) (x_rb_of (by decide +kernel)) rfl rfl (x_wr (by decide) (x_wB (by decide) x_wn)) x_wn (by decide) rfl (c77_1_S0 j239  (by decide)) (fun v246 l247 q248 => ?_)
        obtain ⟨b250, c249⟩ := q248
        have b251 := jB (e := 2) 0 j239 rg_1_2_0_1 (by omega) (by omega)
        refine x_ifz (k := 1) (tg := 10) (np := 8) (by decide +kernel) (by decide) l247 (fun q252 => ?_) (fun q253 => ?_)
        · have q252 : v246 ≠ 2147483648 := q252
          have b254 := c249 (by omega)
          refine x_aload (np := 11) (x := 0) (by decide +kernel) rfl (x_nc_le (by decide)) ?_
          refine x_aload (np := 12) (x := 0) (by decide +kernel) rfl (x_nc_le (by decide)) ?_
          refine x_getC (np := 15) (x := 450) (f := 2) (q := (h238 1 2)) (by decide +kernel) (by decide) (by decide +kernel) rfl (fun l255 => ?_)
          refine x_aloadB (i := 2) (k4 := 1) rfl (by decide) (by rw [tb_b78]; decide +kernel) ?_
          have b256 := (iv_tl_lt 2 (by decide)).1
          have b257 := iv_tl_ge 2 (by decide)
          refine x_len (by decide +kernel) (by rw [tb_y78]; exact sl_Tl) (by decide) (by rw [tb_b78]; decide +kernel) (Nat.le_trans (x_wi l255 (x_wr (by decide) x_wn)) (by decide)) ?_
          refine x_iadd (np := 20) (x := 0) (v := ((h238 1 2) + (iv_tl 2))) (by decide +kernel) l255 (by omega) (by omega) (by omega) ?_
          refine x_cV (t := 6) (mj := 80) (n := 2) (rc := 8) (ml := 2) (nr := 0) (np := 23) (as := [x_r 1, iv_c ((h238 1 2) + (iv_tl 2))]) (rest := []) (lo1 := [x_r 1, iv_c ((h238 1 2) + (iv_tl 2))]) (by decide +kernel) (by decide) (by decide +kernel) (x_rb_of (by decide +kernel)) rfl rfl (x_wr (by decide) (x_wi (by omega) x_wn)) x_wn (by decide) rfl (c80_1n j239  (by omega)) (fun h261 q260 => ?_)
          obtain ⟨j262, f263⟩ := q260
          have f266 := Fr.trans f242 f263 (by decide)
          refine x_const (np := 24) (x := 9223372043297226753) (a := 2147483649) (by decide +kernel) (by decide) (by decide) ?_
          refine x_retI (np := 25) (x := 0) (by decide +kernel) (by decide) (Or.inr ⟨by decide +kernel, by omega, by omega⟩) ⟨_, rfl, (by decide), ?_⟩
          refine x_ifz (k := 1) (tg := 93) (np := 91) (by decide +kernel) (by decide) (by decide) (fun q267 => ?_) (fun q268 => ?_)
          · have q267 : 2147483649 ≠ 2147483648 := q267
            refine x_aload (np := 94) (x := 0) (by decide +kernel) rfl (x_nc_le (by decide)) ?_
            have q269 : h261 61 0 = 1 := by have z := jB (e := 0) 0 j262 rg_61_0_0_1 (by decide) (by decide); omega
            refine x_getR (np := 97) (x := 576) (f := 0) (q := 1) (by decide +kernel) (by decide) (by decide +kernel) q269 ?_
            refine x_const (np := 98) (x := 9223372039002259456) (a := 2147483648) (by decide +kernel) (by decide) (by decide) ?_
            refine x_const (np := 100) (x := 9223372086246899723) (a := 2147483659) (by decide +kernel) (by decide) (by decide) ?_
            refine x_cI (t := 6) (mj := 79) (n := 3) (rc := 8) (ml := 5) (nr := 0) (np := 103) (as := [x_r 1, iv_c 2147483648, iv_c 2147483659]) (rest := []) (lo1 := [x_r 1, iv_c 2147483648, iv_c 2147483659, 147573952589676412928, 147573952589676412928]) (by decide +kernel) (by decide) (by decide +kernel) (x_rb_of (by decide +kernel)) rfl rfl (x_wr (by decide) (x_wi (by decide) (x_wi (by decide) x_wn))) x_wn (by decide) rfl (c79_1_c0 j262   (by omega)) (fun v270 h273 l271 q272 => ?_)
            obtain ⟨j274, f275, b276, c277⟩ := q272
            have f278 := Fr.trans f266 f275 (by decide)
            refine x_istore (np := 104) (x := 2) (lo' := [x_r 61, iv_c v3, iv_c v270]) (by decide +kernel) l271 (Nat.le_of_ble_eq_true rfl) rfl ?_
            refine x_iload (np := 105) (x := 2) (by decide +kernel) rfl l271 ?_
            refine x_const (np := 106) (x := 9223372034707292159) (a := 2147483647) (by decide +kernel) (by decide) (by decide) ?_
            refine x_icmp (k := 0) (tg := 176) (np := 109) (by decide +kernel) (by decide) l271 (by decide) (fun q279 => ?_) (fun q280 => ?_)
            · have q279 : v270 = 2147483647 := q279
              refine x_const (np := 177) (x := 9223372039002259456) (a := 2147483648) (by decide +kernel) (by decide) (by decide) ?_
              refine x_retI (np := 178) (x := 0) (by decide +kernel) (by decide) (Or.inr ⟨by decide +kernel, by omega, by omega⟩) ⟨_, rfl, (by decide), ?_⟩
              exact ⟨j274, f278, (by omega)⟩
            have q280 : ¬ (v270 = 2147483647) := q280
            refine x_aload (np := 110) (x := 0) (by decide +kernel) rfl (x_nc_le (by decide)) ?_
            have q281 : h273 61 0 = 1 := by have z := jB (e := 0) 0 j274 rg_61_0_0_1 (by decide) (by decide); omega
            refine x_getR (np := 113) (x := 576) (f := 0) (q := 1) (by decide +kernel) (by decide) (by decide +kernel) q281 ?_
            refine x_ldcB (i := 11) (idx := 153) (tx := "judged") (by rw [tb_y99]; exact List.mem_of_getElem? (i := 11) rfl) (by decide) (by rw [tb_b99]; decide +kernel) ?_
            refine x_nI (t := 6) (mj := 78) (n := 2) (rc := 8) (ml := 2) (nr := 0) (np := 118) (as := [x_r 1, x_b (11 + 1)]) (rest := []) (lo1 := [x_r 1, x_b (11 + 1)]) (by decide +kernel) (by decide) (by decide +kernel) (x_rb_of (by decide +kernel)) rfl rfl (x_wr (by decide) (x_wB (by decide) x_wn)) x_wn (by decide) rfl ?_
            refine x_aload (np := 1) (x := 0) (by decide +kernel) rfl (x_nc_le (by decide)) ?_
            refine x_aloadB (i := 11) (k4 := 1) rfl (by decide) (by rw [tb_b78]; decide +kernel) ?_
            refine x_cP (t := 6) (mj := 77) (n := 2) (rc := 8) (ml := 4) (nr := 0) (np := 5) (as := [x_r 1, x_b (11 + 1)]) (rest := []) (lo1 := [x_r 1, x_b (11 + 1), 147573952589676412928, 147573952589676412928]) (by decide +kernel) (by decide) (by decide +kernel) (x_rb_of (by decide +kernel)) rfl rfl (x_wr (by decide) (x_wB (by decide) x_wn)) x_wn (by decide) rfl (c77_1_S0 j274  (by decide)) (fun v282 l283 q284 => ?_)
            obtain ⟨b286, c285⟩ := q284
            have b287 := jB (e := 2) 0 j274 rg_1_2_0_1 (by omega) (by omega)
            refine x_ifz (k := 1) (tg := 10) (np := 8) (by decide +kernel) (by decide) l283 (fun q288 => ?_) (fun q289 => ?_)
            · have q288 : v282 ≠ 2147483648 := q288
              have b290 := c285 (by omega)
              refine x_aload (np := 11) (x := 0) (by decide +kernel) rfl (x_nc_le (by decide)) ?_
              refine x_aload (np := 12) (x := 0) (by decide +kernel) rfl (x_nc_le (by decide)) ?_
              refine x_getC (np := 15) (x := 450) (f := 2) (q := (h273 1 2)) (by decide +kernel) (by decide) (by decide +kernel) rfl (fun l291 => ?_)
              refine x_aloadB (i := 11) (k4 := 1) rfl (by decide) (by rw [tb_b78]; decide +kernel) ?_
              have b292 := (iv_tl_lt 11 (by decide)).1
              have b293 := iv_tl_ge 11 (by decide)
              refine x_len (by decide +kernel) (by rw [tb_y78]; exact sl_Tl) (by decide) (by rw [tb_b78]; decide +kernel) (Nat.le_trans (x_wi l291 (x_wr (by decide) x_wn)) (by decide)) ?_
              refine x_iadd (np := 20) (x := 0) (v := ((h273 1 2) + (iv_tl 11))) (by decide +kernel) l291 (by omega) (by omega) (by omega) ?_
              refine x_cV (t := 6) (mj := 80) (n := 2) (rc := 8) (ml := 2) (nr := 0) (np := 23) (as := [x_r 1, iv_c ((h273 1 2) + (iv_tl 11))]) (rest := []) (lo1 := [x_r 1, iv_c ((h273 1 2) + (iv_tl 11))]) (by decide +kernel) (by decide) (by decide +kernel) (x_rb_of (by decide +kernel)) rfl rfl (x_wr (by decide) (x_wi (by omega) x_wn)) x_wn (by decide) rfl (c80_1n j274  (by omega)) (fun h297 q296 => ?_)
              obtain ⟨j298, f299⟩ := q296
              have f302 := Fr.trans f278 f299 (by decide)
              refine x_const (np := 24) (x := 9223372043297226753) (a := 2147483649) (by decide +kernel) (by decide) (by decide) ?_
              refine x_retI (np := 25) (x := 0) (by decide +kernel) (by decide) (Or.inr ⟨by decide +kernel, by omega, by omega⟩) ⟨_, rfl, (by decide), ?_⟩
              refine x_ifz (k := 0) (tg := 176) (np := 121) (by decide +kernel) (by decide) (by decide) (fun q303 => ?_) (fun q304 => ?_)
              · have q303 : 2147483649 = 2147483648 := q303
                exfalso; omega
              have q304 : ¬ (2147483649 = 2147483648) := q304
              refine x_aload (np := 122) (x := 0) (by decide +kernel) rfl (x_nc_le (by decide)) ?_
              refine x_aload (np := 123) (x := 0) (by decide +kernel) rfl (x_nc_le (by decide)) ?_
              have q305 : h297 61 1 = h273 61 1 := f299 61 1 (by decide +kernel)
              have q306 : h273 61 1 = h261 61 1 := f275 61 1 (by decide +kernel)
              have q307 : h261 61 1 = h238 61 1 := f263 61 1 (by decide +kernel)
              have q308 : h238 61 1 = h217 61 1 := f240 61 1 (by decide +kernel)
              have q309 : h217 61 1 = h6 61 1 := f219 61 1 (by decide +kernel)
              have q310 : h6 61 1 = h 61 1 := f8 61 1 (by decide +kernel)
              refine x_getR (np := 126) (x := 577) (f := 1) (q := (h 61 1)) (by decide +kernel) (by decide) (by decide +kernel) (((((q305.trans q306).trans q307).trans q308).trans q309).trans q310) ?_
              have q311 : h297 (h 61 1) 2 = ((h 61 1) + 5) := tf_0_2 j298 t1
              refine x_getR (np := 129) (x := 514) (f := 2) (q := ((h 61 1) + 5)) (by decide +kernel) (by decide) (tg_0_514_2_1 t1) q311 ?_
              refine x_iload (np := 130) (x := 1) (by decide +kernel) rfl l4 ?_
              refine x_const (np := 131) (x := 9223372047592194050) (a := 2147483650) (by decide +kernel) (by decide) (by decide) ?_
              refine x_iload (np := 132) (x := 2) (by decide +kernel) rfl l271 ?_
              refine x_const (np := 134) (x := 9223372086246899723) (a := 2147483659) (by decide +kernel) (by decide) (by decide) ?_
              refine x_cI (t := 6) (mj := 102) (n := 6) (rc := 10) (ml := 7) (nr := 0) (np := 137) (as := [x_r 61, x_r ((h 61 1) + 5), iv_c v3, iv_c 2147483650, iv_c v270, iv_c 2147483659]) (rest := []) (lo1 := [x_r 61, x_r ((h 61 1) + 5), iv_c v3, iv_c 2147483650, iv_c v270, iv_c 2147483659, 147573952589676412928]) (by decide +kernel) (by decide) (by decide +kernel) (x_rb_of (by decide +kernel)) rfl rfl (x_wr (by decide) (x_wr (tn_5 t1) (x_wi l4 (x_wi (by decide) (x_wi l271 (x_wi (by decide) x_wn)))))) x_wn (by decide) rfl (c102_61_T5_c2 j298  t1 (by omega)  (by omega) (by omega)) (fun v312 h315 l313 q314 => ?_)
              obtain ⟨j316, f317, b318⟩ := q314
              have f319 := Fr.trans f302 f317 (by decide)
              refine x_ifz (k := 0) (tg := 176) (np := 140) (by decide +kernel) (by decide) l313 (fun q320 => ?_) (fun q321 => ?_)
              · have q320 : v312 = 2147483648 := q320
                refine x_const (np := 177) (x := 9223372039002259456) (a := 2147483648) (by decide +kernel) (by decide) (by decide) ?_
                refine x_retI (np := 178) (x := 0) (by decide +kernel) (by decide) (Or.inr ⟨by decide +kernel, by omega, by omega⟩) ⟨_, rfl, (by decide), ?_⟩
                exact ⟨j316, f319, (by omega)⟩
              have q321 : ¬ (v312 = 2147483648) := q321
              refine x_aload (np := 141) (x := 0) (by decide +kernel) rfl (x_nc_le (by decide)) ?_
              have q322 : h315 61 0 = 1 := by have z := jB (e := 0) 0 j316 rg_61_0_0_1 (by decide) (by decide); omega
              refine x_getR (np := 144) (x := 576) (f := 0) (q := 1) (by decide +kernel) (by decide) (by decide +kernel) q322 ?_
              refine x_ldcB (i := 12) (idx := 155) (tx := "of") (by rw [tb_y99]; exact List.mem_of_getElem? (i := 12) rfl) (by decide) (by rw [tb_b99]; decide +kernel) ?_
              refine x_nI (t := 6) (mj := 78) (n := 2) (rc := 8) (ml := 2) (nr := 0) (np := 149) (as := [x_r 1, x_b (12 + 1)]) (rest := []) (lo1 := [x_r 1, x_b (12 + 1)]) (by decide +kernel) (by decide) (by decide +kernel) (x_rb_of (by decide +kernel)) rfl rfl (x_wr (by decide) (x_wB (by decide) x_wn)) x_wn (by decide) rfl ?_
              refine x_aload (np := 1) (x := 0) (by decide +kernel) rfl (x_nc_le (by decide)) ?_
              refine x_aloadB (i := 12) (k4 := 1) rfl (by decide) (by rw [tb_b78]; decide +kernel) ?_
              refine x_cP (t := 6) (mj := 77) (n := 2) (rc := 8) (ml := 4) (nr := 0) (np := 5) (as := [x_r 1, x_b (12 + 1)]) (rest := []) (lo1 := [x_r 1, x_b (12 + 1), 147573952589676412928, 147573952589676412928]) (by decide +kernel) (by decide) (by decide +kernel) (x_rb_of (by decide +kernel)) rfl rfl (x_wr (by decide) (x_wB (by decide) x_wn)) x_wn (by decide) rfl (c77_1_S0 j316  (by decide)) (fun v323 l324 q325 => ?_)
              obtain ⟨b327, c326⟩ := q325
              have b328 := jB (e := 2) 0 j316 rg_1_2_0_1 (by omega) (by omega)
              refine x_ifz (k := 1) (tg := 10) (np := 8) (by decide +kernel) (by decide) l324 (fun q329 => ?_) (fun q330 => ?_)
              · have q329 : v323 ≠ 2147483648 := q329
                have b331 := c326 (by omega)
                refine x_aload (np := 11) (x := 0) (by decide +kernel) rfl (x_nc_le (by decide)) ?_
                refine x_aload (np := 12) (x := 0) (by decide +kernel) rfl (x_nc_le (by decide)) ?_
                refine x_getC (np := 15) (x := 450) (f := 2) (q := (h315 1 2)) (by decide +kernel) (by decide) (by decide +kernel) rfl (fun l332 => ?_)
                refine x_aloadB (i := 12) (k4 := 1) rfl (by decide) (by rw [tb_b78]; decide +kernel) ?_
                have b333 := (iv_tl_lt 12 (by decide)).1
                have b334 := iv_tl_ge 12 (by decide)
                refine x_len (by decide +kernel) (by rw [tb_y78]; exact sl_Tl) (by decide) (by rw [tb_b78]; decide +kernel) (Nat.le_trans (x_wi l332 (x_wr (by decide) x_wn)) (by decide)) ?_
                refine x_iadd (np := 20) (x := 0) (v := ((h315 1 2) + (iv_tl 12))) (by decide +kernel) l332 (by omega) (by omega) (by omega) ?_
                refine x_cV (t := 6) (mj := 80) (n := 2) (rc := 8) (ml := 2) (nr := 0) (np := 23) (as := [x_r 1, iv_c ((h315 1 2) + (iv_tl 12))]) (rest := []) (lo1 := [x_r 1, iv_c ((h315 1 2) + (iv_tl 12))]) (by decide +kernel) (by decide) (by decide +kernel) (x_rb_of (by decide +kernel)) rfl rfl (x_wr (by decide) (x_wi (by omega) x_wn)) x_wn (by decide) rfl (c80_1n j316  (by omega)) (fun h338 q337 => ?_)
                obtain ⟨j339, f340⟩ := q337
                have f343 := Fr.trans f319 f340 (by decide)
                refine x_const (np := 24) (x := 9223372043297226753) (a := 2147483649) (by decide +kernel) (by decide) (by decide) ?_
                refine x_retI (np := 25) (x := 0) (by decide +kernel) (by decide) (Or.inr ⟨by decide +kernel, by omega, by omega⟩) ⟨_, rfl, (by decide), ?_⟩
                refine x_ifz (k := 0) (tg := 176) (np := 152) (by decide +kernel) (by decide) (by decide) (fun q344 => ?_) (fun q345 => ?_)
                · have q344 : 2147483649 = 2147483648 := q344
                  exfalso; omega
                have q345 : ¬ (2147483649 = 2147483648) := q345
                refine x_aload (np := 153) (x := 0) (by decide +kernel) rfl (x_nc_le (by decide)) ?_
                refine x_aload (np := 154) (x := 0) (by decide +kernel) rfl (x_nc_le (by decide)) ?_
                have q346 : h338 61 1 = h315 61 1 := f340 61 1 (by decide +kernel)
                have q347 : h315 61 1 = h297 61 1 := f317 61 1 (by decide +kernel)
                have q348 : h297 61 1 = h273 61 1 := f299 61 1 (by decide +kernel)
                have q349 : h273 61 1 = h261 61 1 := f275 61 1 (by decide +kernel)
                have q350 : h261 61 1 = h238 61 1 := f263 61 1 (by decide +kernel)
                have q351 : h238 61 1 = h217 61 1 := f240 61 1 (by decide +kernel)
                have q352 : h217 61 1 = h6 61 1 := f219 61 1 (by decide +kernel)
                have q353 : h6 61 1 = h 61 1 := f8 61 1 (by decide +kernel)
                refine x_getR (np := 157) (x := 577) (f := 1) (q := (h 61 1)) (by decide +kernel) (by decide) (by decide +kernel) (((((((q346.trans q347).trans q348).trans q349).trans q350).trans q351).trans q352).trans q353) ?_
                have q354 : h338 (h 61 1) 2 = ((h 61 1) + 5) := tf_0_2 j339 t1
                refine x_getR (np := 160) (x := 514) (f := 2) (q := ((h 61 1) + 5)) (by decide +kernel) (by decide) (tg_0_514_2_1 t1) q354 ?_
                refine x_iload (np := 161) (x := 1) (by decide +kernel) rfl l4 ?_
                refine x_const (np := 162) (x := 9223372051887161347) (a := 2147483651) (by decide +kernel) (by decide) (by decide) ?_
                refine x_const (np := 163) (x := 9223372039002259456) (a := 2147483648) (by decide +kernel) (by decide) (by decide) ?_
                refine x_const (np := 166) (x := 9223376329674589159) (a := 2147484647) (by decide +kernel) (by decide) (by decide) ?_
                refine x_cI (t := 6) (mj := 102) (n := 6) (rc := 10) (ml := 7) (nr := 0) (np := 169) (as := [x_r 61, x_r ((h 61 1) + 5), iv_c v3, iv_c 2147483651, iv_c 2147483648, iv_c 2147484647]) (rest := []) (lo1 := [x_r 61, x_r ((h 61 1) + 5), iv_c v3, iv_c 2147483651, iv_c 2147483648, iv_c 2147484647, 147573952589676412928]) (by decide +kernel) (by decide) (by decide +kernel) (x_rb_of (by decide +kernel)) rfl rfl (x_wr (by decide) (x_wr (tn_5 t1) (x_wi l4 (x_wi (by decide) (x_wi (by decide) (x_wi (by decide) x_wn)))))) x_wn (by decide) rfl (c102_61_T5_c3_c0 j339  t1 (by omega)   (by omega)) (fun v355 h358 l356 q357 => ?_)
                obtain ⟨j359, f360, b361⟩ := q357
                have f362 := Fr.trans f343 f360 (by decide)
                refine x_ifz (k := 0) (tg := 176) (np := 172) (by decide +kernel) (by decide) l356 (fun q363 => ?_) (fun q364 => ?_)
                · have q363 : v355 = 2147483648 := q363
                  refine x_const (np := 177) (x := 9223372039002259456) (a := 2147483648) (by decide +kernel) (by decide) (by decide) ?_
                  refine x_retI (np := 178) (x := 0) (by decide +kernel) (by decide) (Or.inr ⟨by decide +kernel, by omega, by omega⟩) ⟨_, rfl, (by decide), ?_⟩
                  exact ⟨j359, f362, (by omega)⟩
                have q364 : ¬ (v355 = 2147483648) := q364
                refine x_const (np := 173) (x := 9223372043297226753) (a := 2147483649) (by decide +kernel) (by decide) (by decide) ?_
                refine x_goto (np := 176) (x := 177) (by decide +kernel) ?_
                refine x_retI (np := 178) (x := 0) (by decide +kernel) (by decide) (Or.inr ⟨by decide +kernel, by omega, by omega⟩) ⟨_, rfl, (by decide), ?_⟩
                exact ⟨j359, f362, (by omega)⟩
              have q330 : ¬ (v323 ≠ 2147483648) := q330
              refine x_const (np := 9) (x := 9223372039002259456) (a := 2147483648) (by decide +kernel) (by decide) (by decide) ?_
              refine x_retI (np := 10) (x := 0) (by decide +kernel) (by decide) (Or.inr ⟨by decide +kernel, by omega, by omega⟩) ⟨_, rfl, (by decide), ?_⟩
              refine x_ifz (k := 0) (tg := 176) (np := 152) (by decide +kernel) (by decide) (by decide) (fun q365 => ?_) (fun q366 => ?_)
              · have q365 : 2147483648 = 2147483648 := q365
                refine x_const (np := 177) (x := 9223372039002259456) (a := 2147483648) (by decide +kernel) (by decide) (by decide) ?_
                refine x_retI (np := 178) (x := 0) (by decide +kernel) (by decide) (Or.inr ⟨by decide +kernel, by omega, by omega⟩) ⟨_, rfl, (by decide), ?_⟩
                exact ⟨j316, f319, (by omega)⟩
              have q366 : ¬ (2147483648 = 2147483648) := q366
              exfalso; omega
            have q289 : ¬ (v282 ≠ 2147483648) := q289
            refine x_const (np := 9) (x := 9223372039002259456) (a := 2147483648) (by decide +kernel) (by decide) (by decide) ?_
            refine x_retI (np := 10) (x := 0) (by decide +kernel) (by decide) (Or.inr ⟨by decide +kernel, by omega, by omega⟩) ⟨_, rfl, (by decide), ?_⟩
            refine x_ifz (k := 0) (tg := 176) (np := 121) (by decide +kernel) (by decide) (by decide) (fun q367 => ?_) (fun q368 => ?_)
            · have q367 : 2147483648 = 2147483648 := q367
              refine x_const (np := 177) (x := 9223372039002259456) (a := 2147483648) (by decide +kernel) (by decide) (by decide) ?_
              refine x_retI (np := 178) (x := 0) (by decide +kernel) (by decide) (Or.inr ⟨by decide +kernel, by omega, by omega⟩) ⟨_, rfl, (by decide), ?_⟩
              exact ⟨j274, f278, (by omega)⟩
            have q368 : ¬ (2147483648 = 2147483648) := q368
            exfalso; omega
          have q268 : ¬ (2147483649 ≠ 2147483648) := q268
          exfalso; omega
        have q253 : ¬ (v246 ≠ 2147483648) := q253
        refine x_const (np := 9) (x := 9223372039002259456) (a := 2147483648) (by decide +kernel) (by decide) (by decide) ?_
        refine x_retI (np := 10) (x := 0) (by decide +kernel) (by decide) (Or.inr ⟨by decide +kernel, by omega, by omega⟩) ⟨_, rfl, (by decide), ?_⟩
        refine x_ifz (k := 1) (tg := 93) (np := 91) (by decide +kernel) (by decide) (by decide) (fun q369 => ?_) (fun q370 => ?_)
        · have q369 : 2147483648 ≠ 2147483648 := q369
          exfalso; omega
        have q370 : ¬ (2147483648 ≠ 2147483648) := q370
        refine x_const (np := 92) (x := 9223372039002259456) (a := 2147483648) (by decide +kernel) (by decide) (by decide) ?_
        refine x_retI (np := 93) (x := 0) (by decide +kernel) (by decide) (Or.inr ⟨by decide +kernel, by omega, by omega⟩) ⟨_, rfl, (by decide), ?_⟩
        exact ⟨j239, f242, (by omega)⟩
      have q224 : ¬ (2147483649 ≠ 2147483648) := q224
      exfalso; omega
    have q208 : ¬ (v201 ≠ 2147483648) := q208
    refine x_const (np := 9) (x := 9223372039002259456) (a := 2147483648) (by decide +kernel) (by decide) (by decide) ?_
    refine x_retI (np := 10) (x := 0) (by decide +kernel) (by decide) (Or.inr ⟨by decide +kernel, by omega, by omega⟩) ⟨_, rfl, (by decide), ?_⟩
    refine x_ifz (k := 1) (tg := 53) (np := 51) (by decide +kernel) (by decide) (by decide) (fun q371 => ?_) (fun q372 => ?_)
    · have q371 : 2147483648 ≠ 2147483648 := q371
      exfalso; omega
    have q372 : ¬ (2147483648 ≠ 2147483648) := q372
    refine x_const (np := 52) (x := 9223372039002259456) (a := 2147483648) (by decide +kernel) (by decide) (by decide) ?_
    refine x_retI (np := 53) (x := 0) (by decide +kernel) (by decide) (Or.inr ⟨by decide +kernel, by omega, by omega⟩) ⟨_, rfl, (by decide), ?_⟩
    exact ⟨j7, f10, (by omega)⟩
  have q199 : ¬ (2147483648 = 2147483648) := q199
  exfalso; omega
set_option maxHeartbeats 0 in
/-- LentNames$Table.put(III)V -/
theorem c69_T3 {sc : Nat × Nat} {d ra0 a1 a2 a3 : Nat} {h : xh} (hJ : J h) (ta0 : tw ra0) (ba1 : 2147483647 ≤ a1 ∧ a1 ≤ 2147483657) (ba2 : 2147483648 ≤ a2 ∧ a2 ≤ 2147483652) (ba3 : 2147483648 ≤ a3 ∧ a3 ≤ 2147483648) : X sc 69 d (xV fun h' => J h' ∧ Fr 129 h h') 0 0 0 [x_r (ra0 + 3), iv_c a1, iv_c a2, iv_c a3, 147573952589676412928] [] h := by
  have la1 : a1 < 4294967296 := by omega
  have la2 : a2 < 4294967296 := by omega
  have la3 : a3 < 4294967296 := by omega
  have hF := Fr.refl 129 h
  refine x_iload (np := 1) (x := 1) (by decide +kernel) rfl la1 ?_
  refine x_ifz (k := 2) (tg := 28) (np := 4) (by decide +kernel) (by decide) la1 (fun q1 => ?_) (fun q2 => ?_)
  · have q1 : a1 < 2147483648 := q1
    refine x_const (np := 29) (x := 9223372039002259456) (a := 2147483648) (by decide +kernel) (by decide) (by decide) ?_
    refine x_istore (np := 31) (x := 4) (lo' := [x_r (ra0 + 3), iv_c a1, iv_c a2, iv_c a3, iv_c 2147483648]) (by decide +kernel) (by decide) (Nat.le_of_ble_eq_true rfl) rfl ?_
    refine x_iload (np := 33) (x := 4) (by decide +kernel) rfl (by decide) ?_
    refine x_ifz (k := 0) (tg := 50) (np := 36) (by decide +kernel) (by decide) (by decide) (fun q3 => ?_) (fun q4 => ?_)
    · have q3 : 2147483648 = 2147483648 := q3
      refine x_retV (np := 51) (x := 0) (by decide +kernel) (by decide +kernel) ⟨rfl, ?_⟩
      exact ⟨hJ, hF⟩
    have q4 : ¬ (2147483648 = 2147483648) := q4
    exfalso; omega
  have q2 : ¬ (a1 < 2147483648) := q2
  refine x_iload (np := 5) (x := 1) (by decide +kernel) rfl la1 ?_
  refine x_aload (np := 6) (x := 0) (by decide +kernel) rfl (x_nc_le (tn_3 ta0)) ?_
  have b5 := jB (e := 2) 0 hJ (rg_T3_2_0_1 ta0) (by omega) (by omega)
  refine x_getC (np := 9) (x := 386) (f := 2) (q := (h (ra0 + 3) 2)) (by decide +kernel) (by decide) (tg_3_386_2_0 ta0) rfl (fun l6 => ?_)
  refine x_icmp (k := 3) (tg := 28) (np := 12) (by decide +kernel) (by decide) la1 l6 (fun q7 => ?_) (fun q8 => ?_)
  · have q7 : (h (ra0 + 3) 2) ≤ a1 := q7
    refine x_const (np := 29) (x := 9223372039002259456) (a := 2147483648) (by decide +kernel) (by decide) (by decide) ?_
    refine x_istore (np := 31) (x := 4) (lo' := [x_r (ra0 + 3), iv_c a1, iv_c a2, iv_c a3, iv_c 2147483648]) (by decide +kernel) (by decide) (Nat.le_of_ble_eq_true rfl) rfl ?_
    refine x_iload (np := 33) (x := 4) (by decide +kernel) rfl (by decide) ?_
    refine x_ifz (k := 0) (tg := 50) (np := 36) (by decide +kernel) (by decide) (by decide) (fun q9 => ?_) (fun q10 => ?_)
    · have q9 : 2147483648 = 2147483648 := q9
      refine x_retV (np := 51) (x := 0) (by decide +kernel) (by decide +kernel) ⟨rfl, ?_⟩
      exact ⟨hJ, hF⟩
    have q10 : ¬ (2147483648 = 2147483648) := q10
    exfalso; omega
  have q8 : ¬ ((h (ra0 + 3) 2) ≤ a1) := q8
  refine x_iload (np := 13) (x := 2) (by decide +kernel) rfl la2 ?_
  refine x_ifz (k := 2) (tg := 28) (np := 16) (by decide +kernel) (by decide) la2 (fun q11 => ?_) (fun q12 => ?_)
  · have q11 : a2 < 2147483648 := q11
    exfalso; omega
  have q12 : ¬ (a2 < 2147483648) := q12
  refine x_iload (np := 17) (x := 2) (by decide +kernel) rfl la2 ?_
  refine x_aload (np := 18) (x := 0) (by decide +kernel) rfl (x_nc_le (tn_3 ta0)) ?_
  have b13 := jB (e := 0) 0 hJ (rg_T3_0_0_1 ta0) (by omega) (by omega)
  have q14 : (h (ra0 + 3) 0) = 2147483652 := by omega
  refine x_getC (np := 21) (x := 384) (f := 0) (q := 2147483652) (by decide +kernel) (by decide) (tg_3_384_0_0 ta0) q14 (fun l15 => ?_)
  refine x_icmp (k := 3) (tg := 28) (np := 24) (by decide +kernel) (by decide) la2 (by decide) (fun q16 => ?_) (fun q17 => ?_)
  · have q16 : 2147483652 ≤ a2 := q16
    refine x_const (np := 29) (x := 9223372039002259456) (a := 2147483648) (by decide +kernel) (by decide) (by decide) ?_
    refine x_istore (np := 31) (x := 4) (lo' := [x_r (ra0 + 3), iv_c a1, iv_c a2, iv_c a3, iv_c 2147483648]) (by decide +kernel) (by decide) (Nat.le_of_ble_eq_true rfl) rfl ?_
    refine x_iload (np := 33) (x := 4) (by decide +kernel) rfl (by decide) ?_
    refine x_ifz (k := 0) (tg := 50) (np := 36) (by decide +kernel) (by decide) (by decide) (fun q18 => ?_) (fun q19 => ?_)
    · have q18 : 2147483648 = 2147483648 := q18
      refine x_retV (np := 51) (x := 0) (by decide +kernel) (by decide +kernel) ⟨rfl, ?_⟩
      exact ⟨hJ, hF⟩
    have q19 : ¬ (2147483648 = 2147483648) := q19
    exfalso; omega
  have q17 : ¬ (2147483652 ≤ a2) := q17
  refine x_const (np := 25) (x := 9223372043297226753) (a := 2147483649) (by decide +kernel) (by decide) (by decide) ?_
  refine x_goto (np := 28) (x := 29) (by decide +kernel) ?_
  refine x_istore (np := 31) (x := 4) (lo' := [x_r (ra0 + 3), iv_c a1, iv_c a2, iv_c a3, iv_c 2147483649]) (by decide +kernel) (by decide) (Nat.le_of_ble_eq_true rfl) rfl ?_
  refine x_iload (np := 33) (x := 4) (by decide +kernel) rfl (by decide) ?_
  refine x_ifz (k := 0) (tg := 50) (np := 36) (by decide +kernel) (by decide) (by decide) (fun q20 => ?_) (fun q21 => ?_)
  · have q20 : 2147483649 = 2147483648 := q20
    exfalso; omega
  have q21 : ¬ (2147483649 = 2147483648) := q21
  refine x_aload (np := 37) (x := 0) (by decide +kernel) rfl (x_nc_le (tn_3 ta0)) ?_
  have q22 : h (ra0 + 3) 1 = (ra0 + 4) := tf_3_1 hJ ta0
  refine x_getR (np := 40) (x := 385) (f := 1) (q := (ra0 + 4)) (by decide +kernel) (by decide) (tg_3_385_1_1 ta0) q22 ?_
  refine x_iload (np := 41) (x := 1) (by decide +kernel) rfl la1 ?_
  refine x_aload (np := 42) (x := 0) (by decide +kernel) rfl (x_nc_le (tn_3 ta0)) ?_
  refine x_getC (np := 45) (x := 384) (f := 0) (q := 2147483652) (by decide +kernel) (by decide) (tg_3_384_0_0 ta0) q14 (fun l23 => ?_)
  obtain ⟨u24, q25⟩ : ∃ z, a1 = 2147483648 + z := ⟨a1 - 2147483648, by omega⟩
  refine x_imul (np := 46) (x := 0) (i := u24) (j := 4) (v := (2147483648 + 4 * u24)) (by decide +kernel) (by omega) (by omega) (by omega) (by omega) la1 (by decide) ?_
  refine x_iload (np := 47) (x := 2) (by decide +kernel) rfl la2 ?_
  refine x_iadd (np := 48) (x := 0) (v := (4 * u24 + a2)) (by decide +kernel) (by omega) la2 (by omega) (by omega) ?_
  refine x_iload (np := 49) (x := 3) (by decide +kernel) rfl la3 ?_
  obtain ⟨u27, q28⟩ : ∃ z, a2 = 2147483648 + z := ⟨a2 - 2147483648, by omega⟩
  refine x_ast (np := 50) (x := 0) (kd := 1) (n := 40) (i := (4 * u24 + u27)) (by decide +kernel) (Or.inl rfl) (ta_4_40 ta0) (by omega) (by omega) (by decide) la3 (fun z => absurd z (by decide)) ?_
  have j30 := jUw (e := (4 * u24 + u27)) (v := a3) hJ (rw_T4 ta0) (by omega) (by omega)
  have f32 := jFw (e := (4 * u24 + u27)) (v := a3) hF (rw_T4 ta0) (by omega) (by decide)
  generalize e31 : x_up h (ra0 + 4) (4 * u24 + u27) a3 = h29 at j30 f32 ⊢
  refine x_retV (np := 51) (x := 0) (by decide +kernel) (by decide +kernel) ⟨rfl, ?_⟩
  exact ⟨j30, f32⟩
set_option maxHeartbeats 0 in
/-- LentNames$Table.addRow()I -/
theorem c67_T3 {sc : Nat × Nat} {d ra0 : Nat} {h : xh} (hJ : J h) (ta0 : tw ra0) : X sc 67 (d + 1) (xI fun r h' => J h' ∧ Fr 129 h h' ∧ (2147483647 ≤ r ∧ r ≤ 2147483657)) 0 0 0 [x_r (ra0 + 3), 147573952589676412928] [] h := by
  have hF := Fr.refl 129 h
  refine x_aload (np := 1) (x := 0) (by decide +kernel) rfl (x_nc_le (tn_3 ta0)) ?_
  refine x_nI (t := 6) (mj := 66) (n := 1) (rc := 7) (ml := 1) (nr := 0) (np := 4) (as := [x_r (ra0 + 3)]) (rest := []) (lo1 := [x_r (ra0 + 3)]) (by decide +kernel) (by decide) (by decide +kernel) (x_rb_of (tr_3_7 ta0)) rfl rfl (x_wr (tn_3 ta0) x_wn) x_wn (by decide) rfl ?_
  refine x_aload (np := 1) (x := 0) (by decide +kernel) rfl (x_nc_le (tn_3 ta0)) ?_
  have b1 := jB (e := 2) 0 hJ (rg_T3_2_0_1 ta0) (by omega) (by omega)
  refine x_getC (np := 4) (x := 386) (f := 2) (q := (h (ra0 + 3) 2)) (by decide +kernel) (by decide) (tg_3_386_2_0 ta0) rfl (fun l2 => ?_)
  refine x_const (np := 5) (x := 9223372043297226753) (a := 2147483649) (by decide +kernel) (by decide) (by decide) ?_
  refine x_iadd (np := 6) (x := 0) (v := (1 + (h (ra0 + 3) 2))) (by decide +kernel) l2 (by decide) (by omega) (by omega) ?_
  refine x_aload (np := 7) (x := 0) (by decide +kernel) rfl (x_nc_le (tn_3 ta0)) ?_
  have b3 := jB (e := 0) 0 hJ (rg_T3_0_0_1 ta0) (by omega) (by omega)
  have q4 : (h (ra0 + 3) 0) = 2147483652 := by omega
  refine x_getC (np := 10) (x := 384) (f := 0) (q := 2147483652) (by decide +kernel) (by decide) (tg_3_384_0_0 ta0) q4 (fun l5 => ?_)
  obtain ⟨u6, q7⟩ : ∃ z, (h (ra0 + 3) 2) = 2147483648 + z := ⟨(h (ra0 + 3) 2) - 2147483648, by omega⟩
  refine x_imul (np := 11) (x := 0) (i := (1 + u6)) (j := 4) (v := (2147483652 + 4 * u6)) (by decide +kernel) (by omega) (by omega) (by omega) (by omega) (by omega) (by decide) ?_
  refine x_aload (np := 12) (x := 0) (by decide +kernel) rfl (x_nc_le (tn_3 ta0)) ?_
  have q9 : h (ra0 + 3) 1 = (ra0 + 4) := tf_3_1 hJ ta0
  refine x_getR (np := 15) (x := 385) (f := 1) (q := (ra0 + 4)) (by decide +kernel) (by decide) (tg_3_385_1_1 ta0) q9 ?_
  refine x_alen (np := 16) (x := 0) (n := 40) (by decide +kernel) (tn_4 ta0) (tl_4 ta0).1 (tl_4 ta0).2 (by decide) ?_
  show X _ _ _ _ _ _ _ _ [iv_c 2147483688, iv_c (2147483652 + 4 * u6)] _
  refine x_icmp (k := 5) (tg := 23) (np := 19) (by decide +kernel) (by decide) (by omega) (by decide) (fun q10 => ?_) (fun q11 => ?_)
  · have q10 : (2147483652 + 4 * u6) ≤ 2147483688 := q10
    refine x_const (np := 24) (x := 9223372039002259456) (a := 2147483648) (by decide +kernel) (by decide) (by decide) ?_
    refine x_retI (np := 25) (x := 0) (by decide +kernel) (by decide) (Or.inr ⟨by decide +kernel, by omega, by omega⟩) ⟨_, rfl, (by decide), ?_⟩
    refine x_ifz (k := 0) (tg := 9) (np := 7) (by decide +kernel) (by decide) (by decide) (fun q12 => ?_) (fun q13 => ?_)
    · have q12 : 2147483648 = 2147483648 := q12
      refine x_aload (np := 10) (x := 0) (by decide +kernel) rfl (x_nc_le (tn_3 ta0)) ?_
      refine x_dup (np := 11) (x := 0) (by decide +kernel) (by have z := x_nc_le (k := (ra0 + 3)) (tn_3 ta0); unfold x_r; omega) ?_
      refine x_getC (np := 14) (x := 386) (f := 2) (q := (h (ra0 + 3) 2)) (by decide +kernel) (by decide) (tg_3_386_2_0 ta0) rfl (fun l14 => ?_)
      refine x_const (np := 15) (x := 9223372043297226753) (a := 2147483649) (by decide +kernel) (by decide) (by decide) ?_
      refine x_iadd (np := 16) (x := 0) (v := (1 + (h (ra0 + 3) 2))) (by decide +kernel) l2 (by decide) (by omega) (by omega) ?_
      refine x_putI (np := 19) (x := 386) (f := 2) (by decide +kernel) (tg_3_386_2_0 ta0) (by omega) (Or.inl (by decide)) ?_
      have j16 := jU (e := 2) (v := (1 + (h (ra0 + 3) 2))) 0 hJ (rg_T3_2_0_1 ta0) (by omega) (by omega) (by omega)
      have f18 := jF (e := 2) (v := (1 + (h (ra0 + 3) 2))) 0 hF (rg_T3_2_0_1 ta0) (by omega) (by omega) (by decide)
      generalize e17 : x_up h (ra0 + 3) 2 (1 + (h (ra0 + 3) 2)) = h15 at j16 f18 ⊢
      refine x_const (np := 20) (x := 9223372039002259456) (a := 2147483648) (by decide +kernel) (by decide) (by decide) ?_
      refine x_istore (np := 21) (x := 1) (lo' := [x_r (ra0 + 3), iv_c 2147483648]) (by decide +kernel) (by decide) (Nat.le_of_ble_eq_true rfl) rfl ?_
      have p114 : ∀ (n : Nat) (v109 : Nat) (h111 : xh), 4294967296 - v109 < n → (2147483648 ≤ v109 ∧ v109 ≤ 2147483652) → J h111 → Fr 129 h15 h111 → X sc 67 (d + 1) (xI fun r h' => J h' ∧ Fr 129 h h' ∧ (2147483647 ≤ r ∧ r ≤ 2147483657)) 0 0 21 [x_r (ra0 + 3), iv_c v109] [] h111 := by
        intro n
        induction n with
        | zero => intro v109 h111 q115; exact absurd q115 (Nat.not_lt_zero _)
        | succ n i116 =>
          intro v109 h111 q115 b110 j113 f112
          have f117 := Fr.trans f18 f112 (by decide)
          refine x_iload (np := 22) (x := 1) (by decide +kernel) rfl (by omega) ?_
          refine x_aload (np := 23) (x := 0) (by decide +kernel) rfl (x_nc_le (tn_3 ta0)) ?_
          have b118 := jB (e := 0) 0 j113 (rg_T3_0_0_1 ta0) (by omega) (by omega)
          have q119 : (h111 (ra0 + 3) 0) = 2147483652 := by omega
          refine x_getC (np := 26) (x := 384) (f := 0) (q := 2147483652) (by decide +kernel) (by decide) (tg_3_384_0_0 ta0) q119 (fun l120 => ?_)
          refine x_icmp (k := 3) (tg := 47) (np := 29) (by decide +kernel) (by decide) (by omega) (by decide) (fun q121 => ?_) (fun q122 => ?_)
          · have q121 : 2147483652 ≤ v109 := q121
            refine x_aload (np := 48) (x := 0) (by decide +kernel) rfl (x_nc_le (tn_3 ta0)) ?_
            have b123 := jB (e := 2) 0 j113 (rg_T3_2_0_1 ta0) (by omega) (by omega)
            refine x_getC (np := 51) (x := 386) (f := 2) (q := (h111 (ra0 + 3) 2)) (by decide +kernel) (by decide) (tg_3_386_2_0 ta0) rfl (fun l124 => ?_)
            refine x_const (np := 52) (x := 9223372043297226753) (a := 2147483649) (by decide +kernel) (by decide) (by decide) ?_
            obtain ⟨v125, q126⟩ : ∃ z, z + 2147483649 = (h111 (ra0 + 3) 2) + 2147483648 := ⟨(h111 (ra0 + 3) 2) + 2147483648 - 2147483649, by omega⟩
            refine x_isub (np := 53) (x := 0) (v := v125) (by decide +kernel) l124 (by decide) (by omega) (by omega) ?_
            refine x_retI (np := 54) (x := 0) (by decide +kernel) (by omega) (Or.inl (by decide +kernel)) ⟨_, rfl, (by omega), ?_⟩
            exact ⟨j113, f117, (by omega)⟩
          have q122 : ¬ (2147483652 ≤ v109) := q122
          refine x_aload (np := 30) (x := 0) (by decide +kernel) rfl (x_nc_le (tn_3 ta0)) ?_
          refine x_aload (np := 31) (x := 0) (by decide +kernel) rfl (x_nc_le (tn_3 ta0)) ?_
          have b127 := jB (e := 2) 0 j113 (rg_T3_2_0_1 ta0) (by omega) (by omega)
          refine x_getC (np := 34) (x := 386) (f := 2) (q := (h111 (ra0 + 3) 2)) (by decide +kernel) (by decide) (tg_3_386_2_0 ta0) rfl (fun l128 => ?_)
          refine x_const (np := 35) (x := 9223372043297226753) (a := 2147483649) (by decide +kernel) (by decide) (by decide) ?_
          obtain ⟨v129, q130⟩ : ∃ z, z + 2147483649 = (h111 (ra0 + 3) 2) + 2147483648 := ⟨(h111 (ra0 + 3) 2) + 2147483648 - 2147483649, by omega⟩
          refine x_isub (np := 36) (x := 0) (v := v129) (by decide +kernel) l128 (by decide) (by omega) (by omega) ?_
          refine x_iload (np := 37) (x := 1) (by decide +kernel) rfl (by omega) ?_
          refine x_const (np := 38) (x := 9223372039002259456) (a := 2147483648) (by decide +kernel) (by decide) (by decide) ?_
          refine x_cV (t := 6) (mj := 69) (n := 4) (rc := 7) (ml := 5) (nr := 0) (np := 41) (as := [x_r (ra0 + 3), iv_c v129, iv_c v109, iv_c 2147483648]) (rest := []) (lo1 := [x_r (ra0 + 3), iv_c v129, iv_c v109, iv_c 2147483648, 147573952589676412928]) (by decide +kernel) (by decide) (by decide +kernel) (x_rb_of (tr_3_7 ta0)) rfl rfl (x_wr (tn_3 ta0) (x_wi (by omega) (x_wi (by omega) (x_wi (by decide) x_wn)))) x_wn (by decide) rfl (c69_T3 j113 ta0 (by omega) (by omega) (by omega)) (fun h134 q133 => ?_)
          obtain ⟨j135, f136⟩ := q133
          have f139 := Fr.trans f117 f136 (by decide)
          have f140 := Fr.trans f112 f136 (by decide)
          refine x_iinc (np := 44) (i := 1) (j := 2147483649) (v := (1 + v109)) (lo' := [x_r (ra0 + 3), iv_c (1 + v109)]) (by decide +kernel) (by decide) (by decide) rfl (by omega) (by omega) (by omega) rfl ?_
          refine x_goto (np := 47) (x := 21) (by decide +kernel) ?_
          exact i116 (1 + v109) h134 (by omega) (by omega) j135 f140
      exact p114 _ 2147483648 h15 (Nat.lt_succ_self _) (by omega) j16 (Fr.refl _ _)
    have q13 : ¬ (2147483648 = 2147483648) := q13
    exfalso; omega
  have q11 : ¬ ((2147483652 + 4 * u6) ≤ 2147483688) := q11
  refine x_const (np := 20) (x := 9223372043297226753) (a := 2147483649) (by decide +kernel) (by decide) (by decide) ?_
  refine x_goto (np := 23) (x := 24) (by decide +kernel) ?_
  refine x_retI (np := 25) (x := 0) (by decide +kernel) (by decide) (Or.inr ⟨by decide +kernel, by omega, by omega⟩) ⟨_, rfl, (by decide), ?_⟩
  refine x_ifz (k := 0) (tg := 9) (np := 7) (by decide +kernel) (by decide) (by decide) (fun q141 => ?_) (fun q142 => ?_)
  · have q141 : 2147483649 = 2147483648 := q141
    exfalso; omega
  have q142 : ¬ (2147483649 = 2147483648) := q142
  refine x_const (np := 8) (x := 9223372034707292159) (a := 2147483647) (by decide +kernel) (by decide) (by decide) ?_
  refine x_retI (np := 9) (x := 0) (by decide +kernel) (by decide) (Or.inl (by decide +kernel)) ⟨_, rfl, (by decide), ?_⟩
  exact ⟨hJ, hF, (by omega)⟩
set_option maxHeartbeats 0 in
/-- LentNames$Table.put(III)V -/
theorem c69_T3_c3n {sc : Nat × Nat} {d ra0 a1 a3 : Nat} {h : xh} (hJ : J h) (ta0 : tw ra0) (ba1 : 2147483647 ≤ a1 ∧ a1 ≤ 2147483657) (ba3 : 2147483647 ≤ a3 ∧ a3 ≤ 2147483647) : X sc 69 d (xV fun h' => J h' ∧ Fr 129 h h') 0 0 0 [x_r (ra0 + 3), iv_c a1, iv_c 2147483651, iv_c a3, 147573952589676412928] [] h := by
  have la1 : a1 < 4294967296 := by omega
  have la3 : a3 < 4294967296 := by omega
  have hF := Fr.refl 129 h
  refine x_iload (np := 1) (x := 1) (by decide +kernel) rfl la1 ?_
  refine x_ifz (k := 2) (tg := 28) (np := 4) (by decide +kernel) (by decide) la1 (fun q1 => ?_) (fun q2 => ?_)
  · have q1 : a1 < 2147483648 := q1
    refine x_const (np := 29) (x := 9223372039002259456) (a := 2147483648) (by decide +kernel) (by decide) (by decide) ?_
    refine x_istore (np := 31) (x := 4) (lo' := [x_r (ra0 + 3), iv_c a1, iv_c 2147483651, iv_c a3, iv_c 2147483648]) (by decide +kernel) (by decide) (Nat.le_of_ble_eq_true rfl) rfl ?_
    refine x_iload (np := 33) (x := 4) (by decide +kernel) rfl (by decide) ?_
    refine x_ifz (k := 0) (tg := 50) (np := 36) (by decide +kernel) (by decide) (by decide) (fun q3 => ?_) (fun q4 => ?_)
    · have q3 : 2147483648 = 2147483648 := q3
      refine x_retV (np := 51) (x := 0) (by decide +kernel) (by decide +kernel) ⟨rfl, ?_⟩
      exact ⟨hJ, hF⟩
    have q4 : ¬ (2147483648 = 2147483648) := q4
    exfalso; omega
  have q2 : ¬ (a1 < 2147483648) := q2
  refine x_iload (np := 5) (x := 1) (by decide +kernel) rfl la1 ?_
  refine x_aload (np := 6) (x := 0) (by decide +kernel) rfl (x_nc_le (tn_3 ta0)) ?_
  have b5 := jB (e := 2) 0 hJ (rg_T3_2_0_1 ta0) (by omega) (by omega)
  refine x_getC (np := 9) (x := 386) (f := 2) (q := (h (ra0 + 3) 2)) (by decide +kernel) (by decide) (tg_3_386_2_0 ta0) rfl (fun l6 => ?_)
  refine x_icmp (k := 3) (tg := 28) (np := 12) (by decide +kernel) (by decide) la1 l6 (fun q7 => ?_) (fun q8 => ?_)
  · have q7 : (h (ra0 + 3) 2) ≤ a1 := q7
    refine x_const (np := 29) (x := 9223372039002259456) (a := 2147483648) (by decide +kernel) (by decide) (by decide) ?_
    refine x_istore (np := 31) (x := 4) (lo' := [x_r (ra0 + 3), iv_c a1, iv_c 2147483651, iv_c a3, iv_c 2147483648]) (by decide +kernel) (by decide) (Nat.le_of_ble_eq_true rfl) rfl ?_
    refine x_iload (np := 33) (x := 4) (by decide +kernel) rfl (by decide) ?_
    refine x_ifz (k := 0) (tg := 50) (np := 36) (by decide +kernel) (by decide) (by decide) (fun q9 => ?_) (fun q10 => ?_)
    · have q9 : 2147483648 = 2147483648 := q9
      refine x_retV (np := 51) (x := 0) (by decide +kernel) (by decide +kernel) ⟨rfl, ?_⟩
      exact ⟨hJ, hF⟩
    have q10 : ¬ (2147483648 = 2147483648) := q10
    exfalso; omega
  have q8 : ¬ ((h (ra0 + 3) 2) ≤ a1) := q8
  refine x_iload (np := 13) (x := 2) (by decide +kernel) rfl (by decide) ?_
  refine x_ifz (k := 2) (tg := 28) (np := 16) (by decide +kernel) (by decide) (by decide) (fun q11 => ?_) (fun q12 => ?_)
  · have q11 : 2147483651 < 2147483648 := q11
    exfalso; omega
  have q12 : ¬ (2147483651 < 2147483648) := q12
  refine x_iload (np := 17) (x := 2) (by decide +kernel) rfl (by decide) ?_
  refine x_aload (np := 18) (x := 0) (by decide +kernel) rfl (x_nc_le (tn_3 ta0)) ?_
  have b13 := jB (e := 0) 0 hJ (rg_T3_0_0_1 ta0) (by omega) (by omega)
  have q14 : (h (ra0 + 3) 0) = 2147483652 := by omega
  refine x_getC (np := 21) (x := 384) (f := 0) (q := 2147483652) (by decide +kernel) (by decide) (tg_3_384_0_0 ta0) q14 (fun l15 => ?_)
  refine x_icmp (k := 3) (tg := 28) (np := 24) (by decide +kernel) (by decide) (by decide) (by decide) (fun q16 => ?_) (fun q17 => ?_)
  · have q16 : 2147483652 ≤ 2147483651 := q16
    exfalso; omega
  have q17 : ¬ (2147483652 ≤ 2147483651) := q17
  refine x_const (np := 25) (x := 9223372043297226753) (a := 2147483649) (by decide +kernel) (by decide) (by decide) ?_
  refine x_goto (np := 28) (x := 29) (by decide +kernel) ?_
  refine x_istore (np := 31) (x := 4) (lo' := [x_r (ra0 + 3), iv_c a1, iv_c 2147483651, iv_c a3, iv_c 2147483649]) (by decide +kernel) (by decide) (Nat.le_of_ble_eq_true rfl) rfl ?_
  refine x_iload (np := 33) (x := 4) (by decide +kernel) rfl (by decide) ?_
  refine x_ifz (k := 0) (tg := 50) (np := 36) (by decide +kernel) (by decide) (by decide) (fun q18 => ?_) (fun q19 => ?_)
  · have q18 : 2147483649 = 2147483648 := q18
    exfalso; omega
  have q19 : ¬ (2147483649 = 2147483648) := q19
  refine x_aload (np := 37) (x := 0) (by decide +kernel) rfl (x_nc_le (tn_3 ta0)) ?_
  have q20 : h (ra0 + 3) 1 = (ra0 + 4) := tf_3_1 hJ ta0
  refine x_getR (np := 40) (x := 385) (f := 1) (q := (ra0 + 4)) (by decide +kernel) (by decide) (tg_3_385_1_1 ta0) q20 ?_
  refine x_iload (np := 41) (x := 1) (by decide +kernel) rfl la1 ?_
  refine x_aload (np := 42) (x := 0) (by decide +kernel) rfl (x_nc_le (tn_3 ta0)) ?_
  refine x_getC (np := 45) (x := 384) (f := 0) (q := 2147483652) (by decide +kernel) (by decide) (tg_3_384_0_0 ta0) q14 (fun l21 => ?_)
  obtain ⟨u22, q23⟩ : ∃ z, a1 = 2147483648 + z := ⟨a1 - 2147483648, by omega⟩
  refine x_imul (np := 46) (x := 0) (i := u22) (j := 4) (v := (2147483648 + 4 * u22)) (by decide +kernel) (by omega) (by omega) (by omega) (by omega) la1 (by decide) ?_
  refine x_iload (np := 47) (x := 2) (by decide +kernel) rfl (by decide) ?_
  refine x_iadd (np := 48) (x := 0) (v := (2147483651 + 4 * u22)) (by decide +kernel) (by omega) (by decide) (by omega) (by omega) ?_
  refine x_iload (np := 49) (x := 3) (by decide +kernel) rfl la3 ?_
  refine x_ast (np := 50) (x := 0) (kd := 1) (n := 40) (i := (3 + 4 * u22)) (by decide +kernel) (Or.inl rfl) (ta_4_40 ta0) (by omega) (by omega) (by decide) la3 (fun z => absurd z (by decide)) ?_
  have j26 := jU (e := (3 + 4 * u22)) (v := a3) u22 hJ (rg_T4_3_4_10 ta0) (by omega) (by omega) (by omega)
  have f28 := jF (e := (3 + 4 * u22)) (v := a3) u22 hF (rg_T4_3_4_10 ta0) (by omega) (by omega) (by decide)
  generalize e27 : x_up h (ra0 + 4) (3 + 4 * u22) a3 = h25 at j26 f28 ⊢
  refine x_retV (np := 51) (x := 0) (by decide +kernel) (by decide +kernel) ⟨rfl, ?_⟩
  exact ⟨j26, f28⟩
set_option maxHeartbeats 0 in
/-- LentNames$Table.put(III)V -/
theorem c69_T3_c0 {sc : Nat × Nat} {d ra0 a1 a3 : Nat} {h : xh} (hJ : J h) (ta0 : tw ra0) (ba1 : 2147483647 ≤ a1 ∧ a1 ≤ 2147483657) (ba3 : 2147483648 ≤ a3 ∧ a3 ≤ 2147483653) : X sc 69 d (xV fun h' => J h' ∧ Fr 129 h h') 0 0 0 [x_r (ra0 + 3), iv_c a1, iv_c 2147483648, iv_c a3, 147573952589676412928] [] h := by
  have la1 : a1 < 4294967296 := by omega
  have la3 : a3 < 4294967296 := by omega
  have hF := Fr.refl 129 h
  refine x_iload (np := 1) (x := 1) (by decide +kernel) rfl la1 ?_
  refine x_ifz (k := 2) (tg := 28) (np := 4) (by decide +kernel) (by decide) la1 (fun q1 => ?_) (fun q2 => ?_)
  · have q1 : a1 < 2147483648 := q1
    refine x_const (np := 29) (x := 9223372039002259456) (a := 2147483648) (by decide +kernel) (by decide) (by decide) ?_
    refine x_istore (np := 31) (x := 4) (lo' := [x_r (ra0 + 3), iv_c a1, iv_c 2147483648, iv_c a3, iv_c 2147483648]) (by decide +kernel) (by decide) (Nat.le_of_ble_eq_true rfl) rfl ?_
    refine x_iload (np := 33) (x := 4) (by decide +kernel) rfl (by decide) ?_
    refine x_ifz (k := 0) (tg := 50) (np := 36) (by decide +kernel) (by decide) (by decide) (fun q3 => ?_) (fun q4 => ?_)
    · have q3 : 2147483648 = 2147483648 := q3
      refine x_retV (np := 51) (x := 0) (by decide +kernel) (by decide +kernel) ⟨rfl, ?_⟩
      exact ⟨hJ, hF⟩
    have q4 : ¬ (2147483648 = 2147483648) := q4
    exfalso; omega
  have q2 : ¬ (a1 < 2147483648) := q2
  refine x_iload (np := 5) (x := 1) (by decide +kernel) rfl la1 ?_
  refine x_aload (np := 6) (x := 0) (by decide +kernel) rfl (x_nc_le (tn_3 ta0)) ?_
  have b5 := jB (e := 2) 0 hJ (rg_T3_2_0_1 ta0) (by omega) (by omega)
  refine x_getC (np := 9) (x := 386) (f := 2) (q := (h (ra0 + 3) 2)) (by decide +kernel) (by decide) (tg_3_386_2_0 ta0) rfl (fun l6 => ?_)
  refine x_icmp (k := 3) (tg := 28) (np := 12) (by decide +kernel) (by decide) la1 l6 (fun q7 => ?_) (fun q8 => ?_)
  · have q7 : (h (ra0 + 3) 2) ≤ a1 := q7
    refine x_const (np := 29) (x := 9223372039002259456) (a := 2147483648) (by decide +kernel) (by decide) (by decide) ?_
    refine x_istore (np := 31) (x := 4) (lo' := [x_r (ra0 + 3), iv_c a1, iv_c 2147483648, iv_c a3, iv_c 2147483648]) (by decide +kernel) (by decide) (Nat.le_of_ble_eq_true rfl) rfl ?_
    refine x_iload (np := 33) (x := 4) (by decide +kernel) rfl (by decide) ?_
    refine x_ifz (k := 0) (tg := 50) (np := 36) (by decide +kernel) (by decide) (by decide) (fun q9 => ?_) (fun q10 => ?_)
    · have q9 : 2147483648 = 2147483648 := q9
      refine x_retV (np := 51) (x := 0) (by decide +kernel) (by decide +kernel) ⟨rfl, ?_⟩
      exact ⟨hJ, hF⟩
    have q10 : ¬ (2147483648 = 2147483648) := q10
    exfalso; omega
  have q8 : ¬ ((h (ra0 + 3) 2) ≤ a1) := q8
  refine x_iload (np := 13) (x := 2) (by decide +kernel) rfl (by decide) ?_
  refine x_ifz (k := 2) (tg := 28) (np := 16) (by decide +kernel) (by decide) (by decide) (fun q11 => ?_) (fun q12 => ?_)
  · have q11 : 2147483648 < 2147483648 := q11
    exfalso; omega
  have q12 : ¬ (2147483648 < 2147483648) := q12
  refine x_iload (np := 17) (x := 2) (by decide +kernel) rfl (by decide) ?_
  refine x_aload (np := 18) (x := 0) (by decide +kernel) rfl (x_nc_le (tn_3 ta0)) ?_
  have b13 := jB (e := 0) 0 hJ (rg_T3_0_0_1 ta0) (by omega) (by omega)
  have q14 : (h (ra0 + 3) 0) = 2147483652 := by omega
  refine x_getC (np := 21) (x := 384) (f := 0) (q := 2147483652) (by decide +kernel) (by decide) (tg_3_384_0_0 ta0) q14 (fun l15 => ?_)
  refine x_icmp (k := 3) (tg := 28) (np := 24) (by decide +kernel) (by decide) (by decide) (by decide) (fun q16 => ?_) (fun q17 => ?_)
  · have q16 : 2147483652 ≤ 2147483648 := q16
    exfalso; omega
  have q17 : ¬ (2147483652 ≤ 2147483648) := q17
  refine x_const (np := 25) (x := 9223372043297226753) (a := 2147483649) (by decide +kernel) (by decide) (by decide) ?_
  refine x_goto (np := 28) (x := 29) (by decide +kernel) ?_
  refine x_istore (np := 31) (x := 4) (lo' := [x_r (ra0 + 3), iv_c a1, iv_c 2147483648, iv_c a3, iv_c 2147483649]) (by decide +kernel) (by decide) (Nat.le_of_ble_eq_true rfl) rfl ?_
  refine x_iload (np := 33) (x := 4) (by decide +kernel) rfl (by decide) ?_
  refine x_ifz (k := 0) (tg := 50) (np := 36) (by decide +kernel) (by decide) (by decide) (fun q18 => ?_) (fun q19 => ?_)
  · have q18 : 2147483649 = 2147483648 := q18
    exfalso; omega
  have q19 : ¬ (2147483649 = 2147483648) := q19
  refine x_aload (np := 37) (x := 0) (by decide +kernel) rfl (x_nc_le (tn_3 ta0)) ?_
  have q20 : h (ra0 + 3) 1 = (ra0 + 4) := tf_3_1 hJ ta0
  refine x_getR (np := 40) (x := 385) (f := 1) (q := (ra0 + 4)) (by decide +kernel) (by decide) (tg_3_385_1_1 ta0) q20 ?_
  refine x_iload (np := 41) (x := 1) (by decide +kernel) rfl la1 ?_
  refine x_aload (np := 42) (x := 0) (by decide +kernel) rfl (x_nc_le (tn_3 ta0)) ?_
  refine x_getC (np := 45) (x := 384) (f := 0) (q := 2147483652) (by decide +kernel) (by decide) (tg_3_384_0_0 ta0) q14 (fun l21 => ?_)
  obtain ⟨u22, q23⟩ : ∃ z, a1 = 2147483648 + z := ⟨a1 - 2147483648, by omega⟩
  refine x_imul (np := 46) (x := 0) (i := u22) (j := 4) (v := (2147483648 + 4 * u22)) (by decide +kernel) (by omega) (by omega) (by omega) (by omega) la1 (by decide) ?_
  refine x_iload (np := 47) (x := 2) (by decide +kernel) rfl (by decide) ?_
  refine x_iadd (np := 48) (x := 0) (v := (2147483648 + 4 * u22)) (by decide +kernel) (by omega) (by decide) (by omega) (by omega) ?_
  refine x_iload (np := 49) (x := 3) (by decide +kernel) rfl la3 ?_
  refine x_ast (np := 50) (x := 0) (kd := 1) (n := 40) (i := (4 * u22)) (by decide +kernel) (Or.inl rfl) (ta_4_40 ta0) (by omega) (by omega) (by decide) la3 (fun z => absurd z (by decide)) ?_
  have j26 := jU (e := (4 * u22)) (v := a3) u22 hJ (rg_T4_0_4_10 ta0) (by omega) (by omega) (by omega)
  have f28 := jF (e := (4 * u22)) (v := a3) u22 hF (rg_T4_0_4_10 ta0) (by omega) (by omega) (by decide)
  generalize e27 : x_up h (ra0 + 4) (4 * u22) a3 = h25 at j26 f28 ⊢
  refine x_retV (np := 51) (x := 0) (by decide +kernel) (by decide +kernel) ⟨rfl, ?_⟩
  exact ⟨j26, f28⟩
set_option maxHeartbeats 0 in
/-- LentNames$TownReader.readInto(LLentNames$Table;IIII)Z -/
theorem c102_61_T3_c0_c0 {sc : Nat × Nat} {d ra1 a2 a5 : Nat} {h : xh} (hJ : J h) (ta1 : tw ra1) (ba2 : 2147483647 ≤ a2 ∧ a2 ≤ 2147483657) (ba5 : 2147483649 ≤ a5 ∧ a5 ≤ 2147483653) : X sc 102 (d + 2) (xI fun r h' => J h' ∧ Fr 161 h h' ∧ (2147483648 ≤ r ∧ r ≤ 2147483649)) 0 0 0 [x_r 61, x_r (ra1 + 3), iv_c a2, iv_c 2147483648, iv_c 2147483648, iv_c a5, 147573952589676412928] [] h := by
  have la2 : a2 < 4294967296 := by omega
  have la5 : a5 < 4294967296 := by omega
  have hF := Fr.refl 161 h
  refine x_aload (np := 1) (x := 0) (by decide +kernel) rfl (x_nc_le (by decide)) ?_
  have q1 : h 61 0 = 1 := by have z := jB (e := 0) 0 hJ rg_61_0_0_1 (by decide) (by decide); omega
  refine x_getR (np := 4) (x := 576) (f := 0) (q := 1) (by decide +kernel) (by decide) (by decide +kernel) q1 ?_
  refine x_iload (np := 6) (x := 4) (by decide +kernel) rfl (by decide) ?_
  refine x_iload (np := 8) (x := 5) (by decide +kernel) rfl la5 ?_
  refine x_cI (t := 6) (mj := 79) (n := 3) (rc := 8) (ml := 5) (nr := 0) (np := 11) (as := [x_r 1, iv_c 2147483648, iv_c a5]) (rest := []) (lo1 := [x_r 1, iv_c 2147483648, iv_c a5, 147573952589676412928, 147573952589676412928]) (by decide +kernel) (by decide) (by decide +kernel) (x_rb_of (by decide +kernel)) rfl rfl (x_wr (by decide) (x_wi (by decide) (x_wi la5 x_wn))) x_wn (by decide) rfl (c79_1_c0 hJ   (by omega)) (fun v2 h5 l3 q4 => ?_)
  obtain ⟨j6, f7, b8, c9⟩ := q4
  have f10 := Fr.trans hF f7 (by decide)
  refine x_istore (np := 13) (x := 6) (lo' := [x_r 61, x_r (ra1 + 3), iv_c a2, iv_c 2147483648, iv_c 2147483648, iv_c a5, iv_c v2]) (by decide +kernel) l3 (Nat.le_of_ble_eq_true rfl) rfl ?_
  refine x_iload (np := 15) (x := 6) (by decide +kernel) rfl l3 ?_
  refine x_const (np := 16) (x := 9223372034707292159) (a := 2147483647) (by decide +kernel) (by decide) (by decide) ?_
  refine x_icmp (k := 1) (tg := 21) (np := 19) (by decide +kernel) (by decide) l3 (by decide) (fun q11 => ?_) (fun q12 => ?_)
  · have q11 : v2 ≠ 2147483647 := q11
    refine x_aload (np := 22) (x := 1) (by decide +kernel) rfl (x_nc_le (tn_3 ta1)) ?_
    refine x_iload (np := 23) (x := 2) (by decide +kernel) rfl la2 ?_
    refine x_iload (np := 24) (x := 3) (by decide +kernel) rfl (by decide) ?_
    refine x_iload (np := 26) (x := 6) (by decide +kernel) rfl l3 ?_
    refine x_cV (t := 6) (mj := 69) (n := 4) (rc := 7) (ml := 5) (nr := 0) (np := 29) (as := [x_r (ra1 + 3), iv_c a2, iv_c 2147483648, iv_c v2]) (rest := []) (lo1 := [x_r (ra1 + 3), iv_c a2, iv_c 2147483648, iv_c v2, 147573952589676412928]) (by decide +kernel) (by decide) (by decide +kernel) (x_rb_of (tr_3_7 ta1)) rfl rfl (x_wr (tn_3 ta1) (x_wi la2 (x_wi (by decide) (x_wi l3 x_wn)))) x_wn (by decide) rfl (c69_T3_c0 j6 ta1 (by omega)  (by omega)) (fun h16 q15 => ?_)
    obtain ⟨j17, f18⟩ := q15
    have f21 := Fr.trans f10 f18 (by decide)
    refine x_const (np := 30) (x := 9223372043297226753) (a := 2147483649) (by decide +kernel) (by decide) (by decide) ?_
    refine x_retI (np := 31) (x := 0) (by decide +kernel) (by decide) (Or.inr ⟨by decide +kernel, by omega, by omega⟩) ⟨_, rfl, (by decide), ?_⟩
    exact ⟨j17, f21, (by omega)⟩
  have q12 : ¬ (v2 ≠ 2147483647) := q12
  refine x_const (np := 20) (x := 9223372039002259456) (a := 2147483648) (by decide +kernel) (by decide) (by decide) ?_
  refine x_retI (np := 21) (x := 0) (by decide +kernel) (by decide) (Or.inr ⟨by decide +kernel, by omega, by omega⟩) ⟨_, rfl, (by decide), ?_⟩
  exact ⟨j6, f10, (by omega)⟩
set_option maxHeartbeats 0 in
/-- LentNames$Table.put(III)V -/
theorem c69_T3_c1 {sc : Nat × Nat} {d ra0 a1 a3 : Nat} {h : xh} (hJ : J h) (ta0 : tw ra0) (ba1 : 2147483647 ≤ a1 ∧ a1 ≤ 2147483657) (ba3 : 2147483648 ≤ a3 ∧ a3 ≤ 2147483659) : X sc 69 d (xV fun h' => J h' ∧ Fr 129 h h') 0 0 0 [x_r (ra0 + 3), iv_c a1, iv_c 2147483649, iv_c a3, 147573952589676412928] [] h := by
  have la1 : a1 < 4294967296 := by omega
  have la3 : a3 < 4294967296 := by omega
  have hF := Fr.refl 129 h
  refine x_iload (np := 1) (x := 1) (by decide +kernel) rfl la1 ?_
  refine x_ifz (k := 2) (tg := 28) (np := 4) (by decide +kernel) (by decide) la1 (fun q1 => ?_) (fun q2 => ?_)
  · have q1 : a1 < 2147483648 := q1
    refine x_const (np := 29) (x := 9223372039002259456) (a := 2147483648) (by decide +kernel) (by decide) (by decide) ?_
    refine x_istore (np := 31) (x := 4) (lo' := [x_r (ra0 + 3), iv_c a1, iv_c 2147483649, iv_c a3, iv_c 2147483648]) (by decide +kernel) (by decide) (Nat.le_of_ble_eq_true rfl) rfl ?_
    refine x_iload (np := 33) (x := 4) (by decide +kernel) rfl (by decide) ?_
    refine x_ifz (k := 0) (tg := 50) (np := 36) (by decide +kernel) (by decide) (by decide) (fun q3 => ?_) (fun q4 => ?_)
    · have q3 : 2147483648 = 2147483648 := q3
      refine x_retV (np := 51) (x := 0) (by decide +kernel) (by decide +kernel) ⟨rfl, ?_⟩
      exact ⟨hJ, hF⟩
    have q4 : ¬ (2147483648 = 2147483648) := q4
    exfalso; omega
  have q2 : ¬ (a1 < 2147483648) := q2
  refine x_iload (np := 5) (x := 1) (by decide +kernel) rfl la1 ?_
  refine x_aload (np := 6) (x := 0) (by decide +kernel) rfl (x_nc_le (tn_3 ta0)) ?_
  have b5 := jB (e := 2) 0 hJ (rg_T3_2_0_1 ta0) (by omega) (by omega)
  refine x_getC (np := 9) (x := 386) (f := 2) (q := (h (ra0 + 3) 2)) (by decide +kernel) (by decide) (tg_3_386_2_0 ta0) rfl (fun l6 => ?_)
  refine x_icmp (k := 3) (tg := 28) (np := 12) (by decide +kernel) (by decide) la1 l6 (fun q7 => ?_) (fun q8 => ?_)
  · have q7 : (h (ra0 + 3) 2) ≤ a1 := q7
    refine x_const (np := 29) (x := 9223372039002259456) (a := 2147483648) (by decide +kernel) (by decide) (by decide) ?_
    refine x_istore (np := 31) (x := 4) (lo' := [x_r (ra0 + 3), iv_c a1, iv_c 2147483649, iv_c a3, iv_c 2147483648]) (by decide +kernel) (by decide) (Nat.le_of_ble_eq_true rfl) rfl ?_
    refine x_iload (np := 33) (x := 4) (by decide +kernel) rfl (by decide) ?_
    refine x_ifz (k := 0) (tg := 50) (np := 36) (by decide +kernel) (by decide) (by decide) (fun q9 => ?_) (fun q10 => ?_)
    · have q9 : 2147483648 = 2147483648 := q9
      refine x_retV (np := 51) (x := 0) (by decide +kernel) (by decide +kernel) ⟨rfl, ?_⟩
      exact ⟨hJ, hF⟩
    have q10 : ¬ (2147483648 = 2147483648) := q10
    exfalso; omega
  have q8 : ¬ ((h (ra0 + 3) 2) ≤ a1) := q8
  refine x_iload (np := 13) (x := 2) (by decide +kernel) rfl (by decide) ?_
  refine x_ifz (k := 2) (tg := 28) (np := 16) (by decide +kernel) (by decide) (by decide) (fun q11 => ?_) (fun q12 => ?_)
  · have q11 : 2147483649 < 2147483648 := q11
    exfalso; omega
  have q12 : ¬ (2147483649 < 2147483648) := q12
  refine x_iload (np := 17) (x := 2) (by decide +kernel) rfl (by decide) ?_
  refine x_aload (np := 18) (x := 0) (by decide +kernel) rfl (x_nc_le (tn_3 ta0)) ?_
  have b13 := jB (e := 0) 0 hJ (rg_T3_0_0_1 ta0) (by omega) (by omega)
  have q14 : (h (ra0 + 3) 0) = 2147483652 := by omega
  refine x_getC (np := 21) (x := 384) (f := 0) (q := 2147483652) (by decide +kernel) (by decide) (tg_3_384_0_0 ta0) q14 (fun l15 => ?_)
  refine x_icmp (k := 3) (tg := 28) (np := 24) (by decide +kernel) (by decide) (by decide) (by decide) (fun q16 => ?_) (fun q17 => ?_)
  · have q16 : 2147483652 ≤ 2147483649 := q16
    exfalso; omega
  have q17 : ¬ (2147483652 ≤ 2147483649) := q17
  refine x_const (np := 25) (x := 9223372043297226753) (a := 2147483649) (by decide +kernel) (by decide) (by decide) ?_
  refine x_goto (np := 28) (x := 29) (by decide +kernel) ?_
  refine x_istore (np := 31) (x := 4) (lo' := [x_r (ra0 + 3), iv_c a1, iv_c 2147483649, iv_c a3, iv_c 2147483649]) (by decide +kernel) (by decide) (Nat.le_of_ble_eq_true rfl) rfl ?_
  refine x_iload (np := 33) (x := 4) (by decide +kernel) rfl (by decide) ?_
  refine x_ifz (k := 0) (tg := 50) (np := 36) (by decide +kernel) (by decide) (by decide) (fun q18 => ?_) (fun q19 => ?_)
  · have q18 : 2147483649 = 2147483648 := q18
    exfalso; omega
  have q19 : ¬ (2147483649 = 2147483648) := q19
  refine x_aload (np := 37) (x := 0) (by decide +kernel) rfl (x_nc_le (tn_3 ta0)) ?_
  have q20 : h (ra0 + 3) 1 = (ra0 + 4) := tf_3_1 hJ ta0
  refine x_getR (np := 40) (x := 385) (f := 1) (q := (ra0 + 4)) (by decide +kernel) (by decide) (tg_3_385_1_1 ta0) q20 ?_
  refine x_iload (np := 41) (x := 1) (by decide +kernel) rfl la1 ?_
  refine x_aload (np := 42) (x := 0) (by decide +kernel) rfl (x_nc_le (tn_3 ta0)) ?_
  refine x_getC (np := 45) (x := 384) (f := 0) (q := 2147483652) (by decide +kernel) (by decide) (tg_3_384_0_0 ta0) q14 (fun l21 => ?_)
  obtain ⟨u22, q23⟩ : ∃ z, a1 = 2147483648 + z := ⟨a1 - 2147483648, by omega⟩
  refine x_imul (np := 46) (x := 0) (i := u22) (j := 4) (v := (2147483648 + 4 * u22)) (by decide +kernel) (by omega) (by omega) (by omega) (by omega) la1 (by decide) ?_
  refine x_iload (np := 47) (x := 2) (by decide +kernel) rfl (by decide) ?_
  refine x_iadd (np := 48) (x := 0) (v := (2147483649 + 4 * u22)) (by decide +kernel) (by omega) (by decide) (by omega) (by omega) ?_
  refine x_iload (np := 49) (x := 3) (by decide +kernel) rfl la3 ?_
  refine x_ast (np := 50) (x := 0) (kd := 1) (n := 40) (i := (1 + 4 * u22)) (by decide +kernel) (Or.inl rfl) (ta_4_40 ta0) (by omega) (by omega) (by decide) la3 (fun z => absurd z (by decide)) ?_
  have j26 := jU (e := (1 + 4 * u22)) (v := a3) u22 hJ (rg_T4_1_4_10 ta0) (by omega) (by omega) (by omega)
  have f28 := jF (e := (1 + 4 * u22)) (v := a3) u22 hF (rg_T4_1_4_10 ta0) (by omega) (by omega) (by decide)
  generalize e27 : x_up h (ra0 + 4) (1 + 4 * u22) a3 = h25 at j26 f28 ⊢
  refine x_retV (np := 51) (x := 0) (by decide +kernel) (by decide +kernel) ⟨rfl, ?_⟩
  exact ⟨j26, f28⟩
set_option maxHeartbeats 0 in
/-- LentNames$TownReader.readInto(LLentNames$Table;IIII)Z -/
theorem c102_61_T3_c1_c0 {sc : Nat × Nat} {d ra1 a2 a5 : Nat} {h : xh} (hJ : J h) (ta1 : tw ra1) (ba2 : 2147483647 ≤ a2 ∧ a2 ≤ 2147483657) (ba5 : 2147483659 ≤ a5 ∧ a5 ≤ 2147483659) : X sc 102 (d + 2) (xI fun r h' => J h' ∧ Fr 161 h h' ∧ (2147483648 ≤ r ∧ r ≤ 2147483649)) 0 0 0 [x_r 61, x_r (ra1 + 3), iv_c a2, iv_c 2147483649, iv_c 2147483648, iv_c a5, 147573952589676412928] [] h := by
  have la2 : a2 < 4294967296 := by omega
  have la5 : a5 < 4294967296 := by omega
  have hF := Fr.refl 161 h
  refine x_aload (np := 1) (x := 0) (by decide +kernel) rfl (x_nc_le (by decide)) ?_
  have q1 : h 61 0 = 1 := by have z := jB (e := 0) 0 hJ rg_61_0_0_1 (by decide) (by decide); omega
  refine x_getR (np := 4) (x := 576) (f := 0) (q := 1) (by decide +kernel) (by decide) (by decide +kernel) q1 ?_
  refine x_iload (np := 6) (x := 4) (by decide +kernel) rfl (by decide) ?_
  refine x_iload (np := 8) (x := 5) (by decide +kernel) rfl la5 ?_
  refine x_cI (t := 6) (mj := 79) (n := 3) (rc := 8) (ml := 5) (nr := 0) (np := 11) (as := [x_r 1, iv_c 2147483648, iv_c a5]) (rest := []) (lo1 := [x_r 1, iv_c 2147483648, iv_c a5, 147573952589676412928, 147573952589676412928]) (by decide +kernel) (by decide) (by decide +kernel) (x_rb_of (by decide +kernel)) rfl rfl (x_wr (by decide) (x_wi (by decide) (x_wi la5 x_wn))) x_wn (by decide) rfl (c79_1_c0 hJ   (by omega)) (fun v2 h5 l3 q4 => ?_)
  obtain ⟨j6, f7, b8, c9⟩ := q4
  have f10 := Fr.trans hF f7 (by decide)
  refine x_istore (np := 13) (x := 6) (lo' := [x_r 61, x_r (ra1 + 3), iv_c a2, iv_c 2147483649, iv_c 2147483648, iv_c a5, iv_c v2]) (by decide +kernel) l3 (Nat.le_of_ble_eq_true rfl) rfl ?_
  refine x_iload (np := 15) (x := 6) (by decide +kernel) rfl l3 ?_
  refine x_const (np := 16) (x := 9223372034707292159) (a := 2147483647) (by decide +kernel) (by decide) (by decide) ?_
  refine x_icmp (k := 1) (tg := 21) (np := 19) (by decide +kernel) (by decide) l3 (by decide) (fun q11 => ?_) (fun q12 => ?_)
  · have q11 : v2 ≠ 2147483647 := q11
    refine x_aload (np := 22) (x := 1) (by decide +kernel) rfl (x_nc_le (tn_3 ta1)) ?_
    refine x_iload (np := 23) (x := 2) (by decide +kernel) rfl la2 ?_
    refine x_iload (np := 24) (x := 3) (by decide +kernel) rfl (by decide) ?_
    refine x_iload (np := 26) (x := 6) (by decide +kernel) rfl l3 ?_
    refine x_cV (t := 6) (mj := 69) (n := 4) (rc := 7) (ml := 5) (nr := 0) (np := 29) (as := [x_r (ra1 + 3), iv_c a2, iv_c 2147483649, iv_c v2]) (rest := []) (lo1 := [x_r (ra1 + 3), iv_c a2, iv_c 2147483649, iv_c v2, 147573952589676412928]) (by decide +kernel) (by decide) (by decide +kernel) (x_rb_of (tr_3_7 ta1)) rfl rfl (x_wr (tn_3 ta1) (x_wi la2 (x_wi (by decide) (x_wi l3 x_wn)))) x_wn (by decide) rfl (c69_T3_c1 j6 ta1 (by omega)  (by omega)) (fun h16 q15 => ?_)
    obtain ⟨j17, f18⟩ := q15
    have f21 := Fr.trans f10 f18 (by decide)
    refine x_const (np := 30) (x := 9223372043297226753) (a := 2147483649) (by decide +kernel) (by decide) (by decide) ?_
    refine x_retI (np := 31) (x := 0) (by decide +kernel) (by decide) (Or.inr ⟨by decide +kernel, by omega, by omega⟩) ⟨_, rfl, (by decide), ?_⟩
    exact ⟨j17, f21, (by omega)⟩
  have q12 : ¬ (v2 ≠ 2147483647) := q12
  refine x_const (np := 20) (x := 9223372039002259456) (a := 2147483648) (by decide +kernel) (by decide) (by decide) ?_
  refine x_retI (np := 21) (x := 0) (by decide +kernel) (by decide) (Or.inr ⟨by decide +kernel, by omega, by omega⟩) ⟨_, rfl, (by decide), ?_⟩
  exact ⟨j6, f10, (by omega)⟩
set_option maxHeartbeats 0 in
/-- LentNames$Table.at(II)I -/
theorem c68_T3_c1 {sc : Nat × Nat} {d ra0 a1 : Nat} {h : xh} (hJ : J h) (ta0 : tw ra0) (ba1 : 2147483647 ≤ a1 ∧ a1 ≤ 2147483657) : X sc 68 d (xI fun r h' => h' = h ∧ (0 ≤ r ∧ r ≤ 4294967295)) 0 0 0 [x_r (ra0 + 3), iv_c a1, iv_c 2147483649, 147573952589676412928] [] h := by
  have la1 : a1 < 4294967296 := by omega
  refine x_iload (np := 1) (x := 1) (by decide +kernel) rfl la1 ?_
  refine x_ifz (k := 2) (tg := 28) (np := 4) (by decide +kernel) (by decide) la1 (fun q1 => ?_) (fun q2 => ?_)
  · have q1 : a1 < 2147483648 := q1
    refine x_const (np := 29) (x := 9223372039002259456) (a := 2147483648) (by decide +kernel) (by decide) (by decide) ?_
    refine x_istore (np := 30) (x := 3) (lo' := [x_r (ra0 + 3), iv_c a1, iv_c 2147483649, iv_c 2147483648]) (by decide +kernel) (by decide) (Nat.le_of_ble_eq_true rfl) rfl ?_
    refine x_iload (np := 31) (x := 3) (by decide +kernel) rfl (by decide) ?_
    refine x_ifz (k := 0) (tg := 50) (np := 34) (by decide +kernel) (by decide) (by decide) (fun q3 => ?_) (fun q4 => ?_)
    · have q3 : 2147483648 = 2147483648 := q3
      refine x_const (np := 51) (x := 9223372034707292159) (a := 2147483647) (by decide +kernel) (by decide) (by decide) ?_
      refine x_retI (np := 52) (x := 0) (by decide +kernel) (by decide) (Or.inl (by decide +kernel)) ⟨_, rfl, (by decide), ?_⟩
      exact ⟨rfl, (by omega)⟩
    have q4 : ¬ (2147483648 = 2147483648) := q4
    exfalso; omega
  have q2 : ¬ (a1 < 2147483648) := q2
  refine x_iload (np := 5) (x := 1) (by decide +kernel) rfl la1 ?_
  refine x_aload (np := 6) (x := 0) (by decide +kernel) rfl (x_nc_le (tn_3 ta0)) ?_
  have b5 := jB (e := 2) 0 hJ (rg_T3_2_0_1 ta0) (by omega) (by omega)
  refine x_getC (np := 9) (x := 386) (f := 2) (q := (h (ra0 + 3) 2)) (by decide +kernel) (by decide) (tg_3_386_2_0 ta0) rfl (fun l6 => ?_)
  refine x_icmp (k := 3) (tg := 28) (np := 12) (by decide +kernel) (by decide) la1 l6 (fun q7 => ?_) (fun q8 => ?_)
  · have q7 : (h (ra0 + 3) 2) ≤ a1 := q7
    refine x_const (np := 29) (x := 9223372039002259456) (a := 2147483648) (by decide +kernel) (by decide) (by decide) ?_
    refine x_istore (np := 30) (x := 3) (lo' := [x_r (ra0 + 3), iv_c a1, iv_c 2147483649, iv_c 2147483648]) (by decide +kernel) (by decide) (Nat.le_of_ble_eq_true rfl) rfl ?_
    refine x_iload (np := 31) (x := 3) (by decide +kernel) rfl (by decide) ?_
    refine x_ifz (k := 0) (tg := 50) (np := 34) (by decide +kernel) (by decide) (by decide) (fun q9 => ?_) (fun q10 => ?_)
    · have q9 : 2147483648 = 2147483648 := q9
      refine x_const (np := 51) (x := 9223372034707292159) (a := 2147483647) (by decide +kernel) (by decide) (by decide) ?_
      refine x_retI (np := 52) (x := 0) (by decide +kernel) (by decide) (Or.inl (by decide +kernel)) ⟨_, rfl, (by decide), ?_⟩
      exact ⟨rfl, (by omega)⟩
    have q10 : ¬ (2147483648 = 2147483648) := q10
    exfalso; omega
  have q8 : ¬ ((h (ra0 + 3) 2) ≤ a1) := q8
  refine x_iload (np := 13) (x := 2) (by decide +kernel) rfl (by decide) ?_
  refine x_ifz (k := 2) (tg := 28) (np := 16) (by decide +kernel) (by decide) (by decide) (fun q11 => ?_) (fun q12 => ?_)
  · have q11 : 2147483649 < 2147483648 := q11
    exfalso; omega
  have q12 : ¬ (2147483649 < 2147483648) := q12
  refine x_iload (np := 17) (x := 2) (by decide +kernel) rfl (by decide) ?_
  refine x_aload (np := 18) (x := 0) (by decide +kernel) rfl (x_nc_le (tn_3 ta0)) ?_
  have b13 := jB (e := 0) 0 hJ (rg_T3_0_0_1 ta0) (by omega) (by omega)
  have q14 : (h (ra0 + 3) 0) = 2147483652 := by omega
  refine x_getC (np := 21) (x := 384) (f := 0) (q := 2147483652) (by decide +kernel) (by decide) (tg_3_384_0_0 ta0) q14 (fun l15 => ?_)
  refine x_icmp (k := 3) (tg := 28) (np := 24) (by decide +kernel) (by decide) (by decide) (by decide) (fun q16 => ?_) (fun q17 => ?_)
  · have q16 : 2147483652 ≤ 2147483649 := q16
    exfalso; omega
  have q17 : ¬ (2147483652 ≤ 2147483649) := q17
  refine x_const (np := 25) (x := 9223372043297226753) (a := 2147483649) (by decide +kernel) (by decide) (by decide) ?_
  refine x_goto (np := 28) (x := 29) (by decide +kernel) ?_
  refine x_istore (np := 30) (x := 3) (lo' := [x_r (ra0 + 3), iv_c a1, iv_c 2147483649, iv_c 2147483649]) (by decide +kernel) (by decide) (Nat.le_of_ble_eq_true rfl) rfl ?_
  refine x_iload (np := 31) (x := 3) (by decide +kernel) rfl (by decide) ?_
  refine x_ifz (k := 0) (tg := 50) (np := 34) (by decide +kernel) (by decide) (by decide) (fun q18 => ?_) (fun q19 => ?_)
  · have q18 : 2147483649 = 2147483648 := q18
    exfalso; omega
  have q19 : ¬ (2147483649 = 2147483648) := q19
  refine x_aload (np := 35) (x := 0) (by decide +kernel) rfl (x_nc_le (tn_3 ta0)) ?_
  have q20 : h (ra0 + 3) 1 = (ra0 + 4) := tf_3_1 hJ ta0
  refine x_getR (np := 38) (x := 385) (f := 1) (q := (ra0 + 4)) (by decide +kernel) (by decide) (tg_3_385_1_1 ta0) q20 ?_
  refine x_iload (np := 39) (x := 1) (by decide +kernel) rfl la1 ?_
  refine x_aload (np := 40) (x := 0) (by decide +kernel) rfl (x_nc_le (tn_3 ta0)) ?_
  refine x_getC (np := 43) (x := 384) (f := 0) (q := 2147483652) (by decide +kernel) (by decide) (tg_3_384_0_0 ta0) q14 (fun l21 => ?_)
  obtain ⟨u22, q23⟩ : ∃ z, a1 = 2147483648 + z := ⟨a1 - 2147483648, by omega⟩
  refine x_imul (np := 44) (x := 0) (i := u22) (j := 4) (v := (2147483648 + 4 * u22)) (by decide +kernel) (by omega) (by omega) (by omega) (by omega) la1 (by decide) ?_
  refine x_iload (np := 45) (x := 2) (by decide +kernel) rfl (by decide) ?_
  refine x_iadd (np := 46) (x := 0) (v := (2147483649 + 4 * u22)) (by decide +kernel) (by omega) (by decide) (by omega) (by omega) ?_
  refine x_aldC (np := 47) (x := 0) (n := 40) (i := (1 + 4 * u22)) (q := ((h (ra0 + 4) (1 + 4 * u22)))) (by decide +kernel) (ta_4_40 ta0) (by omega) (by omega) (by decide) rfl (fun l25 => ?_)
  refine x_goto (np := 50) (x := 51) (by decide +kernel) ?_
  refine x_retI (np := 52) (x := 0) (by decide +kernel) l25 (Or.inl (by decide +kernel)) ⟨_, rfl, l25, ?_⟩
  exact ⟨rfl, (by omega)⟩
