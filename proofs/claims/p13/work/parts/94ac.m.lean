/-! ===== methods ===== -/
set_option maxHeartbeats 0 in
/-- LentNames$Calendar.isGranted(III)Z -/
theorem c24_45 {sc : Nat × Nat} {d a1 a2 a3 : Nat} {h : xh} (hJ : J h) (ba1 : 2147483648 ≤ a1 ∧ a1 ≤ 2147483667) (ba2 : 2147483648 ≤ a2 ∧ a2 ≤ 2147483653) (ba3 : 2147483648 ≤ a3 ∧ a3 ≤ 2147483659) : X sc 24 (d + 3) (xI fun r h' => J h' ∧ Fr 140737488356353 h h' ∧ (2147483648 ≤ r ∧ r ≤ 2147483649)) 0 0 0 [x_r 45, iv_c a1, iv_c a2, iv_c a3, 147573952589676412928, 147573952589676412928] [] h := by
  have la1 : a1 < 4294967296 := by first | decide | omega
  have la2 : a2 < 4294967296 := by first | decide | omega
  have la3 : a3 < 4294967296 := by first | decide | omega
  have hF := Fr.refl 140737488356353 h
  refine x_aload (np := 1) (x := 0) (by decide +kernel) rfl (x_nc_le (by decide)) ?_
  refine x_iload (np := 2) (x := 2) (by decide +kernel) rfl la2 ?_
  refine x_cP (t := 6) (mj := 32) (n := 2) (rc := 2) (ml := 2) (nr := 0) (np := 5) (as := [x_r 45, iv_c a2]) (rest := []) (lo1 := [x_r 45, iv_c a2]) (by decide +kernel) (by decide) (by decide +kernel) (x_rb_of (by decide +kernel)) rfl rfl (x_wr (by decide) (x_wi la2 x_wn)) x_wn (by decide) rfl (c32_45 hJ  (by first | decide | omega)) (fun v1 l2 q3 => ?_)
  refine x_istore (np := 7) (x := 4) (lo' := [x_r 45, iv_c a1, iv_c a2, iv_c a3, iv_c v1, 147573952589676412928]) (by decide +kernel) l2 (Nat.le_of_ble_eq_true rfl) rfl ?_
  refine x_aload (np := 8) (x := 0) (by decide +kernel) rfl (x_nc_le (by decide)) ?_
  have t4 : tw (h 45 5) := hJ.2.2.2.1
  refine x_getR (np := 11) (x := 69) (f := 5) (q := (h 45 5)) (by decide +kernel) (by decide) (by decide +kernel) rfl ?_
  have q5 : h (h 45 5) 0 = ((h 45 5) + 1) := tf_0_0 hJ t4
  refine x_getR (np := 14) (x := 512) (f := 0) (q := ((h 45 5) + 1)) (by decide +kernel) (by decide) (tg_0_512_0_1 t4) q5 ?_
  refine x_iload (np := 15) (x := 1) (by decide +kernel) rfl la1 ?_
  refine x_const (np := 16) (x := 9223372043297226753) (a := 2147483649) (by decide +kernel) (by decide) (by decide) ?_
  refine x_cP (t := 6) (mj := 68) (n := 3) (rc := 7) (ml := 4) (nr := 0) (np := 19) (as := [x_r ((h 45 5) + 1), iv_c a1, iv_c 2147483649]) (rest := []) (lo1 := [x_r ((h 45 5) + 1), iv_c a1, iv_c 2147483649, 147573952589676412928]) (by decide +kernel) (by decide) (by decide +kernel) (x_rb_of (tr_1_7 t4)) rfl rfl (x_wr (tn_1 t4) (x_wi la1 (x_wi (by decide) x_wn))) x_wn (by decide) rfl (c68_T1_c1 hJ t4 (by first | decide | omega) ) (fun v7 l8 q9 => ?_)
  refine x_istore (np := 21) (x := 5) (lo' := [x_r 45, iv_c a1, iv_c a2, iv_c a3, iv_c v1, iv_c v7]) (by decide +kernel) l8 (Nat.le_of_ble_eq_true rfl) rfl ?_
  refine x_aload (np := 22) (x := 0) (by decide +kernel) rfl (x_nc_le (by decide)) ?_
  have q10 : h 45 13 = 58 := by have z := jB (e := 13) 0 hJ rg_45_13_0_1 (by decide) (by decide); omega
  refine x_getR (np := 25) (x := 77) (f := 13) (q := 58) (by decide +kernel) (by decide) (by decide +kernel) q10 ?_
  refine x_const (np := 26) (x := 9223372039002259456) (a := 2147483648) (by decide +kernel) (by decide) (by decide) ?_
  refine x_iload (np := 27) (x := 3) (by decide +kernel) rfl la3 ?_
  refine x_ast (np := 28) (x := 0) (kd := 1) (n := 8) (i := 0) (by decide +kernel) (Or.inl rfl) (by decide +kernel) (by first | decide | omega) (by first | decide | omega) (by decide) la3 (fun z => absurd z (by decide)) ?_
  have j12 := jU (e := 0) (v := a3) 0 hJ rg_58_0_1_8 (by first | decide | omega) (by first | decide | omega) (by first | decide | omega)
  have f14 := jF (e := 0) (v := a3) 0 hF rg_58_0_1_8 (by first | decide | omega) (by first | decide | omega) (by decide)
  generalize e13 : x_up h 58 0 a3 = h11 at j12 f14 ⊢
  refine x_aload (np := 29) (x := 0) (by decide +kernel) rfl (x_nc_le (by decide)) ?_
  have q15 : h11 45 13 = 58 := by have z := jB (e := 13) 0 j12 rg_45_13_0_1 (by decide) (by decide); omega
  refine x_getR (np := 32) (x := 77) (f := 13) (q := 58) (by decide +kernel) (by decide) (by decide +kernel) q15 ?_
  refine x_const (np := 33) (x := 9223372043297226753) (a := 2147483649) (by decide +kernel) (by decide) (by decide) ?_
  refine x_aload (np := 34) (x := 0) (by decide +kernel) rfl (x_nc_le (by decide)) ?_
  have q16 : h11 45 5 = h 45 5 := by rw [← e13]; exact x_up_k (by decide)
  refine x_getR (np := 37) (x := 69) (f := 5) (q := (h 45 5)) (by decide +kernel) (by decide) (by decide +kernel) q16 ?_
  have q17 : h11 (h 45 5) 0 = ((h 45 5) + 1) := tf_0_0 j12 t4
  refine x_getR (np := 40) (x := 512) (f := 0) (q := ((h 45 5) + 1)) (by decide +kernel) (by decide) (tg_0_512_0_1 t4) q17 ?_
  refine x_iload (np := 41) (x := 1) (by decide +kernel) rfl la1 ?_
  refine x_const (np := 42) (x := 9223372051887161347) (a := 2147483651) (by decide +kernel) (by decide) (by decide) ?_
  refine x_cP (t := 6) (mj := 68) (n := 3) (rc := 7) (ml := 4) (nr := 2) (np := 45) (as := [x_r ((h 45 5) + 1), iv_c a1, iv_c 2147483651]) (rest := [iv_c 2147483649, x_r 58]) (lo1 := [x_r ((h 45 5) + 1), iv_c a1, iv_c 2147483651, 147573952589676412928]) (by decide +kernel) (by decide) (by decide +kernel) (x_rb_of (tr_1_7 t4)) rfl rfl (x_wr (tn_1 t4) (x_wi la1 (x_wi (by decide) x_wn))) (x_wi (by decide) (x_wr (by decide) x_wn)) (by decide) rfl (c68_T1_c3 j12 t4 (by first | decide | omega) ) (fun v20 l21 q22 => ?_)
  refine x_ast (np := 46) (x := 0) (kd := 1) (n := 8) (i := 1) (by decide +kernel) (Or.inl rfl) (by decide +kernel) (by first | decide | omega) (by first | decide | omega) (by decide) l21 (fun z => absurd z (by decide)) ?_
  have j24 := jU (e := 1) (v := v20) 1 j12 rg_58_0_1_8 (by first | decide | omega) (by first | decide | omega) (by first | decide | omega)
  have f26 := jF (e := 1) (v := v20) 1 f14 rg_58_0_1_8 (by first | decide | omega) (by first | decide | omega) (by decide)
  generalize e25 : x_up h11 58 1 v20 = h23 at j24 f26 ⊢
  refine x_aload (np := 47) (x := 0) (by decide +kernel) rfl (x_nc_le (by decide)) ?_
  have q27 : h23 45 13 = 58 := by have z := jB (e := 13) 0 j24 rg_45_13_0_1 (by decide) (by decide); omega
  refine x_getR (np := 50) (x := 77) (f := 13) (q := 58) (by decide +kernel) (by decide) (by decide +kernel) q27 ?_
  refine x_const (np := 51) (x := 9223372047592194050) (a := 2147483650) (by decide +kernel) (by decide) (by decide) ?_
  refine x_aload (np := 52) (x := 0) (by decide +kernel) rfl (x_nc_le (by decide)) ?_
  have q28 : h23 45 5 = h11 45 5 := by rw [← e25]; exact x_up_k (by decide)
  have q29 : h11 45 5 = h 45 5 := by rw [← e13]; exact x_up_k (by decide)
  refine x_getR (np := 55) (x := 69) (f := 5) (q := (h 45 5)) (by decide +kernel) (by decide) (by decide +kernel) (q28.trans q29) ?_
  have q30 : h23 (h 45 5) 0 = ((h 45 5) + 1) := tf_0_0 j24 t4
  refine x_getR (np := 58) (x := 512) (f := 0) (q := ((h 45 5) + 1)) (by decide +kernel) (by decide) (tg_0_512_0_1 t4) q30 ?_
  refine x_iload (np := 59) (x := 1) (by decide +kernel) rfl la1 ?_
  refine x_const (np := 60) (x := 9223372060477095941) (a := 2147483653) (by decide +kernel) (by decide) (by decide) ?_
  refine x_cP (t := 6) (mj := 68) (n := 3) (rc := 7) (ml := 4) (nr := 2) (np := 63) (as := [x_r ((h 45 5) + 1), iv_c a1, iv_c 2147483653]) (rest := [iv_c 2147483650, x_r 58]) (lo1 := [x_r ((h 45 5) + 1), iv_c a1, iv_c 2147483653, 147573952589676412928]) (by decide +kernel) (by decide) (by decide +kernel) (x_rb_of (tr_1_7 t4)) rfl rfl (x_wr (tn_1 t4) (x_wi la1 (x_wi (by decide) x_wn))) (x_wi (by decide) (x_wr (by decide) x_wn)) (by decide) rfl (c68_T1_c5 j24 t4 (by first | decide | omega) ) (fun v34 l35 q36 => ?_)
  refine x_ast (np := 64) (x := 0) (kd := 1) (n := 8) (i := 2) (by decide +kernel) (Or.inl rfl) (by decide +kernel) (by first | decide | omega) (by first | decide | omega) (by decide) l35 (fun z => absurd z (by decide)) ?_
  have j38 := jU (e := 2) (v := v34) 2 j24 rg_58_0_1_8 (by first | decide | omega) (by first | decide | omega) (by first | decide | omega)
  have f40 := jF (e := 2) (v := v34) 2 f26 rg_58_0_1_8 (by first | decide | omega) (by first | decide | omega) (by decide)
  generalize e39 : x_up h23 58 2 v34 = h37 at j38 f40 ⊢
  refine x_aload (np := 65) (x := 0) (by decide +kernel) rfl (x_nc_le (by decide)) ?_
  have q41 : h37 45 13 = 58 := by have z := jB (e := 13) 0 j38 rg_45_13_0_1 (by decide) (by decide); omega
  refine x_getR (np := 68) (x := 77) (f := 13) (q := 58) (by decide +kernel) (by decide) (by decide +kernel) q41 ?_
  refine x_const (np := 69) (x := 9223372051887161347) (a := 2147483651) (by decide +kernel) (by decide) (by decide) ?_
  refine x_aload (np := 70) (x := 0) (by decide +kernel) rfl (x_nc_le (by decide)) ?_
  have q42 : h37 45 12 = 57 := by have z := jB (e := 12) 0 j38 rg_45_12_0_1 (by decide) (by decide); omega
  refine x_getR (np := 73) (x := 76) (f := 12) (q := 57) (by decide +kernel) (by decide) (by decide +kernel) q42 ?_
  refine x_iload (np := 74) (x := 2) (by decide +kernel) rfl la2 ?_
  obtain ⟨u43, q44⟩ : ∃ z, a2 = 2147483648 + z := ⟨a2 - 2147483648, by first | decide | omega⟩
  have q45 : h37 57 u43 = h23 57 u43 := by rw [← e39]; exact x_up_k (by decide)
  have q46 : h23 57 u43 = h11 57 u43 := by rw [← e25]; exact x_up_k (by decide)
  have q47 : h11 57 u43 = h 57 u43 := by rw [← e13]; exact x_up_k (by decide)
  have b48 := jB (e := u43) u43 hJ rg_57_0_1_6 (by first | decide | omega) (by first | decide | omega)
  refine x_aldC (np := 75) (x := 0) (n := 6) (i := u43) (q := (h 57 u43)) (by decide +kernel) (by decide +kernel) (by first | decide | omega) (by first | decide | omega) (by decide) ((q45.trans q46).trans q47) (fun l49 => ?_)
  refine x_ast (np := 76) (x := 0) (kd := 1) (n := 8) (i := 3) (by decide +kernel) (Or.inl rfl) (by decide +kernel) (by first | decide | omega) (by first | decide | omega) (by decide) l49 (fun z => absurd z (by decide)) ?_
  have j51 := jU (e := 3) (v := (h 57 u43)) 3 j38 rg_58_0_1_8 (by first | decide | omega) (by first | decide | omega) (by first | decide | omega)
  have f53 := jF (e := 3) (v := (h 57 u43)) 3 f40 rg_58_0_1_8 (by first | decide | omega) (by first | decide | omega) (by decide)
  generalize e52 : x_up h37 58 3 (h 57 u43) = h50 at j51 f53 ⊢
  refine x_aload (np := 77) (x := 0) (by decide +kernel) rfl (x_nc_le (by decide)) ?_
  have q54 : h50 45 13 = 58 := by have z := jB (e := 13) 0 j51 rg_45_13_0_1 (by decide) (by decide); omega
  refine x_getR (np := 80) (x := 77) (f := 13) (q := 58) (by decide +kernel) (by decide) (by decide +kernel) q54 ?_
  refine x_const (np := 81) (x := 9223372056182128644) (a := 2147483652) (by decide +kernel) (by decide) (by decide) ?_
  refine x_aload (np := 82) (x := 0) (by decide +kernel) rfl (x_nc_le (by decide)) ?_
  refine x_iload (np := 84) (x := 4) (by decide +kernel) rfl l2 ?_
  refine x_cP (t := 6) (mj := 25) (n := 2) (rc := 2) (ml := 4) (nr := 2) (np := 87) (as := [x_r 45, iv_c v1]) (rest := [iv_c 2147483652, x_r 58]) (lo1 := [x_r 45, iv_c v1, 147573952589676412928, 147573952589676412928]) (by decide +kernel) (by decide) (by decide +kernel) (x_rb_of (by decide +kernel)) rfl rfl (x_wr (by decide) (x_wi l2 x_wn)) (x_wi (by decide) (x_wr (by decide) x_wn)) (by decide) rfl (c25_45 j51  (by first | decide | omega)) (fun v55 l56 q57 => ?_)
  refine x_ast (np := 88) (x := 0) (kd := 1) (n := 8) (i := 4) (by decide +kernel) (Or.inl rfl) (by decide +kernel) (by first | decide | omega) (by first | decide | omega) (by decide) l56 (fun z => absurd z (by decide)) ?_
  have j59 := jU (e := 4) (v := v55) 4 j51 rg_58_0_1_8 (by first | decide | omega) (by first | decide | omega) (by first | decide | omega)
  have f61 := jF (e := 4) (v := v55) 4 f53 rg_58_0_1_8 (by first | decide | omega) (by first | decide | omega) (by decide)
  generalize e60 : x_up h50 58 4 v55 = h58 at j59 f61 ⊢
  refine x_aload (np := 89) (x := 0) (by decide +kernel) rfl (x_nc_le (by decide)) ?_
  have q62 : h58 45 13 = 58 := by have z := jB (e := 13) 0 j59 rg_45_13_0_1 (by decide) (by decide); omega
  refine x_getR (np := 92) (x := 77) (f := 13) (q := 58) (by decide +kernel) (by decide) (by decide +kernel) q62 ?_
  refine x_const (np := 93) (x := 9223372060477095941) (a := 2147483653) (by decide +kernel) (by decide) (by decide) ?_
  refine x_aload (np := 94) (x := 0) (by decide +kernel) rfl (x_nc_le (by decide)) ?_
  refine x_iload (np := 96) (x := 5) (by decide +kernel) rfl l8 ?_
  refine x_cP (t := 6) (mj := 25) (n := 2) (rc := 2) (ml := 4) (nr := 2) (np := 99) (as := [x_r 45, iv_c v7]) (rest := [iv_c 2147483653, x_r 58]) (lo1 := [x_r 45, iv_c v7, 147573952589676412928, 147573952589676412928]) (by decide +kernel) (by decide) (by decide +kernel) (x_rb_of (by decide +kernel)) rfl rfl (x_wr (by decide) (x_wi l8 x_wn)) (x_wi (by decide) (x_wr (by decide) x_wn)) (by decide) rfl (c25_45 j59  (by first | decide | omega)) (fun v63 l64 q65 => ?_)
  refine x_ast (np := 100) (x := 0) (kd := 1) (n := 8) (i := 5) (by decide +kernel) (Or.inl rfl) (by decide +kernel) (by first | decide | omega) (by first | decide | omega) (by decide) l64 (fun z => absurd z (by decide)) ?_
  have j67 := jU (e := 5) (v := v63) 5 j59 rg_58_0_1_8 (by first | decide | omega) (by first | decide | omega) (by first | decide | omega)
  have f69 := jF (e := 5) (v := v63) 5 f61 rg_58_0_1_8 (by first | decide | omega) (by first | decide | omega) (by decide)
  generalize e68 : x_up h58 58 5 v63 = h66 at j67 f69 ⊢
  refine x_aload (np := 101) (x := 0) (by decide +kernel) rfl (x_nc_le (by decide)) ?_
  have q70 : h66 45 13 = 58 := by have z := jB (e := 13) 0 j67 rg_45_13_0_1 (by decide) (by decide); omega
  refine x_getR (np := 104) (x := 77) (f := 13) (q := 58) (by decide +kernel) (by decide) (by decide +kernel) q70 ?_
  refine x_const (np := 106) (x := 9223372064772063238) (a := 2147483654) (by decide +kernel) (by decide) (by decide) ?_
  refine x_iload (np := 108) (x := 4) (by decide +kernel) rfl l2 ?_
  refine x_iload (np := 109) (x := 2) (by decide +kernel) rfl la2 ?_
  refine x_icmp (k := 1) (tg := 116) (np := 112) (by decide +kernel) (by decide) l2 la2 (fun q71 => ?_) (fun q72 => ?_)
  · have q71 : v1 ≠ a2 := q71
    refine x_const (np := 117) (x := 9223372039002259456) (a := 2147483648) (by decide +kernel) (by decide) (by decide) ?_
    refine x_ast (np := 118) (x := 0) (kd := 1) (n := 8) (i := 6) (by decide +kernel) (Or.inl rfl) (by decide +kernel) (by first | decide | omega) (by first | decide | omega) (by decide) (by decide) (fun z => absurd z (by decide)) ?_
    have j74 := jU (e := 6) (v := 2147483648) 6 j67 rg_58_0_1_8 (by first | decide | omega) (by first | decide | omega) (by first | decide | omega)
    have f76 := jF (e := 6) (v := 2147483648) 6 f69 rg_58_0_1_8 (by first | decide | omega) (by first | decide | omega) (by decide)
    generalize e75 : x_up h66 58 6 2147483648 = h73 at j74 f76 ⊢
    refine x_aload (np := 119) (x := 0) (by decide +kernel) rfl (x_nc_le (by decide)) ?_
    have q77 : h73 45 13 = 58 := by have z := jB (e := 13) 0 j74 rg_45_13_0_1 (by decide) (by decide); omega
    refine x_getR (np := 122) (x := 77) (f := 13) (q := 58) (by decide +kernel) (by decide) (by decide +kernel) q77 ?_
    refine x_const (np := 124) (x := 9223372069067030535) (a := 2147483655) (by decide +kernel) (by decide) (by decide) ?_
    refine x_iload (np := 126) (x := 5) (by decide +kernel) rfl l8 ?_
    refine x_iload (np := 127) (x := 2) (by decide +kernel) rfl la2 ?_
    refine x_icmp (k := 1) (tg := 134) (np := 130) (by decide +kernel) (by decide) l8 la2 (fun q78 => ?_) (fun q79 => ?_)
    · have q78 : v7 ≠ a2 := q78
      refine x_const (np := 135) (x := 9223372039002259456) (a := 2147483648) (by decide +kernel) (by decide) (by decide) ?_
      refine x_ast (np := 136) (x := 0) (kd := 1) (n := 8) (i := 7) (by decide +kernel) (Or.inl rfl) (by decide +kernel) (by first | decide | omega) (by first | decide | omega) (by decide) (by decide) (fun z => absurd z (by decide)) ?_
      have j81 := jU (e := 7) (v := 2147483648) 7 j74 rg_58_0_1_8 (by first | decide | omega) (by first | decide | omega) (by first | decide | omega)
      have f83 := jF (e := 7) (v := 2147483648) 7 f76 rg_58_0_1_8 (by first | decide | omega) (by first | decide | omega) (by decide)
      generalize e82 : x_up h73 58 7 2147483648 = h80 at j81 f83 ⊢
      refine x_aload (np := 137) (x := 0) (by decide +kernel) rfl (x_nc_le (by decide)) ?_
      have q84 : h80 45 5 = h73 45 5 := by rw [← e82]; exact x_up_k (by decide)
      have q85 : h73 45 5 = h66 45 5 := by rw [← e75]; exact x_up_k (by decide)
      have q86 : h66 45 5 = h58 45 5 := by rw [← e68]; exact x_up_k (by decide)
      have q87 : h58 45 5 = h50 45 5 := by rw [← e60]; exact x_up_k (by decide)
      have q88 : h50 45 5 = h37 45 5 := by rw [← e52]; exact x_up_k (by decide)
      have q89 : h37 45 5 = h23 45 5 := by rw [← e39]; exact x_up_k (by decide)
      have q90 : h23 45 5 = h11 45 5 := by rw [← e25]; exact x_up_k (by decide)
      have q91 : h11 45 5 = h 45 5 := by rw [← e13]; exact x_up_k (by decide)
      refine x_getR (np := 140) (x := 69) (f := 5) (q := (h 45 5)) (by decide +kernel) (by decide) (by decide +kernel) (((((((q84.trans q85).trans q86).trans q87).trans q88).trans q89).trans q90).trans q91) ?_
      have q92 : h80 (h 45 5) 6 = ((h 45 5) + 11) := tf_0_6 j81 t4
      refine x_getR (np := 143) (x := 518) (f := 6) (q := ((h 45 5) + 11)) (by decide +kernel) (by decide) (tg_0_518_6_1 t4) q92 ?_
      refine x_aload (np := 144) (x := 0) (by decide +kernel) rfl (x_nc_le (by decide)) ?_
      have q93 : h80 45 13 = 58 := by have z := jB (e := 13) 0 j81 rg_45_13_0_1 (by decide) (by decide); omega
      refine x_getR (np := 147) (x := 77) (f := 13) (q := 58) (by decide +kernel) (by decide) (by decide +kernel) q93 ?_
      refine x_cI (t := 6) (mj := 38) (n := 2) (rc := 3) (ml := 4) (nr := 0) (np := 150) (as := [x_r ((h 45 5) + 11), x_r 58]) (rest := []) (lo1 := [x_r ((h 45 5) + 11), x_r 58, 147573952589676412928, 147573952589676412928]) (by decide +kernel) (by decide) (by decide +kernel) (x_rb_of (tr_11_3 t4)) rfl rfl (x_wr (tn_11 t4) (x_wr (by decide) x_wn)) x_wn (by decide) rfl (c38_T11_58 j81 t4 ) (fun v94 h97 l95 q96 => ?_)
      obtain ⟨j98, f99, b100⟩ := q96
      have f101 := Fr.trans f83 f99 (by decide)
      refine x_retI (np := 151) (x := 0) (by decide +kernel) l95 (Or.inr ⟨by decide +kernel, by first | decide | omega, by first | decide | omega⟩) ⟨_, rfl, l95, ?_⟩
      exact ⟨j98, f101, (by first | decide | omega)⟩
    have q79 : ¬ (v7 ≠ a2) := q79
    refine x_const (np := 131) (x := 9223372043297226753) (a := 2147483649) (by decide +kernel) (by decide) (by decide) ?_
    refine x_goto (np := 134) (x := 135) (by decide +kernel) ?_
    refine x_ast (np := 136) (x := 0) (kd := 1) (n := 8) (i := 7) (by decide +kernel) (Or.inl rfl) (by decide +kernel) (by first | decide | omega) (by first | decide | omega) (by decide) (by decide) (fun z => absurd z (by decide)) ?_
    have j103 := jU (e := 7) (v := 2147483649) 7 j74 rg_58_0_1_8 (by first | decide | omega) (by first | decide | omega) (by first | decide | omega)
    have f105 := jF (e := 7) (v := 2147483649) 7 f76 rg_58_0_1_8 (by first | decide | omega) (by first | decide | omega) (by decide)
    generalize e104 : x_up h73 58 7 2147483649 = h102 at j103 f105 ⊢
    refine x_aload (np := 137) (x := 0) (by decide +kernel) rfl (x_nc_le (by decide)) ?_
    have q106 : h102 45 5 = h73 45 5 := by rw [← e104]; exact x_up_k (by decide)
    have q107 : h73 45 5 = h66 45 5 := by rw [← e75]; exact x_up_k (by decide)
    have q108 : h66 45 5 = h58 45 5 := by rw [← e68]; exact x_up_k (by decide)
    have q109 : h58 45 5 = h50 45 5 := by rw [← e60]; exact x_up_k (by decide)
    have q110 : h50 45 5 = h37 45 5 := by rw [← e52]; exact x_up_k (by decide)
    have q111 : h37 45 5 = h23 45 5 := by rw [← e39]; exact x_up_k (by decide)
    have q112 : h23 45 5 = h11 45 5 := by rw [← e25]; exact x_up_k (by decide)
    have q113 : h11 45 5 = h 45 5 := by rw [← e13]; exact x_up_k (by decide)
    refine x_getR (np := 140) (x := 69) (f := 5) (q := (h 45 5)) (by decide +kernel) (by decide) (by decide +kernel) (((((((q106.trans q107).trans q108).trans q109).trans q110).trans q111).trans q112).trans q113) ?_
    have q114 : h102 (h 45 5) 6 = ((h 45 5) + 11) := tf_0_6 j103 t4
    refine x_getR (np := 143) (x := 518) (f := 6) (q := ((h 45 5) + 11)) (by decide +kernel) (by decide) (tg_0_518_6_1 t4) q114 ?_
    refine x_aload (np := 144) (x := 0) (by decide +kernel) rfl (x_nc_le (by decide)) ?_
    have q115 : h102 45 13 = 58 := by have z := jB (e := 13) 0 j103 rg_45_13_0_1 (by decide) (by decide); omega
    refine x_getR (np := 147) (x := 77) (f := 13) (q := 58) (by decide +kernel) (by decide) (by decide +kernel) q115 ?_
    refine x_cI (t := 6) (mj := 38) (n := 2) (rc := 3) (ml := 4) (nr := 0) (np := 150) (as := [x_r ((h 45 5) + 11), x_r 58]) (rest := []) (lo1 := [x_r ((h 45 5) + 11), x_r 58, 147573952589676412928, 147573952589676412928]) (by decide +kernel) (by decide) (by decide +kernel) (x_rb_of (tr_11_3 t4)) rfl rfl (x_wr (tn_11 t4) (x_wr (by decide) x_wn)) x_wn (by decide) rfl (c38_T11_58 j103 t4 ) (fun v116 h119 l117 q118 => ?_)
    obtain ⟨j120, f121, b122⟩ := q118
    have f123 := Fr.trans f105 f121 (by decide)
    refine x_retI (np := 151) (x := 0) (by decide +kernel) l117 (Or.inr ⟨by decide +kernel, by first | decide | omega, by first | decide | omega⟩) ⟨_, rfl, l117, ?_⟩
    exact ⟨j120, f123, (by first | decide | omega)⟩
  have q72 : ¬ (v1 ≠ a2) := q72
  refine x_const (np := 113) (x := 9223372043297226753) (a := 2147483649) (by decide +kernel) (by decide) (by decide) ?_
  refine x_goto (np := 116) (x := 117) (by decide +kernel) ?_
  refine x_ast (np := 118) (x := 0) (kd := 1) (n := 8) (i := 6) (by decide +kernel) (Or.inl rfl) (by decide +kernel) (by first | decide | omega) (by first | decide | omega) (by decide) (by decide) (fun z => absurd z (by decide)) ?_
  have j125 := jU (e := 6) (v := 2147483649) 6 j67 rg_58_0_1_8 (by first | decide | omega) (by first | decide | omega) (by first | decide | omega)
  have f127 := jF (e := 6) (v := 2147483649) 6 f69 rg_58_0_1_8 (by first | decide | omega) (by first | decide | omega) (by decide)
  generalize e126 : x_up h66 58 6 2147483649 = h124 at j125 f127 ⊢
  refine x_aload (np := 119) (x := 0) (by decide +kernel) rfl (x_nc_le (by decide)) ?_
  have q128 : h124 45 13 = 58 := by have z := jB (e := 13) 0 j125 rg_45_13_0_1 (by decide) (by decide); omega
  refine x_getR (np := 122) (x := 77) (f := 13) (q := 58) (by decide +kernel) (by decide) (by decide +kernel) q128 ?_
  refine x_const (np := 124) (x := 9223372069067030535) (a := 2147483655) (by decide +kernel) (by decide) (by decide) ?_
  refine x_iload (np := 126) (x := 5) (by decide +kernel) rfl l8 ?_
  refine x_iload (np := 127) (x := 2) (by decide +kernel) rfl la2 ?_
  refine x_icmp (k := 1) (tg := 134) (np := 130) (by decide +kernel) (by decide) l8 la2 (fun q129 => ?_) (fun q130 => ?_)
  · have q129 : v7 ≠ a2 := q129
    refine x_const (np := 135) (x := 9223372039002259456) (a := 2147483648) (by decide +kernel) (by decide) (by decide) ?_
    refine x_ast (np := 136) (x := 0) (kd := 1) (n := 8) (i := 7) (by decide +kernel) (Or.inl rfl) (by decide +kernel) (by first | decide | omega) (by first | decide | omega) (by decide) (by decide) (fun z => absurd z (by decide)) ?_
    have j132 := jU (e := 7) (v := 2147483648) 7 j125 rg_58_0_1_8 (by first | decide | omega) (by first | decide | omega) (by first | decide | omega)
    have f134 := jF (e := 7) (v := 2147483648) 7 f127 rg_58_0_1_8 (by first | decide | omega) (by first | decide | omega) (by decide)
    generalize e133 : x_up h124 58 7 2147483648 = h131 at j132 f134 ⊢
    refine x_aload (np := 137) (x := 0) (by decide +kernel) rfl (x_nc_le (by decide)) ?_
    have q135 : h131 45 5 = h124 45 5 := by rw [← e133]; exact x_up_k (by decide)
    have q136 : h124 45 5 = h66 45 5 := by rw [← e126]; exact x_up_k (by decide)
    have q137 : h66 45 5 = h58 45 5 := by rw [← e68]; exact x_up_k (by decide)
    have q138 : h58 45 5 = h50 45 5 := by rw [← e60]; exact x_up_k (by decide)
    have q139 : h50 45 5 = h37 45 5 := by rw [← e52]; exact x_up_k (by decide)
    have q140 : h37 45 5 = h23 45 5 := by rw [← e39]; exact x_up_k (by decide)
    have q141 : h23 45 5 = h11 45 5 := by rw [← e25]; exact x_up_k (by decide)
    have q142 : h11 45 5 = h 45 5 := by rw [← e13]; exact x_up_k (by decide)
    refine x_getR (np := 140) (x := 69) (f := 5) (q := (h 45 5)) (by decide +kernel) (by decide) (by decide +kernel) (((((((q135.trans q136).trans q137).trans q138).trans q139).trans q140).trans q141).trans q142) ?_
    have q143 : h131 (h 45 5) 6 = ((h 45 5) + 11) := tf_0_6 j132 t4
    refine x_getR (np := 143) (x := 518) (f := 6) (q := ((h 45 5) + 11)) (by decide +kernel) (by decide) (tg_0_518_6_1 t4) q143 ?_
    refine x_aload (np := 144) (x := 0) (by decide +kernel) rfl (x_nc_le (by decide)) ?_
    have q144 : h131 45 13 = 58 := by have z := jB (e := 13) 0 j132 rg_45_13_0_1 (by decide) (by decide); omega
    refine x_getR (np := 147) (x := 77) (f := 13) (q := 58) (by decide +kernel) (by decide) (by decide +kernel) q144 ?_
    refine x_cI (t := 6) (mj := 38) (n := 2) (rc := 3) (ml := 4) (nr := 0) (np := 150) (as := [x_r ((h 45 5) + 11), x_r 58]) (rest := []) (lo1 := [x_r ((h 45 5) + 11), x_r 58, 147573952589676412928, 147573952589676412928]) (by decide +kernel) (by decide) (by decide +kernel) (x_rb_of (tr_11_3 t4)) rfl rfl (x_wr (tn_11 t4) (x_wr (by decide) x_wn)) x_wn (by decide) rfl (c38_T11_58 j132 t4 ) (fun v145 h148 l146 q147 => ?_)
    obtain ⟨j149, f150, b151⟩ := q147
    have f152 := Fr.trans f134 f150 (by decide)
    refine x_retI (np := 151) (x := 0) (by decide +kernel) l146 (Or.inr ⟨by decide +kernel, by first | decide | omega, by first | decide | omega⟩) ⟨_, rfl, l146, ?_⟩
    exact ⟨j149, f152, (by first | decide | omega)⟩
  have q130 : ¬ (v7 ≠ a2) := q130
  refine x_const (np := 131) (x := 9223372043297226753) (a := 2147483649) (by decide +kernel) (by decide) (by decide) ?_
  refine x_goto (np := 134) (x := 135) (by decide +kernel) ?_
  refine x_ast (np := 136) (x := 0) (kd := 1) (n := 8) (i := 7) (by decide +kernel) (Or.inl rfl) (by decide +kernel) (by first | decide | omega) (by first | decide | omega) (by decide) (by decide) (fun z => absurd z (by decide)) ?_
  have j154 := jU (e := 7) (v := 2147483649) 7 j125 rg_58_0_1_8 (by first | decide | omega) (by first | decide | omega) (by first | decide | omega)
  have f156 := jF (e := 7) (v := 2147483649) 7 f127 rg_58_0_1_8 (by first | decide | omega) (by first | decide | omega) (by decide)
  generalize e155 : x_up h124 58 7 2147483649 = h153 at j154 f156 ⊢
  refine x_aload (np := 137) (x := 0) (by decide +kernel) rfl (x_nc_le (by decide)) ?_
  have q157 : h153 45 5 = h124 45 5 := by rw [← e155]; exact x_up_k (by decide)
  have q158 : h124 45 5 = h66 45 5 := by rw [← e126]; exact x_up_k (by decide)
  have q159 : h66 45 5 = h58 45 5 := by rw [← e68]; exact x_up_k (by decide)
  have q160 : h58 45 5 = h50 45 5 := by rw [← e60]; exact x_up_k (by decide)
  have q161 : h50 45 5 = h37 45 5 := by rw [← e52]; exact x_up_k (by decide)
  have q162 : h37 45 5 = h23 45 5 := by rw [← e39]; exact x_up_k (by decide)
  have q163 : h23 45 5 = h11 45 5 := by rw [← e25]; exact x_up_k (by decide)
  have q164 : h11 45 5 = h 45 5 := by rw [← e13]; exact x_up_k (by decide)
  refine x_getR (np := 140) (x := 69) (f := 5) (q := (h 45 5)) (by decide +kernel) (by decide) (by decide +kernel) (((((((q157.trans q158).trans q159).trans q160).trans q161).trans q162).trans q163).trans q164) ?_
  have q165 : h153 (h 45 5) 6 = ((h 45 5) + 11) := tf_0_6 j154 t4
  refine x_getR (np := 143) (x := 518) (f := 6) (q := ((h 45 5) + 11)) (by decide +kernel) (by decide) (tg_0_518_6_1 t4) q165 ?_
  refine x_aload (np := 144) (x := 0) (by decide +kernel) rfl (x_nc_le (by decide)) ?_
  have q166 : h153 45 13 = 58 := by have z := jB (e := 13) 0 j154 rg_45_13_0_1 (by decide) (by decide); omega
  refine x_getR (np := 147) (x := 77) (f := 13) (q := 58) (by decide +kernel) (by decide) (by decide +kernel) q166 ?_
  refine x_cI (t := 6) (mj := 38) (n := 2) (rc := 3) (ml := 4) (nr := 0) (np := 150) (as := [x_r ((h 45 5) + 11), x_r 58]) (rest := []) (lo1 := [x_r ((h 45 5) + 11), x_r 58, 147573952589676412928, 147573952589676412928]) (by decide +kernel) (by decide) (by decide +kernel) (x_rb_of (tr_11_3 t4)) rfl rfl (x_wr (tn_11 t4) (x_wr (by decide) x_wn)) x_wn (by decide) rfl (c38_T11_58 j154 t4 ) (fun v167 h170 l168 q169 => ?_)
  obtain ⟨j171, f172, b173⟩ := q169
  have f174 := Fr.trans f156 f172 (by decide)
  refine x_retI (np := 151) (x := 0) (by decide +kernel) l168 (Or.inr ⟨by decide +kernel, by first | decide | omega, by first | decide | omega⟩) ⟨_, rfl, l168, ?_⟩
  exact ⟨j171, f174, (by first | decide | omega)⟩
set_option maxHeartbeats 0 in
/-- LentNames$Table.at(II)I -/
theorem c68_T1_c4 {sc : Nat × Nat} {d ra0 a1 : Nat} {h : xh} (hJ : J h) (ta0 : tw ra0) (ba1 : 2147483648 ≤ a1 ∧ a1 ≤ 2147483667) : X sc 68 d (xI fun r h' => h' = h ∧ (0 ≤ r ∧ r ≤ 4294967295)) 0 0 0 [x_r (ra0 + 1), iv_c a1, iv_c 2147483652, 147573952589676412928] [] h := by
  have la1 : a1 < 4294967296 := by first | decide | omega
  refine x_iload (np := 1) (x := 1) (by decide +kernel) rfl la1 ?_
  refine x_ifz (k := 2) (tg := 28) (np := 4) (by decide +kernel) (by decide) la1 (fun q1 => ?_) (fun q2 => ?_)
  · have q1 : a1 < 2147483648 := q1
    exfalso; omega
  have q2 : ¬ (a1 < 2147483648) := q2
  refine x_iload (np := 5) (x := 1) (by decide +kernel) rfl la1 ?_
  refine x_aload (np := 6) (x := 0) (by decide +kernel) rfl (x_nc_le (tn_1 ta0)) ?_
  have b3 := jB (e := 2) 0 hJ (rg_T1_2_0_1 ta0) (by first | decide | omega) (by first | decide | omega)
  refine x_getC (np := 9) (x := 386) (f := 2) (q := (h (ra0 + 1) 2)) (by decide +kernel) (by decide) (tg_1_386_2_0 ta0) rfl (fun l4 => ?_)
  refine x_icmp (k := 3) (tg := 28) (np := 12) (by decide +kernel) (by decide) la1 l4 (fun q5 => ?_) (fun q6 => ?_)
  · have q5 : (h (ra0 + 1) 2) ≤ a1 := q5
    refine x_const (np := 29) (x := 9223372039002259456) (a := 2147483648) (by decide +kernel) (by decide) (by decide) ?_
    refine x_istore (np := 30) (x := 3) (lo' := [x_r (ra0 + 1), iv_c a1, iv_c 2147483652, iv_c 2147483648]) (by decide +kernel) (by decide) (Nat.le_of_ble_eq_true rfl) rfl ?_
    refine x_iload (np := 31) (x := 3) (by decide +kernel) rfl (by decide) ?_
    refine x_ifz (k := 0) (tg := 50) (np := 34) (by decide +kernel) (by decide) (by decide) (fun q7 => ?_) (fun q8 => ?_)
    · have q7 : 2147483648 = 2147483648 := q7
      refine x_const (np := 51) (x := 9223372034707292159) (a := 2147483647) (by decide +kernel) (by decide) (by decide) ?_
      refine x_retI (np := 52) (x := 0) (by decide +kernel) (by decide) (Or.inl (by decide +kernel)) ⟨_, rfl, (by decide), ?_⟩
      exact ⟨rfl, (by first | decide | omega)⟩
    have q8 : ¬ (2147483648 = 2147483648) := q8
    exfalso; omega
  have q6 : ¬ ((h (ra0 + 1) 2) ≤ a1) := q6
  refine x_iload (np := 13) (x := 2) (by decide +kernel) rfl (by decide) ?_
  refine x_ifz (k := 2) (tg := 28) (np := 16) (by decide +kernel) (by decide) (by decide) (fun q9 => ?_) (fun q10 => ?_)
  · have q9 : 2147483652 < 2147483648 := q9
    exfalso; omega
  have q10 : ¬ (2147483652 < 2147483648) := q10
  refine x_iload (np := 17) (x := 2) (by decide +kernel) rfl (by decide) ?_
  refine x_aload (np := 18) (x := 0) (by decide +kernel) rfl (x_nc_le (tn_1 ta0)) ?_
  have b11 := jB (e := 0) 0 hJ (rg_T1_0_0_1 ta0) (by first | decide | omega) (by first | decide | omega)
  have q12 : (h (ra0 + 1) 0) = 2147483655 := by first | decide | omega
  refine x_getC (np := 21) (x := 384) (f := 0) (q := 2147483655) (by decide +kernel) (by decide) (tg_1_384_0_0 ta0) q12 (fun l13 => ?_)
  refine x_icmp (k := 3) (tg := 28) (np := 24) (by decide +kernel) (by decide) (by decide) (by decide) (fun q14 => ?_) (fun q15 => ?_)
  · have q14 : 2147483655 ≤ 2147483652 := q14
    exfalso; omega
  have q15 : ¬ (2147483655 ≤ 2147483652) := q15
  refine x_const (np := 25) (x := 9223372043297226753) (a := 2147483649) (by decide +kernel) (by decide) (by decide) ?_
  refine x_goto (np := 28) (x := 29) (by decide +kernel) ?_
  refine x_istore (np := 30) (x := 3) (lo' := [x_r (ra0 + 1), iv_c a1, iv_c 2147483652, iv_c 2147483649]) (by decide +kernel) (by decide) (Nat.le_of_ble_eq_true rfl) rfl ?_
  refine x_iload (np := 31) (x := 3) (by decide +kernel) rfl (by decide) ?_
  refine x_ifz (k := 0) (tg := 50) (np := 34) (by decide +kernel) (by decide) (by decide) (fun q16 => ?_) (fun q17 => ?_)
  · have q16 : 2147483649 = 2147483648 := q16
    exfalso; omega
  have q17 : ¬ (2147483649 = 2147483648) := q17
  refine x_aload (np := 35) (x := 0) (by decide +kernel) rfl (x_nc_le (tn_1 ta0)) ?_
  have q18 : h (ra0 + 1) 1 = (ra0 + 2) := tf_1_1 hJ ta0
  refine x_getR (np := 38) (x := 385) (f := 1) (q := (ra0 + 2)) (by decide +kernel) (by decide) (tg_1_385_1_1 ta0) q18 ?_
  refine x_iload (np := 39) (x := 1) (by decide +kernel) rfl la1 ?_
  refine x_aload (np := 40) (x := 0) (by decide +kernel) rfl (x_nc_le (tn_1 ta0)) ?_
  refine x_getC (np := 43) (x := 384) (f := 0) (q := 2147483655) (by decide +kernel) (by decide) (tg_1_384_0_0 ta0) q12 (fun l19 => ?_)
  obtain ⟨u20, q21⟩ : ∃ z, a1 = 2147483648 + z := ⟨a1 - 2147483648, by first | decide | omega⟩
  refine x_imul (np := 44) (x := 0) (i := u20) (j := 7) (v := (2147483648 + 7 * u20)) (by decide +kernel) (by first | decide | omega) (by first | decide | omega) (by first | decide | omega) (by first | decide | omega) la1 (by decide) ?_
  refine x_iload (np := 45) (x := 2) (by decide +kernel) rfl (by decide) ?_
  refine x_iadd (np := 46) (x := 0) (v := (2147483652 + 7 * u20)) (by decide +kernel) (by first | decide | omega) (by decide) (by first | decide | omega) (by first | decide | omega) ?_
  refine x_aldC (np := 47) (x := 0) (n := 140) (i := (4 + 7 * u20)) (q := ((h (ra0 + 2) (4 + 7 * u20)))) (by decide +kernel) (ta_2_140 ta0) (by first | decide | omega) (by first | decide | omega) (by decide) rfl (fun l23 => ?_)
  refine x_goto (np := 50) (x := 51) (by decide +kernel) ?_
  refine x_retI (np := 52) (x := 0) (by decide +kernel) l23 (Or.inl (by decide +kernel)) ⟨_, rfl, l23, ?_⟩
  exact ⟨rfl, (by first | decide | omega)⟩
set_option maxHeartbeats 0 in
/-- LentNames$Calendar.isLentOn(I)Z -/
theorem c23_45 {sc : Nat × Nat} {d a1 : Nat} {h : xh} (hJ : J h) (ba1 : 2147483648 ≤ a1 ∧ a1 ≤ 2147483653) : X sc 23 (d + 1) (xI fun r h' => h' = h ∧ (2147483648 ≤ r ∧ r ≤ 2147483649)) 0 0 0 [x_r 45, iv_c a1] [] h := by
  have la1 : a1 < 4294967296 := by first | decide | omega
  refine x_aload (np := 1) (x := 0) (by decide +kernel) rfl (x_nc_le (by decide)) ?_
  have q1 : h 45 12 = 57 := by have z := jB (e := 12) 0 hJ rg_45_12_0_1 (by decide) (by decide); omega
  refine x_getR (np := 4) (x := 76) (f := 12) (q := 57) (by decide +kernel) (by decide) (by decide +kernel) q1 ?_
  refine x_iload (np := 5) (x := 1) (by decide +kernel) rfl la1 ?_
  obtain ⟨u2, q3⟩ : ∃ z, a1 = 2147483648 + z := ⟨a1 - 2147483648, by first | decide | omega⟩
  have b4 := jB (e := u2) u2 hJ rg_57_0_1_6 (by first | decide | omega) (by first | decide | omega)
  refine x_aldC (np := 6) (x := 0) (n := 6) (i := u2) (q := (h 57 u2)) (by decide +kernel) (by decide +kernel) (by first | decide | omega) (by first | decide | omega) (by decide) rfl (fun l5 => ?_)
  refine x_ifz (k := 5) (tg := 41) (np := 9) (by decide +kernel) (by decide) l5 (fun q6 => ?_) (fun q7 => ?_)
  · have q6 : (h 57 u2) ≤ 2147483648 := q6
    refine x_const (np := 42) (x := 9223372039002259456) (a := 2147483648) (by decide +kernel) (by decide) (by decide) ?_
    refine x_retI (np := 43) (x := 0) (by decide +kernel) (by decide) (Or.inr ⟨by decide +kernel, by first | decide | omega, by first | decide | omega⟩) ⟨_, rfl, (by decide), ?_⟩
    exact ⟨rfl, (by first | decide | omega)⟩
  have q7 : ¬ ((h 57 u2) ≤ 2147483648) := q7
  refine x_aload (np := 10) (x := 0) (by decide +kernel) rfl (x_nc_le (by decide)) ?_
  have t8 : tw (h 45 5) := hJ.2.2.2.1
  refine x_getR (np := 13) (x := 69) (f := 5) (q := (h 45 5)) (by decide +kernel) (by decide) (by decide +kernel) rfl ?_
  have q9 : h (h 45 5) 0 = ((h 45 5) + 1) := tf_0_0 hJ t8
  refine x_getR (np := 16) (x := 512) (f := 0) (q := ((h 45 5) + 1)) (by decide +kernel) (by decide) (tg_0_512_0_1 t8) q9 ?_
  refine x_aload (np := 17) (x := 0) (by decide +kernel) rfl (x_nc_le (by decide)) ?_
  refine x_iload (np := 18) (x := 1) (by decide +kernel) rfl la1 ?_
  refine x_aload (np := 19) (x := 0) (by decide +kernel) rfl (x_nc_le (by decide)) ?_
  have q10 : h 45 12 = 57 := by have z := jB (e := 12) 0 hJ rg_45_12_0_1 (by decide) (by decide); omega
  refine x_getR (np := 22) (x := 76) (f := 12) (q := 57) (by decide +kernel) (by decide) (by decide +kernel) q10 ?_
  refine x_iload (np := 23) (x := 1) (by decide +kernel) rfl la1 ?_
  refine x_aldC (np := 24) (x := 0) (n := 6) (i := u2) (q := (h 57 u2)) (by decide +kernel) (by decide +kernel) (by first | decide | omega) (by first | decide | omega) (by decide) rfl (fun l11 => ?_)
  refine x_const (np := 25) (x := 9223372043297226753) (a := 2147483649) (by decide +kernel) (by decide) (by decide) ?_
  obtain ⟨v12, q13⟩ : ∃ z, z + 2147483649 = (h 57 u2) + 2147483648 := ⟨(h 57 u2) + 2147483648 - 2147483649, by first | decide | omega⟩
  refine x_isub (np := 26) (x := 0) (v := v12) (by decide +kernel) l5 (by decide) (by first | decide | omega) (by first | decide | omega) ?_
  refine x_nI (t := 6) (mj := 33) (n := 3) (rc := 2) (ml := 3) (nr := 1) (np := 29) (as := [x_r 45, iv_c a1, iv_c v12]) (rest := [x_r ((h 45 5) + 1)]) (lo1 := [x_r 45, iv_c a1, iv_c v12]) (by decide +kernel) (by decide) (by decide +kernel) (x_rb_of (by decide +kernel)) rfl rfl (x_wr (by decide) (x_wi la1 (x_wi (by first | decide | omega) x_wn))) (x_wr (tn_1 t8) x_wn) (by decide) rfl ?_
  refine x_aload (np := 1) (x := 0) (by decide +kernel) rfl (x_nc_le (by decide)) ?_
  have q14 : h 45 11 = 56 := by have z := jB (e := 11) 0 hJ rg_45_11_0_1 (by decide) (by decide); omega
  refine x_getR (np := 4) (x := 75) (f := 11) (q := 56) (by decide +kernel) (by decide) (by decide +kernel) q14 ?_
  refine x_iload (np := 5) (x := 1) (by decide +kernel) rfl la1 ?_
  refine x_const (np := 7) (x := 9223372124901605396) (a := 2147483668) (by decide +kernel) (by decide) (by decide) ?_
  refine x_imul (np := 8) (x := 0) (i := u2) (j := 20) (v := (2147483648 + 20 * u2)) (by decide +kernel) (by first | decide | omega) (by first | decide | omega) (by first | decide | omega) (by first | decide | omega) la1 (by decide) ?_
  refine x_iload (np := 9) (x := 2) (by decide +kernel) rfl (by first | decide | omega) ?_
  refine x_iadd (np := 10) (x := 0) (v := (20 * u2 + v12)) (by decide +kernel) (by first | decide | omega) (by first | decide | omega) (by first | decide | omega) (by first | decide | omega) ?_
  obtain ⟨u16, q17⟩ : ∃ z, v12 = 2147483648 + z := ⟨v12 - 2147483648, by first | decide | omega⟩
  have b18 := jB (e := (20 * u2 + u16)) (20 * u2 + u16) hJ rg_56_0_1_120 (by first | decide | omega) (by first | decide | omega)
  refine x_aldC (np := 11) (x := 0) (n := 120) (i := (20 * u2 + u16)) (q := ((h 56 (20 * u2 + u16)))) (by decide +kernel) (by decide +kernel) (by first | decide | omega) (by first | decide | omega) (by decide) rfl (fun l19 => ?_)
  refine x_retI (np := 12) (x := 0) (by decide +kernel) l19 (Or.inl (by decide +kernel)) ⟨_, rfl, l19, ?_⟩
  refine x_const (np := 30) (x := 9223372056182128644) (a := 2147483652) (by decide +kernel) (by decide) (by decide) ?_
  refine x_cP (t := 6) (mj := 68) (n := 3) (rc := 7) (ml := 4) (nr := 0) (np := 33) (as := [x_r ((h 45 5) + 1), iv_c ((h 56 (20 * u2 + u16))), iv_c 2147483652]) (rest := []) (lo1 := [x_r ((h 45 5) + 1), iv_c ((h 56 (20 * u2 + u16))), iv_c 2147483652, 147573952589676412928]) (by decide +kernel) (by decide) (by decide +kernel) (x_rb_of (tr_1_7 t8)) rfl rfl (x_wr (tn_1 t8) (x_wi l19 (x_wi (by decide) x_wn))) x_wn (by decide) rfl (c68_T1_c4 hJ t8 (by first | decide | omega) ) (fun v21 l22 q23 => ?_)
  refine x_const (np := 34) (x := 9223372043297226753) (a := 2147483649) (by decide +kernel) (by decide) (by decide) ?_
  refine x_icmp (k := 1) (tg := 41) (np := 37) (by decide +kernel) (by decide) l22 (by decide) (fun q24 => ?_) (fun q25 => ?_)
  · have q24 : v21 ≠ 2147483649 := q24
    refine x_const (np := 42) (x := 9223372039002259456) (a := 2147483648) (by decide +kernel) (by decide) (by decide) ?_
    refine x_retI (np := 43) (x := 0) (by decide +kernel) (by decide) (Or.inr ⟨by decide +kernel, by first | decide | omega, by first | decide | omega⟩) ⟨_, rfl, (by decide), ?_⟩
    exact ⟨rfl, (by first | decide | omega)⟩
  have q25 : ¬ (v21 ≠ 2147483649) := q25
  refine x_const (np := 38) (x := 9223372043297226753) (a := 2147483649) (by decide +kernel) (by decide) (by decide) ?_
  refine x_goto (np := 41) (x := 42) (by decide +kernel) ?_
  refine x_retI (np := 43) (x := 0) (by decide +kernel) (by decide) (Or.inr ⟨by decide +kernel, by first | decide | omega, by first | decide | omega⟩) ⟨_, rfl, (by decide), ?_⟩
  exact ⟨rfl, (by first | decide | omega)⟩
set_option maxHeartbeats 0 in
/-- LentNames$Calendar.lendNames(I)V -/
theorem c21_45 {sc : Nat × Nat} {d a1 : Nat} {h : xh} (hJ : J h) (ba1 : 2147483648 ≤ a1 ∧ a1 ≤ 2147483659) : X sc 21 (d + 4) (xV fun h' => J h' ∧ Fr 140737488362497 h h') 0 0 0 [x_r 45, iv_c a1, 147573952589676412928, 147573952589676412928, 147573952589676412928] [] h := by
  have la1 : a1 < 4294967296 := by first | decide | omega
  have hF := Fr.refl 140737488362497 h
  refine x_const (np := 1) (x := 9223372039002259456) (a := 2147483648) (by decide +kernel) (by decide) (by decide) ?_
  refine x_istore (np := 2) (x := 2) (lo' := [x_r 45, iv_c a1, iv_c 2147483648, 147573952589676412928, 147573952589676412928]) (by decide +kernel) (by decide) (Nat.le_of_ble_eq_true rfl) rfl ?_
  have p3689 : ∀ (n : Nat) (v3682 : Nat) (w3684 : Nat) (w3685 : Nat) (h3686 : xh), 4294967296 - v3682 < n → (2147483648 ≤ v3682 ∧ v3682 ≤ 2147483668) → J h3686 → Fr 140737488362497 h h3686 → X sc 21 (d + 4) (xV fun h' => J h' ∧ Fr 140737488362497 h h') 0 0 2 [x_r 45, iv_c a1, iv_c v3682, w3684, w3685] [] h3686 := by
    intro n
    induction n with
    | zero => intro v3682 w3684 w3685 h3686 q3690; exact absurd q3690 (Nat.not_lt_zero _)
    | succ n i3691 =>
      intro v3682 w3684 w3685 h3686 q3690 b3683 j3688 f3687
      have f3692 := Fr.trans hF f3687 (by decide)
      refine x_iload (np := 3) (x := 2) (by decide +kernel) rfl (by first | decide | omega) ?_
      refine x_aload (np := 4) (x := 0) (by decide +kernel) rfl (x_nc_le (by decide)) ?_
      have q3693 : h3686 45 5 = h 45 5 := f3687 45 5 (by decide +kernel)
      have t3694 : tw (h 45 5) := hJ.2.2.2.1
      refine x_getR (np := 7) (x := 69) (f := 5) (q := (h 45 5)) (by decide +kernel) (by decide) (by decide +kernel) q3693 ?_
      have q3695 : h3686 (h 45 5) 0 = ((h 45 5) + 1) := tf_0_0 j3688 t3694
      refine x_getR (np := 10) (x := 512) (f := 0) (q := ((h 45 5) + 1)) (by decide +kernel) (by decide) (tg_0_512_0_1 t3694) q3695 ?_
      have q3696 : h3686 ((h 45 5) + 1) 2 = h ((h 45 5) + 1) 2 := jK 0 f3687 (rg_T1_2_0_1 t3694) (by first | decide | omega) (by first | decide | omega) (by decide)
      have b3697 := jB (e := 2) 0 hJ (rg_T1_2_0_1 t3694) (by first | decide | omega) (by first | decide | omega)
      refine x_getC (np := 13) (x := 386) (f := 2) (q := (h ((h 45 5) + 1) 2)) (by decide +kernel) (by decide) (tg_1_386_2_0 t3694) q3696 (fun l3698 => ?_)
      refine x_icmp (k := 3) (tg := 121) (np := 16) (by decide +kernel) (by decide) (by first | decide | omega) l3698 (fun q3699 => ?_) (fun q3700 => ?_)
      · have q3699 : (h ((h 45 5) + 1) 2) ≤ v3682 := q3699
        refine x_retV (np := 122) (x := 0) (by decide +kernel) (by decide +kernel) ⟨rfl, ?_⟩
        exact ⟨j3688, f3692⟩
      have q3700 : ¬ ((h ((h 45 5) + 1) 2) ≤ v3682) := q3700
      refine x_aload (np := 17) (x := 0) (by decide +kernel) rfl (x_nc_le (by decide)) ?_
      have q3701 : h3686 45 5 = h 45 5 := f3687 45 5 (by decide +kernel)
      refine x_getR (np := 20) (x := 69) (f := 5) (q := (h 45 5)) (by decide +kernel) (by decide) (by decide +kernel) q3701 ?_
      have q3702 : h3686 (h 45 5) 0 = ((h 45 5) + 1) := tf_0_0 j3688 t3694
      refine x_getR (np := 23) (x := 512) (f := 0) (q := ((h 45 5) + 1)) (by decide +kernel) (by decide) (tg_0_512_0_1 t3694) q3702 ?_
      refine x_iload (np := 24) (x := 2) (by decide +kernel) rfl (by first | decide | omega) ?_
      refine x_const (np := 25) (x := 9223372039002259456) (a := 2147483648) (by decide +kernel) (by decide) (by decide) ?_
      refine x_nI (t := 6) (mj := 68) (n := 3) (rc := 7) (ml := 4) (nr := 0) (np := 28) (as := [x_r ((h 45 5) + 1), iv_c v3682, iv_c 2147483648]) (rest := []) (lo1 := [x_r ((h 45 5) + 1), iv_c v3682, iv_c 2147483648, 147573952589676412928]) (by decide +kernel) (by decide) (by decide +kernel) (x_rb_of (tr_1_7 t3694)) rfl rfl (x_wr (tn_1 t3694) (x_wi (by first | decide | omega) (x_wi (by decide) x_wn))) x_wn (by decide) rfl ?_
      refine x_iload (np := 1) (x := 1) (by decide +kernel) rfl (by first | decide | omega) ?_
      refine x_ifz (k := 2) (tg := 28) (np := 4) (by decide +kernel) (by decide) (by first | decide | omega) (fun q3704 => ?_) (fun q3705 => ?_)
      · have q3704 : v3682 < 2147483648 := q3704
        exfalso; omega
      have q3705 : ¬ (v3682 < 2147483648) := q3705
      refine x_iload (np := 5) (x := 1) (by decide +kernel) rfl (by first | decide | omega) ?_
      refine x_aload (np := 6) (x := 0) (by decide +kernel) rfl (x_nc_le (tn_1 t3694)) ?_
      have q3706 : h3686 ((h 45 5) + 1) 2 = h ((h 45 5) + 1) 2 := jK 0 f3687 (rg_T1_2_0_1 t3694) (by first | decide | omega) (by first | decide | omega) (by decide)
      refine x_getC (np := 9) (x := 386) (f := 2) (q := (h ((h 45 5) + 1) 2)) (by decide +kernel) (by decide) (tg_1_386_2_0 t3694) q3706 (fun l3707 => ?_)
      refine x_icmp (k := 3) (tg := 28) (np := 12) (by decide +kernel) (by decide) (by first | decide | omega) l3698 (fun q3708 => ?_) (fun q3709 => ?_)
      · have q3708 : (h ((h 45 5) + 1) 2) ≤ v3682 := q3708
        exfalso; omega
      have q3709 : ¬ ((h ((h 45 5) + 1) 2) ≤ v3682) := q3709
      refine x_iload (np := 13) (x := 2) (by decide +kernel) rfl (by decide) ?_
      refine x_ifz (k := 2) (tg := 28) (np := 16) (by decide +kernel) (by decide) (by decide) (fun q3710 => ?_) (fun q3711 => ?_)
      · have q3710 : 2147483648 < 2147483648 := q3710
        exfalso; omega
      have q3711 : ¬ (2147483648 < 2147483648) := q3711
      refine x_iload (np := 17) (x := 2) (by decide +kernel) rfl (by decide) ?_
      refine x_aload (np := 18) (x := 0) (by decide +kernel) rfl (x_nc_le (tn_1 t3694)) ?_
      have q3712 : h3686 ((h 45 5) + 1) 0 = h ((h 45 5) + 1) 0 := jK 0 f3687 (rg_T1_0_0_1 t3694) (by first | decide | omega) (by first | decide | omega) (by decide)
      have b3713 := jB (e := 0) 0 hJ (rg_T1_0_0_1 t3694) (by first | decide | omega) (by first | decide | omega)
      have q3714 : (h ((h 45 5) + 1) 0) = 2147483655 := by first | decide | omega
      refine x_getC (np := 21) (x := 384) (f := 0) (q := 2147483655) (by decide +kernel) (by decide) (tg_1_384_0_0 t3694) (q3712.trans q3714) (fun l3715 => ?_)
      refine x_icmp (k := 3) (tg := 28) (np := 24) (by decide +kernel) (by decide) (by decide) (by decide) (fun q3716 => ?_) (fun q3717 => ?_)
      · have q3716 : 2147483655 ≤ 2147483648 := q3716
        exfalso; omega
      have q3717 : ¬ (2147483655 ≤ 2147483648) := q3717
      refine x_const (np := 25) (x := 9223372043297226753) (a := 2147483649) (by decide +kernel) (by decide) (by decide) ?_
      refine x_goto (np := 28) (x := 29) (by decide +kernel) ?_
      refine x_istore (np := 30) (x := 3) (lo' := [x_r ((h 45 5) + 1), iv_c v3682, iv_c 2147483648, iv_c 2147483649]) (by decide +kernel) (by decide) (Nat.le_of_ble_eq_true rfl) rfl ?_
      refine x_iload (np := 31) (x := 3) (by decide +kernel) rfl (by decide) ?_
      refine x_ifz (k := 0) (tg := 50) (np := 34) (by decide +kernel) (by decide) (by decide) (fun q3718 => ?_) (fun q3719 => ?_)
      · have q3718 : 2147483649 = 2147483648 := q3718
        exfalso; omega
      have q3719 : ¬ (2147483649 = 2147483648) := q3719
      refine x_aload (np := 35) (x := 0) (by decide +kernel) rfl (x_nc_le (tn_1 t3694)) ?_
      have q3720 : h3686 ((h 45 5) + 1) 1 = ((h 45 5) + 2) := tf_1_1 j3688 t3694
      refine x_getR (np := 38) (x := 385) (f := 1) (q := ((h 45 5) + 2)) (by decide +kernel) (by decide) (tg_1_385_1_1 t3694) q3720 ?_
      refine x_iload (np := 39) (x := 1) (by decide +kernel) rfl (by first | decide | omega) ?_
      refine x_aload (np := 40) (x := 0) (by decide +kernel) rfl (x_nc_le (tn_1 t3694)) ?_
      have q3721 : h3686 ((h 45 5) + 1) 0 = h ((h 45 5) + 1) 0 := jK 0 f3687 (rg_T1_0_0_1 t3694) (by first | decide | omega) (by first | decide | omega) (by decide)
      refine x_getC (np := 43) (x := 384) (f := 0) (q := 2147483655) (by decide +kernel) (by decide) (tg_1_384_0_0 t3694) (q3721.trans q3714) (fun l3722 => ?_)
      obtain ⟨u3723, q3724⟩ : ∃ z, v3682 = 2147483648 + z := ⟨v3682 - 2147483648, by first | decide | omega⟩
      refine x_imul (np := 44) (x := 0) (i := u3723) (j := 7) (v := (2147483648 + 7 * u3723)) (by decide +kernel) (by first | decide | omega) (by first | decide | omega) (by first | decide | omega) (by first | decide | omega) (by first | decide | omega) (by decide) ?_
      refine x_iload (np := 45) (x := 2) (by decide +kernel) rfl (by decide) ?_
      refine x_iadd (np := 46) (x := 0) (v := (2147483648 + 7 * u3723)) (by decide +kernel) (by first | decide | omega) (by decide) (by first | decide | omega) (by first | decide | omega) ?_
      have q3726 : h3686 ((h 45 5) + 2) (7 * u3723) = h ((h 45 5) + 2) (7 * u3723) := jK u3723 f3687 (rg_T2_0_7_20 t3694) (by first | decide | omega) (by first | decide | omega) (by decide)
      have b3727 := jB (e := (7 * u3723)) u3723 hJ (rg_T2_0_7_20 t3694) (by first | decide | omega) (by first | decide | omega)
      refine x_aldC (np := 47) (x := 0) (n := 140) (i := (7 * u3723)) (q := ((h ((h 45 5) + 2) (7 * u3723)))) (by decide +kernel) (ta_2_140 t3694) (by first | decide | omega) (by first | decide | omega) (by decide) q3726 (fun l3728 => ?_)
      refine x_goto (np := 50) (x := 51) (by decide +kernel) ?_
      refine x_retI (np := 52) (x := 0) (by decide +kernel) l3728 (Or.inl (by decide +kernel)) ⟨_, rfl, l3728, ?_⟩
      refine x_istore (np := 29) (x := 3) (lo' := [x_r 45, iv_c a1, iv_c v3682, iv_c ((h ((h 45 5) + 2) (7 * u3723))), w3685]) (by decide +kernel) l3728 (Nat.le_of_ble_eq_true rfl) rfl ?_
      refine x_aload (np := 30) (x := 0) (by decide +kernel) rfl (x_nc_le (by decide)) ?_
      have q3729 : h3686 45 5 = h 45 5 := f3687 45 5 (by decide +kernel)
      refine x_getR (np := 33) (x := 69) (f := 5) (q := (h 45 5)) (by decide +kernel) (by decide) (by decide +kernel) q3729 ?_
      have q3730 : h3686 (h 45 5) 0 = ((h 45 5) + 1) := tf_0_0 j3688 t3694
      refine x_getR (np := 36) (x := 512) (f := 0) (q := ((h 45 5) + 1)) (by decide +kernel) (by decide) (tg_0_512_0_1 t3694) q3730 ?_
      refine x_iload (np := 37) (x := 2) (by decide +kernel) rfl (by first | decide | omega) ?_
      refine x_const (np := 38) (x := 9223372047592194050) (a := 2147483650) (by decide +kernel) (by decide) (by decide) ?_
      refine x_nI (t := 6) (mj := 68) (n := 3) (rc := 7) (ml := 4) (nr := 0) (np := 41) (as := [x_r ((h 45 5) + 1), iv_c v3682, iv_c 2147483650]) (rest := []) (lo1 := [x_r ((h 45 5) + 1), iv_c v3682, iv_c 2147483650, 147573952589676412928]) (by decide +kernel) (by decide) (by decide +kernel) (x_rb_of (tr_1_7 t3694)) rfl rfl (x_wr (tn_1 t3694) (x_wi (by first | decide | omega) (x_wi (by decide) x_wn))) x_wn (by decide) rfl ?_
      refine x_iload (np := 1) (x := 1) (by decide +kernel) rfl (by first | decide | omega) ?_
      refine x_ifz (k := 2) (tg := 28) (np := 4) (by decide +kernel) (by decide) (by first | decide | omega) (fun q3732 => ?_) (fun q3733 => ?_)
      · have q3732 : v3682 < 2147483648 := q3732
        exfalso; omega
      have q3733 : ¬ (v3682 < 2147483648) := q3733
      refine x_iload (np := 5) (x := 1) (by decide +kernel) rfl (by first | decide | omega) ?_
      refine x_aload (np := 6) (x := 0) (by decide +kernel) rfl (x_nc_le (tn_1 t3694)) ?_
      have q3734 : h3686 ((h 45 5) + 1) 2 = h ((h 45 5) + 1) 2 := jK 0 f3687 (rg_T1_2_0_1 t3694) (by first | decide | omega) (by first | decide | omega) (by decide)
      refine x_getC (np := 9) (x := 386) (f := 2) (q := (h ((h 45 5) + 1) 2)) (by decide +kernel) (by decide) (tg_1_386_2_0 t3694) q3734 (fun l3735 => ?_)
      refine x_icmp (k := 3) (tg := 28) (np := 12) (by decide +kernel) (by decide) (by first | decide | omega) l3698 (fun q3736 => ?_) (fun q3737 => ?_)
      · have q3736 : (h ((h 45 5) + 1) 2) ≤ v3682 := q3736
        exfalso; omega
      have q3737 : ¬ ((h ((h 45 5) + 1) 2) ≤ v3682) := q3737
      refine x_iload (np := 13) (x := 2) (by decide +kernel) rfl (by decide) ?_
      refine x_ifz (k := 2) (tg := 28) (np := 16) (by decide +kernel) (by decide) (by decide) (fun q3738 => ?_) (fun q3739 => ?_)
      · have q3738 : 2147483650 < 2147483648 := q3738
        exfalso; omega
      have q3739 : ¬ (2147483650 < 2147483648) := q3739
      refine x_iload (np := 17) (x := 2) (by decide +kernel) rfl (by decide) ?_
      refine x_aload (np := 18) (x := 0) (by decide +kernel) rfl (x_nc_le (tn_1 t3694)) ?_
      have q3740 : h3686 ((h 45 5) + 1) 0 = h ((h 45 5) + 1) 0 := jK 0 f3687 (rg_T1_0_0_1 t3694) (by first | decide | omega) (by first | decide | omega) (by decide)
      refine x_getC (np := 21) (x := 384) (f := 0) (q := 2147483655) (by decide +kernel) (by decide) (tg_1_384_0_0 t3694) (q3740.trans q3714) (fun l3741 => ?_)
      refine x_icmp (k := 3) (tg := 28) (np := 24) (by decide +kernel) (by decide) (by decide) (by decide) (fun q3742 => ?_) (fun q3743 => ?_)
      · have q3742 : 2147483655 ≤ 2147483650 := q3742
        exfalso; omega
      have q3743 : ¬ (2147483655 ≤ 2147483650) := q3743
      refine x_const (np := 25) (x := 9223372043297226753) (a := 2147483649) (by decide +kernel) (by decide) (by decide) ?_
      refine x_goto (np := 28) (x := 29) (by decide +kernel) ?_
      refine x_istore (np := 30) (x := 3) (lo' := [x_r ((h 45 5) + 1), iv_c v3682, iv_c 2147483650, iv_c 2147483649]) (by decide +kernel) (by decide) (Nat.le_of_ble_eq_true rfl) rfl ?_
      refine x_iload (np := 31) (x := 3) (by decide +kernel) rfl (by decide) ?_
      refine x_ifz (k := 0) (tg := 50) (np := 34) (by decide +kernel) (by decide) (by decide) (fun q3744 => ?_) (fun q3745 => ?_)
      · have q3744 : 2147483649 = 2147483648 := q3744
        exfalso; omega
      have q3745 : ¬ (2147483649 = 2147483648) := q3745
      refine x_aload (np := 35) (x := 0) (by decide +kernel) rfl (x_nc_le (tn_1 t3694)) ?_
      have q3746 : h3686 ((h 45 5) + 1) 1 = ((h 45 5) + 2) := tf_1_1 j3688 t3694
      refine x_getR (np := 38) (x := 385) (f := 1) (q := ((h 45 5) + 2)) (by decide +kernel) (by decide) (tg_1_385_1_1 t3694) q3746 ?_
      refine x_iload (np := 39) (x := 1) (by decide +kernel) rfl (by first | decide | omega) ?_
      refine x_aload (np := 40) (x := 0) (by decide +kernel) rfl (x_nc_le (tn_1 t3694)) ?_
      have q3747 : h3686 ((h 45 5) + 1) 0 = h ((h 45 5) + 1) 0 := jK 0 f3687 (rg_T1_0_0_1 t3694) (by first | decide | omega) (by first | decide | omega) (by decide)
      refine x_getC (np := 43) (x := 384) (f := 0) (q := 2147483655) (by decide +kernel) (by decide) (tg_1_384_0_0 t3694) (q3747.trans q3714) (fun l3748 => ?_)
      refine x_imul (np := 44) (x := 0) (i := u3723) (j := 7) (v := (2147483648 + 7 * u3723)) (by decide +kernel) (by first | decide | omega) (by first | decide | omega) (by first | decide | omega) (by first | decide | omega) (by first | decide | omega) (by decide) ?_
      refine x_iload (np := 45) (x := 2) (by decide +kernel) rfl (by decide) ?_
      refine x_iadd (np := 46) (x := 0) (v := (2147483650 + 7 * u3723)) (by decide +kernel) (by first | decide | omega) (by decide) (by first | decide | omega) (by first | decide | omega) ?_
      have q3750 : h3686 ((h 45 5) + 2) (2 + 7 * u3723) = h ((h 45 5) + 2) (2 + 7 * u3723) := jK u3723 f3687 (rg_T2_2_7_20 t3694) (by first | decide | omega) (by first | decide | omega) (by decide)
      refine x_aldC (np := 47) (x := 0) (n := 140) (i := (2 + 7 * u3723)) (q := ((h ((h 45 5) + 2) (2 + 7 * u3723)))) (by decide +kernel) (ta_2_140 t3694) (by first | decide | omega) (by first | decide | omega) (by decide) q3750 (fun l3751 => ?_)
      refine x_goto (np := 50) (x := 51) (by decide +kernel) ?_
      refine x_retI (np := 52) (x := 0) (by decide +kernel) l3751 (Or.inl (by decide +kernel)) ⟨_, rfl, l3751, ?_⟩
      refine x_iload (np := 42) (x := 1) (by decide +kernel) rfl la1 ?_
      refine x_icmp (k := 1) (tg := 49) (np := 45) (by decide +kernel) (by decide) l3751 la1 (fun q3752 => ?_) (fun q3753 => ?_)
      · have q3752 : ((h ((h 45 5) + 2) (2 + 7 * u3723))) ≠ a1 := q3752
        refine x_const (np := 50) (x := 9223372039002259456) (a := 2147483648) (by decide +kernel) (by decide) (by decide) ?_
        refine x_istore (np := 52) (x := 4) (lo' := [x_r 45, iv_c a1, iv_c v3682, iv_c ((h ((h 45 5) + 2) (7 * u3723))), iv_c 2147483648]) (by decide +kernel) (by decide) (Nat.le_of_ble_eq_true rfl) rfl ?_
        refine x_iload (np := 54) (x := 4) (by decide +kernel) rfl (by decide) ?_
        refine x_ifz (k := 0) (tg := 115) (np := 57) (by decide +kernel) (by decide) (by decide) (fun q3754 => ?_) (fun q3755 => ?_)
        · have q3754 : 2147483648 = 2147483648 := q3754
          refine x_iinc (np := 118) (i := 2) (j := 2147483649) (v := (1 + v3682)) (lo' := [x_r 45, iv_c a1, iv_c (1 + v3682), iv_c ((h ((h 45 5) + 2) (7 * u3723))), iv_c 2147483648]) (by decide +kernel) (by decide) (by decide) rfl (by first | decide | omega) (by first | decide | omega) (by first | decide | omega) rfl ?_
          refine x_goto (np := 121) (x := 2) (by decide +kernel) ?_
          exact i3691 (1 + v3682) (iv_c ((h ((h 45 5) + 2) (7 * u3723)))) (iv_c 2147483648) h3686 (by first | decide | omega) (by first | decide | omega) j3688 f3687
        have q3755 : ¬ (2147483648 = 2147483648) := q3755
        exfalso; omega
      have q3753 : ¬ (((h ((h 45 5) + 2) (2 + 7 * u3723))) ≠ a1) := q3753
      refine x_const (np := 46) (x := 9223372043297226753) (a := 2147483649) (by decide +kernel) (by decide) (by decide) ?_
      refine x_goto (np := 49) (x := 50) (by decide +kernel) ?_
      refine x_istore (np := 52) (x := 4) (lo' := [x_r 45, iv_c a1, iv_c v3682, iv_c ((h ((h 45 5) + 2) (7 * u3723))), iv_c 2147483649]) (by decide +kernel) (by decide) (Nat.le_of_ble_eq_true rfl) rfl ?_
      refine x_iload (np := 54) (x := 4) (by decide +kernel) rfl (by decide) ?_
      refine x_ifz (k := 0) (tg := 115) (np := 57) (by decide +kernel) (by decide) (by decide) (fun q3756 => ?_) (fun q3757 => ?_)
      · have q3756 : 2147483649 = 2147483648 := q3756
        exfalso; omega
      have q3757 : ¬ (2147483649 = 2147483648) := q3757
      refine x_aload (np := 58) (x := 0) (by decide +kernel) rfl (x_nc_le (by decide)) ?_
      refine x_iload (np := 59) (x := 2) (by decide +kernel) rfl (by first | decide | omega) ?_
      refine x_iload (np := 60) (x := 3) (by decide +kernel) rfl l3728 ?_
      refine x_iload (np := 61) (x := 1) (by decide +kernel) rfl la1 ?_
      refine x_nI (t := 6) (mj := 22) (n := 4) (rc := 2) (ml := 6) (nr := 0) (np := 64) (as := [x_r 45, iv_c v3682, iv_c ((h ((h 45 5) + 2) (7 * u3723))), iv_c a1]) (rest := []) (lo1 := [x_r 45, iv_c v3682, iv_c ((h ((h 45 5) + 2) (7 * u3723))), iv_c a1, 147573952589676412928, 147573952589676412928]) (by decide +kernel) (by decide) (by decide +kernel) (x_rb_of (by decide +kernel)) rfl rfl (x_wr (by decide) (x_wi (by first | decide | omega) (x_wi l3728 (x_wi la1 x_wn)))) x_wn (by decide) rfl ?_
      refine x_aload (np := 1) (x := 0) (by decide +kernel) rfl (x_nc_le (by decide)) ?_
      refine x_iload (np := 2) (x := 2) (by decide +kernel) rfl l3728 ?_
      refine x_cP (t := 6) (mj := 32) (n := 2) (rc := 2) (ml := 2) (nr := 0) (np := 5) (as := [x_r 45, iv_c ((h ((h 45 5) + 2) (7 * u3723)))]) (rest := []) (lo1 := [x_r 45, iv_c ((h ((h 45 5) + 2) (7 * u3723)))]) (by decide +kernel) (by decide) (by decide +kernel) (x_rb_of (by decide +kernel)) rfl rfl (x_wr (by decide) (x_wi l3728 x_wn)) x_wn (by decide) rfl (c32_45 j3688  (by first | decide | omega)) (fun v3758 l3759 q3760 => ?_)
      refine x_istore (np := 7) (x := 4) (lo' := [x_r 45, iv_c v3682, iv_c ((h ((h 45 5) + 2) (7 * u3723))), iv_c a1, iv_c v3758, 147573952589676412928]) (by decide +kernel) l3759 (Nat.le_of_ble_eq_true rfl) rfl ?_
      refine x_aload (np := 8) (x := 0) (by decide +kernel) rfl (x_nc_le (by decide)) ?_
      have q3761 : h3686 45 5 = h 45 5 := f3687 45 5 (by decide +kernel)
      refine x_getR (np := 11) (x := 69) (f := 5) (q := (h 45 5)) (by decide +kernel) (by decide) (by decide +kernel) q3761 ?_
      have q3762 : h3686 (h 45 5) 0 = ((h 45 5) + 1) := tf_0_0 j3688 t3694
      refine x_getR (np := 14) (x := 512) (f := 0) (q := ((h 45 5) + 1)) (by decide +kernel) (by decide) (tg_0_512_0_1 t3694) q3762 ?_
      refine x_iload (np := 15) (x := 1) (by decide +kernel) rfl (by first | decide | omega) ?_
      refine x_const (np := 16) (x := 9223372043297226753) (a := 2147483649) (by decide +kernel) (by decide) (by decide) ?_
      refine x_nI (t := 6) (mj := 68) (n := 3) (rc := 7) (ml := 4) (nr := 0) (np := 19) (as := [x_r ((h 45 5) + 1), iv_c v3682, iv_c 2147483649]) (rest := []) (lo1 := [x_r ((h 45 5) + 1), iv_c v3682, iv_c 2147483649, 147573952589676412928]) (by decide +kernel) (by decide) (by decide +kernel) (x_rb_of (tr_1_7 t3694)) rfl rfl (x_wr (tn_1 t3694) (x_wi (by first | decide | omega) (x_wi (by decide) x_wn))) x_wn (by decide) rfl ?_
      refine x_iload (np := 1) (x := 1) (by decide +kernel) rfl (by first | decide | omega) ?_
      refine x_ifz (k := 2) (tg := 28) (np := 4) (by decide +kernel) (by decide) (by first | decide | omega) (fun q3764 => ?_) (fun q3765 => ?_)
      · have q3764 : v3682 < 2147483648 := q3764
        exfalso; omega
      have q3765 : ¬ (v3682 < 2147483648) := q3765
      refine x_iload (np := 5) (x := 1) (by decide +kernel) rfl (by first | decide | omega) ?_
      refine x_aload (np := 6) (x := 0) (by decide +kernel) rfl (x_nc_le (tn_1 t3694)) ?_
      have q3766 : h3686 ((h 45 5) + 1) 2 = h ((h 45 5) + 1) 2 := jK 0 f3687 (rg_T1_2_0_1 t3694) (by first | decide | omega) (by first | decide | omega) (by decide)
      refine x_getC (np := 9) (x := 386) (f := 2) (q := (h ((h 45 5) + 1) 2)) (by decide +kernel) (by decide) (tg_1_386_2_0 t3694) q3766 (fun l3767 => ?_)
      refine x_icmp (k := 3) (tg := 28) (np := 12) (by decide +kernel) (by decide) (by first | decide | omega) l3698 (fun q3768 => ?_) (fun q3769 => ?_)
      · have q3768 : (h ((h 45 5) + 1) 2) ≤ v3682 := q3768
        exfalso; omega
      have q3769 : ¬ ((h ((h 45 5) + 1) 2) ≤ v3682) := q3769
      refine x_iload (np := 13) (x := 2) (by decide +kernel) rfl (by decide) ?_
      refine x_ifz (k := 2) (tg := 28) (np := 16) (by decide +kernel) (by decide) (by decide) (fun q3770 => ?_) (fun q3771 => ?_)
      · have q3770 : 2147483649 < 2147483648 := q3770
        exfalso; omega
      have q3771 : ¬ (2147483649 < 2147483648) := q3771
      refine x_iload (np := 17) (x := 2) (by decide +kernel) rfl (by decide) ?_
      refine x_aload (np := 18) (x := 0) (by decide +kernel) rfl (x_nc_le (tn_1 t3694)) ?_
      have q3772 : h3686 ((h 45 5) + 1) 0 = h ((h 45 5) + 1) 0 := jK 0 f3687 (rg_T1_0_0_1 t3694) (by first | decide | omega) (by first | decide | omega) (by decide)
      refine x_getC (np := 21) (x := 384) (f := 0) (q := 2147483655) (by decide +kernel) (by decide) (tg_1_384_0_0 t3694) (q3772.trans q3714) (fun l3773 => ?_)
      refine x_icmp (k := 3) (tg := 28) (np := 24) (by decide +kernel) (by decide) (by decide) (by decide) (fun q3774 => ?_) (fun q3775 => ?_)
      · have q3774 : 2147483655 ≤ 2147483649 := q3774
        exfalso; omega
      have q3775 : ¬ (2147483655 ≤ 2147483649) := q3775
      refine x_const (np := 25) (x := 9223372043297226753) (a := 2147483649) (by decide +kernel) (by decide) (by decide) ?_
      refine x_goto (np := 28) (x := 29) (by decide +kernel) ?_
      refine x_istore (np := 30) (x := 3) (lo' := [x_r ((h 45 5) + 1), iv_c v3682, iv_c 2147483649, iv_c 2147483649]) (by decide +kernel) (by decide) (Nat.le_of_ble_eq_true rfl) rfl ?_
      refine x_iload (np := 31) (x := 3) (by decide +kernel) rfl (by decide) ?_
      refine x_ifz (k := 0) (tg := 50) (np := 34) (by decide +kernel) (by decide) (by decide) (fun q3776 => ?_) (fun q3777 => ?_)
      · have q3776 : 2147483649 = 2147483648 := q3776
        exfalso; omega
      have q3777 : ¬ (2147483649 = 2147483648) := q3777
      refine x_aload (np := 35) (x := 0) (by decide +kernel) rfl (x_nc_le (tn_1 t3694)) ?_
      have q3778 : h3686 ((h 45 5) + 1) 1 = ((h 45 5) + 2) := tf_1_1 j3688 t3694
      refine x_getR (np := 38) (x := 385) (f := 1) (q := ((h 45 5) + 2)) (by decide +kernel) (by decide) (tg_1_385_1_1 t3694) q3778 ?_
      refine x_iload (np := 39) (x := 1) (by decide +kernel) rfl (by first | decide | omega) ?_
      refine x_aload (np := 40) (x := 0) (by decide +kernel) rfl (x_nc_le (tn_1 t3694)) ?_
      have q3779 : h3686 ((h 45 5) + 1) 0 = h ((h 45 5) + 1) 0 := jK 0 f3687 (rg_T1_0_0_1 t3694) (by first | decide | omega) (by first | decide | omega) (by decide)
      refine x_getC (np := 43) (x := 384) (f := 0) (q := 2147483655) (by decide +kernel) (by decide) (tg_1_384_0_0 t3694) (q3779.trans q3714) (fun l3780 => ?_)
      refine x_imul (np := 44) (x := 0) (i := u3723) (j := 7) (v := (2147483648 + 7 * u3723)) (by decide +kernel) (by first | decide | omega) (by first | decide | omega) (by first | decide | omega) (by first | decide | omega) (by first | decide | omega) (by decide) ?_
      refine x_iload (np := 45) (x := 2) (by decide +kernel) rfl (by decide) ?_
      refine x_iadd (np := 46) (x := 0) (v := (2147483649 + 7 * u3723)) (by decide +kernel) (by first | decide | omega) (by decide) (by first | decide | omega) (by first | decide | omega) ?_
      have q3782 : h3686 ((h 45 5) + 2) (1 + 7 * u3723) = h ((h 45 5) + 2) (1 + 7 * u3723) := jK u3723 f3687 (rg_T2_1_7_20 t3694) (by first | decide | omega) (by first | decide | omega) (by decide)
      refine x_aldC (np := 47) (x := 0) (n := 140) (i := (1 + 7 * u3723)) (q := ((h ((h 45 5) + 2) (1 + 7 * u3723)))) (by decide +kernel) (ta_2_140 t3694) (by first | decide | omega) (by first | decide | omega) (by decide) q3782 (fun l3783 => ?_)
      refine x_goto (np := 50) (x := 51) (by decide +kernel) ?_
      refine x_retI (np := 52) (x := 0) (by decide +kernel) l3783 (Or.inl (by decide +kernel)) ⟨_, rfl, l3783, ?_⟩
      refine x_istore (np := 21) (x := 5) (lo' := [x_r 45, iv_c v3682, iv_c ((h ((h 45 5) + 2) (7 * u3723))), iv_c a1, iv_c v3758, iv_c ((h ((h 45 5) + 2) (1 + 7 * u3723)))]) (by decide +kernel) l3783 (Nat.le_of_ble_eq_true rfl) rfl ?_
      refine x_aload (np := 22) (x := 0) (by decide +kernel) rfl (x_nc_le (by decide)) ?_
      have q3784 : h3686 45 12 = 57 := by have z := jB (e := 12) 0 j3688 rg_45_12_0_1 (by decide) (by decide); omega
      refine x_getR (np := 25) (x := 76) (f := 12) (q := 57) (by decide +kernel) (by decide) (by decide +kernel) q3784 ?_
      refine x_iload (np := 26) (x := 2) (by decide +kernel) rfl l3728 ?_
      obtain ⟨u3785, q3786⟩ : ∃ z, ((h ((h 45 5) + 2) (7 * u3723))) = 2147483648 + z := ⟨((h ((h 45 5) + 2) (7 * u3723))) - 2147483648, by first | decide | omega⟩
      have b3787 := jB (e := u3785) u3785 j3688 rg_57_0_1_6 (by first | decide | omega) (by first | decide | omega)
      refine x_aldC (np := 27) (x := 0) (n := 6) (i := u3785) (q := (h3686 57 u3785)) (by decide +kernel) (by decide +kernel) (by first | decide | omega) (by first | decide | omega) (by decide) rfl (fun l3788 => ?_)
      refine x_const (np := 29) (x := 9223372124901605396) (a := 2147483668) (by decide +kernel) (by decide) (by decide) ?_
      refine x_icmp (k := 3) (tg := 49) (np := 32) (by decide +kernel) (by decide) l3788 (by decide) (fun q3789 => ?_) (fun q3790 => ?_)
      · have q3789 : 2147483668 ≤ (h3686 57 u3785) := q3789
        refine x_const (np := 50) (x := 9223372039002259456) (a := 2147483648) (by decide +kernel) (by decide) (by decide) ?_
        refine x_retI (np := 51) (x := 0) (by decide +kernel) (by decide) (Or.inr ⟨by decide +kernel, by first | decide | omega, by first | decide | omega⟩) ⟨_, rfl, (by decide), ?_⟩
        refine x_ifz (k := 0) (tg := 115) (np := 67) (by decide +kernel) (by decide) (by decide) (fun q3791 => ?_) (fun q3792 => ?_)
        · have q3791 : 2147483648 = 2147483648 := q3791
          refine x_iinc (np := 118) (i := 2) (j := 2147483649) (v := (1 + v3682)) (lo' := [x_r 45, iv_c a1, iv_c (1 + v3682), iv_c ((h ((h 45 5) + 2) (7 * u3723))), iv_c 2147483649]) (by decide +kernel) (by decide) (by decide) rfl (by first | decide | omega) (by first | decide | omega) (by first | decide | omega) rfl ?_
          refine x_goto (np := 121) (x := 2) (by decide +kernel) ?_
          exact i3691 (1 + v3682) (iv_c ((h ((h 45 5) + 2) (7 * u3723)))) (iv_c 2147483649) h3686 (by first | decide | omega) (by first | decide | omega) j3688 f3687
        have q3792 : ¬ (2147483648 = 2147483648) := q3792
        exfalso; omega
      have q3790 : ¬ (2147483668 ≤ (h3686 57 u3785)) := q3790
      refine x_iload (np := 34) (x := 4) (by decide +kernel) rfl l3759 ?_
      refine x_iload (np := 36) (x := 5) (by decide +kernel) rfl l3783 ?_
      refine x_icmp (k := 0) (tg := 49) (np := 39) (by decide +kernel) (by decide) l3759 l3783 (fun q3793 => ?_) (fun q3794 => ?_)
      · have q3793 : v3758 = ((h ((h 45 5) + 2) (1 + 7 * u3723))) := q3793
        refine x_const (np := 50) (x := 9223372039002259456) (a := 2147483648) (by decide +kernel) (by decide) (by decide) ?_
        refine x_retI (np := 51) (x := 0) (by decide +kernel) (by decide) (Or.inr ⟨by decide +kernel, by first | decide | omega, by first | decide | omega⟩) ⟨_, rfl, (by decide), ?_⟩
        refine x_ifz (k := 0) (tg := 115) (np := 67) (by decide +kernel) (by decide) (by decide) (fun q3795 => ?_) (fun q3796 => ?_)
        · have q3795 : 2147483648 = 2147483648 := q3795
          refine x_iinc (np := 118) (i := 2) (j := 2147483649) (v := (1 + v3682)) (lo' := [x_r 45, iv_c a1, iv_c (1 + v3682), iv_c ((h ((h 45 5) + 2) (7 * u3723))), iv_c 2147483649]) (by decide +kernel) (by decide) (by decide) rfl (by first | decide | omega) (by first | decide | omega) (by first | decide | omega) rfl ?_
          refine x_goto (np := 121) (x := 2) (by decide +kernel) ?_
          exact i3691 (1 + v3682) (iv_c ((h ((h 45 5) + 2) (7 * u3723)))) (iv_c 2147483649) h3686 (by first | decide | omega) (by first | decide | omega) j3688 f3687
        have q3796 : ¬ (2147483648 = 2147483648) := q3796
        exfalso; omega
      have q3794 : ¬ (v3758 = ((h ((h 45 5) + 2) (1 + 7 * u3723)))) := q3794
      refine x_aload (np := 40) (x := 0) (by decide +kernel) rfl (x_nc_le (by decide)) ?_
      refine x_iload (np := 42) (x := 5) (by decide +kernel) rfl l3783 ?_
      refine x_iload (np := 43) (x := 3) (by decide +kernel) rfl la1 ?_
      refine x_nI (t := 6) (mj := 31) (n := 3) (rc := 2) (ml := 3) (nr := 0) (np := 46) (as := [x_r 45, iv_c ((h ((h 45 5) + 2) (1 + 7 * u3723))), iv_c a1]) (rest := []) (lo1 := [x_r 45, iv_c ((h ((h 45 5) + 2) (1 + 7 * u3723))), iv_c a1]) (by decide +kernel) (by decide) (by decide +kernel) (x_rb_of (by decide +kernel)) rfl rfl (x_wr (by decide) (x_wi l3783 (x_wi la1 x_wn))) x_wn (by decide) rfl ?_
      refine x_iload (np := 1) (x := 1) (by decide +kernel) rfl l3783 ?_
      refine x_ifz (k := 2) (tg := 27) (np := 4) (by decide +kernel) (by decide) l3783 (fun q3797 => ?_) (fun q3798 => ?_)
      · have q3797 : ((h ((h 45 5) + 2) (1 + 7 * u3723))) < 2147483648 := q3797
        refine x_const (np := 28) (x := 9223372039002259456) (a := 2147483648) (by decide +kernel) (by decide) (by decide) ?_
        refine x_retI (np := 29) (x := 0) (by decide +kernel) (by decide) (Or.inr ⟨by decide +kernel, by first | decide | omega, by first | decide | omega⟩) ⟨_, rfl, (by decide), ?_⟩
        refine x_ifz (k := 1) (tg := 51) (np := 49) (by decide +kernel) (by decide) (by decide) (fun q3799 => ?_) (fun q3800 => ?_)
        · have q3799 : 2147483648 ≠ 2147483648 := q3799
          exfalso; omega
        have q3800 : ¬ (2147483648 ≠ 2147483648) := q3800
        refine x_const (np := 50) (x := 9223372039002259456) (a := 2147483648) (by decide +kernel) (by decide) (by decide) ?_
        refine x_retI (np := 51) (x := 0) (by decide +kernel) (by decide) (Or.inr ⟨by decide +kernel, by first | decide | omega, by first | decide | omega⟩) ⟨_, rfl, (by decide), ?_⟩
        refine x_ifz (k := 0) (tg := 115) (np := 67) (by decide +kernel) (by decide) (by decide) (fun q3801 => ?_) (fun q3802 => ?_)
        · have q3801 : 2147483648 = 2147483648 := q3801
          refine x_iinc (np := 118) (i := 2) (j := 2147483649) (v := (1 + v3682)) (lo' := [x_r 45, iv_c a1, iv_c (1 + v3682), iv_c ((h ((h 45 5) + 2) (7 * u3723))), iv_c 2147483649]) (by decide +kernel) (by decide) (by decide) rfl (by first | decide | omega) (by first | decide | omega) (by first | decide | omega) rfl ?_
          refine x_goto (np := 121) (x := 2) (by decide +kernel) ?_
          exact i3691 (1 + v3682) (iv_c ((h ((h 45 5) + 2) (7 * u3723)))) (iv_c 2147483649) h3686 (by first | decide | omega) (by first | decide | omega) j3688 f3687
        have q3802 : ¬ (2147483648 = 2147483648) := q3802
        exfalso; omega
      have q3798 : ¬ (((h ((h 45 5) + 2) (1 + 7 * u3723))) < 2147483648) := q3798
      refine x_iload (np := 5) (x := 1) (by decide +kernel) rfl l3783 ?_
      refine x_const (np := 7) (x := 9223372064772063238) (a := 2147483654) (by decide +kernel) (by decide) (by decide) ?_
      refine x_icmp (k := 3) (tg := 27) (np := 10) (by decide +kernel) (by decide) l3783 (by decide) (fun q3803 => ?_) (fun q3804 => ?_)
      · have q3803 : 2147483654 ≤ ((h ((h 45 5) + 2) (1 + 7 * u3723))) := q3803
        refine x_const (np := 28) (x := 9223372039002259456) (a := 2147483648) (by decide +kernel) (by decide) (by decide) ?_
        refine x_retI (np := 29) (x := 0) (by decide +kernel) (by decide) (Or.inr ⟨by decide +kernel, by first | decide | omega, by first | decide | omega⟩) ⟨_, rfl, (by decide), ?_⟩
        refine x_ifz (k := 1) (tg := 51) (np := 49) (by decide +kernel) (by decide) (by decide) (fun q3805 => ?_) (fun q3806 => ?_)
        · have q3805 : 2147483648 ≠ 2147483648 := q3805
          exfalso; omega
        have q3806 : ¬ (2147483648 ≠ 2147483648) := q3806
        refine x_const (np := 50) (x := 9223372039002259456) (a := 2147483648) (by decide +kernel) (by decide) (by decide) ?_
        refine x_retI (np := 51) (x := 0) (by decide +kernel) (by decide) (Or.inr ⟨by decide +kernel, by first | decide | omega, by first | decide | omega⟩) ⟨_, rfl, (by decide), ?_⟩
        refine x_ifz (k := 0) (tg := 115) (np := 67) (by decide +kernel) (by decide) (by decide) (fun q3807 => ?_) (fun q3808 => ?_)
        · have q3807 : 2147483648 = 2147483648 := q3807
          refine x_iinc (np := 118) (i := 2) (j := 2147483649) (v := (1 + v3682)) (lo' := [x_r 45, iv_c a1, iv_c (1 + v3682), iv_c ((h ((h 45 5) + 2) (7 * u3723))), iv_c 2147483649]) (by decide +kernel) (by decide) (by decide) rfl (by first | decide | omega) (by first | decide | omega) (by first | decide | omega) rfl ?_
          refine x_goto (np := 121) (x := 2) (by decide +kernel) ?_
          exact i3691 (1 + v3682) (iv_c ((h ((h 45 5) + 2) (7 * u3723)))) (iv_c 2147483649) h3686 (by first | decide | omega) (by first | decide | omega) j3688 f3687
        have q3808 : ¬ (2147483648 = 2147483648) := q3808
        exfalso; omega
      have q3804 : ¬ (2147483654 ≤ ((h ((h 45 5) + 2) (1 + 7 * u3723)))) := q3804
      refine x_aload (np := 11) (x := 0) (by decide +kernel) rfl (x_nc_le (by decide)) ?_
      have q3809 : h3686 45 0 = 46 := by have z := jB (e := 0) 0 j3688 rg_45_0_0_1 (by decide) (by decide); omega
      refine x_getR (np := 14) (x := 64) (f := 0) (q := 46) (by decide +kernel) (by decide) (by decide +kernel) q3809 ?_
      refine x_iload (np := 15) (x := 1) (by decide +kernel) rfl l3783 ?_
      obtain ⟨u3810, q3811⟩ : ∃ z, ((h ((h 45 5) + 2) (1 + 7 * u3723))) = 2147483648 + z := ⟨((h ((h 45 5) + 2) (1 + 7 * u3723))) - 2147483648, by first | decide | omega⟩
      have q3812 : h3686 46 u3810 = h 46 u3810 := jK u3810 f3687 rg_46_0_1_6 (by first | decide | omega) (by first | decide | omega) (by decide)
      refine x_aldC (np := 16) (x := 0) (n := 6) (i := u3810) (q := (h 46 u3810)) (by decide +kernel) (by decide +kernel) (by first | decide | omega) (by first | decide | omega) (by decide) q3812 (fun l3813 => ?_)
      refine x_iload (np := 17) (x := 2) (by decide +kernel) rfl la1 ?_
      refine x_cP (t := 7) (mj := 148) (n := 2) (rc := 0) (ml := 2) (nr := 0) (np := 20) (as := [iv_c (h 46 u3810), iv_c a1]) (rest := []) (lo1 := [iv_c (h 46 u3810), iv_c a1]) (by decide +kernel) (by decide) (by decide +kernel) (Or.inl rfl) rfl rfl (x_wi l3813 (x_wi la1 x_wn)) x_wn (by decide) rfl (c148 j3688 (by first | decide | omega) (by first | decide | omega)) (fun v3814 l3815 q3816 => ?_)
      obtain ⟨b3818, c3817⟩ := q3816
      refine x_ifz (k := 0) (tg := 27) (np := 23) (by decide +kernel) (by decide) l3815 (fun q3819 => ?_) (fun q3820 => ?_)
      · have q3819 : v3814 = 2147483648 := q3819
        refine x_const (np := 28) (x := 9223372039002259456) (a := 2147483648) (by decide +kernel) (by decide) (by decide) ?_
        refine x_retI (np := 29) (x := 0) (by decide +kernel) (by decide) (Or.inr ⟨by decide +kernel, by first | decide | omega, by first | decide | omega⟩) ⟨_, rfl, (by decide), ?_⟩
        refine x_ifz (k := 1) (tg := 51) (np := 49) (by decide +kernel) (by decide) (by decide) (fun q3821 => ?_) (fun q3822 => ?_)
        · have q3821 : 2147483648 ≠ 2147483648 := q3821
          exfalso; omega
        have q3822 : ¬ (2147483648 ≠ 2147483648) := q3822
        refine x_const (np := 50) (x := 9223372039002259456) (a := 2147483648) (by decide +kernel) (by decide) (by decide) ?_
        refine x_retI (np := 51) (x := 0) (by decide +kernel) (by decide) (Or.inr ⟨by decide +kernel, by first | decide | omega, by first | decide | omega⟩) ⟨_, rfl, (by decide), ?_⟩
        refine x_ifz (k := 0) (tg := 115) (np := 67) (by decide +kernel) (by decide) (by decide) (fun q3823 => ?_) (fun q3824 => ?_)
        · have q3823 : 2147483648 = 2147483648 := q3823
          refine x_iinc (np := 118) (i := 2) (j := 2147483649) (v := (1 + v3682)) (lo' := [x_r 45, iv_c a1, iv_c (1 + v3682), iv_c ((h ((h 45 5) + 2) (7 * u3723))), iv_c 2147483649]) (by decide +kernel) (by decide) (by decide) rfl (by first | decide | omega) (by first | decide | omega) (by first | decide | omega) rfl ?_
          refine x_goto (np := 121) (x := 2) (by decide +kernel) ?_
          exact i3691 (1 + v3682) (iv_c ((h ((h 45 5) + 2) (7 * u3723)))) (iv_c 2147483649) h3686 (by first | decide | omega) (by first | decide | omega) j3688 f3687
        have q3824 : ¬ (2147483648 = 2147483648) := q3824
        exfalso; omega
      have q3820 : ¬ (v3814 = 2147483648) := q3820
      refine x_const (np := 24) (x := 9223372043297226753) (a := 2147483649) (by decide +kernel) (by decide) (by decide) ?_
      refine x_goto (np := 27) (x := 28) (by decide +kernel) ?_
      refine x_retI (np := 29) (x := 0) (by decide +kernel) (by decide) (Or.inr ⟨by decide +kernel, by first | decide | omega, by first | decide | omega⟩) ⟨_, rfl, (by decide), ?_⟩
      refine x_ifz (k := 1) (tg := 51) (np := 49) (by decide +kernel) (by decide) (by decide) (fun q3825 => ?_) (fun q3826 => ?_)
      · have q3825 : 2147483649 ≠ 2147483648 := q3825
        refine x_aload (np := 52) (x := 0) (by decide +kernel) rfl (x_nc_le (by decide)) ?_
        refine x_iload (np := 53) (x := 2) (by decide +kernel) rfl l3728 ?_
        refine x_iload (np := 54) (x := 3) (by decide +kernel) rfl la1 ?_
        refine x_cP (t := 6) (mj := 29) (n := 3) (rc := 2) (ml := 3) (nr := 0) (np := 57) (as := [x_r 45, iv_c ((h ((h 45 5) + 2) (7 * u3723))), iv_c a1]) (rest := []) (lo1 := [x_r 45, iv_c ((h ((h 45 5) + 2) (7 * u3723))), iv_c a1]) (by decide +kernel) (by decide) (by decide +kernel) (x_rb_of (by decide +kernel)) rfl rfl (x_wr (by decide) (x_wi l3728 (x_wi la1 x_wn))) x_wn (by decide) rfl (c29_45 j3688  (by first | decide | omega) (by first | decide | omega)) (fun v3827 l3828 q3829 => ?_)
        refine x_ifz (k := 0) (tg := 78) (np := 60) (by decide +kernel) (by decide) l3828 (fun q3830 => ?_) (fun q3831 => ?_)
        · have q3830 : v3827 = 2147483648 := q3830
          refine x_const (np := 79) (x := 9223372039002259456) (a := 2147483648) (by decide +kernel) (by decide) (by decide) ?_
          refine x_retI (np := 80) (x := 0) (by decide +kernel) (by decide) (Or.inr ⟨by decide +kernel, by first | decide | omega, by first | decide | omega⟩) ⟨_, rfl, (by decide), ?_⟩
          refine x_ifz (k := 0) (tg := 115) (np := 67) (by decide +kernel) (by decide) (by decide) (fun q3832 => ?_) (fun q3833 => ?_)
          · have q3832 : 2147483648 = 2147483648 := q3832
            refine x_iinc (np := 118) (i := 2) (j := 2147483649) (v := (1 + v3682)) (lo' := [x_r 45, iv_c a1, iv_c (1 + v3682), iv_c ((h ((h 45 5) + 2) (7 * u3723))), iv_c 2147483649]) (by decide +kernel) (by decide) (by decide) rfl (by first | decide | omega) (by first | decide | omega) (by first | decide | omega) rfl ?_
            refine x_goto (np := 121) (x := 2) (by decide +kernel) ?_
            exact i3691 (1 + v3682) (iv_c ((h ((h 45 5) + 2) (7 * u3723)))) (iv_c 2147483649) h3686 (by first | decide | omega) (by first | decide | omega) j3688 f3687
          have q3833 : ¬ (2147483648 = 2147483648) := q3833
          exfalso; omega
        have q3831 : ¬ (v3827 = 2147483648) := q3831
        refine x_iload (np := 62) (x := 4) (by decide +kernel) rfl l3759 ?_
        refine x_iload (np := 63) (x := 2) (by decide +kernel) rfl l3728 ?_
        refine x_icmp (k := 0) (tg := 74) (np := 66) (by decide +kernel) (by decide) l3759 l3728 (fun q3834 => ?_) (fun q3835 => ?_)
        · have q3834 : v3758 = ((h ((h 45 5) + 2) (7 * u3723))) := q3834
          refine x_const (np := 75) (x := 9223372043297226753) (a := 2147483649) (by decide +kernel) (by decide) (by decide) ?_
          refine x_goto (np := 78) (x := 79) (by decide +kernel) ?_
          refine x_retI (np := 80) (x := 0) (by decide +kernel) (by decide) (Or.inr ⟨by decide +kernel, by first | decide | omega, by first | decide | omega⟩) ⟨_, rfl, (by decide), ?_⟩
          refine x_ifz (k := 0) (tg := 115) (np := 67) (by decide +kernel) (by decide) (by decide) (fun q3836 => ?_) (fun q3837 => ?_)
          · have q3836 : 2147483649 = 2147483648 := q3836
            exfalso; omega
          have q3837 : ¬ (2147483649 = 2147483648) := q3837
          refine x_aload (np := 68) (x := 0) (by decide +kernel) rfl (x_nc_le (by decide)) ?_
          refine x_iload (np := 69) (x := 2) (by decide +kernel) rfl (by first | decide | omega) ?_
          refine x_iload (np := 70) (x := 3) (by decide +kernel) rfl l3728 ?_
          refine x_iload (np := 71) (x := 1) (by decide +kernel) rfl la1 ?_
          refine x_cI (t := 6) (mj := 24) (n := 4) (rc := 2) (ml := 6) (nr := 0) (np := 74) (as := [x_r 45, iv_c v3682, iv_c ((h ((h 45 5) + 2) (7 * u3723))), iv_c a1]) (rest := []) (lo1 := [x_r 45, iv_c v3682, iv_c ((h ((h 45 5) + 2) (7 * u3723))), iv_c a1, 147573952589676412928, 147573952589676412928]) (by decide +kernel) (by decide) (by decide +kernel) (x_rb_of (by decide +kernel)) rfl rfl (x_wr (by decide) (x_wi (by first | decide | omega) (x_wi l3728 (x_wi la1 x_wn)))) x_wn (by decide) rfl (c24_45 j3688  (by first | decide | omega) (by first | decide | omega) (by first | decide | omega)) (fun v3838 h3841 l3839 q3840 => ?_)
          obtain ⟨j3842, f3843, b3844⟩ := q3840
          have f3845 := Fr.trans f3692 f3843 (by decide)
          have f3846 := Fr.trans f3687 f3843 (by decide)
          refine x_ifz (k := 0) (tg := 115) (np := 77) (by decide +kernel) (by decide) l3839 (fun q3847 => ?_) (fun q3848 => ?_)
          · have q3847 : v3838 = 2147483648 := q3847
            refine x_iinc (np := 118) (i := 2) (j := 2147483649) (v := (1 + v3682)) (lo' := [x_r 45, iv_c a1, iv_c (1 + v3682), iv_c ((h ((h 45 5) + 2) (7 * u3723))), iv_c 2147483649]) (by decide +kernel) (by decide) (by decide) rfl (by first | decide | omega) (by first | decide | omega) (by first | decide | omega) rfl ?_
            refine x_goto (np := 121) (x := 2) (by decide +kernel) ?_
            exact i3691 (1 + v3682) (iv_c ((h ((h 45 5) + 2) (7 * u3723)))) (iv_c 2147483649) h3841 (by first | decide | omega) (by first | decide | omega) j3842 f3846
          have q3848 : ¬ (v3838 = 2147483648) := q3848
          refine x_aload (np := 78) (x := 0) (by decide +kernel) rfl (x_nc_le (by decide)) ?_
          have q3849 : h3841 45 2 = 48 := by have z := jB (e := 2) 0 j3842 rg_45_2_0_1 (by decide) (by decide); omega
          refine x_getR (np := 81) (x := 66) (f := 2) (q := 48) (by decide +kernel) (by decide) (by decide +kernel) q3849 ?_
          refine x_iload (np := 82) (x := 2) (by decide +kernel) rfl (by first | decide | omega) ?_
          refine x_aload (np := 83) (x := 0) (by decide +kernel) rfl (x_nc_le (by decide)) ?_
          refine x_iload (np := 84) (x := 3) (by decide +kernel) rfl l3728 ?_
          refine x_cP (t := 6) (mj := 32) (n := 2) (rc := 2) (ml := 2) (nr := 2) (np := 87) (as := [x_r 45, iv_c ((h ((h 45 5) + 2) (7 * u3723)))]) (rest := [iv_c v3682, x_r 48]) (lo1 := [x_r 45, iv_c ((h ((h 45 5) + 2) (7 * u3723)))]) (by decide +kernel) (by decide) (by decide +kernel) (x_rb_of (by decide +kernel)) rfl rfl (x_wr (by decide) (x_wi l3728 x_wn)) (x_wi (by first | decide | omega) (x_wr (by decide) x_wn)) (by decide) rfl (c32_45 j3842  (by first | decide | omega)) (fun v3850 l3851 q3852 => ?_)
          refine x_ast (np := 88) (x := 0) (kd := 1) (n := 20) (i := u3723) (by decide +kernel) (Or.inl rfl) (by decide +kernel) (by first | decide | omega) (by first | decide | omega) (by decide) l3851 (fun z => absurd z (by decide)) ?_
          have j3854 := jU (e := u3723) (v := v3850) u3723 j3842 rg_48_0_1_20 (by first | decide | omega) (by first | decide | omega) (by first | decide | omega)
          have f3856 := jF (e := u3723) (v := v3850) u3723 f3845 rg_48_0_1_20 (by first | decide | omega) (by first | decide | omega) (by decide)
          have f3857 := jF (e := u3723) (v := v3850) u3723 f3846 rg_48_0_1_20 (by first | decide | omega) (by first | decide | omega) (by decide)
          generalize e3855 : x_up h3841 48 u3723 v3850 = h3853 at j3854 f3856 f3857 ⊢
          refine x_aload (np := 89) (x := 0) (by decide +kernel) rfl (x_nc_le (by decide)) ?_
          have q3858 : h3853 45 11 = 56 := by have z := jB (e := 11) 0 j3854 rg_45_11_0_1 (by decide) (by decide); omega
          refine x_getR (np := 92) (x := 75) (f := 11) (q := 56) (by decide +kernel) (by decide) (by decide +kernel) q3858 ?_
          refine x_iload (np := 93) (x := 3) (by decide +kernel) rfl l3728 ?_
          refine x_const (np := 95) (x := 9223372124901605396) (a := 2147483668) (by decide +kernel) (by decide) (by decide) ?_
          refine x_imul (np := 96) (x := 0) (i := u3785) (j := 20) (v := (2147483648 + 20 * u3785)) (by decide +kernel) (by first | decide | omega) (by first | decide | omega) (by first | decide | omega) (by first | decide | omega) l3728 (by decide) ?_
          refine x_aload (np := 97) (x := 0) (by decide +kernel) rfl (x_nc_le (by decide)) ?_
          have q3860 : h3853 45 12 = 57 := by have z := jB (e := 12) 0 j3854 rg_45_12_0_1 (by decide) (by decide); omega
          refine x_getR (np := 100) (x := 76) (f := 12) (q := 57) (by decide +kernel) (by decide) (by decide +kernel) q3860 ?_
          refine x_iload (np := 101) (x := 3) (by decide +kernel) rfl l3728 ?_
          have q3861 : h3853 57 u3785 = h3841 57 u3785 := by rw [← e3855]; exact x_up_k (by decide)
          have q3862 : h3841 57 u3785 = h3686 57 u3785 := jK u3785 f3843 rg_57_0_1_6 (by first | decide | omega) (by first | decide | omega) (by decide)
          refine x_aldC (np := 102) (x := 0) (n := 6) (i := u3785) (q := (h3686 57 u3785)) (by decide +kernel) (by decide +kernel) (by first | decide | omega) (by first | decide | omega) (by decide) (q3861.trans q3862) (fun l3863 => ?_)
          refine x_iadd (np := 103) (x := 0) (v := (20 * u3785 + (h3686 57 u3785))) (by decide +kernel) (by first | decide | omega) l3788 (by first | decide | omega) (by first | decide | omega) ?_
          refine x_iload (np := 104) (x := 2) (by decide +kernel) rfl (by first | decide | omega) ?_
          obtain ⟨u3864, q3865⟩ : ∃ z, (h3686 57 u3785) = 2147483648 + z := ⟨(h3686 57 u3785) - 2147483648, by first | decide | omega⟩
          refine x_ast (np := 105) (x := 0) (kd := 1) (n := 120) (i := (20 * u3785 + u3864)) (by decide +kernel) (Or.inl rfl) (by decide +kernel) (by first | decide | omega) (by first | decide | omega) (by decide) (by first | decide | omega) (fun z => absurd z (by decide)) ?_
          have j3867 := jU (e := (20 * u3785 + u3864)) (v := v3682) (20 * u3785 + u3864) j3854 rg_56_0_1_120 (by first | decide | omega) (by first | decide | omega) (by first | decide | omega)
          have f3869 := jF (e := (20 * u3785 + u3864)) (v := v3682) (20 * u3785 + u3864) f3856 rg_56_0_1_120 (by first | decide | omega) (by first | decide | omega) (by decide)
          have f3870 := jF (e := (20 * u3785 + u3864)) (v := v3682) (20 * u3785 + u3864) f3857 rg_56_0_1_120 (by first | decide | omega) (by first | decide | omega) (by decide)
          generalize e3868 : x_up h3853 56 (20 * u3785 + u3864) v3682 = h3866 at j3867 f3869 f3870 ⊢
          refine x_aload (np := 106) (x := 0) (by decide +kernel) rfl (x_nc_le (by decide)) ?_
          have q3871 : h3866 45 12 = 57 := by have z := jB (e := 12) 0 j3867 rg_45_12_0_1 (by decide) (by decide); omega
          refine x_getR (np := 109) (x := 76) (f := 12) (q := 57) (by decide +kernel) (by decide) (by decide +kernel) q3871 ?_
          refine x_iload (np := 110) (x := 3) (by decide +kernel) rfl l3728 ?_
          refine x_dup2 (np := 111) (x := 0) (by decide +kernel) (by have z := (iw_c_lt (a := ((h ((h 45 5) + 2) (7 * u3723)))) l3728).1; omega) (by have z := x_nc_le (k := 57) (by decide); unfold x_r; omega) ?_
          have q3872 : h3866 57 u3785 = h3853 57 u3785 := by rw [← e3868]; exact x_up_k (by decide)
          have q3873 : h3853 57 u3785 = h3841 57 u3785 := by rw [← e3855]; exact x_up_k (by decide)
          have q3874 : h3841 57 u3785 = h3686 57 u3785 := jK u3785 f3843 rg_57_0_1_6 (by first | decide | omega) (by first | decide | omega) (by decide)
          refine x_aldC (np := 112) (x := 0) (n := 6) (i := u3785) (q := (h3686 57 u3785)) (by decide +kernel) (by decide +kernel) (by first | decide | omega) (by first | decide | omega) (by decide) ((q3872.trans q3873).trans q3874) (fun l3875 => ?_)
          refine x_const (np := 113) (x := 9223372043297226753) (a := 2147483649) (by decide +kernel) (by decide) (by decide) ?_
          refine x_iadd (np := 114) (x := 0) (v := (1 + (h3686 57 u3785))) (by decide +kernel) l3788 (by decide) (by first | decide | omega) (by first | decide | omega) ?_
          refine x_ast (np := 115) (x := 0) (kd := 1) (n := 6) (i := u3785) (by decide +kernel) (Or.inl rfl) (by decide +kernel) (by first | decide | omega) (by first | decide | omega) (by decide) (by first | decide | omega) (fun z => absurd z (by decide)) ?_
          have j3877 := jU (e := u3785) (v := (1 + (h3686 57 u3785))) u3785 j3867 rg_57_0_1_6 (by first | decide | omega) (by first | decide | omega) (by first | decide | omega)
          have f3879 := jF (e := u3785) (v := (1 + (h3686 57 u3785))) u3785 f3869 rg_57_0_1_6 (by first | decide | omega) (by first | decide | omega) (by decide)
          have f3880 := jF (e := u3785) (v := (1 + (h3686 57 u3785))) u3785 f3870 rg_57_0_1_6 (by first | decide | omega) (by first | decide | omega) (by decide)
          generalize e3878 : x_up h3866 57 u3785 (1 + (h3686 57 u3785)) = h3876 at j3877 f3879 f3880 ⊢
          refine x_iinc (np := 118) (i := 2) (j := 2147483649) (v := (1 + v3682)) (lo' := [x_r 45, iv_c a1, iv_c (1 + v3682), iv_c ((h ((h 45 5) + 2) (7 * u3723))), iv_c 2147483649]) (by decide +kernel) (by decide) (by decide) rfl (by first | decide | omega) (by first | decide | omega) (by first | decide | omega) rfl ?_
          refine x_goto (np := 121) (x := 2) (by decide +kernel) ?_
          exact i3691 (1 + v3682) (iv_c ((h ((h 45 5) + 2) (7 * u3723)))) (iv_c 2147483649) h3876 (by first | decide | omega) (by first | decide | omega) j3877 f3880
        have q3835 : ¬ (v3758 = ((h ((h 45 5) + 2) (7 * u3723)))) := q3835
        refine x_aload (np := 67) (x := 0) (by decide +kernel) rfl (x_nc_le (by decide)) ?_
        refine x_iload (np := 68) (x := 2) (by decide +kernel) rfl l3728 ?_
        refine x_cP (t := 6) (mj := 23) (n := 2) (rc := 2) (ml := 2) (nr := 0) (np := 71) (as := [x_r 45, iv_c ((h ((h 45 5) + 2) (7 * u3723)))]) (rest := []) (lo1 := [x_r 45, iv_c ((h ((h 45 5) + 2) (7 * u3723)))]) (by decide +kernel) (by decide) (by decide +kernel) (x_rb_of (by decide +kernel)) rfl rfl (x_wr (by decide) (x_wi l3728 x_wn)) x_wn (by decide) rfl (c23_45 j3688  (by first | decide | omega)) (fun v3881 l3882 q3883 => ?_)
        refine x_ifz (k := 0) (tg := 78) (np := 74) (by decide +kernel) (by decide) l3882 (fun q3884 => ?_) (fun q3885 => ?_)
        · have q3884 : v3881 = 2147483648 := q3884
          refine x_const (np := 79) (x := 9223372039002259456) (a := 2147483648) (by decide +kernel) (by decide) (by decide) ?_
          refine x_retI (np := 80) (x := 0) (by decide +kernel) (by decide) (Or.inr ⟨by decide +kernel, by first | decide | omega, by first | decide | omega⟩) ⟨_, rfl, (by decide), ?_⟩
          refine x_ifz (k := 0) (tg := 115) (np := 67) (by decide +kernel) (by decide) (by decide) (fun q3886 => ?_) (fun q3887 => ?_)
          · have q3886 : 2147483648 = 2147483648 := q3886
            refine x_iinc (np := 118) (i := 2) (j := 2147483649) (v := (1 + v3682)) (lo' := [x_r 45, iv_c a1, iv_c (1 + v3682), iv_c ((h ((h 45 5) + 2) (7 * u3723))), iv_c 2147483649]) (by decide +kernel) (by decide) (by decide) rfl (by first | decide | omega) (by first | decide | omega) (by first | decide | omega) rfl ?_
            refine x_goto (np := 121) (x := 2) (by decide +kernel) ?_
            exact i3691 (1 + v3682) (iv_c ((h ((h 45 5) + 2) (7 * u3723)))) (iv_c 2147483649) h3686 (by first | decide | omega) (by first | decide | omega) j3688 f3687
          have q3887 : ¬ (2147483648 = 2147483648) := q3887
          exfalso; omega
        have q3885 : ¬ (v3881 = 2147483648) := q3885
        refine x_const (np := 75) (x := 9223372043297226753) (a := 2147483649) (by decide +kernel) (by decide) (by decide) ?_
        refine x_goto (np := 78) (x := 79) (by decide +kernel) ?_
        refine x_retI (np := 80) (x := 0) (by decide +kernel) (by decide) (Or.inr ⟨by decide +kernel, by first | decide | omega, by first | decide | omega⟩) ⟨_, rfl, (by decide), ?_⟩
        refine x_ifz (k := 0) (tg := 115) (np := 67) (by decide +kernel) (by decide) (by decide) (fun q3888 => ?_) (fun q3889 => ?_)
        · have q3888 : 2147483649 = 2147483648 := q3888
          exfalso; omega
        have q3889 : ¬ (2147483649 = 2147483648) := q3889
        refine x_aload (np := 68) (x := 0) (by decide +kernel) rfl (x_nc_le (by decide)) ?_
        refine x_iload (np := 69) (x := 2) (by decide +kernel) rfl (by first | decide | omega) ?_
        refine x_iload (np := 70) (x := 3) (by decide +kernel) rfl l3728 ?_
        refine x_iload (np := 71) (x := 1) (by decide +kernel) rfl la1 ?_
        refine x_cI (t := 6) (mj := 24) (n := 4) (rc := 2) (ml := 6) (nr := 0) (np := 74) (as := [x_r 45, iv_c v3682, iv_c ((h ((h 45 5) + 2) (7 * u3723))), iv_c a1]) (rest := []) (lo1 := [x_r 45, iv_c v3682, iv_c ((h ((h 45 5) + 2) (7 * u3723))), iv_c a1, 147573952589676412928, 147573952589676412928]) (by decide +kernel) (by decide) (by decide +kernel) (x_rb_of (by decide +kernel)) rfl rfl (x_wr (by decide) (x_wi (by first | decide | omega) (x_wi l3728 (x_wi la1 x_wn)))) x_wn (by decide) rfl (c24_45 j3688  (by first | decide | omega) (by first | decide | omega) (by first | decide | omega)) (fun v3890 h3893 l3891 q3892 => ?_)
        obtain ⟨j3894, f3895, b3896⟩ := q3892
        have f3897 := Fr.trans f3692 f3895 (by decide)
        have f3898 := Fr.trans f3687 f3895 (by decide)
        refine x_ifz (k := 0) (tg := 115) (np := 77) (by decide +kernel) (by decide) l3891 (fun q3899 => ?_) (fun q3900 => ?_)
        · have q3899 : v3890 = 2147483648 := q3899
          refine x_iinc (np := 118) (i := 2) (j := 2147483649) (v := (1 + v3682)) (lo' := [x_r 45, iv_c a1, iv_c (1 + v3682), iv_c ((h ((h 45 5) + 2) (7 * u3723))), iv_c 2147483649]) (by decide +kernel) (by decide) (by decide) rfl (by first | decide | omega) (by first | decide | omega) (by first | decide | omega) rfl ?_
          refine x_goto (np := 121) (x := 2) (by decide +kernel) ?_
          exact i3691 (1 + v3682) (iv_c ((h ((h 45 5) + 2) (7 * u3723)))) (iv_c 2147483649) h3893 (by first | decide | omega) (by first | decide | omega) j3894 f3898
        have q3900 : ¬ (v3890 = 2147483648) := q3900
        refine x_aload (np := 78) (x := 0) (by decide +kernel) rfl (x_nc_le (by decide)) ?_
        have q3901 : h3893 45 2 = 48 := by have z := jB (e := 2) 0 j3894 rg_45_2_0_1 (by decide) (by decide); omega
        refine x_getR (np := 81) (x := 66) (f := 2) (q := 48) (by decide +kernel) (by decide) (by decide +kernel) q3901 ?_
        refine x_iload (np := 82) (x := 2) (by decide +kernel) rfl (by first | decide | omega) ?_
        refine x_aload (np := 83) (x := 0) (by decide +kernel) rfl (x_nc_le (by decide)) ?_
        refine x_iload (np := 84) (x := 3) (by decide +kernel) rfl l3728 ?_
        refine x_cP (t := 6) (mj := 32) (n := 2) (rc := 2) (ml := 2) (nr := 2) (np := 87) (as := [x_r 45, iv_c ((h ((h 45 5) + 2) (7 * u3723)))]) (rest := [iv_c v3682, x_r 48]) (lo1 := [x_r 45, iv_c ((h ((h 45 5) + 2) (7 * u3723)))]) (by decide +kernel) (by decide) (by decide +kernel) (x_rb_of (by decide +kernel)) rfl rfl (x_wr (by decide) (x_wi l3728 x_wn)) (x_wi (by first | decide | omega) (x_wr (by decide) x_wn)) (by decide) rfl (c32_45 j3894  (by first | decide | omega)) (fun v3902 l3903 q3904 => ?_)
        refine x_ast (np := 88) (x := 0) (kd := 1) (n := 20) (i := u3723) (by decide +kernel) (Or.inl rfl) (by decide +kernel) (by first | decide | omega) (by first | decide | omega) (by decide) l3903 (fun z => absurd z (by decide)) ?_
        have j3906 := jU (e := u3723) (v := v3902) u3723 j3894 rg_48_0_1_20 (by first | decide | omega) (by first | decide | omega) (by first | decide | omega)
        have f3908 := jF (e := u3723) (v := v3902) u3723 f3897 rg_48_0_1_20 (by first | decide | omega) (by first | decide | omega) (by decide)
        have f3909 := jF (e := u3723) (v := v3902) u3723 f3898 rg_48_0_1_20 (by first | decide | omega) (by first | decide | omega) (by decide)
        generalize e3907 : x_up h3893 48 u3723 v3902 = h3905 at j3906 f3908 f3909 ⊢
        refine x_aload (np := 89) (x := 0) (by decide +kernel) rfl (x_nc_le (by decide)) ?_
        have q3910 : h3905 45 11 = 56 := by have z := jB (e := 11) 0 j3906 rg_45_11_0_1 (by decide) (by decide); omega
        refine x_getR (np := 92) (x := 75) (f := 11) (q := 56) (by decide +kernel) (by decide) (by decide +kernel) q3910 ?_
        refine x_iload (np := 93) (x := 3) (by decide +kernel) rfl l3728 ?_
        refine x_const (np := 95) (x := 9223372124901605396) (a := 2147483668) (by decide +kernel) (by decide) (by decide) ?_
        refine x_imul (np := 96) (x := 0) (i := u3785) (j := 20) (v := (2147483648 + 20 * u3785)) (by decide +kernel) (by first | decide | omega) (by first | decide | omega) (by first | decide | omega) (by first | decide | omega) l3728 (by decide) ?_
        refine x_aload (np := 97) (x := 0) (by decide +kernel) rfl (x_nc_le (by decide)) ?_
        have q3912 : h3905 45 12 = 57 := by have z := jB (e := 12) 0 j3906 rg_45_12_0_1 (by decide) (by decide); omega
        refine x_getR (np := 100) (x := 76) (f := 12) (q := 57) (by decide +kernel) (by decide) (by decide +kernel) q3912 ?_
        refine x_iload (np := 101) (x := 3) (by decide +kernel) rfl l3728 ?_
        have q3913 : h3905 57 u3785 = h3893 57 u3785 := by rw [← e3907]; exact x_up_k (by decide)
        have q3914 : h3893 57 u3785 = h3686 57 u3785 := jK u3785 f3895 rg_57_0_1_6 (by first | decide | omega) (by first | decide | omega) (by decide)
        refine x_aldC (np := 102) (x := 0) (n := 6) (i := u3785) (q := (h3686 57 u3785)) (by decide +kernel) (by decide +kernel) (by first | decide | omega) (by first | decide | omega) (by decide) (q3913.trans q3914) (fun l3915 => ?_)
        refine x_iadd (np := 103) (x := 0) (v := (20 * u3785 + (h3686 57 u3785))) (by decide +kernel) (by first | decide | omega) l3788 (by first | decide | omega) (by first | decide | omega) ?_
        refine x_iload (np := 104) (x := 2) (by decide +kernel) rfl (by first | decide | omega) ?_
        obtain ⟨u3916, q3917⟩ : ∃ z, (h3686 57 u3785) = 2147483648 + z := ⟨(h3686 57 u3785) - 2147483648, by first | decide | omega⟩
        refine x_ast (np := 105) (x := 0) (kd := 1) (n := 120) (i := (20 * u3785 + u3916)) (by decide +kernel) (Or.inl rfl) (by decide +kernel) (by first | decide | omega) (by first | decide | omega) (by decide) (by first | decide | omega) (fun z => absurd z (by decide)) ?_
        have j3919 := jU (e := (20 * u3785 + u3916)) (v := v3682) (20 * u3785 + u3916) j3906 rg_56_0_1_120 (by first | decide | omega) (by first | decide | omega) (by first | decide | omega)
        have f3921 := jF (e := (20 * u3785 + u3916)) (v := v3682) (20 * u3785 + u3916) f3908 rg_56_0_1_120 (by first | decide | omega) (by first | decide | omega) (by decide)
        have f3922 := jF (e := (20 * u3785 + u3916)) (v := v3682) (20 * u3785 + u3916) f3909 rg_56_0_1_120 (by first | decide | omega) (by first | decide | omega) (by decide)
        generalize e3920 : x_up h3905 56 (20 * u3785 + u3916) v3682 = h3918 at j3919 f3921 f3922 ⊢
        refine x_aload (np := 106) (x := 0) (by decide +kernel) rfl (x_nc_le (by decide)) ?_
        have q3923 : h3918 45 12 = 57 := by have z := jB (e := 12) 0 j3919 rg_45_12_0_1 (by decide) (by decide); omega
        refine x_getR (np := 109) (x := 76) (f := 12) (q := 57) (by decide +kernel) (by decide) (by decide +kernel) q3923 ?_
        refine x_iload (np := 110) (x := 3) (by decide +kernel) rfl l3728 ?_
        refine x_dup2 (np := 111) (x := 0) (by decide +kernel) (by have z := (iw_c_lt (a := ((h ((h 45 5) + 2) (7 * u3723)))) l3728).1; omega) (by have z := x_nc_le (k := 57) (by decide); unfold x_r; omega) ?_
        have q3924 : h3918 57 u3785 = h3905 57 u3785 := by rw [← e3920]; exact x_up_k (by decide)
        have q3925 : h3905 57 u3785 = h3893 57 u3785 := by rw [← e3907]; exact x_up_k (by decide)
        have q3926 : h3893 57 u3785 = h3686 57 u3785 := jK u3785 f3895 rg_57_0_1_6 (by first | decide | omega) (by first | decide | omega) (by decide)
        refine x_aldC (np := 112) (x := 0) (n := 6) (i := u3785) (q := (h3686 57 u3785)) (by decide +kernel) (by decide +kernel) (by first | decide | omega) (by first | decide | omega) (by decide) ((q3924.trans q3925).trans q3926) (fun l3927 => ?_)
        refine x_const (np := 113) (x := 9223372043297226753) (a := 2147483649) (by decide +kernel) (by decide) (by decide) ?_
        refine x_iadd (np := 114) (x := 0) (v := (1 + (h3686 57 u3785))) (by decide +kernel) l3788 (by decide) (by first | decide | omega) (by first | decide | omega) ?_
        refine x_ast (np := 115) (x := 0) (kd := 1) (n := 6) (i := u3785) (by decide +kernel) (Or.inl rfl) (by decide +kernel) (by first | decide | omega) (by first | decide | omega) (by decide) (by first | decide | omega) (fun z => absurd z (by decide)) ?_
        have j3929 := jU (e := u3785) (v := (1 + (h3686 57 u3785))) u3785 j3919 rg_57_0_1_6 (by first | decide | omega) (by first | decide | omega) (by first | decide | omega)
        have f3931 := jF (e := u3785) (v := (1 + (h3686 57 u3785))) u3785 f3921 rg_57_0_1_6 (by first | decide | omega) (by first | decide | omega) (by decide)
        have f3932 := jF (e := u3785) (v := (1 + (h3686 57 u3785))) u3785 f3922 rg_57_0_1_6 (by first | decide | omega) (by first | decide | omega) (by decide)
        generalize e3930 : x_up h3918 57 u3785 (1 + (h3686 57 u3785)) = h3928 at j3929 f3931 f3932 ⊢
        refine x_iinc (np := 118) (i := 2) (j := 2147483649) (v := (1 + v3682)) (lo' := [x_r 45, iv_c a1, iv_c (1 + v3682), iv_c ((h ((h 45 5) + 2) (7 * u3723))), iv_c 2147483649]) (by decide +kernel) (by decide) (by decide) rfl (by first | decide | omega) (by first | decide | omega) (by first | decide | omega) rfl ?_
        refine x_goto (np := 121) (x := 2) (by decide +kernel) ?_
        exact i3691 (1 + v3682) (iv_c ((h ((h 45 5) + 2) (7 * u3723)))) (iv_c 2147483649) h3928 (by first | decide | omega) (by first | decide | omega) j3929 f3932
      have q3826 : ¬ (2147483649 ≠ 2147483648) := q3826
      exfalso; omega
  exact p3689 _ 2147483648 147573952589676412928 147573952589676412928 h (Nat.lt_succ_self _) (by first | decide | omega) hJ (Fr.refl _ _)
set_option maxHeartbeats 0 in
/-- LentNames$Calendar.stateNow(II)I -/
theorem c28_45 {sc : Nat × Nat} {d a1 a2 : Nat} {h : xh} (hJ : J h) (ba1 : 2147483648 ≤ a1 ∧ a1 ≤ 2147483653) (ba2 : 2147483648 ≤ a2 ∧ a2 ≤ 2147483659) : X sc 28 (d + 2) (xI fun r h' => h' = h ∧ (2147483648 ≤ r ∧ r ≤ 2147483651)) 0 0 0 [x_r 45, iv_c a1, iv_c a2] [] h := by
  have la1 : a1 < 4294967296 := by first | decide | omega
  have la2 : a2 < 4294967296 := by first | decide | omega
  refine x_aload (np := 1) (x := 0) (by decide +kernel) rfl (x_nc_le (by decide)) ?_
  refine x_aload (np := 2) (x := 0) (by decide +kernel) rfl (x_nc_le (by decide)) ?_
  refine x_iload (np := 3) (x := 1) (by decide +kernel) rfl la1 ?_
  refine x_cP (t := 6) (mj := 32) (n := 2) (rc := 2) (ml := 2) (nr := 1) (np := 6) (as := [x_r 45, iv_c a1]) (rest := [x_r 45]) (lo1 := [x_r 45, iv_c a1]) (by decide +kernel) (by decide) (by decide +kernel) (x_rb_of (by decide +kernel)) rfl rfl (x_wr (by decide) (x_wi la1 x_wn)) (x_wr (by decide) x_wn) (by decide) rfl (c32_45 hJ  (by first | decide | omega)) (fun v1 l2 q3 => ?_)
  refine x_iload (np := 7) (x := 2) (by decide +kernel) rfl la2 ?_
  refine x_nI (t := 6) (mj := 31) (n := 3) (rc := 2) (ml := 3) (nr := 0) (np := 10) (as := [x_r 45, iv_c v1, iv_c a2]) (rest := []) (lo1 := [x_r 45, iv_c v1, iv_c a2]) (by decide +kernel) (by decide) (by decide +kernel) (x_rb_of (by decide +kernel)) rfl rfl (x_wr (by decide) (x_wi l2 (x_wi la2 x_wn))) x_wn (by decide) rfl ?_
  refine x_iload (np := 1) (x := 1) (by decide +kernel) rfl l2 ?_
  refine x_ifz (k := 2) (tg := 27) (np := 4) (by decide +kernel) (by decide) l2 (fun q4 => ?_) (fun q5 => ?_)
  · have q4 : v1 < 2147483648 := q4
    refine x_const (np := 28) (x := 9223372039002259456) (a := 2147483648) (by decide +kernel) (by decide) (by decide) ?_
    refine x_retI (np := 29) (x := 0) (by decide +kernel) (by decide) (Or.inr ⟨by decide +kernel, by first | decide | omega, by first | decide | omega⟩) ⟨_, rfl, (by decide), ?_⟩
    refine x_ifz (k := 1) (tg := 15) (np := 13) (by decide +kernel) (by decide) (by decide) (fun q6 => ?_) (fun q7 => ?_)
    · have q6 : 2147483648 ≠ 2147483648 := q6
      exfalso; omega
    have q7 : ¬ (2147483648 ≠ 2147483648) := q7
    refine x_const (np := 14) (x := 9223372051887161347) (a := 2147483651) (by decide +kernel) (by decide) (by decide) ?_
    refine x_retI (np := 15) (x := 0) (by decide +kernel) (by decide) (Or.inl (by decide +kernel)) ⟨_, rfl, (by decide), ?_⟩
    exact ⟨rfl, (by first | decide | omega)⟩
  have q5 : ¬ (v1 < 2147483648) := q5
  refine x_iload (np := 5) (x := 1) (by decide +kernel) rfl l2 ?_
  refine x_const (np := 7) (x := 9223372064772063238) (a := 2147483654) (by decide +kernel) (by decide) (by decide) ?_
  refine x_icmp (k := 3) (tg := 27) (np := 10) (by decide +kernel) (by decide) l2 (by decide) (fun q8 => ?_) (fun q9 => ?_)
  · have q8 : 2147483654 ≤ v1 := q8
    refine x_const (np := 28) (x := 9223372039002259456) (a := 2147483648) (by decide +kernel) (by decide) (by decide) ?_
    refine x_retI (np := 29) (x := 0) (by decide +kernel) (by decide) (Or.inr ⟨by decide +kernel, by first | decide | omega, by first | decide | omega⟩) ⟨_, rfl, (by decide), ?_⟩
    refine x_ifz (k := 1) (tg := 15) (np := 13) (by decide +kernel) (by decide) (by decide) (fun q10 => ?_) (fun q11 => ?_)
    · have q10 : 2147483648 ≠ 2147483648 := q10
      exfalso; omega
    have q11 : ¬ (2147483648 ≠ 2147483648) := q11
    refine x_const (np := 14) (x := 9223372051887161347) (a := 2147483651) (by decide +kernel) (by decide) (by decide) ?_
    refine x_retI (np := 15) (x := 0) (by decide +kernel) (by decide) (Or.inl (by decide +kernel)) ⟨_, rfl, (by decide), ?_⟩
    exact ⟨rfl, (by first | decide | omega)⟩
  have q9 : ¬ (2147483654 ≤ v1) := q9
  refine x_aload (np := 11) (x := 0) (by decide +kernel) rfl (x_nc_le (by decide)) ?_
  have q12 : h 45 0 = 46 := by have z := jB (e := 0) 0 hJ rg_45_0_0_1 (by decide) (by decide); omega
  refine x_getR (np := 14) (x := 64) (f := 0) (q := 46) (by decide +kernel) (by decide) (by decide +kernel) q12 ?_
  refine x_iload (np := 15) (x := 1) (by decide +kernel) rfl l2 ?_
  obtain ⟨u13, q14⟩ : ∃ z, v1 = 2147483648 + z := ⟨v1 - 2147483648, by first | decide | omega⟩
  refine x_aldC (np := 16) (x := 0) (n := 6) (i := u13) (q := (h 46 u13)) (by decide +kernel) (by decide +kernel) (by first | decide | omega) (by first | decide | omega) (by decide) rfl (fun l15 => ?_)
  refine x_iload (np := 17) (x := 2) (by decide +kernel) rfl la2 ?_
  refine x_cP (t := 7) (mj := 148) (n := 2) (rc := 0) (ml := 2) (nr := 0) (np := 20) (as := [iv_c (h 46 u13), iv_c a2]) (rest := []) (lo1 := [iv_c (h 46 u13), iv_c a2]) (by decide +kernel) (by decide) (by decide +kernel) (Or.inl rfl) rfl rfl (x_wi l15 (x_wi la2 x_wn)) x_wn (by decide) rfl (c148 hJ (by first | decide | omega) (by first | decide | omega)) (fun v16 l17 q18 => ?_)
  obtain ⟨b20, c19⟩ := q18
  refine x_ifz (k := 0) (tg := 27) (np := 23) (by decide +kernel) (by decide) l17 (fun q21 => ?_) (fun q22 => ?_)
  · have q21 : v16 = 2147483648 := q21
    refine x_const (np := 28) (x := 9223372039002259456) (a := 2147483648) (by decide +kernel) (by decide) (by decide) ?_
    refine x_retI (np := 29) (x := 0) (by decide +kernel) (by decide) (Or.inr ⟨by decide +kernel, by first | decide | omega, by first | decide | omega⟩) ⟨_, rfl, (by decide), ?_⟩
    refine x_ifz (k := 1) (tg := 15) (np := 13) (by decide +kernel) (by decide) (by decide) (fun q23 => ?_) (fun q24 => ?_)
    · have q23 : 2147483648 ≠ 2147483648 := q23
      exfalso; omega
    have q24 : ¬ (2147483648 ≠ 2147483648) := q24
    refine x_const (np := 14) (x := 9223372051887161347) (a := 2147483651) (by decide +kernel) (by decide) (by decide) ?_
    refine x_retI (np := 15) (x := 0) (by decide +kernel) (by decide) (Or.inl (by decide +kernel)) ⟨_, rfl, (by decide), ?_⟩
    exact ⟨rfl, (by first | decide | omega)⟩
  have q22 : ¬ (v16 = 2147483648) := q22
  refine x_const (np := 24) (x := 9223372043297226753) (a := 2147483649) (by decide +kernel) (by decide) (by decide) ?_
  refine x_goto (np := 27) (x := 28) (by decide +kernel) ?_
  refine x_retI (np := 29) (x := 0) (by decide +kernel) (by decide) (Or.inr ⟨by decide +kernel, by first | decide | omega, by first | decide | omega⟩) ⟨_, rfl, (by decide), ?_⟩
  refine x_ifz (k := 1) (tg := 15) (np := 13) (by decide +kernel) (by decide) (by decide) (fun q25 => ?_) (fun q26 => ?_)
  · have q25 : 2147483649 ≠ 2147483648 := q25
    refine x_aload (np := 16) (x := 0) (by decide +kernel) rfl (x_nc_le (by decide)) ?_
    have q27 : h 45 12 = 57 := by have z := jB (e := 12) 0 hJ rg_45_12_0_1 (by decide) (by decide); omega
    refine x_getR (np := 19) (x := 76) (f := 12) (q := 57) (by decide +kernel) (by decide) (by decide +kernel) q27 ?_
    refine x_iload (np := 20) (x := 1) (by decide +kernel) rfl la1 ?_
    obtain ⟨u28, q29⟩ : ∃ z, a1 = 2147483648 + z := ⟨a1 - 2147483648, by first | decide | omega⟩
    have b30 := jB (e := u28) u28 hJ rg_57_0_1_6 (by first | decide | omega) (by first | decide | omega)
    refine x_aldC (np := 21) (x := 0) (n := 6) (i := u28) (q := (h 57 u28)) (by decide +kernel) (by decide +kernel) (by first | decide | omega) (by first | decide | omega) (by decide) rfl (fun l31 => ?_)
    refine x_ifz (k := 1) (tg := 26) (np := 24) (by decide +kernel) (by decide) l31 (fun q32 => ?_) (fun q33 => ?_)
    · have q32 : (h 57 u28) ≠ 2147483648 := q32
      refine x_aload (np := 27) (x := 0) (by decide +kernel) rfl (x_nc_le (by decide)) ?_
      refine x_iload (np := 28) (x := 1) (by decide +kernel) rfl la1 ?_
      refine x_iload (np := 29) (x := 2) (by decide +kernel) rfl la2 ?_
      refine x_cP (t := 6) (mj := 30) (n := 3) (rc := 2) (ml := 4) (nr := 0) (np := 32) (as := [x_r 45, iv_c a1, iv_c a2]) (rest := []) (lo1 := [x_r 45, iv_c a1, iv_c a2, 147573952589676412928]) (by decide +kernel) (by decide) (by decide +kernel) (x_rb_of (by decide +kernel)) rfl rfl (x_wr (by decide) (x_wi la1 (x_wi la2 x_wn))) x_wn (by decide) rfl (c30_45 hJ  (by first | decide | omega) (by first | decide | omega)) (fun v34 l35 q36 => ?_)
      refine x_ifz (k := 0) (tg := 39) (np := 35) (by decide +kernel) (by decide) l35 (fun q37 => ?_) (fun q38 => ?_)
      · have q37 : v34 = 2147483648 := q37
        refine x_const (np := 40) (x := 9223372043297226753) (a := 2147483649) (by decide +kernel) (by decide) (by decide) ?_
        refine x_retI (np := 41) (x := 0) (by decide +kernel) (by decide) (Or.inl (by decide +kernel)) ⟨_, rfl, (by decide), ?_⟩
        exact ⟨rfl, (by first | decide | omega)⟩
      have q38 : ¬ (v34 = 2147483648) := q38
      refine x_const (np := 36) (x := 9223372047592194050) (a := 2147483650) (by decide +kernel) (by decide) (by decide) ?_
      refine x_goto (np := 39) (x := 40) (by decide +kernel) ?_
      refine x_retI (np := 41) (x := 0) (by decide +kernel) (by decide) (Or.inl (by decide +kernel)) ⟨_, rfl, (by decide), ?_⟩
      exact ⟨rfl, (by first | decide | omega)⟩
    have q33 : ¬ ((h 57 u28) ≠ 2147483648) := q33
    refine x_const (np := 25) (x := 9223372039002259456) (a := 2147483648) (by decide +kernel) (by decide) (by decide) ?_
    refine x_retI (np := 26) (x := 0) (by decide +kernel) (by decide) (Or.inl (by decide +kernel)) ⟨_, rfl, (by decide), ?_⟩
    exact ⟨rfl, (by first | decide | omega)⟩
  have q26 : ¬ (2147483649 ≠ 2147483648) := q26
  exfalso; omega
set_option maxHeartbeats 0 in
/-- LentNames$Calendar.noteRow(II)V -/
theorem c27_45 {sc : Nat × Nat} {d a1 a2 : Nat} {h : xh} (hJ : J h) (ba1 : 2147483648 ≤ a1 ∧ a1 ≤ 2147483653) (ba2 : 2147483648 ≤ a2 ∧ a2 ≤ 2147485139) : X sc 27 (d + 1) (xV fun h' => J h' ∧ Fr 1025 h h') 0 0 0 [x_r 45, iv_c a1, iv_c a2, 147573952589676412928] [] h := by
  have la1 : a1 < 4294967296 := by first | decide | omega
  have la2 : a2 < 4294967296 := by first | decide | omega
  have hF := Fr.refl 1025 h
  refine x_aload (np := 1) (x := 0) (by decide +kernel) rfl (x_nc_le (by decide)) ?_
  have q1 : h 45 8 = 53 := by have z := jB (e := 8) 0 hJ rg_45_8_0_1 (by decide) (by decide); omega
  refine x_getR (np := 4) (x := 72) (f := 8) (q := 53) (by decide +kernel) (by decide) (by decide +kernel) q1 ?_
  refine x_iload (np := 5) (x := 2) (by decide +kernel) rfl la2 ?_
  refine x_iload (np := 6) (x := 1) (by decide +kernel) rfl la1 ?_
  obtain ⟨u2, q3⟩ : ∃ z, a2 = 2147483648 + z := ⟨a2 - 2147483648, by first | decide | omega⟩
  refine x_ast (np := 7) (x := 0) (kd := 1) (n := 1512) (i := u2) (by decide +kernel) (Or.inl rfl) (by decide +kernel) (by first | decide | omega) (by first | decide | omega) (by decide) la1 (fun z => absurd z (by decide)) ?_
  have j5 := jU (e := u2) (v := a1) u2 hJ rg_53_0_1_1512 (by first | decide | omega) (by first | decide | omega) (by first | decide | omega)
  have f7 := jF (e := u2) (v := a1) u2 hF rg_53_0_1_1512 (by first | decide | omega) (by first | decide | omega) (by decide)
  generalize e6 : x_up h 53 u2 a1 = h4 at j5 f7 ⊢
  refine x_const (np := 8) (x := 9223372039002259456) (a := 2147483648) (by decide +kernel) (by decide) (by decide) ?_
  refine x_istore (np := 9) (x := 3) (lo' := [x_r 45, iv_c a1, iv_c a2, iv_c 2147483648]) (by decide +kernel) (by decide) (Nat.le_of_ble_eq_true rfl) rfl ?_
  have p771 : ∀ (n : Nat) (v766 : Nat) (h768 : xh), 4294967296 - v766 < n → (2147483648 ≤ v766 ∧ v766 ≤ 2147483668) → J h768 → Fr 1024 h4 h768 → X sc 27 (d + 1) (xV fun h' => J h' ∧ Fr 1025 h h') 0 0 9 [x_r 45, iv_c a1, iv_c a2, iv_c v766] [] h768 := by
    intro n
    induction n with
    | zero => intro v766 h768 q772; exact absurd q772 (Nat.not_lt_zero _)
    | succ n i773 =>
      intro v766 h768 q772 b767 j770 f769
      have f774 := Fr.trans f7 f769 (by decide)
      refine x_iload (np := 10) (x := 3) (by decide +kernel) rfl (by first | decide | omega) ?_
      refine x_const (np := 12) (x := 9223372124901605396) (a := 2147483668) (by decide +kernel) (by decide) (by decide) ?_
      refine x_icmp (k := 3) (tg := 62) (np := 15) (by decide +kernel) (by decide) (by first | decide | omega) (by decide) (fun q775 => ?_) (fun q776 => ?_)
      · have q775 : 2147483668 ≤ v766 := q775
        refine x_retV (np := 63) (x := 0) (by decide +kernel) (by decide +kernel) ⟨rfl, ?_⟩
        exact ⟨j770, f774⟩
      have q776 : ¬ (2147483668 ≤ v766) := q776
      refine x_aload (np := 16) (x := 0) (by decide +kernel) rfl (x_nc_le (by decide)) ?_
      have q777 : h768 45 8 = 53 := by have z := jB (e := 8) 0 j770 rg_45_8_0_1 (by decide) (by decide); omega
      refine x_getR (np := 19) (x := 72) (f := 8) (q := 53) (by decide +kernel) (by decide) (by decide +kernel) q777 ?_
      refine x_iload (np := 20) (x := 2) (by decide +kernel) rfl la2 ?_
      refine x_const (np := 21) (x := 9223372043297226753) (a := 2147483649) (by decide +kernel) (by decide) (by decide) ?_
      refine x_iadd (np := 22) (x := 0) (v := (1 + a2)) (by decide +kernel) la2 (by decide) (by first | decide | omega) (by first | decide | omega) ?_
      refine x_iload (np := 23) (x := 3) (by decide +kernel) rfl (by first | decide | omega) ?_
      obtain ⟨v778, q779⟩ : ∃ z, z + 2147483648 = (1 + a2) + v766 := ⟨(1 + a2) + v766 - 2147483648, by first | decide | omega⟩
      refine x_iadd (np := 24) (x := 0) (v := v778) (by decide +kernel) (by first | decide | omega) (by first | decide | omega) (by first | decide | omega) (by first | decide | omega) ?_
      refine x_iload (np := 25) (x := 3) (by decide +kernel) rfl (by first | decide | omega) ?_
      refine x_aload (np := 26) (x := 0) (by decide +kernel) rfl (x_nc_le (by decide)) ?_
      have q780 : h768 45 12 = 57 := by have z := jB (e := 12) 0 j770 rg_45_12_0_1 (by decide) (by decide); omega
      refine x_getR (np := 29) (x := 76) (f := 12) (q := 57) (by decide +kernel) (by decide) (by decide +kernel) q780 ?_
      refine x_iload (np := 30) (x := 1) (by decide +kernel) rfl la1 ?_
      obtain ⟨u781, q782⟩ : ∃ z, a1 = 2147483648 + z := ⟨a1 - 2147483648, by first | decide | omega⟩
      have q783 : h768 57 u781 = h4 57 u781 := jK u781 f769 rg_57_0_1_6 (by first | decide | omega) (by first | decide | omega) (by decide)
      have q784 : h4 57 u781 = h 57 u781 := by rw [← e6]; exact x_up_k (by decide)
      have b785 := jB (e := u781) u781 hJ rg_57_0_1_6 (by first | decide | omega) (by first | decide | omega)
      refine x_aldC (np := 31) (x := 0) (n := 6) (i := u781) (q := (h 57 u781)) (by decide +kernel) (by decide +kernel) (by first | decide | omega) (by first | decide | omega) (by decide) (q783.trans q784) (fun l786 => ?_)
      refine x_icmp (k := 3) (tg := 54) (np := 34) (by decide +kernel) (by decide) (by first | decide | omega) l786 (fun q787 => ?_) (fun q788 => ?_)
      · have q787 : (h 57 u781) ≤ v766 := q787
        refine x_const (np := 55) (x := 9223372034707292159) (a := 2147483647) (by decide +kernel) (by decide) (by decide) ?_
        obtain ⟨u789, q790⟩ : ∃ z, v778 = 2147483648 + z := ⟨v778 - 2147483648, by first | decide | omega⟩
        refine x_ast (np := 56) (x := 0) (kd := 1) (n := 1512) (i := u789) (by decide +kernel) (Or.inl rfl) (by decide +kernel) (by first | decide | omega) (by first | decide | omega) (by decide) (by decide) (fun z => absurd z (by decide)) ?_
        have j792 := jU (e := u789) (v := 2147483647) u789 j770 rg_53_0_1_1512 (by first | decide | omega) (by first | decide | omega) (by first | decide | omega)
        have f794 := jF (e := u789) (v := 2147483647) u789 f774 rg_53_0_1_1512 (by first | decide | omega) (by first | decide | omega) (by decide)
        have f795 := jF (e := u789) (v := 2147483647) u789 f769 rg_53_0_1_1512 (by first | decide | omega) (by first | decide | omega) (by decide)
        generalize e793 : x_up h768 53 u789 2147483647 = h791 at j792 f794 f795 ⊢
        refine x_iinc (np := 59) (i := 3) (j := 2147483649) (v := (1 + v766)) (lo' := [x_r 45, iv_c a1, iv_c a2, iv_c (1 + v766)]) (by decide +kernel) (by decide) (by decide) rfl (by first | decide | omega) (by first | decide | omega) (by first | decide | omega) rfl ?_
        refine x_goto (np := 62) (x := 9) (by decide +kernel) ?_
        exact i773 (1 + v766) h791 (by first | decide | omega) (by first | decide | omega) j792 f795
      have q788 : ¬ ((h 57 u781) ≤ v766) := q788
      refine x_aload (np := 35) (x := 0) (by decide +kernel) rfl (x_nc_le (by decide)) ?_
      have q796 : h768 45 5 = h4 45 5 := f769 45 5 (by decide +kernel)
      have q797 : h4 45 5 = h 45 5 := by rw [← e6]; exact x_up_k (by decide)
      have t798 : tw (h 45 5) := hJ.2.2.2.1
      refine x_getR (np := 38) (x := 69) (f := 5) (q := (h 45 5)) (by decide +kernel) (by decide) (by decide +kernel) (q796.trans q797) ?_
      have q799 : h768 (h 45 5) 0 = ((h 45 5) + 1) := tf_0_0 j770 t798
      refine x_getR (np := 41) (x := 512) (f := 0) (q := ((h 45 5) + 1)) (by decide +kernel) (by decide) (tg_0_512_0_1 t798) q799 ?_
      refine x_aload (np := 42) (x := 0) (by decide +kernel) rfl (x_nc_le (by decide)) ?_
      refine x_iload (np := 43) (x := 1) (by decide +kernel) rfl la1 ?_
      refine x_iload (np := 44) (x := 3) (by decide +kernel) rfl (by first | decide | omega) ?_
      refine x_nI (t := 6) (mj := 33) (n := 3) (rc := 2) (ml := 3) (nr := 3) (np := 47) (as := [x_r 45, iv_c a1, iv_c v766]) (rest := [x_r ((h 45 5) + 1), iv_c v778, x_r 53]) (lo1 := [x_r 45, iv_c a1, iv_c v766]) (by decide +kernel) (by decide) (by decide +kernel) (x_rb_of (by decide +kernel)) rfl rfl (x_wr (by decide) (x_wi la1 (x_wi (by first | decide | omega) x_wn))) (x_wr (tn_1 t798) (x_wi (by first | decide | omega) (x_wr (by decide) x_wn))) (by decide) rfl ?_
      refine x_aload (np := 1) (x := 0) (by decide +kernel) rfl (x_nc_le (by decide)) ?_
      have q800 : h768 45 11 = 56 := by have z := jB (e := 11) 0 j770 rg_45_11_0_1 (by decide) (by decide); omega
      refine x_getR (np := 4) (x := 75) (f := 11) (q := 56) (by decide +kernel) (by decide) (by decide +kernel) q800 ?_
      refine x_iload (np := 5) (x := 1) (by decide +kernel) rfl la1 ?_
      refine x_const (np := 7) (x := 9223372124901605396) (a := 2147483668) (by decide +kernel) (by decide) (by decide) ?_
      refine x_imul (np := 8) (x := 0) (i := u781) (j := 20) (v := (2147483648 + 20 * u781)) (by decide +kernel) (by first | decide | omega) (by first | decide | omega) (by first | decide | omega) (by first | decide | omega) la1 (by decide) ?_
      refine x_iload (np := 9) (x := 2) (by decide +kernel) rfl (by first | decide | omega) ?_
      refine x_iadd (np := 10) (x := 0) (v := (20 * u781 + v766)) (by decide +kernel) (by first | decide | omega) (by first | decide | omega) (by first | decide | omega) (by first | decide | omega) ?_
      obtain ⟨u802, q803⟩ : ∃ z, v766 = 2147483648 + z := ⟨v766 - 2147483648, by first | decide | omega⟩
      have q804 : h768 56 (20 * u781 + u802) = h4 56 (20 * u781 + u802) := jK (20 * u781 + u802) f769 rg_56_0_1_120 (by first | decide | omega) (by first | decide | omega) (by decide)
      have q805 : h4 56 (20 * u781 + u802) = h 56 (20 * u781 + u802) := by rw [← e6]; exact x_up_k (by decide)
      have b806 := jB (e := (20 * u781 + u802)) (20 * u781 + u802) hJ rg_56_0_1_120 (by first | decide | omega) (by first | decide | omega)
      refine x_aldC (np := 11) (x := 0) (n := 120) (i := (20 * u781 + u802)) (q := ((h 56 (20 * u781 + u802)))) (by decide +kernel) (by decide +kernel) (by first | decide | omega) (by first | decide | omega) (by decide) (q804.trans q805) (fun l807 => ?_)
      refine x_retI (np := 12) (x := 0) (by decide +kernel) l807 (Or.inl (by decide +kernel)) ⟨_, rfl, l807, ?_⟩
      refine x_const (np := 48) (x := 9223372043297226753) (a := 2147483649) (by decide +kernel) (by decide) (by decide) ?_
      refine x_cP (t := 6) (mj := 68) (n := 3) (rc := 7) (ml := 4) (nr := 2) (np := 51) (as := [x_r ((h 45 5) + 1), iv_c ((h 56 (20 * u781 + u802))), iv_c 2147483649]) (rest := [iv_c v778, x_r 53]) (lo1 := [x_r ((h 45 5) + 1), iv_c ((h 56 (20 * u781 + u802))), iv_c 2147483649, 147573952589676412928]) (by decide +kernel) (by decide) (by decide +kernel) (x_rb_of (tr_1_7 t798)) rfl rfl (x_wr (tn_1 t798) (x_wi l807 (x_wi (by decide) x_wn))) (x_wi (by first | decide | omega) (x_wr (by decide) x_wn)) (by decide) rfl (c68_T1_c1 j770 t798 (by first | decide | omega) ) (fun v811 l812 q813 => ?_)
      refine x_goto (np := 54) (x := 55) (by decide +kernel) ?_
      obtain ⟨u814, q815⟩ : ∃ z, v778 = 2147483648 + z := ⟨v778 - 2147483648, by first | decide | omega⟩
      refine x_ast (np := 56) (x := 0) (kd := 1) (n := 1512) (i := u814) (by decide +kernel) (Or.inl rfl) (by decide +kernel) (by first | decide | omega) (by first | decide | omega) (by decide) l812 (fun z => absurd z (by decide)) ?_
      have j817 := jU (e := u814) (v := v811) u814 j770 rg_53_0_1_1512 (by first | decide | omega) (by first | decide | omega) (by first | decide | omega)
      have f819 := jF (e := u814) (v := v811) u814 f774 rg_53_0_1_1512 (by first | decide | omega) (by first | decide | omega) (by decide)
      have f820 := jF (e := u814) (v := v811) u814 f769 rg_53_0_1_1512 (by first | decide | omega) (by first | decide | omega) (by decide)
      generalize e818 : x_up h768 53 u814 v811 = h816 at j817 f819 f820 ⊢
      refine x_iinc (np := 59) (i := 3) (j := 2147483649) (v := (1 + v766)) (lo' := [x_r 45, iv_c a1, iv_c a2, iv_c (1 + v766)]) (by decide +kernel) (by decide) (by decide) rfl (by first | decide | omega) (by first | decide | omega) (by first | decide | omega) rfl ?_
      refine x_goto (np := 62) (x := 9) (by decide +kernel) ?_
      exact i773 (1 + v766) h816 (by first | decide | omega) (by first | decide | omega) j817 f820
  exact p771 _ 2147483648 h4 (Nat.lt_succ_self _) (by first | decide | omega) j5 (Fr.refl _ _)
set_option maxHeartbeats 0 in
/-- LentNames$Calendar.note(I)V -/
theorem c26_45 {sc : Nat × Nat} {d a1 : Nat} {h : xh} (hJ : J h) (ba1 : 2147483648 ≤ a1 ∧ a1 ≤ 2147483659) : X sc 26 (d + 3) (xV fun h' => J h' ∧ Fr 1025 h h') 0 0 0 [x_r 45, iv_c a1, 147573952589676412928, 147573952589676412928, 147573952589676412928] [] h := by
  have la1 : a1 < 4294967296 := by first | decide | omega
  have hF := Fr.refl 1025 h
  refine x_const (np := 1) (x := 9223372039002259456) (a := 2147483648) (by decide +kernel) (by decide) (by decide) ?_
  refine x_istore (np := 2) (x := 2) (lo' := [x_r 45, iv_c a1, iv_c 2147483648, 147573952589676412928, 147573952589676412928]) (by decide +kernel) (by decide) (Nat.le_of_ble_eq_true rfl) rfl ?_
  have p1220 : ∀ (n : Nat) (v1213 : Nat) (w1215 : Nat) (w1216 : Nat) (h1217 : xh), 4294967296 - v1213 < n → (2147483648 ≤ v1213 ∧ v1213 ≤ 2147483654) → J h1217 → Fr 1025 h h1217 → X sc 26 (d + 3) (xV fun h' => J h' ∧ Fr 1025 h h') 0 0 2 [x_r 45, iv_c a1, iv_c v1213, w1215, w1216] [] h1217 := by
    intro n
    induction n with
    | zero => intro v1213 w1215 w1216 h1217 q1221; exact absurd q1221 (Nat.not_lt_zero _)
    | succ n i1222 =>
      intro v1213 w1215 w1216 h1217 q1221 b1214 j1219 f1218
      have f1223 := Fr.trans hF f1218 (by decide)
      refine x_iload (np := 3) (x := 2) (by decide +kernel) rfl (by first | decide | omega) ?_
      refine x_aload (np := 4) (x := 0) (by decide +kernel) rfl (x_nc_le (by decide)) ?_
      have q1224 : h1217 45 5 = h 45 5 := f1218 45 5 (by decide +kernel)
      have t1225 : tw (h 45 5) := hJ.2.2.2.1
      refine x_getR (np := 7) (x := 69) (f := 5) (q := (h 45 5)) (by decide +kernel) (by decide) (by decide +kernel) q1224 ?_
      have q1226 : h1217 (h 45 5) 7 = h (h 45 5) 7 := jK 0 f1218 (rg_T0_7_0_1 t1225) (by first | decide | omega) (by first | decide | omega) (by decide)
      have b1227 := jB (e := 7) 0 hJ (rg_T0_7_0_1 t1225) (by first | decide | omega) (by first | decide | omega)
      refine x_getC (np := 10) (x := 519) (f := 7) (q := (h (h 45 5) 7)) (by decide +kernel) (by decide) (tg_0_519_7_0 t1225) q1226 (fun l1228 => ?_)
      refine x_icmp (k := 3) (tg := 111) (np := 13) (by decide +kernel) (by decide) (by first | decide | omega) l1228 (fun q1229 => ?_) (fun q1230 => ?_)
      · have q1229 : (h (h 45 5) 7) ≤ v1213 := q1229
        refine x_retV (np := 112) (x := 0) (by decide +kernel) (by decide +kernel) ⟨rfl, ?_⟩
        exact ⟨j1219, f1223⟩
      have q1230 : ¬ ((h (h 45 5) 7) ≤ v1213) := q1230
      refine x_aload (np := 14) (x := 0) (by decide +kernel) rfl (x_nc_le (by decide)) ?_
      refine x_iload (np := 15) (x := 2) (by decide +kernel) rfl (by first | decide | omega) ?_
      refine x_cP (t := 6) (mj := 32) (n := 2) (rc := 2) (ml := 2) (nr := 0) (np := 18) (as := [x_r 45, iv_c v1213]) (rest := []) (lo1 := [x_r 45, iv_c v1213]) (by decide +kernel) (by decide) (by decide +kernel) (x_rb_of (by decide +kernel)) rfl rfl (x_wr (by decide) (x_wi (by first | decide | omega) x_wn)) x_wn (by decide) rfl (c32_45 j1219  (by first | decide | omega)) (fun v1231 l1232 q1233 => ?_)
      refine x_istore (np := 19) (x := 3) (lo' := [x_r 45, iv_c a1, iv_c v1213, iv_c v1231, w1216]) (by decide +kernel) l1232 (Nat.le_of_ble_eq_true rfl) rfl ?_
      refine x_aload (np := 20) (x := 0) (by decide +kernel) rfl (x_nc_le (by decide)) ?_
      refine x_iload (np := 21) (x := 3) (by decide +kernel) rfl l1232 ?_
      refine x_iload (np := 22) (x := 1) (by decide +kernel) rfl la1 ?_
      refine x_nI (t := 6) (mj := 31) (n := 3) (rc := 2) (ml := 3) (nr := 0) (np := 25) (as := [x_r 45, iv_c v1231, iv_c a1]) (rest := []) (lo1 := [x_r 45, iv_c v1231, iv_c a1]) (by decide +kernel) (by decide) (by decide +kernel) (x_rb_of (by decide +kernel)) rfl rfl (x_wr (by decide) (x_wi l1232 (x_wi la1 x_wn))) x_wn (by decide) rfl ?_
      refine x_iload (np := 1) (x := 1) (by decide +kernel) rfl l1232 ?_
      refine x_ifz (k := 2) (tg := 27) (np := 4) (by decide +kernel) (by decide) l1232 (fun q1234 => ?_) (fun q1235 => ?_)
      · have q1234 : v1231 < 2147483648 := q1234
        refine x_const (np := 28) (x := 9223372039002259456) (a := 2147483648) (by decide +kernel) (by decide) (by decide) ?_
        refine x_retI (np := 29) (x := 0) (by decide +kernel) (by decide) (Or.inr ⟨by decide +kernel, by first | decide | omega, by first | decide | omega⟩) ⟨_, rfl, (by decide), ?_⟩
        refine x_ifz (k := 1) (tg := 32) (np := 28) (by decide +kernel) (by decide) (by decide) (fun q1236 => ?_) (fun q1237 => ?_)
        · have q1236 : 2147483648 ≠ 2147483648 := q1236
          exfalso; omega
        have q1237 : ¬ (2147483648 ≠ 2147483648) := q1237
        refine x_const (np := 29) (x := 9223372043297226753) (a := 2147483649) (by decide +kernel) (by decide) (by decide) ?_
        refine x_goto (np := 32) (x := 33) (by decide +kernel) ?_
        refine x_istore (np := 35) (x := 4) (lo' := [x_r 45, iv_c a1, iv_c v1213, iv_c v1231, iv_c 2147483649]) (by decide +kernel) (by decide) (Nat.le_of_ble_eq_true rfl) rfl ?_
        refine x_aload (np := 36) (x := 0) (by decide +kernel) rfl (x_nc_le (by decide)) ?_
        have q1238 : h1217 45 6 = 51 := by have z := jB (e := 6) 0 j1219 rg_45_6_0_1 (by decide) (by decide); omega
        refine x_getR (np := 39) (x := 70) (f := 6) (q := 51) (by decide +kernel) (by decide) (by decide +kernel) q1238 ?_
        refine x_iload (np := 40) (x := 2) (by decide +kernel) rfl (by first | decide | omega) ?_
        refine x_iload (np := 41) (x := 1) (by decide +kernel) rfl la1 ?_
        refine x_nI (t := 7) (mj := 150) (n := 2) (rc := 0) (ml := 2) (nr := 1) (np := 44) (as := [iv_c v1213, iv_c a1]) (rest := [x_r 51]) (lo1 := [iv_c v1213, iv_c a1]) (by decide +kernel) (by decide) (by decide +kernel) (Or.inl rfl) rfl rfl (x_wi (by first | decide | omega) (x_wi la1 x_wn)) (x_wr (by decide) x_wn) (by decide) rfl ?_
        refine x_iload (np := 1) (x := 0) (by decide +kernel) rfl (by first | decide | omega) ?_
        refine x_const (np := 3) (x := 9223372090541867020) (a := 2147483660) (by decide +kernel) (by decide) (by decide) ?_
        obtain ⟨u1239, q1240⟩ : ∃ z, v1213 = 2147483648 + z := ⟨v1213 - 2147483648, by first | decide | omega⟩
        refine x_imul (np := 4) (x := 0) (i := u1239) (j := 12) (v := (2147483648 + 12 * u1239)) (by decide +kernel) (by first | decide | omega) (by first | decide | omega) (by first | decide | omega) (by first | decide | omega) (by first | decide | omega) (by decide) ?_
        refine x_iload (np := 5) (x := 1) (by decide +kernel) rfl la1 ?_
        refine x_iadd (np := 6) (x := 0) (v := (12 * u1239 + a1)) (by decide +kernel) (by first | decide | omega) la1 (by first | decide | omega) (by first | decide | omega) ?_
        refine x_retI (np := 7) (x := 0) (by decide +kernel) (by first | decide | omega) (Or.inl (by decide +kernel)) ⟨_, rfl, (by first | decide | omega), ?_⟩
        refine x_iload (np := 46) (x := 4) (by decide +kernel) rfl (by decide) ?_
        refine x_ifz (k := 0) (tg := 53) (np := 49) (by decide +kernel) (by decide) (by decide) (fun q1242 => ?_) (fun q1243 => ?_)
        · have q1242 : 2147483649 = 2147483648 := q1242
          exfalso; omega
        have q1243 : ¬ (2147483649 = 2147483648) := q1243
        refine x_const (np := 50) (x := 9223372034707292159) (a := 2147483647) (by decide +kernel) (by decide) (by decide) ?_
        refine x_goto (np := 53) (x := 54) (by decide +kernel) ?_
        obtain ⟨u1244, q1245⟩ : ∃ z, a1 = 2147483648 + z := ⟨a1 - 2147483648, by first | decide | omega⟩
        refine x_ast (np := 55) (x := 0) (kd := 1) (n := 72) (i := (12 * u1239 + u1244)) (by decide +kernel) (Or.inl rfl) (by decide +kernel) (by first | decide | omega) (by first | decide | omega) (by decide) (by decide) (fun z => absurd z (by decide)) ?_
        have j1247 := jU (e := (12 * u1239 + u1244)) (v := 2147483647) (12 * u1239 + u1244) j1219 rg_51_0_1_72 (by first | decide | omega) (by first | decide | omega) (by first | decide | omega)
        have f1249 := jF (e := (12 * u1239 + u1244)) (v := 2147483647) (12 * u1239 + u1244) f1223 rg_51_0_1_72 (by first | decide | omega) (by first | decide | omega) (by decide)
        have f1250 := jF (e := (12 * u1239 + u1244)) (v := 2147483647) (12 * u1239 + u1244) f1218 rg_51_0_1_72 (by first | decide | omega) (by first | decide | omega) (by decide)
        generalize e1248 : x_up h1217 51 (12 * u1239 + u1244) 2147483647 = h1246 at j1247 f1249 f1250 ⊢
        refine x_aload (np := 56) (x := 0) (by decide +kernel) rfl (x_nc_le (by decide)) ?_
        have q1251 : h1246 45 7 = 52 := by have z := jB (e := 7) 0 j1247 rg_45_7_0_1 (by decide) (by decide); omega
        refine x_getR (np := 59) (x := 71) (f := 7) (q := 52) (by decide +kernel) (by decide) (by decide +kernel) q1251 ?_
        refine x_iload (np := 60) (x := 2) (by decide +kernel) rfl (by first | decide | omega) ?_
        refine x_iload (np := 61) (x := 1) (by decide +kernel) rfl la1 ?_
        refine x_nI (t := 7) (mj := 150) (n := 2) (rc := 0) (ml := 2) (nr := 1) (np := 64) (as := [iv_c v1213, iv_c a1]) (rest := [x_r 52]) (lo1 := [iv_c v1213, iv_c a1]) (by decide +kernel) (by decide) (by decide +kernel) (Or.inl rfl) rfl rfl (x_wi (by first | decide | omega) (x_wi la1 x_wn)) (x_wr (by decide) x_wn) (by decide) rfl ?_
        refine x_iload (np := 1) (x := 0) (by decide +kernel) rfl (by first | decide | omega) ?_
        refine x_const (np := 3) (x := 9223372090541867020) (a := 2147483660) (by decide +kernel) (by decide) (by decide) ?_
        refine x_imul (np := 4) (x := 0) (i := u1239) (j := 12) (v := (2147483648 + 12 * u1239)) (by decide +kernel) (by first | decide | omega) (by first | decide | omega) (by first | decide | omega) (by first | decide | omega) (by first | decide | omega) (by decide) ?_
        refine x_iload (np := 5) (x := 1) (by decide +kernel) rfl la1 ?_
        refine x_iadd (np := 6) (x := 0) (v := (12 * u1239 + a1)) (by decide +kernel) (by first | decide | omega) la1 (by first | decide | omega) (by first | decide | omega) ?_
        refine x_retI (np := 7) (x := 0) (by decide +kernel) (by first | decide | omega) (Or.inl (by decide +kernel)) ⟨_, rfl, (by first | decide | omega), ?_⟩
        refine x_aload (np := 65) (x := 0) (by decide +kernel) rfl (x_nc_le (by decide)) ?_
        refine x_iload (np := 66) (x := 2) (by decide +kernel) rfl (by first | decide | omega) ?_
        refine x_iload (np := 67) (x := 1) (by decide +kernel) rfl la1 ?_
        refine x_cP (t := 6) (mj := 28) (n := 3) (rc := 2) (ml := 3) (nr := 2) (np := 70) (as := [x_r 45, iv_c v1213, iv_c a1]) (rest := [iv_c (12 * u1239 + a1), x_r 52]) (lo1 := [x_r 45, iv_c v1213, iv_c a1]) (by decide +kernel) (by decide) (by decide +kernel) (x_rb_of (by decide +kernel)) rfl rfl (x_wr (by decide) (x_wi (by first | decide | omega) (x_wi la1 x_wn))) (x_wi (by first | decide | omega) (x_wr (by decide) x_wn)) (by decide) rfl (c28_45 j1247  (by first | decide | omega) (by first | decide | omega)) (fun v1253 l1254 q1255 => ?_)
        refine x_ast (np := 71) (x := 0) (kd := 1) (n := 72) (i := (12 * u1239 + u1244)) (by decide +kernel) (Or.inl rfl) (by decide +kernel) (by first | decide | omega) (by first | decide | omega) (by decide) l1254 (fun z => absurd z (by decide)) ?_
        have j1257 := jU (e := (12 * u1239 + u1244)) (v := v1253) (12 * u1239 + u1244) j1247 rg_52_0_1_72 (by first | decide | omega) (by first | decide | omega) (by first | decide | omega)
        have f1259 := jF (e := (12 * u1239 + u1244)) (v := v1253) (12 * u1239 + u1244) f1249 rg_52_0_1_72 (by first | decide | omega) (by first | decide | omega) (by decide)
        have f1260 := jF (e := (12 * u1239 + u1244)) (v := v1253) (12 * u1239 + u1244) f1250 rg_52_0_1_72 (by first | decide | omega) (by first | decide | omega) (by decide)
        generalize e1258 : x_up h1246 52 (12 * u1239 + u1244) v1253 = h1256 at j1257 f1259 f1260 ⊢
        refine x_iload (np := 73) (x := 4) (by decide +kernel) rfl (by decide) ?_
        refine x_ifz (k := 1) (tg := 92) (np := 76) (by decide +kernel) (by decide) (by decide) (fun q1261 => ?_) (fun q1262 => ?_)
        · have q1261 : 2147483649 ≠ 2147483648 := q1261
          refine x_aload (np := 93) (x := 0) (by decide +kernel) rfl (x_nc_le (by decide)) ?_
          refine x_iload (np := 94) (x := 2) (by decide +kernel) rfl (by first | decide | omega) ?_
          refine x_iload (np := 95) (x := 2) (by decide +kernel) rfl (by first | decide | omega) ?_
          refine x_iload (np := 96) (x := 1) (by decide +kernel) rfl la1 ?_
          refine x_nI (t := 7) (mj := 150) (n := 2) (rc := 0) (ml := 2) (nr := 2) (np := 99) (as := [iv_c v1213, iv_c a1]) (rest := [iv_c v1213, x_r 45]) (lo1 := [iv_c v1213, iv_c a1]) (by decide +kernel) (by decide) (by decide +kernel) (Or.inl rfl) rfl rfl (x_wi (by first | decide | omega) (x_wi la1 x_wn)) (x_wi (by first | decide | omega) (x_wr (by decide) x_wn)) (by decide) rfl ?_
          refine x_iload (np := 1) (x := 0) (by decide +kernel) rfl (by first | decide | omega) ?_
          refine x_const (np := 3) (x := 9223372090541867020) (a := 2147483660) (by decide +kernel) (by decide) (by decide) ?_
          refine x_imul (np := 4) (x := 0) (i := u1239) (j := 12) (v := (2147483648 + 12 * u1239)) (by decide +kernel) (by first | decide | omega) (by first | decide | omega) (by first | decide | omega) (by first | decide | omega) (by first | decide | omega) (by decide) ?_
          refine x_iload (np := 5) (x := 1) (by decide +kernel) rfl la1 ?_
          refine x_iadd (np := 6) (x := 0) (v := (12 * u1239 + a1)) (by decide +kernel) (by first | decide | omega) la1 (by first | decide | omega) (by first | decide | omega) ?_
          refine x_retI (np := 7) (x := 0) (by decide +kernel) (by first | decide | omega) (Or.inl (by decide +kernel)) ⟨_, rfl, (by first | decide | omega), ?_⟩
          refine x_const (np := 101) (x := 9223372129196572693) (a := 2147483669) (by decide +kernel) (by decide) (by decide) ?_
          refine x_imul (np := 102) (x := 0) (i := (12 * u1239 + u1244)) (j := 21) (v := (2147483648 + 252 * u1239 + 21 * u1244)) (by decide +kernel) (by first | decide | omega) (by first | decide | omega) (by first | decide | omega) (by first | decide | omega) (by first | decide | omega) (by decide) ?_
          refine x_cV (t := 6) (mj := 27) (n := 3) (rc := 2) (ml := 4) (nr := 0) (np := 105) (as := [x_r 45, iv_c v1213, iv_c (2147483648 + 252 * u1239 + 21 * u1244)]) (rest := []) (lo1 := [x_r 45, iv_c v1213, iv_c (2147483648 + 252 * u1239 + 21 * u1244), 147573952589676412928]) (by decide +kernel) (by decide) (by decide +kernel) (x_rb_of (by decide +kernel)) rfl rfl (x_wr (by decide) (x_wi (by first | decide | omega) (x_wi (by first | decide | omega) x_wn))) x_wn (by decide) rfl (c27_45 j1257  (by first | decide | omega) (by first | decide | omega)) (fun h1268 q1267 => ?_)
          obtain ⟨j1269, f1270⟩ := q1267
          have f1273 := Fr.trans f1259 f1270 (by decide)
          have f1274 := Fr.trans f1260 f1270 (by decide)
          refine x_iinc (np := 108) (i := 2) (j := 2147483649) (v := (1 + v1213)) (lo' := [x_r 45, iv_c a1, iv_c (1 + v1213), iv_c v1231, iv_c 2147483649]) (by decide +kernel) (by decide) (by decide) rfl (by first | decide | omega) (by first | decide | omega) (by first | decide | omega) rfl ?_
          refine x_goto (np := 111) (x := 2) (by decide +kernel) ?_
          exact i1222 (1 + v1213) (iv_c v1231) (iv_c 2147483649) h1268 (by first | decide | omega) (by first | decide | omega) j1269 f1274
        have q1262 : ¬ (2147483649 ≠ 2147483648) := q1262
        exfalso; omega
      have q1235 : ¬ (v1231 < 2147483648) := q1235
      refine x_iload (np := 5) (x := 1) (by decide +kernel) rfl l1232 ?_
      refine x_const (np := 7) (x := 9223372064772063238) (a := 2147483654) (by decide +kernel) (by decide) (by decide) ?_
      refine x_icmp (k := 3) (tg := 27) (np := 10) (by decide +kernel) (by decide) l1232 (by decide) (fun q1275 => ?_) (fun q1276 => ?_)
      · have q1275 : 2147483654 ≤ v1231 := q1275
        refine x_const (np := 28) (x := 9223372039002259456) (a := 2147483648) (by decide +kernel) (by decide) (by decide) ?_
        refine x_retI (np := 29) (x := 0) (by decide +kernel) (by decide) (Or.inr ⟨by decide +kernel, by first | decide | omega, by first | decide | omega⟩) ⟨_, rfl, (by decide), ?_⟩
        refine x_ifz (k := 1) (tg := 32) (np := 28) (by decide +kernel) (by decide) (by decide) (fun q1277 => ?_) (fun q1278 => ?_)
        · have q1277 : 2147483648 ≠ 2147483648 := q1277
          exfalso; omega
        have q1278 : ¬ (2147483648 ≠ 2147483648) := q1278
        refine x_const (np := 29) (x := 9223372043297226753) (a := 2147483649) (by decide +kernel) (by decide) (by decide) ?_
        refine x_goto (np := 32) (x := 33) (by decide +kernel) ?_
        refine x_istore (np := 35) (x := 4) (lo' := [x_r 45, iv_c a1, iv_c v1213, iv_c v1231, iv_c 2147483649]) (by decide +kernel) (by decide) (Nat.le_of_ble_eq_true rfl) rfl ?_
        refine x_aload (np := 36) (x := 0) (by decide +kernel) rfl (x_nc_le (by decide)) ?_
        have q1279 : h1217 45 6 = 51 := by have z := jB (e := 6) 0 j1219 rg_45_6_0_1 (by decide) (by decide); omega
        refine x_getR (np := 39) (x := 70) (f := 6) (q := 51) (by decide +kernel) (by decide) (by decide +kernel) q1279 ?_
        refine x_iload (np := 40) (x := 2) (by decide +kernel) rfl (by first | decide | omega) ?_
        refine x_iload (np := 41) (x := 1) (by decide +kernel) rfl la1 ?_
        refine x_nI (t := 7) (mj := 150) (n := 2) (rc := 0) (ml := 2) (nr := 1) (np := 44) (as := [iv_c v1213, iv_c a1]) (rest := [x_r 51]) (lo1 := [iv_c v1213, iv_c a1]) (by decide +kernel) (by decide) (by decide +kernel) (Or.inl rfl) rfl rfl (x_wi (by first | decide | omega) (x_wi la1 x_wn)) (x_wr (by decide) x_wn) (by decide) rfl ?_
        refine x_iload (np := 1) (x := 0) (by decide +kernel) rfl (by first | decide | omega) ?_
        refine x_const (np := 3) (x := 9223372090541867020) (a := 2147483660) (by decide +kernel) (by decide) (by decide) ?_
        obtain ⟨u1280, q1281⟩ : ∃ z, v1213 = 2147483648 + z := ⟨v1213 - 2147483648, by first | decide | omega⟩
        refine x_imul (np := 4) (x := 0) (i := u1280) (j := 12) (v := (2147483648 + 12 * u1280)) (by decide +kernel) (by first | decide | omega) (by first | decide | omega) (by first | decide | omega) (by first | decide | omega) (by first | decide | omega) (by decide) ?_
        refine x_iload (np := 5) (x := 1) (by decide +kernel) rfl la1 ?_
        refine x_iadd (np := 6) (x := 0) (v := (12 * u1280 + a1)) (by decide +kernel) (by first | decide | omega) la1 (by first | decide | omega) (by first | decide | omega) ?_
        refine x_retI (np := 7) (x := 0) (by decide +kernel) (by first | decide | omega) (Or.inl (by decide +kernel)) ⟨_, rfl, (by first | decide | omega), ?_⟩
        refine x_iload (np := 46) (x := 4) (by decide +kernel) rfl (by decide) ?_
        refine x_ifz (k := 0) (tg := 53) (np := 49) (by decide +kernel) (by decide) (by decide) (fun q1283 => ?_) (fun q1284 => ?_)
        · have q1283 : 2147483649 = 2147483648 := q1283
          exfalso; omega
        have q1284 : ¬ (2147483649 = 2147483648) := q1284
        refine x_const (np := 50) (x := 9223372034707292159) (a := 2147483647) (by decide +kernel) (by decide) (by decide) ?_
        refine x_goto (np := 53) (x := 54) (by decide +kernel) ?_
        obtain ⟨u1285, q1286⟩ : ∃ z, a1 = 2147483648 + z := ⟨a1 - 2147483648, by first | decide | omega⟩
        refine x_ast (np := 55) (x := 0) (kd := 1) (n := 72) (i := (12 * u1280 + u1285)) (by decide +kernel) (Or.inl rfl) (by decide +kernel) (by first | decide | omega) (by first | decide | omega) (by decide) (by decide) (fun z => absurd z (by decide)) ?_
        have j1288 := jU (e := (12 * u1280 + u1285)) (v := 2147483647) (12 * u1280 + u1285) j1219 rg_51_0_1_72 (by first | decide | omega) (by first | decide | omega) (by first | decide | omega)
        have f1290 := jF (e := (12 * u1280 + u1285)) (v := 2147483647) (12 * u1280 + u1285) f1223 rg_51_0_1_72 (by first | decide | omega) (by first | decide | omega) (by decide)
        have f1291 := jF (e := (12 * u1280 + u1285)) (v := 2147483647) (12 * u1280 + u1285) f1218 rg_51_0_1_72 (by first | decide | omega) (by first | decide | omega) (by decide)
        generalize e1289 : x_up h1217 51 (12 * u1280 + u1285) 2147483647 = h1287 at j1288 f1290 f1291 ⊢
        refine x_aload (np := 56) (x := 0) (by decide +kernel) rfl (x_nc_le (by decide)) ?_
        have q1292 : h1287 45 7 = 52 := by have z := jB (e := 7) 0 j1288 rg_45_7_0_1 (by decide) (by decide); omega
        refine x_getR (np := 59) (x := 71) (f := 7) (q := 52) (by decide +kernel) (by decide) (by decide +kernel) q1292 ?_
        refine x_iload (np := 60) (x := 2) (by decide +kernel) rfl (by first | decide | omega) ?_
        refine x_iload (np := 61) (x := 1) (by decide +kernel) rfl la1 ?_
        refine x_nI (t := 7) (mj := 150) (n := 2) (rc := 0) (ml := 2) (nr := 1) (np := 64) (as := [iv_c v1213, iv_c a1]) (rest := [x_r 52]) (lo1 := [iv_c v1213, iv_c a1]) (by decide +kernel) (by decide) (by decide +kernel) (Or.inl rfl) rfl rfl (x_wi (by first | decide | omega) (x_wi la1 x_wn)) (x_wr (by decide) x_wn) (by decide) rfl ?_
        refine x_iload (np := 1) (x := 0) (by decide +kernel) rfl (by first | decide | omega) ?_
        refine x_const (np := 3) (x := 9223372090541867020) (a := 2147483660) (by decide +kernel) (by decide) (by decide) ?_
        refine x_imul (np := 4) (x := 0) (i := u1280) (j := 12) (v := (2147483648 + 12 * u1280)) (by decide +kernel) (by first | decide | omega) (by first | decide | omega) (by first | decide | omega) (by first | decide | omega) (by first | decide | omega) (by decide) ?_
        refine x_iload (np := 5) (x := 1) (by decide +kernel) rfl la1 ?_
        refine x_iadd (np := 6) (x := 0) (v := (12 * u1280 + a1)) (by decide +kernel) (by first | decide | omega) la1 (by first | decide | omega) (by first | decide | omega) ?_
        refine x_retI (np := 7) (x := 0) (by decide +kernel) (by first | decide | omega) (Or.inl (by decide +kernel)) ⟨_, rfl, (by first | decide | omega), ?_⟩
        refine x_aload (np := 65) (x := 0) (by decide +kernel) rfl (x_nc_le (by decide)) ?_
        refine x_iload (np := 66) (x := 2) (by decide +kernel) rfl (by first | decide | omega) ?_
        refine x_iload (np := 67) (x := 1) (by decide +kernel) rfl la1 ?_
        refine x_cP (t := 6) (mj := 28) (n := 3) (rc := 2) (ml := 3) (nr := 2) (np := 70) (as := [x_r 45, iv_c v1213, iv_c a1]) (rest := [iv_c (12 * u1280 + a1), x_r 52]) (lo1 := [x_r 45, iv_c v1213, iv_c a1]) (by decide +kernel) (by decide) (by decide +kernel) (x_rb_of (by decide +kernel)) rfl rfl (x_wr (by decide) (x_wi (by first | decide | omega) (x_wi la1 x_wn))) (x_wi (by first | decide | omega) (x_wr (by decide) x_wn)) (by decide) rfl (c28_45 j1288  (by first | decide | omega) (by first | decide | omega)) (fun v1294 l1295 q1296 => ?_)
        refine x_ast (np := 71) (x := 0) (kd := 1) (n := 72) (i := (12 * u1280 + u1285)) (by decide +kernel) (Or.inl rfl) (by decide +kernel) (by first | decide | omega) (by first | decide | omega) (by decide) l1295 (fun z => absurd z (by decide)) ?_
        have j1298 := jU (e := (12 * u1280 + u1285)) (v := v1294) (12 * u1280 + u1285) j1288 rg_52_0_1_72 (by first | decide | omega) (by first | decide | omega) (by first | decide | omega)
        have f1300 := jF (e := (12 * u1280 + u1285)) (v := v1294) (12 * u1280 + u1285) f1290 rg_52_0_1_72 (by first | decide | omega) (by first | decide | omega) (by decide)
        have f1301 := jF (e := (12 * u1280 + u1285)) (v := v1294) (12 * u1280 + u1285) f1291 rg_52_0_1_72 (by first | decide | omega) (by first | decide | omega) (by decide)
        generalize e1299 : x_up h1287 52 (12 * u1280 + u1285) v1294 = h1297 at j1298 f1300 f1301 ⊢
        refine x_iload (np := 73) (x := 4) (by decide +kernel) rfl (by decide) ?_
        refine x_ifz (k := 1) (tg := 92) (np := 76) (by decide +kernel) (by decide) (by decide) (fun q1302 => ?_) (fun q1303 => ?_)
        · have q1302 : 2147483649 ≠ 2147483648 := q1302
          refine x_aload (np := 93) (x := 0) (by decide +kernel) rfl (x_nc_le (by decide)) ?_
          refine x_iload (np := 94) (x := 2) (by decide +kernel) rfl (by first | decide | omega) ?_
          refine x_iload (np := 95) (x := 2) (by decide +kernel) rfl (by first | decide | omega) ?_
          refine x_iload (np := 96) (x := 1) (by decide +kernel) rfl la1 ?_
          refine x_nI (t := 7) (mj := 150) (n := 2) (rc := 0) (ml := 2) (nr := 2) (np := 99) (as := [iv_c v1213, iv_c a1]) (rest := [iv_c v1213, x_r 45]) (lo1 := [iv_c v1213, iv_c a1]) (by decide +kernel) (by decide) (by decide +kernel) (Or.inl rfl) rfl rfl (x_wi (by first | decide | omega) (x_wi la1 x_wn)) (x_wi (by first | decide | omega) (x_wr (by decide) x_wn)) (by decide) rfl ?_
          refine x_iload (np := 1) (x := 0) (by decide +kernel) rfl (by first | decide | omega) ?_
          refine x_const (np := 3) (x := 9223372090541867020) (a := 2147483660) (by decide +kernel) (by decide) (by decide) ?_
          refine x_imul (np := 4) (x := 0) (i := u1280) (j := 12) (v := (2147483648 + 12 * u1280)) (by decide +kernel) (by first | decide | omega) (by first | decide | omega) (by first | decide | omega) (by first | decide | omega) (by first | decide | omega) (by decide) ?_
          refine x_iload (np := 5) (x := 1) (by decide +kernel) rfl la1 ?_
          refine x_iadd (np := 6) (x := 0) (v := (12 * u1280 + a1)) (by decide +kernel) (by first | decide | omega) la1 (by first | decide | omega) (by first | decide | omega) ?_
          refine x_retI (np := 7) (x := 0) (by decide +kernel) (by first | decide | omega) (Or.inl (by decide +kernel)) ⟨_, rfl, (by first | decide | omega), ?_⟩
          refine x_const (np := 101) (x := 9223372129196572693) (a := 2147483669) (by decide +kernel) (by decide) (by decide) ?_
          refine x_imul (np := 102) (x := 0) (i := (12 * u1280 + u1285)) (j := 21) (v := (2147483648 + 252 * u1280 + 21 * u1285)) (by decide +kernel) (by first | decide | omega) (by first | decide | omega) (by first | decide | omega) (by first | decide | omega) (by first | decide | omega) (by decide) ?_
          refine x_cV (t := 6) (mj := 27) (n := 3) (rc := 2) (ml := 4) (nr := 0) (np := 105) (as := [x_r 45, iv_c v1213, iv_c (2147483648 + 252 * u1280 + 21 * u1285)]) (rest := []) (lo1 := [x_r 45, iv_c v1213, iv_c (2147483648 + 252 * u1280 + 21 * u1285), 147573952589676412928]) (by decide +kernel) (by decide) (by decide +kernel) (x_rb_of (by decide +kernel)) rfl rfl (x_wr (by decide) (x_wi (by first | decide | omega) (x_wi (by first | decide | omega) x_wn))) x_wn (by decide) rfl (c27_45 j1298  (by first | decide | omega) (by first | decide | omega)) (fun h1309 q1308 => ?_)
          obtain ⟨j1310, f1311⟩ := q1308
          have f1314 := Fr.trans f1300 f1311 (by decide)
          have f1315 := Fr.trans f1301 f1311 (by decide)
          refine x_iinc (np := 108) (i := 2) (j := 2147483649) (v := (1 + v1213)) (lo' := [x_r 45, iv_c a1, iv_c (1 + v1213), iv_c v1231, iv_c 2147483649]) (by decide +kernel) (by decide) (by decide) rfl (by first | decide | omega) (by first | decide | omega) (by first | decide | omega) rfl ?_
          refine x_goto (np := 111) (x := 2) (by decide +kernel) ?_
          exact i1222 (1 + v1213) (iv_c v1231) (iv_c 2147483649) h1309 (by first | decide | omega) (by first | decide | omega) j1310 f1315
        have q1303 : ¬ (2147483649 ≠ 2147483648) := q1303
        exfalso; omega
      have q1276 : ¬ (2147483654 ≤ v1231) := q1276
      refine x_aload (np := 11) (x := 0) (by decide +kernel) rfl (x_nc_le (by decide)) ?_
      have q1316 : h1217 45 0 = 46 := by have z := jB (e := 0) 0 j1219 rg_45_0_0_1 (by decide) (by decide); omega
      refine x_getR (np := 14) (x := 64) (f := 0) (q := 46) (by decide +kernel) (by decide) (by decide +kernel) q1316 ?_
      refine x_iload (np := 15) (x := 1) (by decide +kernel) rfl l1232 ?_
      obtain ⟨u1317, q1318⟩ : ∃ z, v1231 = 2147483648 + z := ⟨v1231 - 2147483648, by first | decide | omega⟩
      have q1319 : h1217 46 u1317 = h 46 u1317 := jK u1317 f1218 rg_46_0_1_6 (by first | decide | omega) (by first | decide | omega) (by decide)
      refine x_aldC (np := 16) (x := 0) (n := 6) (i := u1317) (q := (h 46 u1317)) (by decide +kernel) (by decide +kernel) (by first | decide | omega) (by first | decide | omega) (by decide) q1319 (fun l1320 => ?_)
      refine x_iload (np := 17) (x := 2) (by decide +kernel) rfl la1 ?_
      refine x_cP (t := 7) (mj := 148) (n := 2) (rc := 0) (ml := 2) (nr := 0) (np := 20) (as := [iv_c (h 46 u1317), iv_c a1]) (rest := []) (lo1 := [iv_c (h 46 u1317), iv_c a1]) (by decide +kernel) (by decide) (by decide +kernel) (Or.inl rfl) rfl rfl (x_wi l1320 (x_wi la1 x_wn)) x_wn (by decide) rfl (c148 j1219 (by first | decide | omega) (by first | decide | omega)) (fun v1321 l1322 q1323 => ?_)
      obtain ⟨b1325, c1324⟩ := q1323
      refine x_ifz (k := 0) (tg := 27) (np := 23) (by decide +kernel) (by decide) l1322 (fun q1326 => ?_) (fun q1327 => ?_)
      · have q1326 : v1321 = 2147483648 := q1326
        refine x_const (np := 28) (x := 9223372039002259456) (a := 2147483648) (by decide +kernel) (by decide) (by decide) ?_
        refine x_retI (np := 29) (x := 0) (by decide +kernel) (by decide) (Or.inr ⟨by decide +kernel, by first | decide | omega, by first | decide | omega⟩) ⟨_, rfl, (by decide), ?_⟩
        refine x_ifz (k := 1) (tg := 32) (np := 28) (by decide +kernel) (by decide) (by decide) (fun q1328 => ?_) (fun q1329 => ?_)
        · have q1328 : 2147483648 ≠ 2147483648 := q1328
          exfalso; omega
        have q1329 : ¬ (2147483648 ≠ 2147483648) := q1329
        refine x_const (np := 29) (x := 9223372043297226753) (a := 2147483649) (by decide +kernel) (by decide) (by decide) ?_
        refine x_goto (np := 32) (x := 33) (by decide +kernel) ?_
        refine x_istore (np := 35) (x := 4) (lo' := [x_r 45, iv_c a1, iv_c v1213, iv_c v1231, iv_c 2147483649]) (by decide +kernel) (by decide) (Nat.le_of_ble_eq_true rfl) rfl ?_
        refine x_aload (np := 36) (x := 0) (by decide +kernel) rfl (x_nc_le (by decide)) ?_
        have q1330 : h1217 45 6 = 51 := by have z := jB (e := 6) 0 j1219 rg_45_6_0_1 (by decide) (by decide); omega
        refine x_getR (np := 39) (x := 70) (f := 6) (q := 51) (by decide +kernel) (by decide) (by decide +kernel) q1330 ?_
        refine x_iload (np := 40) (x := 2) (by decide +kernel) rfl (by first | decide | omega) ?_
        refine x_iload (np := 41) (x := 1) (by decide +kernel) rfl la1 ?_
        refine x_nI (t := 7) (mj := 150) (n := 2) (rc := 0) (ml := 2) (nr := 1) (np := 44) (as := [iv_c v1213, iv_c a1]) (rest := [x_r 51]) (lo1 := [iv_c v1213, iv_c a1]) (by decide +kernel) (by decide) (by decide +kernel) (Or.inl rfl) rfl rfl (x_wi (by first | decide | omega) (x_wi la1 x_wn)) (x_wr (by decide) x_wn) (by decide) rfl ?_
        refine x_iload (np := 1) (x := 0) (by decide +kernel) rfl (by first | decide | omega) ?_
        refine x_const (np := 3) (x := 9223372090541867020) (a := 2147483660) (by decide +kernel) (by decide) (by decide) ?_
        obtain ⟨u1331, q1332⟩ : ∃ z, v1213 = 2147483648 + z := ⟨v1213 - 2147483648, by first | decide | omega⟩
        refine x_imul (np := 4) (x := 0) (i := u1331) (j := 12) (v := (2147483648 + 12 * u1331)) (by decide +kernel) (by first | decide | omega) (by first | decide | omega) (by first | decide | omega) (by first | decide | omega) (by first | decide | omega) (by decide) ?_
        refine x_iload (np := 5) (x := 1) (by decide +kernel) rfl la1 ?_
        refine x_iadd (np := 6) (x := 0) (v := (12 * u1331 + a1)) (by decide +kernel) (by first | decide | omega) la1 (by first | decide | omega) (by first | decide | omega) ?_
        refine x_retI (np := 7) (x := 0) (by decide +kernel) (by first | decide | omega) (Or.inl (by decide +kernel)) ⟨_, rfl, (by first | decide | omega), ?_⟩
        refine x_iload (np := 46) (x := 4) (by decide +kernel) rfl (by decide) ?_
        refine x_ifz (k := 0) (tg := 53) (np := 49) (by decide +kernel) (by decide) (by decide) (fun q1334 => ?_) (fun q1335 => ?_)
        · have q1334 : 2147483649 = 2147483648 := q1334
          exfalso; omega
        have q1335 : ¬ (2147483649 = 2147483648) := q1335
        refine x_const (np := 50) (x := 9223372034707292159) (a := 2147483647) (by decide +kernel) (by decide) (by decide) ?_
        refine x_goto (np := 53) (x := 54) (by decide +kernel) ?_
        obtain ⟨u1336, q1337⟩ : ∃ z, a1 = 2147483648 + z := ⟨a1 - 2147483648, by first | decide | omega⟩
        refine x_ast (np := 55) (x := 0) (kd := 1) (n := 72) (i := (12 * u1331 + u1336)) (by decide +kernel) (Or.inl rfl) (by decide +kernel) (by first | decide | omega) (by first | decide | omega) (by decide) (by decide) (fun z => absurd z (by decide)) ?_
        have j1339 := jU (e := (12 * u1331 + u1336)) (v := 2147483647) (12 * u1331 + u1336) j1219 rg_51_0_1_72 (by first | decide | omega) (by first | decide | omega) (by first | decide | omega)
        have f1341 := jF (e := (12 * u1331 + u1336)) (v := 2147483647) (12 * u1331 + u1336) f1223 rg_51_0_1_72 (by first | decide | omega) (by first | decide | omega) (by decide)
        have f1342 := jF (e := (12 * u1331 + u1336)) (v := 2147483647) (12 * u1331 + u1336) f1218 rg_51_0_1_72 (by first | decide | omega) (by first | decide | omega) (by decide)
        generalize e1340 : x_up h1217 51 (12 * u1331 + u1336) 2147483647 = h1338 at j1339 f1341 f1342 ⊢
        refine x_aload (np := 56) (x := 0) (by decide +kernel) rfl (x_nc_le (by decide)) ?_
        have q1343 : h1338 45 7 = 52 := by have z := jB (e := 7) 0 j1339 rg_45_7_0_1 (by decide) (by decide); omega
        refine x_getR (np := 59) (x := 71) (f := 7) (q := 52) (by decide +kernel) (by decide) (by decide +kernel) q1343 ?_
        refine x_iload (np := 60) (x := 2) (by decide +kernel) rfl (by first | decide | omega) ?_
        refine x_iload (np := 61) (x := 1) (by decide +kernel) rfl la1 ?_
        refine x_nI (t := 7) (mj := 150) (n := 2) (rc := 0) (ml := 2) (nr := 1) (np := 64) (as := [iv_c v1213, iv_c a1]) (rest := [x_r 52]) (lo1 := [iv_c v1213, iv_c a1]) (by decide +kernel) (by decide) (by decide +kernel) (Or.inl rfl) rfl rfl (x_wi (by first | decide | omega) (x_wi la1 x_wn)) (x_wr (by decide) x_wn) (by decide) rfl ?_
        refine x_iload (np := 1) (x := 0) (by decide +kernel) rfl (by first | decide | omega) ?_
        refine x_const (np := 3) (x := 9223372090541867020) (a := 2147483660) (by decide +kernel) (by decide) (by decide) ?_
        refine x_imul (np := 4) (x := 0) (i := u1331) (j := 12) (v := (2147483648 + 12 * u1331)) (by decide +kernel) (by first | decide | omega) (by first | decide | omega) (by first | decide | omega) (by first | decide | omega) (by first | decide | omega) (by decide) ?_
        refine x_iload (np := 5) (x := 1) (by decide +kernel) rfl la1 ?_
        refine x_iadd (np := 6) (x := 0) (v := (12 * u1331 + a1)) (by decide +kernel) (by first | decide | omega) la1 (by first | decide | omega) (by first | decide | omega) ?_
        refine x_retI (np := 7) (x := 0) (by decide +kernel) (by first | decide | omega) (Or.inl (by decide +kernel)) ⟨_, rfl, (by first | decide | omega), ?_⟩
        refine x_aload (np := 65) (x := 0) (by decide +kernel) rfl (x_nc_le (by decide)) ?_
        refine x_iload (np := 66) (x := 2) (by decide +kernel) rfl (by first | decide | omega) ?_
        refine x_iload (np := 67) (x := 1) (by decide +kernel) rfl la1 ?_
        refine x_cP (t := 6) (mj := 28) (n := 3) (rc := 2) (ml := 3) (nr := 2) (np := 70) (as := [x_r 45, iv_c v1213, iv_c a1]) (rest := [iv_c (12 * u1331 + a1), x_r 52]) (lo1 := [x_r 45, iv_c v1213, iv_c a1]) (by decide +kernel) (by decide) (by decide +kernel) (x_rb_of (by decide +kernel)) rfl rfl (x_wr (by decide) (x_wi (by first | decide | omega) (x_wi la1 x_wn))) (x_wi (by first | decide | omega) (x_wr (by decide) x_wn)) (by decide) rfl (c28_45 j1339  (by first | decide | omega) (by first | decide | omega)) (fun v1345 l1346 q1347 => ?_)
        refine x_ast (np := 71) (x := 0) (kd := 1) (n := 72) (i := (12 * u1331 + u1336)) (by decide +kernel) (Or.inl rfl) (by decide +kernel) (by first | decide | omega) (by first | decide | omega) (by decide) l1346 (fun z => absurd z (by decide)) ?_
        have j1349 := jU (e := (12 * u1331 + u1336)) (v := v1345) (12 * u1331 + u1336) j1339 rg_52_0_1_72 (by first | decide | omega) (by first | decide | omega) (by first | decide | omega)
        have f1351 := jF (e := (12 * u1331 + u1336)) (v := v1345) (12 * u1331 + u1336) f1341 rg_52_0_1_72 (by first | decide | omega) (by first | decide | omega) (by decide)
        have f1352 := jF (e := (12 * u1331 + u1336)) (v := v1345) (12 * u1331 + u1336) f1342 rg_52_0_1_72 (by first | decide | omega) (by first | decide | omega) (by decide)
        generalize e1350 : x_up h1338 52 (12 * u1331 + u1336) v1345 = h1348 at j1349 f1351 f1352 ⊢
        refine x_iload (np := 73) (x := 4) (by decide +kernel) rfl (by decide) ?_
        refine x_ifz (k := 1) (tg := 92) (np := 76) (by decide +kernel) (by decide) (by decide) (fun q1353 => ?_) (fun q1354 => ?_)
        · have q1353 : 2147483649 ≠ 2147483648 := q1353
          refine x_aload (np := 93) (x := 0) (by decide +kernel) rfl (x_nc_le (by decide)) ?_
          refine x_iload (np := 94) (x := 2) (by decide +kernel) rfl (by first | decide | omega) ?_
          refine x_iload (np := 95) (x := 2) (by decide +kernel) rfl (by first | decide | omega) ?_
          refine x_iload (np := 96) (x := 1) (by decide +kernel) rfl la1 ?_
          refine x_nI (t := 7) (mj := 150) (n := 2) (rc := 0) (ml := 2) (nr := 2) (np := 99) (as := [iv_c v1213, iv_c a1]) (rest := [iv_c v1213, x_r 45]) (lo1 := [iv_c v1213, iv_c a1]) (by decide +kernel) (by decide) (by decide +kernel) (Or.inl rfl) rfl rfl (x_wi (by first | decide | omega) (x_wi la1 x_wn)) (x_wi (by first | decide | omega) (x_wr (by decide) x_wn)) (by decide) rfl ?_
          refine x_iload (np := 1) (x := 0) (by decide +kernel) rfl (by first | decide | omega) ?_
          refine x_const (np := 3) (x := 9223372090541867020) (a := 2147483660) (by decide +kernel) (by decide) (by decide) ?_
          refine x_imul (np := 4) (x := 0) (i := u1331) (j := 12) (v := (2147483648 + 12 * u1331)) (by decide +kernel) (by first | decide | omega) (by first | decide | omega) (by first | decide | omega) (by first | decide | omega) (by first | decide | omega) (by decide) ?_
          refine x_iload (np := 5) (x := 1) (by decide +kernel) rfl la1 ?_
          refine x_iadd (np := 6) (x := 0) (v := (12 * u1331 + a1)) (by decide +kernel) (by first | decide | omega) la1 (by first | decide | omega) (by first | decide | omega) ?_
          refine x_retI (np := 7) (x := 0) (by decide +kernel) (by first | decide | omega) (Or.inl (by decide +kernel)) ⟨_, rfl, (by first | decide | omega), ?_⟩
          refine x_const (np := 101) (x := 9223372129196572693) (a := 2147483669) (by decide +kernel) (by decide) (by decide) ?_
          refine x_imul (np := 102) (x := 0) (i := (12 * u1331 + u1336)) (j := 21) (v := (2147483648 + 252 * u1331 + 21 * u1336)) (by decide +kernel) (by first | decide | omega) (by first | decide | omega) (by first | decide | omega) (by first | decide | omega) (by first | decide | omega) (by decide) ?_
          refine x_cV (t := 6) (mj := 27) (n := 3) (rc := 2) (ml := 4) (nr := 0) (np := 105) (as := [x_r 45, iv_c v1213, iv_c (2147483648 + 252 * u1331 + 21 * u1336)]) (rest := []) (lo1 := [x_r 45, iv_c v1213, iv_c (2147483648 + 252 * u1331 + 21 * u1336), 147573952589676412928]) (by decide +kernel) (by decide) (by decide +kernel) (x_rb_of (by decide +kernel)) rfl rfl (x_wr (by decide) (x_wi (by first | decide | omega) (x_wi (by first | decide | omega) x_wn))) x_wn (by decide) rfl (c27_45 j1349  (by first | decide | omega) (by first | decide | omega)) (fun h1360 q1359 => ?_)
          obtain ⟨j1361, f1362⟩ := q1359
          have f1365 := Fr.trans f1351 f1362 (by decide)
          have f1366 := Fr.trans f1352 f1362 (by decide)
          refine x_iinc (np := 108) (i := 2) (j := 2147483649) (v := (1 + v1213)) (lo' := [x_r 45, iv_c a1, iv_c (1 + v1213), iv_c v1231, iv_c 2147483649]) (by decide +kernel) (by decide) (by decide) rfl (by first | decide | omega) (by first | decide | omega) (by first | decide | omega) rfl ?_
          refine x_goto (np := 111) (x := 2) (by decide +kernel) ?_
          exact i1222 (1 + v1213) (iv_c v1231) (iv_c 2147483649) h1360 (by first | decide | omega) (by first | decide | omega) j1361 f1366
        have q1354 : ¬ (2147483649 ≠ 2147483648) := q1354
        exfalso; omega
      have q1327 : ¬ (v1321 = 2147483648) := q1327
      refine x_const (np := 24) (x := 9223372043297226753) (a := 2147483649) (by decide +kernel) (by decide) (by decide) ?_
      refine x_goto (np := 27) (x := 28) (by decide +kernel) ?_
      refine x_retI (np := 29) (x := 0) (by decide +kernel) (by decide) (Or.inr ⟨by decide +kernel, by first | decide | omega, by first | decide | omega⟩) ⟨_, rfl, (by decide), ?_⟩
      refine x_ifz (k := 1) (tg := 32) (np := 28) (by decide +kernel) (by decide) (by decide) (fun q1367 => ?_) (fun q1368 => ?_)
      · have q1367 : 2147483649 ≠ 2147483648 := q1367
        refine x_const (np := 33) (x := 9223372039002259456) (a := 2147483648) (by decide +kernel) (by decide) (by decide) ?_
        refine x_istore (np := 35) (x := 4) (lo' := [x_r 45, iv_c a1, iv_c v1213, iv_c v1231, iv_c 2147483648]) (by decide +kernel) (by decide) (Nat.le_of_ble_eq_true rfl) rfl ?_
        refine x_aload (np := 36) (x := 0) (by decide +kernel) rfl (x_nc_le (by decide)) ?_
        have q1369 : h1217 45 6 = 51 := by have z := jB (e := 6) 0 j1219 rg_45_6_0_1 (by decide) (by decide); omega
        refine x_getR (np := 39) (x := 70) (f := 6) (q := 51) (by decide +kernel) (by decide) (by decide +kernel) q1369 ?_
        refine x_iload (np := 40) (x := 2) (by decide +kernel) rfl (by first | decide | omega) ?_
        refine x_iload (np := 41) (x := 1) (by decide +kernel) rfl la1 ?_
        refine x_nI (t := 7) (mj := 150) (n := 2) (rc := 0) (ml := 2) (nr := 1) (np := 44) (as := [iv_c v1213, iv_c a1]) (rest := [x_r 51]) (lo1 := [iv_c v1213, iv_c a1]) (by decide +kernel) (by decide) (by decide +kernel) (Or.inl rfl) rfl rfl (x_wi (by first | decide | omega) (x_wi la1 x_wn)) (x_wr (by decide) x_wn) (by decide) rfl ?_
        refine x_iload (np := 1) (x := 0) (by decide +kernel) rfl (by first | decide | omega) ?_
        refine x_const (np := 3) (x := 9223372090541867020) (a := 2147483660) (by decide +kernel) (by decide) (by decide) ?_
        obtain ⟨u1370, q1371⟩ : ∃ z, v1213 = 2147483648 + z := ⟨v1213 - 2147483648, by first | decide | omega⟩
        refine x_imul (np := 4) (x := 0) (i := u1370) (j := 12) (v := (2147483648 + 12 * u1370)) (by decide +kernel) (by first | decide | omega) (by first | decide | omega) (by first | decide | omega) (by first | decide | omega) (by first | decide | omega) (by decide) ?_
        refine x_iload (np := 5) (x := 1) (by decide +kernel) rfl la1 ?_
        refine x_iadd (np := 6) (x := 0) (v := (12 * u1370 + a1)) (by decide +kernel) (by first | decide | omega) la1 (by first | decide | omega) (by first | decide | omega) ?_
        refine x_retI (np := 7) (x := 0) (by decide +kernel) (by first | decide | omega) (Or.inl (by decide +kernel)) ⟨_, rfl, (by first | decide | omega), ?_⟩
        refine x_iload (np := 46) (x := 4) (by decide +kernel) rfl (by decide) ?_
        refine x_ifz (k := 0) (tg := 53) (np := 49) (by decide +kernel) (by decide) (by decide) (fun q1373 => ?_) (fun q1374 => ?_)
        · have q1373 : 2147483648 = 2147483648 := q1373
          refine x_iload (np := 54) (x := 3) (by decide +kernel) rfl l1232 ?_
          obtain ⟨u1375, q1376⟩ : ∃ z, a1 = 2147483648 + z := ⟨a1 - 2147483648, by first | decide | omega⟩
          refine x_ast (np := 55) (x := 0) (kd := 1) (n := 72) (i := (12 * u1370 + u1375)) (by decide +kernel) (Or.inl rfl) (by decide +kernel) (by first | decide | omega) (by first | decide | omega) (by decide) l1232 (fun z => absurd z (by decide)) ?_
          have j1378 := jU (e := (12 * u1370 + u1375)) (v := v1231) (12 * u1370 + u1375) j1219 rg_51_0_1_72 (by first | decide | omega) (by first | decide | omega) (by first | decide | omega)
          have f1380 := jF (e := (12 * u1370 + u1375)) (v := v1231) (12 * u1370 + u1375) f1223 rg_51_0_1_72 (by first | decide | omega) (by first | decide | omega) (by decide)
          have f1381 := jF (e := (12 * u1370 + u1375)) (v := v1231) (12 * u1370 + u1375) f1218 rg_51_0_1_72 (by first | decide | omega) (by first | decide | omega) (by decide)
          generalize e1379 : x_up h1217 51 (12 * u1370 + u1375) v1231 = h1377 at j1378 f1380 f1381 ⊢
          refine x_aload (np := 56) (x := 0) (by decide +kernel) rfl (x_nc_le (by decide)) ?_
          have q1382 : h1377 45 7 = 52 := by have z := jB (e := 7) 0 j1378 rg_45_7_0_1 (by decide) (by decide); omega
          refine x_getR (np := 59) (x := 71) (f := 7) (q := 52) (by decide +kernel) (by decide) (by decide +kernel) q1382 ?_
          refine x_iload (np := 60) (x := 2) (by decide +kernel) rfl (by first | decide | omega) ?_
          refine x_iload (np := 61) (x := 1) (by decide +kernel) rfl la1 ?_
          refine x_nI (t := 7) (mj := 150) (n := 2) (rc := 0) (ml := 2) (nr := 1) (np := 64) (as := [iv_c v1213, iv_c a1]) (rest := [x_r 52]) (lo1 := [iv_c v1213, iv_c a1]) (by decide +kernel) (by decide) (by decide +kernel) (Or.inl rfl) rfl rfl (x_wi (by first | decide | omega) (x_wi la1 x_wn)) (x_wr (by decide) x_wn) (by decide) rfl ?_
          refine x_iload (np := 1) (x := 0) (by decide +kernel) rfl (by first | decide | omega) ?_
          refine x_const (np := 3) (x := 9223372090541867020) (a := 2147483660) (by decide +kernel) (by decide) (by decide) ?_
          refine x_imul (np := 4) (x := 0) (i := u1370) (j := 12) (v := (2147483648 + 12 * u1370)) (by decide +kernel) (by first | decide | omega) (by first | decide | omega) (by first | decide | omega) (by first | decide | omega) (by first | decide | omega) (by decide) ?_
          refine x_iload (np := 5) (x := 1) (by decide +kernel) rfl la1 ?_
          refine x_iadd (np := 6) (x := 0) (v := (12 * u1370 + a1)) (by decide +kernel) (by first | decide | omega) la1 (by first | decide | omega) (by first | decide | omega) ?_
          refine x_retI (np := 7) (x := 0) (by decide +kernel) (by first | decide | omega) (Or.inl (by decide +kernel)) ⟨_, rfl, (by first | decide | omega), ?_⟩
          refine x_aload (np := 65) (x := 0) (by decide +kernel) rfl (x_nc_le (by decide)) ?_
          refine x_iload (np := 66) (x := 2) (by decide +kernel) rfl (by first | decide | omega) ?_
          refine x_iload (np := 67) (x := 1) (by decide +kernel) rfl la1 ?_
          refine x_cP (t := 6) (mj := 28) (n := 3) (rc := 2) (ml := 3) (nr := 2) (np := 70) (as := [x_r 45, iv_c v1213, iv_c a1]) (rest := [iv_c (12 * u1370 + a1), x_r 52]) (lo1 := [x_r 45, iv_c v1213, iv_c a1]) (by decide +kernel) (by decide) (by decide +kernel) (x_rb_of (by decide +kernel)) rfl rfl (x_wr (by decide) (x_wi (by first | decide | omega) (x_wi la1 x_wn))) (x_wi (by first | decide | omega) (x_wr (by decide) x_wn)) (by decide) rfl (c28_45 j1378  (by first | decide | omega) (by first | decide | omega)) (fun v1384 l1385 q1386 => ?_)
          refine x_ast (np := 71) (x := 0) (kd := 1) (n := 72) (i := (12 * u1370 + u1375)) (by decide +kernel) (Or.inl rfl) (by decide +kernel) (by first | decide | omega) (by first | decide | omega) (by decide) l1385 (fun z => absurd z (by decide)) ?_
          have j1388 := jU (e := (12 * u1370 + u1375)) (v := v1384) (12 * u1370 + u1375) j1378 rg_52_0_1_72 (by first | decide | omega) (by first | decide | omega) (by first | decide | omega)
          have f1390 := jF (e := (12 * u1370 + u1375)) (v := v1384) (12 * u1370 + u1375) f1380 rg_52_0_1_72 (by first | decide | omega) (by first | decide | omega) (by decide)
          have f1391 := jF (e := (12 * u1370 + u1375)) (v := v1384) (12 * u1370 + u1375) f1381 rg_52_0_1_72 (by first | decide | omega) (by first | decide | omega) (by decide)
          generalize e1389 : x_up h1377 52 (12 * u1370 + u1375) v1384 = h1387 at j1388 f1390 f1391 ⊢
          refine x_iload (np := 73) (x := 4) (by decide +kernel) rfl (by decide) ?_
          refine x_ifz (k := 1) (tg := 92) (np := 76) (by decide +kernel) (by decide) (by decide) (fun q1392 => ?_) (fun q1393 => ?_)
          · have q1392 : 2147483648 ≠ 2147483648 := q1392
            exfalso; omega
          have q1393 : ¬ (2147483648 ≠ 2147483648) := q1393
          refine x_aload (np := 77) (x := 0) (by decide +kernel) rfl (x_nc_le (by decide)) ?_
          have q1394 : h1387 45 1 = 47 := by have z := jB (e := 1) 0 j1388 rg_45_1_0_1 (by decide) (by decide); omega
          refine x_getR (np := 80) (x := 65) (f := 1) (q := 47) (by decide +kernel) (by decide) (by decide +kernel) q1394 ?_
          refine x_iload (np := 81) (x := 2) (by decide +kernel) rfl (by first | decide | omega) ?_
          refine x_iload (np := 82) (x := 3) (by decide +kernel) rfl l1232 ?_
          refine x_nI (t := 7) (mj := 149) (n := 2) (rc := 0) (ml := 2) (nr := 1) (np := 85) (as := [iv_c v1213, iv_c v1231]) (rest := [x_r 47]) (lo1 := [iv_c v1213, iv_c v1231]) (by decide +kernel) (by decide) (by decide +kernel) (Or.inl rfl) rfl rfl (x_wi (by first | decide | omega) (x_wi l1232 x_wn)) (x_wr (by decide) x_wn) (by decide) rfl ?_
          refine x_iload (np := 1) (x := 0) (by decide +kernel) rfl (by first | decide | omega) ?_
          refine x_const (np := 3) (x := 9223372064772063238) (a := 2147483654) (by decide +kernel) (by decide) (by decide) ?_
          refine x_imul (np := 4) (x := 0) (i := u1370) (j := 6) (v := (2147483648 + 6 * u1370)) (by decide +kernel) (by first | decide | omega) (by first | decide | omega) (by first | decide | omega) (by first | decide | omega) (by first | decide | omega) (by decide) ?_
          refine x_iload (np := 5) (x := 1) (by decide +kernel) rfl l1232 ?_
          refine x_iadd (np := 6) (x := 0) (v := (6 * u1370 + v1231)) (by decide +kernel) (by first | decide | omega) l1232 (by first | decide | omega) (by first | decide | omega) ?_
          refine x_retI (np := 7) (x := 0) (by decide +kernel) (by first | decide | omega) (Or.inl (by decide +kernel)) ⟨_, rfl, (by first | decide | omega), ?_⟩
          refine x_dup2 (np := 86) (x := 0) (by decide +kernel) (by have z := (iw_c_lt (a := (6 * u1370 + v1231)) (by first | decide | omega)).1; omega) (by have z := x_nc_le (k := 47) (by decide); unfold x_r; omega) ?_
          have q1396 : h1387 47 (6 * u1370 + u1317) = h1377 47 (6 * u1370 + u1317) := by rw [← e1389]; exact x_up_k (by decide)
          have q1397 : h1377 47 (6 * u1370 + u1317) = h1217 47 (6 * u1370 + u1317) := by rw [← e1379]; exact x_up_k (by decide)
          refine x_aldC (np := 87) (x := 0) (n := 36) (i := (6 * u1370 + u1317)) (q := ((h1217 47 (6 * u1370 + u1317)))) (by decide +kernel) (by decide +kernel) (by first | decide | omega) (by first | decide | omega) (by decide) (q1396.trans q1397) (fun l1398 => ?_)
          refine x_const (np := 88) (x := 9223372043297226753) (a := 2147483649) (by decide +kernel) (by decide) (by decide) ?_
          refine x_iload (np := 89) (x := 1) (by decide +kernel) rfl la1 ?_
          refine x_any (np := 90) (k9 := 3) (by decide +kernel) (by decide) (by decide) la1 (fun v1399 l1400 => ?_)
          refine x_any (np := 91) (k9 := 1) (by decide +kernel) (by decide) l1398 l1400 (fun v1401 l1402 => ?_)
          refine x_ast (np := 92) (x := 0) (kd := 1) (n := 36) (i := (6 * u1370 + u1317)) (by decide +kernel) (Or.inl rfl) (by decide +kernel) (by first | decide | omega) (by first | decide | omega) (by decide) l1402 (fun z => absurd z (by decide)) ?_
          have j1404 := jU (e := (6 * u1370 + u1317)) (v := v1401) (6 * u1370 + u1317) j1388 rg_47_0_1_36 (by first | decide | omega) (by first | decide | omega) (by first | decide | omega)
          have f1406 := jF (e := (6 * u1370 + u1317)) (v := v1401) (6 * u1370 + u1317) f1390 rg_47_0_1_36 (by first | decide | omega) (by first | decide | omega) (by decide)
          have f1407 := jF (e := (6 * u1370 + u1317)) (v := v1401) (6 * u1370 + u1317) f1391 rg_47_0_1_36 (by first | decide | omega) (by first | decide | omega) (by decide)
          generalize e1405 : x_up h1387 47 (6 * u1370 + u1317) v1401 = h1403 at j1404 f1406 f1407 ⊢
          refine x_aload (np := 93) (x := 0) (by decide +kernel) rfl (x_nc_le (by decide)) ?_
          refine x_iload (np := 94) (x := 2) (by decide +kernel) rfl (by first | decide | omega) ?_
          refine x_iload (np := 95) (x := 2) (by decide +kernel) rfl (by first | decide | omega) ?_
          refine x_iload (np := 96) (x := 1) (by decide +kernel) rfl la1 ?_
          refine x_nI (t := 7) (mj := 150) (n := 2) (rc := 0) (ml := 2) (nr := 2) (np := 99) (as := [iv_c v1213, iv_c a1]) (rest := [iv_c v1213, x_r 45]) (lo1 := [iv_c v1213, iv_c a1]) (by decide +kernel) (by decide) (by decide +kernel) (Or.inl rfl) rfl rfl (x_wi (by first | decide | omega) (x_wi la1 x_wn)) (x_wi (by first | decide | omega) (x_wr (by decide) x_wn)) (by decide) rfl ?_
          refine x_iload (np := 1) (x := 0) (by decide +kernel) rfl (by first | decide | omega) ?_
          refine x_const (np := 3) (x := 9223372090541867020) (a := 2147483660) (by decide +kernel) (by decide) (by decide) ?_
          refine x_imul (np := 4) (x := 0) (i := u1370) (j := 12) (v := (2147483648 + 12 * u1370)) (by decide +kernel) (by first | decide | omega) (by first | decide | omega) (by first | decide | omega) (by first | decide | omega) (by first | decide | omega) (by decide) ?_
          refine x_iload (np := 5) (x := 1) (by decide +kernel) rfl la1 ?_
          refine x_iadd (np := 6) (x := 0) (v := (12 * u1370 + a1)) (by decide +kernel) (by first | decide | omega) la1 (by first | decide | omega) (by first | decide | omega) ?_
          refine x_retI (np := 7) (x := 0) (by decide +kernel) (by first | decide | omega) (Or.inl (by decide +kernel)) ⟨_, rfl, (by first | decide | omega), ?_⟩
          refine x_const (np := 101) (x := 9223372129196572693) (a := 2147483669) (by decide +kernel) (by decide) (by decide) ?_
          refine x_imul (np := 102) (x := 0) (i := (12 * u1370 + u1375)) (j := 21) (v := (2147483648 + 252 * u1370 + 21 * u1375)) (by decide +kernel) (by first | decide | omega) (by first | decide | omega) (by first | decide | omega) (by first | decide | omega) (by first | decide | omega) (by decide) ?_
          refine x_cV (t := 6) (mj := 27) (n := 3) (rc := 2) (ml := 4) (nr := 0) (np := 105) (as := [x_r 45, iv_c v1213, iv_c (2147483648 + 252 * u1370 + 21 * u1375)]) (rest := []) (lo1 := [x_r 45, iv_c v1213, iv_c (2147483648 + 252 * u1370 + 21 * u1375), 147573952589676412928]) (by decide +kernel) (by decide) (by decide +kernel) (x_rb_of (by decide +kernel)) rfl rfl (x_wr (by decide) (x_wi (by first | decide | omega) (x_wi (by first | decide | omega) x_wn))) x_wn (by decide) rfl (c27_45 j1404  (by first | decide | omega) (by first | decide | omega)) (fun h1413 q1412 => ?_)
          obtain ⟨j1414, f1415⟩ := q1412
          have f1418 := Fr.trans f1406 f1415 (by decide)
          have f1419 := Fr.trans f1407 f1415 (by decide)
          refine x_iinc (np := 108) (i := 2) (j := 2147483649) (v := (1 + v1213)) (lo' := [x_r 45, iv_c a1, iv_c (1 + v1213), iv_c v1231, iv_c 2147483648]) (by decide +kernel) (by decide) (by decide) rfl (by first | decide | omega) (by first | decide | omega) (by first | decide | omega) rfl ?_
          refine x_goto (np := 111) (x := 2) (by decide +kernel) ?_
          exact i1222 (1 + v1213) (iv_c v1231) (iv_c 2147483648) h1413 (by first | decide | omega) (by first | decide | omega) j1414 f1419
        have q1374 : ¬ (2147483648 = 2147483648) := q1374
        exfalso; omega
      have q1368 : ¬ (2147483649 ≠ 2147483648) := q1368
      exfalso; omega
  exact p1220 _ 2147483648 147573952589676412928 147573952589676412928 h (Nat.lt_succ_self _) (by first | decide | omega) hJ (Fr.refl _ _)
set_option maxHeartbeats 0 in
/-- LentNames$Calendar.holdCourt(I)V -/
theorem c19_45 {sc : Nat × Nat} {d a1 : Nat} {h : xh} (hJ : J h) (ba1 : 2147483648 ≤ a1 ∧ a1 ≤ 2147483659) : X sc 19 (d + 3) (xV fun h' => J h' ∧ Fr 5121 h h') 0 0 0 [x_r 45, iv_c a1, 147573952589676412928, 147573952589676412928] [] h := by
  have la1 : a1 < 4294967296 := by first | decide | omega
  have hF := Fr.refl 5121 h
  refine x_const (np := 1) (x := 9223372039002259456) (a := 2147483648) (by decide +kernel) (by decide) (by decide) ?_
  refine x_istore (np := 2) (x := 2) (lo' := [x_r 45, iv_c a1, iv_c 2147483648, 147573952589676412928]) (by decide +kernel) (by decide) (Nat.le_of_ble_eq_true rfl) rfl ?_
  have p584 : ∀ (n : Nat) (v578 : Nat) (w580 : Nat) (h581 : xh), 4294967296 - v578 < n → (2147483648 ≤ v578 ∧ v578 ≤ 2147483654) → J h581 → Fr 5121 h h581 → X sc 19 (d + 3) (xV fun h' => J h' ∧ Fr 5121 h h') 0 0 2 [x_r 45, iv_c a1, iv_c v578, w580] [] h581 := by
    intro n
    induction n with
    | zero => intro v578 w580 h581 q585; exact absurd q585 (Nat.not_lt_zero _)
    | succ n i586 =>
      intro v578 w580 h581 q585 b579 j583 f582
      have f587 := Fr.trans hF f582 (by decide)
      refine x_iload (np := 3) (x := 2) (by decide +kernel) rfl (by first | decide | omega) ?_
      refine x_aload (np := 4) (x := 0) (by decide +kernel) rfl (x_nc_le (by decide)) ?_
      have q588 : h581 45 5 = h 45 5 := f582 45 5 (by decide +kernel)
      have t589 : tw (h 45 5) := hJ.2.2.2.1
      refine x_getR (np := 7) (x := 69) (f := 5) (q := (h 45 5)) (by decide +kernel) (by decide) (by decide +kernel) q588 ?_
      have q590 : h581 (h 45 5) 7 = h (h 45 5) 7 := jK 0 f582 (rg_T0_7_0_1 t589) (by first | decide | omega) (by first | decide | omega) (by decide)
      have b591 := jB (e := 7) 0 hJ (rg_T0_7_0_1 t589) (by first | decide | omega) (by first | decide | omega)
      refine x_getC (np := 10) (x := 519) (f := 7) (q := (h (h 45 5) 7)) (by decide +kernel) (by decide) (tg_0_519_7_0 t589) q590 (fun l592 => ?_)
      refine x_icmp (k := 3) (tg := 54) (np := 13) (by decide +kernel) (by decide) (by first | decide | omega) l592 (fun q593 => ?_) (fun q594 => ?_)
      · have q593 : (h (h 45 5) 7) ≤ v578 := q593
        refine x_retV (np := 55) (x := 0) (by decide +kernel) (by decide +kernel) ⟨rfl, ?_⟩
        exact ⟨j583, f587⟩
      have q594 : ¬ ((h (h 45 5) 7) ≤ v578) := q594
      refine x_aload (np := 14) (x := 0) (by decide +kernel) rfl (x_nc_le (by decide)) ?_
      have q595 : h581 45 12 = 57 := by have z := jB (e := 12) 0 j583 rg_45_12_0_1 (by decide) (by decide); omega
      refine x_getR (np := 17) (x := 76) (f := 12) (q := 57) (by decide +kernel) (by decide) (by decide +kernel) q595 ?_
      refine x_iload (np := 18) (x := 2) (by decide +kernel) rfl (by first | decide | omega) ?_
      obtain ⟨u596, q597⟩ : ∃ z, v578 = 2147483648 + z := ⟨v578 - 2147483648, by first | decide | omega⟩
      have b598 := jB (e := u596) u596 j583 rg_57_0_1_6 (by first | decide | omega) (by first | decide | omega)
      refine x_aldC (np := 19) (x := 0) (n := 6) (i := u596) (q := (h581 57 u596)) (by decide +kernel) (by decide +kernel) (by first | decide | omega) (by first | decide | omega) (by decide) rfl (fun l599 => ?_)
      refine x_const (np := 20) (x := 9223372043297226753) (a := 2147483649) (by decide +kernel) (by decide) (by decide) ?_
      obtain ⟨v600, q601⟩ : ∃ z, z + 2147483649 = (h581 57 u596) + 2147483648 := ⟨(h581 57 u596) + 2147483648 - 2147483649, by first | decide | omega⟩
      refine x_isub (np := 21) (x := 0) (v := v600) (by decide +kernel) l599 (by decide) (by first | decide | omega) (by first | decide | omega) ?_
      refine x_istore (np := 22) (x := 3) (lo' := [x_r 45, iv_c a1, iv_c v578, iv_c v600]) (by decide +kernel) (by first | decide | omega) (Nat.le_of_ble_eq_true rfl) rfl ?_
      have p654 : ∀ (n : Nat) (v649 : Nat) (h651 : xh), v649 < n → (2147483647 ≤ v649 ∧ v649 ≤ 2147483667) → J h651 → Fr 5121 h581 h651 → X sc 19 (d + 3) (xV fun h' => J h' ∧ Fr 5121 h h') 0 0 22 [x_r 45, iv_c a1, iv_c v578, iv_c v649] [] h651 := by
        intro n
        induction n with
        | zero => intro v649 h651 q655; exact absurd q655 (Nat.not_lt_zero _)
        | succ n i656 =>
          intro v649 h651 q655 b650 j653 f652
          have f657 := Fr.trans f587 f652 (by decide)
          have f658 := Fr.trans f582 f652 (by decide)
          refine x_iload (np := 23) (x := 3) (by decide +kernel) rfl (by first | decide | omega) ?_
          refine x_ifz (k := 2) (tg := 48) (np := 26) (by decide +kernel) (by decide) (by first | decide | omega) (fun q659 => ?_) (fun q660 => ?_)
          · have q659 : v649 < 2147483648 := q659
            refine x_iinc (np := 51) (i := 2) (j := 2147483649) (v := (1 + v578)) (lo' := [x_r 45, iv_c a1, iv_c (1 + v578), iv_c v649]) (by decide +kernel) (by decide) (by decide) rfl (by first | decide | omega) (by first | decide | omega) (by first | decide | omega) rfl ?_
            refine x_goto (np := 54) (x := 2) (by decide +kernel) ?_
            exact i586 (1 + v578) (iv_c v649) h651 (by first | decide | omega) (by first | decide | omega) j653 f658
          have q660 : ¬ (v649 < 2147483648) := q660
          refine x_aload (np := 27) (x := 0) (by decide +kernel) rfl (x_nc_le (by decide)) ?_
          refine x_iload (np := 28) (x := 2) (by decide +kernel) rfl (by first | decide | omega) ?_
          refine x_iload (np := 29) (x := 1) (by decide +kernel) rfl la1 ?_
          refine x_cP (t := 6) (mj := 29) (n := 3) (rc := 2) (ml := 3) (nr := 0) (np := 32) (as := [x_r 45, iv_c v578, iv_c a1]) (rest := []) (lo1 := [x_r 45, iv_c v578, iv_c a1]) (by decide +kernel) (by decide) (by decide +kernel) (x_rb_of (by decide +kernel)) rfl rfl (x_wr (by decide) (x_wi (by first | decide | omega) (x_wi la1 x_wn))) x_wn (by decide) rfl (c29_45 j653  (by first | decide | omega) (by first | decide | omega)) (fun v661 l662 q663 => ?_)
          refine x_ifz (k := 1) (tg := 48) (np := 35) (by decide +kernel) (by decide) l662 (fun q664 => ?_) (fun q665 => ?_)
          · have q664 : v661 ≠ 2147483648 := q664
            refine x_iinc (np := 51) (i := 2) (j := 2147483649) (v := (1 + v578)) (lo' := [x_r 45, iv_c a1, iv_c (1 + v578), iv_c v649]) (by decide +kernel) (by decide) (by decide) rfl (by first | decide | omega) (by first | decide | omega) (by first | decide | omega) rfl ?_
            refine x_goto (np := 54) (x := 2) (by decide +kernel) ?_
            exact i586 (1 + v578) (iv_c v649) h651 (by first | decide | omega) (by first | decide | omega) j653 f658
          have q665 : ¬ (v661 ≠ 2147483648) := q665
          refine x_aload (np := 36) (x := 0) (by decide +kernel) rfl (x_nc_le (by decide)) ?_
          refine x_iload (np := 37) (x := 2) (by decide +kernel) rfl (by first | decide | omega) ?_
          refine x_iload (np := 38) (x := 3) (by decide +kernel) rfl (by first | decide | omega) ?_
          refine x_iload (np := 39) (x := 1) (by decide +kernel) rfl la1 ?_
          refine x_cV (t := 6) (mj := 18) (n := 4) (rc := 2) (ml := 5) (nr := 0) (np := 42) (as := [x_r 45, iv_c v578, iv_c v649, iv_c a1]) (rest := []) (lo1 := [x_r 45, iv_c v578, iv_c v649, iv_c a1, 147573952589676412928]) (by decide +kernel) (by decide) (by decide +kernel) (x_rb_of (by decide +kernel)) rfl rfl (x_wr (by decide) (x_wi (by first | decide | omega) (x_wi (by first | decide | omega) (x_wi la1 x_wn)))) x_wn (by decide) rfl (c18_45 j653  (by first | decide | omega) (by first | decide | omega) (by first | decide | omega)) (fun h669 q668 => ?_)
          obtain ⟨j670, f671⟩ := q668
          have f674 := Fr.trans f657 f671 (by decide)
          have f675 := Fr.trans f658 f671 (by decide)
          have f676 := Fr.trans f652 f671 (by decide)
          obtain ⟨v677, q678⟩ : ∃ z, z + 1 = v649 := ⟨v649 - 1, by first | decide | omega⟩
          refine x_iinc (np := 45) (i := 3) (j := 2147483647) (v := v677) (lo' := [x_r 45, iv_c a1, iv_c v578, iv_c v677]) (by decide +kernel) (by decide) (by decide) rfl (by first | decide | omega) (by first | decide | omega) (by first | decide | omega) rfl ?_
          refine x_goto (np := 48) (x := 22) (by decide +kernel) ?_
          exact i656 v677 h669 (by first | decide | omega) (by first | decide | omega) j670 f676
      exact p654 _ v600 h581 (Nat.lt_succ_self _) (by first | decide | omega) j583 (Fr.refl _ _)
  exact p584 _ 2147483648 147573952589676412928 h (Nat.lt_succ_self _) (by first | decide | omega) hJ (Fr.refl _ _)
set_option maxHeartbeats 0 in
/-- LentNames$Calendar.live(LLentNames$Town;)V -/
theorem c4_45_T0 {sc : Nat × Nat} {d ra1 : Nat} {h : xh} (hJ : J h) (ta1 : tw ra1) : X sc 4 (d + 5) (xV fun h' => J h' ∧ Fr 576601489791786497 h h' ∧ ∀ b, b < 6 → h' 46 b = al9 (xq h ra1 b)) 0 0 0 [x_r 45, x_r ra1, 147573952589676412928] [] h := by
  have hF := Fr.refl 576601489791786497 h
  refine x_aload (np := 1) (x := 0) (by decide +kernel) rfl (x_nc_le (by decide)) ?_
  refine x_aload (np := 2) (x := 1) (by decide +kernel) rfl (x_nc_le (tn_0 ta1)) ?_
  refine x_putR (np := 5) (x := 8261) (f := 5) (by decide +kernel) (by decide +kernel) (tn_0 ta1) (by decide) ?_
  have j2 := J_upW (k := 45) (i := 5) hJ ta1 (by decide)
  have f4 := Fr.up (k := 45) (i := 5) (v := ra1) hF (by decide +kernel)
  generalize e3 : x_up h 45 5 ra1 = h1 at j2 f4 ⊢
  refine x_aload (np := 6) (x := 0) (by decide +kernel) rfl (x_nc_le (by decide)) ?_
  refine x_cV (t := 6) (mj := 16) (n := 1) (rc := 2) (ml := 2) (nr := 0) (np := 9) (as := [x_r 45]) (rest := []) (lo1 := [x_r 45, 147573952589676412928]) (by decide +kernel) (by decide) (by decide +kernel) (x_rb_of (by decide +kernel)) rfl rfl (x_wr (by decide) x_wn) x_wn (by decide) rfl (c16_45 j2 ) (fun h8 q7 => ?_)
  obtain ⟨j9, f10, c13⟩ := q7
  have f14 := Fr.trans f4 f10 (by decide)
  refine x_const (np := 10) (x := 9223372039002259456) (a := 2147483648) (by decide +kernel) (by decide) (by decide) ?_
  refine x_istore (np := 11) (x := 2) (lo' := [x_r 45, x_r ra1, iv_c 2147483648]) (by decide +kernel) (by decide) (Nat.le_of_ble_eq_true rfl) rfl ?_
  have p1148 : ∀ (n : Nat) (v1143 : Nat) (h1145 : xh), 4294967296 - v1143 < n → (2147483648 ≤ v1143 ∧ v1143 ≤ 2147483660) → J h1145 → Fr 140737488362497 h8 h1145 → (∀ b, b < 6 → h1145 46 b = al9 (xq h ra1 b)) → X sc 4 (d + 5) (xV fun h' => J h' ∧ Fr 576601489791786497 h h' ∧ ∀ b, b < 6 → h' 46 b = al9 (xq h ra1 b)) 0 0 11 [x_r 45, x_r ra1, iv_c v1143] [] h1145 := by
    intro n
    induction n with
    | zero => intro v1143 h1145 q1150; exact absurd q1150 (Nat.not_lt_zero _)
    | succ n i1151 =>
      intro v1143 h1145 q1150 b1144 j1147 f1146 m1149
      have f1152 := Fr.trans f14 f1146 (by decide)
      refine x_iload (np := 12) (x := 2) (by decide +kernel) rfl (by first | decide | omega) ?_
      refine x_const (np := 14) (x := 9223372090541867020) (a := 2147483660) (by decide +kernel) (by decide) (by decide) ?_
      refine x_icmp (k := 3) (tg := 62) (np := 17) (by decide +kernel) (by decide) (by first | decide | omega) (by decide) (fun q1153 => ?_) (fun q1154 => ?_)
      · have q1153 : 2147483660 ≤ v1143 := q1153
        refine x_retV (np := 63) (x := 0) (by decide +kernel) (by decide +kernel) ⟨rfl, ?_⟩
        exact ⟨j1147, f1152, m1149⟩
      have q1154 : ¬ (2147483660 ≤ v1143) := q1154
      refine x_aload (np := 18) (x := 0) (by decide +kernel) rfl (x_nc_le (by decide)) ?_
      refine x_iload (np := 19) (x := 2) (by decide +kernel) rfl (by first | decide | omega) ?_
      refine x_cV (t := 6) (mj := 17) (n := 2) (rc := 2) (ml := 4) (nr := 0) (np := 22) (as := [x_r 45, iv_c v1143]) (rest := []) (lo1 := [x_r 45, iv_c v1143, 147573952589676412928, 147573952589676412928]) (by decide +kernel) (by decide) (by decide +kernel) (x_rb_of (by decide +kernel)) rfl rfl (x_wr (by decide) (x_wi (by first | decide | omega) x_wn)) x_wn (by decide) rfl (c17_45 j1147  (by first | decide | omega)) (fun h1158 q1157 => ?_)
      obtain ⟨j1159, f1160⟩ := q1157
      have f1163 := Fr.trans f1152 f1160 (by decide)
      have f1164 := Fr.trans f1146 f1160 (by decide)
      refine x_aload (np := 23) (x := 0) (by decide +kernel) rfl (x_nc_le (by decide)) ?_
      have q1165 : h1158 45 5 = h1145 45 5 := f1160 45 5 (by decide +kernel)
      have q1166 : h1145 45 5 = h8 45 5 := f1146 45 5 (by decide +kernel)
      have q1167 : h8 45 5 = h1 45 5 := f10 45 5 (by decide +kernel)
      have q1168 : h1 45 5 = ra1 := by rw [← e3]; exact x_up_at
      refine x_getR (np := 26) (x := 69) (f := 5) (q := ra1) (by decide +kernel) (by decide) (by decide +kernel) (((q1165.trans q1166).trans q1167).trans q1168) ?_
      have q1169 : h1158 ra1 9 = h1145 ra1 9 := jK 0 f1160 (rg_T0_9_0_1 ta1) (by first | decide | omega) (by first | decide | omega) (by decide)
      have q1170 : h1145 ra1 9 = h8 ra1 9 := jK 0 f1146 (rg_T0_9_0_1 ta1) (by first | decide | omega) (by first | decide | omega) (by decide)
      have q1171 : h8 ra1 9 = h1 ra1 9 := jK 0 f10 (rg_T0_9_0_1 ta1) (by first | decide | omega) (by first | decide | omega) (by decide)
      have q1172 : h1 ra1 9 = h ra1 9 := by rw [← e3]; exact x_up_k (tne_0_45 ta1)
      refine x_getC (np := 29) (x := 521) (f := 9) (q := (h ra1 9)) (by decide +kernel) (by decide) (tg_0_521_9_0 ta1) (((q1169.trans q1170).trans q1171).trans q1172) (fun l1173 => ?_)
      refine x_iload (np := 30) (x := 2) (by decide +kernel) rfl (by first | decide | omega) ?_
      refine x_cP (t := 7) (mj := 148) (n := 2) (rc := 0) (ml := 2) (nr := 0) (np := 33) (as := [iv_c (h ra1 9), iv_c v1143]) (rest := []) (lo1 := [iv_c (h ra1 9), iv_c v1143]) (by decide +kernel) (by decide) (by decide +kernel) (Or.inl rfl) rfl rfl (x_wi l1173 (x_wi (by first | decide | omega) x_wn)) x_wn (by decide) rfl (c148 j1159 (by first | decide | omega) (by first | decide | omega)) (fun v1174 l1175 q1176 => ?_)
      obtain ⟨b1178, c1177⟩ := q1176
      refine x_ifz (k := 0) (tg := 41) (np := 36) (by decide +kernel) (by decide) l1175 (fun q1179 => ?_) (fun q1180 => ?_)
      · have q1179 : v1174 = 2147483648 := q1179
        refine x_aload (np := 42) (x := 0) (by decide +kernel) rfl (x_nc_le (by decide)) ?_
        refine x_iload (np := 43) (x := 2) (by decide +kernel) rfl (by first | decide | omega) ?_
        refine x_cV (t := 6) (mj := 20) (n := 2) (rc := 2) (ml := 5) (nr := 0) (np := 46) (as := [x_r 45, iv_c v1143]) (rest := []) (lo1 := [x_r 45, iv_c v1143, 147573952589676412928, 147573952589676412928, 147573952589676412928]) (by decide +kernel) (by decide) (by decide +kernel) (x_rb_of (by decide +kernel)) rfl rfl (x_wr (by decide) (x_wi (by first | decide | omega) x_wn)) x_wn (by decide) rfl (c20_45 j1159  (by first | decide | omega)) (fun h1184 q1183 => ?_)
        obtain ⟨j1185, f1186⟩ := q1183
        have f1189 := Fr.trans f1163 f1186 (by decide)
        have f1190 := Fr.trans f1164 f1186 (by decide)
        refine x_aload (np := 47) (x := 0) (by decide +kernel) rfl (x_nc_le (by decide)) ?_
        refine x_iload (np := 48) (x := 2) (by decide +kernel) rfl (by first | decide | omega) ?_
        refine x_cV (t := 6) (mj := 21) (n := 2) (rc := 2) (ml := 5) (nr := 0) (np := 51) (as := [x_r 45, iv_c v1143]) (rest := []) (lo1 := [x_r 45, iv_c v1143, 147573952589676412928, 147573952589676412928, 147573952589676412928]) (by decide +kernel) (by decide) (by decide +kernel) (x_rb_of (by decide +kernel)) rfl rfl (x_wr (by decide) (x_wi (by first | decide | omega) x_wn)) x_wn (by decide) rfl (c21_45 j1185  (by first | decide | omega)) (fun h1194 q1193 => ?_)
        obtain ⟨j1195, f1196⟩ := q1193
        have f1199 := Fr.trans f1189 f1196 (by decide)
        have f1200 := Fr.trans f1190 f1196 (by decide)
        refine x_aload (np := 52) (x := 0) (by decide +kernel) rfl (x_nc_le (by decide)) ?_
        refine x_iload (np := 53) (x := 2) (by decide +kernel) rfl (by first | decide | omega) ?_
        refine x_cV (t := 6) (mj := 26) (n := 2) (rc := 2) (ml := 5) (nr := 0) (np := 56) (as := [x_r 45, iv_c v1143]) (rest := []) (lo1 := [x_r 45, iv_c v1143, 147573952589676412928, 147573952589676412928, 147573952589676412928]) (by decide +kernel) (by decide) (by decide +kernel) (x_rb_of (by decide +kernel)) rfl rfl (x_wr (by decide) (x_wi (by first | decide | omega) x_wn)) x_wn (by decide) rfl (c26_45 j1195  (by first | decide | omega)) (fun h1204 q1203 => ?_)
        obtain ⟨j1205, f1206⟩ := q1203
        have f1209 := Fr.trans f1199 f1206 (by decide)
        have f1210 := Fr.trans f1200 f1206 (by decide)
        refine x_iinc (np := 59) (i := 2) (j := 2147483649) (v := (1 + v1143)) (lo' := [x_r 45, x_r ra1, iv_c (1 + v1143)]) (by decide +kernel) (by decide) (by decide) rfl (by first | decide | omega) (by first | decide | omega) (by first | decide | omega) rfl ?_
        refine x_goto (np := 62) (x := 11) (by decide +kernel) ?_
        exact i1151 (1 + v1143) h1204 (by first | decide | omega) (by first | decide | omega) j1205 f1210 (al_gr (al_gr (al_gr (al_gr m1149 f1160 (by decide)) f1186 (by decide)) f1196 (by decide)) f1206 (by decide))
      have q1180 : ¬ (v1174 = 2147483648) := q1180
      refine x_aload (np := 37) (x := 0) (by decide +kernel) rfl (x_nc_le (by decide)) ?_
      refine x_iload (np := 38) (x := 2) (by decide +kernel) rfl (by first | decide | omega) ?_
      refine x_cV (t := 6) (mj := 19) (n := 2) (rc := 2) (ml := 4) (nr := 0) (np := 41) (as := [x_r 45, iv_c v1143]) (rest := []) (lo1 := [x_r 45, iv_c v1143, 147573952589676412928, 147573952589676412928]) (by decide +kernel) (by decide) (by decide +kernel) (x_rb_of (by decide +kernel)) rfl rfl (x_wr (by decide) (x_wi (by first | decide | omega) x_wn)) x_wn (by decide) rfl (c19_45 j1159  (by first | decide | omega)) (fun h1214 q1213 => ?_)
      obtain ⟨j1215, f1216⟩ := q1213
      have f1219 := Fr.trans f1163 f1216 (by decide)
      have f1220 := Fr.trans f1164 f1216 (by decide)
      refine x_aload (np := 42) (x := 0) (by decide +kernel) rfl (x_nc_le (by decide)) ?_
      refine x_iload (np := 43) (x := 2) (by decide +kernel) rfl (by first | decide | omega) ?_
      refine x_cV (t := 6) (mj := 20) (n := 2) (rc := 2) (ml := 5) (nr := 0) (np := 46) (as := [x_r 45, iv_c v1143]) (rest := []) (lo1 := [x_r 45, iv_c v1143, 147573952589676412928, 147573952589676412928, 147573952589676412928]) (by decide +kernel) (by decide) (by decide +kernel) (x_rb_of (by decide +kernel)) rfl rfl (x_wr (by decide) (x_wi (by first | decide | omega) x_wn)) x_wn (by decide) rfl (c20_45 j1215  (by first | decide | omega)) (fun h1224 q1223 => ?_)
      obtain ⟨j1225, f1226⟩ := q1223
      have f1229 := Fr.trans f1219 f1226 (by decide)
      have f1230 := Fr.trans f1220 f1226 (by decide)
      refine x_aload (np := 47) (x := 0) (by decide +kernel) rfl (x_nc_le (by decide)) ?_
      refine x_iload (np := 48) (x := 2) (by decide +kernel) rfl (by first | decide | omega) ?_
      refine x_cV (t := 6) (mj := 21) (n := 2) (rc := 2) (ml := 5) (nr := 0) (np := 51) (as := [x_r 45, iv_c v1143]) (rest := []) (lo1 := [x_r 45, iv_c v1143, 147573952589676412928, 147573952589676412928, 147573952589676412928]) (by decide +kernel) (by decide) (by decide +kernel) (x_rb_of (by decide +kernel)) rfl rfl (x_wr (by decide) (x_wi (by first | decide | omega) x_wn)) x_wn (by decide) rfl (c21_45 j1225  (by first | decide | omega)) (fun h1234 q1233 => ?_)
      obtain ⟨j1235, f1236⟩ := q1233
      have f1239 := Fr.trans f1229 f1236 (by decide)
      have f1240 := Fr.trans f1230 f1236 (by decide)
      refine x_aload (np := 52) (x := 0) (by decide +kernel) rfl (x_nc_le (by decide)) ?_
      refine x_iload (np := 53) (x := 2) (by decide +kernel) rfl (by first | decide | omega) ?_
      refine x_cV (t := 6) (mj := 26) (n := 2) (rc := 2) (ml := 5) (nr := 0) (np := 56) (as := [x_r 45, iv_c v1143]) (rest := []) (lo1 := [x_r 45, iv_c v1143, 147573952589676412928, 147573952589676412928, 147573952589676412928]) (by decide +kernel) (by decide) (by decide +kernel) (x_rb_of (by decide +kernel)) rfl rfl (x_wr (by decide) (x_wi (by first | decide | omega) x_wn)) x_wn (by decide) rfl (c26_45 j1235  (by first | decide | omega)) (fun h1244 q1243 => ?_)
      obtain ⟨j1245, f1246⟩ := q1243
      have f1249 := Fr.trans f1239 f1246 (by decide)
      have f1250 := Fr.trans f1240 f1246 (by decide)
      refine x_iinc (np := 59) (i := 2) (j := 2147483649) (v := (1 + v1143)) (lo' := [x_r 45, x_r ra1, iv_c (1 + v1143)]) (by decide +kernel) (by decide) (by decide) rfl (by first | decide | omega) (by first | decide | omega) (by first | decide | omega) rfl ?_
      refine x_goto (np := 62) (x := 11) (by decide +kernel) ?_
      exact i1151 (1 + v1143) h1244 (by first | decide | omega) (by first | decide | omega) j1245 f1250 (al_gr (al_gr (al_gr (al_gr (al_gr m1149 f1160 (by decide)) f1216 (by decide)) f1226 (by decide)) f1236 (by decide)) f1246 (by decide))
  have q1251 : h1 45 5 = ra1 := by rw [← e3]; exact x_up_at
  have m1252 : ∀ u, u < 6 → xq h1 ra1 u = xq h ra1 u := fun u hu => (show xq h1 ra1 u = xq h ra1 u by rw [← e3]; exact xq_k (@nc_o ra1 9 45 ta1 (by decide)))
  have m1253 : ∀ b, b < 6 → h8 46 b = al9 (xq h ra1 b) := fun b hb => (c13 b hb).trans (congrArg al9 ((congrArg (fun z => xq h1 z b) q1251).trans (m1252 b hb)))
  exact p1148 _ 2147483648 h8 (Nat.lt_succ_self _) (by first | decide | omega) j9 (Fr.refl _ _) m1253
set_option maxHeartbeats 0 in
/-- LentNames.back()Z -/
theorem c139_0 {sc : Nat × Nat} {d  : Nat} {h : xh} (hJ : J h) : X sc 139 (d + 7) (xI fun r h' => J h' ∧ Fr 641059259458625153 h h' ∧ (2147483648 ≤ r ∧ r ≤ 2147483649) ∧ (r = h 0 10) ∧ (r = 2147483649 → ∀ i, tv h' i = svq h 3 i) ∧ (r = 2147483648 → ∀ i, tv h' i = tv h i) ∧ h' 0 8 = h 0 8 ∧ h' 0 9 = h 0 9 ∧ (r = 2147483649 → ∀ b, b < 6 → h' 46 b = al9 (tv h' (12 + b))) ∧ (r = 2147483648 → ∀ b, b < 6 → h' 46 b = h 46 b)) 0 0 0 [x_r 0] [] h := by
  have hF := Fr.refl 641059259458625153 h
  refine x_aload (np := 1) (x := 0) (by decide +kernel) rfl (x_nc_le (by decide)) ?_
  have b1 := jB (e := 10) 0 hJ rg_0_10_0_1 (by first | decide | omega) (by first | decide | omega)
  refine x_getC (np := 4) (x := 650) (f := 10) (q := (h 0 10)) (by decide +kernel) (by decide) (by decide +kernel) rfl (fun l2 => ?_)
  refine x_ifz (k := 1) (tg := 9) (np := 7) (by decide +kernel) (by decide) l2 (fun q3 => ?_) (fun q4 => ?_)
  · have q3 : (h 0 10) ≠ 2147483648 := q3
    refine x_aload (np := 10) (x := 0) (by decide +kernel) rfl (x_nc_le (by decide)) ?_
    have t5 : tw (h 0 8) := hJ.2.1
    refine x_getR (np := 13) (x := 648) (f := 8) (q := (h 0 8)) (by decide +kernel) (by decide) (by decide +kernel) rfl ?_
    refine x_aload (np := 14) (x := 0) (by decide +kernel) rfl (x_nc_le (by decide)) ?_
    have q6 : h 0 7 = 3 := by have z := jB (e := 7) 0 hJ rg_0_7_0_1 (by decide) (by decide); omega
    refine x_getR (np := 17) (x := 647) (f := 7) (q := 3) (by decide +kernel) (by decide) (by decide +kernel) q6 ?_
    refine x_cV (t := 6) (mj := 84) (n := 2) (rc := 9) (ml := 2) (nr := 0) (np := 20) (as := [x_r (h 0 8), x_r 3]) (rest := []) (lo1 := [x_r (h 0 8), x_r 3]) (by decide +kernel) (by decide) (by decide +kernel) (x_rb_of (tr_0_9 t5)) rfl rfl (x_wr (tn_0 t5) (x_wr (by decide) x_wn)) x_wn (by decide) rfl (c84_T0_3 hJ t5 ) (fun h10 q9 => ?_)
    obtain ⟨j11, f12, c15, c16, c17, c18, c19, c20, c21, c22⟩ := q9
    have f23 := Fr.trans hF f12 (by decide)
    have b24 := jB (e := 7) 0 hJ rg_3_7_0_1 (by first | decide | omega) (by first | decide | omega)
    have b25 := jB (e := 7) 0 j11 (rg_T0_7_0_1 t5) (by first | decide | omega) (by first | decide | omega)
    have b26 := jB (e := 2) 0 hJ rg_4_2_0_1 (by first | decide | omega) (by first | decide | omega)
    have b27 := jB (e := 2) 0 j11 (rg_T1_2_0_1 t5) (by first | decide | omega) (by first | decide | omega)
    have b28 := jB (e := 2) 0 hJ rg_6_2_0_1 (by first | decide | omega) (by first | decide | omega)
    have b29 := jB (e := 2) 0 j11 (rg_T3_2_0_1 t5) (by first | decide | omega) (by first | decide | omega)
    have b30 := jB (e := 2) 0 hJ rg_8_2_0_1 (by first | decide | omega) (by first | decide | omega)
    have b31 := jB (e := 2) 0 j11 (rg_T5_2_0_1 t5) (by first | decide | omega) (by first | decide | omega)
    have b32 := jB (e := 2) 0 hJ rg_10_2_0_1 (by first | decide | omega) (by first | decide | omega)
    have b33 := jB (e := 2) 0 j11 (rg_T7_2_0_1 t5) (by first | decide | omega) (by first | decide | omega)
    have z34 : h10 ((h 0 8) + 10) 0 = h 13 0 := c21 6
    have z35 : h10 ((h 0 8) + 10) 1 = h 13 1 := c21 7
    have z36 : h10 ((h 0 8) + 10) 2 = h 13 2 := c21 8
    have z37 : h10 ((h 0 8) + 10) 3 = h 13 3 := c21 9
    have z38 : h10 ((h 0 8) + 10) 4 = h 13 4 := c21 10
    have z39 : h10 ((h 0 8) + 10) 5 = h 13 5 := c21 11
    refine x_aload (np := 21) (x := 0) (by decide +kernel) rfl (x_nc_le (by decide)) ?_
    refine x_nV (t := 6) (mj := 143) (n := 1) (rc := 11) (ml := 1) (nr := 0) (np := 24) (as := [x_r 0]) (rest := []) (lo1 := [x_r 0]) (by decide +kernel) (by decide) (by decide +kernel) (x_rb_of (by decide +kernel)) rfl rfl (x_wr (by decide) x_wn) x_wn (by decide) rfl ?_
    refine x_aload (np := 1) (x := 0) (by decide +kernel) rfl (x_nc_le (by decide)) ?_
    have q40 : h10 0 1 = 45 := by have z := jB (e := 1) 0 j11 rg_0_1_0_1 (by decide) (by decide); omega
    refine x_getR (np := 4) (x := 641) (f := 1) (q := 45) (by decide +kernel) (by decide) (by decide +kernel) q40 ?_
    refine x_aload (np := 5) (x := 0) (by decide +kernel) rfl (x_nc_le (by decide)) ?_
    have q41 : h10 0 8 = h 0 8 := f12 0 8 (by decide +kernel)
    refine x_getR (np := 8) (x := 648) (f := 8) (q := (h 0 8)) (by decide +kernel) (by decide) (by decide +kernel) q41 ?_
    refine x_cV (t := 6) (mj := 4) (n := 2) (rc := 2) (ml := 3) (nr := 0) (np := 11) (as := [x_r 45, x_r (h 0 8)]) (rest := []) (lo1 := [x_r 45, x_r (h 0 8), 147573952589676412928]) (by decide +kernel) (by decide) (by decide +kernel) (x_rb_of (by decide +kernel)) rfl rfl (x_wr (by decide) (x_wr (tn_0 t5) x_wn)) x_wn (by decide) rfl (c4_45_T0 j11  t5) (fun h45 q44 => ?_)
    obtain ⟨j46, f47, c50⟩ := q44
    have f51 := Fr.trans f23 f47 (by decide)
    refine x_aload (np := 12) (x := 0) (by decide +kernel) rfl (x_nc_le (by decide)) ?_
    have q52 : h45 0 5 = 63 := by have z := jB (e := 5) 0 j46 rg_0_5_0_1 (by decide) (by decide); omega
    refine x_getR (np := 15) (x := 645) (f := 5) (q := 63) (by decide +kernel) (by decide) (by decide +kernel) q52 ?_
    refine x_nV (t := 8) (mj := 270) (n := 1) (rc := 5) (ml := 1) (nr := 0) (np := 18) (as := [x_r 63]) (rest := []) (lo1 := [x_r 63]) (by decide +kernel) (by decide) (by decide +kernel) (x_rb_of (by decide +kernel)) rfl rfl (x_wr (by decide) x_wn) x_wn (by decide) rfl ?_
    refine x_aload (np := 1) (x := 0) (by decide +kernel) rfl (x_nc_le (by decide)) ?_
    refine x_const (np := 2) (x := 9223372039002259456) (a := 2147483648) (by decide +kernel) (by decide) (by decide) ?_
    refine x_putI (np := 5) (x := 4878) (f := 14) (by decide +kernel) (by decide +kernel) (by decide) (Or.inr ⟨by decide, by first | decide | omega, by first | decide | omega⟩) ?_
    have j54 := jU (e := 14) (v := 2147483648) 0 j46 rg_63_14_0_1 (by first | decide | omega) (by first | decide | omega) (by first | decide | omega)
    have f56 := jF (e := 14) (v := 2147483648) 0 f51 rg_63_14_0_1 (by first | decide | omega) (by first | decide | omega) (by decide)
    generalize e55 : x_up h45 63 14 2147483648 = h53 at j54 f56 ⊢
    refine x_retV (np := 6) (x := 0) (by decide +kernel) (by decide +kernel) ⟨rfl, ?_⟩
    refine x_aload (np := 19) (x := 0) (by decide +kernel) rfl (x_nc_le (by decide)) ?_
    have q57 : h53 0 6 = 69 := by have z := jB (e := 6) 0 j54 rg_0_6_0_1 (by decide) (by decide); omega
    refine x_getR (np := 22) (x := 646) (f := 6) (q := 69) (by decide +kernel) (by decide) (by decide +kernel) q57 ?_
    refine x_nV (t := 8) (mj := 270) (n := 1) (rc := 6) (ml := 1) (nr := 0) (np := 25) (as := [x_r 69]) (rest := []) (lo1 := [x_r 69]) (by decide +kernel) (by decide) (by decide +kernel) (x_rb_of (by decide +kernel)) rfl rfl (x_wr (by decide) x_wn) x_wn (by decide) rfl ?_
    refine x_aload (np := 1) (x := 0) (by decide +kernel) rfl (x_nc_le (by decide)) ?_
    refine x_const (np := 2) (x := 9223372039002259456) (a := 2147483648) (by decide +kernel) (by decide) (by decide) ?_
    refine x_putI (np := 5) (x := 4878) (f := 14) (by decide +kernel) (by decide +kernel) (by decide) (Or.inr ⟨by decide, by first | decide | omega, by first | decide | omega⟩) ?_
    have j59 := jU (e := 14) (v := 2147483648) 0 j54 rg_69_14_0_1 (by first | decide | omega) (by first | decide | omega) (by first | decide | omega)
    have f61 := jF (e := 14) (v := 2147483648) 0 f56 rg_69_14_0_1 (by first | decide | omega) (by first | decide | omega) (by decide)
    generalize e60 : x_up h53 69 14 2147483648 = h58 at j59 f61 ⊢
    refine x_retV (np := 6) (x := 0) (by decide +kernel) (by decide +kernel) ⟨rfl, ?_⟩
    refine x_retV (np := 26) (x := 0) (by decide +kernel) (by decide +kernel) ⟨rfl, ?_⟩
    refine x_const (np := 25) (x := 9223372043297226753) (a := 2147483649) (by decide +kernel) (by decide) (by decide) ?_
    have q62 : h58 0 8 = h53 0 8 := by rw [← e60]; exact x_up_k (by decide)
    have q63 : h53 0 8 = h45 0 8 := by rw [← e55]; exact x_up_k (by decide)
    have q64 : h45 0 8 = h10 0 8 := f47 0 8 (by decide +kernel)
    have q65 : h10 0 8 = h 0 8 := f12 0 8 (by decide +kernel)
    have q66 : h58 0 9 = h53 0 9 := by rw [← e60]; exact x_up_k (by decide)
    have q67 : h53 0 9 = h45 0 9 := by rw [← e55]; exact x_up_k (by decide)
    have q68 : h45 0 9 = h10 0 9 := f47 0 9 (by decide +kernel)
    have q69 : h10 0 9 = h 0 9 := f12 0 9 (by decide +kernel)
    have t70 : tw (h 0 9) := hJ.2.2.1
    have m71 : ∀ j, svq h45 (h 0 8) j = svq h 3 j := Sq.fr c21 f47 (by decide) t5
    have m72 : ∀ j, svq h53 (h 0 8) j = svq h 3 j := by rw [← e55]; exact Sq.up m71 (tw_hi t5 (by decide))
    have m73 : ∀ j, svq h58 (h 0 8) j = svq h 3 j := by rw [← e60]; exact Sq.up m72 (tw_hi t5 (by decide))
    have m74 : ∀ i, tv h58 i = svq h 3 i := fun i => (congrArg (fun z => svq h58 z i) (((q62.trans q63).trans q64).trans q65)).trans (m73 i)
    have q75 : h58 0 8 = h53 0 8 := by rw [← e60]; exact x_up_k (by decide)
    have q76 : h53 0 8 = h45 0 8 := by rw [← e55]; exact x_up_k (by decide)
    have q77 : h45 0 8 = h10 0 8 := f47 0 8 (by decide +kernel)
    have q78 : h10 0 8 = h 0 8 := f12 0 8 (by decide +kernel)
    have q79 : h58 0 9 = h53 0 9 := by rw [← e60]; exact x_up_k (by decide)
    have q80 : h53 0 9 = h45 0 9 := by rw [← e55]; exact x_up_k (by decide)
    have q81 : h45 0 9 = h10 0 9 := f47 0 9 (by decide +kernel)
    have q82 : h10 0 9 = h 0 9 := f12 0 9 (by decide +kernel)
    have m83 : ∀ b, b < 6 → h53 46 b = al9 (xq h10 (h 0 8) b) := fun b hb => by rw [← e55, x_up_k (by decide)]; exact c50 b hb
    have m84 : ∀ b, b < 6 → h58 46 b = al9 (xq h10 (h 0 8) b) := fun b hb => by rw [← e60, x_up_k (by decide)]; exact m83 b hb
    have m85 : ∀ u, u < 6 → xq h58 (h 0 8) u = xq h10 (h 0 8) u := fun u hu => (Eq.trans (show xq h58 (h 0 8) u = xq h53 (h 0 8) u by rw [← e60]; exact xq_k (@nc_o (h 0 8) 9 69 t5 (by decide))) (Eq.trans (show xq h53 (h 0 8) u = xq h45 (h 0 8) u by rw [← e55]; exact xq_k (@nc_o (h 0 8) 9 63 t5 (by decide))) (xq_gr t5 f47 (by decide) u hu)))
    refine x_retI (np := 26) (x := 0) (by decide +kernel) (by decide) (Or.inr ⟨by decide +kernel, by first | decide | omega, by first | decide | omega⟩) ⟨_, rfl, (by decide), ?_⟩
    exact ⟨j59, f61, (by first | decide | omega), (by first | decide | omega), (fun _ => m74), (fun z => absurd z (by first | decide | omega)), (((q62.trans q63).trans q64).trans q65), (((q66.trans q67).trans q68).trans q69), (fun _ => (fun b hb => (m84 b hb).trans (congrArg al9 (((congrArg (fun z => svq h58 z (12 + b)) (((q75.trans q76).trans q77).trans q78)).trans (svq_x b hb)).trans (m85 b hb)).symm))), (fun z => absurd z (by first | decide | omega))⟩
  have q4 : ¬ ((h 0 10) ≠ 2147483648) := q4
  refine x_const (np := 8) (x := 9223372039002259456) (a := 2147483648) (by decide +kernel) (by decide) (by decide) ?_
  have t86 : tw (h 0 8) := hJ.2.1
  have t87 : tw (h 0 9) := hJ.2.2.1
  have m88 : ∀ i, tv h i = tv h i := fun i => (congrArg (fun z => svq h z i) rfl).trans ((fun _ => rfl) i)
  refine x_retI (np := 9) (x := 0) (by decide +kernel) (by decide) (Or.inr ⟨by decide +kernel, by first | decide | omega, by first | decide | omega⟩) ⟨_, rfl, (by decide), ?_⟩
  exact ⟨hJ, hF, (by first | decide | omega), (by first | decide | omega), (fun z => absurd z (by first | decide | omega)), (fun _ => m88), rfl, rfl, (fun z => absurd z (by first | decide | omega)), (fun _ => (fun _ _ => rfl))⟩
set_option maxHeartbeats 0 in
/-- LentNames$Calendar.refused()I -/
theorem c14_45 {sc : Nat × Nat} {d  : Nat} {h : xh} (hJ : J h) : X sc 14 d (xI fun r h' => h' = h ∧ (0 ≤ r ∧ r ≤ 4294967295)) 0 0 0 [x_r 45, 147573952589676412928, 147573952589676412928] [] h := by
  refine x_const (np := 1) (x := 9223372039002259456) (a := 2147483648) (by decide +kernel) (by decide) (by decide) ?_
  refine x_istore (np := 2) (x := 1) (lo' := [x_r 45, iv_c 2147483648, 147573952589676412928]) (by decide +kernel) (by decide) (Nat.le_of_ble_eq_true rfl) rfl ?_
  refine x_const (np := 3) (x := 9223372039002259456) (a := 2147483648) (by decide +kernel) (by decide) (by decide) ?_
  refine x_istore (np := 4) (x := 2) (lo' := [x_r 45, iv_c 2147483648, iv_c 2147483648]) (by decide +kernel) (by decide) (Nat.le_of_ble_eq_true rfl) rfl ?_
  have p505 : ∀ (n : Nat) (v501 : Nat) (v503 : Nat), 4294967296 - v503 < n → (0 ≤ v501 ∧ v501 ≤ 4294967295) → (2147483648 ≤ v503 ∧ v503 ≤ 2147483668) → X sc 14 d (xI fun r h' => h' = h ∧ (0 ≤ r ∧ r ≤ 4294967295)) 0 0 4 [x_r 45, iv_c v501, iv_c v503] [] h := by
    intro n
    induction n with
    | zero => intro v501 v503 q506; exact absurd q506 (Nat.not_lt_zero _)
    | succ n i507 =>
      intro v501 v503 q506 b502 b504
      refine x_iload (np := 5) (x := 2) (by decide +kernel) rfl (by first | decide | omega) ?_
      refine x_aload (np := 6) (x := 0) (by decide +kernel) rfl (x_nc_le (by decide)) ?_
      have t508 : tw (h 45 5) := hJ.2.2.2.1
      refine x_getR (np := 9) (x := 69) (f := 5) (q := (h 45 5)) (by decide +kernel) (by decide) (by decide +kernel) rfl ?_
      have q509 : h (h 45 5) 0 = ((h 45 5) + 1) := tf_0_0 hJ t508
      refine x_getR (np := 12) (x := 512) (f := 0) (q := ((h 45 5) + 1)) (by decide +kernel) (by decide) (tg_0_512_0_1 t508) q509 ?_
      have b510 := jB (e := 2) 0 hJ (rg_T1_2_0_1 t508) (by first | decide | omega) (by first | decide | omega)
      refine x_getC (np := 15) (x := 386) (f := 2) (q := (h ((h 45 5) + 1) 2)) (by decide +kernel) (by decide) (tg_1_386_2_0 t508) rfl (fun l511 => ?_)
      refine x_icmp (k := 3) (tg := 37) (np := 18) (by decide +kernel) (by decide) (by first | decide | omega) l511 (fun q512 => ?_) (fun q513 => ?_)
      · have q512 : (h ((h 45 5) + 1) 2) ≤ v503 := q512
        refine x_iload (np := 38) (x := 1) (by decide +kernel) rfl (by first | decide | omega) ?_
        refine x_retI (np := 39) (x := 0) (by decide +kernel) (by first | decide | omega) (Or.inl (by decide +kernel)) ⟨_, rfl, (by first | decide | omega), ?_⟩
        exact ⟨rfl, (by first | decide | omega)⟩
      have q513 : ¬ ((h ((h 45 5) + 1) 2) ≤ v503) := q513
      refine x_aload (np := 19) (x := 0) (by decide +kernel) rfl (x_nc_le (by decide)) ?_
      have q514 : h 45 2 = 48 := by have z := jB (e := 2) 0 hJ rg_45_2_0_1 (by decide) (by decide); omega
      refine x_getR (np := 22) (x := 66) (f := 2) (q := 48) (by decide +kernel) (by decide) (by decide +kernel) q514 ?_
      refine x_iload (np := 23) (x := 2) (by decide +kernel) rfl (by first | decide | omega) ?_
      obtain ⟨u515, q516⟩ : ∃ z, v503 = 2147483648 + z := ⟨v503 - 2147483648, by first | decide | omega⟩
      refine x_aldC (np := 24) (x := 0) (n := 20) (i := u515) (q := (h 48 u515)) (by decide +kernel) (by decide +kernel) (by first | decide | omega) (by first | decide | omega) (by decide) rfl (fun l517 => ?_)
      refine x_const (np := 25) (x := 9223372034707292159) (a := 2147483647) (by decide +kernel) (by decide) (by decide) ?_
      refine x_icmp (k := 1) (tg := 31) (np := 28) (by decide +kernel) (by decide) l517 (by decide) (fun q518 => ?_) (fun q519 => ?_)
      · have q518 : (h 48 u515) ≠ 2147483647 := q518
        refine x_iinc (np := 34) (i := 2) (j := 2147483649) (v := (1 + v503)) (lo' := [x_r 45, iv_c v501, iv_c (1 + v503)]) (by decide +kernel) (by decide) (by decide) rfl (by first | decide | omega) (by first | decide | omega) (by first | decide | omega) rfl ?_
        refine x_goto (np := 37) (x := 4) (by decide +kernel) ?_
        exact i507 v501 (1 + v503) (by first | decide | omega) (by first | decide | omega) (by first | decide | omega)
      have q519 : ¬ ((h 48 u515) ≠ 2147483647) := q519
      refine x_incA (i := 1) (n := 1) (by rw [tb_b14]; decide +kernel) rfl (by first | decide | omega) (fun v520 l521 => ?_)
      show X _ _ _ _ _ _ _ [x_r 45, iv_c v520, iv_c v503] _ _
      refine x_iinc (np := 34) (i := 2) (j := 2147483649) (v := (1 + v503)) (lo' := [x_r 45, iv_c v520, iv_c (1 + v503)]) (by decide +kernel) (by decide) (by decide) rfl (by first | decide | omega) (by first | decide | omega) (by first | decide | omega) rfl ?_
      refine x_goto (np := 37) (x := 4) (by decide +kernel) ?_
      exact i507 v520 (1 + v503) (by first | decide | omega) (by first | decide | omega) (by first | decide | omega)
  exact p505 _ 2147483648 2147483648 (Nat.lt_succ_self _) (by first | decide | omega) (by first | decide | omega)
