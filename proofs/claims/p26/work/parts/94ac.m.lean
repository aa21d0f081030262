/-! ===== methods ===== -/
set_option maxHeartbeats 0 in
/-- LentNames$Calendar.isGranted(III)Z -/
theorem c24_45 {sc : Nat × Nat} {d a1 a2 a3 : Nat} {h : xh} (hJ : J h) (ba1 : 2147483648 ≤ a1 ∧ a1 ≤ 2147483667) (ba2 : 2147483648 ≤ a2 ∧ a2 ≤ 2147483653) (ba3 : 2147483648 ≤ a3 ∧ a3 ≤ 2147483659) : X sc 24 (d + 3) (xI fun r h' => J h' ∧ Fr 140737488356353 h h' ∧ (2147483648 ≤ r ∧ r ≤ 2147483649)) 0 0 0 [x_r 45, iv_c a1, iv_c a2, iv_c a3, 147573952589676412928, 147573952589676412928] [] h := by
  have la1 : a1 < 4294967296 := by first | decide | omega
  have la2 : a2 < 4294967296 := by first | decide | omega
  have la3 : a3 < 4294967296 := by first | decide | omega
  have hF := Fr.refl 140737488356353 h
  refine x_aload (np := 1) (x := 0) (by decide +kernel) rfl (x_nc_le (by decide)) ?_
  refine x_iload (np := 2) (x := 2) (by decide +kernel) rfl la2 ?_
  refine x_cP (t := 6) (mj := 32) (n := 2) (rc := 2) (ml := 2) (nr := 0) (np := 5) (as := [x_r 45, iv_c a2]) (rest := []) (lo1 := [x_r 45, iv_c a2]) (by decide +kernel) (by decide) (by decide +kernel) (x_rb_of (by decide +kernel)) rfl rfl (x_wr (by decide) (x_wi la2 x_wn)) x_wn (by decide) rfl (c32_45 hJ  (by first | decide | omega)) (fun v1 l2 q3 => ?_)
  refine x_istore (np := 7) (x := 4) (lo' := [x_r 45, iv_c a1, iv_c a2, iv_c a3, iv_c v1, 147573952589676412928]) (by decide +kernel) l2 (Nat.le_of_ble_eq_true rfl) rfl ?_
  refine x_aload (np := 8) (x := 0) (by decide +kernel) rfl (x_nc_le (by decide)) ?_
  have t4 : tw (h 45 5) := hJ.2.2.2.1
  refine x_getR (np := 11) (x := 69) (f := 5) (q := (h 45 5)) (by decide +kernel) (by decide) (by decide +kernel) rfl ?_
  have q5 : h (h 45 5) 0 = ((h 45 5) + 1) := tf_0_0 hJ t4
  refine x_getR (np := 14) (x := 512) (f := 0) (q := ((h 45 5) + 1)) (by decide +kernel) (by decide) (tg_0_512_0_1 t4) q5 ?_
  refine x_iload (np := 15) (x := 1) (by decide +kernel) rfl la1 ?_
  refine x_const (np := 16) (x := 9223372043297226753) (a := 2147483649) (by decide +kernel) (by decide) (by decide) ?_
  refine x_cP (t := 6) (mj := 68) (n := 3) (rc := 7) (ml := 4) (nr := 0) (np := 19) (as := [x_r ((h 45 5) + 1), iv_c a1, iv_c 2147483649]) (rest := []) (lo1 := [x_r ((h 45 5) + 1), iv_c a1, iv_c 2147483649, 147573952589676412928]) (by decide +kernel) (by decide) (by decide +kernel) (x_rb_of (tr_1_7 t4)) rfl rfl (x_wr (tn_1 t4) (x_wi la1 (x_wi (by decide) x_wn))) x_wn (by decide) rfl (c68_T1_c1 hJ t4 (by first | decide | omega) ) (fun v7 l8 q9 => ?_)
  refine x_istore (np := 21) (x := 5) (lo' := [x_r 45, iv_c a1, iv_c a2, iv_c a3, iv_c v1, iv_c v7]) (by decide +kernel) l8 (Nat.le_of_ble_eq_true rfl) rfl ?_
  refine x_aload (np := 22) (x := 0) (by decide +kernel) rfl (x_nc_le (by decide)) ?_
  have q10 : h 45 13 = 58 := by have z := jB (e := 13) 0 hJ rg_45_13_0_1 (by decide) (by decide); omega
  refine x_getR (np := 25) (x := 77) (f := 13) (q := 58) (by decide +kernel) (by decide) (by decide +kernel) q10 ?_
  refine x_const (np := 26) (x := 9223372039002259456) (a := 2147483648) (by decide +kernel) (by decide) (by decide) ?_
  refine x_iload (np := 27) (x := 3) (by decide +kernel) rfl la3 ?_
  refine x_ast (np := 28) (x := 0) (kd := 1) (n := 8) (i := 0) (by decide +kernel) (Or.inl rfl) (by decide +kernel) (by first | decide | omega) (by first | decide | omega) (by decide) la3 (fun z => absurd z (by decide)) ?_
  have j12 := jU (e := 0) (v := a3) 0 hJ rg_58_0_1_8 (by first | decide | omega) (by first | decide | omega) (by first | decide | omega)
  have f14 := jF (e := 0) (v := a3) 0 hF rg_58_0_1_8 (by first | decide | omega) (by first | decide | omega) (by decide)
  generalize e13 : x_up h 58 0 a3 = h11 at j12 f14 ⊢
  refine x_aload (np := 29) (x := 0) (by decide +kernel) rfl (x_nc_le (by decide)) ?_
  have q15 : h11 45 13 = 58 := by have z := jB (e := 13) 0 j12 rg_45_13_0_1 (by decide) (by decide); omega
  refine x_getR (np := 32) (x := 77) (f := 13) (q := 58) (by decide +kernel) (by decide) (by decide +kernel) q15 ?_
  refine x_const (np := 33) (x := 9223372043297226753) (a := 2147483649) (by decide +kernel) (by decide) (by decide) ?_
  refine x_aload (np := 34) (x := 0) (by decide +kernel) rfl (x_nc_le (by decide)) ?_
  have q16 : h11 45 5 = h 45 5 := by rw [← e13]; exact x_up_k (by decide)
  refine x_getR (np := 37) (x := 69) (f := 5) (q := (h 45 5)) (by decide +kernel) (by decide) (by decide +kernel) q16 ?_
  have q17 : h11 (h 45 5) 0 = ((h 45 5) + 1) := tf_0_0 j12 t4
  refine x_getR (np := 40) (x := 512) (f := 0) (q := ((h 45 5) + 1)) (by decide +kernel) (by decide) (tg_0_512_0_1 t4) q17 ?_
  refine x_iload (np := 41) (x := 1) (by decide +kernel) rfl la1 ?_
  refine x_const (np := 42) (x := 9223372051887161347) (a := 2147483651) (by decide +kernel) (by decide) (by decide) ?_
  refine x_cP (t := 6) (mj := 68) (n := 3) (rc := 7) (ml := 4) (nr := 2) (np := 45) (as := [x_r ((h 45 5) + 1), iv_c a1, iv_c 2147483651]) (rest := [iv_c 2147483649, x_r 58]) (lo1 := [x_r ((h 45 5) + 1), iv_c a1, iv_c 2147483651, 147573952589676412928]) (by decide +kernel) (by decide) (by decide +kernel) (x_rb_of (tr_1_7 t4)) rfl rfl (x_wr (tn_1 t4) (x_wi la1 (x_wi (by decide) x_wn))) (x_wi (by decide) (x_wr (by decide) x_wn)) (by decide) rfl (c68_T1_c3 j12 t4 (by first | decide | omega) ) (fun v20 l21 q22 => ?_)
  refine x_ast (np := 46) (x := 0) (kd := 1) (n := 8) (i := 1) (by decide +kernel) (Or.inl rfl) (by decide +kernel) (by first | decide | omega) (by first | decide | omega) (by decide) l21 (fun z => absurd z (by decide)) ?_
  have j24 := jU (e := 1) (v := v20) 1 j12 rg_58_0_1_8 (by first | decide | omega) (by first | decide | omega) (by first | decide | omega)
  have f26 := jF (e := 1) (v := v20) 1 f14 rg_58_0_1_8 (by first | decide | omega) (by first | decide | omega) (by decide)
  generalize e25 : x_up h11 58 1 v20 = h23 at j24 f26 ⊢
  refine x_aload (np := 47) (x := 0) (by decide +kernel) rfl (x_nc_le (by decide)) ?_
  have q27 : h23 45 13 = 58 := by have z := jB (e := 13) 0 j24 rg_45_13_0_1 (by decide) (by decide); omega
  refine x_getR (np := 50) (x := 77) (f := 13) (q := 58) (by decide +kernel) (by decide) (by decide +kernel) q27 ?_
  refine x_const (np := 51) (x := 9223372047592194050) (a := 2147483650) (by decide +kernel) (by decide) (by decide) ?_
  refine x_aload (np := 52) (x := 0) (by decide +kernel) rfl (x_nc_le (by decide)) ?_
  have q28 : h23 45 5 = h11 45 5 := by rw [← e25]; exact x_up_k (by decide)
  have q29 : h11 45 5 = h 45 5 := by rw [← e13]; exact x_up_k (by decide)
  refine x_getR (np := 55) (x := 69) (f := 5) (q := (h 45 5)) (by decide +kernel) (by decide) (by decide +kernel) (q28.trans q29) ?_
  have q30 : h23 (h 45 5) 0 = ((h 45 5) + 1) := tf_0_0 j24 t4
  refine x_getR (np := 58) (x := 512) (f := 0) (q := ((h 45 5) + 1)) (by decide +kernel) (by decide) (tg_0_512_0_1 t4) q30 ?_
  refine x_iload (np := 59) (x := 1) (by decide +kernel) rfl la1 ?_
  refine x_const (np := 60) (x := 9223372060477095941) (a := 2147483653) (by decide +kernel) (by decide) (by decide) ?_
  refine x_cP (t := 6) (mj := 68) (n := 3) (rc := 7) (ml := 4) (nr := 2) (np := 63) (as := [x_r ((h 45 5) + 1), iv_c a1, iv_c 2147483653]) (rest := [iv_c 2147483650, x_r 58]) (lo1 := [x_r ((h 45 5) + 1), iv_c a1, iv_c 2147483653, 147573952589676412928]) (by decide +kernel) (by decide) (by decide +kernel) (x_rb_of (tr_1_7 t4)) rfl rfl (x_wr (tn_1 t4) (x_wi la1 (x_wi (by decide) x_wn))) (x_wi (by decide) (x_wr (by decide) x_wn)) (by decide) rfl (c68_T1_c5 j24 t4 (by first | decide | omega) ) (fun v34 l35 q36 => ?_)
  refine x_ast (np := 64) (x := 0) (kd := 1) (n := 8) (i := 2) (by decide +kernel) (Or.inl rfl) (by decide +kernel) (by first | decide | omega) (by first | decide | omega) (by decide) l35 (fun z => absurd z (by decide)) ?_
  have j38 := jU (e := 2) (v := v34) 2 j24 rg_58_0_1_8 (by first | decide | omega) (by first | decide | omega) (by first | decide | omega)
  have f40 := jF (e := 2) (v := v34) 2 f26 rg_58_0_1_8 (by first | decide | omega) (by first | decide | omega) (by decide)
  generalize e39 : x_up h23 58 2 v34 = h37 at j38 f40 ⊢
  refine x_aload (np := 65) (x := 0) (by decide +kernel) rfl (x_nc_le (by decide)) ?_
  have q41 : h37 45 13 = 58 := by have z := jB (e := 13) 0 j38 rg_45_13_0_1 (by decide) (by decide); omega
  refine x_getR (np := 68) (x := 77) (f := 13) (q := 58) (by decide +kernel) (by decide) (by decide +kernel) q41 ?_
  refine x_const (np := 69) (x := 9223372051887161347) (a := 2147483651) (by decide +kernel) (by decide) (by decide) ?_
  refine x_aload (np := 70) (x := 0) (by decide +kernel) rfl (x_nc_le (by decide)) ?_
  have q42 : h37 45 12 = 57 := by have z := jB (e := 12) 0 j38 rg_45_12_0_1 (by decide) (by decide); omega
  refine x_getR (np := 73) (x := 76) (f := 12) (q := 57) (by decide +kernel) (by decide) (by decide +kernel) q42 ?_
  refine x_iload (np := 74) (x := 2) (by decide +kernel) rfl la2 ?_
  obtain ⟨u43, q44⟩ : ∃ z, a2 = 2147483648 + z := ⟨a2 - 2147483648, by first | decide | omega⟩
  have q45 : h37 57 u43 = h23 57 u43 := by rw [← e39]; exact x_up_k (by decide)
  have q46 : h23 57 u43 = h11 57 u43 := by rw [← e25]; exact x_up_k (by decide)
  have q47 : h11 57 u43 = h 57 u43 := by rw [← e13]; exact x_up_k (by decide)
  have b48 := jB (e := u43) u43 hJ rg_57_0_1_6 (by first | decide | omega) (by first | decide | omega)
  refine x_aldC (np := 75) (x := 0) (n := 6) (i := u43) (q := (h 57 u43)) (by decide +kernel) (by decide +kernel) (by first | decide | omega) (by first | decide | omega) (by decide) ((q45.trans q46).trans q47) (fun l49 => ?_)
  refine x_ast (np := 76) (x := 0) (kd := 1) (n := 8) (i := 3) (by decide +kernel) (Or.inl rfl) (by decide +kernel) (by first | decide | omega) (by first | decide | omega) (by decide) l49 (fun z => absurd z (by decide)) ?_
  have j51 := jU (e := 3) (v := (h 57 u43)) 3 j38 rg_58_0_1_8 (by first | decide | omega) (by first | decide | omega) (by first | decide | omega)
  have f53 := jF (e := 3) (v := (h 57 u43)) 3 f40 rg_58_0_1_8 (by first | decide | omega) (by first | decide | omega) (by decide)
  generalize e52 : x_up h37 58 3 (h 57 u43) = h50 at j51 f53 ⊢
  refine x_aload (np := 77) (x := 0) (by decide +kernel) rfl (x_nc_le (by decide)) ?_
  have q54 : h50 45 13 = 58 := by have z := jB (e := 13) 0 j51 rg_45_13_0_1 (by decide) (by decide); omega
  refine x_getR (np := 80) (x := 77) (f := 13) (q := 58) (by decide +kernel) (by decide) (by decide +kernel) q54 ?_
  refine x_const (np := 81) (x := 9223372056182128644) (a := 2147483652) (by decide +kernel) (by decide) (by decide) ?_
  refine x_aload (np := 82) (x := 0) (by decide +kernel) rfl (x_nc_le (by decide)) ?_
  refine x_iload (np := 84) (x := 4) (by decide +kernel) rfl l2 ?_
  refine x_cP (t := 6) (mj := 25) (n := 2) (rc := 2) (ml := 4) (nr := 2) (np := 87) (as := [x_r 45, iv_c v1]) (rest := [iv_c 2147483652, x_r 58]) (lo1 := [x_r 45, iv_c v1, 147573952589676412928, 147573952589676412928]) (by decide +kernel) (by decide) (by decide +kernel) (x_rb_of (by decide +kernel)) rfl rfl (x_wr (by decide) (x_wi l2 x_wn)) (x_wi (by decide) (x_wr (by decide) x_wn)) (by decide) rfl (c25_45 j51  (by first | decide | omega)) (fun v55 l56 q57 => ?_)
  refine x_ast (np := 88) (x := 0) (kd := 1) (n := 8) (i := 4) (by decide +kernel) (Or.inl rfl) (by decide +kernel) (by first | decide | omega) (by first | decide | omega) (by decide) l56 (fun z => absurd z (by decide)) ?_
  have j59 := jU (e := 4) (v := v55) 4 j51 rg_58_0_1_8 (by first | decide | omega) (by first | decide | omega) (by first | decide | omega)
  have f61 := jF (e := 4) (v := v55) 4 f53 rg_58_0_1_8 (by first | decide | omega) (by first | decide | omega) (by decide)
  generalize e60 : x_up h50 58 4 v55 = h58 at j59 f61 ⊢
  refine x_aload (np := 89) (x := 0) (by decide +kernel) rfl (x_nc_le (by decide)) ?_
  have q62 : h58 45 13 = 58 := by have z := jB (e := 13) 0 j59 rg_45_13_0_1 (by decide) (by decide); omega
  refine x_getR (np := 92) (x := 77) (f := 13) (q := 58) (by decide +kernel) (by decide) (by decide +kernel) q62 ?_
  refine x_const (np := 93) (x := 9223372060477095941) (a := 2147483653) (by decide +kernel) (by decide) (by decide) ?_
  refine x_aload (np := 94) (x := 0) (by decide +kernel) rfl (x_nc_le (by decide)) ?_
  refine x_iload (np := 96) (x := 5) (by decide +kernel) rfl l8 ?_
  refine x_cP (t := 6) (mj := 25) (n := 2) (rc := 2) (ml := 4) (nr := 2) (np := 99) (as := [x_r 45, iv_c v7]) (rest := [iv_c 2147483653, x_r 58]) (lo1 := [x_r 45, iv_c v7, 147573952589676412928, 147573952589676412928]) (by decide +kernel) (by decide) (by decide +kernel) (x_rb_of (by decide +kernel)) rfl rfl (x_wr (by decide) (x_wi l8 x_wn)) (x_wi (by decide) (x_wr (by decide) x_wn)) (by decide) rfl (c25_45 j59  (by first | decide | omega)) (fun v63 l64 q65 => ?_)
  refine x_ast (np := 100) (x := 0) (kd := 1) (n := 8) (i := 5) (by decide +kernel) (Or.inl rfl) (by decide +kernel) (by first | decide | omega) (by first | decide | omega) (by decide) l64 (fun z => absurd z (by decide)) ?_
  have j67 := jU (e := 5) (v := v63) 5 j59 rg_58_0_1_8 (by first | decide | omega) (by first | decide | omega) (by first | decide | omega)
  have f69 := jF (e := 5) (v := v63) 5 f61 rg_58_0_1_8 (by first | decide | omega) (by first | decide | omega) (by decide)
  generalize e68 : x_up h58 58 5 v63 = h66 at j67 f69 ⊢
  refine x_aload (np := 101) (x := 0) (by decide +kernel) rfl (x_nc_le (by decide)) ?_
  have q70 : h66 45 13 = 58 := by have z := jB (e := 13) 0 j67 rg_45_13_0_1 (by decide) (by decide); omega
  refine x_getR (np := 104) (x := 77) (f := 13) (q := 58) (by decide +kernel) (by decide) (by decide +kernel) q70 ?_
  refine x_const (np := 106) (x := 9223372064772063238) (a := 2147483654) (by decide +kernel) (by decide) (by decide) ?_
  refine x_iload (np := 108) (x := 4) (by decide +kernel) rfl l2 ?_
  refine x_iload (np := 109) (x := 2) (by decide +kernel) rfl la2 ?_
  refine x_icmp (k := 1) (tg := 116) (np := 112) (by decide +kernel) (by decide) l2 la2 (fun q71 => ?_) (fun q72 => ?_)
  · have q71 : v1 ≠ a2 := q71
    refine x_const (np := 117) (x := 9223372039002259456) (a := 2147483648) (by decide +kernel) (by decide) (by decide) ?_
    refine x_ast (np := 118) (x := 0) (kd := 1) (n := 8) (i := 6) (by decide +kernel) (Or.inl rfl) (by decide +kernel) (by first | decide | omega) (by first | decide | omega) (by decide) (by decide) (fun z => absurd z (by decide)) ?_
    have j74 := jU (e := 6) (v := 2147483648) 6 j67 rg_58_0_1_8 (by first | decide | omega) (by first | decide | omega) (by first | decide | omega)
    have f76 := jF (e := 6) (v := 2147483648) 6 f69 rg_58_0_1_8 (by first | decide | omega) (by first | decide | omega) (by decide)
    generalize e75 : x_up h66 58 6 2147483648 = h73 at j74 f76 ⊢
    refine x_aload (np := 119) (x := 0) (by decide +kernel) rfl (x_nc_le (by decide)) ?_
    have q77 : h73 45 13 = 58 := by have z := jB (e := 13) 0 j74 rg_45_13_0_1 (by decide) (by decide); omega
    refine x_getR (np := 122) (x := 77) (f := 13) (q := 58) (by decide +kernel) (by decide) (by decide +kernel) q77 ?_
    refine x_const (np := 124) (x := 9223372069067030535) (a := 2147483655) (by decide +kernel) (by decide) (by decide) ?_
    refine x_iload (np := 126) (x := 5) (by decide +kernel) rfl l8 ?_
    refine x_iload (np := 127) (x := 2) (by decide +kernel) rfl la2 ?_
    refine x_icmp (k := 1) (tg := 134) (np := 130) (by decide +kernel) (by decide) l8 la2 (fun q78 => ?_) (fun q79 => ?_)
    · have q78 : v7 ≠ a2 := q78
      refine x_const (np := 135) (x := 9223372039002259456) (a := 2147483648) (by decide +kernel) (by decide) (by decide) ?_
      refine x_ast (np := 136) (x := 0) (kd := 1) (n := 8) (i := 7) (by decide +kernel) (Or.inl rfl) (by decide +kernel) (by first | decide | omega) (by first | decide | omega) (by decide) (by decide) (fun z => absurd z (by decide)) ?_
      have j81 := jU (e := 7) (v := 2147483648) 7 j74 rg_58_0_1_8 (by first | decide | omega) (by first | decide | omega) (by first | decide | omega)
      have f83 := jF (e := 7) (v := 2147483648) 7 f76 rg_58_0_1_8 (by first | decide | omega) (by first | decide | omega) (by decide)
      generalize e82 : x_up h73 58 7 2147483648 = h80 at j81 f83 ⊢
      refine x_aload (np := 137) (x := 0) (by decide +kernel) rfl (x_nc_le (by decide)) ?_
      have q84 : h80 45 5 = h73 45 5 := by rw [← e82]; exact x_up_k (by decide)
      have q85 : h73 45 5 = h66 45 5 := by rw [← e75]; exact x_up_k (by decide)
      have q86 : h66 45 5 = h58 45 5 := by rw [← e68]; exact x_up_k (by decide)
      have q87 : h58 45 5 = h50 45 5 := by rw [← e60]; exact x_up_k (by decide)
      have q88 : h50 45 5 = h37 45 5 := by rw [← e52]; exact x_up_k (by decide)
      have q89 : h37 45 5 = h23 45 5 := by rw [← e39]; exact x_up_k (by decide)
      have q90 : h23 45 5 = h11 45 5 := by rw [← e25]; exact x_up_k (by decide)
      have q91 : h11 45 5 = h 45 5 := by rw [← e13]; exact x_up_k (by decide)
      refine x_getR (np := 140) (x := 69) (f := 5) (q := (h 45 5)) (by decide +kernel) (by decide) (by decide +kernel) (((((((q84.trans q85).trans q86).trans q87).trans q88).trans q89).trans q90).trans q91) ?_
      have q92 : h80 (h 45 5) 6 = ((h 45 5) + 11) := tf_0_6 j81 t4
      refine x_getR (np := 143) (x := 518) (f := 6) (q := ((h 45 5) + 11)) (by decide +kernel) (by decide) (tg_0_518_6_1 t4) q92 ?_
      refine x_aload (np := 144) (x := 0) (by decide +kernel) rfl (x_nc_le (by decide)) ?_
      have q93 : h80 45 13 = 58 := by have z := jB (e := 13) 0 j81 rg_45_13_0_1 (by decide) (by decide); omega
      refine x_getR (np := 147) (x := 77) (f := 13) (q := 58) (by decide +kernel) (by decide) (by decide +kernel) q93 ?_
      refine x_cI (t := 6) (mj := 38) (n := 2) (rc := 3) (ml := 4) (nr := 0) (np := 150) (as := [x_r ((h 45 5) + 11), x_r 58]) (rest := []) (lo1 := [x_r ((h 45 5) + 11), x_r 58, 147573952589676412928, 147573952589676412928]) (by decide +kernel) (by decide) (by decide +kernel) (x_rb_of (tr_11_3 t4)) rfl rfl (x_wr (tn_11 t4) (x_wr (by decide) x_wn)) x_wn (by decide) rfl (c38_T11_58 j81 t4 ) (fun v94 h97 l95 q96 => ?_)
      obtain ⟨j98, f99, b100⟩ := q96
      have f101 := Fr.trans f83 f99 (by decide)
      refine x_retI (np := 151) (x := 0) (by decide +kernel) l95 (Or.inr ⟨by decide +kernel, by first | decide | omega, by first | decide | omega⟩) ⟨_, rfl, l95, ?_⟩
      exact ⟨j98, f101, (by first | decide | omega)⟩
    have q79 : ¬ (v7 ≠ a2) := q79
    refine x_const (np := 131) (x := 9223372043297226753) (a := 2147483649) (by decide +kernel) (by decide) (by decide) ?_
    refine x_goto (np := 134) (x := 135) (by decide +kernel) ?_
    refine x_ast (np := 136) (x := 0) (kd := 1) (n := 8) (i := 7) (by decide +kernel) (Or.inl rfl) (by decide +kernel) (by first | decide | omega) (by first | decide | omega) (by decide) (by decide) (fun z => absurd z (by decide)) ?_
    have j103 := jU (e := 7) (v := 2147483649) 7 j74 rg_58_0_1_8 (by first | decide | omega) (by first | decide | omega) (by first | decide | omega)
    have f105 := jF (e := 7) (v := 2147483649) 7 f76 rg_58_0_1_8 (by first | decide | omega) (by first | decide | omega) (by decide)
    generalize e104 : x_up h73 58 7 2147483649 = h102 at j103 f105 ⊢
    refine x_aload (np := 137) (x := 0) (by decide +kernel) rfl (x_nc_le (by decide)) ?_
    have q106 : h102 45 5 = h73 45 5 := by rw [← e104]; exact x_up_k (by decide)
    have q107 : h73 45 5 = h66 45 5 := by rw [← e75]; exact x_up_k (by decide)
    have q108 : h66 45 5 = h58 45 5 := by rw [← e68]; exact x_up_k (by decide)
    have q109 : h58 45 5 = h50 45 5 := by rw [← e60]; exact x_up_k (by decide)
    have q110 : h50 45 5 = h37 45 5 := by rw [← e52]; exact x_up_k (by decide)
    have q111 : h37 45 5 = h23 45 5 := by rw [← e39]; exact x_up_k (by decide)
    have q112 : h23 45 5 = h11 45 5 := by rw [← e25]; exact x_up_k (by decide)
    have q113 : h11 45 5 = h 45 5 := by rw [← e13]; exact x_up_k (by decide)
    refine x_getR (np := 140) (x := 69) (f := 5) (q := (h 45 5)) (by decide +kernel) (by decide) (by decide +kernel) (((((((q106.trans q107).trans q108).trans q109).trans q110).trans q111).trans q112).trans q113) ?_
    have q114 : h102 (h 45 5) 6 = ((h 45 5) + 11) := tf_0_6 j103 t4
    refine x_getR (np := 143) (x := 518) (f := 6) (q := ((h 45 5) + 11)) (by decide +kernel) (by decide) (tg_0_518_6_1 t4) q114 ?_
    refine x_aload (np := 144) (x := 0) (by decide +kernel) rfl (x_nc_le (by decide)) ?_
    have q115 : h102 45 13 = 58 := by have z := jB (e := 13) 0 j103 rg_45_13_0_1 (by decide) (by decide); omega
    refine x_getR (np := 147) (x := 77) (f := 13) (q := 58) (by decide +kernel) (by decide) (by decide +kernel) q115 ?_
    refine x_cI (t := 6) (mj := 38) (n := 2) (rc := 3) (ml := 4) (nr := 0) (np := 150) (as := [x_r ((h 45 5) + 11), x_r 58]) (rest := []) (lo1 := [x_r ((h 45 5) + 11), x_r 58, 147573952589676412928, 147573952589676412928]) (by decide +kernel) (by decide) (by decide +kernel) (x_rb_of (tr_11_3 t4)) rfl rfl (x_wr (tn_11 t4) (x_wr (by decide) x_wn)) x_wn (by decide) rfl (c38_T11_58 j103 t4 ) (fun v116 h119 l117 q118 => ?_)
    obtain ⟨j120, f121, b122⟩ := q118
    have f123 := Fr.trans f105 f121 (by decide)
    refine x_retI (np := 151) (x := 0) (by decide +kernel) l117 (Or.inr ⟨by decide +kernel, by first | decide | omega, by first | decide | omega⟩) ⟨_, rfl, l117, ?_⟩
    exact ⟨j120, f123, (by first | decide | omega)⟩
  have q72 : ¬ (v1 ≠ a2) := q72
  refine x_const (np := 113) (x := 9223372043297226753) (a := 2147483649) (by decide +kernel) (by decide) (by decide) ?_
  refine x_goto (np := 116) (x := 117) (by decide +kernel) ?_
  refine x_ast (np := 118) (x := 0) (kd := 1) (n := 8) (i := 6) (by decide +kernel) (Or.inl rfl) (by decide +kernel) (by first | decide | omega) (by first | decide | omega) (by decide) (by decide) (fun z => absurd z (by decide)) ?_
  have j125 := jU (e := 6) (v := 2147483649) 6 j67 rg_58_0_1_8 (by first | decide | omega) (by first | decide | omega) (by first | decide | omega)
  have f127 := jF (e := 6) (v := 2147483649) 6 f69 rg_58_0_1_8 (by first | decide | omega) (by first | decide | omega) (by decide)
  generalize e126 : x_up h66 58 6 2147483649 = h124 at j125 f127 ⊢
  refine x_aload (np := 119) (x := 0) (by decide +kernel) rfl (x_nc_le (by decide)) ?_
  have q128 : h124 45 13 = 58 := by have z := jB (e := 13) 0 j125 rg_45_13_0_1 (by decide) (by decide); omega
  refine x_getR (np := 122) (x := 77) (f := 13) (q := 58) (by decide +kernel) (by decide) (by decide +kernel) q128 ?_
  refine x_const (np := 124) (x := 9223372069067030535) (a := 2147483655) (by decide +kernel) (by decide) (by decide) ?_
  refine x_iload (np := 126) (x := 5) (by decide +kernel) rfl l8 ?_
  refine x_iload (np := 127) (x := 2) (by decide +kernel) rfl la2 ?_
  refine x_icmp (k := 1) (tg := 134) (np := 130) (by decide +kernel) (by decide) l8 la2 (fun q129 => ?_) (fun q130 => ?_)
  · have q129 : v7 ≠ a2 := q129
    refine x_const (np := 135) (x := 9223372039002259456) (a := 2147483648) (by decide +kernel) (by decide) (by decide) ?_
    refine x_ast (np := 136) (x := 0) (kd := 1) (n := 8) (i := 7) (by decide +kernel) (Or.inl rfl) (by decide +kernel) (by first | decide | omega) (by first | decide | omega) (by decide) (by decide) (fun z => absurd z (by decide)) ?_
    have j132 := jU (e := 7) (v := 2147483648) 7 j125 rg_58_0_1_8 (by first | decide | omega) (by first | decide | omega) (by first | decide | omega)
    have f134 := jF (e := 7) (v := 2147483648) 7 f127 rg_58_0_1_8 (by first | decide | omega) (by first | decide | omega) (by decide)
    generalize e133 : x_up h124 58 7 2147483648 = h131 at j132 f134 ⊢
    refine x_aload (np := 137) (x := 0) (by decide +kernel) rfl (x_nc_le (by decide)) ?_
    have q135 : h131 45 5 = h124 45 5 := by rw [← e133]; exact x_up_k (by decide)
    have q136 : h124 45 5 = h66 45 5 := by rw [← e126]; exact x_up_k (by decide)
    have q137 : h66 45 5 = h58 45 5 := by rw [← e68]; exact x_up_k (by decide)
    have q138 : h58 45 5 = h50 45 5 := by rw [← e60]; exact x_up_k (by decide)
    have q139 : h50 45 5 = h37 45 5 := by rw [← e52]; exact x_up_k (by decide)
    have q140 : h37 45 5 = h23 45 5 := by rw [← e39]; exact x_up_k (by decide)
    have q141 : h23 45 5 = h11 45 5 := by rw [← e25]; exact x_up_k (by decide)
    have q142 : h11 45 5 = h 45 5 := by rw [← e13]; exact x_up_k (by decide)
    refine x_getR (np := 140) (x := 69) (f := 5) (q := (h 45 5)) (by decide +kernel) (by decide) (by decide +kernel) (((((((q135.trans q136).trans q137).trans q138).trans q139).trans q140).trans q141).trans q142) ?_
    have q143 : h131 (h 45 5) 6 = ((h 45 5) + 11) := tf_0_6 j132 t4
    refine x_getR (np := 143) (x := 518) (f := 6) (q := ((h 45 5) + 11)) (by decide +kernel) (by decide) (tg_0_518_6_1 t4) q143 ?_
    refine x_aload (np := 144) (x := 0) (by decide +kernel) rfl (x_nc_le (by decide)) ?_
    have q144 : h131 45 13 = 58 := by have z := jB (e := 13) 0 j132 rg_45_13_0_1 (by decide) (by decide); omega
    refine x_getR (np := 147) (x := 77) (f := 13) (q := 58) (by decide +kernel) (by decide) (by decide +kernel) q144 ?_
    refine x_cI (t := 6) (mj := 38) (n := 2) (rc := 3) (ml := 4) (nr := 0) (np := 150) (as := [x_r ((h 45 5) + 11), x_r 58]) (rest := []) (lo1 := [x_r ((h 45 5) + 11), x_r 58, 147573952589676412928, 147573952589676412928]) (by decide +kernel) (by decide) (by decide +kernel) (x_rb_of (tr_11_3 t4)) rfl rfl (x_wr (tn_11 t4) (x_wr (by decide) x_wn)) x_wn (by decide) rfl (c38_T11_58 j132 t4 ) (fun v145 h148 l146 q147 => ?_)
    obtain ⟨j149, f150, b151⟩ := q147
    have f152 := Fr.trans f134 f150 (by decide)
    refine x_retI (np := 151) (x := 0) (by decide +kernel) l146 (Or.inr ⟨by decide +kernel, by first | decide | omega, by first | decide | omega⟩) ⟨_, rfl, l146, ?_⟩
    exact ⟨j149, f152, (by first | decide | omega)⟩
  have q130 : ¬ (v7 ≠ a2) := q130
  refine x_const (np := 131) (x := 9223372043297226753) (a := 2147483649) (by decide +kernel) (by decide) (by decide) ?_
  refine x_goto (np := 134) (x := 135) (by decide +kernel) ?_
  refine x_ast (np := 136) (x := 0) (kd := 1) (n := 8) (i := 7) (by decide +kernel) (Or.inl rfl) (by decide +kernel) (by first | decide | omega) (by first | decide | omega) (by decide) (by decide) (fun z => absurd z (by decide)) ?_
  have j154 := jU (e := 7) (v := 2147483649) 7 j125 rg_58_0_1_8 (by first | decide | omega) (by first | decide | omega) (by first | decide | omega)
  have f156 := jF (e := 7) (v := 2147483649) 7 f127 rg_58_0_1_8 (by first | decide | omega) (by first | decide | omega) (by decide)
  generalize e155 : x_up h124 58 7 2147483649 = h153 at j154 f156 ⊢
  refine x_aload (np := 137) (x := 0) (by decide +kernel) rfl (x_nc_le (by decide)) ?_
  have q157 : h153 45 5 = h124 45 5 := by rw [← e155]; exact x_up_k (by decide)
  have q158 : h124 45 5 = h66 45 5 := by rw [← e126]; exact x_up_k (by decide)
  have q159 : h66 45 5 = h58 45 5 := by rw [← e68]; exact x_up_k (by decide)
  have q160 : h58 45 5 = h50 45 5 := by rw [← e60]; exact x_up_k (by decide)
  have q161 : h50 45 5 = h37 45 5 := by rw [← e52]; exact x_up_k (by decide)
  have q162 : h37 45 5 = h23 45 5 := by rw [← e39]; exact x_up_k (by decide)
  have q163 : h23 45 5 = h11 45 5 := by rw [← e25]; exact x_up_k (by decide)
  have q164 : h11 45 5 = h 45 5 := by rw [← e13]; exact x_up_k (by decide)
  refine x_getR (np := 140) (x := 69) (f := 5) (q := (h 45 5)) (by decide +kernel) (by decide) (by decide +kernel) (((((((q157.trans q158).trans q159).trans q160).trans q161).trans q162).trans q163).trans q164) ?_
  have q165 : h153 (h 45 5) 6 = ((h 45 5) + 11) := tf_0_6 j154 t4
  refine x_getR (np := 143) (x := 518) (f := 6) (q := ((h 45 5) + 11)) (by decide +kernel) (by decide) (tg_0_518_6_1 t4) q165 ?_
  refine x_aload (np := 144) (x := 0) (by decide +kernel) rfl (x_nc_le (by decide)) ?_
  have q166 : h153 45 13 = 58 := by have z := jB (e := 13) 0 j154 rg_45_13_0_1 (by decide) (by decide); omega
  refine x_getR (np := 147) (x := 77) (f := 13) (q := 58) (by decide +kernel) (by decide) (by decide +kernel) q166 ?_
  refine x_cI (t := 6) (mj := 38) (n := 2) (rc := 3) (ml := 4) (nr := 0) (np := 150) (as := [x_r ((h 45 5) + 11), x_r 58]) (rest := []) (lo1 := [x_r ((h 45 5) + 11), x_r 58, 147573952589676412928, 147573952589676412928]) (by decide +kernel) (by decide) (by decide +kernel) (x_rb_of (tr_11_3 t4)) rfl rfl (x_wr (tn_11 t4) (x_wr (by decide) x_wn)) x_wn (by decide) rfl (c38_T11_58 j154 t4 ) (fun v167 h170 l168 q169 => ?_)
  obtain ⟨j171, f172, b173⟩ := q169
  have f174 := Fr.trans f156 f172 (by decide)
  refine x_retI (np := 151) (x := 0) (by decide +kernel) l168 (Or.inr ⟨by decide +kernel, by first | decide | omega, by first | decide | omega⟩) ⟨_, rfl, l168, ?_⟩
  exact ⟨j171, f174, (by first | decide | omega)⟩
set_option maxHeartbeats 0 in
/-- LentNames$Table.at(II)I -/
theorem c68_T1_c4 {sc : Nat × Nat} {d ra0 a1 : Nat} {h : xh} (hJ : J h) (ta0 : tw ra0) (ba1 : 2147483648 ≤ a1 ∧ a1 ≤ 2147483667) : X sc 68 d (xI fun r h' => h' = h ∧ (0 ≤ r ∧ r ≤ 4294967295)) 0 0 0 [x_r (ra0 + 1), iv_c a1, iv_c 2147483652, 147573952589676412928] [] h := by
  have la1 : a1 < 4294967296 := by first | decide | omega
  refine x_iload (np := 1) (x := 1) (by decide +kernel) rfl la1 ?_
  refine x_ifz (k := 2) (tg := 28) (np := 4) (by decide +kernel) (by decide) la1 (fun q1 => ?_) (fun q2 => ?_)
  · have q1 : a1 < 2147483648 := q1
    exfalso; omega
  have q2 : ¬ (a1 < 2147483648) := q2
  refine x_iload (np := 5) (x := 1) (by decide +kernel) rfl la1 ?_
  refine x_aload (np := 6) (x := 0) (by decide +kernel) rfl (x_nc_le (tn_1 ta0)) ?_
  have b3 := jB (e := 2) 0 hJ (rg_T1_2_0_1 ta0) (by first | decide | omega) (by first | decide | omega)
  refine x_getC (np := 9) (x := 386) (f := 2) (q := (h (ra0 + 1) 2)) (by decide +kernel) (by decide) (tg_1_386_2_0 ta0) rfl (fun l4 => ?_)
  refine x_icmp (k := 3) (tg := 28) (np := 12) (by decide +kernel) (by decide) la1 l4 (fun q5 => ?_) (fun q6 => ?_)
  · have q5 : (h (ra0 + 1) 2) ≤ a1 := q5
    refine x_const (np := 29) (x := 9223372039002259456) (a := 2147483648) (by decide +kernel) (by decide) (by decide) ?_
    refine x_istore (np := 30) (x := 3) (lo' := [x_r (ra0 + 1), iv_c a1, iv_c 2147483652, iv_c 2147483648]) (by decide +kernel) (by decide) (Nat.le_of_ble_eq_true rfl) rfl ?_
    refine x_iload (np := 31) (x := 3) (by decide +kernel) rfl (by decide) ?_
    refine x_ifz (k := 0) (tg := 50) (np := 34) (by decide +kernel) (by decide) (by decide) (fun q7 => ?_) (fun q8 => ?_)
    · have q7 : 2147483648 = 2147483648 := q7
      refine x_const (np := 51) (x := 9223372034707292159) (a := 2147483647) (by decide +kernel) (by decide) (by decide) ?_
      refine x_retI (np := 52) (x := 0) (by decide +kernel) (by decide) (Or.inl (by decide +kernel)) ⟨_, rfl, (by decide), ?_⟩
      exact ⟨rfl, (by first | decide | omega)⟩
    have q8 : ¬ (2147483648 = 2147483648) := q8
    exfalso; omega
  have q6 : ¬ ((h (ra0 + 1) 2) ≤ a1) := q6
  refine x_iload (np := 13) (x := 2) (by decide +kernel) rfl (by decide) ?_
  refine x_ifz (k := 2) (tg := 28) (np := 16) (by decide +kernel) (by decide) (by decide) (fun q9 => ?_) (fun q10 => ?_)
  · have q9 : 2147483652 < 2147483648 := q9
    exfalso; omega
  have q10 : ¬ (2147483652 < 2147483648) := q10
  refine x_iload (np := 17) (x := 2) (by decide +kernel) rfl (by decide) ?_
  refine x_aload (np := 18) (x := 0) (by decide +kernel) rfl (x_nc_le (tn_1 ta0)) ?_
  have b11 := jB (e := 0) 0 hJ (rg_T1_0_0_1 ta0) (by first | decide | omega) (by first | decide | omega)
  have q12 : (h (ra0 + 1) 0) = 2147483655 := by first | decide | omega
  refine x_getC (np := 21) (x := 384) (f := 0) (q := 2147483655) (by decide +kernel) (by decide) (tg_1_384_0_0 ta0) q12 (fun l13 => ?_)
  refine x_icmp (k := 3) (tg := 28) (np := 24) (by decide +kernel) (by decide) (by decide) (by decide) (fun q14 => ?_) (fun q15 => ?_)
  · have q14 : 2147483655 ≤ 2147483652 := q14
    exfalso; omega
  have q15 : ¬ (2147483655 ≤ 2147483652) := q15
  refine x_const (np := 25) (x := 9223372043297226753) (a := 2147483649) (by decide +kernel) (by decide) (by decide) ?_
  refine x_goto (np := 28) (x := 29) (by decide +kernel) ?_
  refine x_istore (np := 30) (x := 3) (lo' := [x_r (ra0 + 1), iv_c a1, iv_c 2147483652, iv_c 2147483649]) (by decide +kernel) (by decide) (Nat.le_of_ble_eq_true rfl) rfl ?_
  refine x_iload (np := 31) (x := 3) (by decide +kernel) rfl (by decide) ?_
  refine x_ifz (k := 0) (tg := 50) (np := 34) (by decide +kernel) (by decide) (by decide) (fun q16 => ?_) (fun q17 => ?_)
  · have q16 : 2147483649 = 2147483648 := q16
    exfalso; omega
  have q17 : ¬ (2147483649 = 2147483648) := q17
  refine x_aload (np := 35) (x := 0) (by decide +kernel) rfl (x_nc_le (tn_1 ta0)) ?_
  have q18 : h (ra0 + 1) 1 = (ra0 + 2) := tf_1_1 hJ ta0
  refine x_getR (np := 38) (x := 385) (f := 1) (q := (ra0 + 2)) (by decide +kernel) (by decide) (tg_1_385_1_1 ta0) q18 ?_
  refine x_iload (np := 39) (x := 1) (by decide +kernel) rfl la1 ?_
  refine x_aload (np := 40) (x := 0) (by decide +kernel) rfl (x_nc_le (tn_1 ta0)) ?_
  refine x_getC (np := 43) (x := 384) (f := 0) (q := 2147483655) (by decide +kernel) (by decide) (tg_1_384_0_0 ta0) q12 (fun l19 => ?_)
  obtain ⟨u20, q21⟩ : ∃ z, a1 = 2147483648 + z := ⟨a1 - 2147483648, by first | decide | omega⟩
  refine x_imul (np := 44) (x := 0) (i := u20) (j := 7) (v := (2147483648 + 7 * u20)) (by decide +kernel) (by first | decide | omega) (by first | decide | omega) (by first | decide | omega) (by first | decide | omega) la1 (by decide) ?_
  refine x_iload (np := 45) (x := 2) (by decide +kernel) rfl (by decide) ?_
  refine x_iadd (np := 46) (x := 0) (v := (2147483652 + 7 * u20)) (by decide +kernel) (by first | decide | omega) (by decide) (by first | decide | omega) (by first | decide | omega) ?_
  refine x_aldC (np := 47) (x := 0) (n := 140) (i := (4 + 7 * u20)) (q := ((h (ra0 + 2) (4 + 7 * u20)))) (by decide +kernel) (ta_2_140 ta0) (by first | decide | omega) (by first | decide | omega) (by decide) rfl (fun l23 => ?_)
  refine x_goto (np := 50) (x := 51) (by decide +kernel) ?_
  refine x_retI (np := 52) (x := 0) (by decide +kernel) l23 (Or.inl (by decide +kernel)) ⟨_, rfl, l23, ?_⟩
  exact ⟨rfl, (by first | decide | omega)⟩
set_option maxHeartbeats 0 in
/-- LentNames$Calendar.isLentOn(I)Z -/
theorem c23_45 {sc : Nat × Nat} {d a1 : Nat} {h : xh} (hJ : J h) (ba1 : 2147483648 ≤ a1 ∧ a1 ≤ 2147483653) : X sc 23 (d + 1) (xI fun r h' => h' = h ∧ (2147483648 ≤ r ∧ r ≤ 2147483649)) 0 0 0 [x_r 45, iv_c a1] [] h := by
  have la1 : a1 < 4294967296 := by first | decide | omega
  refine x_aload (np := 1) (x := 0) (by decide +kernel) rfl (x_nc_le (by decide)) ?_
  have q1 : h 45 12 = 57 := by have z := jB (e := 12) 0 hJ rg_45_12_0_1 (by decide) (by decide); omega
  refine x_getR (np := 4) (x := 76) (f := 12) (q := 57) (by decide +kernel) (by decide) (by decide +kernel) q1 ?_
  refine x_iload (np := 5) (x := 1) (by decide +kernel) rfl la1 ?_
  obtain ⟨u2, q3⟩ : ∃ z, a1 = 2147483648 + z := ⟨a1 - 2147483648, by first | decide | omega⟩
  have b4 := jB (e := u2) u2 hJ rg_57_0_1_6 (by first | decide | omega) (by first | decide | omega)
  refine x_aldC (np := 6) (x := 0) (n := 6) (i := u2) (q := (h 57 u2)) (by decide +kernel) (by decide +kernel) (by first | decide | omega) (by first | decide | omega) (by decide) rfl (fun l5 => ?_)
  refine x_ifz (k := 5) (tg := 41) (np := 9) (by decide +kernel) (by decide) l5 (fun q6 => ?_) (fun q7 => ?_)
  · have q6 : (h 57 u2) ≤ 2147483648 := q6
    refine x_const (np := 42) (x := 9223372039002259456) (a := 2147483648) (by decide +kernel) (by decide) (by decide) ?_
    refine x_retI (np := 43) (x := 0) (by decide +kernel) (by decide) (Or.inr ⟨by decide +kernel, by first | decide | omega, by first | decide | omega⟩) ⟨_, rfl, (by decide), ?_⟩
    exact ⟨rfl, (by first | decide | omega)⟩
  have q7 : ¬ ((h 57 u2) ≤ 2147483648) := q7
  refine x_aload (np := 10) (x := 0) (by decide +kernel) rfl (x_nc_le (by decide)) ?_
  have t8 : tw (h 45 5) := hJ.2.2.2.1
  refine x_getR (np := 13) (x := 69) (f := 5) (q := (h 45 5)) (by decide +kernel) (by decide) (by decide +kernel) rfl ?_
  have q9 : h (h 45 5) 0 = ((h 45 5) + 1) := tf_0_0 hJ t8
  refine x_getR (np := 16) (x := 512) (f := 0) (q := ((h 45 5) + 1)) (by decide +kernel) (by decide) (tg_0_512_0_1 t8) q9 ?_
  refine x_aload (np := 17) (x := 0) (by decide +kernel) rfl (x_nc_le (by decide)) ?_
  refine x_iload (np := 18) (x := 1) (by decide +kernel) rfl la1 ?_
  refine x_aload (np := 19) (x := 0) (by decide +kernel) rfl (x_nc_le (by decide)) ?_
  have q10 : h 45 12 = 57 := by have z := jB (e := 12) 0 hJ rg_45_12_0_1 (by decide) (by decide); omega
  refine x_getR (np := 22) (x := 76) (f := 12) (q := 57) (by decide +kernel) (by decide) (by decide +kernel) q10 ?_
  refine x_iload (np := 23) (x := 1) (by decide +kernel) rfl la1 ?_
  refine x_aldC (np := 24) (x := 0) (n := 6) (i := u2) (q := (h 57 u2)) (by decide +kernel) (by decide +kernel) (by first | decide | omega) (by first | decide | omega) (by decide) rfl (fun l11 => ?_)
  refine x_const (np := 25) (x := 9223372043297226753) (a := 2147483649) (by decide +kernel) (by decide) (by decide) ?_
  obtain ⟨v12, q13⟩ : ∃ z, z + 2147483649 = (h 57 u2) + 2147483648 := ⟨(h 57 u2) + 2147483648 - 2147483649, by first | decide | omega⟩
  refine x_isub (np := 26) (x := 0) (v := v12) (by decide +kernel) l5 (by decide) (by first | decide | omega) (by first | decide | omega) ?_
  refine x_nI (t := 6) (mj := 33) (n := 3) (rc := 2) (ml := 3) (nr := 1) (np := 29) (as := [x_r 45, iv_c a1, iv_c v12]) (rest := [x_r ((h 45 5) + 1)]) (lo1 := [x_r 45, iv_c a1, iv_c v12]) (by decide +kernel) (by decide) (by decide +kernel) (x_rb_of (by decide +kernel)) rfl rfl (x_wr (by decide) (x_wi la1 (x_wi (by first | decide | omega) x_wn))) (x_wr (tn_1 t8) x_wn) (by decide) rfl ?_
  refine x_aload (np := 1) (x := 0) (by decide +kernel) rfl (x_nc_le (by decide)) ?_
  have q14 : h 45 11 = 56 := by have z := jB (e := 11) 0 hJ rg_45_11_0_1 (by decide) (by decide); omega
  refine x_getR (np := 4) (x := 75) (f := 11) (q := 56) (by decide +kernel) (by decide) (by decide +kernel) q14 ?_
  refine x_iload (np := 5) (x := 1) (by decide +kernel) rfl la1 ?_
  refine x_const (np := 7) (x := 9223372124901605396) (a := 2147483668) (by decide +kernel) (by decide) (by decide) ?_
  refine x_imul (np := 8) (x := 0) (i := u2) (j := 20) (v := (2147483648 + 20 * u2)) (by decide +kernel) (by first | decide | omega) (by first | decide | omega) (by first | decide | omega) (by first | decide | omega) la1 (by decide) ?_
  refine x_iload (np := 9) (x := 2) (by decide +kernel) rfl (by first | decide | omega) ?_
  refine x_iadd (np := 10) (x := 0) (v := (20 * u2 + v12)) (by decide +kernel) (by first | decide | omega) (by first | decide | omega) (by first | decide | omega) (by first | decide | omega) ?_
  obtain ⟨u16, q17⟩ : ∃ z, v12 = 2147483648 + z := ⟨v12 - 2147483648, by first | decide | omega⟩
  have b18 := jB (e := (20 * u2 + u16)) (20 * u2 + u16) hJ rg_56_0_1_120 (by first | decide | omega) (by first | decide | omega)
  refine x_aldC (np := 11) (x := 0) (n := 120) (i := (20 * u2 + u16)) (q := ((h 56 (20 * u2 + u16)))) (by decide +kernel) (by decide +kernel) (by first | decide | omega) (by first | decide | omega) (by decide) rfl (fun l19 => ?_)
  refine x_retI (np := 12) (x := 0) (by decide +kernel) l19 (Or.inl (by decide +kernel)) ⟨_, rfl, l19, ?_⟩
  refine x_const (np := 30) (x := 9223372056182128644) (a := 2147483652) (by decide +kernel) (by decide) (by decide) ?_
  refine x_cP (t := 6) (mj := 68) (n := 3) (rc := 7) (ml := 4) (nr := 0) (np := 33) (as := [x_r ((h 45 5) + 1), iv_c ((h 56 (20 * u2 + u16))), iv_c 2147483652]) (rest := []) (lo1 := [x_r ((h 45 5) + 1), iv_c ((h 56 (20 * u2 + u16))), iv_c 2147483652, 147573952589676412928]) (by decide +kernel) (by decide) (by decide +kernel) (x_rb_of (tr_1_7 t8)) rfl rfl (x_wr (tn_1 t8) (x_wi l19 (x_wi (by decide) x_wn))) x_wn (by decide) rfl (c68_T1_c4 hJ t8 (by first | decide | omega) ) (fun v21 l22 q23 => ?_)
  refine x_const (np := 34) (x := 9223372043297226753) (a := 2147483649) (by decide +kernel) (by decide) (by decide) ?_
  refine x_icmp (k := 1) (tg := 41) (np := 37) (by decide +kernel) (by decide) l22 (by decide) (fun q24 => ?_) (fun q25 => ?_)
  · have q24 : v21 ≠ 2147483649 := q24
    refine x_const (np := 42) (x := 9223372039002259456) (a := 2147483648) (by decide +kernel) (by decide) (by decide) ?_
    refine x_retI (np := 43) (x := 0) (by decide +kernel) (by decide) (Or.inr ⟨by decide +kernel, by first | decide | omega, by first | decide | omega⟩) ⟨_, rfl, (by decide), ?_⟩
    exact ⟨rfl, (by first | decide | omega)⟩
  have q25 : ¬ (v21 ≠ 2147483649) := q25
  refine x_const (np := 38) (x := 9223372043297226753) (a := 2147483649) (by decide +kernel) (by decide) (by decide) ?_
  refine x_goto (np := 41) (x := 42) (by decide +kernel) ?_
  refine x_retI (np := 43) (x := 0) (by decide +kernel) (by decide) (Or.inr ⟨by decide +kernel, by first | decide | omega, by first | decide | omega⟩) ⟨_, rfl, (by decide), ?_⟩
  exact ⟨rfl, (by first | decide | omega)⟩
set_option maxHeartbeats 0 in
/-- LentNames$Calendar.lendNames(I)V -/
theorem c21_45 {sc : Nat × Nat} {d a1 : Nat} {h : xh} (hJ : J h) (ba1 : 2147483648 ≤ a1 ∧ a1 ≤ 2147483659) : X sc 21 (d + 4) (xV fun h' => J h' ∧ Fr 140737488362497 h h') 0 0 0 [x_r 45, iv_c a1, 147573952589676412928, 147573952589676412928, 147573952589676412928] [] h := by
  have la1 : a1 < 4294967296 := by first | decide | omega
  have hF := Fr.refl 140737488362497 h
  refine x_const (np := 1) (x := 9223372039002259456) (a := 2147483648) (by decide +kernel) (by decide) (by decide) ?_
  refine x_istore (np := 2) (x := 2) (lo' := [x_r 45, iv_c a1, iv_c 2147483648, 147573952589676412928, 147573952589676412928]) (by decide +kernel) (by decide) (Nat.le_of_ble_eq_true rfl) rfl ?_
  have p3659 : ∀ (n : Nat) (v3652 : Nat) (w3654 : Nat) (w3655 : Nat) (h3656 : xh), 4294967296 - v3652 < n → (2147483648 ≤ v3652 ∧ v3652 ≤ 2147483668) → J h3656 → Fr 140737488362497 h h3656 → X sc 21 (d + 4) (xV fun h' => J h' ∧ Fr 140737488362497 h h') 0 0 2 [x_r 45, iv_c a1, iv_c v3652, w3654, w3655] [] h3656 := by
    intro n
    induction n with
    | zero => intro v3652 w3654 w3655 h3656 q3660; exact absurd q3660 (Nat.not_lt_zero _)
    | succ n i3661 =>
      intro v3652 w3654 w3655 h3656 q3660 b3653 j3658 f3657
      have f3662 := Fr.trans hF f3657 (by decide)
      refine x_iload (np := 3) (x := 2) (by decide +kernel) rfl (by first | decide | omega) ?_
      refine x_aload (np := 4) (x := 0) (by decide +kernel) rfl (x_nc_le (by decide)) ?_
      have q3663 : h3656 45 5 = h 45 5 := f3657 45 5 (by decide +kernel)
      have t3664 : tw (h 45 5) := hJ.2.2.2.1
      refine x_getR (np := 7) (x := 69) (f := 5) (q := (h 45 5)) (by decide +kernel) (by decide) (by decide +kernel) q3663 ?_
      have q3665 : h3656 (h 45 5) 0 = ((h 45 5) + 1) := tf_0_0 j3658 t3664
      refine x_getR (np := 10) (x := 512) (f := 0) (q := ((h 45 5) + 1)) (by decide +kernel) (by decide) (tg_0_512_0_1 t3664) q3665 ?_
      have q3666 : h3656 ((h 45 5) + 1) 2 = h ((h 45 5) + 1) 2 := jK 0 f3657 (rg_T1_2_0_1 t3664) (by first | decide | omega) (by first | decide | omega) (by decide)
      have b3667 := jB (e := 2) 0 hJ (rg_T1_2_0_1 t3664) (by first | decide | omega) (by first | decide | omega)
      refine x_getC (np := 13) (x := 386) (f := 2) (q := (h ((h 45 5) + 1) 2)) (by decide +kernel) (by decide) (tg_1_386_2_0 t3664) q3666 (fun l3668 => ?_)
      refine x_icmp (k := 3) (tg := 121) (np := 16) (by decide +kernel) (by decide) (by first | decide | omega) l3668 (fun q3669 => ?_) (fun q3670 => ?_)
      · have q3669 : (h ((h 45 5) + 1) 2) ≤ v3652 := q3669
        refine x_retV (np := 122) (x := 0) (by decide +kernel) (by decide +kernel) ⟨rfl, ?_⟩
        exact ⟨j3658, f3662⟩
      have q3670 : ¬ ((h ((h 45 5) + 1) 2) ≤ v3652) := q3670
      refine x_aload (np := 17) (x := 0) (by decide +kernel) rfl (x_nc_le (by decide)) ?_
      have q3671 : h3656 45 5 = h 45 5 := f3657 45 5 (by decide +kernel)
      refine x_getR (np := 20) (x := 69) (f := 5) (q := (h 45 5)) (by decide +kernel) (by decide) (by decide +kernel) q3671 ?_
      have q3672 : h3656 (h 45 5) 0 = ((h 45 5) + 1) := tf_0_0 j3658 t3664
      refine x_getR (np := 23) (x := 512) (f := 0) (q := ((h 45 5) + 1)) (by decide +kernel) (by decide) (tg_0_512_0_1 t3664) q3672 ?_
      refine x_iload (np := 24) (x := 2) (by decide +kernel) rfl (by first | decide | omega) ?_
      refine x_const (np := 25) (x := 9223372039002259456) (a := 2147483648) (by decide +kernel) (by decide) (by decide) ?_
      refine x_nI (t := 6) (mj := 68) (n := 3) (rc := 7) (ml := 4) (nr := 0) (np := 28) (as := [x_r ((h 45 5) + 1), iv_c v3652, iv_c 2147483648]) (rest := []) (lo1 := [x_r ((h 45 5) + 1), iv_c v3652, iv_c 2147483648, 147573952589676412928]) (by decide +kernel) (by decide) (by decide +kernel) (x_rb_of (tr_1_7 t3664)) rfl rfl (x_wr (tn_1 t3664) (x_wi (by first | decide | omega) (x_wi (by decide) x_wn))) x_wn (by decide) rfl ?_
      refine x_iload (np := 1) (x := 1) (by decide +kernel) rfl (by first | decide | omega) ?_
      refine x_ifz (k := 2) (tg := 28) (np := 4) (by decide +kernel) (by decide) (by first | decide | omega) (fun q3674 => ?_) (fun q3675 => ?_)
      · have q3674 : v3652 < 2147483648 := q3674
        exfalso; omega
      have q3675 : ¬ (v3652 < 2147483648) := q3675
      refine x_iload (np := 5) (x := 1) (by decide +kernel) rfl (by first | decide | omega) ?_
      refine x_aload (np := 6) (x := 0) (by decide +kernel) rfl (x_nc_le (tn_1 t3664)) ?_
      have q3676 : h3656 ((h 45 5) + 1) 2 = h ((h 45 5) + 1) 2 := jK 0 f3657 (rg_T1_2_0_1 t3664) (by first | decide | omega) (by first | decide | omega) (by decide)
      refine x_getC (np := 9) (x := 386) (f := 2) (q := (h ((h 45 5) + 1) 2)) (by decide +kernel) (by decide) (tg_1_386_2_0 t3664) q3676 (fun l3677 => ?_)
      refine x_icmp (k := 3) (tg := 28) (np := 12) (by decide +kernel) (by decide) (by first | decide | omega) l3668 (fun q3678 => ?_) (fun q3679 => ?_)
      · have q3678 : (h ((h 45 5) + 1) 2) ≤ v3652 := q3678
        exfalso; omega
      have q3679 : ¬ ((h ((h 45 5) + 1) 2) ≤ v3652) := q3679
      refine x_iload (np := 13) (x := 2) (by decide +kernel) rfl (by decide) ?_
      refine x_ifz (k := 2) (tg := 28) (np := 16) (by decide +kernel) (by decide) (by decide) (fun q3680 => ?_) (fun q3681 => ?_)
      · have q3680 : 2147483648 < 2147483648 := q3680
        exfalso; omega
      have q3681 : ¬ (2147483648 < 2147483648) := q3681
      refine x_iload (np := 17) (x := 2) (by decide +kernel) rfl (by decide) ?_
      refine x_aload (np := 18) (x := 0) (by decide +kernel) rfl (x_nc_le (tn_1 t3664)) ?_
      have q3682 : h3656 ((h 45 5) + 1) 0 = h ((h 45 5) + 1) 0 := jK 0 f3657 (rg_T1_0_0_1 t3664) (by first | decide | omega) (by first | decide | omega) (by decide)
      have b3683 := jB (e := 0) 0 hJ (rg_T1_0_0_1 t3664) (by first | decide | omega) (by first | decide | omega)
      have q3684 : (h ((h 45 5) + 1) 0) = 2147483655 := by first | decide | omega
      refine x_getC (np := 21) (x := 384) (f := 0) (q := 2147483655) (by decide +kernel) (by decide) (tg_1_384_0_0 t3664) (q3682.trans q3684) (fun l3685 => ?_)
      refine x_icmp (k := 3) (tg := 28) (np := 24) (by decide +kernel) (by decide) (by decide) (by decide) (fun q3686 => ?_) (fun q3687 => ?_)
      · have q3686 : 2147483655 ≤ 2147483648 := q3686
        exfalso; omega
      have q3687 : ¬ (2147483655 ≤ 2147483648) := q3687
      refine x_const (np := 25) (x := 9223372043297226753) (a := 2147483649) (by decide +kernel) (by decide) (by decide) ?_
      refine x_goto (np := 28) (x := 29) (by decide +kernel) ?_
      refine x_istore (np := 30) (x := 3) (lo' := [x_r ((h 45 5) + 1), iv_c v3652, iv_c 2147483648, iv_c 2147483649]) (by decide +kernel) (by decide) (Nat.le_of_ble_eq_true rfl) rfl ?_
      refine x_iload (np := 31) (x := 3) (by decide +kernel) rfl (by decide) ?_
      refine x_ifz (k := 0) (tg := 50) (np := 34) (by decide +kernel) (by decide) (by decide) (fun q3688 => ?_) (fun q3689 => ?_)
      · have q3688 : 2147483649 = 2147483648 := q3688
        exfalso; omega
      have q3689 : ¬ (2147483649 = 2147483648) := q3689
      refine x_aload (np := 35) (x := 0) (by decide +kernel) rfl (x_nc_le (tn_1 t3664)) ?_
      have q3690 : h3656 ((h 45 5) + 1) 1 = ((h 45 5) + 2) := tf_1_1 j3658 t3664
      refine x_getR (np := 38) (x := 385) (f := 1) (q := ((h 45 5) + 2)) (by decide +kernel) (by decide) (tg_1_385_1_1 t3664) q3690 ?_
      refine x_iload (np := 39) (x := 1) (by decide +kernel) rfl (by first | decide | omega) ?_
      refine x_aload (np := 40) (x := 0) (by decide +kernel) rfl (x_nc_le (tn_1 t3664)) ?_
      have q3691 : h3656 ((h 45 5) + 1) 0 = h ((h 45 5) + 1) 0 := jK 0 f3657 (rg_T1_0_0_1 t3664) (by first | decide | omega) (by first | decide | omega) (by decide)
      refine x_getC (np := 43) (x := 384) (f := 0) (q := 2147483655) (by decide +kernel) (by decide) (tg_1_384_0_0 t3664) (q3691.trans q3684) (fun l3692 => ?_)
      obtain ⟨u3693, q3694⟩ : ∃ z, v3652 = 2147483648 + z := ⟨v3652 - 2147483648, by first | decide | omega⟩
      refine x_imul (np := 44) (x := 0) (i := u3693) (j := 7) (v := (2147483648 + 7 * u3693)) (by decide +kernel) (by first | decide | omega) (by first | decide | omega) (by first | decide | omega) (by first | decide | omega) (by first | decide | omega) (by decide) ?_
      refine x_iload (np := 45) (x := 2) (by decide +kernel) rfl (by decide) ?_
      refine x_iadd (np := 46) (x := 0) (v := (2147483648 + 7 * u3693)) (by decide +kernel) (by first | decide | omega) (by decide) (by first | decide | omega) (by first | decide | omega) ?_
      have q3696 : h3656 ((h 45 5) + 2) (7 * u3693) = h ((h 45 5) + 2) (7 * u3693) := jK u3693 f3657 (rg_T2_0_7_20 t3664) (by first | decide | omega) (by first | decide | omega) (by decide)
      have b3697 := jB (e := (7 * u3693)) u3693 hJ (rg_T2_0_7_20 t3664) (by first | decide | omega) (by first | decide | omega)
      refine x_aldC (np := 47) (x := 0) (n := 140) (i := (7 * u3693)) (q := ((h ((h 45 5) + 2) (7 * u3693)))) (by decide +kernel) (ta_2_140 t3664) (by first | decide | omega) (by first | decide | omega) (by decide) q3696 (fun l3698 => ?_)
      refine x_goto (np := 50) (x := 51) (by decide +kernel) ?_
      refine x_retI (np := 52) (x := 0) (by decide +kernel) l3698 (Or.inl (by decide +kernel)) ⟨_, rfl, l3698, ?_⟩
      refine x_istore (np := 29) (x := 3) (lo' := [x_r 45, iv_c a1, iv_c v3652, iv_c ((h ((h 45 5) + 2) (7 * u3693))), w3655]) (by decide +kernel) l3698 (Nat.le_of_ble_eq_true rfl) rfl ?_
      refine x_aload (np := 30) (x := 0) (by decide +kernel) rfl (x_nc_le (by decide)) ?_
      have q3699 : h3656 45 5 = h 45 5 := f3657 45 5 (by decide +kernel)
      refine x_getR (np := 33) (x := 69) (f := 5) (q := (h 45 5)) (by decide +kernel) (by decide) (by decide +kernel) q3699 ?_
      have q3700 : h3656 (h 45 5) 0 = ((h 45 5) + 1) := tf_0_0 j3658 t3664
      refine x_getR (np := 36) (x := 512) (f := 0) (q := ((h 45 5) + 1)) (by decide +kernel) (by decide) (tg_0_512_0_1 t3664) q3700 ?_
      refine x_iload (np := 37) (x := 2) (by decide +kernel) rfl (by first | decide | omega) ?_
      refine x_const (np := 38) (x := 9223372047592194050) (a := 2147483650) (by decide +kernel) (by decide) (by decide) ?_
      refine x_nI (t := 6) (mj := 68) (n := 3) (rc := 7) (ml := 4) (nr := 0) (np := 41) (as := [x_r ((h 45 5) + 1), iv_c v3652, iv_c 2147483650]) (rest := []) (lo1 := [x_r ((h 45 5) + 1), iv_c v3652, iv_c 2147483650, 147573952589676412928]) (by decide +kernel) (by decide) (by decide +kernel) (x_rb_of (tr_1_7 t3664)) rfl rfl (x_wr (tn_1 t3664) (x_wi (by first | decide | omega) (x_wi (by decide) x_wn))) x_wn (by decide) rfl ?_
      refine x_iload (np := 1) (x := 1) (by decide +kernel) rfl (by first | decide | omega) ?_
      refine x_ifz (k := 2) (tg := 28) (np := 4) (by decide +kernel) (by decide) (by first | decide | omega) (fun q3702 => ?_) (fun q3703 => ?_)
      · have q3702 : v3652 < 2147483648 := q3702
        exfalso; omega
      have q3703 : ¬ (v3652 < 2147483648) := q3703
      refine x_iload (np := 5) (x := 1) (by decide +kernel) rfl (by first | decide | omega) ?_
      refine x_aload (np := 6) (x := 0) (by decide +kernel) rfl (x_nc_le (tn_1 t3664)) ?_
      have q3704 : h3656 ((h 45 5) + 1) 2 = h ((h 45 5) + 1) 2 := jK 0 f3657 (rg_T1_2_0_1 t3664) (by first | decide | omega) (by first | decide | omega) (by decide)
      refine x_getC (np := 9) (x := 386) (f := 2) (q := (h ((h 45 5) + 1) 2)) (by decide +kernel) (by decide) (tg_1_386_2_0 t3664) q3704 (fun l3705 => ?_)
      refine x_icmp (k := 3) (tg := 28) (np := 12) (by decide +kernel) (by decide) (by first | decide | omega) l3668 (fun q3706 => ?_) (fun q3707 => ?_)
      · have q3706 : (h ((h 45 5) + 1) 2) ≤ v3652 := q3706
        exfalso; omega
      have q3707 : ¬ ((h ((h 45 5) + 1) 2) ≤ v3652) := q3707
      refine x_iload (np := 13) (x := 2) (by decide +kernel) rfl (by decide) ?_
      refine x_ifz (k := 2) (tg := 28) (np := 16) (by decide +kernel) (by decide) (by decide) (fun q3708 => ?_) (fun q3709 => ?_)
      · have q3708 : 2147483650 < 2147483648 := q3708
        exfalso; omega
      have q3709 : ¬ (2147483650 < 2147483648) := q3709
      refine x_iload (np := 17) (x := 2) (by decide +kernel) rfl (by decide) ?_
      refine x_aload (np := 18) (x := 0) (by decide +kernel) rfl (x_nc_le (tn_1 t3664)) ?_
      have q3710 : h3656 ((h 45 5) + 1) 0 = h ((h 45 5) + 1) 0 := jK 0 f3657 (rg_T1_0_0_1 t3664) (by first | decide | omega) (by first | decide | omega) (by decide)
      refine x_getC (np := 21) (x := 384) (f := 0) (q := 2147483655) (by decide +kernel) (by decide) (tg_1_384_0_0 t3664) (q3710.trans q3684) (fun l3711 => ?_)
      refine x_icmp (k := 3) (tg := 28) (np := 24) (by decide +kernel) (by decide) (by decide) (by decide) (fun q3712 => ?_) (fun q3713 => ?_)
      · have q3712 : 2147483655 ≤ 2147483650 := q3712
        exfalso; omega
      have q3713 : ¬ (2147483655 ≤ 2147483650) := q3713
      refine x_const (np := 25) (x := 9223372043297226753) (a := 2147483649) (by decide +kernel) (by decide) (by decide) ?_
      refine x_goto (np := 28) (x := 29) (by decide +kernel) ?_
      refine x_istore (np := 30) (x := 3) (lo' := [x_r ((h 45 5) + 1), iv_c v3652, iv_c 2147483650, iv_c 2147483649]) (by decide +kernel) (by decide) (Nat.le_of_ble_eq_true rfl) rfl ?_
      refine x_iload (np := 31) (x := 3) (by decide +kernel) rfl (by decide) ?_
      refine x_ifz (k := 0) (tg := 50) (np := 34) (by decide +kernel) (by decide) (by decide) (fun q3714 => ?_) (fun q3715 => ?_)
      · have q3714 : 2147483649 = 2147483648 := q3714
        exfalso; omega
      have q3715 : ¬ (2147483649 = 2147483648) := q3715
      refine x_aload (np := 35) (x := 0) (by decide +kernel) rfl (x_nc_le (tn_1 t3664)) ?_
      have q3716 : h3656 ((h 45 5) + 1) 1 = ((h 45 5) + 2) := tf_1_1 j3658 t3664
      refine x_getR (np := 38) (x := 385) (f := 1) (q := ((h 45 5) + 2)) (by decide +kernel) (by decide) (tg_1_385_1_1 t3664) q3716 ?_
      refine x_iload (np := 39) (x := 1) (by decide +kernel) rfl (by first | decide | omega) ?_
      refine x_aload (np := 40) (x := 0) (by decide +kernel) rfl (x_nc_le (tn_1 t3664)) ?_
      have q3717 : h3656 ((h 45 5) + 1) 0 = h ((h 45 5) + 1) 0 := jK 0 f3657 (rg_T1_0_0_1 t3664) (by first | decide | omega) (by first | decide | omega) (by decide)
      refine x_getC (np := 43) (x := 384) (f := 0) (q := 2147483655) (by decide +kernel) (by decide) (tg_1_384_0_0 t3664) (q3717.trans q3684) (fun l3718 => ?_)
      refine x_imul (np := 44) (x := 0) (i := u3693) (j := 7) (v := (2147483648 + 7 * u3693)) (by decide +kernel) (by first | decide | omega) (by first | decide | omega) (by first | decide | omega) (by first | decide | omega) (by first | decide | omega) (by decide) ?_
      refine x_iload (np := 45) (x := 2) (by decide +kernel) rfl (by decide) ?_
      refine x_iadd (np := 46) (x := 0) (v := (2147483650 + 7 * u3693)) (by decide +kernel) (by first | decide | omega) (by decide) (by first | decide | omega) (by first | decide | omega) ?_
      have q3720 : h3656 ((h 45 5) + 2) (2 + 7 * u3693) = h ((h 45 5) + 2) (2 + 7 * u3693) := jK u3693 f3657 (rg_T2_2_7_20 t3664) (by first | decide | omega) (by first | decide | omega) (by decide)
      refine x_aldC (np := 47) (x := 0) (n := 140) (i := (2 + 7 * u3693)) (q := ((h ((h 45 5) + 2) (2 + 7 * u3693)))) (by decide +kernel) (ta_2_140 t3664) (by first | decide | omega) (by first | decide | omega) (by decide) q3720 (fun l3721 => ?_)
      refine x_goto (np := 50) (x := 51) (by decide +kernel) ?_
      refine x_retI (np := 52) (x := 0) (by decide +kernel) l3721 (Or.inl (by decide +kernel)) ⟨_, rfl, l3721, ?_⟩
      refine x_iload (np := 42) (x := 1) (by decide +kernel) rfl la1 ?_
      refine x_icmp (k := 1) (tg := 49) (np := 45) (by decide +kernel) (by decide) l3721 la1 (fun q3722 => ?_) (fun q3723 => ?_)
      · have q3722 : ((h ((h 45 5) + 2) (2 + 7 * u3693))) ≠ a1 := q3722
        refine x_const (np := 50) (x := 9223372039002259456) (a := 2147483648) (by decide +kernel) (by decide) (by decide) ?_
        refine x_istore (np := 52) (x := 4) (lo' := [x_r 45, iv_c a1, iv_c v3652, iv_c ((h ((h 45 5) + 2) (7 * u3693))), iv_c 2147483648]) (by decide +kernel) (by decide) (Nat.le_of_ble_eq_true rfl) rfl ?_
        refine x_iload (np := 54) (x := 4) (by decide +kernel) rfl (by decide) ?_
        refine x_ifz (k := 0) (tg := 115) (np := 57) (by decide +kernel) (by decide) (by decide) (fun q3724 => ?_) (fun q3725 => ?_)
        · have q3724 : 2147483648 = 2147483648 := q3724
          refine x_iinc (np := 118) (i := 2) (j := 2147483649) (v := (1 + v3652)) (lo' := [x_r 45, iv_c a1, iv_c (1 + v3652), iv_c ((h ((h 45 5) + 2) (7 * u3693))), iv_c 2147483648]) (by decide +kernel) (by decide) (by decide) rfl (by first | decide | omega) (by first | decide | omega) (by first | decide | omega) rfl ?_
          refine x_goto (np := 121) (x := 2) (by decide +kernel) ?_
          exact i3661 (1 + v3652) (iv_c ((h ((h 45 5) + 2) (7 * u3693)))) (iv_c 2147483648) h3656 (by first | decide | omega) (by first | decide | omega) j3658 f3657
        have q3725 : ¬ (2147483648 = 2147483648) := q3725
        exfalso; omega
      have q3723 : ¬ (((h ((h 45 5) + 2) (2 + 7 * u3693))) ≠ a1) := q3723
      refine x_const (np := 46) (x := 9223372043297226753) (a := 2147483649) (by decide +kernel) (by decide) (by decide) ?_
      refine x_goto (np := 49) (x := 50) (by decide +kernel) ?_
      refine x_istore (np := 52) (x := 4) (lo' := [x_r 45, iv_c a1, iv_c v3652, iv_c ((h ((h 45 5) + 2) (7 * u3693))), iv_c 2147483649]) (by decide +kernel) (by decide) (Nat.le_of_ble_eq_true rfl) rfl ?_
      refine x_iload (np := 54) (x := 4) (by decide +kernel) rfl (by decide) ?_
      refine x_ifz (k := 0) (tg := 115) (np := 57) (by decide +kernel) (by decide) (by decide) (fun q3726 => ?_) (fun q3727 => ?_)
      · have q3726 : 2147483649 = 2147483648 := q3726
        exfalso; omega
      have q3727 : ¬ (2147483649 = 2147483648) := q3727
      refine x_aload (np := 58) (x := 0) (by decide +kernel) rfl (x_nc_le (by decide)) ?_
      refine x_iload (np := 59) (x := 2) (by decide +kernel) rfl (by first | decide | omega) ?_
      refine x_iload (np := 60) (x := 3) (by decide +kernel) rfl l3698 ?_
      refine x_iload (np := 61) (x := 1) (by decide +kernel) rfl la1 ?_
      refine x_nI (t := 6) (mj := 22) (n := 4) (rc := 2) (ml := 6) (nr := 0) (np := 64) (as := [x_r 45, iv_c v3652, iv_c ((h ((h 45 5) + 2) (7 * u3693))), iv_c a1]) (rest := []) (lo1 := [x_r 45, iv_c v3652, iv_c ((h ((h 45 5) + 2) (7 * u3693))), iv_c a1, 147573952589676412928, 147573952589676412928]) (by decide +kernel) (by decide) (by decide +kernel) (x_rb_of (by decide +kernel)) rfl rfl (x_wr (by decide) (x_wi (by first | decide | omega) (x_wi l3698 (x_wi la1 x_wn)))) x_wn (by decide) rfl ?_
      refine x_aload (np := 1) (x := 0) (by decide +kernel) rfl (x_nc_le (by decide)) ?_
      refine x_iload (np := 2) (x := 2) (by decide +kernel) rfl l3698 ?_
      refine x_cP (t := 6) (mj := 32) (n := 2) (rc := 2) (ml := 2) (nr := 0) (np := 5) (as := [x_r 45, iv_c ((h ((h 45 5) + 2) (7 * u3693)))]) (rest := []) (lo1 := [x_r 45, iv_c ((h ((h 45 5) + 2) (7 * u3693)))]) (by decide +kernel) (by decide) (by decide +kernel) (x_rb_of (by decide +kernel)) rfl rfl (x_wr (by decide) (x_wi l3698 x_wn)) x_wn (by decide) rfl (c32_45 j3658  (by first | decide | omega)) (fun v3728 l3729 q3730 => ?_)
      refine x_istore (np := 7) (x := 4) (lo' := [x_r 45, iv_c v3652, iv_c ((h ((h 45 5) + 2) (7 * u3693))), iv_c a1, iv_c v3728, 147573952589676412928]) (by decide +kernel) l3729 (Nat.le_of_ble_eq_true rfl) rfl ?_
      refine x_aload (np := 8) (x := 0) (by decide +kernel) rfl (x_nc_le (by decide)) ?_
      have q3731 : h3656 45 5 = h 45 5 := f3657 45 5 (by decide +kernel)
      refine x_getR (np := 11) (x := 69) (f := 5) (q := (h 45 5)) (by decide +kernel) (by decide) (by decide +kernel) q3731 ?_
      have q3732 : h3656 (h 45 5) 0 = ((h 45 5) + 1) := tf_0_0 j3658 t3664
      refine x_getR (np := 14) (x := 512) (f := 0) (q := ((h 45 5) + 1)) (by decide +kernel) (by decide) (tg_0_512_0_1 t3664) q3732 ?_
      refine x_iload (np := 15) (x := 1) (by decide +kernel) rfl (by first | decide | omega) ?_
      refine x_const (np := 16) (x := 9223372043297226753) (a := 2147483649) (by decide +kernel) (by decide) (by decide) ?_
      refine x_nI (t := 6) (mj := 68) (n := 3) (rc := 7) (ml := 4) (nr := 0) (np := 19) (as := [x_r ((h 45 5) + 1), iv_c v3652, iv_c 2147483649]) (rest := []) (lo1 := [x_r ((h 45 5) + 1), iv_c v3652, iv_c 2147483649, 147573952589676412928]) (by decide +kernel) (by decide) (by decide +kernel) (x_rb_of (tr_1_7 t3664)) rfl rfl (x_wr (tn_1 t3664) (x_wi (by first | decide | omega) (x_wi (by decide) x_wn))) x_wn (by decide) rfl ?_
      refine x_iload (np := 1) (x := 1) (by decide +kernel) rfl (by first | decide | omega) ?_
      refine x_ifz (k := 2) (tg := 28) (np := 4) (by decide +kernel) (by decide) (by first | decide | omega) (fun q3734 => ?_) (fun q3735 => ?_)
      · have q3734 : v3652 < 2147483648 := q3734
        exfalso; omega
      have q3735 : ¬ (v3652 < 2147483648) := q3735
      refine x_iload (np := 5) (x := 1) (by decide +kernel) rfl (by first | decide | omega) ?_
      refine x_aload (np := 6) (x := 0) (by decide +kernel) rfl (x_nc_le (tn_1 t3664)) ?_
      have q3736 : h3656 ((h 45 5) + 1) 2 = h ((h 45 5) + 1) 2 := jK 0 f3657 (rg_T1_2_0_1 t3664) (by first | decide | omega) (by first | decide | omega) (by decide)
      refine x_getC (np := 9) (x := 386) (f := 2) (q := (h ((h 45 5) + 1) 2)) (by decide +kernel) (by decide) (tg_1_386_2_0 t3664) q3736 (fun l3737 => ?_)
      refine x_icmp (k := 3) (tg := 28) (np := 12) (by decide +kernel) (by decide) (by first | decide | omega) l3668 (fun q3738 => ?_) (fun q3739 => ?_)
      · have q3738 : (h ((h 45 5) + 1) 2) ≤ v3652 := q3738
        exfalso; omega
      have q3739 : ¬ ((h ((h 45 5) + 1) 2) ≤ v3652) := q3739
      refine x_iload (np := 13) (x := 2) (by decide +kernel) rfl (by decide) ?_
      refine x_ifz (k := 2) (tg := 28) (np := 16) (by decide +kernel) (by decide) (by decide) (fun q3740 => ?_) (fun q3741 => ?_)
      · have q3740 : 2147483649 < 2147483648 := q3740
        exfalso; omega
      have q3741 : ¬ (2147483649 < 2147483648) := q3741
      refine x_iload (np := 17) (x := 2) (by decide +kernel) rfl (by decide) ?_
      refine x_aload (np := 18) (x := 0) (by decide +kernel) rfl (x_nc_le (tn_1 t3664)) ?_
      have q3742 : h3656 ((h 45 5) + 1) 0 = h ((h 45 5) + 1) 0 := jK 0 f3657 (rg_T1_0_0_1 t3664) (by first | decide | omega) (by first | decide | omega) (by decide)
      refine x_getC (np := 21) (x := 384) (f := 0) (q := 2147483655) (by decide +kernel) (by decide) (tg_1_384_0_0 t3664) (q3742.trans q3684) (fun l3743 => ?_)
      refine x_icmp (k := 3) (tg := 28) (np := 24) (by decide +kernel) (by decide) (by decide) (by decide) (fun q3744 => ?_) (fun q3745 => ?_)
      · have q3744 : 2147483655 ≤ 2147483649 := q3744
        exfalso; omega
      have q3745 : ¬ (2147483655 ≤ 2147483649) := q3745
      refine x_const (np := 25) (x := 9223372043297226753) (a := 2147483649) (by decide +kernel) (by decide) (by decide) ?_
      refine x_goto (np := 28) (x := 29) (by decide +kernel) ?_
      refine x_istore (np := 30) (x := 3) (lo' := [x_r ((h 45 5) + 1), iv_c v3652, iv_c 2147483649, iv_c 2147483649]) (by decide +kernel) (by decide) (Nat.le_of_ble_eq_true rfl) rfl ?_
      refine x_iload (np := 31) (x := 3) (by decide +kernel) rfl (by decide) ?_
      refine x_ifz (k := 0) (tg := 50) (np := 34) (by decide +kernel) (by decide) (by decide) (fun q3746 => ?_) (fun q3747 => ?_)
      · have q3746 : 2147483649 = 2147483648 := q3746
        exfalso; omega
      have q3747 : ¬ (2147483649 = 2147483648) := q3747
      refine x_aload (np := 35) (x := 0) (by decide +kernel) rfl (x_nc_le (tn_1 t3664)) ?_
      have q3748 : h3656 ((h 45 5) + 1) 1 = ((h 45 5) + 2) := tf_1_1 j3658 t3664
      refine x_getR (np := 38) (x := 385) (f := 1) (q := ((h 45 5) + 2)) (by decide +kernel) (by decide) (tg_1_385_1_1 t3664) q3748 ?_
      refine x_iload (np := 39) (x := 1) (by decide +kernel) rfl (by first | decide | omega) ?_
      refine x_aload (np := 40) (x := 0) (by decide +kernel) rfl (x_nc_le (tn_1 t3664)) ?_
      have q3749 : h3656 ((h 45 5) + 1) 0 = h ((h 45 5) + 1) 0 := jK 0 f3657 (rg_T1_0_0_1 t3664) (by first | decide | omega) (by first | decide | omega) (by decide)
      refine x_getC (np := 43) (x := 384) (f := 0) (q := 2147483655) (by decide +kernel) (by decide) (tg_1_384_0_0 t3664) (q3749.trans q3684) (fun l3750 => ?_)
      refine x_imul (np := 44) (x := 0) (i := u3693) (j := 7) (v := (2147483648 + 7 * u3693)) (by decide +kernel) (by first | decide | omega) (by first | decide | omega) (by first | decide | omega) (by first | decide | omega) (by first | decide | omega) (by decide) ?_
      refine x_iload (np := 45) (x := 2) (by decide +kernel) rfl (by decide) ?_
      refine x_iadd (np := 46) (x := 0) (v := (2147483649 + 7 * u3693)) (by decide +kernel) (by first | decide | omega) (by decide) (by first | decide | omega) (by first | decide | omega) ?_
      have q3752 : h3656 ((h 45 5) + 2) (1 + 7 * u3693) = h ((h 45 5) + 2) (1 + 7 * u3693) := jK u3693 f3657 (rg_T2_1_7_20 t3664) (by first | decide | omega) (by first | decide | omega) (by decide)
      refine x_aldC (np := 47) (x := 0) (n := 140) (i := (1 + 7 * u3693)) (q := ((h ((h 45 5) + 2) (1 + 7 * u3693)))) (by decide +kernel) (ta_2_140 t3664) (by first | decide | omega) (by first | decide | omega) (by decide) q3752 (fun l3753 => ?_)
      refine x_goto (np := 50) (x := 51) (by decide +kernel) ?_
      refine x_retI (np := 52) (x := 0) (by decide +kernel) l3753 (Or.inl (by decide +kernel)) ⟨_, rfl, l3753, ?_⟩
      refine x_istore (np := 21) (x := 5) (lo' := [x_r 45, iv_c v3652, iv_c ((h ((h 45 5) + 2) (7 * u3693))), iv_c a1, iv_c v3728, iv_c ((h ((h 45 5) + 2) (1 + 7 * u3693)))]) (by decide +kernel) l3753 (Nat.le_of_ble_eq_true rfl) rfl ?_
      refine x_aload (np := 22) (x := 0) (by decide +kernel) rfl (x_nc_le (by decide)) ?_
      have q3754 : h3656 45 12 = 57 := by have z := jB (e := 12) 0 j3658 rg_45_12_0_1 (by decide) (by decide); omega
      refine x_getR (np := 25) (x := 76) (f := 12) (q := 57) (by decide +kernel) (by decide) (by decide +kernel) q3754 ?_
      refine x_iload (np := 26) (x := 2) (by decide +kernel) rfl l3698 ?_
      obtain ⟨u3755, q3756⟩ : ∃ z, ((h ((h 45 5) + 2) (7 * u3693))) = 2147483648 + z := ⟨((h ((h 45 5) + 2) (7 * u3693))) - 2147483648, by first | decide | omega⟩
      have b3757 := jB (e := u3755) u3755 j3658 rg_57_0_1_6 (by first | decide | omega) (by first | decide | omega)
      refine x_aldC (np := 27) (x := 0) (n := 6) (i := u3755) (q := (h3656 57 u3755)) (by decide +kernel) (by decide +kernel) (by first | decide | omega) (by first | decide | omega) (by decide) rfl (fun l3758 => ?_)
      refine x_const (np := 29) (x := 9223372124901605396) (a := 2147483668) (by decide +kernel) (by decide) (by decide) ?_
      refine x_icmp (k := 3) (tg := 49) (np := 32) (by decide +kernel) (by decide) l3758 (by decide) (fun q3759 => ?_) (fun q3760 => ?_)
      · have q3759 : 2147483668 ≤ (h3656 57 u3755) := q3759
        refine x_const (np := 50) (x := 9223372039002259456) (a := 2147483648) (by decide +kernel) (by decide) (by decide) ?_
        refine x_retI (np := 51) (x := 0) (by decide +kernel) (by decide) (Or.inr ⟨by decide +kernel, by first | decide | omega, by first | decide | omega⟩) ⟨_, rfl, (by decide), ?_⟩
        refine x_ifz (k := 0) (tg := 115) (np := 67) (by decide +kernel) (by decide) (by decide) (fun q3761 => ?_) (fun q3762 => ?_)
        · have q3761 : 2147483648 = 2147483648 := q3761
          refine x_iinc (np := 118) (i := 2) (j := 2147483649) (v := (1 + v3652)) (lo' := [x_r 45, iv_c a1, iv_c (1 + v3652), iv_c ((h ((h 45 5) + 2) (7 * u3693))), iv_c 2147483649]) (by decide +kernel) (by decide) (by decide) rfl (by first | decide | omega) (by first | decide | omega) (by first | decide | omega) rfl ?_
          refine x_goto (np := 121) (x := 2) (by decide +kernel) ?_
          exact i3661 (1 + v3652) (iv_c ((h ((h 45 5) + 2) (7 * u3693)))) (iv_c 2147483649) h3656 (by first | decide | omega) (by first | decide | omega) j3658 f3657
        have q3762 : ¬ (2147483648 = 2147483648) := q3762
        exfalso; omega
      have q3760 : ¬ (2147483668 ≤ (h3656 57 u3755)) := q3760
      refine x_iload (np := 34) (x := 4) (by decide +kernel) rfl l3729 ?_
      refine x_iload (np := 36) (x := 5) (by decide +kernel) rfl l3753 ?_
      refine x_icmp (k := 0) (tg := 49) (np := 39) (by decide +kernel) (by decide) l3729 l3753 (fun q3763 => ?_) (fun q3764 => ?_)
      · have q3763 : v3728 = ((h ((h 45 5) + 2) (1 + 7 * u3693))) := q3763
        refine x_const (np := 50) (x := 9223372039002259456) (a := 2147483648) (by decide +kernel) (by decide) (by decide) ?_
        refine x_retI (np := 51) (x := 0) (by decide +kernel) (by decide) (Or.inr ⟨by decide +kernel, by first | decide | omega, by first | decide | omega⟩) ⟨_, rfl, (by decide), ?_⟩
        refine x_ifz (k := 0) (tg := 115) (np := 67) (by decide +kernel) (by decide) (by decide) (fun q3765 => ?_) (fun q3766 => ?_)
        · have q3765 : 2147483648 = 2147483648 := q3765
          refine x_iinc (np := 118) (i := 2) (j := 2147483649) (v := (1 + v3652)) (lo' := [x_r 45, iv_c a1, iv_c (1 + v3652), iv_c ((h ((h 45 5) + 2) (7 * u3693))), iv_c 2147483649]) (by decide +kernel) (by decide) (by decide) rfl (by first | decide | omega) (by first | decide | omega) (by first | decide | omega) rfl ?_
          refine x_goto (np := 121) (x := 2) (by decide +kernel) ?_
          exact i3661 (1 + v3652) (iv_c ((h ((h 45 5) + 2) (7 * u3693)))) (iv_c 2147483649) h3656 (by first | decide | omega) (by first | decide | omega) j3658 f3657
        have q3766 : ¬ (2147483648 = 2147483648) := q3766
        exfalso; omega
      have q3764 : ¬ (v3728 = ((h ((h 45 5) + 2) (1 + 7 * u3693)))) := q3764
      refine x_aload (np := 40) (x := 0) (by decide +kernel) rfl (x_nc_le (by decide)) ?_
      refine x_iload (np := 42) (x := 5) (by decide +kernel) rfl l3753 ?_
      refine x_iload (np := 43) (x := 3) (by decide +kernel) rfl la1 ?_
      refine x_nI (t := 6) (mj := 31) (n := 3) (rc := 2) (ml := 3) (nr := 0) (np := 46) (as := [x_r 45, iv_c ((h ((h 45 5) + 2) (1 + 7 * u3693))), iv_c a1]) (rest := []) (lo1 := [x_r 45, iv_c ((h ((h 45 5) + 2) (1 + 7 * u3693))), iv_c a1]) (by decide +kernel) (by decide) (by decide +kernel) (x_rb_of (by decide +kernel)) rfl rfl (x_wr (by decide) (x_wi l3753 (x_wi la1 x_wn))) x_wn (by decide) rfl ?_
      refine x_iload (np := 1) (x := 1) (by decide +kernel) rfl l3753 ?_
      refine x_ifz (k := 2) (tg := 27) (np := 4) (by decide +kernel) (by decide) l3753 (fun q3767 => ?_) (fun q3768 => ?_)
      · have q3767 : ((h ((h 45 5) + 2) (1 + 7 * u3693))) < 2147483648 := q3767
        refine x_const (np := 28) (x := 9223372039002259456) (a := 2147483648) (by decide +kernel) (by decide) (by decide) ?_
        refine x_retI (np := 29) (x := 0) (by decide +kernel) (by decide) (Or.inr ⟨by decide +kernel, by first | decide | omega, by first | decide | omega⟩) ⟨_, rfl, (by decide), ?_⟩
        refine x_ifz (k := 1) (tg := 51) (np := 49) (by decide +kernel) (by decide) (by decide) (fun q3769 => ?_) (fun q3770 => ?_)
        · have q3769 : 2147483648 ≠ 2147483648 := q3769
          exfalso; omega
        have q3770 : ¬ (2147483648 ≠ 2147483648) := q3770
        refine x_const (np := 50) (x := 9223372039002259456) (a := 2147483648) (by decide +kernel) (by decide) (by decide) ?_
        refine x_retI (np := 51) (x := 0) (by decide +kernel) (by decide) (Or.inr ⟨by decide +kernel, by first | decide | omega, by first | decide | omega⟩) ⟨_, rfl, (by decide), ?_⟩
        refine x_ifz (k := 0) (tg := 115) (np := 67) (by decide +kernel) (by decide) (by decide) (fun q3771 => ?_) (fun q3772 => ?_)
        · have q3771 : 2147483648 = 2147483648 := q3771
          refine x_iinc (np := 118) (i := 2) (j := 2147483649) (v := (1 + v3652)) (lo' := [x_r 45, iv_c a1, iv_c (1 + v3652), iv_c ((h ((h 45 5) + 2) (7 * u3693))), iv_c 2147483649]) (by decide +kernel) (by decide) (by decide) rfl (by first | decide | omega) (by first | decide | omega) (by first | decide | omega) rfl ?_
          refine x_goto (np := 121) (x := 2) (by decide +kernel) ?_
          exact i3661 (1 + v3652) (iv_c ((h ((h 45 5) + 2) (7 * u3693)))) (iv_c 2147483649) h3656 (by first | decide | omega) (by first | decide | omega) j3658 f3657
        have q3772 : ¬ (2147483648 = 2147483648) := q3772
        exfalso; omega
      have q3768 : ¬ (((h ((h 45 5) + 2) (1 + 7 * u3693))) < 2147483648) := q3768
      refine x_iload (np := 5) (x := 1) (by decide +kernel) rfl l3753 ?_
      refine x_const (np := 7) (x := 9223372064772063238) (a := 2147483654) (by decide +kernel) (by decide) (by decide) ?_
      refine x_icmp (k := 3) (tg := 27) (np := 10) (by decide +kernel) (by decide) l3753 (by decide) (fun q3773 => ?_) (fun q3774 => ?_)
      · have q3773 : 2147483654 ≤ ((h ((h 45 5) + 2) (1 + 7 * u3693))) := q3773
        refine x_const (np := 28) (x := 9223372039002259456) (a := 2147483648) (by decide +kernel) (by decide) (by decide) ?_
        refine x_retI (np := 29) (x := 0) (by decide +kernel) (by decide) (Or.inr ⟨by decide +kernel, by first | decide | omega, by first | decide | omega⟩) ⟨_, rfl, (by decide), ?_⟩
        refine x_ifz (k := 1) (tg := 51) (np := 49) (by decide +kernel) (by decide) (by decide) (fun q3775 => ?_) (fun q3776 => ?_)
        · have q3775 : 2147483648 ≠ 2147483648 := q3775
          exfalso; omega
        have q3776 : ¬ (2147483648 ≠ 2147483648) := q3776
        refine x_const (np := 50) (x := 9223372039002259456) (a := 2147483648) (by decide +kernel) (by decide) (by decide) ?_
        refine x_retI (np := 51) (x := 0) (by decide +kernel) (by decide) (Or.inr ⟨by decide +kernel, by first | decide | omega, by first | decide | omega⟩) ⟨_, rfl, (by decide), ?_⟩
        refine x_ifz (k := 0) (tg := 115) (np := 67) (by decide +kernel) (by decide) (by decide) (fun q3777 => ?_) (fun q3778 => ?_)
        · have q3777 : 2147483648 = 2147483648 := q3777
          refine x_iinc (np := 118) (i := 2) (j := 2147483649) (v := (1 + v3652)) (lo' := [x_r 45, iv_c a1, iv_c (1 + v3652), iv_c ((h ((h 45 5) + 2) (7 * u3693))), iv_c 2147483649]) (by decide +kernel) (by decide) (by decide) rfl (by first | decide | omega) (by first | decide | omega) (by first | decide | omega) rfl ?_
          refine x_goto (np := 121) (x := 2) (by decide +kernel) ?_
          exact i3661 (1 + v3652) (iv_c ((h ((h 45 5) + 2) (7 * u3693)))) (iv_c 2147483649) h3656 (by first | decide | omega) (by first | decide | omega) j3658 f3657
        have q3778 : ¬ (2147483648 = 2147483648) := q3778
        exfalso; omega
      have q3774 : ¬ (2147483654 ≤ ((h ((h 45 5) + 2) (1 + 7 * u3693)))) := q3774
      refine x_aload (np := 11) (x := 0) (by decide +kernel) rfl (x_nc_le (by decide)) ?_
      have q3779 : h3656 45 0 = 46 := by have z := jB (e := 0) 0 j3658 rg_45_0_0_1 (by decide) (by decide); omega
      refine x_getR (np := 14) (x := 64) (f := 0) (q := 46) (by decide +kernel) (by decide) (by decide +kernel) q3779 ?_
      refine x_iload (np := 15) (x := 1) (by decide +kernel) rfl l3753 ?_
      obtain ⟨u3780, q3781⟩ : ∃ z, ((h ((h 45 5) + 2) (1 + 7 * u3693))) = 2147483648 + z := ⟨((h ((h 45 5) + 2) (1 + 7 * u3693))) - 2147483648, by first | decide | omega⟩
      have q3782 : h3656 46 u3780 = h 46 u3780 := jK u3780 f3657 rg_46_0_1_6 (by first | decide | omega) (by first | decide | omega) (by decide)
      refine x_aldC (np := 16) (x := 0) (n := 6) (i := u3780) (q := (h 46 u3780)) (by decide +kernel) (by decide +kernel) (by first | decide | omega) (by first | decide | omega) (by decide) q3782 (fun l3783 => ?_)
      refine x_iload (np := 17) (x := 2) (by decide +kernel) rfl la1 ?_
      refine x_cP (t := 7) (mj := 148) (n := 2) (rc := 0) (ml := 2) (nr := 0) (np := 20) (as := [iv_c (h 46 u3780), iv_c a1]) (rest := []) (lo1 := [iv_c (h 46 u3780), iv_c a1]) (by decide +kernel) (by decide) (by decide +kernel) (Or.inl rfl) rfl rfl (x_wi l3783 (x_wi la1 x_wn)) x_wn (by decide) rfl (c148 j3658 (by first | decide | omega) (by first | decide | omega)) (fun v3784 l3785 q3786 => ?_)
      refine x_ifz (k := 0) (tg := 27) (np := 23) (by decide +kernel) (by decide) l3785 (fun q3787 => ?_) (fun q3788 => ?_)
      · have q3787 : v3784 = 2147483648 := q3787
        refine x_const (np := 28) (x := 9223372039002259456) (a := 2147483648) (by decide +kernel) (by decide) (by decide) ?_
        refine x_retI (np := 29) (x := 0) (by decide +kernel) (by decide) (Or.inr ⟨by decide +kernel, by first | decide | omega, by first | decide | omega⟩) ⟨_, rfl, (by decide), ?_⟩
        refine x_ifz (k := 1) (tg := 51) (np := 49) (by decide +kernel) (by decide) (by decide) (fun q3789 => ?_) (fun q3790 => ?_)
        · have q3789 : 2147483648 ≠ 2147483648 := q3789
          exfalso; omega
        have q3790 : ¬ (2147483648 ≠ 2147483648) := q3790
        refine x_const (np := 50) (x := 9223372039002259456) (a := 2147483648) (by decide +kernel) (by decide) (by decide) ?_
        refine x_retI (np := 51) (x := 0) (by decide +kernel) (by decide) (Or.inr ⟨by decide +kernel, by first | decide | omega, by first | decide | omega⟩) ⟨_, rfl, (by decide), ?_⟩
        refine x_ifz (k := 0) (tg := 115) (np := 67) (by decide +kernel) (by decide) (by decide) (fun q3791 => ?_) (fun q3792 => ?_)
        · have q3791 : 2147483648 = 2147483648 := q3791
          refine x_iinc (np := 118) (i := 2) (j := 2147483649) (v := (1 + v3652)) (lo' := [x_r 45, iv_c a1, iv_c (1 + v3652), iv_c ((h ((h 45 5) + 2) (7 * u3693))), iv_c 2147483649]) (by decide +kernel) (by decide) (by decide) rfl (by first | decide | omega) (by first | decide | omega) (by first | decide | omega) rfl ?_
          refine x_goto (np := 121) (x := 2) (by decide +kernel) ?_
          exact i3661 (1 + v3652) (iv_c ((h ((h 45 5) + 2) (7 * u3693)))) (iv_c 2147483649) h3656 (by first | decide | omega) (by first | decide | omega) j3658 f3657
        have q3792 : ¬ (2147483648 = 2147483648) := q3792
        exfalso; omega
      have q3788 : ¬ (v3784 = 2147483648) := q3788
      refine x_const (np := 24) (x := 9223372043297226753) (a := 2147483649) (by decide +kernel) (by decide) (by decide) ?_
      refine x_goto (np := 27) (x := 28) (by decide +kernel) ?_
      refine x_retI (np := 29) (x := 0) (by decide +kernel) (by decide) (Or.inr ⟨by decide +kernel, by first | decide | omega, by first | decide | omega⟩) ⟨_, rfl, (by decide), ?_⟩
      refine x_ifz (k := 1) (tg := 51) (np := 49) (by decide +kernel) (by decide) (by decide) (fun q3793 => ?_) (fun q3794 => ?_)
      · have q3793 : 2147483649 ≠ 2147483648 := q3793
        refine x_aload (np := 52) (x := 0) (by decide +kernel) rfl (x_nc_le (by decide)) ?_
        refine x_iload (np := 53) (x := 2) (by decide +kernel) rfl l3698 ?_
        refine x_iload (np := 54) (x := 3) (by decide +kernel) rfl la1 ?_
        refine x_cP (t := 6) (mj := 29) (n := 3) (rc := 2) (ml := 3) (nr := 0) (np := 57) (as := [x_r 45, iv_c ((h ((h 45 5) + 2) (7 * u3693))), iv_c a1]) (rest := []) (lo1 := [x_r 45, iv_c ((h ((h 45 5) + 2) (7 * u3693))), iv_c a1]) (by decide +kernel) (by decide) (by decide +kernel) (x_rb_of (by decide +kernel)) rfl rfl (x_wr (by decide) (x_wi l3698 (x_wi la1 x_wn))) x_wn (by decide) rfl (c29_45 j3658  (by first | decide | omega) (by first | decide | omega)) (fun v3795 l3796 q3797 => ?_)
        refine x_ifz (k := 0) (tg := 78) (np := 60) (by decide +kernel) (by decide) l3796 (fun q3798 => ?_) (fun q3799 => ?_)
        · have q3798 : v3795 = 2147483648 := q3798
          refine x_const (np := 79) (x := 9223372039002259456) (a := 2147483648) (by decide +kernel) (by decide) (by decide) ?_
          refine x_retI (np := 80) (x := 0) (by decide +kernel) (by decide) (Or.inr ⟨by decide +kernel, by first | decide | omega, by first | decide | omega⟩) ⟨_, rfl, (by decide), ?_⟩
          refine x_ifz (k := 0) (tg := 115) (np := 67) (by decide +kernel) (by decide) (by decide) (fun q3800 => ?_) (fun q3801 => ?_)
          · have q3800 : 2147483648 = 2147483648 := q3800
            refine x_iinc (np := 118) (i := 2) (j := 2147483649) (v := (1 + v3652)) (lo' := [x_r 45, iv_c a1, iv_c (1 + v3652), iv_c ((h ((h 45 5) + 2) (7 * u3693))), iv_c 2147483649]) (by decide +kernel) (by decide) (by decide) rfl (by first | decide | omega) (by first | decide | omega) (by first | decide | omega) rfl ?_
            refine x_goto (np := 121) (x := 2) (by decide +kernel) ?_
            exact i3661 (1 + v3652) (iv_c ((h ((h 45 5) + 2) (7 * u3693)))) (iv_c 2147483649) h3656 (by first | decide | omega) (by first | decide | omega) j3658 f3657
          have q3801 : ¬ (2147483648 = 2147483648) := q3801
          exfalso; omega
        have q3799 : ¬ (v3795 = 2147483648) := q3799
        refine x_iload (np := 62) (x := 4) (by decide +kernel) rfl l3729 ?_
        refine x_iload (np := 63) (x := 2) (by decide +kernel) rfl l3698 ?_
        refine x_icmp (k := 0) (tg := 74) (np := 66) (by decide +kernel) (by decide) l3729 l3698 (fun q3802 => ?_) (fun q3803 => ?_)
        · have q3802 : v3728 = ((h ((h 45 5) + 2) (7 * u3693))) := q3802
          refine x_const (np := 75) (x := 9223372043297226753) (a := 2147483649) (by decide +kernel) (by decide) (by decide) ?_
          refine x_goto (np := 78) (x := 79) (by decide +kernel) ?_
          refine x_retI (np := 80) (x := 0) (by decide +kernel) (by decide) (Or.inr ⟨by decide +kernel, by first | decide | omega, by first | decide | omega⟩) ⟨_, rfl, (by decide), ?_⟩
          refine x_ifz (k := 0) (tg := 115) (np := 67) (by decide +kernel) (by decide) (by decide) (fun q3804 => ?_) (fun q3805 => ?_)
          · have q3804 : 2147483649 = 2147483648 := q3804
            exfalso; omega
          have q3805 : ¬ (2147483649 = 2147483648) := q3805
          refine x_aload (np := 68) (x := 0) (by decide +kernel) rfl (x_nc_le (by decide)) ?_
          refine x_iload (np := 69) (x := 2) (by decide +kernel) rfl (by first | decide | omega) ?_
          refine x_iload (np := 70) (x := 3) (by decide +kernel) rfl l3698 ?_
          refine x_iload (np := 71) (x := 1) (by decide +kernel) rfl la1 ?_
          refine x_cI (t := 6) (mj := 24) (n := 4) (rc := 2) (ml := 6) (nr := 0) (np := 74) (as := [x_r 45, iv_c v3652, iv_c ((h ((h 45 5) + 2) (7 * u3693))), iv_c a1]) (rest := []) (lo1 := [x_r 45, iv_c v3652, iv_c ((h ((h 45 5) + 2) (7 * u3693))), iv_c a1, 147573952589676412928, 147573952589676412928]) (by decide +kernel) (by decide) (by decide +kernel) (x_rb_of (by decide +kernel)) rfl rfl (x_wr (by decide) (x_wi (by first | decide | omega) (x_wi l3698 (x_wi la1 x_wn)))) x_wn (by decide) rfl (c24_45 j3658  (by first | decide | omega) (by first | decide | omega) (by first | decide | omega)) (fun v3806 h3809 l3807 q3808 => ?_)
          obtain ⟨j3810, f3811, b3812⟩ := q3808
          have f3813 := Fr.trans f3662 f3811 (by decide)
          have f3814 := Fr.trans f3657 f3811 (by decide)
          refine x_ifz (k := 0) (tg := 115) (np := 77) (by decide +kernel) (by decide) l3807 (fun q3815 => ?_) (fun q3816 => ?_)
          · have q3815 : v3806 = 2147483648 := q3815
            refine x_iinc (np := 118) (i := 2) (j := 2147483649) (v := (1 + v3652)) (lo' := [x_r 45, iv_c a1, iv_c (1 + v3652), iv_c ((h ((h 45 5) + 2) (7 * u3693))), iv_c 2147483649]) (by decide +kernel) (by decide) (by decide) rfl (by first | decide | omega) (by first | decide | omega) (by first | decide | omega) rfl ?_
            refine x_goto (np := 121) (x := 2) (by decide +kernel) ?_
            exact i3661 (1 + v3652) (iv_c ((h ((h 45 5) + 2) (7 * u3693)))) (iv_c 2147483649) h3809 (by first | decide | omega) (by first | decide | omega) j3810 f3814
          have q3816 : ¬ (v3806 = 2147483648) := q3816
          refine x_aload (np := 78) (x := 0) (by decide +kernel) rfl (x_nc_le (by decide)) ?_
          have q3817 : h3809 45 2 = 48 := by have z := jB (e := 2) 0 j3810 rg_45_2_0_1 (by decide) (by decide); omega
          refine x_getR (np := 81) (x := 66) (f := 2) (q := 48) (by decide +kernel) (by decide) (by decide +kernel) q3817 ?_
          refine x_iload (np := 82) (x := 2) (by decide +kernel) rfl (by first | decide | omega) ?_
          refine x_aload (np := 83) (x := 0) (by decide +kernel) rfl (x_nc_le (by decide)) ?_
          refine x_iload (np := 84) (x := 3) (by decide +kernel) rfl l3698 ?_
          refine x_cP (t := 6) (mj := 32) (n := 2) (rc := 2) (ml := 2) (nr := 2) (np := 87) (as := [x_r 45, iv_c ((h ((h 45 5) + 2) (7 * u3693)))]) (rest := [iv_c v3652, x_r 48]) (lo1 := [x_r 45, iv_c ((h ((h 45 5) + 2) (7 * u3693)))]) (by decide +kernel) (by decide) (by decide +kernel) (x_rb_of (by decide +kernel)) rfl rfl (x_wr (by decide) (x_wi l3698 x_wn)) (x_wi (by first | decide | omega) (x_wr (by decide) x_wn)) (by decide) rfl (c32_45 j3810  (by first | decide | omega)) (fun v3818 l3819 q3820 => ?_)
          refine x_ast (np := 88) (x := 0) (kd := 1) (n := 20) (i := u3693) (by decide +kernel) (Or.inl rfl) (by decide +kernel) (by first | decide | omega) (by first | decide | omega) (by decide) l3819 (fun z => absurd z (by decide)) ?_
          have j3822 := jU (e := u3693) (v := v3818) u3693 j3810 rg_48_0_1_20 (by first | decide | omega) (by first | decide | omega) (by first | decide | omega)
          have f3824 := jF (e := u3693) (v := v3818) u3693 f3813 rg_48_0_1_20 (by first | decide | omega) (by first | decide | omega) (by decide)
          have f3825 := jF (e := u3693) (v := v3818) u3693 f3814 rg_48_0_1_20 (by first | decide | omega) (by first | decide | omega) (by decide)
          generalize e3823 : x_up h3809 48 u3693 v3818 = h3821 at j3822 f3824 f3825 ⊢
          refine x_aload (np := 89) (x := 0) (by decide +kernel) rfl (x_nc_le (by decide)) ?_
          have q3826 : h3821 45 11 = 56 := by have z := jB (e := 11) 0 j3822 rg_45_11_0_1 (by decide) (by decide); omega
          refine x_getR (np := 92) (x := 75) (f := 11) (q := 56) (by decide +kernel) (by decide) (by decide +kernel) q3826 ?_
          refine x_iload (np := 93) (x := 3) (by decide +kernel) rfl l3698 ?_
          refine x_const (np := 95) (x := 9223372124901605396) (a := 2147483668) (by decide +kernel) (by decide) (by decide) ?_
          refine x_imul (np := 96) (x := 0) (i := u3755) (j := 20) (v := (2147483648 + 20 * u3755)) (by decide +kernel) (by first | decide | omega) (by first | decide | omega) (by first | decide | omega) (by first | decide | omega) l3698 (by decide) ?_
          refine x_aload (np := 97) (x := 0) (by decide +kernel) rfl (x_nc_le (by decide)) ?_
          have q3828 : h3821 45 12 = 57 := by have z := jB (e := 12) 0 j3822 rg_45_12_0_1 (by decide) (by decide); omega
          refine x_getR (np := 100) (x := 76) (f := 12) (q := 57) (by decide +kernel) (by decide) (by decide +kernel) q3828 ?_
          refine x_iload (np := 101) (x := 3) (by decide +kernel) rfl l3698 ?_
          have q3829 : h3821 57 u3755 = h3809 57 u3755 := by rw [← e3823]; exact x_up_k (by decide)
          have q3830 : h3809 57 u3755 = h3656 57 u3755 := jK u3755 f3811 rg_57_0_1_6 (by first | decide | omega) (by first | decide | omega) (by decide)
          refine x_aldC (np := 102) (x := 0) (n := 6) (i := u3755) (q := (h3656 57 u3755)) (by decide +kernel) (by decide +kernel) (by first | decide | omega) (by first | decide | omega) (by decide) (q3829.trans q3830) (fun l3831 => ?_)
          refine x_iadd (np := 103) (x := 0) (v := (20 * u3755 + (h3656 57 u3755))) (by decide +kernel) (by first | decide | omega) l3758 (by first | decide | omega) (by first | decide | omega) ?_
          refine x_iload (np := 104) (x := 2) (by decide +kernel) rfl (by first | decide | omega) ?_
          obtain ⟨u3832, q3833⟩ : ∃ z, (h3656 57 u3755) = 2147483648 + z := ⟨(h3656 57 u3755) - 2147483648, by first | decide | omega⟩
          refine x_ast (np := 105) (x := 0) (kd := 1) (n := 120) (i := (20 * u3755 + u3832)) (by decide +kernel) (Or.inl rfl) (by decide +kernel) (by first | decide | omega) (by first | decide | omega) (by decide) (by first | decide | omega) (fun z => absurd z (by decide)) ?_
          have j3835 := jU (e := (20 * u3755 + u3832)) (v := v3652) (20 * u3755 + u3832) j3822 rg_56_0_1_120 (by first | decide | omega) (by first | decide | omega) (by first | decide | omega)
          have f3837 := jF (e := (20 * u3755 + u3832)) (v := v3652) (20 * u3755 + u3832) f3824 rg_56_0_1_120 (by first | decide | omega) (by first | decide | omega) (by decide)
          have f3838 := jF (e := (20 * u3755 + u3832)) (v := v3652) (20 * u3755 + u3832) f3825 rg_56_0_1_120 (by first | decide | omega) (by first | decide | omega) (by decide)
          generalize e3836 : x_up h3821 56 (20 * u3755 + u3832) v3652 = h3834 at j3835 f3837 f3838 ⊢
          refine x_aload (np := 106) (x := 0) (by decide +kernel) rfl (x_nc_le (by decide)) ?_
          have q3839 : h3834 45 12 = 57 := by have z := jB (e := 12) 0 j3835 rg_45_12_0_1 (by decide) (by decide); omega
          refine x_getR (np := 109) (x := 76) (f := 12) (q := 57) (by decide +kernel) (by decide) (by decide +kernel) q3839 ?_
          refine x_iload (np := 110) (x := 3) (by decide +kernel) rfl l3698 ?_
          refine x_dup2 (np := 111) (x := 0) (by decide +kernel) (by have z := (iw_c_lt (a := ((h ((h 45 5) + 2) (7 * u3693)))) l3698).1; omega) (by have z := x_nc_le (k := 57) (by decide); unfold x_r; omega) ?_
          have q3840 : h3834 57 u3755 = h3821 57 u3755 := by rw [← e3836]; exact x_up_k (by decide)
          have q3841 : h3821 57 u3755 = h3809 57 u3755 := by rw [← e3823]; exact x_up_k (by decide)
          have q3842 : h3809 57 u3755 = h3656 57 u3755 := jK u3755 f3811 rg_57_0_1_6 (by first | decide | omega) (by first | decide | omega) (by decide)
          refine x_aldC (np := 112) (x := 0) (n := 6) (i := u3755) (q := (h3656 57 u3755)) (by decide +kernel) (by decide +kernel) (by first | decide | omega) (by first | decide | omega) (by decide) ((q3840.trans q3841).trans q3842) (fun l3843 => ?_)
          refine x_const (np := 113) (x := 9223372043297226753) (a := 2147483649) (by decide +kernel) (by decide) (by decide) ?_
          refine x_iadd (np := 114) (x := 0) (v := (1 + (h3656 57 u3755))) (by decide +kernel) l3758 (by decide) (by first | decide | omega) (by first | decide | omega) ?_
          refine x_ast (np := 115) (x := 0) (kd := 1) (n := 6) (i := u3755) (by decide +kernel) (Or.inl rfl) (by decide +kernel) (by first | decide | omega) (by first | decide | omega) (by decide) (by first | decide | omega) (fun z => absurd z (by decide)) ?_
          have j3845 := jU (e := u3755) (v := (1 + (h3656 57 u3755))) u3755 j3835 rg_57_0_1_6 (by first | decide | omega) (by first | decide | omega) (by first | decide | omega)
          have f3847 := jF (e := u3755) (v := (1 + (h3656 57 u3755))) u3755 f3837 rg_57_0_1_6 (by first | decide | omega) (by first | decide | omega) (by decide)
          have f3848 := jF (e := u3755) (v := (1 + (h3656 57 u3755))) u3755 f3838 rg_57_0_1_6 (by first | decide | omega) (by first | decide | omega) (by decide)
          generalize e3846 : x_up h3834 57 u3755 (1 + (h3656 57 u3755)) = h3844 at j3845 f3847 f3848 ⊢
          refine x_iinc (np := 118) (i := 2) (j := 2147483649) (v := (1 + v3652)) (lo' := [x_r 45, iv_c a1, iv_c (1 + v3652), iv_c ((h ((h 45 5) + 2) (7 * u3693))), iv_c 2147483649]) (by decide +kernel) (by decide) (by decide) rfl (by first | decide | omega) (by first | decide | omega) (by first | decide | omega) rfl ?_
          refine x_goto (np := 121) (x := 2) (by decide +kernel) ?_
          exact i3661 (1 + v3652) (iv_c ((h ((h 45 5) + 2) (7 * u3693)))) (iv_c 2147483649) h3844 (by first | decide | omega) (by first | decide | omega) j3845 f3848
        have q3803 : ¬ (v3728 = ((h ((h 45 5) + 2) (7 * u3693)))) := q3803
        refine x_aload (np := 67) (x := 0) (by decide +kernel) rfl (x_nc_le (by decide)) ?_
        refine x_iload (np := 68) (x := 2) (by decide +kernel) rfl l3698 ?_
        refine x_cP (t := 6) (mj := 23) (n := 2) (rc := 2) (ml := 2) (nr := 0) (np := 71) (as := [x_r 45, iv_c ((h ((h 45 5) + 2) (7 * u3693)))]) (rest := []) (lo1 := [x_r 45, iv_c ((h ((h 45 5) + 2) (7 * u3693)))]) (by decide +kernel) (by decide) (by decide +kernel) (x_rb_of (by decide +kernel)) rfl rfl (x_wr (by decide) (x_wi l3698 x_wn)) x_wn (by decide) rfl (c23_45 j3658  (by first | decide | omega)) (fun v3849 l3850 q3851 => ?_)
        refine x_ifz (k := 0) (tg := 78) (np := 74) (by decide +kernel) (by decide) l3850 (fun q3852 => ?_) (fun q3853 => ?_)
        · have q3852 : v3849 = 2147483648 := q3852
          refine x_const (np := 79) (x := 9223372039002259456) (a := 2147483648) (by decide +kernel) (by decide) (by decide) ?_
          refine x_retI (np := 80) (x := 0) (by decide +kernel) (by decide) (Or.inr ⟨by decide +kernel, by first | decide | omega, by first | decide | omega⟩) ⟨_, rfl, (by decide), ?_⟩
          refine x_ifz (k := 0) (tg := 115) (np := 67) (by decide +kernel) (by decide) (by decide) (fun q3854 => ?_) (fun q3855 => ?_)
          · have q3854 : 2147483648 = 2147483648 := q3854
            refine x_iinc (np := 118) (i := 2) (j := 2147483649) (v := (1 + v3652)) (lo' := [x_r 45, iv_c a1, iv_c (1 + v3652), iv_c ((h ((h 45 5) + 2) (7 * u3693))), iv_c 2147483649]) (by decide +kernel) (by decide) (by decide) rfl (by first | decide | omega) (by first | decide | omega) (by first | decide | omega) rfl ?_
            refine x_goto (np := 121) (x := 2) (by decide +kernel) ?_
            exact i3661 (1 + v3652) (iv_c ((h ((h 45 5) + 2) (7 * u3693)))) (iv_c 2147483649) h3656 (by first | decide | omega) (by first | decide | omega) j3658 f3657
          have q3855 : ¬ (2147483648 = 2147483648) := q3855
          exfalso; omega
        have q3853 : ¬ (v3849 = 2147483648) := q3853
        refine x_const (np := 75) (x := 9223372043297226753) (a := 2147483649) (by decide +kernel) (by decide) (by decide) ?_
        refine x_goto (np := 78) (x := 79) (by decide +kernel) ?_
        refine x_retI (np := 80) (x := 0) (by decide +kernel) (by decide) (Or.inr ⟨by decide +kernel, by first | decide | omega, by first | decide | omega⟩) ⟨_, rfl, (by decide), ?_⟩
        refine x_ifz (k := 0) (tg := 115) (np := 67) (by decide +kernel) (by decide) (by decide) (fun q3856 => ?_) (fun q3857 => ?_)
        · have q3856 : 2147483649 = 2147483648 := q3856
          exfalso; omega
        have q3857 : ¬ (2147483649 = 2147483648) := q3857
        refine x_aload (np := 68) (x := 0) (by decide +kernel) rfl (x_nc_le (by decide)) ?_
        refine x_iload (np := 69) (x := 2) (by decide +kernel) rfl (by first | decide | omega) ?_
        refine x_iload (np := 70) (x := 3) (by decide +kernel) rfl l3698 ?_
        refine x_iload (np := 71) (x := 1) (by decide +kernel) rfl la1 ?_
        refine x_cI (t := 6) (mj := 24) (n := 4) (rc := 2) (ml := 6) (nr := 0) (np := 74) (as := [x_r 45, iv_c v3652, iv_c ((h ((h 45 5) + 2) (7 * u3693))), iv_c a1]) (rest := []) (lo1 := [x_r 45, iv_c v3652, iv_c ((h ((h 45 5) + 2) (7 * u3693))), iv_c a1, 147573952589676412928, 147573952589676412928]) (by decide +kernel) (by decide) (by decide +kernel) (x_rb_of (by decide +kernel)) rfl rfl (x_wr (by decide) (x_wi (by first | decide | omega) (x_wi l3698 (x_wi la1 x_wn)))) x_wn (by decide) rfl (c24_45 j3658  (by first | decide | omega) (by first | decide | omega) (by first | decide | omega)) (fun v3858 h3861 l3859 q3860 => ?_)
        obtain ⟨j3862, f3863, b3864⟩ := q3860
        have f3865 := Fr.trans f3662 f3863 (by decide)
        have f3866 := Fr.trans f3657 f3863 (by decide)
        refine x_ifz (k := 0) (tg := 115) (np := 77) (by decide +kernel) (by decide) l3859 (fun q3867 => ?_) (fun q3868 => ?_)
        · have q3867 : v3858 = 2147483648 := q3867
          refine x_iinc (np := 118) (i := 2) (j := 2147483649) (v := (1 + v3652)) (lo' := [x_r 45, iv_c a1, iv_c (1 + v3652), iv_c ((h ((h 45 5) + 2) (7 * u3693))), iv_c 2147483649]) (by decide +kernel) (by decide) (by decide) rfl (by first | decide | omega) (by first | decide | omega) (by first | decide | omega) rfl ?_
          refine x_goto (np := 121) (x := 2) (by decide +kernel) ?_
          exact i3661 (1 + v3652) (iv_c ((h ((h 45 5) + 2) (7 * u3693)))) (iv_c 2147483649) h3861 (by first | decide | omega) (by first | decide | omega) j3862 f3866
        have q3868 : ¬ (v3858 = 2147483648) := q3868
        refine x_aload (np := 78) (x := 0) (by decide +kernel) rfl (x_nc_le (by decide)) ?_
        have q3869 : h3861 45 2 = 48 := by have z := jB (e := 2) 0 j3862 rg_45_2_0_1 (by decide) (by decide); omega
        refine x_getR (np := 81) (x := 66) (f := 2) (q := 48) (by decide +kernel) (by decide) (by decide +kernel) q3869 ?_
        refine x_iload (np := 82) (x := 2) (by decide +kernel) rfl (by first | decide | omega) ?_
        refine x_aload (np := 83) (x := 0) (by decide +kernel) rfl (x_nc_le (by decide)) ?_
        refine x_iload (np := 84) (x := 3) (by decide +kernel) rfl l3698 ?_
        refine x_cP (t := 6) (mj := 32) (n := 2) (rc := 2) (ml := 2) (nr := 2) (np := 87) (as := [x_r 45, iv_c ((h ((h 45 5) + 2) (7 * u3693)))]) (rest := [iv_c v3652, x_r 48]) (lo1 := [x_r 45, iv_c ((h ((h 45 5) + 2) (7 * u3693)))]) (by decide +kernel) (by decide) (by decide +kernel) (x_rb_of (by decide +kernel)) rfl rfl (x_wr (by decide) (x_wi l3698 x_wn)) (x_wi (by first | decide | omega) (x_wr (by decide) x_wn)) (by decide) rfl (c32_45 j3862  (by first | decide | omega)) (fun v3870 l3871 q3872 => ?_)
        refine x_ast (np := 88) (x := 0) (kd := 1) (n := 20) (i := u3693) (by decide +kernel) (Or.inl rfl) (by decide +kernel) (by first | decide | omega) (by first | decide | omega) (by decide) l3871 (fun z => absurd z (by decide)) ?_
        have j3874 := jU (e := u3693) (v := v3870) u3693 j3862 rg_48_0_1_20 (by first | decide | omega) (by first | decide | omega) (by first | decide | omega)
        have f3876 := jF (e := u3693) (v := v3870) u3693 f3865 rg_48_0_1_20 (by first | decide | omega) (by first | decide | omega) (by decide)
        have f3877 := jF (e := u3693) (v := v3870) u3693 f3866 rg_48_0_1_20 (by first | decide | omega) (by first | decide | omega) (by decide)
        generalize e3875 : x_up h3861 48 u3693 v3870 = h3873 at j3874 f3876 f3877 ⊢
        refine x_aload (np := 89) (x := 0) (by decide +kernel) rfl (x_nc_le (by decide)) ?_
        have q3878 : h3873 45 11 = 56 := by have z := jB (e := 11) 0 j3874 rg_45_11_0_1 (by decide) (by decide); omega
        refine x_getR (np := 92) (x := 75) (f := 11) (q := 56) (by decide +kernel) (by decide) (by decide +kernel) q3878 ?_
        refine x_iload (np := 93) (x := 3) (by decide +kernel) rfl l3698 ?_
        refine x_const (np := 95) (x := 9223372124901605396) (a := 2147483668) (by decide +kernel) (by decide) (by decide) ?_
        refine x_imul (np := 96) (x := 0) (i := u3755) (j := 20) (v := (2147483648 + 20 * u3755)) (by decide +kernel) (by first | decide | omega) (by first | decide | omega) (by first | decide | omega) (by first | decide | omega) l3698 (by decide) ?_
        refine x_aload (np := 97) (x := 0) (by decide +kernel) rfl (x_nc_le (by decide)) ?_
        have q3880 : h3873 45 12 = 57 := by have z := jB (e := 12) 0 j3874 rg_45_12_0_1 (by decide) (by decide); omega
        refine x_getR (np := 100) (x := 76) (f := 12) (q := 57) (by decide +kernel) (by decide) (by decide +kernel) q3880 ?_
        refine x_iload (np := 101) (x := 3) (by decide +kernel) rfl l3698 ?_
        have q3881 : h3873 57 u3755 = h3861 57 u3755 := by rw [← e3875]; exact x_up_k (by decide)
        have q3882 : h3861 57 u3755 = h3656 57 u3755 := jK u3755 f3863 rg_57_0_1_6 (by first | decide | omega) (by first | decide | omega) (by decide)
        refine x_aldC (np := 102) (x := 0) (n := 6) (i := u3755) (q := (h3656 57 u3755)) (by decide +kernel) (by decide +kernel) (by first | decide | omega) (by first | decide | omega) (by decide) (q3881.trans q3882) (fun l3883 => ?_)
        refine x_iadd (np := 103) (x := 0) (v := (20 * u3755 + (h3656 57 u3755))) (by decide +kernel) (by first | decide | omega) l3758 (by first | decide | omega) (by first | decide | omega) ?_
        refine x_iload (np := 104) (x := 2) (by decide +kernel) rfl (by first | decide | omega) ?_
        obtain ⟨u3884, q3885⟩ : ∃ z, (h3656 57 u3755) = 2147483648 + z := ⟨(h3656 57 u3755) - 2147483648, by first | decide | omega⟩
        refine x_ast (np := 105) (x := 0) (kd := 1) (n := 120) (i := (20 * u3755 + u3884)) (by decide +kernel) (Or.inl rfl) (by decide +kernel) (by first | decide | omega) (by first | decide | omega) (by decide) (by first | decide | omega) (fun z => absurd z (by decide)) ?_
        have j3887 := jU (e := (20 * u3755 + u3884)) (v := v3652) (20 * u3755 + u3884) j3874 rg_56_0_1_120 (by first | decide | omega) (by first | decide | omega) (by first | decide | omega)
        have f3889 := jF (e := (20 * u3755 + u3884)) (v := v3652) (20 * u3755 + u3884) f3876 rg_56_0_1_120 (by first | decide | omega) (by first | decide | omega) (by decide)
        have f3890 := jF (e := (20 * u3755 + u3884)) (v := v3652) (20 * u3755 + u3884) f3877 rg_56_0_1_120 (by first | decide | omega) (by first | decide | omega) (by decide)
        generalize e3888 : x_up h3873 56 (20 * u3755 + u3884) v3652 = h3886 at j3887 f3889 f3890 ⊢
        refine x_aload (np := 106) (x := 0) (by decide +kernel) rfl (x_nc_le (by decide)) ?_
        have q3891 : h3886 45 12 = 57 := by have z := jB (e := 12) 0 j3887 rg_45_12_0_1 (by decide) (by decide); omega
        refine x_getR (np := 109) (x := 76) (f := 12) (q := 57) (by decide +kernel) (by decide) (by decide +kernel) q3891 ?_
        refine x_iload (np := 110) (x := 3) (by decide +kernel) rfl l3698 ?_
        refine x_dup2 (np := 111) (x := 0) (by decide +kernel) (by have z := (iw_c_lt (a := ((h ((h 45 5) + 2) (7 * u3693)))) l3698).1; omega) (by have z := x_nc_le (k := 57) (by decide); unfold x_r; omega) ?_
        have q3892 : h3886 57 u3755 = h3873 57 u3755 := by rw [← e3888]; exact x_up_k (by decide)
        have q3893 : h3873 57 u3755 = h3861 57 u3755 := by rw [← e3875]; exact x_up_k (by decide)
        have q3894 : h3861 57 u3755 = h3656 57 u3755 := jK u3755 f3863 rg_57_0_1_6 (by first | decide | omega) (by first | decide | omega) (by decide)
        refine x_aldC (np := 112) (x := 0) (n := 6) (i := u3755) (q := (h3656 57 u3755)) (by decide +kernel) (by decide +kernel) (by first | decide | omega) (by first | decide | omega) (by decide) ((q3892.trans q3893).trans q3894) (fun l3895 => ?_)
        refine x_const (np := 113) (x := 9223372043297226753) (a := 2147483649) (by decide +kernel) (by decide) (by decide) ?_
        refine x_iadd (np := 114) (x := 0) (v := (1 + (h3656 57 u3755))) (by decide +kernel) l3758 (by decide) (by first | decide | omega) (by first | decide | omega) ?_
        refine x_ast (np := 115) (x := 0) (kd := 1) (n := 6) (i := u3755) (by decide +kernel) (Or.inl rfl) (by decide +kernel) (by first | decide | omega) (by first | decide | omega) (by decide) (by first | decide | omega) (fun z => absurd z (by decide)) ?_
        have j3897 := jU (e := u3755) (v := (1 + (h3656 57 u3755))) u3755 j3887 rg_57_0_1_6 (by first | decide | omega) (by first | decide | omega) (by first | decide | omega)
        have f3899 := jF (e := u3755) (v := (1 + (h3656 57 u3755))) u3755 f3889 rg_57_0_1_6 (by first | decide | omega) (by first | decide | omega) (by decide)
        have f3900 := jF (e := u3755) (v := (1 + (h3656 57 u3755))) u3755 f3890 rg_57_0_1_6 (by first | decide | omega) (by first | decide | omega) (by decide)
        generalize e3898 : x_up h3886 57 u3755 (1 + (h3656 57 u3755)) = h3896 at j3897 f3899 f3900 ⊢
        refine x_iinc (np := 118) (i := 2) (j := 2147483649) (v := (1 + v3652)) (lo' := [x_r 45, iv_c a1, iv_c (1 + v3652), iv_c ((h ((h 45 5) + 2) (7 * u3693))), iv_c 2147483649]) (by decide +kernel) (by decide) (by decide) rfl (by first | decide | omega) (by first | decide | omega) (by first | decide | omega) rfl ?_
        refine x_goto (np := 121) (x := 2) (by decide +kernel) ?_
        exact i3661 (1 + v3652) (iv_c ((h ((h 45 5) + 2) (7 * u3693)))) (iv_c 2147483649) h3896 (by first | decide | omega) (by first | decide | omega) j3897 f3900
      have q3794 : ¬ (2147483649 ≠ 2147483648) := q3794
      exfalso; omega
  exact p3659 _ 2147483648 147573952589676412928 147573952589676412928 h (Nat.lt_succ_self _) (by first | decide | omega) hJ (Fr.refl _ _)
set_option maxHeartbeats 0 in
/-- LentNames$Calendar.stateNow(II)I -/
theorem c28_45 {sc : Nat × Nat} {d a1 a2 : Nat} {h : xh} (hJ : J h) (ba1 : 2147483648 ≤ a1 ∧ a1 ≤ 2147483653) (ba2 : 2147483648 ≤ a2 ∧ a2 ≤ 2147483659) : X sc 28 (d + 2) (xI fun r h' => h' = h ∧ (2147483648 ≤ r ∧ r ≤ 2147483651)) 0 0 0 [x_r 45, iv_c a1, iv_c a2] [] h := by
  have la1 : a1 < 4294967296 := by first | decide | omega
  have la2 : a2 < 4294967296 := by first | decide | omega
  refine x_aload (np := 1) (x := 0) (by decide +kernel) rfl (x_nc_le (by decide)) ?_
  refine x_aload (np := 2) (x := 0) (by decide +kernel) rfl (x_nc_le (by decide)) ?_
  refine x_iload (np := 3) (x := 1) (by decide +kernel) rfl la1 ?_
  refine x_cP (t := 6) (mj := 32) (n := 2) (rc := 2) (ml := 2) (nr := 1) (np := 6) (as := [x_r 45, iv_c a1]) (rest := [x_r 45]) (lo1 := [x_r 45, iv_c a1]) (by decide +kernel) (by decide) (by decide +kernel) (x_rb_of (by decide +kernel)) rfl rfl (x_wr (by decide) (x_wi la1 x_wn)) (x_wr (by decide) x_wn) (by decide) rfl (c32_45 hJ  (by first | decide | omega)) (fun v1 l2 q3 => ?_)
  refine x_iload (np := 7) (x := 2) (by decide +kernel) rfl la2 ?_
  refine x_nI (t := 6) (mj := 31) (n := 3) (rc := 2) (ml := 3) (nr := 0) (np := 10) (as := [x_r 45, iv_c v1, iv_c a2]) (rest := []) (lo1 := [x_r 45, iv_c v1, iv_c a2]) (by decide +kernel) (by decide) (by decide +kernel) (x_rb_of (by decide +kernel)) rfl rfl (x_wr (by decide) (x_wi l2 (x_wi la2 x_wn))) x_wn (by decide) rfl ?_
  refine x_iload (np := 1) (x := 1) (by decide +kernel) rfl l2 ?_
  refine x_ifz (k := 2) (tg := 27) (np := 4) (by decide +kernel) (by decide) l2 (fun q4 => ?_) (fun q5 => ?_)
  · have q4 : v1 < 2147483648 := q4
    refine x_const (np := 28) (x := 9223372039002259456) (a := 2147483648) (by decide +kernel) (by decide) (by decide) ?_
    refine x_retI (np := 29) (x := 0) (by decide +kernel) (by decide) (Or.inr ⟨by decide +kernel, by first | decide | omega, by first | decide | omega⟩) ⟨_, rfl, (by decide), ?_⟩
    refine x_ifz (k := 1) (tg := 15) (np := 13) (by decide +kernel) (by decide) (by decide) (fun q6 => ?_) (fun q7 => ?_)
    · have q6 : 2147483648 ≠ 2147483648 := q6
      exfalso; omega
    have q7 : ¬ (2147483648 ≠ 2147483648) := q7
    refine x_const (np := 14) (x := 9223372051887161347) (a := 2147483651) (by decide +kernel) (by decide) (by decide) ?_
    refine x_retI (np := 15) (x := 0) (by decide +kernel) (by decide) (Or.inl (by decide +kernel)) ⟨_, rfl, (by decide), ?_⟩
    exact ⟨rfl, (by first | decide | omega)⟩
  have q5 : ¬ (v1 < 2147483648) := q5
  refine x_iload (np := 5) (x := 1) (by decide +kernel) rfl l2 ?_
  refine x_const (np := 7) (x := 9223372064772063238) (a := 2147483654) (by decide +kernel) (by decide) (by decide) ?_
  refine x_icmp (k := 3) (tg := 27) (np := 10) (by decide +kernel) (by decide) l2 (by decide) (fun q8 => ?_) (fun q9 => ?_)
  · have q8 : 2147483654 ≤ v1 := q8
    refine x_const (np := 28) (x := 9223372039002259456) (a := 2147483648) (by decide +kernel) (by decide) (by decide) ?_
    refine x_retI (np := 29) (x := 0) (by decide +kernel) (by decide) (Or.inr ⟨by decide +kernel, by first | decide | omega, by first | decide | omega⟩) ⟨_, rfl, (by decide), ?_⟩
    refine x_ifz (k := 1) (tg := 15) (np := 13) (by decide +kernel) (by decide) (by decide) (fun q10 => ?_) (fun q11 => ?_)
    · have q10 : 2147483648 ≠ 2147483648 := q10
      exfalso; omega
    have q11 : ¬ (2147483648 ≠ 2147483648) := q11
    refine x_const (np := 14) (x := 9223372051887161347) (a := 2147483651) (by decide +kernel) (by decide) (by decide) ?_
    refine x_retI (np := 15) (x := 0) (by decide +kernel) (by decide) (Or.inl (by decide +kernel)) ⟨_, rfl, (by decide), ?_⟩
    exact ⟨rfl, (by first | decide | omega)⟩
  have q9 : ¬ (2147483654 ≤ v1) := q9
  refine x_aload (np := 11) (x := 0) (by decide +kernel) rfl (x_nc_le (by decide)) ?_
  have q12 : h 45 0 = 46 := by have z := jB (e := 0) 0 hJ rg_45_0_0_1 (by decide) (by decide); omega
  refine x_getR (np := 14) (x := 64) (f := 0) (q := 46) (by decide +kernel) (by decide) (by decide +kernel) q12 ?_
  refine x_iload (np := 15) (x := 1) (by decide +kernel) rfl l2 ?_
  obtain ⟨u13, q14⟩ : ∃ z, v1 = 2147483648 + z := ⟨v1 - 2147483648, by first | decide | omega⟩
  refine x_aldC (np := 16) (x := 0) (n := 6) (i := u13) (q := (h 46 u13)) (by decide +kernel) (by decide +kernel) (by first | decide | omega) (by first | decide | omega) (by decide) rfl (fun l15 => ?_)
  refine x_iload (np := 17) (x := 2) (by decide +kernel) rfl la2 ?_
  refine x_cP (t := 7) (mj := 148) (n := 2) (rc := 0) (ml := 2) (nr := 0) (np := 20) (as := [iv_c (h 46 u13), iv_c a2]) (rest := []) (lo1 := [iv_c (h 46 u13), iv_c a2]) (by decide +kernel) (by decide) (by decide +kernel) (Or.inl rfl) rfl rfl (x_wi l15 (x_wi la2 x_wn)) x_wn (by decide) rfl (c148 hJ (by first | decide | omega) (by first | decide | omega)) (fun v16 l17 q18 => ?_)
  refine x_ifz (k := 0) (tg := 27) (np := 23) (by decide +kernel) (by decide) l17 (fun q19 => ?_) (fun q20 => ?_)
  · have q19 : v16 = 2147483648 := q19
    refine x_const (np := 28) (x := 9223372039002259456) (a := 2147483648) (by decide +kernel) (by decide) (by decide) ?_
    refine x_retI (np := 29) (x := 0) (by decide +kernel) (by decide) (Or.inr ⟨by decide +kernel, by first | decide | omega, by first | decide | omega⟩) ⟨_, rfl, (by decide), ?_⟩
    refine x_ifz (k := 1) (tg := 15) (np := 13) (by decide +kernel) (by decide) (by decide) (fun q21 => ?_) (fun q22 => ?_)
    · have q21 : 2147483648 ≠ 2147483648 := q21
      exfalso; omega
    have q22 : ¬ (2147483648 ≠ 2147483648) := q22
    refine x_const (np := 14) (x := 9223372051887161347) (a := 2147483651) (by decide +kernel) (by decide) (by decide) ?_
    refine x_retI (np := 15) (x := 0) (by decide +kernel) (by decide) (Or.inl (by decide +kernel)) ⟨_, rfl, (by decide), ?_⟩
    exact ⟨rfl, (by first | decide | omega)⟩
  have q20 : ¬ (v16 = 2147483648) := q20
  refine x_const (np := 24) (x := 9223372043297226753) (a := 2147483649) (by decide +kernel) (by decide) (by decide) ?_
  refine x_goto (np := 27) (x := 28) (by decide +kernel) ?_
  refine x_retI (np := 29) (x := 0) (by decide +kernel) (by decide) (Or.inr ⟨by decide +kernel, by first | decide | omega, by first | decide | omega⟩) ⟨_, rfl, (by decide), ?_⟩
  refine x_ifz (k := 1) (tg := 15) (np := 13) (by decide +kernel) (by decide) (by decide) (fun q23 => ?_) (fun q24 => ?_)
  · have q23 : 2147483649 ≠ 2147483648 := q23
    refine x_aload (np := 16) (x := 0) (by decide +kernel) rfl (x_nc_le (by decide)) ?_
    have q25 : h 45 12 = 57 := by have z := jB (e := 12) 0 hJ rg_45_12_0_1 (by decide) (by decide); omega
    refine x_getR (np := 19) (x := 76) (f := 12) (q := 57) (by decide +kernel) (by decide) (by decide +kernel) q25 ?_
    refine x_iload (np := 20) (x := 1) (by decide +kernel) rfl la1 ?_
    obtain ⟨u26, q27⟩ : ∃ z, a1 = 2147483648 + z := ⟨a1 - 2147483648, by first | decide | omega⟩
    have b28 := jB (e := u26) u26 hJ rg_57_0_1_6 (by first | decide | omega) (by first | decide | omega)
    refine x_aldC (np := 21) (x := 0) (n := 6) (i := u26) (q := (h 57 u26)) (by decide +kernel) (by decide +kernel) (by first | decide | omega) (by first | decide | omega) (by decide) rfl (fun l29 => ?_)
    refine x_ifz (k := 1) (tg := 26) (np := 24) (by decide +kernel) (by decide) l29 (fun q30 => ?_) (fun q31 => ?_)
    · have q30 : (h 57 u26) ≠ 2147483648 := q30
      refine x_aload (np := 27) (x := 0) (by decide +kernel) rfl (x_nc_le (by decide)) ?_
      refine x_iload (np := 28) (x := 1) (by decide +kernel) rfl la1 ?_
      refine x_iload (np := 29) (x := 2) (by decide +kernel) rfl la2 ?_
      refine x_cP (t := 6) (mj := 30) (n := 3) (rc := 2) (ml := 4) (nr := 0) (np := 32) (as := [x_r 45, iv_c a1, iv_c a2]) (rest := []) (lo1 := [x_r 45, iv_c a1, iv_c a2, 147573952589676412928]) (by decide +kernel) (by decide) (by decide +kernel) (x_rb_of (by decide +kernel)) rfl rfl (x_wr (by decide) (x_wi la1 (x_wi la2 x_wn))) x_wn (by decide) rfl (c30_45 hJ  (by first | decide | omega) (by first | decide | omega)) (fun v32 l33 q34 => ?_)
      refine x_ifz (k := 0) (tg := 39) (np := 35) (by decide +kernel) (by decide) l33 (fun q35 => ?_) (fun q36 => ?_)
      · have q35 : v32 = 2147483648 := q35
        refine x_const (np := 40) (x := 9223372043297226753) (a := 2147483649) (by decide +kernel) (by decide) (by decide) ?_
        refine x_retI (np := 41) (x := 0) (by decide +kernel) (by decide) (Or.inl (by decide +kernel)) ⟨_, rfl, (by decide), ?_⟩
        exact ⟨rfl, (by first | decide | omega)⟩
      have q36 : ¬ (v32 = 2147483648) := q36
      refine x_const (np := 36) (x := 9223372047592194050) (a := 2147483650) (by decide +kernel) (by decide) (by decide) ?_
      refine x_goto (np := 39) (x := 40) (by decide +kernel) ?_
      refine x_retI (np := 41) (x := 0) (by decide +kernel) (by decide) (Or.inl (by decide +kernel)) ⟨_, rfl, (by decide), ?_⟩
      exact ⟨rfl, (by first | decide | omega)⟩
    have q31 : ¬ ((h 57 u26) ≠ 2147483648) := q31
    refine x_const (np := 25) (x := 9223372039002259456) (a := 2147483648) (by decide +kernel) (by decide) (by decide) ?_
    refine x_retI (np := 26) (x := 0) (by decide +kernel) (by decide) (Or.inl (by decide +kernel)) ⟨_, rfl, (by decide), ?_⟩
    exact ⟨rfl, (by first | decide | omega)⟩
  have q24 : ¬ (2147483649 ≠ 2147483648) := q24
  exfalso; omega
set_option maxHeartbeats 0 in
/-- LentNames$Calendar.noteRow(II)V -/
theorem c27_45 {sc : Nat × Nat} {d a1 a2 : Nat} {h : xh} (hJ : J h) (ba1 : 2147483648 ≤ a1 ∧ a1 ≤ 2147483653) (ba2 : 2147483648 ≤ a2 ∧ a2 ≤ 2147485139) : X sc 27 (d + 1) (xV fun h' => J h' ∧ Fr 1025 h h') 0 0 0 [x_r 45, iv_c a1, iv_c a2, 147573952589676412928] [] h := by
  have la1 : a1 < 4294967296 := by first | decide | omega
  have la2 : a2 < 4294967296 := by first | decide | omega
  have hF := Fr.refl 1025 h
  refine x_aload (np := 1) (x := 0) (by decide +kernel) rfl (x_nc_le (by decide)) ?_
  have q1 : h 45 8 = 53 := by have z := jB (e := 8) 0 hJ rg_45_8_0_1 (by decide) (by decide); omega
  refine x_getR (np := 4) (x := 72) (f := 8) (q := 53) (by decide +kernel) (by decide) (by decide +kernel) q1 ?_
  refine x_iload (np := 5) (x := 2) (by decide +kernel) rfl la2 ?_
  refine x_iload (np := 6) (x := 1) (by decide +kernel) rfl la1 ?_
  obtain ⟨u2, q3⟩ : ∃ z, a2 = 2147483648 + z := ⟨a2 - 2147483648, by first | decide | omega⟩
  refine x_ast (np := 7) (x := 0) (kd := 1) (n := 1512) (i := u2) (by decide +kernel) (Or.inl rfl) (by decide +kernel) (by first | decide | omega) (by first | decide | omega) (by decide) la1 (fun z => absurd z (by decide)) ?_
  have j5 := jU (e := u2) (v := a1) u2 hJ rg_53_0_1_1512 (by first | decide | omega) (by first | decide | omega) (by first | decide | omega)
  have f7 := jF (e := u2) (v := a1) u2 hF rg_53_0_1_1512 (by first | decide | omega) (by first | decide | omega) (by decide)
  generalize e6 : x_up h 53 u2 a1 = h4 at j5 f7 ⊢
  refine x_const (np := 8) (x := 9223372039002259456) (a := 2147483648) (by decide +kernel) (by decide) (by decide) ?_
  refine x_istore (np := 9) (x := 3) (lo' := [x_r 45, iv_c a1, iv_c a2, iv_c 2147483648]) (by decide +kernel) (by decide) (Nat.le_of_ble_eq_true rfl) rfl ?_
  have p771 : ∀ (n : Nat) (v766 : Nat) (h768 : xh), 4294967296 - v766 < n → (2147483648 ≤ v766 ∧ v766 ≤ 2147483668) → J h768 → Fr 1024 h4 h768 → X sc 27 (d + 1) (xV fun h' => J h' ∧ Fr 1025 h h') 0 0 9 [x_r 45, iv_c a1, iv_c a2, iv_c v766] [] h768 := by
    intro n
    induction n with
    | zero => intro v766 h768 q772; exact absurd q772 (Nat.not_lt_zero _)
    | succ n i773 =>
      intro v766 h768 q772 b767 j770 f769
      have f774 := Fr.trans f7 f769 (by decide)
      refine x_iload (np := 10) (x := 3) (by decide +kernel) rfl (by first | decide | omega) ?_
      refine x_const (np := 12) (x := 9223372124901605396) (a := 2147483668) (by decide +kernel) (by decide) (by decide) ?_
      refine x_icmp (k := 3) (tg := 62) (np := 15) (by decide +kernel) (by decide) (by first | decide | omega) (by decide) (fun q775 => ?_) (fun q776 => ?_)
      · have q775 : 2147483668 ≤ v766 := q775
        refine x_retV (np := 63) (x := 0) (by decide +kernel) (by decide +kernel) ⟨rfl, ?_⟩
        exact ⟨j770, f774⟩
      have q776 : ¬ (2147483668 ≤ v766) := q776
      refine x_aload (np := 16) (x := 0) (by decide +kernel) rfl (x_nc_le (by decide)) ?_
      have q777 : h768 45 8 = 53 := by have z := jB (e := 8) 0 j770 rg_45_8_0_1 (by decide) (by decide); omega
      refine x_getR (np := 19) (x := 72) (f := 8) (q := 53) (by decide +kernel) (by decide) (by decide +kernel) q777 ?_
      refine x_iload (np := 20) (x := 2) (by decide +kernel) rfl la2 ?_
      refine x_const (np := 21) (x := 9223372043297226753) (a := 2147483649) (by decide +kernel) (by decide) (by decide) ?_
      refine x_iadd (np := 22) (x := 0) (v := (1 + a2)) (by decide +kernel) la2 (by decide) (by first | decide | omega) (by first | decide | omega) ?_
      refine x_iload (np := 23) (x := 3) (by decide +kernel) rfl (by first | decide | omega) ?_
      obtain ⟨v778, q779⟩ : ∃ z, z + 2147483648 = (1 + a2) + v766 := ⟨(1 + a2) + v766 - 2147483648, by first | decide | omega⟩
      refine x_iadd (np := 24) (x := 0) (v := v778) (by decide +kernel) (by first | decide | omega) (by first | decide | omega) (by first | decide | omega) (by first | decide | omega) ?_
      refine x_iload (np := 25) (x := 3) (by decide +kernel) rfl (by first | decide | omega) ?_
      refine x_aload (np := 26) (x := 0) (by decide +kernel) rfl (x_nc_le (by decide)) ?_
      have q780 : h768 45 12 = 57 := by have z := jB (e := 12) 0 j770 rg_45_12_0_1 (by decide) (by decide); omega
      refine x_getR (np := 29) (x := 76) (f := 12) (q := 57) (by decide +kernel) (by decide) (by decide +kernel) q780 ?_
      refine x_iload (np := 30) (x := 1) (by decide +kernel) rfl la1 ?_
      obtain ⟨u781, q782⟩ : ∃ z, a1 = 2147483648 + z := ⟨a1 - 2147483648, by first | decide | omega⟩
      have q783 : h768 57 u781 = h4 57 u781 := jK u781 f769 rg_57_0_1_6 (by first | decide | omega) (by first | decide | omega) (by decide)
      have q784 : h4 57 u781 = h 57 u781 := by rw [← e6]; exact x_up_k (by decide)
      have b785 := jB (e := u781) u781 hJ rg_57_0_1_6 (by first | decide | omega) (by first | decide | omega)
      refine x_aldC (np := 31) (x := 0) (n := 6) (i := u781) (q := (h 57 u781)) (by decide +kernel) (by decide +kernel) (by first | decide | omega) (by first | decide | omega) (by decide) (q783.trans q784) (fun l786 => ?_)
      refine x_icmp (k := 3) (tg := 54) (np := 34) (by decide +kernel) (by decide) (by first | decide | omega) l786 (fun q787 => ?_) (fun q788 => ?_)
      · have q787 : (h 57 u781) ≤ v766 := q787
        refine x_const (np := 55) (x := 9223372034707292159) (a := 2147483647) (by decide +kernel) (by decide) (by decide) ?_
        obtain ⟨u789, q790⟩ : ∃ z, v778 = 2147483648 + z := ⟨v778 - 2147483648, by first | decide | omega⟩
        refine x_ast (np := 56) (x := 0) (kd := 1) (n := 1512) (i := u789) (by decide +kernel) (Or.inl rfl) (by decide +kernel) (by first | decide | omega) (by first | decide | omega) (by decide) (by decide) (fun z => absurd z (by decide)) ?_
        have j792 := jU (e := u789) (v := 2147483647) u789 j770 rg_53_0_1_1512 (by first | decide | omega) (by first | decide | omega) (by first | decide | omega)
        have f794 := jF (e := u789) (v := 2147483647) u789 f774 rg_53_0_1_1512 (by first | decide | omega) (by first | decide | omega) (by decide)
        have f795 := jF (e := u789) (v := 2147483647) u789 f769 rg_53_0_1_1512 (by first | decide | omega) (by first | decide | omega) (by decide)
        generalize e793 : x_up h768 53 u789 2147483647 = h791 at j792 f794 f795 ⊢
        refine x_iinc (np := 59) (i := 3) (j := 2147483649) (v := (1 + v766)) (lo' := [x_r 45, iv_c a1, iv_c a2, iv_c (1 + v766)]) (by decide +kernel) (by decide) (by decide) rfl (by first | decide | omega) (by first | decide | omega) (by first | decide | omega) rfl ?_
        refine x_goto (np := 62) (x := 9) (by decide +kernel) ?_
        exact i773 (1 + v766) h791 (by first | decide | omega) (by first | decide | omega) j792 f795
      have q788 : ¬ ((h 57 u781) ≤ v766) := q788
      refine x_aload (np := 35) (x := 0) (by decide +kernel) rfl (x_nc_le (by decide)) ?_
      have q796 : h768 45 5 = h4 45 5 := f769 45 5 (by decide +kernel)
      have q797 : h4 45 5 = h 45 5 := by rw [← e6]; exact x_up_k (by decide)
      have t798 : tw (h 45 5) := hJ.2.2.2.1
      refine x_getR (np := 38) (x := 69) (f := 5) (q := (h 45 5)) (by decide +kernel) (by decide) (by decide +kernel) (q796.trans q797) ?_
      have q799 : h768 (h 45 5) 0 = ((h 45 5) + 1) := tf_0_0 j770 t798
      refine x_getR (np := 41) (x := 512) (f := 0) (q := ((h 45 5) + 1)) (by decide +kernel) (by decide) (tg_0_512_0_1 t798) q799 ?_
      refine x_aload (np := 42) (x := 0) (by decide +kernel) rfl (x_nc_le (by decide)) ?_
      refine x_iload (np := 43) (x := 1) (by decide +kernel) rfl la1 ?_
      refine x_iload (np := 44) (x := 3) (by decide +kernel) rfl (by first | decide | omega) ?_
      refine x_nI (t := 6) (mj := 33) (n := 3) (rc := 2) (ml := 3) (nr := 3) (np := 47) (as := [x_r 45, iv_c a1, iv_c v766]) (rest := [x_r ((h 45 5) + 1), iv_c v778, x_r 53]) (lo1 := [x_r 45, iv_c a1, iv_c v766]) (by decide +kernel) (by decide) (by decide +kernel) (x_rb_of (by decide +kernel)) rfl rfl (x_wr (by decide) (x_wi la1 (x_wi (by first | decide | omega) x_wn))) (x_wr (tn_1 t798) (x_wi (by first | decide | omega) (x_wr (by decide) x_wn))) (by decide) rfl ?_
      refine x_aload (np := 1) (x := 0) (by decide +kernel) rfl (x_nc_le (by decide)) ?_
      have q800 : h768 45 11 = 56 := by have z := jB (e := 11) 0 j770 rg_45_11_0_1 (by decide) (by decide); omega
      refine x_getR (np := 4) (x := 75) (f := 11) (q := 56) (by decide +kernel) (by decide) (by decide +kernel) q800 ?_
      refine x_iload (np := 5) (x := 1) (by decide +kernel) rfl la1 ?_
      refine x_const (np := 7) (x := 9223372124901605396) (a := 2147483668) (by decide +kernel) (by decide) (by decide) ?_
      refine x_imul (np := 8) (x := 0) (i := u781) (j := 20) (v := (2147483648 + 20 * u781)) (by decide +kernel) (by first | decide | omega) (by first | decide | omega) (by first | decide | omega) (by first | decide | omega) la1 (by decide) ?_
      refine x_iload (np := 9) (x := 2) (by decide +kernel) rfl (by first | decide | omega) ?_
      refine x_iadd (np := 10) (x := 0) (v := (20 * u781 + v766)) (by decide +kernel) (by first | decide | omega) (by first | decide | omega) (by first | decide | omega) (by first | decide | omega) ?_
      obtain ⟨u802, q803⟩ : ∃ z, v766 = 2147483648 + z := ⟨v766 - 2147483648, by first | decide | omega⟩
      have q804 : h768 56 (20 * u781 + u802) = h4 56 (20 * u781 + u802) := jK (20 * u781 + u802) f769 rg_56_0_1_120 (by first | decide | omega) (by first | decide | omega) (by decide)
      have q805 : h4 56 (20 * u781 + u802) = h 56 (20 * u781 + u802) := by rw [← e6]; exact x_up_k (by decide)
      have b806 := jB (e := (20 * u781 + u802)) (20 * u781 + u802) hJ rg_56_0_1_120 (by first | decide | omega) (by first | decide | omega)
      refine x_aldC (np := 11) (x := 0) (n := 120) (i := (20 * u781 + u802)) (q := ((h 56 (20 * u781 + u802)))) (by decide +kernel) (by decide +kernel) (by first | decide | omega) (by first | decide | omega) (by decide) (q804.trans q805) (fun l807 => ?_)
      refine x_retI (np := 12) (x := 0) (by decide +kernel) l807 (Or.inl (by decide +kernel)) ⟨_, rfl, l807, ?_⟩
      refine x_const (np := 48) (x := 9223372043297226753) (a := 2147483649) (by decide +kernel) (by decide) (by decide) ?_
      refine x_cP (t := 6) (mj := 68) (n := 3) (rc := 7) (ml := 4) (nr := 2) (np := 51) (as := [x_r ((h 45 5) + 1), iv_c ((h 56 (20 * u781 + u802))), iv_c 2147483649]) (rest := [iv_c v778, x_r 53]) (lo1 := [x_r ((h 45 5) + 1), iv_c ((h 56 (20 * u781 + u802))), iv_c 2147483649, 147573952589676412928]) (by decide +kernel) (by decide) (by decide +kernel) (x_rb_of (tr_1_7 t798)) rfl rfl (x_wr (tn_1 t798) (x_wi l807 (x_wi (by decide) x_wn))) (x_wi (by first | decide | omega) (x_wr (by decide) x_wn)) (by decide) rfl (c68_T1_c1 j770 t798 (by first | decide | omega) ) (fun v811 l812 q813 => ?_)
      refine x_goto (np := 54) (x := 55) (by decide +kernel) ?_
      obtain ⟨u814, q815⟩ : ∃ z, v778 = 2147483648 + z := ⟨v778 - 2147483648, by first | decide | omega⟩
      refine x_ast (np := 56) (x := 0) (kd := 1) (n := 1512) (i := u814) (by decide +kernel) (Or.inl rfl) (by decide +kernel) (by first | decide | omega) (by first | decide | omega) (by decide) l812 (fun z => absurd z (by decide)) ?_
      have j817 := jU (e := u814) (v := v811) u814 j770 rg_53_0_1_1512 (by first | decide | omega) (by first | decide | omega) (by first | decide | omega)
      have f819 := jF (e := u814) (v := v811) u814 f774 rg_53_0_1_1512 (by first | decide | omega) (by first | decide | omega) (by decide)
      have f820 := jF (e := u814) (v := v811) u814 f769 rg_53_0_1_1512 (by first | decide | omega) (by first | decide | omega) (by decide)
      generalize e818 : x_up h768 53 u814 v811 = h816 at j817 f819 f820 ⊢
      refine x_iinc (np := 59) (i := 3) (j := 2147483649) (v := (1 + v766)) (lo' := [x_r 45, iv_c a1, iv_c a2, iv_c (1 + v766)]) (by decide +kernel) (by decide) (by decide) rfl (by first | decide | omega) (by first | decide | omega) (by first | decide | omega) rfl ?_
      refine x_goto (np := 62) (x := 9) (by decide +kernel) ?_
      exact i773 (1 + v766) h816 (by first | decide | omega) (by first | decide | omega) j817 f820
  exact p771 _ 2147483648 h4 (Nat.lt_succ_self _) (by first | decide | omega) j5 (Fr.refl _ _)
set_option maxHeartbeats 0 in
/-- LentNames$Calendar.note(I)V -/
theorem c26_45 {sc : Nat × Nat} {d a1 : Nat} {h : xh} (hJ : J h) (ba1 : 2147483648 ≤ a1 ∧ a1 ≤ 2147483659) : X sc 26 (d + 3) (xV fun h' => J h' ∧ Fr 1025 h h') 0 0 0 [x_r 45, iv_c a1, 147573952589676412928, 147573952589676412928, 147573952589676412928] [] h := by
  have la1 : a1 < 4294967296 := by first | decide | omega
  have hF := Fr.refl 1025 h
  refine x_const (np := 1) (x := 9223372039002259456) (a := 2147483648) (by decide +kernel) (by decide) (by decide) ?_
  refine x_istore (np := 2) (x := 2) (lo' := [x_r 45, iv_c a1, iv_c 2147483648, 147573952589676412928, 147573952589676412928]) (by decide +kernel) (by decide) (Nat.le_of_ble_eq_true rfl) rfl ?_
  have p1208 : ∀ (n : Nat) (v1201 : Nat) (w1203 : Nat) (w1204 : Nat) (h1205 : xh), 4294967296 - v1201 < n → (2147483648 ≤ v1201 ∧ v1201 ≤ 2147483654) → J h1205 → Fr 1025 h h1205 → X sc 26 (d + 3) (xV fun h' => J h' ∧ Fr 1025 h h') 0 0 2 [x_r 45, iv_c a1, iv_c v1201, w1203, w1204] [] h1205 := by
    intro n
    induction n with
    | zero => intro v1201 w1203 w1204 h1205 q1209; exact absurd q1209 (Nat.not_lt_zero _)
    | succ n i1210 =>
      intro v1201 w1203 w1204 h1205 q1209 b1202 j1207 f1206
      have f1211 := Fr.trans hF f1206 (by decide)
      refine x_iload (np := 3) (x := 2) (by decide +kernel) rfl (by first | decide | omega) ?_
      refine x_aload (np := 4) (x := 0) (by decide +kernel) rfl (x_nc_le (by decide)) ?_
      have q1212 : h1205 45 5 = h 45 5 := f1206 45 5 (by decide +kernel)
      have t1213 : tw (h 45 5) := hJ.2.2.2.1
      refine x_getR (np := 7) (x := 69) (f := 5) (q := (h 45 5)) (by decide +kernel) (by decide) (by decide +kernel) q1212 ?_
      have q1214 : h1205 (h 45 5) 7 = h (h 45 5) 7 := jK 0 f1206 (rg_T0_7_0_1 t1213) (by first | decide | omega) (by first | decide | omega) (by decide)
      have b1215 := jB (e := 7) 0 hJ (rg_T0_7_0_1 t1213) (by first | decide | omega) (by first | decide | omega)
      refine x_getC (np := 10) (x := 519) (f := 7) (q := (h (h 45 5) 7)) (by decide +kernel) (by decide) (tg_0_519_7_0 t1213) q1214 (fun l1216 => ?_)
      refine x_icmp (k := 3) (tg := 111) (np := 13) (by decide +kernel) (by decide) (by first | decide | omega) l1216 (fun q1217 => ?_) (fun q1218 => ?_)
      · have q1217 : (h (h 45 5) 7) ≤ v1201 := q1217
        refine x_retV (np := 112) (x := 0) (by decide +kernel) (by decide +kernel) ⟨rfl, ?_⟩
        exact ⟨j1207, f1211⟩
      have q1218 : ¬ ((h (h 45 5) 7) ≤ v1201) := q1218
      refine x_aload (np := 14) (x := 0) (by decide +kernel) rfl (x_nc_le (by decide)) ?_
      refine x_iload (np := 15) (x := 2) (by decide +kernel) rfl (by first | decide | omega) ?_
      refine x_cP (t := 6) (mj := 32) (n := 2) (rc := 2) (ml := 2) (nr := 0) (np := 18) (as := [x_r 45, iv_c v1201]) (rest := []) (lo1 := [x_r 45, iv_c v1201]) (by decide +kernel) (by decide) (by decide +kernel) (x_rb_of (by decide +kernel)) rfl rfl (x_wr (by decide) (x_wi (by first | decide | omega) x_wn)) x_wn (by decide) rfl (c32_45 j1207  (by first | decide | omega)) (fun v1219 l1220 q1221 => ?_)
      refine x_istore (np := 19) (x := 3) (lo' := [x_r 45, iv_c a1, iv_c v1201, iv_c v1219, w1204]) (by decide +kernel) l1220 (Nat.le_of_ble_eq_true rfl) rfl ?_
      refine x_aload (np := 20) (x := 0) (by decide +kernel) rfl (x_nc_le (by decide)) ?_
      refine x_iload (np := 21) (x := 3) (by decide +kernel) rfl l1220 ?_
      refine x_iload (np := 22) (x := 1) (by decide +kernel) rfl la1 ?_
      refine x_nI (t := 6) (mj := 31) (n := 3) (rc := 2) (ml := 3) (nr := 0) (np := 25) (as := [x_r 45, iv_c v1219, iv_c a1]) (rest := []) (lo1 := [x_r 45, iv_c v1219, iv_c a1]) (by decide +kernel) (by decide) (by decide +kernel) (x_rb_of (by decide +kernel)) rfl rfl (x_wr (by decide) (x_wi l1220 (x_wi la1 x_wn))) x_wn (by decide) rfl ?_
      refine x_iload (np := 1) (x := 1) (by decide +kernel) rfl l1220 ?_
      refine x_ifz (k := 2) (tg := 27) (np := 4) (by decide +kernel) (by decide) l1220 (fun q1222 => ?_) (fun q1223 => ?_)
      · have q1222 : v1219 < 2147483648 := q1222
        refine x_const (np := 28) (x := 9223372039002259456) (a := 2147483648) (by decide +kernel) (by decide) (by decide) ?_
        refine x_retI (np := 29) (x := 0) (by decide +kernel) (by decide) (Or.inr ⟨by decide +kernel, by first | decide | omega, by first | decide | omega⟩) ⟨_, rfl, (by decide), ?_⟩
        refine x_ifz (k := 1) (tg := 32) (np := 28) (by decide +kernel) (by decide) (by decide) (fun q1224 => ?_) (fun q1225 => ?_)
        · have q1224 : 2147483648 ≠ 2147483648 := q1224
          exfalso; omega
        have q1225 : ¬ (2147483648 ≠ 2147483648) := q1225
        refine x_const (np := 29) (x := 9223372043297226753) (a := 2147483649) (by decide +kernel) (by decide) (by decide) ?_
        refine x_goto (np := 32) (x := 33) (by decide +kernel) ?_
        refine x_istore (np := 35) (x := 4) (lo' := [x_r 45, iv_c a1, iv_c v1201, iv_c v1219, iv_c 2147483649]) (by decide +kernel) (by decide) (Nat.le_of_ble_eq_true rfl) rfl ?_
        refine x_aload (np := 36) (x := 0) (by decide +kernel) rfl (x_nc_le (by decide)) ?_
        have q1226 : h1205 45 6 = 51 := by have z := jB (e := 6) 0 j1207 rg_45_6_0_1 (by decide) (by decide); omega
        refine x_getR (np := 39) (x := 70) (f := 6) (q := 51) (by decide +kernel) (by decide) (by decide +kernel) q1226 ?_
        refine x_iload (np := 40) (x := 2) (by decide +kernel) rfl (by first | decide | omega) ?_
        refine x_iload (np := 41) (x := 1) (by decide +kernel) rfl la1 ?_
        refine x_nI (t := 7) (mj := 150) (n := 2) (rc := 0) (ml := 2) (nr := 1) (np := 44) (as := [iv_c v1201, iv_c a1]) (rest := [x_r 51]) (lo1 := [iv_c v1201, iv_c a1]) (by decide +kernel) (by decide) (by decide +kernel) (Or.inl rfl) rfl rfl (x_wi (by first | decide | omega) (x_wi la1 x_wn)) (x_wr (by decide) x_wn) (by decide) rfl ?_
        refine x_iload (np := 1) (x := 0) (by decide +kernel) rfl (by first | decide | omega) ?_
        refine x_const (np := 3) (x := 9223372090541867020) (a := 2147483660) (by decide +kernel) (by decide) (by decide) ?_
        obtain ⟨u1227, q1228⟩ : ∃ z, v1201 = 2147483648 + z := ⟨v1201 - 2147483648, by first | decide | omega⟩
        refine x_imul (np := 4) (x := 0) (i := u1227) (j := 12) (v := (2147483648 + 12 * u1227)) (by decide +kernel) (by first | decide | omega) (by first | decide | omega) (by first | decide | omega) (by first | decide | omega) (by first | decide | omega) (by decide) ?_
        refine x_iload (np := 5) (x := 1) (by decide +kernel) rfl la1 ?_
        refine x_iadd (np := 6) (x := 0) (v := (12 * u1227 + a1)) (by decide +kernel) (by first | decide | omega) la1 (by first | decide | omega) (by first | decide | omega) ?_
        refine x_retI (np := 7) (x := 0) (by decide +kernel) (by first | decide | omega) (Or.inl (by decide +kernel)) ⟨_, rfl, (by first | decide | omega), ?_⟩
        refine x_iload (np := 46) (x := 4) (by decide +kernel) rfl (by decide) ?_
        refine x_ifz (k := 0) (tg := 53) (np := 49) (by decide +kernel) (by decide) (by decide) (fun q1230 => ?_) (fun q1231 => ?_)
        · have q1230 : 2147483649 = 2147483648 := q1230
          exfalso; omega
        have q1231 : ¬ (2147483649 = 2147483648) := q1231
        refine x_const (np := 50) (x := 9223372034707292159) (a := 2147483647) (by decide +kernel) (by decide) (by decide) ?_
        refine x_goto (np := 53) (x := 54) (by decide +kernel) ?_
        obtain ⟨u1232, q1233⟩ : ∃ z, a1 = 2147483648 + z := ⟨a1 - 2147483648, by first | decide | omega⟩
        refine x_ast (np := 55) (x := 0) (kd := 1) (n := 72) (i := (12 * u1227 + u1232)) (by decide +kernel) (Or.inl rfl) (by decide +kernel) (by first | decide | omega) (by first | decide | omega) (by decide) (by decide) (fun z => absurd z (by decide)) ?_
        have j1235 := jU (e := (12 * u1227 + u1232)) (v := 2147483647) (12 * u1227 + u1232) j1207 rg_51_0_1_72 (by first | decide | omega) (by first | decide | omega) (by first | decide | omega)
        have f1237 := jF (e := (12 * u1227 + u1232)) (v := 2147483647) (12 * u1227 + u1232) f1211 rg_51_0_1_72 (by first | decide | omega) (by first | decide | omega) (by decide)
        have f1238 := jF (e := (12 * u1227 + u1232)) (v := 2147483647) (12 * u1227 + u1232) f1206 rg_51_0_1_72 (by first | decide | omega) (by first | decide | omega) (by decide)
        generalize e1236 : x_up h1205 51 (12 * u1227 + u1232) 2147483647 = h1234 at j1235 f1237 f1238 ⊢
        refine x_aload (np := 56) (x := 0) (by decide +kernel) rfl (x_nc_le (by decide)) ?_
        have q1239 : h1234 45 7 = 52 := by have z := jB (e := 7) 0 j1235 rg_45_7_0_1 (by decide) (by decide); omega
        refine x_getR (np := 59) (x := 71) (f := 7) (q := 52) (by decide +kernel) (by decide) (by decide +kernel) q1239 ?_
        refine x_iload (np := 60) (x := 2) (by decide +kernel) rfl (by first | decide | omega) ?_
        refine x_iload (np := 61) (x := 1) (by decide +kernel) rfl la1 ?_
        refine x_nI (t := 7) (mj := 150) (n := 2) (rc := 0) (ml := 2) (nr := 1) (np := 64) (as := [iv_c v1201, iv_c a1]) (rest := [x_r 52]) (lo1 := [iv_c v1201, iv_c a1]) (by decide +kernel) (by decide) (by decide +kernel) (Or.inl rfl) rfl rfl (x_wi (by first | decide | omega) (x_wi la1 x_wn)) (x_wr (by decide) x_wn) (by decide) rfl ?_
        refine x_iload (np := 1) (x := 0) (by decide +kernel) rfl (by first | decide | omega) ?_
        refine x_const (np := 3) (x := 9223372090541867020) (a := 2147483660) (by decide +kernel) (by decide) (by decide) ?_
        refine x_imul (np := 4) (x := 0) (i := u1227) (j := 12) (v := (2147483648 + 12 * u1227)) (by decide +kernel) (by first | decide | omega) (by first | decide | omega) (by first | decide | omega) (by first | decide | omega) (by first | decide | omega) (by decide) ?_
        refine x_iload (np := 5) (x := 1) (by decide +kernel) rfl la1 ?_
        refine x_iadd (np := 6) (x := 0) (v := (12 * u1227 + a1)) (by decide +kernel) (by first | decide | omega) la1 (by first | decide | omega) (by first | decide | omega) ?_
        refine x_retI (np := 7) (x := 0) (by decide +kernel) (by first | decide | omega) (Or.inl (by decide +kernel)) ⟨_, rfl, (by first | decide | omega), ?_⟩
        refine x_aload (np := 65) (x := 0) (by decide +kernel) rfl (x_nc_le (by decide)) ?_
        refine x_iload (np := 66) (x := 2) (by decide +kernel) rfl (by first | decide | omega) ?_
        refine x_iload (np := 67) (x := 1) (by decide +kernel) rfl la1 ?_
        refine x_cP (t := 6) (mj := 28) (n := 3) (rc := 2) (ml := 3) (nr := 2) (np := 70) (as := [x_r 45, iv_c v1201, iv_c a1]) (rest := [iv_c (12 * u1227 + a1), x_r 52]) (lo1 := [x_r 45, iv_c v1201, iv_c a1]) (by decide +kernel) (by decide) (by decide +kernel) (x_rb_of (by decide +kernel)) rfl rfl (x_wr (by decide) (x_wi (by first | decide | omega) (x_wi la1 x_wn))) (x_wi (by first | decide | omega) (x_wr (by decide) x_wn)) (by decide) rfl (c28_45 j1235  (by first | decide | omega) (by first | decide | omega)) (fun v1241 l1242 q1243 => ?_)
        refine x_ast (np := 71) (x := 0) (kd := 1) (n := 72) (i := (12 * u1227 + u1232)) (by decide +kernel) (Or.inl rfl) (by decide +kernel) (by first | decide | omega) (by first | decide | omega) (by decide) l1242 (fun z => absurd z (by decide)) ?_
        have j1245 := jU (e := (12 * u1227 + u1232)) (v := v1241) (12 * u1227 + u1232) j1235 rg_52_0_1_72 (by first | decide | omega) (by first | decide | omega) (by first | decide | omega)
        have f1247 := jF (e := (12 * u1227 + u1232)) (v := v1241) (12 * u1227 + u1232) f1237 rg_52_0_1_72 (by first | decide | omega) (by first | decide | omega) (by decide)
        have f1248 := jF (e := (12 * u1227 + u1232)) (v := v1241) (12 * u1227 + u1232) f1238 rg_52_0_1_72 (by first | decide | omega) (by first | decide | omega) (by decide)
        generalize e1246 : x_up h1234 52 (12 * u1227 + u1232) v1241 = h1244 at j1245 f1247 f1248 ⊢
        refine x_iload (np := 73) (x := 4) (by decide +kernel) rfl (by decide) ?_
        refine x_ifz (k := 1) (tg := 92) (np := 76) (by decide +kernel) (by decide) (by decide) (fun q1249 => ?_) (fun q1250 => ?_)
        · have q1249 : 2147483649 ≠ 2147483648 := q1249
          refine x_aload (np := 93) (x := 0) (by decide +kernel) rfl (x_nc_le (by decide)) ?_
          refine x_iload (np := 94) (x := 2) (by decide +kernel) rfl (by first | decide | omega) ?_
          refine x_iload (np := 95) (x := 2) (by decide +kernel) rfl (by first | decide | omega) ?_
          refine x_iload (np := 96) (x := 1) (by decide +kernel) rfl la1 ?_
          refine x_nI (t := 7) (mj := 150) (n := 2) (rc := 0) (ml := 2) (nr := 2) (np := 99) (as := [iv_c v1201, iv_c a1]) (rest := [iv_c v1201, x_r 45]) (lo1 := [iv_c v1201, iv_c a1]) (by decide +kernel) (by decide) (by decide +kernel) (Or.inl rfl) rfl rfl (x_wi (by first | decide | omega) (x_wi la1 x_wn)) (x_wi (by first | decide | omega) (x_wr (by decide) x_wn)) (by decide) rfl ?_
          refine x_iload (np := 1) (x := 0) (by decide +kernel) rfl (by first | decide | omega) ?_
          refine x_const (np := 3) (x := 9223372090541867020) (a := 2147483660) (by decide +kernel) (by decide) (by decide) ?_
          refine x_imul (np := 4) (x := 0) (i := u1227) (j := 12) (v := (2147483648 + 12 * u1227)) (by decide +kernel) (by first | decide | omega) (by first | decide | omega) (by first | decide | omega) (by first | decide | omega) (by first | decide | omega) (by decide) ?_
          refine x_iload (np := 5) (x := 1) (by decide +kernel) rfl la1 ?_
          refine x_iadd (np := 6) (x := 0) (v := (12 * u1227 + a1)) (by decide +kernel) (by first | decide | omega) la1 (by first | decide | omega) (by first | decide | omega) ?_
          refine x_retI (np := 7) (x := 0) (by decide +kernel) (by first | decide | omega) (Or.inl (by decide +kernel)) ⟨_, rfl, (by first | decide | omega), ?_⟩
          refine x_const (np := 101) (x := 9223372129196572693) (a := 2147483669) (by decide +kernel) (by decide) (by decide) ?_
          refine x_imul (np := 102) (x := 0) (i := (12 * u1227 + u1232)) (j := 21) (v := (2147483648 + 252 * u1227 + 21 * u1232)) (by decide +kernel) (by first | decide | omega) (by first | decide | omega) (by first | decide | omega) (by first | decide | omega) (by first | decide | omega) (by decide) ?_
          refine x_cV (t := 6) (mj := 27) (n := 3) (rc := 2) (ml := 4) (nr := 0) (np := 105) (as := [x_r 45, iv_c v1201, iv_c (2147483648 + 252 * u1227 + 21 * u1232)]) (rest := []) (lo1 := [x_r 45, iv_c v1201, iv_c (2147483648 + 252 * u1227 + 21 * u1232), 147573952589676412928]) (by decide +kernel) (by decide) (by decide +kernel) (x_rb_of (by decide +kernel)) rfl rfl (x_wr (by decide) (x_wi (by first | decide | omega) (x_wi (by first | decide | omega) x_wn))) x_wn (by decide) rfl (c27_45 j1245  (by first | decide | omega) (by first | decide | omega)) (fun h1256 q1255 => ?_)
          obtain ⟨j1257, f1258⟩ := q1255
          have f1261 := Fr.trans f1247 f1258 (by decide)
          have f1262 := Fr.trans f1248 f1258 (by decide)
          refine x_iinc (np := 108) (i := 2) (j := 2147483649) (v := (1 + v1201)) (lo' := [x_r 45, iv_c a1, iv_c (1 + v1201), iv_c v1219, iv_c 2147483649]) (by decide +kernel) (by decide) (by decide) rfl (by first | decide | omega) (by first | decide | omega) (by first | decide | omega) rfl ?_
          refine x_goto (np := 111) (x := 2) (by decide +kernel) ?_
          exact i1210 (1 + v1201) (iv_c v1219) (iv_c 2147483649) h1256 (by first | decide | omega) (by first | decide | omega) j1257 f1262
        have q1250 : ¬ (2147483649 ≠ 2147483648) := q1250
        exfalso; omega
      have q1223 : ¬ (v1219 < 2147483648) := q1223
      refine x_iload (np := 5) (x := 1) (by decide +kernel) rfl l1220 ?_
      refine x_const (np := 7) (x := 9223372064772063238) (a := 2147483654) (by decide +kernel) (by decide) (by decide) ?_
      refine x_icmp (k := 3) (tg := 27) (np := 10) (by decide +kernel) (by decide) l1220 (by decide) (fun q1263 => ?_) (fun q1264 => ?_)
      · have q1263 : 2147483654 ≤ v1219 := q1263
        refine x_const (np := 28) (x := 9223372039002259456) (a := 2147483648) (by decide +kernel) (by decide) (by decide) ?_
        refine x_retI (np := 29) (x := 0) (by decide +kernel) (by decide) (Or.inr ⟨by decide +kernel, by first | decide | omega, by first | decide | omega⟩) ⟨_, rfl, (by decide), ?_⟩
        refine x_ifz (k := 1) (tg := 32) (np := 28) (by decide +kernel) (by decide) (by decide) (fun q1265 => ?_) (fun q1266 => ?_)
        · have q1265 : 2147483648 ≠ 2147483648 := q1265
          exfalso; omega
        have q1266 : ¬ (2147483648 ≠ 2147483648) := q1266
        refine x_const (np := 29) (x := 9223372043297226753) (a := 2147483649) (by decide +kernel) (by decide) (by decide) ?_
        refine x_goto (np := 32) (x := 33) (by decide +kernel) ?_
        refine x_istore (np := 35) (x := 4) (lo' := [x_r 45, iv_c a1, iv_c v1201, iv_c v1219, iv_c 2147483649]) (by decide +kernel) (by decide) (Nat.le_of_ble_eq_true rfl) rfl ?_
        refine x_aload (np := 36) (x := 0) (by decide +kernel) rfl (x_nc_le (by decide)) ?_
        have q1267 : h1205 45 6 = 51 := by have z := jB (e := 6) 0 j1207 rg_45_6_0_1 (by decide) (by decide); omega
        refine x_getR (np := 39) (x := 70) (f := 6) (q := 51) (by decide +kernel) (by decide) (by decide +kernel) q1267 ?_
        refine x_iload (np := 40) (x := 2) (by decide +kernel) rfl (by first | decide | omega) ?_
        refine x_iload (np := 41) (x := 1) (by decide +kernel) rfl la1 ?_
        refine x_nI (t := 7) (mj := 150) (n := 2) (rc := 0) (ml := 2) (nr := 1) (np := 44) (as := [iv_c v1201, iv_c a1]) (rest := [x_r 51]) (lo1 := [iv_c v1201, iv_c a1]) (by decide +kernel) (by decide) (by decide +kernel) (Or.inl rfl) rfl rfl (x_wi (by first | decide | omega) (x_wi la1 x_wn)) (x_wr (by decide) x_wn) (by decide) rfl ?_
        refine x_iload (np := 1) (x := 0) (by decide +kernel) rfl (by first | decide | omega) ?_
        refine x_const (np := 3) (x := 9223372090541867020) (a := 2147483660) (by decide +kernel) (by decide) (by decide) ?_
        obtain ⟨u1268, q1269⟩ : ∃ z, v1201 = 2147483648 + z := ⟨v1201 - 2147483648, by first | decide | omega⟩
        refine x_imul (np := 4) (x := 0) (i := u1268) (j := 12) (v := (2147483648 + 12 * u1268)) (by decide +kernel) (by first | decide | omega) (by first | decide | omega) (by first | decide | omega) (by first | decide | omega) (by first | decide | omega) (by decide) ?_
        refine x_iload (np := 5) (x := 1) (by decide +kernel) rfl la1 ?_
        refine x_iadd (np := 6) (x := 0) (v := (12 * u1268 + a1)) (by decide +kernel) (by first | decide | omega) la1 (by first | decide | omega) (by first | decide | omega) ?_
        refine x_retI (np := 7) (x := 0) (by decide +kernel) (by first | decide | omega) (Or.inl (by decide +kernel)) ⟨_, rfl, (by first | decide | omega), ?_⟩
        refine x_iload (np := 46) (x := 4) (by decide +kernel) rfl (by decide) ?_
        refine x_ifz (k := 0) (tg := 53) (np := 49) (by decide +kernel) (by decide) (by decide) (fun q1271 => ?_) (fun q1272 => ?_)
        · have q1271 : 2147483649 = 2147483648 := q1271
          exfalso; omega
        have q1272 : ¬ (2147483649 = 2147483648) := q1272
        refine x_const (np := 50) (x := 9223372034707292159) (a := 2147483647) (by decide +kernel) (by decide) (by decide) ?_
        refine x_goto (np := 53) (x := 54) (by decide +kernel) ?_
        obtain ⟨u1273, q1274⟩ : ∃ z, a1 = 2147483648 + z := ⟨a1 - 2147483648, by first | decide | omega⟩
        refine x_ast (np := 55) (x := 0) (kd := 1) (n := 72) (i := (12 * u1268 + u1273)) (by decide +kernel) (Or.inl rfl) (by decide +kernel) (by first | decide | omega) (by first | decide | omega) (by decide) (by decide) (fun z => absurd z (by decide)) ?_
        have j1276 := jU (e := (12 * u1268 + u1273)) (v := 2147483647) (12 * u1268 + u1273) j1207 rg_51_0_1_72 (by first | decide | omega) (by first | decide | omega) (by first | decide | omega)
        have f1278 := jF (e := (12 * u1268 + u1273)) (v := 2147483647) (12 * u1268 + u1273) f1211 rg_51_0_1_72 (by first | decide | omega) (by first | decide | omega) (by decide)
        have f1279 := jF (e := (12 * u1268 + u1273)) (v := 2147483647) (12 * u1268 + u1273) f1206 rg_51_0_1_72 (by first | decide | omega) (by first | decide | omega) (by decide)
        generalize e1277 : x_up h1205 51 (12 * u1268 + u1273) 2147483647 = h1275 at j1276 f1278 f1279 ⊢
        refine x_aload (np := 56) (x := 0) (by decide +kernel) rfl (x_nc_le (by decide)) ?_
        have q1280 : h1275 45 7 = 52 := by have z := jB (e := 7) 0 j1276 rg_45_7_0_1 (by decide) (by decide); omega
        refine x_getR (np := 59) (x := 71) (f := 7) (q := 52) (by decide +kernel) (by decide) (by decide +kernel) q1280 ?_
        refine x_iload (np := 60) (x := 2) (by decide +kernel) rfl (by first | decide | omega) ?_
        refine x_iload (np := 61) (x := 1) (by decide +kernel) rfl la1 ?_
        refine x_nI (t := 7) (mj := 150) (n := 2) (rc := 0) (ml := 2) (nr := 1) (np := 64) (as := [iv_c v1201, iv_c a1]) (rest := [x_r 52]) (lo1 := [iv_c v1201, iv_c a1]) (by decide +kernel) (by decide) (by decide +kernel) (Or.inl rfl) rfl rfl (x_wi (by first | decide | omega) (x_wi la1 x_wn)) (x_wr (by decide) x_wn) (by decide) rfl ?_
        refine x_iload (np := 1) (x := 0) (by decide +kernel) rfl (by first | decide | omega) ?_
        refine x_const (np := 3) (x := 9223372090541867020) (a := 2147483660) (by decide +kernel) (by decide) (by decide) ?_
        refine x_imul (np := 4) (x := 0) (i := u1268) (j := 12) (v := (2147483648 + 12 * u1268)) (by decide +kernel) (by first | decide | omega) (by first | decide | omega) (by first | decide | omega) (by first | decide | omega) (by first | decide | omega) (by decide) ?_
        refine x_iload (np := 5) (x := 1) (by decide +kernel) rfl la1 ?_
        refine x_iadd (np := 6) (x := 0) (v := (12 * u1268 + a1)) (by decide +kernel) (by first | decide | omega) la1 (by first | decide | omega) (by first | decide | omega) ?_
        refine x_retI (np := 7) (x := 0) (by decide +kernel) (by first | decide | omega) (Or.inl (by decide +kernel)) ⟨_, rfl, (by first | decide | omega), ?_⟩
        refine x_aload (np := 65) (x := 0) (by decide +kernel) rfl (x_nc_le (by decide)) ?_
        refine x_iload (np := 66) (x := 2) (by decide +kernel) rfl (by first | decide | omega) ?_
        refine x_iload (np := 67) (x := 1) (by decide +kernel) rfl la1 ?_
        refine x_cP (t := 6) (mj := 28) (n := 3) (rc := 2) (ml := 3) (nr := 2) (np := 70) (as := [x_r 45, iv_c v1201, iv_c a1]) (rest := [iv_c (12 * u1268 + a1), x_r 52]) (lo1 := [x_r 45, iv_c v1201, iv_c a1]) (by decide +kernel) (by decide) (by decide +kernel) (x_rb_of (by decide +kernel)) rfl rfl (x_wr (by decide) (x_wi (by first | decide | omega) (x_wi la1 x_wn))) (x_wi (by first | decide | omega) (x_wr (by decide) x_wn)) (by decide) rfl (c28_45 j1276  (by first | decide | omega) (by first | decide | omega)) (fun v1282 l1283 q1284 => ?_)
        refine x_ast (np := 71) (x := 0) (kd := 1) (n := 72) (i := (12 * u1268 + u1273)) (by decide +kernel) (Or.inl rfl) (by decide +kernel) (by first | decide | omega) (by first | decide | omega) (by decide) l1283 (fun z => absurd z (by decide)) ?_
        have j1286 := jU (e := (12 * u1268 + u1273)) (v := v1282) (12 * u1268 + u1273) j1276 rg_52_0_1_72 (by first | decide | omega) (by first | decide | omega) (by first | decide | omega)
        have f1288 := jF (e := (12 * u1268 + u1273)) (v := v1282) (12 * u1268 + u1273) f1278 rg_52_0_1_72 (by first | decide | omega) (by first | decide | omega) (by decide)
        have f1289 := jF (e := (12 * u1268 + u1273)) (v := v1282) (12 * u1268 + u1273) f1279 rg_52_0_1_72 (by first | decide | omega) (by first | decide | omega) (by decide)
        generalize e1287 : x_up h1275 52 (12 * u1268 + u1273) v1282 = h1285 at j1286 f1288 f1289 ⊢
        refine x_iload (np := 73) (x := 4) (by decide +kernel) rfl (by decide) ?_
        refine x_ifz (k := 1) (tg := 92) (np := 76) (by decide +kernel) (by decide) (by decide) (fun q1290 => ?_) (fun q1291 => ?_)
        · have q1290 : 2147483649 ≠ 2147483648 := q1290
          refine x_aload (np := 93) (x := 0) (by decide +kernel) rfl (x_nc_le (by decide)) ?_
          refine x_iload (np := 94) (x := 2) (by decide +kernel) rfl (by first | decide | omega) ?_
          refine x_iload (np := 95) (x := 2) (by decide +kernel) rfl (by first | decide | omega) ?_
          refine x_iload (np := 96) (x := 1) (by decide +kernel) rfl la1 ?_
          refine x_nI (t := 7) (mj := 150) (n := 2) (rc := 0) (ml := 2) (nr := 2) (np := 99) (as := [iv_c v1201, iv_c a1]) (rest := [iv_c v1201, x_r 45]) (lo1 := [iv_c v1201, iv_c a1]) (by decide +kernel) (by decide) (by decide +kernel) (Or.inl rfl) rfl rfl (x_wi (by first | decide | omega) (x_wi la1 x_wn)) (x_wi (by first | decide | omega) (x_wr (by decide) x_wn)) (by decide) rfl ?_
          refine x_iload (np := 1) (x := 0) (by decide +kernel) rfl (by first | decide | omega) ?_
          refine x_const (np := 3) (x := 9223372090541867020) (a := 2147483660) (by decide +kernel) (by decide) (by decide) ?_
          refine x_imul (np := 4) (x := 0) (i := u1268) (j := 12) (v := (2147483648 + 12 * u1268)) (by decide +kernel) (by first | decide | omega) (by first | decide | omega) (by first | decide | omega) (by first | decide | omega) (by first | decide | omega) (by decide) ?_
          refine x_iload (np := 5) (x := 1) (by decide +kernel) rfl la1 ?_
          refine x_iadd (np := 6) (x := 0) (v := (12 * u1268 + a1)) (by decide +kernel) (by first | decide | omega) la1 (by first | decide | omega) (by first | decide | omega) ?_
          refine x_retI (np := 7) (x := 0) (by decide +kernel) (by first | decide | omega) (Or.inl (by decide +kernel)) ⟨_, rfl, (by first | decide | omega), ?_⟩
          refine x_const (np := 101) (x := 9223372129196572693) (a := 2147483669) (by decide +kernel) (by decide) (by decide) ?_
          refine x_imul (np := 102) (x := 0) (i := (12 * u1268 + u1273)) (j := 21) (v := (2147483648 + 252 * u1268 + 21 * u1273)) (by decide +kernel) (by first | decide | omega) (by first | decide | omega) (by first | decide | omega) (by first | decide | omega) (by first | decide | omega) (by decide) ?_
          refine x_cV (t := 6) (mj := 27) (n := 3) (rc := 2) (ml := 4) (nr := 0) (np := 105) (as := [x_r 45, iv_c v1201, iv_c (2147483648 + 252 * u1268 + 21 * u1273)]) (rest := []) (lo1 := [x_r 45, iv_c v1201, iv_c (2147483648 + 252 * u1268 + 21 * u1273), 147573952589676412928]) (by decide +kernel) (by decide) (by decide +kernel) (x_rb_of (by decide +kernel)) rfl rfl (x_wr (by decide) (x_wi (by first | decide | omega) (x_wi (by first | decide | omega) x_wn))) x_wn (by decide) rfl (c27_45 j1286  (by first | decide | omega) (by first | decide | omega)) (fun h1297 q1296 => ?_)
          obtain ⟨j1298, f1299⟩ := q1296
          have f1302 := Fr.trans f1288 f1299 (by decide)
          have f1303 := Fr.trans f1289 f1299 (by decide)
          refine x_iinc (np := 108) (i := 2) (j := 2147483649) (v := (1 + v1201)) (lo' := [x_r 45, iv_c a1, iv_c (1 + v1201), iv_c v1219, iv_c 2147483649]) (by decide +kernel) (by decide) (by decide) rfl (by first | decide | omega) (by first | decide | omega) (by first | decide | omega) rfl ?_
          refine x_goto (np := 111) (x := 2) (by decide +kernel) ?_
          exact i1210 (1 + v1201) (iv_c v1219) (iv_c 2147483649) h1297 (by first | decide | omega) (by first | decide | omega) j1298 f1303
        have q1291 : ¬ (2147483649 ≠ 2147483648) := q1291
        exfalso; omega
      have q1264 : ¬ (2147483654 ≤ v1219) := q1264
      refine x_aload (np := 11) (x := 0) (by decide +kernel) rfl (x_nc_le (by decide)) ?_
      have q1304 : h1205 45 0 = 46 := by have z := jB (e := 0) 0 j1207 rg_45_0_0_1 (by decide) (by decide); omega
      refine x_getR (np := 14) (x := 64) (f := 0) (q := 46) (by decide +kernel) (by decide) (by decide +kernel) q1304 ?_
      refine x_iload (np := 15) (x := 1) (by decide +kernel) rfl l1220 ?_
      obtain ⟨u1305, q1306⟩ : ∃ z, v1219 = 2147483648 + z := ⟨v1219 - 2147483648, by first | decide | omega⟩
      have q1307 : h1205 46 u1305 = h 46 u1305 := jK u1305 f1206 rg_46_0_1_6 (by first | decide | omega) (by first | decide | omega) (by decide)
      refine x_aldC (np := 16) (x := 0) (n := 6) (i := u1305) (q := (h 46 u1305)) (by decide +kernel) (by decide +kernel) (by first | decide | omega) (by first | decide | omega) (by decide) q1307 (fun l1308 => ?_)
      refine x_iload (np := 17) (x := 2) (by decide +kernel) rfl la1 ?_
      refine x_cP (t := 7) (mj := 148) (n := 2) (rc := 0) (ml := 2) (nr := 0) (np := 20) (as := [iv_c (h 46 u1305), iv_c a1]) (rest := []) (lo1 := [iv_c (h 46 u1305), iv_c a1]) (by decide +kernel) (by decide) (by decide +kernel) (Or.inl rfl) rfl rfl (x_wi l1308 (x_wi la1 x_wn)) x_wn (by decide) rfl (c148 j1207 (by first | decide | omega) (by first | decide | omega)) (fun v1309 l1310 q1311 => ?_)
      refine x_ifz (k := 0) (tg := 27) (np := 23) (by decide +kernel) (by decide) l1310 (fun q1312 => ?_) (fun q1313 => ?_)
      · have q1312 : v1309 = 2147483648 := q1312
        refine x_const (np := 28) (x := 9223372039002259456) (a := 2147483648) (by decide +kernel) (by decide) (by decide) ?_
        refine x_retI (np := 29) (x := 0) (by decide +kernel) (by decide) (Or.inr ⟨by decide +kernel, by first | decide | omega, by first | decide | omega⟩) ⟨_, rfl, (by decide), ?_⟩
        refine x_ifz (k := 1) (tg := 32) (np := 28) (by decide +kernel) (by decide) (by decide) (fun q1314 => ?_) (fun q1315 => ?_)
        · have q1314 : 2147483648 ≠ 2147483648 := q1314
          exfalso; omega
        have q1315 : ¬ (2147483648 ≠ 2147483648) := q1315
        refine x_const (np := 29) (x := 9223372043297226753) (a := 2147483649) (by decide +kernel) (by decide) (by decide) ?_
        refine x_goto (np := 32) (x := 33) (by decide +kernel) ?_
        refine x_istore (np := 35) (x := 4) (lo' := [x_r 45, iv_c a1, iv_c v1201, iv_c v1219, iv_c 2147483649]) (by decide +kernel) (by decide) (Nat.le_of_ble_eq_true rfl) rfl ?_
        refine x_aload (np := 36) (x := 0) (by decide +kernel) rfl (x_nc_le (by decide)) ?_
        have q1316 : h1205 45 6 = 51 := by have z := jB (e := 6) 0 j1207 rg_45_6_0_1 (by decide) (by decide); omega
        refine x_getR (np := 39) (x := 70) (f := 6) (q := 51) (by decide +kernel) (by decide) (by decide +kernel) q1316 ?_
        refine x_iload (np := 40) (x := 2) (by decide +kernel) rfl (by first | decide | omega) ?_
        refine x_iload (np := 41) (x := 1) (by decide +kernel) rfl la1 ?_
        refine x_nI (t := 7) (mj := 150) (n := 2) (rc := 0) (ml := 2) (nr := 1) (np := 44) (as := [iv_c v1201, iv_c a1]) (rest := [x_r 51]) (lo1 := [iv_c v1201, iv_c a1]) (by decide +kernel) (by decide) (by decide +kernel) (Or.inl rfl) rfl rfl (x_wi (by first | decide | omega) (x_wi la1 x_wn)) (x_wr (by decide) x_wn) (by decide) rfl ?_
        refine x_iload (np := 1) (x := 0) (by decide +kernel) rfl (by first | decide | omega) ?_
        refine x_const (np := 3) (x := 9223372090541867020) (a := 2147483660) (by decide +kernel) (by decide) (by decide) ?_
        obtain ⟨u1317, q1318⟩ : ∃ z, v1201 = 2147483648 + z := ⟨v1201 - 2147483648, by first | decide | omega⟩
        refine x_imul (np := 4) (x := 0) (i := u1317) (j := 12) (v := (2147483648 + 12 * u1317)) (by decide +kernel) (by first | decide | omega) (by first | decide | omega) (by first | decide | omega) (by first | decide | omega) (by first | decide | omega) (by decide) ?_
        refine x_iload (np := 5) (x := 1) (by decide +kernel) rfl la1 ?_
        refine x_iadd (np := 6) (x := 0) (v := (12 * u1317 + a1)) (by decide +kernel) (by first | decide | omega) la1 (by first | decide | omega) (by first | decide | omega) ?_
        refine x_retI (np := 7) (x := 0) (by decide +kernel) (by first | decide | omega) (Or.inl (by decide +kernel)) ⟨_, rfl, (by first | decide | omega), ?_⟩
        refine x_iload (np := 46) (x := 4) (by decide +kernel) rfl (by decide) ?_
        refine x_ifz (k := 0) (tg := 53) (np := 49) (by decide +kernel) (by decide) (by decide) (fun q1320 => ?_) (fun q1321 => ?_)
        · have q1320 : 2147483649 = 2147483648 := q1320
          exfalso; omega
        have q1321 : ¬ (2147483649 = 2147483648) := q1321
        refine x_const (np := 50) (x := 9223372034707292159) (a := 2147483647) (by decide +kernel) (by decide) (by decide) ?_
        refine x_goto (np := 53) (x := 54) (by decide +kernel) ?_
        obtain ⟨u1322, q1323⟩ : ∃ z, a1 = 2147483648 + z := ⟨a1 - 2147483648, by first | decide | omega⟩
        refine x_ast (np := 55) (x := 0) (kd := 1) (n := 72) (i := (12 * u1317 + u1322)) (by decide +kernel) (Or.inl rfl) (by decide +kernel) (by first | decide | omega) (by first | decide | omega) (by decide) (by decide) (fun z => absurd z (by decide)) ?_
        have j1325 := jU (e := (12 * u1317 + u1322)) (v := 2147483647) (12 * u1317 + u1322) j1207 rg_51_0_1_72 (by first | decide | omega) (by first | decide | omega) (by first | decide | omega)
        have f1327 := jF (e := (12 * u1317 + u1322)) (v := 2147483647) (12 * u1317 + u1322) f1211 rg_51_0_1_72 (by first | decide | omega) (by first | decide | omega) (by decide)
        have f1328 := jF (e := (12 * u1317 + u1322)) (v := 2147483647) (12 * u1317 + u1322) f1206 rg_51_0_1_72 (by first | decide | omega) (by first | decide | omega) (by decide)
        generalize e1326 : x_up h1205 51 (12 * u1317 + u1322) 2147483647 = h1324 at j1325 f1327 f1328 ⊢
        refine x_aload (np := 56) (x := 0) (by decide +kernel) rfl (x_nc_le (by decide)) ?_
        have q1329 : h1324 45 7 = 52 := by have z := jB (e := 7) 0 j1325 rg_45_7_0_1 (by decide) (by decide); omega
        refine x_getR (np := 59) (x := 71) (f := 7) (q := 52) (by decide +kernel) (by decide) (by decide +kernel) q1329 ?_
        refine x_iload (np := 60) (x := 2) (by decide +kernel) rfl (by first | decide | omega) ?_
        refine x_iload (np := 61) (x := 1) (by decide +kernel) rfl la1 ?_
        refine x_nI (t := 7) (mj := 150) (n := 2) (rc := 0) (ml := 2) (nr := 1) (np := 64) (as := [iv_c v1201, iv_c a1]) (rest := [x_r 52]) (lo1 := [iv_c v1201, iv_c a1]) (by decide +kernel) (by decide) (by decide +kernel) (Or.inl rfl) rfl rfl (x_wi (by first | decide | omega) (x_wi la1 x_wn)) (x_wr (by decide) x_wn) (by decide) rfl ?_
        refine x_iload (np := 1) (x := 0) (by decide +kernel) rfl (by first | decide | omega) ?_
        refine x_const (np := 3) (x := 9223372090541867020) (a := 2147483660) (by decide +kernel) (by decide) (by decide) ?_
        refine x_imul (np := 4) (x := 0) (i := u1317) (j := 12) (v := (2147483648 + 12 * u1317)) (by decide +kernel) (by first | decide | omega) (by first | decide | omega) (by first | decide | omega) (by first | decide | omega) (by first | decide | omega) (by decide) ?_
        refine x_iload (np := 5) (x := 1) (by decide +kernel) rfl la1 ?_
        refine x_iadd (np := 6) (x := 0) (v := (12 * u1317 + a1)) (by decide +kernel) (by first | decide | omega) la1 (by first | decide | omega) (by first | decide | omega) ?_
        refine x_retI (np := 7) (x := 0) (by decide +kernel) (by first | decide | omega) (Or.inl (by decide +kernel)) ⟨_, rfl, (by first | decide | omega), ?_⟩
        refine x_aload (np := 65) (x := 0) (by decide +kernel) rfl (x_nc_le (by decide)) ?_
        refine x_iload (np := 66) (x := 2) (by decide +kernel) rfl (by first | decide | omega) ?_
        refine x_iload (np := 67) (x := 1) (by decide +kernel) rfl la1 ?_
        refine x_cP (t := 6) (mj := 28) (n := 3) (rc := 2) (ml := 3) (nr := 2) (np := 70) (as := [x_r 45, iv_c v1201, iv_c a1]) (rest := [iv_c (12 * u1317 + a1), x_r 52]) (lo1 := [x_r 45, iv_c v1201, iv_c a1]) (by decide +kernel) (by decide) (by decide +kernel) (x_rb_of (by decide +kernel)) rfl rfl (x_wr (by decide) (x_wi (by first | decide | omega) (x_wi la1 x_wn))) (x_wi (by first | decide | omega) (x_wr (by decide) x_wn)) (by decide) rfl (c28_45 j1325  (by first | decide | omega) (by first | decide | omega)) (fun v1331 l1332 q1333 => ?_)
        refine x_ast (np := 71) (x := 0) (kd := 1) (n := 72) (i := (12 * u1317 + u1322)) (by decide +kernel) (Or.inl rfl) (by decide +kernel) (by first | decide | omega) (by first | decide | omega) (by decide) l1332 (fun z => absurd z (by decide)) ?_
        have j1335 := jU (e := (12 * u1317 + u1322)) (v := v1331) (12 * u1317 + u1322) j1325 rg_52_0_1_72 (by first | decide | omega) (by first | decide | omega) (by first | decide | omega)
        have f1337 := jF (e := (12 * u1317 + u1322)) (v := v1331) (12 * u1317 + u1322) f1327 rg_52_0_1_72 (by first | decide | omega) (by first | decide | omega) (by decide)
        have f1338 := jF (e := (12 * u1317 + u1322)) (v := v1331) (12 * u1317 + u1322) f1328 rg_52_0_1_72 (by first | decide | omega) (by first | decide | omega) (by decide)
        generalize e1336 : x_up h1324 52 (12 * u1317 + u1322) v1331 = h1334 at j1335 f1337 f1338 ⊢
        refine x_iload (np := 73) (x := 4) (by decide +kernel) rfl (by decide) ?_
        refine x_ifz (k := 1) (tg := 92) (np := 76) (by decide +kernel) (by decide) (by decide) (fun q1339 => ?_) (fun q1340 => ?_)
        · have q1339 : 2147483649 ≠ 2147483648 := q1339
          refine x_aload (np := 93) (x := 0) (by decide +kernel) rfl (x_nc_le (by decide)) ?_
          refine x_iload (np := 94) (x := 2) (by decide +kernel) rfl (by first | decide | omega) ?_
          refine x_iload (np := 95) (x := 2) (by decide +kernel) rfl (by first | decide | omega) ?_
          refine x_iload (np := 96) (x := 1) (by decide +kernel) rfl la1 ?_
          refine x_nI (t := 7) (mj := 150) (n := 2) (rc := 0) (ml := 2) (nr := 2) (np := 99) (as := [iv_c v1201, iv_c a1]) (rest := [iv_c v1201, x_r 45]) (lo1 := [iv_c v1201, iv_c a1]) (by decide +kernel) (by decide) (by decide +kernel) (Or.inl rfl) rfl rfl (x_wi (by first | decide | omega) (x_wi la1 x_wn)) (x_wi (by first | decide | omega) (x_wr (by decide) x_wn)) (by decide) rfl ?_
          refine x_iload (np := 1) (x := 0) (by decide +kernel) rfl (by first | decide | omega) ?_
          refine x_const (np := 3) (x := 9223372090541867020) (a := 2147483660) (by decide +kernel) (by decide) (by decide) ?_
          refine x_imul (np := 4) (x := 0) (i := u1317) (j := 12) (v := (2147483648 + 12 * u1317)) (by decide +kernel) (by first | decide | omega) (by first | decide | omega) (by first | decide | omega) (by first | decide | omega) (by first | decide | omega) (by decide) ?_
          refine x_iload (np := 5) (x := 1) (by decide +kernel) rfl la1 ?_
          refine x_iadd (np := 6) (x := 0) (v := (12 * u1317 + a1)) (by decide +kernel) (by first | decide | omega) la1 (by first | decide | omega) (by first | decide | omega) ?_
          refine x_retI (np := 7) (x := 0) (by decide +kernel) (by first | decide | omega) (Or.inl (by decide +kernel)) ⟨_, rfl, (by first | decide | omega), ?_⟩
          refine x_const (np := 101) (x := 9223372129196572693) (a := 2147483669) (by decide +kernel) (by decide) (by decide) ?_
          refine x_imul (np := 102) (x := 0) (i := (12 * u1317 + u1322)) (j := 21) (v := (2147483648 + 252 * u1317 + 21 * u1322)) (by decide +kernel) (by first | decide | omega) (by first | decide | omega) (by first | decide | omega) (by first | decide | omega) (by first | decide | omega) (by decide) ?_
          refine x_cV (t := 6) (mj := 27) (n := 3) (rc := 2) (ml := 4) (nr := 0) (np := 105) (as := [x_r 45, iv_c v1201, iv_c (2147483648 + 252 * u1317 + 21 * u1322)]) (rest := []) (lo1 := [x_r 45, iv_c v1201, iv_c (2147483648 + 252 * u1317 + 21 * u1322), 147573952589676412928]) (by decide +kernel) (by decide) (by decide +kernel) (x_rb_of (by decide +kernel)) rfl rfl (x_wr (by decide) (x_wi (by first | decide | omega) (x_wi (by first | decide | omega) x_wn))) x_wn (by decide) rfl (c27_45 j1335  (by first | decide | omega) (by first | decide | omega)) (fun h1346 q1345 => ?_)
          obtain ⟨j1347, f1348⟩ := q1345
          have f1351 := Fr.trans f1337 f1348 (by decide)
          have f1352 := Fr.trans f1338 f1348 (by decide)
          refine x_iinc (np := 108) (i := 2) (j := 2147483649) (v := (1 + v1201)) (lo' := [x_r 45, iv_c a1, iv_c (1 + v1201), iv_c v1219, iv_c 2147483649]) (by decide +kernel) (by decide) (by decide) rfl (by first | decide | omega) (by first | decide | omega) (by first | decide | omega) rfl ?_
          refine x_goto (np := 111) (x := 2) (by decide +kernel) ?_
          exact i1210 (1 + v1201) (iv_c v1219) (iv_c 2147483649) h1346 (by first | decide | omega) (by first | decide | omega) j1347 f1352
        have q1340 : ¬ (2147483649 ≠ 2147483648) := q1340
        exfalso; omega
      have q1313 : ¬ (v1309 = 2147483648) := q1313
      refine x_const (np := 24) (x := 9223372043297226753) (a := 2147483649) (by decide +kernel) (by decide) (by decide) ?_
      refine x_goto (np := 27) (x := 28) (by decide +kernel) ?_
      refine x_retI (np := 29) (x := 0) (by decide +kernel) (by decide) (Or.inr ⟨by decide +kernel, by first | decide | omega, by first | decide | omega⟩) ⟨_, rfl, (by decide), ?_⟩
      refine x_ifz (k := 1) (tg := 32) (np := 28) (by decide +kernel) (by decide) (by decide) (fun q1353 => ?_) (fun q1354 => ?_)
      · have q1353 : 2147483649 ≠ 2147483648 := q1353
        refine x_const (np := 33) (x := 9223372039002259456) (a := 2147483648) (by decide +kernel) (by decide) (by decide) ?_
        refine x_istore (np := 35) (x := 4) (lo' := [x_r 45, iv_c a1, iv_c v1201, iv_c v1219, iv_c 2147483648]) (by decide +kernel) (by decide) (Nat.le_of_ble_eq_true rfl) rfl ?_
        refine x_aload (np := 36) (x := 0) (by decide +kernel) rfl (x_nc_le (by decide)) ?_
        have q1355 : h1205 45 6 = 51 := by have z := jB (e := 6) 0 j1207 rg_45_6_0_1 (by decide) (by decide); omega
        refine x_getR (np := 39) (x := 70) (f := 6) (q := 51) (by decide +kernel) (by decide) (by decide +kernel) q1355 ?_
        refine x_iload (np := 40) (x := 2) (by decide +kernel) rfl (by first | decide | omega) ?_
        refine x_iload (np := 41) (x := 1) (by decide +kernel) rfl la1 ?_
        refine x_nI (t := 7) (mj := 150) (n := 2) (rc := 0) (ml := 2) (nr := 1) (np := 44) (as := [iv_c v1201, iv_c a1]) (rest := [x_r 51]) (lo1 := [iv_c v1201, iv_c a1]) (by decide +kernel) (by decide) (by decide +kernel) (Or.inl rfl) rfl rfl (x_wi (by first | decide | omega) (x_wi la1 x_wn)) (x_wr (by decide) x_wn) (by decide) rfl ?_
        refine x_iload (np := 1) (x := 0) (by decide +kernel) rfl (by first | decide | omega) ?_
        refine x_const (np := 3) (x := 9223372090541867020) (a := 2147483660) (by decide +kernel) (by decide) (by decide) ?_
        obtain ⟨u1356, q1357⟩ : ∃ z, v1201 = 2147483648 + z := ⟨v1201 - 2147483648, by first | decide | omega⟩
        refine x_imul (np := 4) (x := 0) (i := u1356) (j := 12) (v := (2147483648 + 12 * u1356)) (by decide +kernel) (by first | decide | omega) (by first | decide | omega) (by first | decide | omega) (by first | decide | omega) (by first | decide | omega) (by decide) ?_
        refine x_iload (np := 5) (x := 1) (by decide +kernel) rfl la1 ?_
        refine x_iadd (np := 6) (x := 0) (v := (12 * u1356 + a1)) (by decide +kernel) (by first | decide | omega) la1 (by first | decide | omega) (by first | decide | omega) ?_
        refine x_retI (np := 7) (x := 0) (by decide +kernel) (by first | decide | omega) (Or.inl (by decide +kernel)) ⟨_, rfl, (by first | decide | omega), ?_⟩
        refine x_iload (np := 46) (x := 4) (by decide +kernel) rfl (by decide) ?_
        refine x_ifz (k := 0) (tg := 53) (np := 49) (by decide +kernel) (by decide) (by decide) (fun q1359 => ?_) (fun q1360 => ?_)
        · have q1359 : 2147483648 = 2147483648 := q1359
          refine x_iload (np := 54) (x := 3) (by decide +kernel) rfl l1220 ?_
          obtain ⟨u1361, q1362⟩ : ∃ z, a1 = 2147483648 + z := ⟨a1 - 2147483648, by first | decide | omega⟩
          refine x_ast (np := 55) (x := 0) (kd := 1) (n := 72) (i := (12 * u1356 + u1361)) (by decide +kernel) (Or.inl rfl) (by decide +kernel) (by first | decide | omega) (by first | decide | omega) (by decide) l1220 (fun z => absurd z (by decide)) ?_
          have j1364 := jU (e := (12 * u1356 + u1361)) (v := v1219) (12 * u1356 + u1361) j1207 rg_51_0_1_72 (by first | decide | omega) (by first | decide | omega) (by first | decide | omega)
          have f1366 := jF (e := (12 * u1356 + u1361)) (v := v1219) (12 * u1356 + u1361) f1211 rg_51_0_1_72 (by first | decide | omega) (by first | decide | omega) (by decide)
          have f1367 := jF (e := (12 * u1356 + u1361)) (v := v1219) (12 * u1356 + u1361) f1206 rg_51_0_1_72 (by first | decide | omega) (by first | decide | omega) (by decide)
          generalize e1365 : x_up h1205 51 (12 * u1356 + u1361) v1219 = h1363 at j1364 f1366 f1367 ⊢
          refine x_aload (np := 56) (x := 0) (by decide +kernel) rfl (x_nc_le (by decide)) ?_
          have q1368 : h1363 45 7 = 52 := by have z := jB (e := 7) 0 j1364 rg_45_7_0_1 (by decide) (by decide); omega
          refine x_getR (np := 59) (x := 71) (f := 7) (q := 52) (by decide +kernel) (by decide) (by decide +kernel) q1368 ?_
          refine x_iload (np := 60) (x := 2) (by decide +kernel) rfl (by first | decide | omega) ?_
          refine x_iload (np := 61) (x := 1) (by decide +kernel) rfl la1 ?_
          refine x_nI (t := 7) (mj := 150) (n := 2) (rc := 0) (ml := 2) (nr := 1) (np := 64) (as := [iv_c v1201, iv_c a1]) (rest := [x_r 52]) (lo1 := [iv_c v1201, iv_c a1]) (by decide +kernel) (by decide) (by decide +kernel) (Or.inl rfl) rfl rfl (x_wi (by first | decide | omega) (x_wi la1 x_wn)) (x_wr (by decide) x_wn) (by decide) rfl ?_
          refine x_iload (np := 1) (x := 0) (by decide +kernel) rfl (by first | decide | omega) ?_
          refine x_const (np := 3) (x := 9223372090541867020) (a := 2147483660) (by decide +kernel) (by decide) (by decide) ?_
          refine x_imul (np := 4) (x := 0) (i := u1356) (j := 12) (v := (2147483648 + 12 * u1356)) (by decide +kernel) (by first | decide | omega) (by first | decide | omega) (by first | decide | omega) (by first | decide | omega) (by first | decide | omega) (by decide) ?_
          refine x_iload (np := 5) (x := 1) (by decide +kernel) rfl la1 ?_
          refine x_iadd (np := 6) (x := 0) (v := (12 * u1356 + a1)) (by decide +kernel) (by first | decide | omega) la1 (by first | decide | omega) (by first | decide | omega) ?_
          refine x_retI (np := 7) (x := 0) (by decide +kernel) (by first | decide | omega) (Or.inl (by decide +kernel)) ⟨_, rfl, (by first | decide | omega), ?_⟩
          refine x_aload (np := 65) (x := 0) (by decide +kernel) rfl (x_nc_le (by decide)) ?_
          refine x_iload (np := 66) (x := 2) (by decide +kernel) rfl (by first | decide | omega) ?_
          refine x_iload (np := 67) (x := 1) (by decide +kernel) rfl la1 ?_
          refine x_cP (t := 6) (mj := 28) (n := 3) (rc := 2) (ml := 3) (nr := 2) (np := 70) (as := [x_r 45, iv_c v1201, iv_c a1]) (rest := [iv_c (12 * u1356 + a1), x_r 52]) (lo1 := [x_r 45, iv_c v1201, iv_c a1]) (by decide +kernel) (by decide) (by decide +kernel) (x_rb_of (by decide +kernel)) rfl rfl (x_wr (by decide) (x_wi (by first | decide | omega) (x_wi la1 x_wn))) (x_wi (by first | decide | omega) (x_wr (by decide) x_wn)) (by decide) rfl (c28_45 j1364  (by first | decide | omega) (by first | decide | omega)) (fun v1370 l1371 q1372 => ?_)
          refine x_ast (np := 71) (x := 0) (kd := 1) (n := 72) (i := (12 * u1356 + u1361)) (by decide +kernel) (Or.inl rfl) (by decide +kernel) (by first | decide | omega) (by first | decide | omega) (by decide) l1371 (fun z => absurd z (by decide)) ?_
          have j1374 := jU (e := (12 * u1356 + u1361)) (v := v1370) (12 * u1356 + u1361) j1364 rg_52_0_1_72 (by first | decide | omega) (by first | decide | omega) (by first | decide | omega)
          have f1376 := jF (e := (12 * u1356 + u1361)) (v := v1370) (12 * u1356 + u1361) f1366 rg_52_0_1_72 (by first | decide | omega) (by first | decide | omega) (by decide)
          have f1377 := jF (e := (12 * u1356 + u1361)) (v := v1370) (12 * u1356 + u1361) f1367 rg_52_0_1_72 (by first | decide | omega) (by first | decide | omega) (by decide)
          generalize e1375 : x_up h1363 52 (12 * u1356 + u1361) v1370 = h1373 at j1374 f1376 f1377 ⊢
          refine x_iload (np := 73) (x := 4) (by decide +kernel) rfl (by decide) ?_
          refine x_ifz (k := 1) (tg := 92) (np := 76) (by decide +kernel) (by decide) (by decide) (fun q1378 => ?_) (fun q1379 => ?_)
          · have q1378 : 2147483648 ≠ 2147483648 := q1378
            exfalso; omega
          have q1379 : ¬ (2147483648 ≠ 2147483648) := q1379
          refine x_aload (np := 77) (x := 0) (by decide +kernel) rfl (x_nc_le (by decide)) ?_
          have q1380 : h1373 45 1 = 47 := by have z := jB (e := 1) 0 j1374 rg_45_1_0_1 (by decide) (by decide); omega
          refine x_getR (np := 80) (x := 65) (f := 1) (q := 47) (by decide +kernel) (by decide) (by decide +kernel) q1380 ?_
          refine x_iload (np := 81) (x := 2) (by decide +kernel) rfl (by first | decide | omega) ?_
          refine x_iload (np := 82) (x := 3) (by decide +kernel) rfl l1220 ?_
          refine x_nI (t := 7) (mj := 149) (n := 2) (rc := 0) (ml := 2) (nr := 1) (np := 85) (as := [iv_c v1201, iv_c v1219]) (rest := [x_r 47]) (lo1 := [iv_c v1201, iv_c v1219]) (by decide +kernel) (by decide) (by decide +kernel) (Or.inl rfl) rfl rfl (x_wi (by first | decide | omega) (x_wi l1220 x_wn)) (x_wr (by decide) x_wn) (by decide) rfl ?_
          refine x_iload (np := 1) (x := 0) (by decide +kernel) rfl (by first | decide | omega) ?_
          refine x_const (np := 3) (x := 9223372064772063238) (a := 2147483654) (by decide +kernel) (by decide) (by decide) ?_
          refine x_imul (np := 4) (x := 0) (i := u1356) (j := 6) (v := (2147483648 + 6 * u1356)) (by decide +kernel) (by first | decide | omega) (by first | decide | omega) (by first | decide | omega) (by first | decide | omega) (by first | decide | omega) (by decide) ?_
          refine x_iload (np := 5) (x := 1) (by decide +kernel) rfl l1220 ?_
          refine x_iadd (np := 6) (x := 0) (v := (6 * u1356 + v1219)) (by decide +kernel) (by first | decide | omega) l1220 (by first | decide | omega) (by first | decide | omega) ?_
          refine x_retI (np := 7) (x := 0) (by decide +kernel) (by first | decide | omega) (Or.inl (by decide +kernel)) ⟨_, rfl, (by first | decide | omega), ?_⟩
          refine x_dup2 (np := 86) (x := 0) (by decide +kernel) (by have z := (iw_c_lt (a := (6 * u1356 + v1219)) (by first | decide | omega)).1; omega) (by have z := x_nc_le (k := 47) (by decide); unfold x_r; omega) ?_
          have q1382 : h1373 47 (6 * u1356 + u1305) = h1363 47 (6 * u1356 + u1305) := by rw [← e1375]; exact x_up_k (by decide)
          have q1383 : h1363 47 (6 * u1356 + u1305) = h1205 47 (6 * u1356 + u1305) := by rw [← e1365]; exact x_up_k (by decide)
          refine x_aldC (np := 87) (x := 0) (n := 36) (i := (6 * u1356 + u1305)) (q := ((h1205 47 (6 * u1356 + u1305)))) (by decide +kernel) (by decide +kernel) (by first | decide | omega) (by first | decide | omega) (by decide) (q1382.trans q1383) (fun l1384 => ?_)
          refine x_const (np := 88) (x := 9223372043297226753) (a := 2147483649) (by decide +kernel) (by decide) (by decide) ?_
          refine x_iload (np := 89) (x := 1) (by decide +kernel) rfl la1 ?_
          refine x_any (np := 90) (k9 := 3) (by decide +kernel) (by decide) (by decide) la1 (fun v1385 l1386 => ?_)
          refine x_any (np := 91) (k9 := 1) (by decide +kernel) (by decide) l1384 l1386 (fun v1387 l1388 => ?_)
          refine x_ast (np := 92) (x := 0) (kd := 1) (n := 36) (i := (6 * u1356 + u1305)) (by decide +kernel) (Or.inl rfl) (by decide +kernel) (by first | decide | omega) (by first | decide | omega) (by decide) l1388 (fun z => absurd z (by decide)) ?_
          have j1390 := jU (e := (6 * u1356 + u1305)) (v := v1387) (6 * u1356 + u1305) j1374 rg_47_0_1_36 (by first | decide | omega) (by first | decide | omega) (by first | decide | omega)
          have f1392 := jF (e := (6 * u1356 + u1305)) (v := v1387) (6 * u1356 + u1305) f1376 rg_47_0_1_36 (by first | decide | omega) (by first | decide | omega) (by decide)
          have f1393 := jF (e := (6 * u1356 + u1305)) (v := v1387) (6 * u1356 + u1305) f1377 rg_47_0_1_36 (by first | decide | omega) (by first | decide | omega) (by decide)
          generalize e1391 : x_up h1373 47 (6 * u1356 + u1305) v1387 = h1389 at j1390 f1392 f1393 ⊢
          refine x_aload (np := 93) (x := 0) (by decide +kernel) rfl (x_nc_le (by decide)) ?_
          refine x_iload (np := 94) (x := 2) (by decide +kernel) rfl (by first | decide | omega) ?_
          refine x_iload (np := 95) (x := 2) (by decide +kernel) rfl (by first | decide | omega) ?_
          refine x_iload (np := 96) (x := 1) (by decide +kernel) rfl la1 ?_
          refine x_nI (t := 7) (mj := 150) (n := 2) (rc := 0) (ml := 2) (nr := 2) (np := 99) (as := [iv_c v1201, iv_c a1]) (rest := [iv_c v1201, x_r 45]) (lo1 := [iv_c v1201, iv_c a1]) (by decide +kernel) (by decide) (by decide +kernel) (Or.inl rfl) rfl rfl (x_wi (by first | decide | omega) (x_wi la1 x_wn)) (x_wi (by first | decide | omega) (x_wr (by decide) x_wn)) (by decide) rfl ?_
          refine x_iload (np := 1) (x := 0) (by decide +kernel) rfl (by first | decide | omega) ?_
          refine x_const (np := 3) (x := 9223372090541867020) (a := 2147483660) (by decide +kernel) (by decide) (by decide) ?_
          refine x_imul (np := 4) (x := 0) (i := u1356) (j := 12) (v := (2147483648 + 12 * u1356)) (by decide +kernel) (by first | decide | omega) (by first | decide | omega) (by first | decide | omega) (by first | decide | omega) (by first | decide | omega) (by decide) ?_
          refine x_iload (np := 5) (x := 1) (by decide +kernel) rfl la1 ?_
          refine x_iadd (np := 6) (x := 0) (v := (12 * u1356 + a1)) (by decide +kernel) (by first | decide | omega) la1 (by first | decide | omega) (by first | decide | omega) ?_
          refine x_retI (np := 7) (x := 0) (by decide +kernel) (by first | decide | omega) (Or.inl (by decide +kernel)) ⟨_, rfl, (by first | decide | omega), ?_⟩
          refine x_const (np := 101) (x := 9223372129196572693) (a := 2147483669) (by decide +kernel) (by decide) (by decide) ?_
          refine x_imul (np := 102) (x := 0) (i := (12 * u1356 + u1361)) (j := 21) (v := (2147483648 + 252 * u1356 + 21 * u1361)) (by decide +kernel) (by first | decide | omega) (by first | decide | omega) (by first | decide | omega) (by first | decide | omega) (by first | decide | omega) (by decide) ?_
          refine x_cV (t := 6) (mj := 27) (n := 3) (rc := 2) (ml := 4) (nr := 0) (np := 105) (as := [x_r 45, iv_c v1201, iv_c (2147483648 + 252 * u1356 + 21 * u1361)]) (rest := []) (lo1 := [x_r 45, iv_c v1201, iv_c (2147483648 + 252 * u1356 + 21 * u1361), 147573952589676412928]) (by decide +kernel) (by decide) (by decide +kernel) (x_rb_of (by decide +kernel)) rfl rfl (x_wr (by decide) (x_wi (by first | decide | omega) (x_wi (by first | decide | omega) x_wn))) x_wn (by decide) rfl (c27_45 j1390  (by first | decide | omega) (by first | decide | omega)) (fun h1399 q1398 => ?_)
          obtain ⟨j1400, f1401⟩ := q1398
          have f1404 := Fr.trans f1392 f1401 (by decide)
          have f1405 := Fr.trans f1393 f1401 (by decide)
          refine x_iinc (np := 108) (i := 2) (j := 2147483649) (v := (1 + v1201)) (lo' := [x_r 45, iv_c a1, iv_c (1 + v1201), iv_c v1219, iv_c 2147483648]) (by decide +kernel) (by decide) (by decide) rfl (by first | decide | omega) (by first | decide | omega) (by first | decide | omega) rfl ?_
          refine x_goto (np := 111) (x := 2) (by decide +kernel) ?_
          exact i1210 (1 + v1201) (iv_c v1219) (iv_c 2147483648) h1399 (by first | decide | omega) (by first | decide | omega) j1400 f1405
        have q1360 : ¬ (2147483648 = 2147483648) := q1360
        exfalso; omega
      have q1354 : ¬ (2147483649 ≠ 2147483648) := q1354
      exfalso; omega
  exact p1208 _ 2147483648 147573952589676412928 147573952589676412928 h (Nat.lt_succ_self _) (by first | decide | omega) hJ (Fr.refl _ _)
set_option maxHeartbeats 0 in
/-- LentNames$Calendar.holdCourt(I)V -/
theorem c19_45 {sc : Nat × Nat} {d a1 : Nat} {h : xh} (hJ : J h) (ba1 : 2147483648 ≤ a1 ∧ a1 ≤ 2147483659) : X sc 19 (d + 3) (xV fun h' => J h' ∧ Fr 5121 h h') 0 0 0 [x_r 45, iv_c a1, 147573952589676412928, 147573952589676412928] [] h := by
  have la1 : a1 < 4294967296 := by first | decide | omega
  have hF := Fr.refl 5121 h
  refine x_const (np := 1) (x := 9223372039002259456) (a := 2147483648) (by decide +kernel) (by decide) (by decide) ?_
  refine x_istore (np := 2) (x := 2) (lo' := [x_r 45, iv_c a1, iv_c 2147483648, 147573952589676412928]) (by decide +kernel) (by decide) (Nat.le_of_ble_eq_true rfl) rfl ?_
  have p584 : ∀ (n : Nat) (v578 : Nat) (w580 : Nat) (h581 : xh), 4294967296 - v578 < n → (2147483648 ≤ v578 ∧ v578 ≤ 2147483654) → J h581 → Fr 5121 h h581 → X sc 19 (d + 3) (xV fun h' => J h' ∧ Fr 5121 h h') 0 0 2 [x_r 45, iv_c a1, iv_c v578, w580] [] h581 := by
    intro n
    induction n with
    | zero => intro v578 w580 h581 q585; exact absurd q585 (Nat.not_lt_zero _)
    | succ n i586 =>
      intro v578 w580 h581 q585 b579 j583 f582
      have f587 := Fr.trans hF f582 (by decide)
      refine x_iload (np := 3) (x := 2) (by decide +kernel) rfl (by first | decide | omega) ?_
      refine x_aload (np := 4) (x := 0) (by decide +kernel) rfl (x_nc_le (by decide)) ?_
      have q588 : h581 45 5 = h 45 5 := f582 45 5 (by decide +kernel)
      have t589 : tw (h 45 5) := hJ.2.2.2.1
      refine x_getR (np := 7) (x := 69) (f := 5) (q := (h 45 5)) (by decide +kernel) (by decide) (by decide +kernel) q588 ?_
      have q590 : h581 (h 45 5) 7 = h (h 45 5) 7 := jK 0 f582 (rg_T0_7_0_1 t589) (by first | decide | omega) (by first | decide | omega) (by decide)
      have b591 := jB (e := 7) 0 hJ (rg_T0_7_0_1 t589) (by first | decide | omega) (by first | decide | omega)
      refine x_getC (np := 10) (x := 519) (f := 7) (q := (h (h 45 5) 7)) (by decide +kernel) (by decide) (tg_0_519_7_0 t589) q590 (fun l592 => ?_)
      refine x_icmp (k := 3) (tg := 54) (np := 13) (by decide +kernel) (by decide) (by first | decide | omega) l592 (fun q593 => ?_) (fun q594 => ?_)
      · have q593 : (h (h 45 5) 7) ≤ v578 := q593
        refine x_retV (np := 55) (x := 0) (by decide +kernel) (by decide +kernel) ⟨rfl, ?_⟩
        exact ⟨j583, f587⟩
      have q594 : ¬ ((h (h 45 5) 7) ≤ v578) := q594
      refine x_aload (np := 14) (x := 0) (by decide +kernel) rfl (x_nc_le (by decide)) ?_
      have q595 : h581 45 12 = 57 := by have z := jB (e := 12) 0 j583 rg_45_12_0_1 (by decide) (by decide); omega
      refine x_getR (np := 17) (x := 76) (f := 12) (q := 57) (by decide +kernel) (by decide) (by decide +kernel) q595 ?_
      refine x_iload (np := 18) (x := 2) (by decide +kernel) rfl (by first | decide | omega) ?_
      obtain ⟨u596, q597⟩ : ∃ z, v578 = 2147483648 + z := ⟨v578 - 2147483648, by first | decide | omega⟩
      have b598 := jB (e := u596) u596 j583 rg_57_0_1_6 (by first | decide | omega) (by first | decide | omega)
      refine x_aldC (np := 19) (x := 0) (n := 6) (i := u596) (q := (h581 57 u596)) (by decide +kernel) (by decide +kernel) (by first | decide | omega) (by first | decide | omega) (by decide) rfl (fun l599 => ?_)
      refine x_const (np := 20) (x := 9223372043297226753) (a := 2147483649) (by decide +kernel) (by decide) (by decide) ?_
      obtain ⟨v600, q601⟩ : ∃ z, z + 2147483649 = (h581 57 u596) + 2147483648 := ⟨(h581 57 u596) + 2147483648 - 2147483649, by first | decide | omega⟩
      refine x_isub (np := 21) (x := 0) (v := v600) (by decide +kernel) l599 (by decide) (by first | decide | omega) (by first | decide | omega) ?_
      refine x_istore (np := 22) (x := 3) (lo' := [x_r 45, iv_c a1, iv_c v578, iv_c v600]) (by decide +kernel) (by first | decide | omega) (Nat.le_of_ble_eq_true rfl) rfl ?_
      have p654 : ∀ (n : Nat) (v649 : Nat) (h651 : xh), v649 < n → (2147483647 ≤ v649 ∧ v649 ≤ 2147483667) → J h651 → Fr 5121 h581 h651 → X sc 19 (d + 3) (xV fun h' => J h' ∧ Fr 5121 h h') 0 0 22 [x_r 45, iv_c a1, iv_c v578, iv_c v649] [] h651 := by
        intro n
        induction n with
        | zero => intro v649 h651 q655; exact absurd q655 (Nat.not_lt_zero _)
        | succ n i656 =>
          intro v649 h651 q655 b650 j653 f652
          have f657 := Fr.trans f587 f652 (by decide)
          have f658 := Fr.trans f582 f652 (by decide)
          refine x_iload (np := 23) (x := 3) (by decide +kernel) rfl (by first | decide | omega) ?_
          refine x_ifz (k := 2) (tg := 48) (np := 26) (by decide +kernel) (by decide) (by first | decide | omega) (fun q659 => ?_) (fun q660 => ?_)
          · have q659 : v649 < 2147483648 := q659
            refine x_iinc (np := 51) (i := 2) (j := 2147483649) (v := (1 + v578)) (lo' := [x_r 45, iv_c a1, iv_c (1 + v578), iv_c v649]) (by decide +kernel) (by decide) (by decide) rfl (by first | decide | omega) (by first | decide | omega) (by first | decide | omega) rfl ?_
            refine x_goto (np := 54) (x := 2) (by decide +kernel) ?_
            exact i586 (1 + v578) (iv_c v649) h651 (by first | decide | omega) (by first | decide | omega) j653 f658
          have q660 : ¬ (v649 < 2147483648) := q660
          refine x_aload (np := 27) (x := 0) (by decide +kernel) rfl (x_nc_le (by decide)) ?_
          refine x_iload (np := 28) (x := 2) (by decide +kernel) rfl (by first | decide | omega) ?_
          refine x_iload (np := 29) (x := 1) (by decide +kernel) rfl la1 ?_
          refine x_cP (t := 6) (mj := 29) (n := 3) (rc := 2) (ml := 3) (nr := 0) (np := 32) (as := [x_r 45, iv_c v578, iv_c a1]) (rest := []) (lo1 := [x_r 45, iv_c v578, iv_c a1]) (by decide +kernel) (by decide) (by decide +kernel) (x_rb_of (by decide +kernel)) rfl rfl (x_wr (by decide) (x_wi (by first | decide | omega) (x_wi la1 x_wn))) x_wn (by decide) rfl (c29_45 j653  (by first | decide | omega) (by first | decide | omega)) (fun v661 l662 q663 => ?_)
          refine x_ifz (k := 1) (tg := 48) (np := 35) (by decide +kernel) (by decide) l662 (fun q664 => ?_) (fun q665 => ?_)
          · have q664 : v661 ≠ 2147483648 := q664
            refine x_iinc (np := 51) (i := 2) (j := 2147483649) (v := (1 + v578)) (lo' := [x_r 45, iv_c a1, iv_c (1 + v578), iv_c v649]) (by decide +kernel) (by decide) (by decide) rfl (by first | decide | omega) (by first | decide | omega) (by first | decide | omega) rfl ?_
            refine x_goto (np := 54) (x := 2) (by decide +kernel) ?_
            exact i586 (1 + v578) (iv_c v649) h651 (by first | decide | omega) (by first | decide | omega) j653 f658
          have q665 : ¬ (v661 ≠ 2147483648) := q665
          refine x_aload (np := 36) (x := 0) (by decide +kernel) rfl (x_nc_le (by decide)) ?_
          refine x_iload (np := 37) (x := 2) (by decide +kernel) rfl (by first | decide | omega) ?_
          refine x_iload (np := 38) (x := 3) (by decide +kernel) rfl (by first | decide | omega) ?_
          refine x_iload (np := 39) (x := 1) (by decide +kernel) rfl la1 ?_
          refine x_cV (t := 6) (mj := 18) (n := 4) (rc := 2) (ml := 5) (nr := 0) (np := 42) (as := [x_r 45, iv_c v578, iv_c v649, iv_c a1]) (rest := []) (lo1 := [x_r 45, iv_c v578, iv_c v649, iv_c a1, 147573952589676412928]) (by decide +kernel) (by decide) (by decide +kernel) (x_rb_of (by decide +kernel)) rfl rfl (x_wr (by decide) (x_wi (by first | decide | omega) (x_wi (by first | decide | omega) (x_wi la1 x_wn)))) x_wn (by decide) rfl (c18_45 j653  (by first | decide | omega) (by first | decide | omega) (by first | decide | omega)) (fun h669 q668 => ?_)
          obtain ⟨j670, f671⟩ := q668
          have f674 := Fr.trans f657 f671 (by decide)
          have f675 := Fr.trans f658 f671 (by decide)
          have f676 := Fr.trans f652 f671 (by decide)
          obtain ⟨v677, q678⟩ : ∃ z, z + 1 = v649 := ⟨v649 - 1, by first | decide | omega⟩
          refine x_iinc (np := 45) (i := 3) (j := 2147483647) (v := v677) (lo' := [x_r 45, iv_c a1, iv_c v578, iv_c v677]) (by decide +kernel) (by decide) (by decide) rfl (by first | decide | omega) (by first | decide | omega) (by first | decide | omega) rfl ?_
          refine x_goto (np := 48) (x := 22) (by decide +kernel) ?_
          exact i656 v677 h669 (by first | decide | omega) (by first | decide | omega) j670 f676
      exact p654 _ v600 h581 (Nat.lt_succ_self _) (by first | decide | omega) j583 (Fr.refl _ _)
  exact p584 _ 2147483648 147573952589676412928 h (Nat.lt_succ_self _) (by first | decide | omega) hJ (Fr.refl _ _)
set_option maxHeartbeats 0 in
/-- LentNames$Calendar.live(LLentNames$Town;)V -/
theorem c4_45_T0 {sc : Nat × Nat} {d ra1 : Nat} {h : xh} (hJ : J h) (ta1 : tw ra1) : X sc 4 (d + 5) (xV fun h' => J h' ∧ Fr 576601489791786497 h h') 0 0 0 [x_r 45, x_r ra1, 147573952589676412928] [] h := by
  have hF := Fr.refl 576601489791786497 h
  refine x_aload (np := 1) (x := 0) (by decide +kernel) rfl (x_nc_le (by decide)) ?_
  refine x_aload (np := 2) (x := 1) (by decide +kernel) rfl (x_nc_le (tn_0 ta1)) ?_
  refine x_putR (np := 5) (x := 8261) (f := 5) (by decide +kernel) (by decide +kernel) (tn_0 ta1) (by decide) ?_
  have j2 := J_upW (k := 45) (i := 5) hJ ta1 (by decide)
  have f4 := Fr.up (k := 45) (i := 5) (v := ra1) hF (by decide +kernel)
  generalize e3 : x_up h 45 5 ra1 = h1 at j2 f4 ⊢
  refine x_aload (np := 6) (x := 0) (by decide +kernel) rfl (x_nc_le (by decide)) ?_
  refine x_cV (t := 6) (mj := 16) (n := 1) (rc := 2) (ml := 2) (nr := 0) (np := 9) (as := [x_r 45]) (rest := []) (lo1 := [x_r 45, 147573952589676412928]) (by decide +kernel) (by decide) (by decide +kernel) (x_rb_of (by decide +kernel)) rfl rfl (x_wr (by decide) x_wn) x_wn (by decide) rfl (c16_45 j2 ) (fun h8 q7 => ?_)
  obtain ⟨j9, f10⟩ := q7
  have f13 := Fr.trans f4 f10 (by decide)
  refine x_const (np := 10) (x := 9223372039002259456) (a := 2147483648) (by decide +kernel) (by decide) (by decide) ?_
  refine x_istore (np := 11) (x := 2) (lo' := [x_r 45, x_r ra1, iv_c 2147483648]) (by decide +kernel) (by decide) (Nat.le_of_ble_eq_true rfl) rfl ?_
  have p1125 : ∀ (n : Nat) (v1120 : Nat) (h1122 : xh), 4294967296 - v1120 < n → (2147483648 ≤ v1120 ∧ v1120 ≤ 2147483660) → J h1122 → Fr 140737488362497 h8 h1122 → X sc 4 (d + 5) (xV fun h' => J h' ∧ Fr 576601489791786497 h h') 0 0 11 [x_r 45, x_r ra1, iv_c v1120] [] h1122 := by
    intro n
    induction n with
    | zero => intro v1120 h1122 q1126; exact absurd q1126 (Nat.not_lt_zero _)
    | succ n i1127 =>
      intro v1120 h1122 q1126 b1121 j1124 f1123
      have f1128 := Fr.trans f13 f1123 (by decide)
      refine x_iload (np := 12) (x := 2) (by decide +kernel) rfl (by first | decide | omega) ?_
      refine x_const (np := 14) (x := 9223372090541867020) (a := 2147483660) (by decide +kernel) (by decide) (by decide) ?_
      refine x_icmp (k := 3) (tg := 62) (np := 17) (by decide +kernel) (by decide) (by first | decide | omega) (by decide) (fun q1129 => ?_) (fun q1130 => ?_)
      · have q1129 : 2147483660 ≤ v1120 := q1129
        refine x_retV (np := 63) (x := 0) (by decide +kernel) (by decide +kernel) ⟨rfl, ?_⟩
        exact ⟨j1124, f1128⟩
      have q1130 : ¬ (2147483660 ≤ v1120) := q1130
      refine x_aload (np := 18) (x := 0) (by decide +kernel) rfl (x_nc_le (by decide)) ?_
      refine x_iload (np := 19) (x := 2) (by decide +kernel) rfl (by first | decide | omega) ?_
      refine x_cV (t := 6) (mj := 17) (n := 2) (rc := 2) (ml := 4) (nr := 0) (np := 22) (as := [x_r 45, iv_c v1120]) (rest := []) (lo1 := [x_r 45, iv_c v1120, 147573952589676412928, 147573952589676412928]) (by decide +kernel) (by decide) (by decide +kernel) (x_rb_of (by decide +kernel)) rfl rfl (x_wr (by decide) (x_wi (by first | decide | omega) x_wn)) x_wn (by decide) rfl (c17_45 j1124  (by first | decide | omega)) (fun h1134 q1133 => ?_)
      obtain ⟨j1135, f1136⟩ := q1133
      have f1139 := Fr.trans f1128 f1136 (by decide)
      have f1140 := Fr.trans f1123 f1136 (by decide)
      refine x_aload (np := 23) (x := 0) (by decide +kernel) rfl (x_nc_le (by decide)) ?_
      have q1141 : h1134 45 5 = h1122 45 5 := f1136 45 5 (by decide +kernel)
      have q1142 : h1122 45 5 = h8 45 5 := f1123 45 5 (by decide +kernel)
      have q1143 : h8 45 5 = h1 45 5 := f10 45 5 (by decide +kernel)
      have q1144 : h1 45 5 = ra1 := by rw [← e3]; exact x_up_at
      refine x_getR (np := 26) (x := 69) (f := 5) (q := ra1) (by decide +kernel) (by decide) (by decide +kernel) (((q1141.trans q1142).trans q1143).trans q1144) ?_
      have q1145 : h1134 ra1 9 = h1122 ra1 9 := jK 0 f1136 (rg_T0_9_0_1 ta1) (by first | decide | omega) (by first | decide | omega) (by decide)
      have q1146 : h1122 ra1 9 = h8 ra1 9 := jK 0 f1123 (rg_T0_9_0_1 ta1) (by first | decide | omega) (by first | decide | omega) (by decide)
      have q1147 : h8 ra1 9 = h1 ra1 9 := jK 0 f10 (rg_T0_9_0_1 ta1) (by first | decide | omega) (by first | decide | omega) (by decide)
      have q1148 : h1 ra1 9 = h ra1 9 := by rw [← e3]; exact x_up_k (tne_0_45 ta1)
      refine x_getC (np := 29) (x := 521) (f := 9) (q := (h ra1 9)) (by decide +kernel) (by decide) (tg_0_521_9_0 ta1) (((q1145.trans q1146).trans q1147).trans q1148) (fun l1149 => ?_)
      refine x_iload (np := 30) (x := 2) (by decide +kernel) rfl (by first | decide | omega) ?_
      refine x_cP (t := 7) (mj := 148) (n := 2) (rc := 0) (ml := 2) (nr := 0) (np := 33) (as := [iv_c (h ra1 9), iv_c v1120]) (rest := []) (lo1 := [iv_c (h ra1 9), iv_c v1120]) (by decide +kernel) (by decide) (by decide +kernel) (Or.inl rfl) rfl rfl (x_wi l1149 (x_wi (by first | decide | omega) x_wn)) x_wn (by decide) rfl (c148 j1135 (by first | decide | omega) (by first | decide | omega)) (fun v1150 l1151 q1152 => ?_)
      refine x_ifz (k := 0) (tg := 41) (np := 36) (by decide +kernel) (by decide) l1151 (fun q1153 => ?_) (fun q1154 => ?_)
      · have q1153 : v1150 = 2147483648 := q1153
        refine x_aload (np := 42) (x := 0) (by decide +kernel) rfl (x_nc_le (by decide)) ?_
        refine x_iload (np := 43) (x := 2) (by decide +kernel) rfl (by first | decide | omega) ?_
        refine x_cV (t := 6) (mj := 20) (n := 2) (rc := 2) (ml := 5) (nr := 0) (np := 46) (as := [x_r 45, iv_c v1120]) (rest := []) (lo1 := [x_r 45, iv_c v1120, 147573952589676412928, 147573952589676412928, 147573952589676412928]) (by decide +kernel) (by decide) (by decide +kernel) (x_rb_of (by decide +kernel)) rfl rfl (x_wr (by decide) (x_wi (by first | decide | omega) x_wn)) x_wn (by decide) rfl (c20_45 j1135  (by first | decide | omega)) (fun h1158 q1157 => ?_)
        obtain ⟨j1159, f1160⟩ := q1157
        have f1163 := Fr.trans f1139 f1160 (by decide)
        have f1164 := Fr.trans f1140 f1160 (by decide)
        refine x_aload (np := 47) (x := 0) (by decide +kernel) rfl (x_nc_le (by decide)) ?_
        refine x_iload (np := 48) (x := 2) (by decide +kernel) rfl (by first | decide | omega) ?_
        refine x_cV (t := 6) (mj := 21) (n := 2) (rc := 2) (ml := 5) (nr := 0) (np := 51) (as := [x_r 45, iv_c v1120]) (rest := []) (lo1 := [x_r 45, iv_c v1120, 147573952589676412928, 147573952589676412928, 147573952589676412928]) (by decide +kernel) (by decide) (by decide +kernel) (x_rb_of (by decide +kernel)) rfl rfl (x_wr (by decide) (x_wi (by first | decide | omega) x_wn)) x_wn (by decide) rfl (c21_45 j1159  (by first | decide | omega)) (fun h1168 q1167 => ?_)
        obtain ⟨j1169, f1170⟩ := q1167
        have f1173 := Fr.trans f1163 f1170 (by decide)
        have f1174 := Fr.trans f1164 f1170 (by decide)
        refine x_aload (np := 52) (x := 0) (by decide +kernel) rfl (x_nc_le (by decide)) ?_
        refine x_iload (np := 53) (x := 2) (by decide +kernel) rfl (by first | decide | omega) ?_
        refine x_cV (t := 6) (mj := 26) (n := 2) (rc := 2) (ml := 5) (nr := 0) (np := 56) (as := [x_r 45, iv_c v1120]) (rest := []) (lo1 := [x_r 45, iv_c v1120, 147573952589676412928, 147573952589676412928, 147573952589676412928]) (by decide +kernel) (by decide) (by decide +kernel) (x_rb_of (by decide +kernel)) rfl rfl (x_wr (by decide) (x_wi (by first | decide | omega) x_wn)) x_wn (by decide) rfl (c26_45 j1169  (by first | decide | omega)) (fun h1178 q1177 => ?_)
        obtain ⟨j1179, f1180⟩ := q1177
        have f1183 := Fr.trans f1173 f1180 (by decide)
        have f1184 := Fr.trans f1174 f1180 (by decide)
        refine x_iinc (np := 59) (i := 2) (j := 2147483649) (v := (1 + v1120)) (lo' := [x_r 45, x_r ra1, iv_c (1 + v1120)]) (by decide +kernel) (by decide) (by decide) rfl (by first | decide | omega) (by first | decide | omega) (by first | decide | omega) rfl ?_
        refine x_goto (np := 62) (x := 11) (by decide +kernel) ?_
        exact i1127 (1 + v1120) h1178 (by first | decide | omega) (by first | decide | omega) j1179 f1184
      have q1154 : ¬ (v1150 = 2147483648) := q1154
      refine x_aload (np := 37) (x := 0) (by decide +kernel) rfl (x_nc_le (by decide)) ?_
      refine x_iload (np := 38) (x := 2) (by decide +kernel) rfl (by first | decide | omega) ?_
      refine x_cV (t := 6) (mj := 19) (n := 2) (rc := 2) (ml := 4) (nr := 0) (np := 41) (as := [x_r 45, iv_c v1120]) (rest := []) (lo1 := [x_r 45, iv_c v1120, 147573952589676412928, 147573952589676412928]) (by decide +kernel) (by decide) (by decide +kernel) (x_rb_of (by decide +kernel)) rfl rfl (x_wr (by decide) (x_wi (by first | decide | omega) x_wn)) x_wn (by decide) rfl (c19_45 j1135  (by first | decide | omega)) (fun h1188 q1187 => ?_)
      obtain ⟨j1189, f1190⟩ := q1187
      have f1193 := Fr.trans f1139 f1190 (by decide)
      have f1194 := Fr.trans f1140 f1190 (by decide)
      refine x_aload (np := 42) (x := 0) (by decide +kernel) rfl (x_nc_le (by decide)) ?_
      refine x_iload (np := 43) (x := 2) (by decide +kernel) rfl (by first | decide | omega) ?_
      refine x_cV (t := 6) (mj := 20) (n := 2) (rc := 2) (ml := 5) (nr := 0) (np := 46) (as := [x_r 45, iv_c v1120]) (rest := []) (lo1 := [x_r 45, iv_c v1120, 147573952589676412928, 147573952589676412928, 147573952589676412928]) (by decide +kernel) (by decide) (by decide +kernel) (x_rb_of (by decide +kernel)) rfl rfl (x_wr (by decide) (x_wi (by first | decide | omega) x_wn)) x_wn (by decide) rfl (c20_45 j1189  (by first | decide | omega)) (fun h1198 q1197 => ?_)
      obtain ⟨j1199, f1200⟩ := q1197
      have f1203 := Fr.trans f1193 f1200 (by decide)
      have f1204 := Fr.trans f1194 f1200 (by decide)
      refine x_aload (np := 47) (x := 0) (by decide +kernel) rfl (x_nc_le (by decide)) ?_
      refine x_iload (np := 48) (x := 2) (by decide +kernel) rfl (by first | decide | omega) ?_
      refine x_cV (t := 6) (mj := 21) (n := 2) (rc := 2) (ml := 5) (nr := 0) (np := 51) (as := [x_r 45, iv_c v1120]) (rest := []) (lo1 := [x_r 45, iv_c v1120, 147573952589676412928, 147573952589676412928, 147573952589676412928]) (by decide +kernel) (by decide) (by decide +kernel) (x_rb_of (by decide +kernel)) rfl rfl (x_wr (by decide) (x_wi (by first | decide | omega) x_wn)) x_wn (by decide) rfl (c21_45 j1199  (by first | decide | omega)) (fun h1208 q1207 => ?_)
      obtain ⟨j1209, f1210⟩ := q1207
      have f1213 := Fr.trans f1203 f1210 (by decide)
      have f1214 := Fr.trans f1204 f1210 (by decide)
      refine x_aload (np := 52) (x := 0) (by decide +kernel) rfl (x_nc_le (by decide)) ?_
      refine x_iload (np := 53) (x := 2) (by decide +kernel) rfl (by first | decide | omega) ?_
      refine x_cV (t := 6) (mj := 26) (n := 2) (rc := 2) (ml := 5) (nr := 0) (np := 56) (as := [x_r 45, iv_c v1120]) (rest := []) (lo1 := [x_r 45, iv_c v1120, 147573952589676412928, 147573952589676412928, 147573952589676412928]) (by decide +kernel) (by decide) (by decide +kernel) (x_rb_of (by decide +kernel)) rfl rfl (x_wr (by decide) (x_wi (by first | decide | omega) x_wn)) x_wn (by decide) rfl (c26_45 j1209  (by first | decide | omega)) (fun h1218 q1217 => ?_)
      obtain ⟨j1219, f1220⟩ := q1217
      have f1223 := Fr.trans f1213 f1220 (by decide)
      have f1224 := Fr.trans f1214 f1220 (by decide)
      refine x_iinc (np := 59) (i := 2) (j := 2147483649) (v := (1 + v1120)) (lo' := [x_r 45, x_r ra1, iv_c (1 + v1120)]) (by decide +kernel) (by decide) (by decide) rfl (by first | decide | omega) (by first | decide | omega) (by first | decide | omega) rfl ?_
      refine x_goto (np := 62) (x := 11) (by decide +kernel) ?_
      exact i1127 (1 + v1120) h1218 (by first | decide | omega) (by first | decide | omega) j1219 f1224
  exact p1125 _ 2147483648 h8 (Nat.lt_succ_self _) (by first | decide | omega) j9 (Fr.refl _ _)
set_option maxHeartbeats 0 in
/-- LentNames.back()Z -/
theorem c139_0 {sc : Nat × Nat} {d  : Nat} {h : xh} (hJ : J h) : X sc 139 (d + 7) (xI fun r h' => J h' ∧ Fr 641059259458625153 h h' ∧ (2147483648 ≤ r ∧ r ≤ 2147483649) ∧ (r = h 0 10) ∧ (r = 2147483649 → ∀ i, tv h' i = svq h 3 i) ∧ (r = 2147483648 → ∀ i, tv h' i = tv h i) ∧ h' 0 8 = h 0 8 ∧ h' 0 9 = h 0 9) 0 0 0 [x_r 0] [] h := by
  have hF := Fr.refl 641059259458625153 h
  refine x_aload (np := 1) (x := 0) (by decide +kernel) rfl (x_nc_le (by decide)) ?_
  have b1 := jB (e := 10) 0 hJ rg_0_10_0_1 (by first | decide | omega) (by first | decide | omega)
  refine x_getC (np := 4) (x := 650) (f := 10) (q := (h 0 10)) (by decide +kernel) (by decide) (by decide +kernel) rfl (fun l2 => ?_)
  refine x_ifz (k := 1) (tg := 9) (np := 7) (by decide +kernel) (by decide) l2 (fun q3 => ?_) (fun q4 => ?_)
  · have q3 : (h 0 10) ≠ 2147483648 := q3
    refine x_aload (np := 10) (x := 0) (by decide +kernel) rfl (x_nc_le (by decide)) ?_
    have t5 : tw (h 0 8) := hJ.2.1
    refine x_getR (np := 13) (x := 648) (f := 8) (q := (h 0 8)) (by decide +kernel) (by decide) (by decide +kernel) rfl ?_
    refine x_aload (np := 14) (x := 0) (by decide +kernel) rfl (x_nc_le (by decide)) ?_
    have q6 : h 0 7 = 3 := by have z := jB (e := 7) 0 hJ rg_0_7_0_1 (by decide) (by decide); omega
    refine x_getR (np := 17) (x := 647) (f := 7) (q := 3) (by decide +kernel) (by decide) (by decide +kernel) q6 ?_
    refine x_cV (t := 6) (mj := 84) (n := 2) (rc := 9) (ml := 2) (nr := 0) (np := 20) (as := [x_r (h 0 8), x_r 3]) (rest := []) (lo1 := [x_r (h 0 8), x_r 3]) (by decide +kernel) (by decide) (by decide +kernel) (x_rb_of (tr_0_9 t5)) rfl rfl (x_wr (tn_0 t5) (x_wr (by decide) x_wn)) x_wn (by decide) rfl (c84_T0_3 hJ t5 ) (fun h10 q9 => ?_)
    obtain ⟨j11, f12, c15, c16, c17, c18, c19, c20, c21, c22⟩ := q9
    have f23 := Fr.trans hF f12 (by decide)
    have b24 := jB (e := 7) 0 hJ rg_3_7_0_1 (by first | decide | omega) (by first | decide | omega)
    have b25 := jB (e := 7) 0 j11 (rg_T0_7_0_1 t5) (by first | decide | omega) (by first | decide | omega)
    have b26 := jB (e := 2) 0 hJ rg_4_2_0_1 (by first | decide | omega) (by first | decide | omega)
    have b27 := jB (e := 2) 0 j11 (rg_T1_2_0_1 t5) (by first | decide | omega) (by first | decide | omega)
    have b28 := jB (e := 2) 0 hJ rg_6_2_0_1 (by first | decide | omega) (by first | decide | omega)
    have b29 := jB (e := 2) 0 j11 (rg_T3_2_0_1 t5) (by first | decide | omega) (by first | decide | omega)
    have b30 := jB (e := 2) 0 hJ rg_8_2_0_1 (by first | decide | omega) (by first | decide | omega)
    have b31 := jB (e := 2) 0 j11 (rg_T5_2_0_1 t5) (by first | decide | omega) (by first | decide | omega)
    have b32 := jB (e := 2) 0 hJ rg_10_2_0_1 (by first | decide | omega) (by first | decide | omega)
    have b33 := jB (e := 2) 0 j11 (rg_T7_2_0_1 t5) (by first | decide | omega) (by first | decide | omega)
    have z34 : h10 ((h 0 8) + 10) 0 = h 13 0 := c21 6
    have z35 : h10 ((h 0 8) + 10) 1 = h 13 1 := c21 7
    have z36 : h10 ((h 0 8) + 10) 2 = h 13 2 := c21 8
    have z37 : h10 ((h 0 8) + 10) 3 = h 13 3 := c21 9
    have z38 : h10 ((h 0 8) + 10) 4 = h 13 4 := c21 10
    have z39 : h10 ((h 0 8) + 10) 5 = h 13 5 := c21 11
    refine x_aload (np := 21) (x := 0) (by decide +kernel) rfl (x_nc_le (by decide)) ?_
    refine x_nV (t := 6) (mj := 143) (n := 1) (rc := 11) (ml := 1) (nr := 0) (np := 24) (as := [x_r 0]) (rest := []) (lo1 := [x_r 0]) (by decide +kernel) (by decide) (by decide +kernel) (x_rb_of (by decide +kernel)) rfl rfl (x_wr (by decide) x_wn) x_wn (by decide) rfl ?_
    refine x_aload (np := 1) (x := 0) (by decide +kernel) rfl (x_nc_le (by decide)) ?_
    have q40 : h10 0 1 = 45 := by have z := jB (e := 1) 0 j11 rg_0_1_0_1 (by decide) (by decide); omega
    refine x_getR (np := 4) (x := 641) (f := 1) (q := 45) (by decide +kernel) (by decide) (by decide +kernel) q40 ?_
    refine x_aload (np := 5) (x := 0) (by decide +kernel) rfl (x_nc_le (by decide)) ?_
    have q41 : h10 0 8 = h 0 8 := f12 0 8 (by decide +kernel)
    refine x_getR (np := 8) (x := 648) (f := 8) (q := (h 0 8)) (by decide +kernel) (by decide) (by decide +kernel) q41 ?_
    refine x_cV (t := 6) (mj := 4) (n := 2) (rc := 2) (ml := 3) (nr := 0) (np := 11) (as := [x_r 45, x_r (h 0 8)]) (rest := []) (lo1 := [x_r 45, x_r (h 0 8), 147573952589676412928]) (by decide +kernel) (by decide) (by decide +kernel) (x_rb_of (by decide +kernel)) rfl rfl (x_wr (by decide) (x_wr (tn_0 t5) x_wn)) x_wn (by decide) rfl (c4_45_T0 j11  t5) (fun h45 q44 => ?_)
    obtain ⟨j46, f47⟩ := q44
    have f50 := Fr.trans f23 f47 (by decide)
    refine x_aload (np := 12) (x := 0) (by decide +kernel) rfl (x_nc_le (by decide)) ?_
    have q51 : h45 0 5 = 63 := by have z := jB (e := 5) 0 j46 rg_0_5_0_1 (by decide) (by decide); omega
    refine x_getR (np := 15) (x := 645) (f := 5) (q := 63) (by decide +kernel) (by decide) (by decide +kernel) q51 ?_
    refine x_nV (t := 8) (mj := 270) (n := 1) (rc := 5) (ml := 1) (nr := 0) (np := 18) (as := [x_r 63]) (rest := []) (lo1 := [x_r 63]) (by decide +kernel) (by decide) (by decide +kernel) (x_rb_of (by decide +kernel)) rfl rfl (x_wr (by decide) x_wn) x_wn (by decide) rfl ?_
    refine x_aload (np := 1) (x := 0) (by decide +kernel) rfl (x_nc_le (by decide)) ?_
    refine x_const (np := 2) (x := 9223372039002259456) (a := 2147483648) (by decide +kernel) (by decide) (by decide) ?_
    refine x_putI (np := 5) (x := 4878) (f := 14) (by decide +kernel) (by decide +kernel) (by decide) (Or.inr ⟨by decide, by first | decide | omega, by first | decide | omega⟩) ?_
    have j53 := jU (e := 14) (v := 2147483648) 0 j46 rg_63_14_0_1 (by first | decide | omega) (by first | decide | omega) (by first | decide | omega)
    have f55 := jF (e := 14) (v := 2147483648) 0 f50 rg_63_14_0_1 (by first | decide | omega) (by first | decide | omega) (by decide)
    generalize e54 : x_up h45 63 14 2147483648 = h52 at j53 f55 ⊢
    refine x_retV (np := 6) (x := 0) (by decide +kernel) (by decide +kernel) ⟨rfl, ?_⟩
    refine x_aload (np := 19) (x := 0) (by decide +kernel) rfl (x_nc_le (by decide)) ?_
    have q56 : h52 0 6 = 69 := by have z := jB (e := 6) 0 j53 rg_0_6_0_1 (by decide) (by decide); omega
    refine x_getR (np := 22) (x := 646) (f := 6) (q := 69) (by decide +kernel) (by decide) (by decide +kernel) q56 ?_
    refine x_nV (t := 8) (mj := 270) (n := 1) (rc := 6) (ml := 1) (nr := 0) (np := 25) (as := [x_r 69]) (rest := []) (lo1 := [x_r 69]) (by decide +kernel) (by decide) (by decide +kernel) (x_rb_of (by decide +kernel)) rfl rfl (x_wr (by decide) x_wn) x_wn (by decide) rfl ?_
    refine x_aload (np := 1) (x := 0) (by decide +kernel) rfl (x_nc_le (by decide)) ?_
    refine x_const (np := 2) (x := 9223372039002259456) (a := 2147483648) (by decide +kernel) (by decide) (by decide) ?_
    refine x_putI (np := 5) (x := 4878) (f := 14) (by decide +kernel) (by decide +kernel) (by decide) (Or.inr ⟨by decide, by first | decide | omega, by first | decide | omega⟩) ?_
    have j58 := jU (e := 14) (v := 2147483648) 0 j53 rg_69_14_0_1 (by first | decide | omega) (by first | decide | omega) (by first | decide | omega)
    have f60 := jF (e := 14) (v := 2147483648) 0 f55 rg_69_14_0_1 (by first | decide | omega) (by first | decide | omega) (by decide)
    generalize e59 : x_up h52 69 14 2147483648 = h57 at j58 f60 ⊢
    refine x_retV (np := 6) (x := 0) (by decide +kernel) (by decide +kernel) ⟨rfl, ?_⟩
    refine x_retV (np := 26) (x := 0) (by decide +kernel) (by decide +kernel) ⟨rfl, ?_⟩
    refine x_const (np := 25) (x := 9223372043297226753) (a := 2147483649) (by decide +kernel) (by decide) (by decide) ?_
    have q61 : h57 0 8 = h52 0 8 := by rw [← e59]; exact x_up_k (by decide)
    have q62 : h52 0 8 = h45 0 8 := by rw [← e54]; exact x_up_k (by decide)
    have q63 : h45 0 8 = h10 0 8 := f47 0 8 (by decide +kernel)
    have q64 : h10 0 8 = h 0 8 := f12 0 8 (by decide +kernel)
    have q65 : h57 0 9 = h52 0 9 := by rw [← e59]; exact x_up_k (by decide)
    have q66 : h52 0 9 = h45 0 9 := by rw [← e54]; exact x_up_k (by decide)
    have q67 : h45 0 9 = h10 0 9 := f47 0 9 (by decide +kernel)
    have q68 : h10 0 9 = h 0 9 := f12 0 9 (by decide +kernel)
    have t69 : tw (h 0 9) := hJ.2.2.1
    have m70 : ∀ j, svq h45 (h 0 8) j = svq h 3 j := Sq.fr c21 f47 (by decide) t5
    have m71 : ∀ j, svq h52 (h 0 8) j = svq h 3 j := by rw [← e54]; exact Sq.up m70 (tw_hi t5 (by decide))
    have m72 : ∀ j, svq h57 (h 0 8) j = svq h 3 j := by rw [← e59]; exact Sq.up m71 (tw_hi t5 (by decide))
    have m73 : ∀ i, tv h57 i = svq h 3 i := fun i => (congrArg (fun z => svq h57 z i) (((q61.trans q62).trans q63).trans q64)).trans (m72 i)
    refine x_retI (np := 26) (x := 0) (by decide +kernel) (by decide) (Or.inr ⟨by decide +kernel, by first | decide | omega, by first | decide | omega⟩) ⟨_, rfl, (by decide), ?_⟩
    exact ⟨j58, f60, (by first | decide | omega), (by first | decide | omega), (fun _ => m73), (fun z => absurd z (by first | decide | omega)), (((q61.trans q62).trans q63).trans q64), (((q65.trans q66).trans q67).trans q68)⟩
  have q4 : ¬ ((h 0 10) ≠ 2147483648) := q4
  refine x_const (np := 8) (x := 9223372039002259456) (a := 2147483648) (by decide +kernel) (by decide) (by decide) ?_
  have t74 : tw (h 0 8) := hJ.2.1
  have t75 : tw (h 0 9) := hJ.2.2.1
  have m76 : ∀ i, tv h i = tv h i := fun i => (congrArg (fun z => svq h z i) rfl).trans ((fun _ => rfl) i)
  refine x_retI (np := 9) (x := 0) (by decide +kernel) (by decide) (Or.inr ⟨by decide +kernel, by first | decide | omega, by first | decide | omega⟩) ⟨_, rfl, (by decide), ?_⟩
  exact ⟨hJ, hF, (by first | decide | omega), (by first | decide | omega), (fun z => absurd z (by first | decide | omega)), (fun _ => m76), rfl, rfl⟩
set_option maxHeartbeats 0 in
/-- LentNames$Calendar.refused()I -/
theorem c14_45 {sc : Nat × Nat} {d  : Nat} {h : xh} (hJ : J h) : X sc 14 d (xI fun r h' => h' = h ∧ (0 ≤ r ∧ r ≤ 4294967295)) 0 0 0 [x_r 45, 147573952589676412928, 147573952589676412928] [] h := by
  refine x_const (np := 1) (x := 9223372039002259456) (a := 2147483648) (by decide +kernel) (by decide) (by decide) ?_
  refine x_istore (np := 2) (x := 1) (lo' := [x_r 45, iv_c 2147483648, 147573952589676412928]) (by decide +kernel) (by decide) (Nat.le_of_ble_eq_true rfl) rfl ?_
  refine x_const (np := 3) (x := 9223372039002259456) (a := 2147483648) (by decide +kernel) (by decide) (by decide) ?_
  refine x_istore (np := 4) (x := 2) (lo' := [x_r 45, iv_c 2147483648, iv_c 2147483648]) (by decide +kernel) (by decide) (Nat.le_of_ble_eq_true rfl) rfl ?_
  have p505 : ∀ (n : Nat) (v501 : Nat) (v503 : Nat), 4294967296 - v503 < n → (0 ≤ v501 ∧ v501 ≤ 4294967295) → (2147483648 ≤ v503 ∧ v503 ≤ 2147483668) → X sc 14 d (xI fun r h' => h' = h ∧ (0 ≤ r ∧ r ≤ 4294967295)) 0 0 4 [x_r 45, iv_c v501, iv_c v503] [] h := by
    intro n
    induction n with
    | zero => intro v501 v503 q506; exact absurd q506 (Nat.not_lt_zero _)
    | succ n i507 =>
      intro v501 v503 q506 b502 b504
      refine x_iload (np := 5) (x := 2) (by decide +kernel) rfl (by first | decide | omega) ?_
      refine x_aload (np := 6) (x := 0) (by decide +kernel) rfl (x_nc_le (by decide)) ?_
      have t508 : tw (h 45 5) := hJ.2.2.2.1
      refine x_getR (np := 9) (x := 69) (f := 5) (q := (h 45 5)) (by decide +kernel) (by decide) (by decide +kernel) rfl ?_
      have q509 : h (h 45 5) 0 = ((h 45 5) + 1) := tf_0_0 hJ t508
      refine x_getR (np := 12) (x := 512) (f := 0) (q := ((h 45 5) + 1)) (by decide +kernel) (by decide) (tg_0_512_0_1 t508) q509 ?_
      have b510 := jB (e := 2) 0 hJ (rg_T1_2_0_1 t508) (by first | decide | omega) (by first | decide | omega)
      refine x_getC (np := 15) (x := 386) (f := 2) (q := (h ((h 45 5) + 1) 2)) (by decide +kernel) (by decide) (tg_1_386_2_0 t508) rfl (fun l511 => ?_)
      refine x_icmp (k := 3) (tg := 37) (np := 18) (by decide +kernel) (by decide) (by first | decide | omega) l511 (fun q512 => ?_) (fun q513 => ?_)
      · have q512 : (h ((h 45 5) + 1) 2) ≤ v503 := q512
        refine x_iload (np := 38) (x := 1) (by decide +kernel) rfl (by first | decide | omega) ?_
        refine x_retI (np := 39) (x := 0) (by decide +kernel) (by first | decide | omega) (Or.inl (by decide +kernel)) ⟨_, rfl, (by first | decide | omega), ?_⟩
        exact ⟨rfl, (by first | decide | omega)⟩
      have q513 : ¬ ((h ((h 45 5) + 1) 2) ≤ v503) := q513
      refine x_aload (np := 19) (x := 0) (by decide +kernel) rfl (x_nc_le (by decide)) ?_
      have q514 : h 45 2 = 48 := by have z := jB (e := 2) 0 hJ rg_45_2_0_1 (by decide) (by decide); omega
      refine x_getR (np := 22) (x := 66) (f := 2) (q := 48) (by decide +kernel) (by decide) (by decide +kernel) q514 ?_
      refine x_iload (np := 23) (x := 2) (by decide +kernel) rfl (by first | decide | omega) ?_
      obtain ⟨u515, q516⟩ : ∃ z, v503 = 2147483648 + z := ⟨v503 - 2147483648, by first | decide | omega⟩
      refine x_aldC (np := 24) (x := 0) (n := 20) (i := u515) (q := (h 48 u515)) (by decide +kernel) (by decide +kernel) (by first | decide | omega) (by first | decide | omega) (by decide) rfl (fun l517 => ?_)
      refine x_const (np := 25) (x := 9223372034707292159) (a := 2147483647) (by decide +kernel) (by decide) (by decide) ?_
      refine x_icmp (k := 1) (tg := 31) (np := 28) (by decide +kernel) (by decide) l517 (by decide) (fun q518 => ?_) (fun q519 => ?_)
      · have q518 : (h 48 u515) ≠ 2147483647 := q518
        refine x_iinc (np := 34) (i := 2) (j := 2147483649) (v := (1 + v503)) (lo' := [x_r 45, iv_c v501, iv_c (1 + v503)]) (by decide +kernel) (by decide) (by decide) rfl (by first | decide | omega) (by first | decide | omega) (by first | decide | omega) rfl ?_
        refine x_goto (np := 37) (x := 4) (by decide +kernel) ?_
        exact i507 v501 (1 + v503) (by first | decide | omega) (by first | decide | omega) (by first | decide | omega)
      have q519 : ¬ ((h 48 u515) ≠ 2147483647) := q519
      refine x_incA (i := 1) (n := 1) (by rw [tb_b14]; decide +kernel) rfl (by first | decide | omega) (fun v520 l521 => ?_)
      show X _ _ _ _ _ _ _ [x_r 45, iv_c v520, iv_c v503] _ _
      refine x_iinc (np := 34) (i := 2) (j := 2147483649) (v := (1 + v503)) (lo' := [x_r 45, iv_c v520, iv_c (1 + v503)]) (by decide +kernel) (by decide) (by decide) rfl (by first | decide | omega) (by first | decide | omega) (by first | decide | omega) rfl ?_
      refine x_goto (np := 37) (x := 4) (by decide +kernel) ?_
      exact i507 v520 (1 + v503) (by first | decide | omega) (by first | decide | omega) (by first | decide | omega)
  exact p505 _ 2147483648 2147483648 (Nat.lt_succ_self _) (by first | decide | omega) (by first | decide | omega)
set_option maxHeartbeats 0 in
/-- LentNames$Town.dying()I -/
theorem c88_T0 {sc : Nat × Nat} {d ra0 : Nat} {h : xh} (hJ : J h) (ta0 : tw ra0) : X sc 88 d (xI fun r h' => h' = h ∧ (0 ≤ r ∧ r ≤ 4294967295)) 0 0 0 [x_r ra0, 147573952589676412928, 147573952589676412928] [] h := by
  refine x_const (np := 1) (x := 9223372039002259456) (a := 2147483648) (by decide +kernel) (by decide) (by decide) ?_
  refine x_istore (np := 2) (x := 1) (lo' := [x_r ra0, iv_c 2147483648, 147573952589676412928]) (by decide +kernel) (by decide) (Nat.le_of_ble_eq_true rfl) rfl ?_
  refine x_const (np := 3) (x := 9223372039002259456) (a := 2147483648) (by decide +kernel) (by decide) (by decide) ?_
  refine x_istore (np := 4) (x := 2) (lo' := [x_r ra0, iv_c 2147483648, iv_c 2147483648]) (by decide +kernel) (by decide) (Nat.le_of_ble_eq_true rfl) rfl ?_
  have p443 : ∀ (n : Nat) (v439 : Nat) (v441 : Nat), 4294967296 - v441 < n → (0 ≤ v439 ∧ v439 ≤ 4294967295) → (2147483648 ≤ v441 ∧ v441 ≤ 2147483654) → X sc 88 d (xI fun r h' => h' = h ∧ (0 ≤ r ∧ r ≤ 4294967295)) 0 0 4 [x_r ra0, iv_c v439, iv_c v441] [] h := by
    intro n
    induction n with
    | zero => intro v439 v441 q444; exact absurd q444 (Nat.not_lt_zero _)
    | succ n i445 =>
      intro v439 v441 q444 b440 b442
      refine x_iload (np := 5) (x := 2) (by decide +kernel) rfl (by first | decide | omega) ?_
      refine x_aload (np := 6) (x := 0) (by decide +kernel) rfl (x_nc_le (tn_0 ta0)) ?_
      have b446 := jB (e := 7) 0 hJ (rg_T0_7_0_1 ta0) (by first | decide | omega) (by first | decide | omega)
      refine x_getC (np := 9) (x := 519) (f := 7) (q := (h ra0 7)) (by decide +kernel) (by decide) (tg_0_519_7_0 ta0) rfl (fun l447 => ?_)
      refine x_icmp (k := 3) (tg := 32) (np := 12) (by decide +kernel) (by decide) (by first | decide | omega) l447 (fun q448 => ?_) (fun q449 => ?_)
      · have q448 : (h ra0 7) ≤ v441 := q448
        refine x_iload (np := 33) (x := 1) (by decide +kernel) rfl (by first | decide | omega) ?_
        refine x_retI (np := 34) (x := 0) (by decide +kernel) (by first | decide | omega) (Or.inl (by decide +kernel)) ⟨_, rfl, (by first | decide | omega), ?_⟩
        exact ⟨rfl, (by first | decide | omega)⟩
      have q449 : ¬ ((h ra0 7) ≤ v441) := q449
      refine x_aload (np := 13) (x := 0) (by decide +kernel) rfl (x_nc_le (tn_0 ta0)) ?_
      have q450 : h ra0 4 = (ra0 + 9) := tf_0_4 hJ ta0
      refine x_getR (np := 16) (x := 516) (f := 4) (q := (ra0 + 9)) (by decide +kernel) (by decide) (tg_0_516_4_1 ta0) q450 ?_
      refine x_iload (np := 17) (x := 2) (by decide +kernel) rfl (by first | decide | omega) ?_
      obtain ⟨u451, q452⟩ : ∃ z, v441 = 2147483648 + z := ⟨v441 - 2147483648, by first | decide | omega⟩
      refine x_aldC (np := 18) (x := 0) (n := 6) (i := u451) (q := (h (ra0 + 9) u451)) (by decide +kernel) (ta_9_6 ta0) (by first | decide | omega) (by first | decide | omega) (by decide) rfl (fun l453 => ?_)
      refine x_const (np := 20) (x := 9223372090541867020) (a := 2147483660) (by decide +kernel) (by decide) (by decide) ?_
      refine x_icmp (k := 3) (tg := 26) (np := 23) (by decide +kernel) (by decide) l453 (by decide) (fun q454 => ?_) (fun q455 => ?_)
      · have q454 : 2147483660 ≤ (h (ra0 + 9) u451) := q454
        refine x_iinc (np := 29) (i := 2) (j := 2147483649) (v := (1 + v441)) (lo' := [x_r ra0, iv_c v439, iv_c (1 + v441)]) (by decide +kernel) (by decide) (by decide) rfl (by first | decide | omega) (by first | decide | omega) (by first | decide | omega) rfl ?_
        refine x_goto (np := 32) (x := 4) (by decide +kernel) ?_
        exact i445 v439 (1 + v441) (by first | decide | omega) (by first | decide | omega) (by first | decide | omega)
      have q455 : ¬ (2147483660 ≤ (h (ra0 + 9) u451)) := q455
      refine x_incA (i := 1) (n := 1) (by rw [tb_b88]; decide +kernel) rfl (by first | decide | omega) (fun v456 l457 => ?_)
      show X _ _ _ _ _ _ _ [x_r ra0, iv_c v456, iv_c v441] _ _
      refine x_iinc (np := 29) (i := 2) (j := 2147483649) (v := (1 + v441)) (lo' := [x_r ra0, iv_c v456, iv_c (1 + v441)]) (by decide +kernel) (by decide) (by decide) rfl (by first | decide | omega) (by first | decide | omega) (by first | decide | omega) rfl ?_
      refine x_goto (np := 32) (x := 4) (by decide +kernel) ?_
      exact i445 v456 (1 + v441) (by first | decide | omega) (by first | decide | omega) (by first | decide | omega)
  exact p443 _ 2147483648 2147483648 (Nat.lt_succ_self _) (by first | decide | omega) (by first | decide | omega)
