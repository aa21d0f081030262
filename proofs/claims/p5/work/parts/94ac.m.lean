/-! ===== methods ===== -/
set_option maxHeartbeats 0 in
/-- LentNames$Calendar.isGranted(III)Z -/
theorem c24_45 {sc : Nat × Nat} {d a1 a2 a3 : Nat} {h : xh} (hJ : J h) (ba1 : 2147483648 ≤ a1 ∧ a1 ≤ 2147483667) (ba2 : 2147483648 ≤ a2 ∧ a2 ≤ 2147483653) (ba3 : 2147483648 ≤ a3 ∧ a3 ≤ 2147483659) : X sc 24 (d + 3) (xI fun r h' => J h' ∧ Fr 140737488356353 h h' ∧ (2147483648 ≤ r ∧ r ≤ 2147483649)) 0 0 0 [x_r 45, iv_c a1, iv_c a2, iv_c a3, 147573952589676412928, 147573952589676412928] [] h := by
  have la1 : a1 < 4294967296 := by first | decide | omega
  have la2 : a2 < 4294967296 := by first | decide | omega
  have la3 : a3 < 4294967296 := by first | decide | omega
  have hF := Fr.refl 140737488356353 h
  refine x_aload (np := 1) (x := 0) (by decide +kernel) rfl (x_nc_le (by decide)) ?_
  refine x_iload (np := 2) (x := 2) (by decide +kernel) rfl la2 ?_
  refine x_cP (t := 6) (mj := 32) (n := 2) (rc := 2) (ml := 2) (nr := 0) (np := 5) (as := [x_r 45, iv_c a2]) (rest := []) (lo1 := [x_r 45, iv_c a2]) (by decide +kernel) (by decide) (by decide +kernel) (x_rb_of (by decide +kernel)) rfl rfl (x_wr (by decide) (x_wi la2 x_wn)) x_wn (by decide) rfl (c32_45 hJ  (by first | decide | omega)) (fun v1 l2 q3 => ?_)
  refine x_istore (np := 7) (x := 4) (lo' := [x_r 45, iv_c a1, iv_c a2, iv_c a3, iv_c v1, 147573952589676412928]) (by decide +kernel) l2 (Nat.le_of_ble_eq_true rfl) rfl ?_
  refine x_aload (np := 8) (x := 0) (by decide +kernel) rfl (x_nc_le (by decide)) ?_
  have t4 : tw (h 45 5) := hJ.2.2.2.1
  refine x_getR (np := 11) (x := 69) (f := 5) (q := (h 45 5)) (by decide +kernel) (by decide) (by decide +kernel) rfl ?_
  have q5 : h (h 45 5) 0 = ((h 45 5) + 1) := tf_0_0 hJ t4
  refine x_getR (np := 14) (x := 512) (f := 0) (q := ((h 45 5) + 1)) (by decide +kernel) (by decide) (tg_0_512_0_1 t4) q5 ?_
  refine x_iload (np := 15) (x := 1) (by decide +kernel) rfl la1 ?_
  refine x_const (np := 16) (x := 9223372043297226753) (a := 2147483649) (by decide +kernel) (by decide) (by decide) ?_
  refine x_cP (t := 6) (mj := 68) (n := 3) (rc := 7) (ml := 4) (nr := 0) (np := 19) (as := [x_r ((h 45 5) + 1), iv_c a1, iv_c 2147483649]) (rest := []) (lo1 := [x_r ((h 45 5) + 1), iv_c a1, iv_c 2147483649, 147573952589676412928]) (by decide +kernel) (by decide) (by decide +kernel) (x_rb_of (tr_1_7 t4)) rfl rfl (x_wr (tn_1 t4) (x_wi la1 (x_wi (by decide) x_wn))) x_wn (by decide) rfl (c68_T1_c1 hJ t4 (by first | decide | omega) ) (fun v7 l8 q9 => ?_)
  refine x_istore (np := 21) (x := 5) (lo' := [x_r 45, iv_c a1, iv_c a2, iv_c a3, iv_c v1, iv_c v7]) (by decide +kernel) l8 (Nat.le_of_ble_eq_true rfl) rfl ?_
  refine x_aload (np := 22) (x := 0) (by decide +kernel) rfl (x_nc_le (by decide)) ?_
  have q10 : h 45 13 = 58 := by have z := jB (e := 13) 0 hJ rg_45_13_0_1 (by decide) (by decide); omega
  refine x_getR (np := 25) (x := 77) (f := 13) (q := 58) (by decide +kernel) (by decide) (by decide +kernel) q10 ?_
  refine x_const (np := 26) (x := 9223372039002259456) (a := 2147483648) (by decide +kernel) (by decide) (by decide) ?_
  refine x_iload (np := 27) (x := 3) (by decide +kernel) rfl la3 ?_
  refine x_ast (np := 28) (x := 0) (kd := 1) (n := 8) (i := 0) (by decide +kernel) (Or.inl rfl) (by decide +kernel) (by first | decide | omega) (by first | decide | omega) (by decide) la3 (fun z => absurd z (by decide)) ?_
  have j12 := jU (e := 0) (v := a3) 0 hJ rg_58_0_1_8 (by first | decide | omega) (by first | decide | omega) (by first | decide | omega)
  have f14 := jF (e := 0) (v := a3) 0 hF rg_58_0_1_8 (by first | decide | omega) (by first | decide | omega) (by decide)
  generalize e13 : x_up h 58 0 a3 = h11 at j12 f14 ⊢
  refine x_aload (np := 29) (x := 0) (by decide +kernel) rfl (x_nc_le (by decide)) ?_
  have q15 : h11 45 13 = 58 := by have z := jB (e := 13) 0 j12 rg_45_13_0_1 (by decide) (by decide); omega
  refine x_getR (np := 32) (x := 77) (f := 13) (q := 58) (by decide +kernel) (by decide) (by decide +kernel) q15 ?_
  refine x_const (np := 33) (x := 9223372043297226753) (a := 2147483649) (by decide +kernel) (by decide) (by decide) ?_
  refine x_aload (np := 34) (x := 0) (by decide +kernel) rfl (x_nc_le (by decide)) ?_
  have q16 : h11 45 5 = h 45 5 := by rw [← e13]; exact x_up_k (by decide)
  refine x_getR (np := 37) (x := 69) (f := 5) (q := (h 45 5)) (by decide +kernel) (by decide) (by decide +kernel) q16 ?_
  have q17 : h11 (h 45 5) 0 = ((h 45 5) + 1) := tf_0_0 j12 t4
  refine x_getR (np := 40) (x := 512) (f := 0) (q := ((h 45 5) + 1)) (by decide +kernel) (by decide) (tg_0_512_0_1 t4) q17 ?_
  refine x_iload (np := 41) (x := 1) (by decide +kernel) rfl la1 ?_
  refine x_const (np := 42) (x := 9223372051887161347) (a := 2147483651) (by decide +kernel) (by decide) (by decide) ?_
  refine x_cP (t := 6) (mj := 68) (n := 3) (rc := 7) (ml := 4) (nr := 2) (np := 45) (as := [x_r ((h 45 5) + 1), iv_c a1, iv_c 2147483651]) (rest := [iv_c 2147483649, x_r 58]) (lo1 := [x_r ((h 45 5) + 1), iv_c a1, iv_c 2147483651, 147573952589676412928]) (by decide +kernel) (by decide) (by decide +kernel) (x_rb_of (tr_1_7 t4)) rfl rfl (x_wr (tn_1 t4) (x_wi la1 (x_wi (by decide) x_wn))) (x_wi (by decide) (x_wr (by decide) x_wn)) (by decide) rfl (c68_T1_c3 j12 t4 (by first | decide | omega) ) (fun v20 l21 q22 => ?_)
  refine x_ast (np := 46) (x := 0) (kd := 1) (n := 8) (i := 1) (by decide +kernel) (Or.inl rfl) (by decide +kernel) (by first | decide | omega) (by first | decide | omega) (by decide) l21 (fun z => absurd z (by decide)) ?_
  have j24 := jU (e := 1) (v := v20) 1 j12 rg_58_0_1_8 (by first | decide | omega) (by first | decide | omega) (by first | decide | omega)
  have f26 := jF (e := 1) (v := v20) 1 f14 rg_58_0_1_8 (by first | decide | omega) (by first | decide | omega) (by decide)
  generalize e25 : x_up h11 58 1 v20 = h23 at j24 f26 ⊢
  refine x_aload (np := 47) (x := 0) (by decide +kernel) rfl (x_nc_le (by decide)) ?_
  have q27 : h23 45 13 = 58 := by have z := jB (e := 13) 0 j24 rg_45_13_0_1 (by decide) (by decide); omega
  refine x_getR (np := 50) (x := 77) (f := 13) (q := 58) (by decide +kernel) (by decide) (by decide +kernel) q27 ?_
  refine x_const (np := 51) (x := 9223372047592194050) (a := 2147483650) (by decide +kernel) (by decide) (by decide) ?_
  refine x_aload (np := 52) (x := 0) (by decide +kernel) rfl (x_nc_le (by decide)) ?_
  have q28 : h23 45 5 = h11 45 5 := by rw [← e25]; exact x_up_k (by decide)
  have q29 : h11 45 5 = h 45 5 := by rw [← e13]; exact x_up_k (by decide)
  refine x_getR (np := 55) (x := 69) (f := 5) (q := (h 45 5)) (by decide +kernel) (by decide) (by decide +kernel) (q28.trans q29) ?_
  have q30 : h23 (h 45 5) 0 = ((h 45 5) + 1) := tf_0_0 j24 t4
  refine x_getR (np := 58) (x := 512) (f := 0) (q := ((h 45 5) + 1)) (by decide +kernel) (by decide) (tg_0_512_0_1 t4) q30 ?_
  refine x_iload (np := 59) (x := 1) (by decide +kernel) rfl la1 ?_
  refine x_const (np := 60) (x := 9223372060477095941) (a := 2147483653) (by decide +kernel) (by decide) (by decide) ?_
  refine x_cP (t := 6) (mj := 68) (n := 3) (rc := 7) (ml := 4) (nr := 2) (np := 63) (as := [x_r ((h 45 5) + 1), iv_c a1, iv_c 2147483653]) (rest := [iv_c 2147483650, x_r 58]) (lo1 := [x_r ((h 45 5) + 1), iv_c a1, iv_c 2147483653, 147573952589676412928]) (by decide +kernel) (by decide) (by decide +kernel) (x_rb_of (tr_1_7 t4)) rfl rfl (x_wr (tn_1 t4) (x_wi la1 (x_wi (by decide) x_wn))) (x_wi (by decide) (x_wr (by decide) x_wn)) (by decide) rfl (c68_T1_c5 j24 t4 (by first | decide | omega) ) (fun v34 l35 q36 => ?_)
  refine x_ast (np := 64) (x := 0) (kd := 1) (n := 8) (i := 2) (by decide +kernel) (Or.inl rfl) (by decide +kernel) (by first | decide | omega) (by first | decide | omega) (by decide) l35 (fun z => absurd z (by decide)) ?_
  have j38 := jU (e := 2) (v := v34) 2 j24 rg_58_0_1_8 (by first | decide | omega) (by first | decide | omega) (by first | decide | omega)
  have f40 := jF (e := 2) (v := v34) 2 f26 rg_58_0_1_8 (by first | decide | omega) (by first | decide | omega) (by decide)
  generalize e39 : x_up h23 58 2 v34 = h37 at j38 f40 ⊢
  refine x_aload (np := 65) (x := 0) (by decide +kernel) rfl (x_nc_le (by decide)) ?_
  have q41 : h37 45 13 = 58 := by have z := jB (e := 13) 0 j38 rg_45_13_0_1 (by decide) (by decide); omega
  refine x_getR (np := 68) (x := 77) (f := 13) (q := 58) (by decide +kernel) (by decide) (by decide +kernel) q41 ?_
  refine x_const (np := 69) (x := 9223372051887161347) (a := 2147483651) (by decide +kernel) (by decide) (by decide) ?_
  refine x_aload (np := 70) (x := 0) (by decide +kernel) rfl (x_nc_le (by decide)) ?_
  have q42 : h37 45 12 = 57 := by have z := jB (e := 12) 0 j38 rg_45_12_0_1 (by decide) (by decide); omega
  refine x_getR (np := 73) (x := 76) (f := 12) (q := 57) (by decide +kernel) (by decide) (by decide +kernel) q42 ?_
  refine x_iload (np := 74) (x := 2) (by decide +kernel) rfl la2 ?_
  obtain ⟨u43, q44⟩ : ∃ z, a2 = 2147483648 + z := ⟨a2 - 2147483648, by first | decide | omega⟩
  have q45 : h37 57 u43 = h23 57 u43 := by rw [← e39]; exact x_up_k (by decide)
  have q46 : h23 57 u43 = h11 57 u43 := by rw [← e25]; exact x_up_k (by decide)
  have q47 : h11 57 u43 = h 57 u43 := by rw [← e13]; exact x_up_k (by decide)
  have b48 := jB (e := u43) u43 hJ rg_57_0_1_6 (by first | decide | omega) (by first | decide | omega)
  refine x_aldC (np := 75) (x := 0) (n := 6) (i := u43) (q := (h 57 u43)) (by decide +kernel) (by decide +kernel) (by first | decide | omega) (by first | decide | omega) (by decide) ((q45.trans q46).trans q47) (fun l49 => ?_)
  refine x_ast (np := 76) (x := 0) (kd := 1) (n := 8) (i := 3) (by decide +kernel) (Or.inl rfl) (by decide +kernel) (by first | decide | omega) (by first | decide | omega) (by decide) l49 (fun z => absurd z (by decide)) ?_
  have j51 := jU (e := 3) (v := (h 57 u43)) 3 j38 rg_58_0_1_8 (by first | decide | omega) (by first | decide | omega) (by first | decide | omega)
  have f53 := jF (e := 3) (v := (h 57 u43)) 3 f40 rg_58_0_1_8 (by first | decide | omega) (by first | decide | omega) (by decide)
  generalize e52 : x_up h37 58 3 (h 57 u43) = h50 at j51 f53 ⊢
  refine x_aload (np := 77) (x := 0) (by decide +kernel) rfl (x_nc_le (by decide)) ?_
  have q54 : h50 45 13 = 58 := by have z := jB (e := 13) 0 j51 rg_45_13_0_1 (by decide) (by decide); omega
  refine x_getR (np := 80) (x := 77) (f := 13) (q := 58) (by decide +kernel) (by decide) (by decide +kernel) q54 ?_
  refine x_const (np := 81) (x := 9223372056182128644) (a := 2147483652) (by decide +kernel) (by decide) (by decide) ?_
  refine x_aload (np := 82) (x := 0) (by decide +kernel) rfl (x_nc_le (by decide)) ?_
  refine x_iload (np := 84) (x := 4) (by decide +kernel) rfl l2 ?_
  refine x_cP (t := 6) (mj := 25) (n := 2) (rc := 2) (ml := 4) (nr := 2) (np := 87) (as := [x_r 45, iv_c v1]) (rest := [iv_c 2147483652, x_r 58]) (lo1 := [x_r 45, iv_c v1, 147573952589676412928, 147573952589676412928]) (by decide +kernel) (by decide) (by decide +kernel) (x_rb_of (by decide +kernel)) rfl rfl (x_wr (by decide) (x_wi l2 x_wn)) (x_wi (by decide) (x_wr (by decide) x_wn)) (by decide) rfl (c25_45 j51  (by first | decide | omega)) (fun v55 l56 q57 => ?_)
  refine x_ast (np := 88) (x := 0) (kd := 1) (n := 8) (i := 4) (by decide +kernel) (Or.inl rfl) (by decide +kernel) (by first | decide | omega) (by first | decide | omega) (by decide) l56 (fun z => absurd z (by decide)) ?_
  have j59 := jU (e := 4) (v := v55) 4 j51 rg_58_0_1_8 (by first | decide | omega) (by first | decide | omega) (by first | decide | omega)
  have f61 := jF (e := 4) (v := v55) 4 f53 rg_58_0_1_8 (by first | decide | omega) (by first | decide | omega) (by decide)
  generalize e60 : x_up h50 58 4 v55 = h58 at j59 f61 ⊢
  refine x_aload (np := 89) (x := 0) (by decide +kernel) rfl (x_nc_le (by decide)) ?_
  have q62 : h58 45 13 = 58 := by have z := jB (e := 13) 0 j59 rg_45_13_0_1 (by decide) (by decide); omega
  refine x_getR (np := 92) (x := 77) (f := 13) (q := 58) (by decide +kernel) (by decide) (by decide +kernel) q62 ?_
  refine x_const (np := 93) (x := 9223372060477095941) (a := 2147483653) (by decide +kernel) (by decide) (by decide) ?_
  refine x_aload (np := 94) (x := 0) (by decide +kernel) rfl (x_nc_le (by decide)) ?_
  refine x_iload (np := 96) (x := 5) (by decide +kernel) rfl l8 ?_
  refine x_cP (t := 6) (mj := 25) (n := 2) (rc := 2) (ml := 4) (nr := 2) (np := 99) (as := [x_r 45, iv_c v7]) (rest := [iv_c 2147483653, x_r 58]) (lo1 := [x_r 45, iv_c v7, 147573952589676412928, 147573952589676412928]) (by decide +kernel) (by decide) (by decide +kernel) (x_rb_of (by decide +kernel)) rfl rfl (x_wr (by decide) (x_wi l8 x_wn)) (x_wi (by decide) (x_wr (by decide) x_wn)) (by decide) rfl (c25_45 j59  (by first | decide | omega)) (fun v63 l64 q65 => ?_)
  refine x_ast (np := 100) (x := 0) (kd := 1) (n := 8) (i := 5) (by decide +kernel) (Or.inl rfl) (by decide +kernel) (by first | decide | omega) (by first | decide | omega) (by decide) l64 (fun z => absurd z (by decide)) ?_
  have j67 := jU (e := 5) (v := v63) 5 j59 rg_58_0_1_8 (by first | decide | omega) (by first | decide | omega) (by first | decide | omega)
  have f69 := jF (e := 5) (v := v63) 5 f61 rg_58_0_1_8 (by first | decide | omega) (by first | decide | omega) (by decide)
  generalize e68 : x_up h58 58 5 v63 = h66 at j67 f69 ⊢
  refine x_aload (np := 101) (x := 0) (by decide +kernel) rfl (x_nc_le (by decide)) ?_
  have q70 : h66 45 13 = 58 := by have z := jB (e := 13) 0 j67 rg_45_13_0_1 (by decide) (by decide); omega
  refine x_getR (np := 104) (x := 77) (f := 13) (q := 58) (by decide +kernel) (by decide) (by decide +kernel) q70 ?_
  refine x_const (np := 106) (x := 9223372064772063238) (a := 2147483654) (by decide +kernel) (by decide) (by decide) ?_
  refine x_iload (np := 108) (x := 4) (by decide +kernel) rfl l2 ?_
  refine x_iload (np := 109) (x := 2) (by decide +kernel) rfl la2 ?_
  refine x_icmp (k := 1) (tg := 116) (np := 112) (by decide +kernel) (by decide) l2 la2 (fun q71 => ?_) (fun q72 => ?_)
  · have q71 : v1 ≠ a2 := q71
    refine x_const (np := 117) (x := 9223372039002259456) (a := 2147483648) (by decide +kernel) (by decide) (by decide) ?_
    refine x_ast (np := 118) (x := 0) (kd := 1) (n := 8) (i := 6) (by decide +kernel) (Or.inl rfl) (by decide +kernel) (by first | decide | omega) (by first | decide | omega) (by decide) (by decide) (fun z => absurd z (by decide)) ?_
    have j74 := jU (e := 6) (v := 2147483648) 6 j67 rg_58_0_1_8 (by first | decide | omega) (by first | decide | omega) (by first | decide | omega)
    have f76 := jF (e := 6) (v := 2147483648) 6 f69 rg_58_0_1_8 (by first | decide | omega) (by first | decide | omega) (by decide)
    generalize e75 : x_up h66 58 6 2147483648 = h73 at j74 f76 ⊢
    refine x_aload (np := 119) (x := 0) (by decide +kernel) rfl (x_nc_le (by decide)) ?_
    have q77 : h73 45 13 = 58 := by have z := jB (e := 13) 0 j74 rg_45_13_0_1 (by decide) (by decide); omega
    refine x_getR (np := 122) (x := 77) (f := 13) (q := 58) (by decide +kernel) (by decide) (by decide +kernel) q77 ?_
    refine x_const (np := 124) (x := 9223372069067030535) (a := 2147483655) (by decide +kernel) (by decide) (by decide) ?_
    refine x_iload (np := 126) (x := 5) (by decide +kernel) rfl l8 ?_
    refine x_iload (np := 127) (x := 2) (by decide +kernel) rfl la2 ?_
    refine x_icmp (k := 1) (tg := 134) (np := 130) (by decide +kernel) (by decide) l8 la2 (fun q78 => ?_) (fun q79 => ?_)
    · have q78 : v7 ≠ a2 := q78
      refine x_const (np := 135) (x := 9223372039002259456) (a := 2147483648) (by decide +kernel) (by decide) (by decide) ?_
      refine x_ast (np := 136) (x := 0) (kd := 1) (n := 8) (i := 7) (by decide +kernel) (Or.inl rfl) (by decide +kernel) (by first | decide | omega) (by first | decide | omega) (by decide) (by decide) (fun z => absurd z (by decide)) ?_
      have j81 := jU (e := 7) (v := 2147483648) 7 j74 rg_58_0_1_8 (by first | decide | omega) (by first | decide | omega) (by first | decide | omega)
      have f83 := jF (e := 7) (v := 2147483648) 7 f76 rg_58_0_1_8 (by first | decide | omega) (by first | decide | omega) (by decide)
      generalize e82 : x_up h73 58 7 2147483648 = h80 at j81 f83 ⊢
      refine x_aload (np := 137) (x := 0) (by decide +kernel) rfl (x_nc_le (by decide)) ?_
      have q84 : h80 45 5 = h73 45 5 := by rw [← e82]; exact x_up_k (by decide)
      have q85 : h73 45 5 = h66 45 5 := by rw [← e75]; exact x_up_k (by decide)
      have q86 : h66 45 5 = h58 45 5 := by rw [← e68]; exact x_up_k (by decide)
      have q87 : h58 45 5 = h50 45 5 := by rw [← e60]; exact x_up_k (by decide)
      have q88 : h50 45 5 = h37 45 5 := by rw [← e52]; exact x_up_k (by decide)
      have q89 : h37 45 5 = h23 45 5 := by rw [← e39]; exact x_up_k (by decide)
      have q90 : h23 45 5 = h11 45 5 := by rw [← e25]; exact x_up_k (by decide)
      have q91 : h11 45 5 = h 45 5 := by rw [← e13]; exact x_up_k (by decide)
      refine x_getR (np := 140) (x := 69) (f := 5) (q := (h 45 5)) (by decide +kernel) (by decide) (by decide +kernel) (((((((q84.trans q85).trans q86).trans q87).trans q88).trans q89).trans q90).trans q91) ?_
      have q92 : h80 (h 45 5) 6 = ((h 45 5) + 11) := tf_0_6 j81 t4
      refine x_getR (np := 143) (x := 518) (f := 6) (q := ((h 45 5) + 11)) (by decide +kernel) (by decide) (tg_0_518_6_1 t4) q92 ?_
      refine x_aload (np := 144) (x := 0) (by decide +kernel) rfl (x_nc_le (by decide)) ?_
      have q93 : h80 45 13 = 58 := by have z := jB (e := 13) 0 j81 rg_45_13_0_1 (by decide) (by decide); omega
      refine x_getR (np := 147) (x := 77) (f := 13) (q := 58) (by decide +kernel) (by decide) (by decide +kernel) q93 ?_
      refine x_cI (t := 6) (mj := 38) (n := 2) (rc := 3) (ml := 4) (nr := 0) (np := 150) (as := [x_r ((h 45 5) + 11), x_r 58]) (rest := []) (lo1 := [x_r ((h 45 5) + 11), x_r 58, 147573952589676412928, 147573952589676412928]) (by decide +kernel) (by decide) (by decide +kernel) (x_rb_of (tr_11_3 t4)) rfl rfl (x_wr (tn_11 t4) (x_wr (by decide) x_wn)) x_wn (by decide) rfl (c38_T11_58 j81 t4 ) (fun v94 h97 l95 q96 => ?_)
      obtain ⟨j98, f99, b100⟩ := q96
      have f101 := Fr.trans f83 f99 (by decide)
      refine x_retI (np := 151) (x := 0) (by decide +kernel) l95 (Or.inr ⟨by decide +kernel, by first | decide | omega, by first | decide | omega⟩) ⟨_, rfl, l95, ?_⟩
      exact ⟨j98, f101, (by first | decide | omega)⟩
    have q79 : ¬ (v7 ≠ a2) := q79
    refine x_const (np := 131) (x := 9223372043297226753) (a := 2147483649) (by decide +kernel) (by decide) (by decide) ?_
    refine x_goto (np := 134) (x := 135) (by decide +kernel) ?_
    refine x_ast (np := 136) (x := 0) (kd := 1) (n := 8) (i := 7) (by decide +kernel) (Or.inl rfl) (by decide +kernel) (by first | decide | omega) (by first | decide | omega) (by decide) (by decide) (fun z => absurd z (by decide)) ?_
    have j103 := jU (e := 7) (v := 2147483649) 7 j74 rg_58_0_1_8 (by first | decide | omega) (by first | decide | omega) (by first | decide | omega)
    have f105 := jF (e := 7) (v := 2147483649) 7 f76 rg_58_0_1_8 (by first | decide | omega) (by first | decide | omega) (by decide)
    generalize e104 : x_up h73 58 7 2147483649 = h102 at j103 f105 ⊢
    refine x_aload (np := 137) (x := 0) (by decide +kernel) rfl (x_nc_le (by decide)) ?_
    have q106 : h102 45 5 = h73 45 5 := by rw [← e104]; exact x_up_k (by decide)
    have q107 : h73 45 5 = h66 45 5 := by rw [← e75]; exact x_up_k (by decide)
    have q108 : h66 45 5 = h58 45 5 := by rw [← e68]; exact x_up_k (by decide)
    have q109 : h58 45 5 = h50 45 5 := by rw [← e60]; exact x_up_k (by decide)
    have q110 : h50 45 5 = h37 45 5 := by rw [← e52]; exact x_up_k (by decide)
    have q111 : h37 45 5 = h23 45 5 := by rw [← e39]; exact x_up_k (by decide)
    have q112 : h23 45 5 = h11 45 5 := by rw [← e25]; exact x_up_k (by decide)
    have q113 : h11 45 5 = h 45 5 := by rw [← e13]; exact x_up_k (by decide)
    refine x_getR (np := 140) (x := 69) (f := 5) (q := (h 45 5)) (by decide +kernel) (by decide) (by decide +kernel) (((((((q106.trans q107).trans q108).trans q109).trans q110).trans q111).trans q112).trans q113) ?_
    have q114 : h102 (h 45 5) 6 = ((h 45 5) + 11) := tf_0_6 j103 t4
    refine x_getR (np := 143) (x := 518) (f := 6) (q := ((h 45 5) + 11)) (by decide +kernel) (by decide) (tg_0_518_6_1 t4) q114 ?_
    refine x_aload (np := 144) (x := 0) (by decide +kernel) rfl (x_nc_le (by decide)) ?_
    have q115 : h102 45 13 = 58 := by have z := jB (e := 13) 0 j103 rg_45_13_0_1 (by decide) (by decide); omega
    refine x_getR (np := 147) (x := 77) (f := 13) (q := 58) (by decide +kernel) (by decide) (by decide +kernel) q115 ?_
    refine x_cI (t := 6) (mj := 38) (n := 2) (rc := 3) (ml := 4) (nr := 0) (np := 150) (as := [x_r ((h 45 5) + 11), x_r 58]) (rest := []) (lo1 := [x_r ((h 45 5) + 11), x_r 58, 147573952589676412928, 147573952589676412928]) (by decide +kernel) (by decide) (by decide +kernel) (x_rb_of (tr_11_3 t4)) rfl rfl (x_wr (tn_11 t4) (x_wr (by decide) x_wn)) x_wn (by decide) rfl (c38_T11_58 j103 t4 ) (fun v116 h119 l117 q118 => ?_)
    obtain ⟨j120, f121, b122⟩ := q118
    have f123 := Fr.trans f105 f121 (by decide)
    refine x_retI (np := 151) (x := 0) (by decide +kernel) l117 (Or.inr ⟨by decide +kernel, by first | decide | omega, by first | decide | omega⟩) ⟨_, rfl, l117, ?_⟩
    exact ⟨j120, f123, (by first | decide | omega)⟩
  have q72 : ¬ (v1 ≠ a2) := q72
  refine x_const (np := 113) (x := 9223372043297226753) (a := 2147483649) (by decide +kernel) (by decide) (by decide) ?_
  refine x_goto (np := 116) (x := 117) (by decide +kernel) ?_
  refine x_ast (np := 118) (x := 0) (kd := 1) (n := 8) (i := 6) (by decide +kernel) (Or.inl rfl) (by decide +kernel) (by first | decide | omega) (by first | decide | omega) (by decide) (by decide) (fun z => absurd z (by decide)) ?_
  have j125 := jU (e := 6) (v := 2147483649) 6 j67 rg_58_0_1_8 (by first | decide | omega) (by first | decide | omega) (by first | decide | omega)
  have f127 := jF (e := 6) (v := 2147483649) 6 f69 rg_58_0_1_8 (by first | decide | omega) (by first | decide | omega) (by decide)
  generalize e126 : x_up h66 58 6 2147483649 = h124 at j125 f127 ⊢
  refine x_aload (np := 119) (x := 0) (by decide +kernel) rfl (x_nc_le (by decide)) ?_
  have q128 : h124 45 13 = 58 := by have z := jB (e := 13) 0 j125 rg_45_13_0_1 (by decide) (by decide); omega
  refine x_getR (np := 122) (x := 77) (f := 13) (q := 58) (by decide +kernel) (by decide) (by decide +kernel) q128 ?_
  refine x_const (np := 124) (x := 9223372069067030535) (a := 2147483655) (by decide +kernel) (by decide) (by decide) ?_
  refine x_iload (np := 126) (x := 5) (by decide +kernel) rfl l8 ?_
  refine x_iload (np := 127) (x := 2) (by decide +kernel) rfl la2 ?_
  refine x_icmp (k := 1) (tg := 134) (np := 130) (by decide +kernel) (by decide) l8 la2 (fun q129 => ?_) (fun q130 => ?_)
  · have q129 : v7 ≠ a2 := q129
    refine x_const (np := 135) (x := 9223372039002259456) (a := 2147483648) (by decide +kernel) (by decide) (by decide) ?_
    refine x_ast (np := 136) (x := 0) (kd := 1) (n := 8) (i := 7) (by decide +kernel) (Or.inl rfl) (by decide +kernel) (by first | decide | omega) (by first | decide | omega) (by decide) (by decide) (fun z => absurd z (by decide)) ?_
    have j132 := jU (e := 7) (v := 2147483648) 7 j125 rg_58_0_1_8 (by first | decide | omega) (by first | decide | omega) (by first | decide | omega)
    have f134 := jF (e := 7) (v := 2147483648) 7 f127 rg_58_0_1_8 (by first | decide | omega) (by first | decide | omega) (by decide)
    generalize e133 : x_up h124 58 7 2147483648 = h131 at j132 f134 ⊢
    refine x_aload (np := 137) (x := 0) (by decide +kernel) rfl (x_nc_le (by decide)) ?_
    have q135 : h131 45 5 = h124 45 5 := by rw [← e133]; exact x_up_k (by decide)
    have q136 : h124 45 5 = h66 45 5 := by rw [← e126]; exact x_up_k (by decide)
    have q137 : h66 45 5 = h58 45 5 := by rw [← e68]; exact x_up_k (by decide)
    have q138 : h58 45 5 = h50 45 5 := by rw [← e60]; exact x_up_k (by decide)
    have q139 : h50 45 5 = h37 45 5 := by rw [← e52]; exact x_up_k (by decide)
    have q140 : h37 45 5 = h23 45 5 := by rw [← e39]; exact x_up_k (by decide)
    have q141 : h23 45 5 = h11 45 5 := by rw [← e25]; exact x_up_k (by decide)
    have q142 : h11 45 5 = h 45 5 := by rw [← e13]; exact x_up_k (by decide)
    refine x_getR (np := 140) (x := 69) (f := 5) (q := (h 45 5)) (by decide +kernel) (by decide) (by decide +kernel) (((((((q135.trans q136).trans q137).trans q138).trans q139).trans q140).trans q141).trans q142) ?_
    have q143 : h131 (h 45 5) 6 = ((h 45 5) + 11) := tf_0_6 j132 t4
    refine x_getR (np := 143) (x := 518) (f := 6) (q := ((h 45 5) + 11)) (by decide +kernel) (by decide) (tg_0_518_6_1 t4) q143 ?_
    refine x_aload (np := 144) (x := 0) (by decide +kernel) rfl (x_nc_le (by decide)) ?_
    have q144 : h131 45 13 = 58 := by have z := jB (e := 13) 0 j132 rg_45_13_0_1 (by decide) (by decide); omega
    refine x_getR (np := 147) (x := 77) (f := 13) (q := 58) (by decide +kernel) (by decide) (by decide +kernel) q144 ?_
    refine x_cI (t := 6) (mj := 38) (n := 2) (rc := 3) (ml := 4) (nr := 0) (np := 150) (as := [x_r ((h 45 5) + 11), x_r 58]) (rest := []) (lo1 := [x_r ((h 45 5) + 11), x_r 58, 147573952589676412928, 147573952589676412928]) (by decide +kernel) (by decide) (by decide +kernel) (x_rb_of (tr_11_3 t4)) rfl rfl (x_wr (tn_11 t4) (x_wr (by decide) x_wn)) x_wn (by decide) rfl (c38_T11_58 j132 t4 ) (fun v145 h148 l146 q147 => ?_)
    obtain ⟨j149, f150, b151⟩ := q147
    have f152 := Fr.trans f134 f150 (by decide)
    refine x_retI (np := 151) (x := 0) (by decide +kernel) l146 (Or.inr ⟨by decide +kernel, by first | decide | omega, by first | decide | omega⟩) ⟨_, rfl, l146, ?_⟩
    exact ⟨j149, f152, (by first | decide | omega)⟩
  have q130 : ¬ (v7 ≠ a2) := q130
  refine x_const (np := 131) (x := 9223372043297226753) (a := 2147483649) (by decide +kernel) (by decide) (by decide) ?_
  refine x_goto (np := 134) (x := 135) (by decide +kernel) ?_
  refine x_ast (np := 136) (x := 0) (kd := 1) (n := 8) (i := 7) (by decide +kernel) (Or.inl rfl) (by decide +kernel) (by first | decide | omega) (by first | decide | omega) (by decide) (by decide) (fun z => absurd z (by decide)) ?_
  have j154 := jU (e := 7) (v := 2147483649) 7 j125 rg_58_0_1_8 (by first | decide | omega) (by first | decide | omega) (by first | decide | omega)
  have f156 := jF (e := 7) (v := 2147483649) 7 f127 rg_58_0_1_8 (by first | decide | omega) (by first | decide | omega) (by decide)
  generalize e155 : x_up h124 58 7 2147483649 = h153 at j154 f156 ⊢
  refine x_aload (np := 137) (x := 0) (by decide +kernel) rfl (x_nc_le (by decide)) ?_
  have q157 : h153 45 5 = h124 45 5 := by rw [← e155]; exact x_up_k (by decide)
  have q158 : h124 45 5 = h66 45 5 := by rw [← e126]; exact x_up_k (by decide)
  have q159 : h66 45 5 = h58 45 5 := by rw [← e68]; exact x_up_k (by decide)
  have q160 : h58 45 5 = h50 45 5 := by rw [← e60]; exact x_up_k (by decide)
  have q161 : h50 45 5 = h37 45 5 := by rw [← e52]; exact x_up_k (by decide)
  have q162 : h37 45 5 = h23 45 5 := by rw [← e39]; exact x_up_k (by decide)
  have q163 : h23 45 5 = h11 45 5 := by rw [← e25]; exact x_up_k (by decide)
  have q164 : h11 45 5 = h 45 5 := by rw [← e13]; exact x_up_k (by decide)
  refine x_getR (np := 140) (x := 69) (f := 5) (q := (h 45 5)) (by decide +kernel) (by decide) (by decide +kernel) (((((((q157.trans q158).trans q159).trans q160).trans q161).trans q162).trans q163).trans q164) ?_
  have q165 : h153 (h 45 5) 6 = ((h 45 5) + 11) := tf_0_6 j154 t4
  refine x_getR (np := 143) (x := 518) (f := 6) (q := ((h 45 5) + 11)) (by decide +kernel) (by decide) (tg_0_518_6_1 t4) q165 ?_
  refine x_aload (np := 144) (x := 0) (by decide +kernel) rfl (x_nc_le (by decide)) ?_
  have q166 : h153 45 13 = 58 := by have z := jB (e := 13) 0 j154 rg_45_13_0_1 (by decide) (by decide); omega
  refine x_getR (np := 147) (x := 77) (f := 13) (q := 58) (by decide +kernel) (by decide) (by decide +kernel) q166 ?_
  refine x_cI (t := 6) (mj := 38) (n := 2) (rc := 3) (ml := 4) (nr := 0) (np := 150) (as := [x_r ((h 45 5) + 11), x_r 58]) (rest := []) (lo1 := [x_r ((h 45 5) + 11), x_r 58, 147573952589676412928, 147573952589676412928]) (by decide +kernel) (by decide) (by decide +kernel) (x_rb_of (tr_11_3 t4)) rfl rfl (x_wr (tn_11 t4) (x_wr (by decide) x_wn)) x_wn (by decide) rfl (c38_T11_58 j154 t4 ) (fun v167 h170 l168 q169 => ?_)
  obtain ⟨j171, f172, b173⟩ := q169
  have f174 := Fr.trans f156 f172 (by decide)
  refine x_retI (np := 151) (x := 0) (by decide +kernel) l168 (Or.inr ⟨by decide +kernel, by first | decide | omega, by first | decide | omega⟩) ⟨_, rfl, l168, ?_⟩
  exact ⟨j171, f174, (by first | decide | omega)⟩
set_option maxHeartbeats 0 in
/-- LentNames$Table.at(II)I -/
theorem c68_T1_c4 {sc : Nat × Nat} {d ra0 a1 : Nat} {h : xh} (hJ : J h) (ta0 : tw ra0) (ba1 : 2147483648 ≤ a1 ∧ a1 ≤ 2147483667) : X sc 68 d (xI fun r h' => h' = h ∧ (0 ≤ r ∧ r ≤ 4294967295)) 0 0 0 [x_r (ra0 + 1), iv_c a1, iv_c 2147483652, 147573952589676412928] [] h := by
  have la1 : a1 < 4294967296 := by first | decide | omega
  refine x_iload (np := 1) (x := 1) (by decide +kernel) rfl la1 ?_
  refine x_ifz (k := 2) (tg := 28) (np := 4) (by decide +kernel) (by decide) la1 (fun q1 => ?_) (fun q2 => ?_)
  · have q1 : a1 < 2147483648 := q1
    exfalso; omega
  have q2 : ¬ (a1 < 2147483648) := q2
  refine x_iload (np := 5) (x := 1) (by decide +kernel) rfl la1 ?_
  refine x_aload (np := 6) (x := 0) (by decide +kernel) rfl (x_nc_le (tn_1 ta0)) ?_
  have b3 := jB (e := 2) 0 hJ (rg_T1_2_0_1 ta0) (by first | decide | omega) (by first | decide | omega)
  refine x_getC (np := 9) (x := 386) (f := 2) (q := (h (ra0 + 1) 2)) (by decide +kernel) (by decide) (tg_1_386_2_0 ta0) rfl (fun l4 => ?_)
  refine x_icmp (k := 3) (tg := 28) (np := 12) (by decide +kernel) (by decide) la1 l4 (fun q5 => ?_) (fun q6 => ?_)
  · have q5 : (h (ra0 + 1) 2) ≤ a1 := q5
    refine x_const (np := 29) (x := 9223372039002259456) (a := 2147483648) (by decide +kernel) (by decide) (by decide) ?_
    refine x_istore (np := 30) (x := 3) (lo' := [x_r (ra0 + 1), iv_c a1, iv_c 2147483652, iv_c 2147483648]) (by decide +kernel) (by decide) (Nat.le_of_ble_eq_true rfl) rfl ?_
    refine x_iload (np := 31) (x := 3) (by decide +kernel) rfl (by decide) ?_
    refine x_ifz (k := 0) (tg := 50) (np := 34) (by decide +kernel) (by decide) (by decide) (fun q7 => ?_) (fun q8 => ?_)
    · have q7 : 2147483648 = 2147483648 := q7
      refine x_const (np := 51) (x := 9223372034707292159) (a := 2147483647) (by decide +kernel) (by decide) (by decide) ?_
      refine x_retI (np := 52) (x := 0) (by decide +kernel) (by decide) (Or.inl (by decide +kernel)) ⟨_, rfl, (by decide), ?_⟩
      exact ⟨rfl, (by first | decide | omega)⟩
    have q8 : ¬ (2147483648 = 2147483648) := q8
    exfalso; omega
  have q6 : ¬ ((h (ra0 + 1) 2) ≤ a1) := q6
  refine x_iload (np := 13) (x := 2) (by decide +kernel) rfl (by decide) ?_
  refine x_ifz (k := 2) (tg := 28) (np := 16) (by decide +kernel) (by decide) (by decide) (fun q9 => ?_) (fun q10 => ?_)
  · have q9 : 2147483652 < 2147483648 := q9
    exfalso; omega
  have q10 : ¬ (2147483652 < 2147483648) := q10
  refine x_iload (np := 17) (x := 2) (by decide +kernel) rfl (by decide) ?_
  refine x_aload (np := 18) (x := 0) (by decide +kernel) rfl (x_nc_le (tn_1 ta0)) ?_
  have b11 := jB (e := 0) 0 hJ (rg_T1_0_0_1 ta0) (by first | decide | omega) (by first | decide | omega)
  have q12 : (h (ra0 + 1) 0) = 2147483655 := by first | decide | omega
  refine x_getC (np := 21) (x := 384) (f := 0) (q := 2147483655) (by decide +kernel) (by decide) (tg_1_384_0_0 ta0) q12 (fun l13 => ?_)
  refine x_icmp (k := 3) (tg := 28) (np := 24) (by decide +kernel) (by decide) (by decide) (by decide) (fun q14 => ?_) (fun q15 => ?_)
  · have q14 : 2147483655 ≤ 2147483652 := q14
    exfalso; omega
  have q15 : ¬ (2147483655 ≤ 2147483652) := q15
  refine x_const (np := 25) (x := 9223372043297226753) (a := 2147483649) (by decide +kernel) (by decide) (by decide) ?_
  refine x_goto (np := 28) (x := 29) (by decide +kernel) ?_
  refine x_istore (np := 30) (x := 3) (lo' := [x_r (ra0 + 1), iv_c a1, iv_c 2147483652, iv_c 2147483649]) (by decide +kernel) (by decide) (Nat.le_of_ble_eq_true rfl) rfl ?_
  refine x_iload (np := 31) (x := 3) (by decide +kernel) rfl (by decide) ?_
  refine x_ifz (k := 0) (tg := 50) (np := 34) (by decide +kernel) (by decide) (by decide) (fun q16 => ?_) (fun q17 => ?_)
  · have q16 : 2147483649 = 2147483648 := q16
    exfalso; omega
  have q17 : ¬ (2147483649 = 2147483648) := q17
  refine x_aload (np := 35) (x := 0) (by decide +kernel) rfl (x_nc_le (tn_1 ta0)) ?_
  have q18 : h (ra0 + 1) 1 = (ra0 + 2) := tf_1_1 hJ ta0
  refine x_getR (np := 38) (x := 385) (f := 1) (q := (ra0 + 2)) (by decide +kernel) (by decide) (tg_1_385_1_1 ta0) q18 ?_
  refine x_iload (np := 39) (x := 1) (by decide +kernel) rfl la1 ?_
  refine x_aload (np := 40) (x := 0) (by decide +kernel) rfl (x_nc_le (tn_1 ta0)) ?_
  refine x_getC (np := 43) (x := 384) (f := 0) (q := 2147483655) (by decide +kernel) (by decide) (tg_1_384_0_0 ta0) q12 (fun l19 => ?_)
  obtain ⟨u20, q21⟩ : ∃ z, a1 = 2147483648 + z := ⟨a1 - 2147483648, by first | decide | omega⟩
  refine x_imul (np := 44) (x := 0) (i := u20) (j := 7) (v := (2147483648 + 7 * u20)) (by decide +kernel) (by first | decide | omega) (by first | decide | omega) (by first | decide | omega) (by first | decide | omega) la1 (by decide) ?_
  refine x_iload (np := 45) (x := 2) (by decide +kernel) rfl (by decide) ?_
  refine x_iadd (np := 46) (x := 0) (v := (2147483652 + 7 * u20)) (by decide +kernel) (by first | decide | omega) (by decide) (by first | decide | omega) (by first | decide | omega) ?_
  refine x_aldC (np := 47) (x := 0) (n := 140) (i := (4 + 7 * u20)) (q := ((h (ra0 + 2) (4 + 7 * u20)))) (by decide +kernel) (ta_2_140 ta0) (by first | decide | omega) (by first | decide | omega) (by decide) rfl (fun l23 => ?_)
  refine x_goto (np := 50) (x := 51) (by decide +kernel) ?_
  refine x_retI (np := 52) (x := 0) (by decide +kernel) l23 (Or.inl (by decide +kernel)) ⟨_, rfl, l23, ?_⟩
  exact ⟨rfl, (by first | decide | omega)⟩
set_option maxHeartbeats 0 in
/-- LentNames$Calendar.isLentOn(I)Z -/
theorem c23_45 {sc : Nat × Nat} {d a1 : Nat} {h : xh} (hJ : J h) (ba1 : 2147483648 ≤ a1 ∧ a1 ≤ 2147483653) : X sc 23 (d + 1) (xI fun r h' => h' = h ∧ (2147483648 ≤ r ∧ r ≤ 2147483649)) 0 0 0 [x_r 45, iv_c a1] [] h := by
  have la1 : a1 < 4294967296 := by first | decide | omega
  refine x_aload (np := 1) (x := 0) (by decide +kernel) rfl (x_nc_le (by decide)) ?_
  have q1 : h 45 12 = 57 := by have z := jB (e := 12) 0 hJ rg_45_12_0_1 (by decide) (by decide); omega
  refine x_getR (np := 4) (x := 76) (f := 12) (q := 57) (by decide +kernel) (by decide) (by decide +kernel) q1 ?_
  refine x_iload (np := 5) (x := 1) (by decide +kernel) rfl la1 ?_
  obtain ⟨u2, q3⟩ : ∃ z, a1 = 2147483648 + z := ⟨a1 - 2147483648, by first | decide | omega⟩
  have b4 := jB (e := u2) u2 hJ rg_57_0_1_6 (by first | decide | omega) (by first | decide | omega)
  refine x_aldC (np := 6) (x := 0) (n := 6) (i := u2) (q := (h 57 u2)) (by decide +kernel) (by decide +kernel) (by first | decide | omega) (by first | decide | omega) (by decide) rfl (fun l5 => ?_)
  refine x_ifz (k := 5) (tg := 41) (np := 9) (by decide +kernel) (by decide) l5 (fun q6 => ?_) (fun q7 => ?_)
  · have q6 : (h 57 u2) ≤ 2147483648 := q6
    refine x_const (np := 42) (x := 9223372039002259456) (a := 2147483648) (by decide +kernel) (by decide) (by decide) ?_
    refine x_retI (np := 43) (x := 0) (by decide +kernel) (by decide) (Or.inr ⟨by decide +kernel, by first | decide | omega, by first | decide | omega⟩) ⟨_, rfl, (by decide), ?_⟩
    exact ⟨rfl, (by first | decide | omega)⟩
  have q7 : ¬ ((h 57 u2) ≤ 2147483648) := q7
  refine x_aload (np := 10) (x := 0) (by decide +kernel) rfl (x_nc_le (by decide)) ?_
  have t8 : tw (h 45 5) := hJ.2.2.2.1
  refine x_getR (np := 13) (x := 69) (f := 5) (q := (h 45 5)) (by decide +kernel) (by decide) (by decide +kernel) rfl ?_
  have q9 : h (h 45 5) 0 = ((h 45 5) + 1) := tf_0_0 hJ t8
  refine x_getR (np := 16) (x := 512) (f := 0) (q := ((h 45 5) + 1)) (by decide +kernel) (by decide) (tg_0_512_0_1 t8) q9 ?_
  refine x_aload (np := 17) (x := 0) (by decide +kernel) rfl (x_nc_le (by decide)) ?_
  refine x_iload (np := 18) (x := 1) (by decide +kernel) rfl la1 ?_
  refine x_aload (np := 19) (x := 0) (by decide +kernel) rfl (x_nc_le (by decide)) ?_
  have q10 : h 45 12 = 57 := by have z := jB (e := 12) 0 hJ rg_45_12_0_1 (by decide) (by decide); omega
  refine x_getR (np := 22) (x := 76) (f := 12) (q := 57) (by decide +kernel) (by decide) (by decide +kernel) q10 ?_
  refine x_iload (np := 23) (x := 1) (by decide +kernel) rfl la1 ?_
  refine x_aldC (np := 24) (x := 0) (n := 6) (i := u2) (q := (h 57 u2)) (by decide +kernel) (by decide +kernel) (by first | decide | omega) (by first | decide | omega) (by decide) rfl (fun l11 => ?_)
  refine x_const (np := 25) (x := 9223372043297226753) (a := 2147483649) (by decide +kernel) (by decide) (by decide) ?_
  obtain ⟨v12, q13⟩ : ∃ z, z + 2147483649 = (h 57 u2) + 2147483648 := ⟨(h 57 u2) + 2147483648 - 2147483649, by first | decide | omega⟩
  refine x_isub (np := 26) (x := 0) (v := v12) (by decide +kernel) l5 (by decide) (by first | decide | omega) (by first | decide | omega) ?_
  refine x_nI (t := 6) (mj := 33) (n := 3) (rc := 2) (ml := 3) (nr := 1) (np := 29) (as := [x_r 45, iv_c a1, iv_c v12]) (rest := [x_r ((h 45 5) + 1)]) (lo1 := [x_r 45, iv_c a1, iv_c v12]) (by decide +kernel) (by decide) (by decide +kernel) (x_rb_of (by decide +kernel)) rfl rfl (x_wr (by decide) (x_wi la1 (x_wi (by first | decide | omega) x_wn))) (x_wr (tn_1 t8) x_wn) (by decide) rfl ?_
  refine x_aload (np := 1) (x := 0) (by decide +kernel) rfl (x_nc_le (by decide)) ?_
  have q14 : h 45 11 = 56 := by have z := jB (e := 11) 0 hJ rg_45_11_0_1 (by decide) (by decide); omega
  refine x_getR (np := 4) (x := 75) (f := 11) (q := 56) (by decide +kernel) (by decide) (by decide +kernel) q14 ?_
  refine x_iload (np := 5) (x := 1) (by decide +kernel) rfl la1 ?_
  refine x_const (np := 7) (x := 9223372124901605396) (a := 2147483668) (by decide +kernel) (by decide) (by decide) ?_
  refine x_imul (np := 8) (x := 0) (i := u2) (j := 20) (v := (2147483648 + 20 * u2)) (by decide +kernel) (by first | decide | omega) (by first | decide | omega) (by first | decide | omega) (by first | decide | omega) la1 (by decide) ?_
  refine x_iload (np := 9) (x := 2) (by decide +kernel) rfl (by first | decide | omega) ?_
  refine x_iadd (np := 10) (x := 0) (v := (20 * u2 + v12)) (by decide +kernel) (by first | decide | omega) (by first | decide | omega) (by first | decide | omega) (by first | decide | omega) ?_
  obtain ⟨u16, q17⟩ : ∃ z, v12 = 2147483648 + z := ⟨v12 - 2147483648, by first | decide | omega⟩
  have b18 := jB (e := (20 * u2 + u16)) (20 * u2 + u16) hJ rg_56_0_1_120 (by first | decide | omega) (by first | decide | omega)
  refine x_aldC (np := 11) (x := 0) (n := 120) (i := (20 * u2 + u16)) (q := ((h 56 (20 * u2 + u16)))) (by decide +kernel) (by decide +kernel) (by first | decide | omega) (by first | decide | omega) (by decide) rfl (fun l19 => ?_)
  refine x_retI (np := 12) (x := 0) (by decide +kernel) l19 (Or.inl (by decide +kernel)) ⟨_, rfl, l19, ?_⟩
  refine x_const (np := 30) (x := 9223372056182128644) (a := 2147483652) (by decide +kernel) (by decide) (by decide) ?_
  refine x_cP (t := 6) (mj := 68) (n := 3) (rc := 7) (ml := 4) (nr := 0) (np := 33) (as := [x_r ((h 45 5) + 1), iv_c ((h 56 (20 * u2 + u16))), iv_c 2147483652]) (rest := []) (lo1 := [x_r ((h 45 5) + 1), iv_c ((h 56 (20 * u2 + u16))), iv_c 2147483652, 147573952589676412928]) (by decide +kernel) (by decide) (by decide +kernel) (x_rb_of (tr_1_7 t8)) rfl rfl (x_wr (tn_1 t8) (x_wi l19 (x_wi (by decide) x_wn))) x_wn (by decide) rfl (c68_T1_c4 hJ t8 (by first | decide | omega) ) (fun v21 l22 q23 => ?_)
  refine x_const (np := 34) (x := 9223372043297226753) (a := 2147483649) (by decide +kernel) (by decide) (by decide) ?_
  refine x_icmp (k := 1) (tg := 41) (np := 37) (by decide +kernel) (by decide) l22 (by decide) (fun q24 => ?_) (fun q25 => ?_)
  · have q24 : v21 ≠ 2147483649 := q24
    refine x_const (np := 42) (x := 9223372039002259456) (a := 2147483648) (by decide +kernel) (by decide) (by decide) ?_
    refine x_retI (np := 43) (x := 0) (by decide +kernel) (by decide) (Or.inr ⟨by decide +kernel, by first | decide | omega, by first | decide | omega⟩) ⟨_, rfl, (by decide), ?_⟩
    exact ⟨rfl, (by first | decide | omega)⟩
  have q25 : ¬ (v21 ≠ 2147483649) := q25
  refine x_const (np := 38) (x := 9223372043297226753) (a := 2147483649) (by decide +kernel) (by decide) (by decide) ?_
  refine x_goto (np := 41) (x := 42) (by decide +kernel) ?_
  refine x_retI (np := 43) (x := 0) (by decide +kernel) (by decide) (Or.inr ⟨by decide +kernel, by first | decide | omega, by first | decide | omega⟩) ⟨_, rfl, (by decide), ?_⟩
  exact ⟨rfl, (by first | decide | omega)⟩
set_option maxHeartbeats 0 in
/-- LentNames$Calendar.lendNames(I)V -/
theorem c21_45 {sc : Nat × Nat} {d a1 : Nat} {h : xh} (hJ : J h) (ba1 : 2147483648 ≤ a1 ∧ a1 ≤ 2147483659) : X sc 21 (d + 4) (xV fun h' => J h' ∧ Fr 140737488362497 h h') 0 0 0 [x_r 45, iv_c a1, 147573952589676412928, 147573952589676412928, 147573952589676412928] [] h := by
  have la1 : a1 < 4294967296 := by first | decide | omega
  have hF := Fr.refl 140737488362497 h
  refine x_const (np := 1) (x := 9223372039002259456) (a := 2147483648) (by decide +kernel) (by decide) (by decide) ?_
  refine x_istore (np := 2) (x := 2) (lo' := [x_r 45, iv_c a1, iv_c 2147483648, 147573952589676412928, 147573952589676412928]) (by decide +kernel) (by decide) (Nat.le_of_ble_eq_true rfl) rfl ?_
  have p3645 : ∀ (n : Nat) (v3638 : Nat) (w3640 : Nat) (w3641 : Nat) (h3642 : xh), 4294967296 - v3638 < n → (2147483648 ≤ v3638 ∧ v3638 ≤ 2147483668) → J h3642 → Fr 140737488362497 h h3642 → X sc 21 (d + 4) (xV fun h' => J h' ∧ Fr 140737488362497 h h') 0 0 2 [x_r 45, iv_c a1, iv_c v3638, w3640, w3641] [] h3642 := by
    intro n
    induction n with
    | zero => intro v3638 w3640 w3641 h3642 q3646; exact absurd q3646 (Nat.not_lt_zero _)
    | succ n i3647 =>
      intro v3638 w3640 w3641 h3642 q3646 b3639 j3644 f3643
      have f3648 := Fr.trans hF f3643 (by decide)
      refine x_iload (np := 3) (x := 2) (by decide +kernel) rfl (by first | decide | omega) ?_
      refine x_aload (np := 4) (x := 0) (by decide +kernel) rfl (x_nc_le (by decide)) ?_
      have q3649 : h3642 45 5 = h 45 5 := f3643 45 5 (by decide +kernel)
      have t3650 : tw (h 45 5) := hJ.2.2.2.1
      refine x_getR (np := 7) (x := 69) (f := 5) (q := (h 45 5)) (by decide +kernel) (by decide) (by decide +kernel) q3649 ?_
      have q3651 : h3642 (h 45 5) 0 = ((h 45 5) + 1) := tf_0_0 j3644 t3650
      refine x_getR (np := 10) (x := 512) (f := 0) (q := ((h 45 5) + 1)) (by decide +kernel) (by decide) (tg_0_512_0_1 t3650) q3651 ?_
      have q3652 : h3642 ((h 45 5) + 1) 2 = h ((h 45 5) + 1) 2 := jK 0 f3643 (rg_T1_2_0_1 t3650) (by first | decide | omega) (by first | decide | omega) (by decide)
      have b3653 := jB (e := 2) 0 hJ (rg_T1_2_0_1 t3650) (by first | decide | omega) (by first | decide | omega)
      refine x_getC (np := 13) (x := 386) (f := 2) (q := (h ((h 45 5) + 1) 2)) (by decide +kernel) (by decide) (tg_1_386_2_0 t3650) q3652 (fun l3654 => ?_)
      refine x_icmp (k := 3) (tg := 121) (np := 16) (by decide +kernel) (by decide) (by first | decide | omega) l3654 (fun q3655 => ?_) (fun q3656 => ?_)
      · have q3655 : (h ((h 45 5) + 1) 2) ≤ v3638 := q3655
        refine x_retV (np := 122) (x := 0) (by decide +kernel) (by decide +kernel) ⟨rfl, ?_⟩
        exact ⟨j3644, f3648⟩
      have q3656 : ¬ ((h ((h 45 5) + 1) 2) ≤ v3638) := q3656
      refine x_aload (np := 17) (x := 0) (by decide +kernel) rfl (x_nc_le (by decide)) ?_
      have q3657 : h3642 45 5 = h 45 5 := f3643 45 5 (by decide +kernel)
      refine x_getR (np := 20) (x := 69) (f := 5) (q := (h 45 5)) (by decide +kernel) (by decide) (by decide +kernel) q3657 ?_
      have q3658 : h3642 (h 45 5) 0 = ((h 45 5) + 1) := tf_0_0 j3644 t3650
      refine x_getR (np := 23) (x := 512) (f := 0) (q := ((h 45 5) + 1)) (by decide +kernel) (by decide) (tg_0_512_0_1 t3650) q3658 ?_
      refine x_iload (np := 24) (x := 2) (by decide +kernel) rfl (by first | decide | omega) ?_
      refine x_const (np := 25) (x := 9223372039002259456) (a := 2147483648) (by decide +kernel) (by decide) (by decide) ?_
      refine x_nI (t := 6) (mj := 68) (n := 3) (rc := 7) (ml := 4) (nr := 0) (np := 28) (as := [x_r ((h 45 5) + 1), iv_c v3638, iv_c 2147483648]) (rest := []) (lo1 := [x_r ((h 45 5) + 1), iv_c v3638, iv_c 2147483648, 147573952589676412928]) (by decide +kernel) (by decide) (by decide +kernel) (x_rb_of (tr_1_7 t3650)) rfl rfl (x_wr (tn_1 t3650) (x_wi (by first | decide | omega) (x_wi (by decide) x_wn))) x_wn (by decide) rfl ?_
      refine x_iload (np := 1) (x := 1) (by decide +kernel) rfl (by first | decide | omega) ?_
      refine x_ifz (k := 2) (tg := 28) (np := 4) (by decide +kernel) (by decide) (by first | decide | omega) (fun q3660 => ?_) (fun q3661 => ?_)
      · have q3660 : v3638 < 2147483648 := q3660
        exfalso; omega
      have q3661 : ¬ (v3638 < 2147483648) := q3661
      refine x_iload (np := 5) (x := 1) (by decide +kernel) rfl (by first | decide | omega) ?_
      refine x_aload (np := 6) (x := 0) (by decide +kernel) rfl (x_nc_le (tn_1 t3650)) ?_
      have q3662 : h3642 ((h 45 5) + 1) 2 = h ((h 45 5) + 1) 2 := jK 0 f3643 (rg_T1_2_0_1 t3650) (by first | decide | omega) (by first | decide | omega) (by decide)
      refine x_getC (np := 9) (x := 386) (f := 2) (q := (h ((h 45 5) + 1) 2)) (by decide +kernel) (by decide) (tg_1_386_2_0 t3650) q3662 (fun l3663 => ?_)
      refine x_icmp (k := 3) (tg := 28) (np := 12) (by decide +kernel) (by decide) (by first | decide | omega) l3654 (fun q3664 => ?_) (fun q3665 => ?_)
      · have q3664 : (h ((h 45 5) + 1) 2) ≤ v3638 := q3664
        exfalso; omega
      have q3665 : ¬ ((h ((h 45 5) + 1) 2) ≤ v3638) := q3665
      refine x_iload (np := 13) (x := 2) (by decide +kernel) rfl (by decide) ?_
      refine x_ifz (k := 2) (tg := 28) (np := 16) (by decide +kernel) (by decide) (by decide) (fun q3666 => ?_) (fun q3667 => ?_)
      · have q3666 : 2147483648 < 2147483648 := q3666
        exfalso; omega
      have q3667 : ¬ (2147483648 < 2147483648) := q3667
      refine x_iload (np := 17) (x := 2) (by decide +kernel) rfl (by decide) ?_
      refine x_aload (np := 18) (x := 0) (by decide +kernel) rfl (x_nc_le (tn_1 t3650)) ?_
      have q3668 : h3642 ((h 45 5) + 1) 0 = h ((h 45 5) + 1) 0 := jK 0 f3643 (rg_T1_0_0_1 t3650) (by first | decide | omega) (by first | decide | omega) (by decide)
      have b3669 := jB (e := 0) 0 hJ (rg_T1_0_0_1 t3650) (by first | decide | omega) (by first | decide | omega)
      have q3670 : (h ((h 45 5) + 1) 0) = 2147483655 := by first | decide | omega
      refine x_getC (np := 21) (x := 384) (f := 0) (q := 2147483655) (by decide +kernel) (by decide) (tg_1_384_0_0 t3650) (q3668.trans q3670) (fun l3671 => ?_)
      refine x_icmp (k := 3) (tg := 28) (np := 24) (by decide +kernel) (by decide) (by decide) (by decide) (fun q3672 => ?_) (fun q3673 => ?_)
      · have q3672 : 2147483655 ≤ 2147483648 := q3672
        exfalso; omega
      have q3673 : ¬ (2147483655 ≤ 2147483648) := q3673
      refine x_const (np := 25) (x := 9223372043297226753) (a := 2147483649) (by decide +kernel) (by decide) (by decide) ?_
      refine x_goto (np := 28) (x := 29) (by decide +kernel) ?_
      refine x_istore (np := 30) (x := 3) (lo' := [x_r ((h 45 5) + 1), iv_c v3638, iv_c 2147483648, iv_c 2147483649]) (by decide +kernel) (by decide) (Nat.le_of_ble_eq_true rfl) rfl ?_
      refine x_iload (np := 31) (x := 3) (by decide +kernel) rfl (by decide) ?_
      refine x_ifz (k := 0) (tg := 50) (np := 34) (by decide +kernel) (by decide) (by decide) (fun q3674 => ?_) (fun q3675 => ?_)
      · have q3674 : 2147483649 = 2147483648 := q3674
        exfalso; omega
      have q3675 : ¬ (2147483649 = 2147483648) := q3675
      refine x_aload (np := 35) (x := 0) (by decide +kernel) rfl (x_nc_le (tn_1 t3650)) ?_
      have q3676 : h3642 ((h 45 5) + 1) 1 = ((h 45 5) + 2) := tf_1_1 j3644 t3650
      refine x_getR (np := 38) (x := 385) (f := 1) (q := ((h 45 5) + 2)) (by decide +kernel) (by decide) (tg_1_385_1_1 t3650) q3676 ?_
      refine x_iload (np := 39) (x := 1) (by decide +kernel) rfl (by first | decide | omega) ?_
      refine x_aload (np := 40) (x := 0) (by decide +kernel) rfl (x_nc_le (tn_1 t3650)) ?_
      have q3677 : h3642 ((h 45 5) + 1) 0 = h ((h 45 5) + 1) 0 := jK 0 f3643 (rg_T1_0_0_1 t3650) (by first | decide | omega) (by first | decide | omega) (by decide)
      refine x_getC (np := 43) (x := 384) (f := 0) (q := 2147483655) (by decide +kernel) (by decide) (tg_1_384_0_0 t3650) (q3677.trans q3670) (fun l3678 => ?_)
      obtain ⟨u3679, q3680⟩ : ∃ z, v3638 = 2147483648 + z := ⟨v3638 - 2147483648, by first | decide | omega⟩
      refine x_imul (np := 44) (x := 0) (i := u3679) (j := 7) (v := (2147483648 + 7 * u3679)) (by decide +kernel) (by first | decide | omega) (by first | decide | omega) (by first | decide | omega) (by first | decide | omega) (by first | decide | omega) (by decide) ?_
      refine x_iload (np := 45) (x := 2) (by decide +kernel) rfl (by decide) ?_
      refine x_iadd (np := 46) (x := 0) (v := (2147483648 + 7 * u3679)) (by decide +kernel) (by first | decide | omega) (by decide) (by first | decide | omega) (by first | decide | omega) ?_
      have q3682 : h3642 ((h 45 5) + 2) (7 * u3679) = h ((h 45 5) + 2) (7 * u3679) := jK u3679 f3643 (rg_T2_0_7_20 t3650) (by first | decide | omega) (by first | decide | omega) (by decide)
      have b3683 := jB (e := (7 * u3679)) u3679 hJ (rg_T2_0_7_20 t3650) (by first | decide | omega) (by first | decide | omega)
      refine x_aldC (np := 47) (x := 0) (n := 140) (i := (7 * u3679)) (q := ((h ((h 45 5) + 2) (7 * u3679)))) (by decide +kernel) (ta_2_140 t3650) (by first | decide | omega) (by first | decide | omega) (by decide) q3682 (fun l3684 => ?_)
      refine x_goto (np := 50) (x := 51) (by decide +kernel) ?_
      refine x_retI (np := 52) (x := 0) (by decide +kernel) l3684 (Or.inl (by decide +kernel)) ⟨_, rfl, l3684, ?_⟩
      refine x_istore (np := 29) (x := 3) (lo' := [x_r 45, iv_c a1, iv_c v3638, iv_c ((h ((h 45 5) + 2) (7 * u3679))), w3641]) (by decide +kernel) l3684 (Nat.le_of_ble_eq_true rfl) rfl ?_
      refine x_aload (np := 30) (x := 0) (by decide +kernel) rfl (x_nc_le (by decide)) ?_
      have q3685 : h3642 45 5 = h 45 5 := f3643 45 5 (by decide +kernel)
      refine x_getR (np := 33) (x := 69) (f := 5) (q := (h 45 5)) (by decide +kernel) (by decide) (by decide +kernel) q3685 ?_
      have q3686 : h3642 (h 45 5) 0 = ((h 45 5) + 1) := tf_0_0 j3644 t3650
      refine x_getR (np := 36) (x := 512) (f := 0) (q := ((h 45 5) + 1)) (by decide +kernel) (by decide) (tg_0_512_0_1 t3650) q3686 ?_
      refine x_iload (np := 37) (x := 2) (by decide +kernel) rfl (by first | decide | omega) ?_
      refine x_const (np := 38) (x := 9223372047592194050) (a := 2147483650) (by decide +kernel) (by decide) (by decide) ?_
      refine x_nI (t := 6) (mj := 68) (n := 3) (rc := 7) (ml := 4) (nr := 0) (np := 41) (as := [x_r ((h 45 5) + 1), iv_c v3638, iv_c 2147483650]) (rest := []) (lo1 := [x_r ((h 45 5) + 1), iv_c v3638, iv_c 2147483650, 147573952589676412928]) (by decide +kernel) (by decide) (by decide +kernel) (x_rb_of (tr_1_7 t3650)) rfl rfl (x_wr (tn_1 t3650) (x_wi (by first | decide | omega) (x_wi (by decide) x_wn))) x_wn (by decide) rfl ?_
      refine x_iload (np := 1) (x := 1) (by decide +kernel) rfl (by first | decide | omega) ?_
      refine x_ifz (k := 2) (tg := 28) (np := 4) (by decide +kernel) (by decide) (by first | decide | omega) (fun q3688 => ?_) (fun q3689 => ?_)
      · have q3688 : v3638 < 2147483648 := q3688
        exfalso; omega
      have q3689 : ¬ (v3638 < 2147483648) := q3689
      refine x_iload (np := 5) (x := 1) (by decide +kernel) rfl (by first | decide | omega) ?_
      refine x_aload (np := 6) (x := 0) (by decide +kernel) rfl (x_nc_le (tn_1 t3650)) ?_
      have q3690 : h3642 ((h 45 5) + 1) 2 = h ((h 45 5) + 1) 2 := jK 0 f3643 (rg_T1_2_0_1 t3650) (by first | decide | omega) (by first | decide | omega) (by decide)
      refine x_getC (np := 9) (x := 386) (f := 2) (q := (h ((h 45 5) + 1) 2)) (by decide +kernel) (by decide) (tg_1_386_2_0 t3650) q3690 (fun l3691 => ?_)
      refine x_icmp (k := 3) (tg := 28) (np := 12) (by decide +kernel) (by decide) (by first | decide | omega) l3654 (fun q3692 => ?_) (fun q3693 => ?_)
      · have q3692 : (h ((h 45 5) + 1) 2) ≤ v3638 := q3692
        exfalso; omega
      have q3693 : ¬ ((h ((h 45 5) + 1) 2) ≤ v3638) := q3693
      refine x_iload (np := 13) (x := 2) (by decide +kernel) rfl (by decide) ?_
      refine x_ifz (k := 2) (tg := 28) (np := 16) (by decide +kernel) (by decide) (by decide) (fun q3694 => ?_) (fun q3695 => ?_)
      · have q3694 : 2147483650 < 2147483648 := q3694
        exfalso; omega
      have q3695 : ¬ (2147483650 < 2147483648) := q3695
      refine x_iload (np := 17) (x := 2) (by decide +kernel) rfl (by decide) ?_
      refine x_aload (np := 18) (x := 0) (by decide +kernel) rfl (x_nc_le (tn_1 t3650)) ?_
      have q3696 : h3642 ((h 45 5) + 1) 0 = h ((h 45 5) + 1) 0 := jK 0 f3643 (rg_T1_0_0_1 t3650) (by first | decide | omega) (by first | decide | omega) (by decide)
      refine x_getC (np := 21) (x := 384) (f := 0) (q := 2147483655) (by decide +kernel) (by decide) (tg_1_384_0_0 t3650) (q3696.trans q3670) (fun l3697 => ?_)
      refine x_icmp (k := 3) (tg := 28) (np := 24) (by decide +kernel) (by decide) (by decide) (by decide) (fun q3698 => ?_) (fun q3699 => ?_)
      · have q3698 : 2147483655 ≤ 2147483650 := q3698
        exfalso; omega
      have q3699 : ¬ (2147483655 ≤ 2147483650) := q3699
      refine x_const (np := 25) (x := 9223372043297226753) (a := 2147483649) (by decide +kernel) (by decide) (by decide) ?_
      refine x_goto (np := 28) (x := 29) (by decide +kernel) ?_
      refine x_istore (np := 30) (x := 3) (lo' := [x_r ((h 45 5) + 1), iv_c v3638, iv_c 2147483650, iv_c 2147483649]) (by decide +kernel) (by decide) (Nat.le_of_ble_eq_true rfl) rfl ?_
      refine x_iload (np := 31) (x := 3) (by decide +kernel) rfl (by decide) ?_
      refine x_ifz (k := 0) (tg := 50) (np := 34) (by decide +kernel) (by decide) (by decide) (fun q3700 => ?_) (fun q3701 => ?_)
      · have q3700 : 2147483649 = 2147483648 := q3700
        exfalso; omega
      have q3701 : ¬ (2147483649 = 2147483648) := q3701
      refine x_aload (np := 35) (x := 0) (by decide +kernel) rfl (x_nc_le (tn_1 t3650)) ?_
      have q3702 : h3642 ((h 45 5) + 1) 1 = ((h 45 5) + 2) := tf_1_1 j3644 t3650
      refine x_getR (np := 38) (x := 385) (f := 1) (q := ((h 45 5) + 2)) (by decide +kernel) (by decide) (tg_1_385_1_1 t3650) q3702 ?_
      refine x_iload (np := 39) (x := 1) (by decide +kernel) rfl (by first | decide | omega) ?_
      refine x_aload (np := 40) (x := 0) (by decide +kernel) rfl (x_nc_le (tn_1 t3650)) ?_
      have q3703 : h3642 ((h 45 5) + 1) 0 = h ((h 45 5) + 1) 0 := jK 0 f3643 (rg_T1_0_0_1 t3650) (by first | decide | omega) (by first | decide | omega) (by decide)
      refine x_getC (np := 43) (x := 384) (f := 0) (q := 2147483655) (by decide +kernel) (by decide) (tg_1_384_0_0 t3650) (q3703.trans q3670) (fun l3704 => ?_)
      refine x_imul (np := 44) (x := 0) (i := u3679) (j := 7) (v := (2147483648 + 7 * u3679)) (by decide +kernel) (by first | decide | omega) (by first | decide | omega) (by first | decide | omega) (by first | decide | omega) (by first | decide | omega) (by decide) ?_
      refine x_iload (np := 45) (x := 2) (by decide +kernel) rfl (by decide) ?_
      refine x_iadd (np := 46) (x := 0) (v := (2147483650 + 7 * u3679)) (by decide +kernel) (by first | decide | omega) (by decide) (by first | decide | omega) (by first | decide | omega) ?_
      have q3706 : h3642 ((h 45 5) + 2) (2 + 7 * u3679) = h ((h 45 5) + 2) (2 + 7 * u3679) := jK u3679 f3643 (rg_T2_2_7_20 t3650) (by first | decide | omega) (by first | decide | omega) (by decide)
      refine x_aldC (np := 47) (x := 0) (n := 140) (i := (2 + 7 * u3679)) (q := ((h ((h 45 5) + 2) (2 + 7 * u3679)))) (by decide +kernel) (ta_2_140 t3650) (by first | decide | omega) (by first | decide | omega) (by decide) q3706 (fun l3707 => ?_)
      refine x_goto (np := 50) (x := 51) (by decide +kernel) ?_
      refine x_retI (np := 52) (x := 0) (by decide +kernel) l3707 (Or.inl (by decide +kernel)) ⟨_, rfl, l3707, ?_⟩
      refine x_iload (np := 42) (x := 1) (by decide +kernel) rfl la1 ?_
      refine x_icmp (k := 1) (tg := 49) (np := 45) (by decide +kernel) (by decide) l3707 la1 (fun q3708 => ?_) (fun q3709 => ?_)
      · have q3708 : ((h ((h 45 5) + 2) (2 + 7 * u3679))) ≠ a1 := q3708
        refine x_const (np := 50) (x := 9223372039002259456) (a := 2147483648) (by decide +kernel) (by decide) (by decide) ?_
        refine x_istore (np := 52) (x := 4) (lo' := [x_r 45, iv_c a1, iv_c v3638, iv_c ((h ((h 45 5) + 2) (7 * u3679))), iv_c 2147483648]) (by decide +kernel) (by decide) (Nat.le_of_ble_eq_true rfl) rfl ?_
        refine x_iload (np := 54) (x := 4) (by decide +kernel) rfl (by decide) ?_
        refine x_ifz (k := 0) (tg := 115) (np := 57) (by decide +kernel) (by decide) (by decide) (fun q3710 => ?_) (fun q3711 => ?_)
        · have q3710 : 2147483648 = 2147483648 := q3710
          refine x_iinc (np := 118) (i := 2) (j := 2147483649) (v := (1 + v3638)) (lo' := [x_r 45, iv_c a1, iv_c (1 + v3638), iv_c ((h ((h 45 5) + 2) (7 * u3679))), iv_c 2147483648]) (by decide +kernel) (by decide) (by decide) rfl (by first | decide | omega) (by first | decide | omega) (by first | decide | omega) rfl ?_
          refine x_goto (np := 121) (x := 2) (by decide +kernel) ?_
          exact i3647 (1 + v3638) (iv_c ((h ((h 45 5) + 2) (7 * u3679)))) (iv_c 2147483648) h3642 (by first | decide | omega) (by first | decide | omega) j3644 f3643
        have q3711 : ¬ (2147483648 = 2147483648) := q3711
        exfalso; omega
      have q3709 : ¬ (((h ((h 45 5) + 2) (2 + 7 * u3679))) ≠ a1) := q3709
      refine x_const (np := 46) (x := 9223372043297226753) (a := 2147483649) (by decide +kernel) (by decide) (by decide) ?_
      refine x_goto (np := 49) (x := 50) (by decide +kernel) ?_
      refine x_istore (np := 52) (x := 4) (lo' := [x_r 45, iv_c a1, iv_c v3638, iv_c ((h ((h 45 5) + 2) (7 * u3679))), iv_c 2147483649]) (by decide +kernel) (by decide) (Nat.le_of_ble_eq_true rfl) rfl ?_
      refine x_iload (np := 54) (x := 4) (by decide +kernel) rfl (by decide) ?_
      refine x_ifz (k := 0) (tg := 115) (np := 57) (by decide +kernel) (by decide) (by decide) (fun q3712 => ?_) (fun q3713 => ?_)
      · have q3712 : 2147483649 = 2147483648 := q3712
        exfalso; omega
      have q3713 : ¬ (2147483649 = 2147483648) := q3713
      refine x_aload (np := 58) (x := 0) (by decide +kernel) rfl (x_nc_le (by decide)) ?_
      refine x_iload (np := 59) (x := 2) (by decide +kernel) rfl (by first | decide | omega) ?_
      refine x_iload (np := 60) (x := 3) (by decide +kernel) rfl l3684 ?_
      refine x_iload (np := 61) (x := 1) (by decide +kernel) rfl la1 ?_
      refine x_nI (t := 6) (mj := 22) (n := 4) (rc := 2) (ml := 6) (nr := 0) (np := 64) (as := [x_r 45, iv_c v3638, iv_c ((h ((h 45 5) + 2) (7 * u3679))), iv_c a1]) (rest := []) (lo1 := [x_r 45, iv_c v3638, iv_c ((h ((h 45 5) + 2) (7 * u3679))), iv_c a1, 147573952589676412928, 147573952589676412928]) (by decide +kernel) (by decide) (by decide +kernel) (x_rb_of (by decide +kernel)) rfl rfl (x_wr (by decide) (x_wi (by first | decide | omega) (x_wi l3684 (x_wi la1 x_wn)))) x_wn (by decide) rfl ?_
      refine x_aload (np := 1) (x := 0) (by decide +kernel) rfl (x_nc_le (by decide)) ?_
      refine x_iload (np := 2) (x := 2) (by decide +kernel) rfl l3684 ?_
      refine x_cP (t := 6) (mj := 32) (n := 2) (rc := 2) (ml := 2) (nr := 0) (np := 5) (as := [x_r 45, iv_c ((h ((h 45 5) + 2) (7 * u3679)))]) (rest := []) (lo1 := [x_r 45, iv_c ((h ((h 45 5) + 2) (7 * u3679)))]) (by decide +kernel) (by decide) (by decide +kernel) (x_rb_of (by decide +kernel)) rfl rfl (x_wr (by decide) (x_wi l3684 x_wn)) x_wn (by decide) rfl (c32_45 j3644  (by first | decide | omega)) (fun v3714 l3715 q3716 => ?_)
      refine x_istore (np := 7) (x := 4) (lo' := [x_r 45, iv_c v3638, iv_c ((h ((h 45 5) + 2) (7 * u3679))), iv_c a1, iv_c v3714, 147573952589676412928]) (by decide +kernel) l3715 (Nat.le_of_ble_eq_true rfl) rfl ?_
      refine x_aload (np := 8) (x := 0) (by decide +kernel) rfl (x_nc_le (by decide)) ?_
      have q3717 : h3642 45 5 = h 45 5 := f3643 45 5 (by decide +kernel)
      refine x_getR (np := 11) (x := 69) (f := 5) (q := (h 45 5)) (by decide +kernel) (by decide) (by decide +kernel) q3717 ?_
      have q3718 : h3642 (h 45 5) 0 = ((h 45 5) + 1) := tf_0_0 j3644 t3650
      refine x_getR (np := 14) (x := 512) (f := 0) (q := ((h 45 5) + 1)) (by decide +kernel) (by decide) (tg_0_512_0_1 t3650) q3718 ?_
      refine x_iload (np := 15) (x := 1) (by decide +kernel) rfl (by first | decide | omega) ?_
      refine x_const (np := 16) (x := 9223372043297226753) (a := 2147483649) (by decide +kernel) (by decide) (by decide) ?_
      refine x_nI (t := 6) (mj := 68) (n := 3) (rc := 7) (ml := 4) (nr := 0) (np := 19) (as := [x_r ((h 45 5) + 1), iv_c v3638, iv_c 2147483649]) (rest := []) (lo1 := [x_r ((h 45 5) + 1), iv_c v3638, iv_c 2147483649, 147573952589676412928]) (by decide +kernel) (by decide) (by decide +kernel) (x_rb_of (tr_1_7 t3650)) rfl rfl (x_wr (tn_1 t3650) (x_wi (by first | decide | omega) (x_wi (by decide) x_wn))) x_wn (by decide) rfl ?_
      refine x_iload (np := 1) (x := 1) (by decide +kernel) rfl (by first | decide | omega) ?_
      refine x_ifz (k := 2) (tg := 28) (np := 4) (by decide +kernel) (by decide) (by first | decide | omega) (fun q3720 => ?_) (fun q3721 => ?_)
      · have q3720 : v3638 < 2147483648 := q3720
        exfalso; omega
      have q3721 : ¬ (v3638 < 2147483648) := q3721
      refine x_iload (np := 5) (x := 1) (by decide +kernel) rfl (by first | decide | omega) ?_
      refine x_aload (np := 6) (x := 0) (by decide +kernel) rfl (x_nc_le (tn_1 t3650)) ?_
      have q3722 : h3642 ((h 45 5) + 1) 2 = h ((h 45 5) + 1) 2 := jK 0 f3643 (rg_T1_2_0_1 t3650) (by first | decide | omega) (by first | decide | omega) (by decide)
      refine x_getC (np := 9) (x := 386) (f := 2) (q := (h ((h 45 5) + 1) 2)) (by decide +kernel) (by decide) (tg_1_386_2_0 t3650) q3722 (fun l3723 => ?_)
      refine x_icmp (k := 3) (tg := 28) (np := 12) (by decide +kernel) (by decide) (by first | decide | omega) l3654 (fun q3724 => ?_) (fun q3725 => ?_)
      · have q3724 : (h ((h 45 5) + 1) 2) ≤ v3638 := q3724
        exfalso; omega
      have q3725 : ¬ ((h ((h 45 5) + 1) 2) ≤ v3638) := q3725
      refine x_iload (np := 13) (x := 2) (by decide +kernel) rfl (by decide) ?_
      refine x_ifz (k := 2) (tg := 28) (np := 16) (by decide +kernel) (by decide) (by decide) (fun q3726 => ?_) (fun q3727 => ?_)
      · have q3726 : 2147483649 < 2147483648 := q3726
        exfalso; omega
      have q3727 : ¬ (2147483649 < 2147483648) := q3727
      refine x_iload (np := 17) (x := 2) (by decide +kernel) rfl (by decide) ?_
      refine x_aload (np := 18) (x := 0) (by decide +kernel) rfl (x_nc_le (tn_1 t3650)) ?_
      have q3728 : h3642 ((h 45 5) + 1) 0 = h ((h 45 5) + 1) 0 := jK 0 f3643 (rg_T1_0_0_1 t3650) (by first | decide | omega) (by first | decide | omega) (by decide)
      refine x_getC (np := 21) (x := 384) (f := 0) (q := 2147483655) (by decide +kernel) (by decide) (tg_1_384_0_0 t3650) (q3728.trans q3670) (fun l3729 => ?_)
      refine x_icmp (k := 3) (tg := 28) (np := 24) (by decide +kernel) (by decide) (by decide) (by decide) (fun q3730 => ?_) (fun q3731 => ?_)
      · have q3730 : 2147483655 ≤ 2147483649 := q3730
        exfalso; omega
      have q3731 : ¬ (2147483655 ≤ 2147483649) := q3731
      refine x_const (np := 25) (x := 9223372043297226753) (a := 2147483649) (by decide +kernel) (by decide) (by decide) ?_
      refine x_goto (np := 28) (x := 29) (by decide +kernel) ?_
      refine x_istore (np := 30) (x := 3) (lo' := [x_r ((h 45 5) + 1), iv_c v3638, iv_c 2147483649, iv_c 2147483649]) (by decide +kernel) (by decide) (Nat.le_of_ble_eq_true rfl) rfl ?_
      refine x_iload (np := 31) (x := 3) (by decide +kernel) rfl (by decide) ?_
      refine x_ifz (k := 0) (tg := 50) (np := 34) (by decide +kernel) (by decide) (by decide) (fun q3732 => ?_) (fun q3733 => ?_)
      · have q3732 : 2147483649 = 2147483648 := q3732
        exfalso; omega
      have q3733 : ¬ (2147483649 = 2147483648) := q3733
      refine x_aload (np := 35) (x := 0) (by decide +kernel) rfl (x_nc_le (tn_1 t3650)) ?_
      have q3734 : h3642 ((h 45 5) + 1) 1 = ((h 45 5) + 2) := tf_1_1 j3644 t3650
      refine x_getR (np := 38) (x := 385) (f := 1) (q := ((h 45 5) + 2)) (by decide +kernel) (by decide) (tg_1_385_1_1 t3650) q3734 ?_
      refine x_iload (np := 39) (x := 1) (by decide +kernel) rfl (by first | decide | omega) ?_
      refine x_aload (np := 40) (x := 0) (by decide +kernel) rfl (x_nc_le (tn_1 t3650)) ?_
      have q3735 : h3642 ((h 45 5) + 1) 0 = h ((h 45 5) + 1) 0 := jK 0 f3643 (rg_T1_0_0_1 t3650) (by first | decide | omega) (by first | decide | omega) (by decide)
      refine x_getC (np := 43) (x := 384) (f := 0) (q := 2147483655) (by decide +kernel) (by decide) (tg_1_384_0_0 t3650) (q3735.trans q3670) (fun l3736 => ?_)
      refine x_imul (np := 44) (x := 0) (i := u3679) (j := 7) (v := (2147483648 + 7 * u3679)) (by decide +kernel) (by first | decide | omega) (by first | decide | omega) (by first | decide | omega) (by first | decide | omega) (by first | decide | omega) (by decide) ?_
      refine x_iload (np := 45) (x := 2) (by decide +kernel) rfl (by decide) ?_
      refine x_iadd (np := 46) (x := 0) (v := (2147483649 + 7 * u3679)) (by decide +kernel) (by first | decide | omega) (by decide) (by first | decide | omega) (by first | decide | omega) ?_
      have q3738 : h3642 ((h 45 5) + 2) (1 + 7 * u3679) = h ((h 45 5) + 2) (1 + 7 * u3679) := jK u3679 f3643 (rg_T2_1_7_20 t3650) (by first | decide | omega) (by first | decide | omega) (by decide)
      refine x_aldC (np := 47) (x := 0) (n := 140) (i := (1 + 7 * u3679)) (q := ((h ((h 45 5) + 2) (1 + 7 * u3679)))) (by decide +kernel) (ta_2_140 t3650) (by first | decide | omega) (by first | decide | omega) (by decide) q3738 (fun l3739 => ?_)
      refine x_goto (np := 50) (x := 51) (by decide +kernel) ?_
      refine x_retI (np := 52) (x := 0) (by decide +kernel) l3739 (Or.inl (by decide +kernel)) ⟨_, rfl, l3739, ?_⟩
      refine x_istore (np := 21) (x := 5) (lo' := [x_r 45, iv_c v3638, iv_c ((h ((h 45 5) + 2) (7 * u3679))), iv_c a1, iv_c v3714, iv_c ((h ((h 45 5) + 2) (1 + 7 * u3679)))]) (by decide +kernel) l3739 (Nat.le_of_ble_eq_true rfl) rfl ?_
      refine x_aload (np := 22) (x := 0) (by decide +kernel) rfl (x_nc_le (by decide)) ?_
      have q3740 : h3642 45 12 = 57 := by have z := jB (e := 12) 0 j3644 rg_45_12_0_1 (by decide) (by decide); omega
      refine x_getR (np := 25) (x := 76) (f := 12) (q := 57) (by decide +kernel) (by decide) (by decide +kernel) q3740 ?_
      refine x_iload (np := 26) (x := 2) (by decide +kernel) rfl l3684 ?_
      obtain ⟨u3741, q3742⟩ : ∃ z, ((h ((h 45 5) + 2) (7 * u3679))) = 2147483648 + z := ⟨((h ((h 45 5) + 2) (7 * u3679))) - 2147483648, by first | decide | omega⟩
      have b3743 := jB (e := u3741) u3741 j3644 rg_57_0_1_6 (by first | decide | omega) (by first | decide | omega)
      refine x_aldC (np := 27) (x := 0) (n := 6) (i := u3741) (q := (h3642 57 u3741)) (by decide +kernel) (by decide +kernel) (by first | decide | omega) (by first | decide | omega) (by decide) rfl (fun l3744 => ?_)
      refine x_const (np := 29) (x := 9223372124901605396) (a := 2147483668) (by decide +kernel) (by decide) (by decide) ?_
      refine x_icmp (k := 3) (tg := 49) (np := 32) (by decide +kernel) (by decide) l3744 (by decide) (fun q3745 => ?_) (fun q3746 => ?_)
      · have q3745 : 2147483668 ≤ (h3642 57 u3741) := q3745
        refine x_const (np := 50) (x := 9223372039002259456) (a := 2147483648) (by decide +kernel) (by decide) (by decide) ?_
        refine x_retI (np := 51) (x := 0) (by decide +kernel) (by decide) (Or.inr ⟨by decide +kernel, by first | decide | omega, by first | decide | omega⟩) ⟨_, rfl, (by decide), ?_⟩
        refine x_ifz (k := 0) (tg := 115) (np := 67) (by decide +kernel) (by decide) (by decide) (fun q3747 => ?_) (fun q3748 => ?_)
        · have q3747 : 2147483648 = 2147483648 := q3747
          refine x_iinc (np := 118) (i := 2) (j := 2147483649) (v := (1 + v3638)) (lo' := [x_r 45, iv_c a1, iv_c (1 + v3638), iv_c ((h ((h 45 5) + 2) (7 * u3679))), iv_c 2147483649]) (by decide +kernel) (by decide) (by decide) rfl (by first | decide | omega) (by first | decide | omega) (by first | decide | omega) rfl ?_
          refine x_goto (np := 121) (x := 2) (by decide +kernel) ?_
          exact i3647 (1 + v3638) (iv_c ((h ((h 45 5) + 2) (7 * u3679)))) (iv_c 2147483649) h3642 (by first | decide | omega) (by first | decide | omega) j3644 f3643
        have q3748 : ¬ (2147483648 = 2147483648) := q3748
        exfalso; omega
      have q3746 : ¬ (2147483668 ≤ (h3642 57 u3741)) := q3746
      refine x_iload (np := 34) (x := 4) (by decide +kernel) rfl l3715 ?_
      refine x_iload (np := 36) (x := 5) (by decide +kernel) rfl l3739 ?_
      refine x_icmp (k := 0) (tg := 49) (np := 39) (by decide +kernel) (by decide) l3715 l3739 (fun q3749 => ?_) (fun q3750 => ?_)
      · have q3749 : v3714 = ((h ((h 45 5) + 2) (1 + 7 * u3679))) := q3749
        refine x_const (np := 50) (x := 9223372039002259456) (a := 2147483648) (by decide +kernel) (by decide) (by decide) ?_
        refine x_retI (np := 51) (x := 0) (by decide +kernel) (by decide) (Or.inr ⟨by decide +kernel, by first | decide | omega, by first | decide | omega⟩) ⟨_, rfl, (by decide), ?_⟩
        refine x_ifz (k := 0) (tg := 115) (np := 67) (by decide +kernel) (by decide) (by decide) (fun q3751 => ?_) (fun q3752 => ?_)
        · have q3751 : 2147483648 = 2147483648 := q3751
          refine x_iinc (np := 118) (i := 2) (j := 2147483649) (v := (1 + v3638)) (lo' := [x_r 45, iv_c a1, iv_c (1 + v3638), iv_c ((h ((h 45 5) + 2) (7 * u3679))), iv_c 2147483649]) (by decide +kernel) (by decide) (by decide) rfl (by first | decide | omega) (by first | decide | omega) (by first | decide | omega) rfl ?_
          refine x_goto (np := 121) (x := 2) (by decide +kernel) ?_
          exact i3647 (1 + v3638) (iv_c ((h ((h 45 5) + 2) (7 * u3679)))) (iv_c 2147483649) h3642 (by first | decide | omega) (by first | decide | omega) j3644 f3643
        have q3752 : ¬ (2147483648 = 2147483648) := q3752
        exfalso; omega
      have q3750 : ¬ (v3714 = ((h ((h 45 5) + 2) (1 + 7 * u3679)))) := q3750
      refine x_aload (np := 40) (x := 0) (by decide +kernel) rfl (x_nc_le (by decide)) ?_
      refine x_iload (np := 42) (x := 5) (by decide +kernel) rfl l3739 ?_
      refine x_iload (np := 43) (x := 3) (by decide +kernel) rfl la1 ?_
      refine x_nI (t := 6) (mj := 31) (n := 3) (rc := 2) (ml := 3) (nr := 0) (np := 46) (as := [x_r 45, iv_c ((h ((h 45 5) + 2) (1 + 7 * u3679))), iv_c a1]) (rest := []) (lo1 := [x_r 45, iv_c ((h ((h 45 5) + 2) (1 + 7 * u3679))), iv_c a1]) (by decide +kernel) (by decide) (by decide +kernel) (x_rb_of (by decide +kernel)) rfl rfl (x_wr (by decide) (x_wi l3739 (x_wi la1 x_wn))) x_wn (by decide) rfl ?_
      refine x_iload (np := 1) (x := 1) (by decide +kernel) rfl l3739 ?_
      refine x_ifz (k := 2) (tg := 27) (np := 4) (by decide +kernel) (by decide) l3739 (fun q3753 => ?_) (fun q3754 => ?_)
      · have q3753 : ((h ((h 45 5) + 2) (1 + 7 * u3679))) < 2147483648 := q3753
        refine x_const (np := 28) (x := 9223372039002259456) (a := 2147483648) (by decide +kernel) (by decide) (by decide) ?_
        refine x_retI (np := 29) (x := 0) (by decide +kernel) (by decide) (Or.inr ⟨by decide +kernel, by first | decide | omega, by first | decide | omega⟩) ⟨_, rfl, (by decide), ?_⟩
        refine x_ifz (k := 1) (tg := 51) (np := 49) (by decide +kernel) (by decide) (by decide) (fun q3755 => ?_) (fun q3756 => ?_)
        · have q3755 : 2147483648 ≠ 2147483648 := q3755
          exfalso; omega
        have q3756 : ¬ (2147483648 ≠ 2147483648) := q3756
        refine x_const (np := 50) (x := 9223372039002259456) (a := 2147483648) (by decide +kernel) (by decide) (by decide) ?_
        refine x_retI (np := 51) (x := 0) (by decide +kernel) (by decide) (Or.inr ⟨by decide +kernel, by first | decide | omega, by first | decide | omega⟩) ⟨_, rfl, (by decide), ?_⟩
        refine x_ifz (k := 0) (tg := 115) (np := 67) (by decide +kernel) (by decide) (by decide) (fun q3757 => ?_) (fun q3758 => ?_)
        · have q3757 : 2147483648 = 2147483648 := q3757
          refine x_iinc (np := 118) (i := 2) (j := 2147483649) (v := (1 + v3638)) (lo' := [x_r 45, iv_c a1, iv_c (1 + v3638), iv_c ((h ((h 45 5) + 2) (7 * u3679))), iv_c 2147483649]) (by decide +kernel) (by decide) (by decide) rfl (by first | decide | omega) (by first | decide | omega) (by first | decide | omega) rfl ?_
          refine x_goto (np := 121) (x := 2) (by decide +kernel) ?_
          exact i3647 (1 + v3638) (iv_c ((h ((h 45 5) + 2) (7 * u3679)))) (iv_c 2147483649) h3642 (by first | decide | omega) (by first | decide | omega) j3644 f3643
        have q3758 : ¬ (2147483648 = 2147483648) := q3758
        exfalso; omega
      have q3754 : ¬ (((h ((h 45 5) + 2) (1 + 7 * u3679))) < 2147483648) := q3754
      refine x_iload (np := 5) (x := 1) (by decide +kernel) rfl l3739 ?_
      refine x_const (np := 7) (x := 9223372064772063238) (a := 2147483654) (by decide +kernel) (by decide) (by decide) ?_
      refine x_icmp (k := 3) (tg := 27) (np := 10) (by decide +kernel) (by decide) l3739 (by decide) (fun q3759 => ?_) (fun q3760 => ?_)
      · have q3759 : 2147483654 ≤ ((h ((h 45 5) + 2) (1 + 7 * u3679))) := q3759
        refine x_const (np := 28) (x := 9223372039002259456) (a := 2147483648) (by decide +kernel) (by decide) (by decide) ?_
        refine x_retI (np := 29) (x := 0) (by decide +kernel) (by decide) (Or.inr ⟨by decide +kernel, by first | decide | omega, by first | decide | omega⟩) ⟨_, rfl, (by decide), ?_⟩
        refine x_ifz (k := 1) (tg := 51) (np := 49) (by decide +kernel) (by decide) (by decide) (fun q3761 => ?_) (fun q3762 => ?_)
        · have q3761 : 2147483648 ≠ 2147483648 := q3761
          exfalso; omega
        have q3762 : ¬ (2147483648 ≠ 2147483648) := q3762
        refine x_const (np := 50) (x := 9223372039002259456) (a := 2147483648) (by decide +kernel) (by decide) (by decide) ?_
        refine x_retI (np := 51) (x := 0) (by decide +kernel) (by decide) (Or.inr ⟨by decide +kernel, by first | decide | omega, by first | decide | omega⟩) ⟨_, rfl, (by decide), ?_⟩
        refine x_ifz (k := 0) (tg := 115) (np := 67) (by decide +kernel) (by decide) (by decide) (fun q3763 => ?_) (fun q3764 => ?_)
        · have q3763 : 2147483648 = 2147483648 := q3763
          refine x_iinc (np := 118) (i := 2) (j := 2147483649) (v := (1 + v3638)) (lo' := [x_r 45, iv_c a1, iv_c (1 + v3638), iv_c ((h ((h 45 5) + 2) (7 * u3679))), iv_c 2147483649]) (by decide +kernel) (by decide) (by decide) rfl (by first | decide | omega) (by first | decide | omega) (by first | decide | omega) rfl ?_
          refine x_goto (np := 121) (x := 2) (by decide +kernel) ?_
          exact i3647 (1 + v3638) (iv_c ((h ((h 45 5) + 2) (7 * u3679)))) (iv_c 2147483649) h3642 (by first | decide | omega) (by first | decide | omega) j3644 f3643
        have q3764 : ¬ (2147483648 = 2147483648) := q3764
        exfalso; omega
      have q3760 : ¬ (2147483654 ≤ ((h ((h 45 5) + 2) (1 + 7 * u3679)))) := q3760
      refine x_aload (np := 11) (x := 0) (by decide +kernel) rfl (x_nc_le (by decide)) ?_
      have q3765 : h3642 45 0 = 46 := by have z := jB (e := 0) 0 j3644 rg_45_0_0_1 (by decide) (by decide); omega
      refine x_getR (np := 14) (x := 64) (f := 0) (q := 46) (by decide +kernel) (by decide) (by decide +kernel) q3765 ?_
      refine x_iload (np := 15) (x := 1) (by decide +kernel) rfl l3739 ?_
      obtain ⟨u3766, q3767⟩ : ∃ z, ((h ((h 45 5) + 2) (1 + 7 * u3679))) = 2147483648 + z := ⟨((h ((h 45 5) + 2) (1 + 7 * u3679))) - 2147483648, by first | decide | omega⟩
      refine x_aldC (np := 16) (x := 0) (n := 6) (i := u3766) (q := (h3642 46 u3766)) (by decide +kernel) (by decide +kernel) (by first | decide | omega) (by first | decide | omega) (by decide) rfl (fun l3768 => ?_)
      refine x_iload (np := 17) (x := 2) (by decide +kernel) rfl la1 ?_
      refine x_cP (t := 7) (mj := 148) (n := 2) (rc := 0) (ml := 2) (nr := 0) (np := 20) (as := [iv_c (h3642 46 u3766), iv_c a1]) (rest := []) (lo1 := [iv_c (h3642 46 u3766), iv_c a1]) (by decide +kernel) (by decide) (by decide +kernel) (Or.inl rfl) rfl rfl (x_wi l3768 (x_wi la1 x_wn)) x_wn (by decide) rfl (c148 j3644 (by first | decide | omega) (by first | decide | omega)) (fun v3769 l3770 q3771 => ?_)
      refine x_ifz (k := 0) (tg := 27) (np := 23) (by decide +kernel) (by decide) l3770 (fun q3772 => ?_) (fun q3773 => ?_)
      · have q3772 : v3769 = 2147483648 := q3772
        refine x_const (np := 28) (x := 9223372039002259456) (a := 2147483648) (by decide +kernel) (by decide) (by decide) ?_
        refine x_retI (np := 29) (x := 0) (by decide +kernel) (by decide) (Or.inr ⟨by decide +kernel, by first | decide | omega, by first | decide | omega⟩) ⟨_, rfl, (by decide), ?_⟩
        refine x_ifz (k := 1) (tg := 51) (np := 49) (by decide +kernel) (by decide) (by decide) (fun q3774 => ?_) (fun q3775 => ?_)
        · have q3774 : 2147483648 ≠ 2147483648 := q3774
          exfalso; omega
        have q3775 : ¬ (2147483648 ≠ 2147483648) := q3775
        refine x_const (np := 50) (x := 9223372039002259456) (a := 2147483648) (by decide +kernel) (by decide) (by decide) ?_
        refine x_retI (np := 51) (x := 0) (by decide +kernel) (by decide) (Or.inr ⟨by decide +kernel, by first | decide | omega, by first | decide | omega⟩) ⟨_, rfl, (by decide), ?_⟩
        refine x_ifz (k := 0) (tg := 115) (np := 67) (by decide +kernel) (by decide) (by decide) (fun q3776 => ?_) (fun q3777 => ?_)
        · have q3776 : 2147483648 = 2147483648 := q3776
          refine x_iinc (np := 118) (i := 2) (j := 2147483649) (v := (1 + v3638)) (lo' := [x_r 45, iv_c a1, iv_c (1 + v3638), iv_c ((h ((h 45 5) + 2) (7 * u3679))), iv_c 2147483649]) (by decide +kernel) (by decide) (by decide) rfl (by first | decide | omega) (by first | decide | omega) (by first | decide | omega) rfl ?_
          refine x_goto (np := 121) (x := 2) (by decide +kernel) ?_
          exact i3647 (1 + v3638) (iv_c ((h ((h 45 5) + 2) (7 * u3679)))) (iv_c 2147483649) h3642 (by first | decide | omega) (by first | decide | omega) j3644 f3643
        have q3777 : ¬ (2147483648 = 2147483648) := q3777
        exfalso; omega
      have q3773 : ¬ (v3769 = 2147483648) := q3773
      refine x_const (np := 24) (x := 9223372043297226753) (a := 2147483649) (by decide +kernel) (by decide) (by decide) ?_
      refine x_goto (np := 27) (x := 28) (by decide +kernel) ?_
      refine x_retI (np := 29) (x := 0) (by decide +kernel) (by decide) (Or.inr ⟨by decide +kernel, by first | decide | omega, by first | decide | omega⟩) ⟨_, rfl, (by decide), ?_⟩
      refine x_ifz (k := 1) (tg := 51) (np := 49) (by decide +kernel) (by decide) (by decide) (fun q3778 => ?_) (fun q3779 => ?_)
      · have q3778 : 2147483649 ≠ 2147483648 := q3778
        refine x_aload (np := 52) (x := 0) (by decide +kernel) rfl (x_nc_le (by decide)) ?_
        refine x_iload (np := 53) (x := 2) (by decide +kernel) rfl l3684 ?_
        refine x_iload (np := 54) (x := 3) (by decide +kernel) rfl la1 ?_
        refine x_cP (t := 6) (mj := 29) (n := 3) (rc := 2) (ml := 3) (nr := 0) (np := 57) (as := [x_r 45, iv_c ((h ((h 45 5) + 2) (7 * u3679))), iv_c a1]) (rest := []) (lo1 := [x_r 45, iv_c ((h ((h 45 5) + 2) (7 * u3679))), iv_c a1]) (by decide +kernel) (by decide) (by decide +kernel) (x_rb_of (by decide +kernel)) rfl rfl (x_wr (by decide) (x_wi l3684 (x_wi la1 x_wn))) x_wn (by decide) rfl (c29_45 j3644  (by first | decide | omega) (by first | decide | omega)) (fun v3780 l3781 q3782 => ?_)
        refine x_ifz (k := 0) (tg := 78) (np := 60) (by decide +kernel) (by decide) l3781 (fun q3783 => ?_) (fun q3784 => ?_)
        · have q3783 : v3780 = 2147483648 := q3783
          refine x_const (np := 79) (x := 9223372039002259456) (a := 2147483648) (by decide +kernel) (by decide) (by decide) ?_
          refine x_retI (np := 80) (x := 0) (by decide +kernel) (by decide) (Or.inr ⟨by decide +kernel, by first | decide | omega, by first | decide | omega⟩) ⟨_, rfl, (by decide), ?_⟩
          refine x_ifz (k := 0) (tg := 115) (np := 67) (by decide +kernel) (by decide) (by decide) (fun q3785 => ?_) (fun q3786 => ?_)
          · have q3785 : 2147483648 = 2147483648 := q3785
            refine x_iinc (np := 118) (i := 2) (j := 2147483649) (v := (1 + v3638)) (lo' := [x_r 45, iv_c a1, iv_c (1 + v3638), iv_c ((h ((h 45 5) + 2) (7 * u3679))), iv_c 2147483649]) (by decide +kernel) (by decide) (by decide) rfl (by first | decide | omega) (by first | decide | omega) (by first | decide | omega) rfl ?_
            refine x_goto (np := 121) (x := 2) (by decide +kernel) ?_
            exact i3647 (1 + v3638) (iv_c ((h ((h 45 5) + 2) (7 * u3679)))) (iv_c 2147483649) h3642 (by first | decide | omega) (by first | decide | omega) j3644 f3643
          have q3786 : ¬ (2147483648 = 2147483648) := q3786
          exfalso; omega
        have q3784 : ¬ (v3780 = 2147483648) := q3784
        refine x_iload (np := 62) (x := 4) (by decide +kernel) rfl l3715 ?_
        refine x_iload (np := 63) (x := 2) (by decide +kernel) rfl l3684 ?_
        refine x_icmp (k := 0) (tg := 74) (np := 66) (by decide +kernel) (by decide) l3715 l3684 (fun q3787 => ?_) (fun q3788 => ?_)
        · have q3787 : v3714 = ((h ((h 45 5) + 2) (7 * u3679))) := q3787
          refine x_const (np := 75) (x := 9223372043297226753) (a := 2147483649) (by decide +kernel) (by decide) (by decide) ?_
          refine x_goto (np := 78) (x := 79) (by decide +kernel) ?_
          refine x_retI (np := 80) (x := 0) (by decide +kernel) (by decide) (Or.inr ⟨by decide +kernel, by first | decide | omega, by first | decide | omega⟩) ⟨_, rfl, (by decide), ?_⟩
          refine x_ifz (k := 0) (tg := 115) (np := 67) (by decide +kernel) (by decide) (by decide) (fun q3789 => ?_) (fun q3790 => ?_)
          · have q3789 : 2147483649 = 2147483648 := q3789
            exfalso; omega
          have q3790 : ¬ (2147483649 = 2147483648) := q3790
          refine x_aload (np := 68) (x := 0) (by decide +kernel) rfl (x_nc_le (by decide)) ?_
          refine x_iload (np := 69) (x := 2) (by decide +kernel) rfl (by first | decide | omega) ?_
          refine x_iload (np := 70) (x := 3) (by decide +kernel) rfl l3684 ?_
          refine x_iload (np := 71) (x := 1) (by decide +kernel) rfl la1 ?_
          refine x_cI (t := 6) (mj := 24) (n := 4) (rc := 2) (ml := 6) (nr := 0) (np := 74) (as := [x_r 45, iv_c v3638, iv_c ((h ((h 45 5) + 2) (7 * u3679))), iv_c a1]) (rest := []) (lo1 := [x_r 45, iv_c v3638, iv_c ((h ((h 45 5) + 2) (7 * u3679))), iv_c a1, 147573952589676412928, 147573952589676412928]) (by decide +kernel) (by decide) (by decide +kernel) (x_rb_of (by decide +kernel)) rfl rfl (x_wr (by decide) (x_wi (by first | decide | omega) (x_wi l3684 (x_wi la1 x_wn)))) x_wn (by decide) rfl (c24_45 j3644  (by first | decide | omega) (by first | decide | omega) (by first | decide | omega)) (fun v3791 h3794 l3792 q3793 => ?_)
          obtain ⟨j3795, f3796, b3797⟩ := q3793
          have f3798 := Fr.trans f3648 f3796 (by decide)
          have f3799 := Fr.trans f3643 f3796 (by decide)
          refine x_ifz (k := 0) (tg := 115) (np := 77) (by decide +kernel) (by decide) l3792 (fun q3800 => ?_) (fun q3801 => ?_)
          · have q3800 : v3791 = 2147483648 := q3800
            refine x_iinc (np := 118) (i := 2) (j := 2147483649) (v := (1 + v3638)) (lo' := [x_r 45, iv_c a1, iv_c (1 + v3638), iv_c ((h ((h 45 5) + 2) (7 * u3679))), iv_c 2147483649]) (by decide +kernel) (by decide) (by decide) rfl (by first | decide | omega) (by first | decide | omega) (by first | decide | omega) rfl ?_
            refine x_goto (np := 121) (x := 2) (by decide +kernel) ?_
            exact i3647 (1 + v3638) (iv_c ((h ((h 45 5) + 2) (7 * u3679)))) (iv_c 2147483649) h3794 (by first | decide | omega) (by first | decide | omega) j3795 f3799
          have q3801 : ¬ (v3791 = 2147483648) := q3801
          refine x_aload (np := 78) (x := 0) (by decide +kernel) rfl (x_nc_le (by decide)) ?_
          have q3802 : h3794 45 2 = 48 := by have z := jB (e := 2) 0 j3795 rg_45_2_0_1 (by decide) (by decide); omega
          refine x_getR (np := 81) (x := 66) (f := 2) (q := 48) (by decide +kernel) (by decide) (by decide +kernel) q3802 ?_
          refine x_iload (np := 82) (x := 2) (by decide +kernel) rfl (by first | decide | omega) ?_
          refine x_aload (np := 83) (x := 0) (by decide +kernel) rfl (x_nc_le (by decide)) ?_
          refine x_iload (np := 84) (x := 3) (by decide +kernel) rfl l3684 ?_
          refine x_cP (t := 6) (mj := 32) (n := 2) (rc := 2) (ml := 2) (nr := 2) (np := 87) (as := [x_r 45, iv_c ((h ((h 45 5) + 2) (7 * u3679)))]) (rest := [iv_c v3638, x_r 48]) (lo1 := [x_r 45, iv_c ((h ((h 45 5) + 2) (7 * u3679)))]) (by decide +kernel) (by decide) (by decide +kernel) (x_rb_of (by decide +kernel)) rfl rfl (x_wr (by decide) (x_wi l3684 x_wn)) (x_wi (by first | decide | omega) (x_wr (by decide) x_wn)) (by decide) rfl (c32_45 j3795  (by first | decide | omega)) (fun v3803 l3804 q3805 => ?_)
          refine x_ast (np := 88) (x := 0) (kd := 1) (n := 20) (i := u3679) (by decide +kernel) (Or.inl rfl) (by decide +kernel) (by first | decide | omega) (by first | decide | omega) (by decide) l3804 (fun z => absurd z (by decide)) ?_
          have j3807 := jU (e := u3679) (v := v3803) u3679 j3795 rg_48_0_1_20 (by first | decide | omega) (by first | decide | omega) (by first | decide | omega)
          have f3809 := jF (e := u3679) (v := v3803) u3679 f3798 rg_48_0_1_20 (by first | decide | omega) (by first | decide | omega) (by decide)
          have f3810 := jF (e := u3679) (v := v3803) u3679 f3799 rg_48_0_1_20 (by first | decide | omega) (by first | decide | omega) (by decide)
          generalize e3808 : x_up h3794 48 u3679 v3803 = h3806 at j3807 f3809 f3810 ⊢
          refine x_aload (np := 89) (x := 0) (by decide +kernel) rfl (x_nc_le (by decide)) ?_
          have q3811 : h3806 45 11 = 56 := by have z := jB (e := 11) 0 j3807 rg_45_11_0_1 (by decide) (by decide); omega
          refine x_getR (np := 92) (x := 75) (f := 11) (q := 56) (by decide +kernel) (by decide) (by decide +kernel) q3811 ?_
          refine x_iload (np := 93) (x := 3) (by decide +kernel) rfl l3684 ?_
          refine x_const (np := 95) (x := 9223372124901605396) (a := 2147483668) (by decide +kernel) (by decide) (by decide) ?_
          refine x_imul (np := 96) (x := 0) (i := u3741) (j := 20) (v := (2147483648 + 20 * u3741)) (by decide +kernel) (by first | decide | omega) (by first | decide | omega) (by first | decide | omega) (by first | decide | omega) l3684 (by decide) ?_
          refine x_aload (np := 97) (x := 0) (by decide +kernel) rfl (x_nc_le (by decide)) ?_
          have q3813 : h3806 45 12 = 57 := by have z := jB (e := 12) 0 j3807 rg_45_12_0_1 (by decide) (by decide); omega
          refine x_getR (np := 100) (x := 76) (f := 12) (q := 57) (by decide +kernel) (by decide) (by decide +kernel) q3813 ?_
          refine x_iload (np := 101) (x := 3) (by decide +kernel) rfl l3684 ?_
          have q3814 : h3806 57 u3741 = h3794 57 u3741 := by rw [← e3808]; exact x_up_k (by decide)
          have q3815 : h3794 57 u3741 = h3642 57 u3741 := jK u3741 f3796 rg_57_0_1_6 (by first | decide | omega) (by first | decide | omega) (by decide)
          refine x_aldC (np := 102) (x := 0) (n := 6) (i := u3741) (q := (h3642 57 u3741)) (by decide +kernel) (by decide +kernel) (by first | decide | omega) (by first | decide | omega) (by decide) (q3814.trans q3815) (fun l3816 => ?_)
          refine x_iadd (np := 103) (x := 0) (v := (20 * u3741 + (h3642 57 u3741))) (by decide +kernel) (by first | decide | omega) l3744 (by first | decide | omega) (by first | decide | omega) ?_
          refine x_iload (np := 104) (x := 2) (by decide +kernel) rfl (by first | decide | omega) ?_
          obtain ⟨u3817, q3818⟩ : ∃ z, (h3642 57 u3741) = 2147483648 + z := ⟨(h3642 57 u3741) - 2147483648, by first | decide | omega⟩
          refine x_ast (np := 105) (x := 0) (kd := 1) (n := 120) (i := (20 * u3741 + u3817)) (by decide +kernel) (Or.inl rfl) (by decide +kernel) (by first | decide | omega) (by first | decide | omega) (by decide) (by first | decide | omega) (fun z => absurd z (by decide)) ?_
          have j3820 := jU (e := (20 * u3741 + u3817)) (v := v3638) (20 * u3741 + u3817) j3807 rg_56_0_1_120 (by first | decide | omega) (by first | decide | omega) (by first | decide | omega)
          have f3822 := jF (e := (20 * u3741 + u3817)) (v := v3638) (20 * u3741 + u3817) f3809 rg_56_0_1_120 (by first | decide | omega) (by first | decide | omega) (by decide)
          have f3823 := jF (e := (20 * u3741 + u3817)) (v := v3638) (20 * u3741 + u3817) f3810 rg_56_0_1_120 (by first | decide | omega) (by first | decide | omega) (by decide)
          generalize e3821 : x_up h3806 56 (20 * u3741 + u3817) v3638 = h3819 at j3820 f3822 f3823 ⊢
          refine x_aload (np := 106) (x := 0) (by decide +kernel) rfl (x_nc_le (by decide)) ?_
          have q3824 : h3819 45 12 = 57 := by have z := jB (e := 12) 0 j3820 rg_45_12_0_1 (by decide) (by decide); omega
          refine x_getR (np := 109) (x := 76) (f := 12) (q := 57) (by decide +kernel) (by decide) (by decide +kernel) q3824 ?_
          refine x_iload (np := 110) (x := 3) (by decide +kernel) rfl l3684 ?_
          refine x_dup2 (np := 111) (x := 0) (by decide +kernel) (by have z := (iw_c_lt (a := ((h ((h 45 5) + 2) (7 * u3679)))) l3684).1; omega) (by have z := x_nc_le (k := 57) (by decide); unfold x_r; omega) ?_
          have q3825 : h3819 57 u3741 = h3806 57 u3741 := by rw [← e3821]; exact x_up_k (by decide)
          have q3826 : h3806 57 u3741 = h3794 57 u3741 := by rw [← e3808]; exact x_up_k (by decide)
          have q3827 : h3794 57 u3741 = h3642 57 u3741 := jK u3741 f3796 rg_57_0_1_6 (by first | decide | omega) (by first | decide | omega) (by decide)
          refine x_aldC (np := 112) (x := 0) (n := 6) (i := u3741) (q := (h3642 57 u3741)) (by decide +kernel) (by decide +kernel) (by first | decide | omega) (by first | decide | omega) (by decide) ((q3825.trans q3826).trans q3827) (fun l3828 => ?_)
          refine x_const (np := 113) (x := 9223372043297226753) (a := 2147483649) (by decide +kernel) (by decide) (by decide) ?_
          refine x_iadd (np := 114) (x := 0) (v := (1 + (h3642 57 u3741))) (by decide +kernel) l3744 (by decide) (by first | decide | omega) (by first | decide | omega) ?_
          refine x_ast (np := 115) (x := 0) (kd := 1) (n := 6) (i := u3741) (by decide +kernel) (Or.inl rfl) (by decide +kernel) (by first | decide | omega) (by first | decide | omega) (by decide) (by first | decide | omega) (fun z => absurd z (by decide)) ?_
          have j3830 := jU (e := u3741) (v := (1 + (h3642 57 u3741))) u3741 j3820 rg_57_0_1_6 (by first | decide | omega) (by first | decide | omega) (by first | decide | omega)
          have f3832 := jF (e := u3741) (v := (1 + (h3642 57 u3741))) u3741 f3822 rg_57_0_1_6 (by first | decide | omega) (by first | decide | omega) (by decide)
          have f3833 := jF (e := u3741) (v := (1 + (h3642 57 u3741))) u3741 f3823 rg_57_0_1_6 (by first | decide | omega) (by first | decide | omega) (by decide)
          generalize e3831 : x_up h3819 57 u3741 (1 + (h3642 57 u3741)) = h3829 at j3830 f3832 f3833 ⊢
          refine x_iinc (np := 118) (i := 2) (j := 2147483649) (v := (1 + v3638)) (lo' := [x_r 45, iv_c a1, iv_c (1 + v3638), iv_c ((h ((h 45 5) + 2) (7 * u3679))), iv_c 2147483649]) (by decide +kernel) (by decide) (by decide) rfl (by first | decide | omega) (by first | decide | omega) (by first | decide | omega) rfl ?_
          refine x_goto (np := 121) (x := 2) (by decide +kernel) ?_
          exact i3647 (1 + v3638) (iv_c ((h ((h 45 5) + 2) (7 * u3679)))) (iv_c 2147483649) h3829 (by first | decide | omega) (by first | decide | omega) j3830 f3833
        have q3788 : ¬ (v3714 = ((h ((h 45 5) + 2) (7 * u3679)))) := q3788
        refine x_aload (np := 67) (x := 0) (by decide +kernel) rfl (x_nc_le (by decide)) ?_
        refine x_iload (np := 68) (x := 2) (by decide +kernel) rfl l3684 ?_
        refine x_cP (t := 6) (mj := 23) (n := 2) (rc := 2) (ml := 2) (nr := 0) (np := 71) (as := [x_r 45, iv_c ((h ((h 45 5) + 2) (7 * u3679)))]) (rest := []) (lo1 := [x_r 45, iv_c ((h ((h 45 5) + 2) (7 * u3679)))]) (by decide +kernel) (by decide) (by decide +kernel) (x_rb_of (by decide +kernel)) rfl rfl (x_wr (by decide) (x_wi l3684 x_wn)) x_wn (by decide) rfl (c23_45 j3644  (by first | decide | omega)) (fun v3834 l3835 q3836 => ?_)
        refine x_ifz (k := 0) (tg := 78) (np := 74) (by decide +kernel) (by decide) l3835 (fun q3837 => ?_) (fun q3838 => ?_)
        · have q3837 : v3834 = 2147483648 := q3837
          refine x_const (np := 79) (x := 9223372039002259456) (a := 2147483648) (by decide +kernel) (by decide) (by decide) ?_
          refine x_retI (np := 80) (x := 0) (by decide +kernel) (by decide) (Or.inr ⟨by decide +kernel, by first | decide | omega, by first | decide | omega⟩) ⟨_, rfl, (by decide), ?_⟩
          refine x_ifz (k := 0) (tg := 115) (np := 67) (by decide +kernel) (by decide) (by decide) (fun q3839 => ?_) (fun q3840 => ?_)
          · have q3839 : 2147483648 = 2147483648 := q3839
            refine x_iinc (np := 118) (i := 2) (j := 2147483649) (v := (1 + v3638)) (lo' := [x_r 45, iv_c a1, iv_c (1 + v3638), iv_c ((h ((h 45 5) + 2) (7 * u3679))), iv_c 2147483649]) (by decide +kernel) (by decide) (by decide) rfl (by first | decide | omega) (by first | decide | omega) (by first | decide | omega) rfl ?_
            refine x_goto (np := 121) (x := 2) (by decide +kernel) ?_
            exact i3647 (1 + v3638) (iv_c ((h ((h 45 5) + 2) (7 * u3679)))) (iv_c 2147483649) h3642 (by first | decide | omega) (by first | decide | omega) j3644 f3643
          have q3840 : ¬ (2147483648 = 2147483648) := q3840
          exfalso; omega
        have q3838 : ¬ (v3834 = 2147483648) := q3838
        refine x_const (np := 75) (x := 9223372043297226753) (a := 2147483649) (by decide +kernel) (by decide) (by decide) ?_
        refine x_goto (np := 78) (x := 79) (by decide +kernel) ?_
        refine x_retI (np := 80) (x := 0) (by decide +kernel) (by decide) (Or.inr ⟨by decide +kernel, by first | decide | omega, by first | decide | omega⟩) ⟨_, rfl, (by decide), ?_⟩
        refine x_ifz (k := 0) (tg := 115) (np := 67) (by decide +kernel) (by decide) (by decide) (fun q3841 => ?_) (fun q3842 => ?_)
        · have q3841 : 2147483649 = 2147483648 := q3841
          exfalso; omega
        have q3842 : ¬ (2147483649 = 2147483648) := q3842
        refine x_aload (np := 68) (x := 0) (by decide +kernel) rfl (x_nc_le (by decide)) ?_
        refine x_iload (np := 69) (x := 2) (by decide +kernel) rfl (by first | decide | omega) ?_
        refine x_iload (np := 70) (x := 3) (by decide +kernel) rfl l3684 ?_
        refine x_iload (np := 71) (x := 1) (by decide +kernel) rfl la1 ?_
        refine x_cI (t := 6) (mj := 24) (n := 4) (rc := 2) (ml := 6) (nr := 0) (np := 74) (as := [x_r 45, iv_c v3638, iv_c ((h ((h 45 5) + 2) (7 * u3679))), iv_c a1]) (rest := []) (lo1 := [x_r 45, iv_c v3638, iv_c ((h ((h 45 5) + 2) (7 * u3679))), iv_c a1, 147573952589676412928, 147573952589676412928]) (by decide +kernel) (by decide) (by decide +kernel) (x_rb_of (by decide +kernel)) rfl rfl (x_wr (by decide) (x_wi (by first | decide | omega) (x_wi l3684 (x_wi la1 x_wn)))) x_wn (by decide) rfl (c24_45 j3644  (by first | decide | omega) (by first | decide | omega) (by first | decide | omega)) (fun v3843 h3846 l3844 q3845 => ?_)
        obtain ⟨j3847, f3848, b3849⟩ := q3845
        have f3850 := Fr.trans f3648 f3848 (by decide)
        have f3851 := Fr.trans f3643 f3848 (by decide)
        refine x_ifz (k := 0) (tg := 115) (np := 77) (by decide +kernel) (by decide) l3844 (fun q3852 => ?_) (fun q3853 => ?_)
        · have q3852 : v3843 = 2147483648 := q3852
          refine x_iinc (np := 118) (i := 2) (j := 2147483649) (v := (1 + v3638)) (lo' := [x_r 45, iv_c a1, iv_c (1 + v3638), iv_c ((h ((h 45 5) + 2) (7 * u3679))), iv_c 2147483649]) (by decide +kernel) (by decide) (by decide) rfl (by first | decide | omega) (by first | decide | omega) (by first | decide | omega) rfl ?_
          refine x_goto (np := 121) (x := 2) (by decide +kernel) ?_
          exact i3647 (1 + v3638) (iv_c ((h ((h 45 5) + 2) (7 * u3679)))) (iv_c 2147483649) h3846 (by first | decide | omega) (by first | decide | omega) j3847 f3851
        have q3853 : ¬ (v3843 = 2147483648) := q3853
        refine x_aload (np := 78) (x := 0) (by decide +kernel) rfl (x_nc_le (by decide)) ?_
        have q3854 : h3846 45 2 = 48 := by have z := jB (e := 2) 0 j3847 rg_45_2_0_1 (by decide) (by decide); omega
        refine x_getR (np := 81) (x := 66) (f := 2) (q := 48) (by decide +kernel) (by decide) (by decide +kernel) q3854 ?_
        refine x_iload (np := 82) (x := 2) (by decide +kernel) rfl (by first | decide | omega) ?_
        refine x_aload (np := 83) (x := 0) (by decide +kernel) rfl (x_nc_le (by decide)) ?_
        refine x_iload (np := 84) (x := 3) (by decide +kernel) rfl l3684 ?_
        refine x_cP (t := 6) (mj := 32) (n := 2) (rc := 2) (ml := 2) (nr := 2) (np := 87) (as := [x_r 45, iv_c ((h ((h 45 5) + 2) (7 * u3679)))]) (rest := [iv_c v3638, x_r 48]) (lo1 := [x_r 45, iv_c ((h ((h 45 5) + 2) (7 * u3679)))]) (by decide +kernel) (by decide) (by decide +kernel) (x_rb_of (by decide +kernel)) rfl rfl (x_wr (by decide) (x_wi l3684 x_wn)) (x_wi (by first | decide | omega) (x_wr (by decide) x_wn)) (by decide) rfl (c32_45 j3847  (by first | decide | omega)) (fun v3855 l3856 q3857 => ?_)
        refine x_ast (np := 88) (x := 0) (kd := 1) (n := 20) (i := u3679) (by decide +kernel) (Or.inl rfl) (by decide +kernel) (by first | decide | omega) (by first | decide | omega) (by decide) l3856 (fun z => absurd z (by decide)) ?_
        have j3859 := jU (e := u3679) (v := v3855) u3679 j3847 rg_48_0_1_20 (by first | decide | omega) (by first | decide | omega) (by first | decide | omega)
        have f3861 := jF (e := u3679) (v := v3855) u3679 f3850 rg_48_0_1_20 (by first | decide | omega) (by first | decide | omega) (by decide)
        have f3862 := jF (e := u3679) (v := v3855) u3679 f3851 rg_48_0_1_20 (by first | decide | omega) (by first | decide | omega) (by decide)
        generalize e3860 : x_up h3846 48 u3679 v3855 = h3858 at j3859 f3861 f3862 ⊢
        refine x_aload (np := 89) (x := 0) (by decide +kernel) rfl (x_nc_le (by decide)) ?_
        have q3863 : h3858 45 11 = 56 := by have z := jB (e := 11) 0 j3859 rg_45_11_0_1 (by decide) (by decide); omega
        refine x_getR (np := 92) (x := 75) (f := 11) (q := 56) (by decide +kernel) (by decide) (by decide +kernel) q3863 ?_
        refine x_iload (np := 93) (x := 3) (by decide +kernel) rfl l3684 ?_
        refine x_const (np := 95) (x := 9223372124901605396) (a := 2147483668) (by decide +kernel) (by decide) (by decide) ?_
        refine x_imul (np := 96) (x := 0) (i := u3741) (j := 20) (v := (2147483648 + 20 * u3741)) (by decide +kernel) (by first | decide | omega) (by first | decide | omega) (by first | decide | omega) (by first | decide | omega) l3684 (by decide) ?_
        refine x_aload (np := 97) (x := 0) (by decide +kernel) rfl (x_nc_le (by decide)) ?_
        have q3865 : h3858 45 12 = 57 := by have z := jB (e := 12) 0 j3859 rg_45_12_0_1 (by decide) (by decide); omega
        refine x_getR (np := 100) (x := 76) (f := 12) (q := 57) (by decide +kernel) (by decide) (by decide +kernel) q3865 ?_
        refine x_iload (np := 101) (x := 3) (by decide +kernel) rfl l3684 ?_
        have q3866 : h3858 57 u3741 = h3846 57 u3741 := by rw [← e3860]; exact x_up_k (by decide)
        have q3867 : h3846 57 u3741 = h3642 57 u3741 := jK u3741 f3848 rg_57_0_1_6 (by first | decide | omega) (by first | decide | omega) (by decide)
        refine x_aldC (np := 102) (x := 0) (n := 6) (i := u3741) (q := (h3642 57 u3741)) (by decide +kernel) (by decide +kernel) (by first | decide | omega) (by first | decide | omega) (by decide) (q3866.trans q3867) (fun l3868 => ?_)
        refine x_iadd (np := 103) (x := 0) (v := (20 * u3741 + (h3642 57 u3741))) (by decide +kernel) (by first | decide | omega) l3744 (by first | decide | omega) (by first | decide | omega) ?_
        refine x_iload (np := 104) (x := 2) (by decide +kernel) rfl (by first | decide | omega) ?_
        obtain ⟨u3869, q3870⟩ : ∃ z, (h3642 57 u3741) = 2147483648 + z := ⟨(h3642 57 u3741) - 2147483648, by first | decide | omega⟩
        refine x_ast (np := 105) (x := 0) (kd := 1) (n := 120) (i := (20 * u3741 + u3869)) (by decide +kernel) (Or.inl rfl) (by decide +kernel) (by first | decide | omega) (by first | decide | omega) (by decide) (by first | decide | omega) (fun z => absurd z (by decide)) ?_
        have j3872 := jU (e := (20 * u3741 + u3869)) (v := v3638) (20 * u3741 + u3869) j3859 rg_56_0_1_120 (by first | decide | omega) (by first | decide | omega) (by first | decide | omega)
        have f3874 := jF (e := (20 * u3741 + u3869)) (v := v3638) (20 * u3741 + u3869) f3861 rg_56_0_1_120 (by first | decide | omega) (by first | decide | omega) (by decide)
        have f3875 := jF (e := (20 * u3741 + u3869)) (v := v3638) (20 * u3741 + u3869) f3862 rg_56_0_1_120 (by first | decide | omega) (by first | decide | omega) (by decide)
        generalize e3873 : x_up h3858 56 (20 * u3741 + u3869) v3638 = h3871 at j3872 f3874 f3875 ⊢
        refine x_aload (np := 106) (x := 0) (by decide +kernel) rfl (x_nc_le (by decide)) ?_
        have q3876 : h3871 45 12 = 57 := by have z := jB (e := 12) 0 j3872 rg_45_12_0_1 (by decide) (by decide); omega
        refine x_getR (np := 109) (x := 76) (f := 12) (q := 57) (by decide +kernel) (by decide) (by decide +kernel) q3876 ?_
        refine x_iload (np := 110) (x := 3) (by decide +kernel) rfl l3684 ?_
        refine x_dup2 (np := 111) (x := 0) (by decide +kernel) (by have z := (iw_c_lt (a := ((h ((h 45 5) + 2) (7 * u3679)))) l3684).1; omega) (by have z := x_nc_le (k := 57) (by decide); unfold x_r; omega) ?_
        have q3877 : h3871 57 u3741 = h3858 57 u3741 := by rw [← e3873]; exact x_up_k (by decide)
        have q3878 : h3858 57 u3741 = h3846 57 u3741 := by rw [← e3860]; exact x_up_k (by decide)
        have q3879 : h3846 57 u3741 = h3642 57 u3741 := jK u3741 f3848 rg_57_0_1_6 (by first | decide | omega) (by first | decide | omega) (by decide)
        refine x_aldC (np := 112) (x := 0) (n := 6) (i := u3741) (q := (h3642 57 u3741)) (by decide +kernel) (by decide +kernel) (by first | decide | omega) (by first | decide | omega) (by decide) ((q3877.trans q3878).trans q3879) (fun l3880 => ?_)
        refine x_const (np := 113) (x := 9223372043297226753) (a := 2147483649) (by decide +kernel) (by decide) (by decide) ?_
        refine x_iadd (np := 114) (x := 0) (v := (1 + (h3642 57 u3741))) (by decide +kernel) l3744 (by decide) (by first | decide | omega) (by first | decide | omega) ?_
        refine x_ast (np := 115) (x := 0) (kd := 1) (n := 6) (i := u3741) (by decide +kernel) (Or.inl rfl) (by decide +kernel) (by first | decide | omega) (by first | decide | omega) (by decide) (by first | decide | omega) (fun z => absurd z (by decide)) ?_
        have j3882 := jU (e := u3741) (v := (1 + (h3642 57 u3741))) u3741 j3872 rg_57_0_1_6 (by first | decide | omega) (by first | decide | omega) (by first | decide | omega)
        have f3884 := jF (e := u3741) (v := (1 + (h3642 57 u3741))) u3741 f3874 rg_57_0_1_6 (by first | decide | omega) (by first | decide | omega) (by decide)
        have f3885 := jF (e := u3741) (v := (1 + (h3642 57 u3741))) u3741 f3875 rg_57_0_1_6 (by first | decide | omega) (by first | decide | omega) (by decide)
        generalize e3883 : x_up h3871 57 u3741 (1 + (h3642 57 u3741)) = h3881 at j3882 f3884 f3885 ⊢
        refine x_iinc (np := 118) (i := 2) (j := 2147483649) (v := (1 + v3638)) (lo' := [x_r 45, iv_c a1, iv_c (1 + v3638), iv_c ((h ((h 45 5) + 2) (7 * u3679))), iv_c 2147483649]) (by decide +kernel) (by decide) (by decide) rfl (by first | decide | omega) (by first | decide | omega) (by first | decide | omega) rfl ?_
        refine x_goto (np := 121) (x := 2) (by decide +kernel) ?_
        exact i3647 (1 + v3638) (iv_c ((h ((h 45 5) + 2) (7 * u3679)))) (iv_c 2147483649) h3881 (by first | decide | omega) (by first | decide | omega) j3882 f3885
      have q3779 : ¬ (2147483649 ≠ 2147483648) := q3779
      exfalso; omega
  exact p3645 _ 2147483648 147573952589676412928 147573952589676412928 h (Nat.lt_succ_self _) (by first | decide | omega) hJ (Fr.refl _ _)
set_option maxHeartbeats 0 in
/-- LentNames$Calendar.stateNow(II)I -/
theorem c28_45 {sc : Nat × Nat} {d a1 a2 : Nat} {h : xh} (hJ : J h) (ba1 : 2147483648 ≤ a1 ∧ a1 ≤ 2147483653) (ba2 : 2147483648 ≤ a2 ∧ a2 ≤ 2147483659) : X sc 28 (d + 2) (xI fun r h' => h' = h ∧ (2147483648 ≤ r ∧ r ≤ 2147483651)) 0 0 0 [x_r 45, iv_c a1, iv_c a2] [] h := by
  have la1 : a1 < 4294967296 := by first | decide | omega
  have la2 : a2 < 4294967296 := by first | decide | omega
  refine x_aload (np := 1) (x := 0) (by decide +kernel) rfl (x_nc_le (by decide)) ?_
  refine x_aload (np := 2) (x := 0) (by decide +kernel) rfl (x_nc_le (by decide)) ?_
  refine x_iload (np := 3) (x := 1) (by decide +kernel) rfl la1 ?_
  refine x_cP (t := 6) (mj := 32) (n := 2) (rc := 2) (ml := 2) (nr := 1) (np := 6) (as := [x_r 45, iv_c a1]) (rest := [x_r 45]) (lo1 := [x_r 45, iv_c a1]) (by decide +kernel) (by decide) (by decide +kernel) (x_rb_of (by decide +kernel)) rfl rfl (x_wr (by decide) (x_wi la1 x_wn)) (x_wr (by decide) x_wn) (by decide) rfl (c32_45 hJ  (by first | decide | omega)) (fun v1 l2 q3 => ?_)
  refine x_iload (np := 7) (x := 2) (by decide +kernel) rfl la2 ?_
  refine x_nI (t := 6) (mj := 31) (n := 3) (rc := 2) (ml := 3) (nr := 0) (np := 10) (as := [x_r 45, iv_c v1, iv_c a2]) (rest := []) (lo1 := [x_r 45, iv_c v1, iv_c a2]) (by decide +kernel) (by decide) (by decide +kernel) (x_rb_of (by decide +kernel)) rfl rfl (x_wr (by decide) (x_wi l2 (x_wi la2 x_wn))) x_wn (by decide) rfl ?_
  refine x_iload (np := 1) (x := 1) (by decide +kernel) rfl l2 ?_
  refine x_ifz (k := 2) (tg := 27) (np := 4) (by decide +kernel) (by decide) l2 (fun q4 => ?_) (fun q5 => ?_)
  · have q4 : v1 < 2147483648 := q4
    refine x_const (np := 28) (x := 9223372039002259456) (a := 2147483648) (by decide +kernel) (by decide) (by decide) ?_
    refine x_retI (np := 29) (x := 0) (by decide +kernel) (by decide) (Or.inr ⟨by decide +kernel, by first | decide | omega, by first | decide | omega⟩) ⟨_, rfl, (by decide), ?_⟩
    refine x_ifz (k := 1) (tg := 15) (np := 13) (by decide +kernel) (by decide) (by decide) (fun q6 => ?_) (fun q7 => ?_)
    · have q6 : 2147483648 ≠ 2147483648 := q6
      exfalso; omega
    have q7 : ¬ (2147483648 ≠ 2147483648) := q7
    refine x_const (np := 14) (x := 9223372051887161347) (a := 2147483651) (by decide +kernel) (by decide) (by decide) ?_
    refine x_retI (np := 15) (x := 0) (by decide +kernel) (by decide) (Or.inl (by decide +kernel)) ⟨_, rfl, (by decide), ?_⟩
    exact ⟨rfl, (by first | decide | omega)⟩
  have q5 : ¬ (v1 < 2147483648) := q5
  refine x_iload (np := 5) (x := 1) (by decide +kernel) rfl l2 ?_
  refine x_const (np := 7) (x := 9223372064772063238) (a := 2147483654) (by decide +kernel) (by decide) (by decide) ?_
  refine x_icmp (k := 3) (tg := 27) (np := 10) (by decide +kernel) (by decide) l2 (by decide) (fun q8 => ?_) (fun q9 => ?_)
  · have q8 : 2147483654 ≤ v1 := q8
    refine x_const (np := 28) (x := 9223372039002259456) (a := 2147483648) (by decide +kernel) (by decide) (by decide) ?_
    refine x_retI (np := 29) (x := 0) (by decide +kernel) (by decide) (Or.inr ⟨by decide +kernel, by first | decide | omega, by first | decide | omega⟩) ⟨_, rfl, (by decide), ?_⟩
    refine x_ifz (k := 1) (tg := 15) (np := 13) (by decide +kernel) (by decide) (by decide) (fun q10 => ?_) (fun q11 => ?_)
    · have q10 : 2147483648 ≠ 2147483648 := q10
      exfalso; omega
    have q11 : ¬ (2147483648 ≠ 2147483648) := q11
    refine x_const (np := 14) (x := 9223372051887161347) (a := 2147483651) (by decide +kernel) (by decide) (by decide) ?_
    refine x_retI (np := 15) (x := 0) (by decide +kernel) (by decide) (Or.inl (by decide +kernel)) ⟨_, rfl, (by decide), ?_⟩
    exact ⟨rfl, (by first | decide | omega)⟩
  have q9 : ¬ (2147483654 ≤ v1) := q9
  refine x_aload (np := 11) (x := 0) (by decide +kernel) rfl (x_nc_le (by decide)) ?_
  have q12 : h 45 0 = 46 := by have z := jB (e := 0) 0 hJ rg_45_0_0_1 (by decide) (by decide); omega
  refine x_getR (np := 14) (x := 64) (f := 0) (q := 46) (by decide +kernel) (by decide) (by decide +kernel) q12 ?_
  refine x_iload (np := 15) (x := 1) (by decide +kernel) rfl l2 ?_
  obtain ⟨u13, q14⟩ : ∃ z, v1 = 2147483648 + z := ⟨v1 - 2147483648, by first | decide | omega⟩
  refine x_aldC (np := 16) (x := 0) (n := 6) (i := u13) (q := (h 46 u13)) (by decide +kernel) (by decide +kernel) (by first | decide | omega) (by first | decide | omega) (by decide) rfl (fun l15 => ?_)
  refine x_iload (np := 17) (x := 2) (by decide +kernel) rfl la2 ?_
  refine x_cP (t := 7) (mj := 148) (n := 2) (rc := 0) (ml := 2) (nr := 0) (np := 20) (as := [iv_c (h 46 u13), iv_c a2]) (rest := []) (lo1 := [iv_c (h 46 u13), iv_c a2]) (by decide +kernel) (by decide) (by decide +kernel) (Or.inl rfl) rfl rfl (x_wi l15 (x_wi la2 x_wn)) x_wn (by decide) rfl (c148 hJ (by first | decide | omega) (by first | decide | omega)) (fun v16 l17 q18 => ?_)
  refine x_ifz (k := 0) (tg := 27) (np := 23) (by decide +kernel) (by decide) l17 (fun q19 => ?_) (fun q20 => ?_)
  · have q19 : v16 = 2147483648 := q19
    refine x_const (np := 28) (x := 9223372039002259456) (a := 2147483648) (by decide +kernel) (by decide) (by decide) ?_
    refine x_retI (np := 29) (x := 0) (by decide +kernel) (by decide) (Or.inr ⟨by decide +kernel, by first | decide | omega, by first | decide | omega⟩) ⟨_, rfl, (by decide), ?_⟩
    refine x_ifz (k := 1) (tg := 15) (np := 13) (by decide +kernel) (by decide) (by decide) (fun q21 => ?_) (fun q22 => ?_)
    · have q21 : 2147483648 ≠ 2147483648 := q21
      exfalso; omega
    have q22 : ¬ (2147483648 ≠ 2147483648) := q22
    refine x_const (np := 14) (x := 9223372051887161347) (a := 2147483651) (by decide +kernel) (by decide) (by decide) ?_
    refine x_retI (np := 15) (x := 0) (by decide +kernel) (by decide) (Or.inl (by decide +kernel)) ⟨_, rfl, (by decide), ?_⟩
    exact ⟨rfl, (by first | decide | omega)⟩
  have q20 : ¬ (v16 = 2147483648) := q20
  refine x_const (np := 24) (x := 9223372043297226753) (a := 2147483649) (by decide +kernel) (by decide) (by decide) ?_
  refine x_goto (np := 27) (x := 28) (by decide +kernel) ?_
  refine x_retI (np := 29) (x := 0) (by decide +kernel) (by decide) (Or.inr ⟨by decide +kernel, by first | decide | omega, by first | decide | omega⟩) ⟨_, rfl, (by decide), ?_⟩
  refine x_ifz (k := 1) (tg := 15) (np := 13) (by decide +kernel) (by decide) (by decide) (fun q23 => ?_) (fun q24 => ?_)
  · have q23 : 2147483649 ≠ 2147483648 := q23
    refine x_aload (np := 16) (x := 0) (by decide +kernel) rfl (x_nc_le (by decide)) ?_
    have q25 : h 45 12 = 57 := by have z := jB (e := 12) 0 hJ rg_45_12_0_1 (by decide) (by decide); omega
    refine x_getR (np := 19) (x := 76) (f := 12) (q := 57) (by decide +kernel) (by decide) (by decide +kernel) q25 ?_
    refine x_iload (np := 20) (x := 1) (by decide +kernel) rfl la1 ?_
    obtain ⟨u26, q27⟩ : ∃ z, a1 = 2147483648 + z := ⟨a1 - 2147483648, by first | decide | omega⟩
    have b28 := jB (e := u26) u26 hJ rg_57_0_1_6 (by first | decide | omega) (by first | decide | omega)
    refine x_aldC (np := 21) (x := 0) (n := 6) (i := u26) (q := (h 57 u26)) (by decide +kernel) (by decide +kernel) (by first | decide | omega) (by first | decide | omega) (by decide) rfl (fun l29 => ?_)
    refine x_ifz (k := 1) (tg := 26) (np := 24) (by decide +kernel) (by decide) l29 (fun q30 => ?_) (fun q31 => ?_)
    · have q30 : (h 57 u26) ≠ 2147483648 := q30
      refine x_aload (np := 27) (x := 0) (by decide +kernel) rfl (x_nc_le (by decide)) ?_
      refine x_iload (np := 28) (x := 1) (by decide +kernel) rfl la1 ?_
      refine x_iload (np := 29) (x := 2) (by decide +kernel) rfl la2 ?_
      refine x_cP (t := 6) (mj := 30) (n := 3) (rc := 2) (ml := 4) (nr := 0) (np := 32) (as := [x_r 45, iv_c a1, iv_c a2]) (rest := []) (lo1 := [x_r 45, iv_c a1, iv_c a2, 147573952589676412928]) (by decide +kernel) (by decide) (by decide +kernel) (x_rb_of (by decide +kernel)) rfl rfl (x_wr (by decide) (x_wi la1 (x_wi la2 x_wn))) x_wn (by decide) rfl (c30_45 hJ  (by first | decide | omega) (by first | decide | omega)) (fun v32 l33 q34 => ?_)
      refine x_ifz (k := 0) (tg := 39) (np := 35) (by decide +kernel) (by decide) l33 (fun q35 => ?_) (fun q36 => ?_)
      · have q35 : v32 = 2147483648 := q35
        refine x_const (np := 40) (x := 9223372043297226753) (a := 2147483649) (by decide +kernel) (by decide) (by decide) ?_
        refine x_retI (np := 41) (x := 0) (by decide +kernel) (by decide) (Or.inl (by decide +kernel)) ⟨_, rfl, (by decide), ?_⟩
        exact ⟨rfl, (by first | decide | omega)⟩
      have q36 : ¬ (v32 = 2147483648) := q36
      refine x_const (np := 36) (x := 9223372047592194050) (a := 2147483650) (by decide +kernel) (by decide) (by decide) ?_
      refine x_goto (np := 39) (x := 40) (by decide +kernel) ?_
      refine x_retI (np := 41) (x := 0) (by decide +kernel) (by decide) (Or.inl (by decide +kernel)) ⟨_, rfl, (by decide), ?_⟩
      exact ⟨rfl, (by first | decide | omega)⟩
    have q31 : ¬ ((h 57 u26) ≠ 2147483648) := q31
    refine x_const (np := 25) (x := 9223372039002259456) (a := 2147483648) (by decide +kernel) (by decide) (by decide) ?_
    refine x_retI (np := 26) (x := 0) (by decide +kernel) (by decide) (Or.inl (by decide +kernel)) ⟨_, rfl, (by decide), ?_⟩
    exact ⟨rfl, (by first | decide | omega)⟩
  have q24 : ¬ (2147483649 ≠ 2147483648) := q24
  exfalso; omega
set_option maxHeartbeats 0 in
/-- LentNames$Calendar.noteRow(II)V -/
theorem c27_45 {sc : Nat × Nat} {d a1 a2 : Nat} {h : xh} (hJ : J h) (ba1 : 2147483648 ≤ a1 ∧ a1 ≤ 2147483653) (ba2 : 2147483648 ≤ a2 ∧ a2 ≤ 2147485139) : X sc 27 (d + 1) (xV fun h' => J h' ∧ Fr 1025 h h') 0 0 0 [x_r 45, iv_c a1, iv_c a2, 147573952589676412928] [] h := by
  have la1 : a1 < 4294967296 := by first | decide | omega
  have la2 : a2 < 4294967296 := by first | decide | omega
  have hF := Fr.refl 1025 h
  refine x_aload (np := 1) (x := 0) (by decide +kernel) rfl (x_nc_le (by decide)) ?_
  have q1 : h 45 8 = 53 := by have z := jB (e := 8) 0 hJ rg_45_8_0_1 (by decide) (by decide); omega
  refine x_getR (np := 4) (x := 72) (f := 8) (q := 53) (by decide +kernel) (by decide) (by decide +kernel) q1 ?_
  refine x_iload (np := 5) (x := 2) (by decide +kernel) rfl la2 ?_
  refine x_iload (np := 6) (x := 1) (by decide +kernel) rfl la1 ?_
  obtain ⟨u2, q3⟩ : ∃ z, a2 = 2147483648 + z := ⟨a2 - 2147483648, by first | decide | omega⟩
  refine x_ast (np := 7) (x := 0) (kd := 1) (n := 1512) (i := u2) (by decide +kernel) (Or.inl rfl) (by decide +kernel) (by first | decide | omega) (by first | decide | omega) (by decide) la1 (fun z => absurd z (by decide)) ?_
  have j5 := jU (e := u2) (v := a1) u2 hJ rg_53_0_1_1512 (by first | decide | omega) (by first | decide | omega) (by first | decide | omega)
  have f7 := jF (e := u2) (v := a1) u2 hF rg_53_0_1_1512 (by first | decide | omega) (by first | decide | omega) (by decide)
  generalize e6 : x_up h 53 u2 a1 = h4 at j5 f7 ⊢
  refine x_const (np := 8) (x := 9223372039002259456) (a := 2147483648) (by decide +kernel) (by decide) (by decide) ?_
  refine x_istore (np := 9) (x := 3) (lo' := [x_r 45, iv_c a1, iv_c a2, iv_c 2147483648]) (by decide +kernel) (by decide) (Nat.le_of_ble_eq_true rfl) rfl ?_
  have p771 : ∀ (n : Nat) (v766 : Nat) (h768 : xh), 4294967296 - v766 < n → (2147483648 ≤ v766 ∧ v766 ≤ 2147483668) → J h768 → Fr 1024 h4 h768 → X sc 27 (d + 1) (xV fun h' => J h' ∧ Fr 1025 h h') 0 0 9 [x_r 45, iv_c a1, iv_c a2, iv_c v766] [] h768 := by
    intro n
    induction n with
    | zero => intro v766 h768 q772; exact absurd q772 (Nat.not_lt_zero _)
    | succ n i773 =>
      intro v766 h768 q772 b767 j770 f769
      have f774 := Fr.trans f7 f769 (by decide)
      refine x_iload (np := 10) (x := 3) (by decide +kernel) rfl (by first | decide | omega) ?_
      refine x_const (np := 12) (x := 9223372124901605396) (a := 2147483668) (by decide +kernel) (by decide) (by decide) ?_
      refine x_icmp (k := 3) (tg := 62) (np := 15) (by decide +kernel) (by decide) (by first | decide | omega) (by decide) (fun q775 => ?_) (fun q776 => ?_)
      · have q775 : 2147483668 ≤ v766 := q775
        refine x_retV (np := 63) (x := 0) (by decide +kernel) (by decide +kernel) ⟨rfl, ?_⟩
        exact ⟨j770, f774⟩
      have q776 : ¬ (2147483668 ≤ v766) := q776
      refine x_aload (np := 16) (x := 0) (by decide +kernel) rfl (x_nc_le (by decide)) ?_
      have q777 : h768 45 8 = 53 := by have z := jB (e := 8) 0 j770 rg_45_8_0_1 (by decide) (by decide); omega
      refine x_getR (np := 19) (x := 72) (f := 8) (q := 53) (by decide +kernel) (by decide) (by decide +kernel) q777 ?_
      refine x_iload (np := 20) (x := 2) (by decide +kernel) rfl la2 ?_
      refine x_const (np := 21) (x := 9223372043297226753) (a := 2147483649) (by decide +kernel) (by decide) (by decide) ?_
      refine x_iadd (np := 22) (x := 0) (v := (1 + a2)) (by decide +kernel) la2 (by decide) (by first | decide | omega) (by first | decide | omega) ?_
      refine x_iload (np := 23) (x := 3) (by decide +kernel) rfl (by first | decide | omega) ?_
      obtain ⟨v778, q779⟩ : ∃ z, z + 2147483648 = (1 + a2) + v766 := ⟨(1 + a2) + v766 - 2147483648, by first | decide | omega⟩
      refine x_iadd (np := 24) (x := 0) (v := v778) (by decide +kernel) (by first | decide | omega) (by first | decide | omega) (by first | decide | omega) (by first | decide | omega) ?_
      refine x_iload (np := 25) (x := 3) (by decide +kernel) rfl (by first | decide | omega) ?_
      refine x_aload (np := 26) (x := 0) (by decide +kernel) rfl (x_nc_le (by decide)) ?_
      have q780 : h768 45 12 = 57 := by have z := jB (e := 12) 0 j770 rg_45_12_0_1 (by decide) (by decide); omega
      refine x_getR (np := 29) (x := 76) (f := 12) (q := 57) (by decide +kernel) (by decide) (by decide +kernel) q780 ?_
      refine x_iload (np := 30) (x := 1) (by decide +kernel) rfl la1 ?_
      obtain ⟨u781, q782⟩ : ∃ z, a1 = 2147483648 + z := ⟨a1 - 2147483648, by first | decide | omega⟩
      have q783 : h768 57 u781 = h4 57 u781 := jK u781 f769 rg_57_0_1_6 (by first | decide | omega) (by first | decide | omega) (by decide)
      have q784 : h4 57 u781 = h 57 u781 := by rw [← e6]; exact x_up_k (by decide)
      have b785 := jB (e := u781) u781 hJ rg_57_0_1_6 (by first | decide | omega) (by first | decide | omega)
      refine x_aldC (np := 31) (x := 0) (n := 6) (i := u781) (q := (h 57 u781)) (by decide +kernel) (by decide +kernel) (by first | decide | omega) (by first | decide | omega) (by decide) (q783.trans q784) (fun l786 => ?_)
      refine x_icmp (k := 3) (tg := 54) (np := 34) (by decide +kernel) (by decide) (by first | decide | omega) l786 (fun q787 => ?_) (fun q788 => ?_)
      · have q787 : (h 57 u781) ≤ v766 := q787
        refine x_const (np := 55) (x := 9223372034707292159) (a := 2147483647) (by decide +kernel) (by decide) (by decide) ?_
        obtain ⟨u789, q790⟩ : ∃ z, v778 = 2147483648 + z := ⟨v778 - 2147483648, by first | decide | omega⟩
        refine x_ast (np := 56) (x := 0) (kd := 1) (n := 1512) (i := u789) (by decide +kernel) (Or.inl rfl) (by decide +kernel) (by first | decide | omega) (by first | decide | omega) (by decide) (by decide) (fun z => absurd z (by decide)) ?_
        have j792 := jU (e := u789) (v := 2147483647) u789 j770 rg_53_0_1_1512 (by first | decide | omega) (by first | decide | omega) (by first | decide | omega)
        have f794 := jF (e := u789) (v := 2147483647) u789 f774 rg_53_0_1_1512 (by first | decide | omega) (by first | decide | omega) (by decide)
        have f795 := jF (e := u789) (v := 2147483647) u789 f769 rg_53_0_1_1512 (by first | decide | omega) (by first | decide | omega) (by decide)
        generalize e793 : x_up h768 53 u789 2147483647 = h791 at j792 f794 f795 ⊢
        refine x_iinc (np := 59) (i := 3) (j := 2147483649) (v := (1 + v766)) (lo' := [x_r 45, iv_c a1, iv_c a2, iv_c (1 + v766)]) (by decide +kernel) (by decide) (by decide) rfl (by first | decide | omega) (by first | decide | omega) (by first | decide | omega) rfl ?_
        refine x_goto (np := 62) (x := 9) (by decide +kernel) ?_
        exact i773 (1 + v766) h791 (by first | decide | omega) (by first | decide | omega) j792 f795
      have q788 : ¬ ((h 57 u781) ≤ v766) := q788
      refine x_aload (np := 35) (x := 0) (by decide +kernel) rfl (x_nc_le (by decide)) ?_
      have q796 : h768 45 5 = h4 45 5 := f769 45 5 (by decide +kernel)
      have q797 : h4 45 5 = h 45 5 := by rw [← e6]; exact x_up_k (by decide)
      have t798 : tw (h 45 5) := hJ.2.2.2.1
      refine x_getR (np := 38) (x := 69) (f := 5) (q := (h 45 5)) (by decide +kernel) (by decide) (by decide +kernel) (q796.trans q797) ?_
      have q799 : h768 (h 45 5) 0 = ((h 45 5) + 1) := tf_0_0 j770 t798
      refine x_getR (np := 41) (x := 512) (f := 0) (q := ((h 45 5) + 1)) (by decide +kernel) (by decide) (tg_0_512_0_1 t798) q799 ?_
      refine x_aload (np := 42) (x := 0) (by decide +kernel) rfl (x_nc_le (by decide)) ?_
      refine x_iload (np := 43) (x := 1) (by decide +kernel) rfl la1 ?_
      refine x_iload (np := 44) (x := 3) (by decide +kernel) rfl (by first | decide | omega) ?_
      refine x_nI (t := 6) (mj := 33) (n := 3) (rc := 2) (ml := 3) (nr := 3) (np := 47) (as := [x_r 45, iv_c a1, iv_c v766]) (rest := [x_r ((h 45 5) + 1), iv_c v778, x_r 53]) (lo1 := [x_r 45, iv_c a1, iv_c v766]) (by decide +kernel) (by decide) (by decide +kernel) (x_rb_of (by decide +kernel)) rfl rfl (x_wr (by decide) (x_wi la1 (x_wi (by first | decide | omega) x_wn))) (x_wr (tn_1 t798) (x_wi (by first | decide | omega) (x_wr (by decide) x_wn))) (by decide) rfl ?_
      refine x_aload (np := 1) (x := 0) (by decide +kernel) rfl (x_nc_le (by decide)) ?_
      have q800 : h768 45 11 = 56 := by have z := jB (e := 11) 0 j770 rg_45_11_0_1 (by decide) (by decide); omega
      refine x_getR (np := 4) (x := 75) (f := 11) (q := 56) (by decide +kernel) (by decide) (by decide +kernel) q800 ?_
      refine x_iload (np := 5) (x := 1) (by decide +kernel) rfl la1 ?_
      refine x_const (np := 7) (x := 9223372124901605396) (a := 2147483668) (by decide +kernel) (by decide) (by decide) ?_
      refine x_imul (np := 8) (x := 0) (i := u781) (j := 20) (v := (2147483648 + 20 * u781)) (by decide +kernel) (by first | decide | omega) (by first | decide | omega) (by first | decide | omega) (by first | decide | omega) la1 (by decide) ?_
      refine x_iload (np := 9) (x := 2) (by decide +kernel) rfl (by first | decide | omega) ?_
      refine x_iadd (np := 10) (x := 0) (v := (20 * u781 + v766)) (by decide +kernel) (by first | decide | omega) (by first | decide | omega) (by first | decide | omega) (by first | decide | omega) ?_
      obtain ⟨u802, q803⟩ : ∃ z, v766 = 2147483648 + z := ⟨v766 - 2147483648, by first | decide | omega⟩
      have q804 : h768 56 (20 * u781 + u802) = h4 56 (20 * u781 + u802) := jK (20 * u781 + u802) f769 rg_56_0_1_120 (by first | decide | omega) (by first | decide | omega) (by decide)
      have q805 : h4 56 (20 * u781 + u802) = h 56 (20 * u781 + u802) := by rw [← e6]; exact x_up_k (by decide)
      have b806 := jB (e := (20 * u781 + u802)) (20 * u781 + u802) hJ rg_56_0_1_120 (by first | decide | omega) (by first | decide | omega)
      refine x_aldC (np := 11) (x := 0) (n := 120) (i := (20 * u781 + u802)) (q := ((h 56 (20 * u781 + u802)))) (by decide +kernel) (by decide +kernel) (by first | decide | omega) (by first | decide | omega) (by decide) (q804.trans q805) (fun l807 => ?_)
      refine x_retI (np := 12) (x := 0) (by decide +kernel) l807 (Or.inl (by decide +kernel)) ⟨_, rfl, l807, ?_⟩
      refine x_const (np := 48) (x := 9223372043297226753) (a := 2147483649) (by decide +kernel) (by decide) (by decide) ?_
      refine x_cP (t := 6) (mj := 68) (n := 3) (rc := 7) (ml := 4) (nr := 2) (np := 51) (as := [x_r ((h 45 5) + 1), iv_c ((h 56 (20 * u781 + u802))), iv_c 2147483649]) (rest := [iv_c v778, x_r 53]) (lo1 := [x_r ((h 45 5) + 1), iv_c ((h 56 (20 * u781 + u802))), iv_c 2147483649, 147573952589676412928]) (by decide +kernel) (by decide) (by decide +kernel) (x_rb_of (tr_1_7 t798)) rfl rfl (x_wr (tn_1 t798) (x_wi l807 (x_wi (by decide) x_wn))) (x_wi (by first | decide | omega) (x_wr (by decide) x_wn)) (by decide) rfl (c68_T1_c1 j770 t798 (by first | decide | omega) ) (fun v811 l812 q813 => ?_)
      refine x_goto (np := 54) (x := 55) (by decide +kernel) ?_
      obtain ⟨u814, q815⟩ : ∃ z, v778 = 2147483648 + z := ⟨v778 - 2147483648, by first | decide | omega⟩
      refine x_ast (np := 56) (x := 0) (kd := 1) (n := 1512) (i := u814) (by decide +kernel) (Or.inl rfl) (by decide +kernel) (by first | decide | omega) (by first | decide | omega) (by decide) l812 (fun z => absurd z (by decide)) ?_
      have j817 := jU (e := u814) (v := v811) u814 j770 rg_53_0_1_1512 (by first | decide | omega) (by first | decide | omega) (by first | decide | omega)
      have f819 := jF (e := u814) (v := v811) u814 f774 rg_53_0_1_1512 (by first | decide | omega) (by first | decide | omega) (by decide)
      have f820 := jF (e := u814) (v := v811) u814 f769 rg_53_0_1_1512 (by first | decide | omega) (by first | decide | omega) (by decide)
      generalize e818 : x_up h768 53 u814 v811 = h816 at j817 f819 f820 ⊢
      refine x_iinc (np := 59) (i := 3) (j := 2147483649) (v := (1 + v766)) (lo' := [x_r 45, iv_c a1, iv_c a2, iv_c (1 + v766)]) (by decide +kernel) (by decide) (by decide) rfl (by first | decide | omega) (by first | decide | omega) (by first | decide | omega) rfl ?_
      refine x_goto (np := 62) (x := 9) (by decide +kernel) ?_
      exact i773 (1 + v766) h816 (by first | decide | omega) (by first | decide | omega) j817 f820
  exact p771 _ 2147483648 h4 (Nat.lt_succ_self _) (by first | decide | omega) j5 (Fr.refl _ _)
set_option maxHeartbeats 0 in
/-- LentNames$Calendar.note(I)V -/
theorem c26_45 {sc : Nat × Nat} {d a1 : Nat} {h : xh} (hJ : J h) (ba1 : 2147483648 ≤ a1 ∧ a1 ≤ 2147483659) : X sc 26 (d + 3) (xV fun h' => J h' ∧ Fr 1025 h h') 0 0 0 [x_r 45, iv_c a1, 147573952589676412928, 147573952589676412928, 147573952589676412928] [] h := by
  have la1 : a1 < 4294967296 := by first | decide | omega
  have hF := Fr.refl 1025 h
  refine x_const (np := 1) (x := 9223372039002259456) (a := 2147483648) (by decide +kernel) (by decide) (by decide) ?_
  refine x_istore (np := 2) (x := 2) (lo' := [x_r 45, iv_c a1, iv_c 2147483648, 147573952589676412928, 147573952589676412928]) (by decide +kernel) (by decide) (Nat.le_of_ble_eq_true rfl) rfl ?_
  have p1203 : ∀ (n : Nat) (v1196 : Nat) (w1198 : Nat) (w1199 : Nat) (h1200 : xh), 4294967296 - v1196 < n → (2147483648 ≤ v1196 ∧ v1196 ≤ 2147483654) → J h1200 → Fr 1025 h h1200 → X sc 26 (d + 3) (xV fun h' => J h' ∧ Fr 1025 h h') 0 0 2 [x_r 45, iv_c a1, iv_c v1196, w1198, w1199] [] h1200 := by
    intro n
    induction n with
    | zero => intro v1196 w1198 w1199 h1200 q1204; exact absurd q1204 (Nat.not_lt_zero _)
    | succ n i1205 =>
      intro v1196 w1198 w1199 h1200 q1204 b1197 j1202 f1201
      have f1206 := Fr.trans hF f1201 (by decide)
      refine x_iload (np := 3) (x := 2) (by decide +kernel) rfl (by first | decide | omega) ?_
      refine x_aload (np := 4) (x := 0) (by decide +kernel) rfl (x_nc_le (by decide)) ?_
      have q1207 : h1200 45 5 = h 45 5 := f1201 45 5 (by decide +kernel)
      have t1208 : tw (h 45 5) := hJ.2.2.2.1
      refine x_getR (np := 7) (x := 69) (f := 5) (q := (h 45 5)) (by decide +kernel) (by decide) (by decide +kernel) q1207 ?_
      have q1209 : h1200 (h 45 5) 7 = h (h 45 5) 7 := jK 0 f1201 (rg_T0_7_0_1 t1208) (by first | decide | omega) (by first | decide | omega) (by decide)
      have b1210 := jB (e := 7) 0 hJ (rg_T0_7_0_1 t1208) (by first | decide | omega) (by first | decide | omega)
      refine x_getC (np := 10) (x := 519) (f := 7) (q := (h (h 45 5) 7)) (by decide +kernel) (by decide) (tg_0_519_7_0 t1208) q1209 (fun l1211 => ?_)
      refine x_icmp (k := 3) (tg := 111) (np := 13) (by decide +kernel) (by decide) (by first | decide | omega) l1211 (fun q1212 => ?_) (fun q1213 => ?_)
      · have q1212 : (h (h 45 5) 7) ≤ v1196 := q1212
        refine x_retV (np := 112) (x := 0) (by decide +kernel) (by decide +kernel) ⟨rfl, ?_⟩
        exact ⟨j1202, f1206⟩
      have q1213 : ¬ ((h (h 45 5) 7) ≤ v1196) := q1213
      refine x_aload (np := 14) (x := 0) (by decide +kernel) rfl (x_nc_le (by decide)) ?_
      refine x_iload (np := 15) (x := 2) (by decide +kernel) rfl (by first | decide | omega) ?_
      refine x_cP (t := 6) (mj := 32) (n := 2) (rc := 2) (ml := 2) (nr := 0) (np := 18) (as := [x_r 45, iv_c v1196]) (rest := []) (lo1 := [x_r 45, iv_c v1196]) (by decide +kernel) (by decide) (by decide +kernel) (x_rb_of (by decide +kernel)) rfl rfl (x_wr (by decide) (x_wi (by first | decide | omega) x_wn)) x_wn (by decide) rfl (c32_45 j1202  (by first | decide | omega)) (fun v1214 l1215 q1216 => ?_)
      refine x_istore (np := 19) (x := 3) (lo' := [x_r 45, iv_c a1, iv_c v1196, iv_c v1214, w1199]) (by decide +kernel) l1215 (Nat.le_of_ble_eq_true rfl) rfl ?_
      refine x_aload (np := 20) (x := 0) (by decide +kernel) rfl (x_nc_le (by decide)) ?_
      refine x_iload (np := 21) (x := 3) (by decide +kernel) rfl l1215 ?_
      refine x_iload (np := 22) (x := 1) (by decide +kernel) rfl la1 ?_
      refine x_nI (t := 6) (mj := 31) (n := 3) (rc := 2) (ml := 3) (nr := 0) (np := 25) (as := [x_r 45, iv_c v1214, iv_c a1]) (rest := []) (lo1 := [x_r 45, iv_c v1214, iv_c a1]) (by decide +kernel) (by decide) (by decide +kernel) (x_rb_of (by decide +kernel)) rfl rfl (x_wr (by decide) (x_wi l1215 (x_wi la1 x_wn))) x_wn (by decide) rfl ?_
      refine x_iload (np := 1) (x := 1) (by decide +kernel) rfl l1215 ?_
      refine x_ifz (k := 2) (tg := 27) (np := 4) (by decide +kernel) (by decide) l1215 (fun q1217 => ?_) (fun q1218 => ?_)
      · have q1217 : v1214 < 2147483648 := q1217
        refine x_const (np := 28) (x := 9223372039002259456) (a := 2147483648) (by decide +kernel) (by decide) (by decide) ?_
        refine x_retI (np := 29) (x := 0) (by decide +kernel) (by decide) (Or.inr ⟨by decide +kernel, by first | decide | omega, by first | decide | omega⟩) ⟨_, rfl, (by decide), ?_⟩
        refine x_ifz (k := 1) (tg := 32) (np := 28) (by decide +kernel) (by decide) (by decide) (fun q1219 => ?_) (fun q1220 => ?_)
        · have q1219 : 2147483648 ≠ 2147483648 := q1219
          exfalso; omega
        have q1220 : ¬ (2147483648 ≠ 2147483648) := q1220
        refine x_const (np := 29) (x := 9223372043297226753) (a := 2147483649) (by decide +kernel) (by decide) (by decide) ?_
        refine x_goto (np := 32) (x := 33) (by decide +kernel) ?_
        refine x_istore (np := 35) (x := 4) (lo' := [x_r 45, iv_c a1, iv_c v1196, iv_c v1214, iv_c 2147483649]) (by decide +kernel) (by decide) (Nat.le_of_ble_eq_true rfl) rfl ?_
        refine x_aload (np := 36) (x := 0) (by decide +kernel) rfl (x_nc_le (by decide)) ?_
        have q1221 : h1200 45 6 = 51 := by have z := jB (e := 6) 0 j1202 rg_45_6_0_1 (by decide) (by decide); omega
        refine x_getR (np := 39) (x := 70) (f := 6) (q := 51) (by decide +kernel) (by decide) (by decide +kernel) q1221 ?_
        refine x_iload (np := 40) (x := 2) (by decide +kernel) rfl (by first | decide | omega) ?_
        refine x_iload (np := 41) (x := 1) (by decide +kernel) rfl la1 ?_
        refine x_nI (t := 7) (mj := 150) (n := 2) (rc := 0) (ml := 2) (nr := 1) (np := 44) (as := [iv_c v1196, iv_c a1]) (rest := [x_r 51]) (lo1 := [iv_c v1196, iv_c a1]) (by decide +kernel) (by decide) (by decide +kernel) (Or.inl rfl) rfl rfl (x_wi (by first | decide | omega) (x_wi la1 x_wn)) (x_wr (by decide) x_wn) (by decide) rfl ?_
        refine x_iload (np := 1) (x := 0) (by decide +kernel) rfl (by first | decide | omega) ?_
        refine x_const (np := 3) (x := 9223372090541867020) (a := 2147483660) (by decide +kernel) (by decide) (by decide) ?_
        obtain ⟨u1222, q1223⟩ : ∃ z, v1196 = 2147483648 + z := ⟨v1196 - 2147483648, by first | decide | omega⟩
        refine x_imul (np := 4) (x := 0) (i := u1222) (j := 12) (v := (2147483648 + 12 * u1222)) (by decide +kernel) (by first | decide | omega) (by first | decide | omega) (by first | decide | omega) (by first | decide | omega) (by first | decide | omega) (by decide) ?_
        refine x_iload (np := 5) (x := 1) (by decide +kernel) rfl la1 ?_
        refine x_iadd (np := 6) (x := 0) (v := (12 * u1222 + a1)) (by decide +kernel) (by first | decide | omega) la1 (by first | decide | omega) (by first | decide | omega) ?_
        refine x_retI (np := 7) (x := 0) (by decide +kernel) (by first | decide | omega) (Or.inl (by decide +kernel)) ⟨_, rfl, (by first | decide | omega), ?_⟩
        refine x_iload (np := 46) (x := 4) (by decide +kernel) rfl (by decide) ?_
        refine x_ifz (k := 0) (tg := 53) (np := 49) (by decide +kernel) (by decide) (by decide) (fun q1225 => ?_) (fun q1226 => ?_)
        · have q1225 : 2147483649 = 2147483648 := q1225
          exfalso; omega
        have q1226 : ¬ (2147483649 = 2147483648) := q1226
        refine x_const (np := 50) (x := 9223372034707292159) (a := 2147483647) (by decide +kernel) (by decide) (by decide) ?_
        refine x_goto (np := 53) (x := 54) (by decide +kernel) ?_
        obtain ⟨u1227, q1228⟩ : ∃ z, a1 = 2147483648 + z := ⟨a1 - 2147483648, by first | decide | omega⟩
        refine x_ast (np := 55) (x := 0) (kd := 1) (n := 72) (i := (12 * u1222 + u1227)) (by decide +kernel) (Or.inl rfl) (by decide +kernel) (by first | decide | omega) (by first | decide | omega) (by decide) (by decide) (fun z => absurd z (by decide)) ?_
        have j1230 := jU (e := (12 * u1222 + u1227)) (v := 2147483647) (12 * u1222 + u1227) j1202 rg_51_0_1_72 (by first | decide | omega) (by first | decide | omega) (by first | decide | omega)
        have f1232 := jF (e := (12 * u1222 + u1227)) (v := 2147483647) (12 * u1222 + u1227) f1206 rg_51_0_1_72 (by first | decide | omega) (by first | decide | omega) (by decide)
        have f1233 := jF (e := (12 * u1222 + u1227)) (v := 2147483647) (12 * u1222 + u1227) f1201 rg_51_0_1_72 (by first | decide | omega) (by first | decide | omega) (by decide)
        generalize e1231 : x_up h1200 51 (12 * u1222 + u1227) 2147483647 = h1229 at j1230 f1232 f1233 ⊢
        refine x_aload (np := 56) (x := 0) (by decide +kernel) rfl (x_nc_le (by decide)) ?_
        have q1234 : h1229 45 7 = 52 := by have z := jB (e := 7) 0 j1230 rg_45_7_0_1 (by decide) (by decide); omega
        refine x_getR (np := 59) (x := 71) (f := 7) (q := 52) (by decide +kernel) (by decide) (by decide +kernel) q1234 ?_
        refine x_iload (np := 60) (x := 2) (by decide +kernel) rfl (by first | decide | omega) ?_
        refine x_iload (np := 61) (x := 1) (by decide +kernel) rfl la1 ?_
        refine x_nI (t := 7) (mj := 150) (n := 2) (rc := 0) (ml := 2) (nr := 1) (np := 64) (as := [iv_c v1196, iv_c a1]) (rest := [x_r 52]) (lo1 := [iv_c v1196, iv_c a1]) (by decide +kernel) (by decide) (by decide +kernel) (Or.inl rfl) rfl rfl (x_wi (by first | decide | omega) (x_wi la1 x_wn)) (x_wr (by decide) x_wn) (by decide) rfl ?_
        refine x_iload (np := 1) (x := 0) (by decide +kernel) rfl (by first | decide | omega) ?_
        refine x_const (np := 3) (x := 9223372090541867020) (a := 2147483660) (by decide +kernel) (by decide) (by decide) ?_
        refine x_imul (np := 4) (x := 0) (i := u1222) (j := 12) (v := (2147483648 + 12 * u1222)) (by decide +kernel) (by first | decide | omega) (by first | decide | omega) (by first | decide | omega) (by first | decide | omega) (by first | decide | omega) (by decide) ?_
        refine x_iload (np := 5) (x := 1) (by decide +kernel) rfl la1 ?_
        refine x_iadd (np := 6) (x := 0) (v := (12 * u1222 + a1)) (by decide +kernel) (by first | decide | omega) la1 (by first | decide | omega) (by first | decide | omega) ?_
        refine x_retI (np := 7) (x := 0) (by decide +kernel) (by first | decide | omega) (Or.inl (by decide +kernel)) ⟨_, rfl, (by first | decide | omega), ?_⟩
        refine x_aload (np := 65) (x := 0) (by decide +kernel) rfl (x_nc_le (by decide)) ?_
        refine x_iload (np := 66) (x := 2) (by decide +kernel) rfl (by first | decide | omega) ?_
        refine x_iload (np := 67) (x := 1) (by decide +kernel) rfl la1 ?_
        refine x_cP (t := 6) (mj := 28) (n := 3) (rc := 2) (ml := 3) (nr := 2) (np := 70) (as := [x_r 45, iv_c v1196, iv_c a1]) (rest := [iv_c (12 * u1222 + a1), x_r 52]) (lo1 := [x_r 45, iv_c v1196, iv_c a1]) (by decide +kernel) (by decide) (by decide +kernel) (x_rb_of (by decide +kernel)) rfl rfl (x_wr (by decide) (x_wi (by first | decide | omega) (x_wi la1 x_wn))) (x_wi (by first | decide | omega) (x_wr (by decide) x_wn)) (by decide) rfl (c28_45 j1230  (by first | decide | omega) (by first | decide | omega)) (fun v1236 l1237 q1238 => ?_)
        refine x_ast (np := 71) (x := 0) (kd := 1) (n := 72) (i := (12 * u1222 + u1227)) (by decide +kernel) (Or.inl rfl) (by decide +kernel) (by first | decide | omega) (by first | decide | omega) (by decide) l1237 (fun z => absurd z (by decide)) ?_
        have j1240 := jU (e := (12 * u1222 + u1227)) (v := v1236) (12 * u1222 + u1227) j1230 rg_52_0_1_72 (by first | decide | omega) (by first | decide | omega) (by first | decide | omega)
        have f1242 := jF (e := (12 * u1222 + u1227)) (v := v1236) (12 * u1222 + u1227) f1232 rg_52_0_1_72 (by first | decide | omega) (by first | decide | omega) (by decide)
        have f1243 := jF (e := (12 * u1222 + u1227)) (v := v1236) (12 * u1222 + u1227) f1233 rg_52_0_1_72 (by first | decide | omega) (by first | decide | omega) (by decide)
        generalize e1241 : x_up h1229 52 (12 * u1222 + u1227) v1236 = h1239 at j1240 f1242 f1243 ⊢
        refine x_iload (np := 73) (x := 4) (by decide +kernel) rfl (by decide) ?_
        refine x_ifz (k := 1) (tg := 92) (np := 76) (by decide +kernel) (by decide) (by decide) (fun q1244 => ?_) (fun q1245 => ?_)
        · have q1244 : 2147483649 ≠ 2147483648 := q1244
          refine x_aload (np := 93) (x := 0) (by decide +kernel) rfl (x_nc_le (by decide)) ?_
          refine x_iload (np := 94) (x := 2) (by decide +kernel) rfl (by first | decide | omega) ?_
          refine x_iload (np := 95) (x := 2) (by decide +kernel) rfl (by first | decide | omega) ?_
          refine x_iload (np := 96) (x := 1) (by decide +kernel) rfl la1 ?_
          refine x_nI (t := 7) (mj := 150) (n := 2) (rc := 0) (ml := 2) (nr := 2) (np := 99) (as := [iv_c v1196, iv_c a1]) (rest := [iv_c v1196, x_r 45]) (lo1 := [iv_c v1196, iv_c a1]) (by decide +kernel) (by decide) (by decide +kernel) (Or.inl rfl) rfl rfl (x_wi (by first | decide | omega) (x_wi la1 x_wn)) (x_wi (by first | decide | omega) (x_wr (by decide) x_wn)) (by decide) rfl ?_
          refine x_iload (np := 1) (x := 0) (by decide +kernel) rfl (by first | decide | omega) ?_
          refine x_const (np := 3) (x := 9223372090541867020) (a := 2147483660) (by decide +kernel) (by decide) (by decide) ?_
          refine x_imul (np := 4) (x := 0) (i := u1222) (j := 12) (v := (2147483648 + 12 * u1222)) (by decide +kernel) (by first | decide | omega) (by first | decide | omega) (by first | decide | omega) (by first | decide | omega) (by first | decide | omega) (by decide) ?_
          refine x_iload (np := 5) (x := 1) (by decide +kernel) rfl la1 ?_
          refine x_iadd (np := 6) (x := 0) (v := (12 * u1222 + a1)) (by decide +kernel) (by first | decide | omega) la1 (by first | decide | omega) (by first | decide | omega) ?_
          refine x_retI (np := 7) (x := 0) (by decide +kernel) (by first | decide | omega) (Or.inl (by decide +kernel)) ⟨_, rfl, (by first | decide | omega), ?_⟩
          refine x_const (np := 101) (x := 9223372129196572693) (a := 2147483669) (by decide +kernel) (by decide) (by decide) ?_
          refine x_imul (np := 102) (x := 0) (i := (12 * u1222 + u1227)) (j := 21) (v := (2147483648 + 252 * u1222 + 21 * u1227)) (by decide +kernel) (by first | decide | omega) (by first | decide | omega) (by first | decide | omega) (by first | decide | omega) (by first | decide | omega) (by decide) ?_
          refine x_cV (t := 6) (mj := 27) (n := 3) (rc := 2) (ml := 4) (nr := 0) (np := 105) (as := [x_r 45, iv_c v1196, iv_c (2147483648 + 252 * u1222 + 21 * u1227)]) (rest := []) (lo1 := [x_r 45, iv_c v1196, iv_c (2147483648 + 252 * u1222 + 21 * u1227), 147573952589676412928]) (by decide +kernel) (by decide) (by decide +kernel) (x_rb_of (by decide +kernel)) rfl rfl (x_wr (by decide) (x_wi (by first | decide | omega) (x_wi (by first | decide | omega) x_wn))) x_wn (by decide) rfl (c27_45 j1240  (by first | decide | omega) (by first | decide | omega)) (fun h1251 q1250 => ?_)
          obtain ⟨j1252, f1253⟩ := q1250
          have f1256 := Fr.trans f1242 f1253 (by decide)
          have f1257 := Fr.trans f1243 f1253 (by decide)
          refine x_iinc (np := 108) (i := 2) (j := 2147483649) (v := (1 + v1196)) (lo' := [x_r 45, iv_c a1, iv_c (1 + v1196), iv_c v1214, iv_c 2147483649]) (by decide +kernel) (by decide) (by decide) rfl (by first | decide | omega) (by first | decide | omega) (by first | decide | omega) rfl ?_
          refine x_goto (np := 111) (x := 2) (by decide +kernel) ?_
          exact i1205 (1 + v1196) (iv_c v1214) (iv_c 2147483649) h1251 (by first | decide | omega) (by first | decide | omega) j1252 f1257
        have q1245 : ¬ (2147483649 ≠ 2147483648) := q1245
        exfalso; omega
      have q1218 : ¬ (v1214 < 2147483648) := q1218
      refine x_iload (np := 5) (x := 1) (by decide +kernel) rfl l1215 ?_
      refine x_const (np := 7) (x := 9223372064772063238) (a := 2147483654) (by decide +kernel) (by decide) (by decide) ?_
      refine x_icmp (k := 3) (tg := 27) (np := 10) (by decide +kernel) (by decide) l1215 (by decide) (fun q1258 => ?_) (fun q1259 => ?_)
      · have q1258 : 2147483654 ≤ v1214 := q1258
        refine x_const (np := 28) (x := 9223372039002259456) (a := 2147483648) (by decide +kernel) (by decide) (by decide) ?_
        refine x_retI (np := 29) (x := 0) (by decide +kernel) (by decide) (Or.inr ⟨by decide +kernel, by first | decide | omega, by first | decide | omega⟩) ⟨_, rfl, (by decide), ?_⟩
        refine x_ifz (k := 1) (tg := 32) (np := 28) (by decide +kernel) (by decide) (by decide) (fun q1260 => ?_) (fun q1261 => ?_)
        · have q1260 : 2147483648 ≠ 2147483648 := q1260
          exfalso; omega
        have q1261 : ¬ (2147483648 ≠ 2147483648) := q1261
        refine x_const (np := 29) (x := 9223372043297226753) (a := 2147483649) (by decide +kernel) (by decide) (by decide) ?_
        refine x_goto (np := 32) (x := 33) (by decide +kernel) ?_
        refine x_istore (np := 35) (x := 4) (lo' := [x_r 45, iv_c a1, iv_c v1196, iv_c v1214, iv_c 2147483649]) (by decide +kernel) (by decide) (Nat.le_of_ble_eq_true rfl) rfl ?_
        refine x_aload (np := 36) (x := 0) (by decide +kernel) rfl (x_nc_le (by decide)) ?_
        have q1262 : h1200 45 6 = 51 := by have z := jB (e := 6) 0 j1202 rg_45_6_0_1 (by decide) (by decide); omega
        refine x_getR (np := 39) (x := 70) (f := 6) (q := 51) (by decide +kernel) (by decide) (by decide +kernel) q1262 ?_
        refine x_iload (np := 40) (x := 2) (by decide +kernel) rfl (by first | decide | omega) ?_
        refine x_iload (np := 41) (x := 1) (by decide +kernel) rfl la1 ?_
        refine x_nI (t := 7) (mj := 150) (n := 2) (rc := 0) (ml := 2) (nr := 1) (np := 44) (as := [iv_c v1196, iv_c a1]) (rest := [x_r 51]) (lo1 := [iv_c v1196, iv_c a1]) (by decide +kernel) (by decide) (by decide +kernel) (Or.inl rfl) rfl rfl (x_wi (by first | decide | omega) (x_wi la1 x_wn)) (x_wr (by decide) x_wn) (by decide) rfl ?_
        refine x_iload (np := 1) (x := 0) (by decide +kernel) rfl (by first | decide | omega) ?_
        refine x_const (np := 3) (x := 9223372090541867020) (a := 2147483660) (by decide +kernel) (by decide) (by decide) ?_
        obtain ⟨u1263, q1264⟩ : ∃ z, v1196 = 2147483648 + z := ⟨v1196 - 2147483648, by first | decide | omega⟩
        refine x_imul (np := 4) (x := 0) (i := u1263) (j := 12) (v := (2147483648 + 12 * u1263)) (by decide +kernel) (by first | decide | omega) (by first | decide | omega) (by first | decide | omega) (by first | decide | omega) (by first | decide | omega) (by decide) ?_
        refine x_iload (np := 5) (x := 1) (by decide +kernel) rfl la1 ?_
        refine x_iadd (np := 6) (x := 0) (v := (12 * u1263 + a1)) (by decide +kernel) (by first | decide | omega) la1 (by first | decide | omega) (by first | decide | omega) ?_
        refine x_retI (np := 7) (x := 0) (by decide +kernel) (by first | decide | omega) (Or.inl (by decide +kernel)) ⟨_, rfl, (by first | decide | omega), ?_⟩
        refine x_iload (np := 46) (x := 4) (by decide +kernel) rfl (by decide) ?_
        refine x_ifz (k := 0) (tg := 53) (np := 49) (by decide +kernel) (by decide) (by decide) (fun q1266 => ?_) (fun q1267 => ?_)
        · have q1266 : 2147483649 = 2147483648 := q1266
          exfalso; omega
        have q1267 : ¬ (2147483649 = 2147483648) := q1267
        refine x_const (np := 50) (x := 9223372034707292159) (a := 2147483647) (by decide +kernel) (by decide) (by decide) ?_
        refine x_goto (np := 53) (x := 54) (by decide +kernel) ?_
        obtain ⟨u1268, q1269⟩ : ∃ z, a1 = 2147483648 + z := ⟨a1 - 2147483648, by first | decide | omega⟩
        refine x_ast (np := 55) (x := 0) (kd := 1) (n := 72) (i := (12 * u1263 + u1268)) (by decide +kernel) (Or.inl rfl) (by decide +kernel) (by first | decide | omega) (by first | decide | omega) (by decide) (by decide) (fun z => absurd z (by decide)) ?_
        have j1271 := jU (e := (12 * u1263 + u1268)) (v := 2147483647) (12 * u1263 + u1268) j1202 rg_51_0_1_72 (by first | decide | omega) (by first | decide | omega) (by first | decide | omega)
        have f1273 := jF (e := (12 * u1263 + u1268)) (v := 2147483647) (12 * u1263 + u1268) f1206 rg_51_0_1_72 (by first | decide | omega) (by first | decide | omega) (by decide)
        have f1274 := jF (e := (12 * u1263 + u1268)) (v := 2147483647) (12 * u1263 + u1268) f1201 rg_51_0_1_72 (by first | decide | omega) (by first | decide | omega) (by decide)
        generalize e1272 : x_up h1200 51 (12 * u1263 + u1268) 2147483647 = h1270 at j1271 f1273 f1274 ⊢
        refine x_aload (np := 56) (x := 0) (by decide +kernel) rfl (x_nc_le (by decide)) ?_
        have q1275 : h1270 45 7 = 52 := by have z := jB (e := 7) 0 j1271 rg_45_7_0_1 (by decide) (by decide); omega
        refine x_getR (np := 59) (x := 71) (f := 7) (q := 52) (by decide +kernel) (by decide) (by decide +kernel) q1275 ?_
        refine x_iload (np := 60) (x := 2) (by decide +kernel) rfl (by first | decide | omega) ?_
        refine x_iload (np := 61) (x := 1) (by decide +kernel) rfl la1 ?_
        refine x_nI (t := 7) (mj := 150) (n := 2) (rc := 0) (ml := 2) (nr := 1) (np := 64) (as := [iv_c v1196, iv_c a1]) (rest := [x_r 52]) (lo1 := [iv_c v1196, iv_c a1]) (by decide +kernel) (by decide) (by decide +kernel) (Or.inl rfl) rfl rfl (x_wi (by first | decide | omega) (x_wi la1 x_wn)) (x_wr (by decide) x_wn) (by decide) rfl ?_
        refine x_iload (np := 1) (x := 0) (by decide +kernel) rfl (by first | decide | omega) ?_
        refine x_const (np := 3) (x := 9223372090541867020) (a := 2147483660) (by decide +kernel) (by decide) (by decide) ?_
        refine x_imul (np := 4) (x := 0) (i := u1263) (j := 12) (v := (2147483648 + 12 * u1263)) (by decide +kernel) (by first | decide | omega) (by first | decide | omega) (by first | decide | omega) (by first | decide | omega) (by first | decide | omega) (by decide) ?_
        refine x_iload (np := 5) (x := 1) (by decide +kernel) rfl la1 ?_
        refine x_iadd (np := 6) (x := 0) (v := (12 * u1263 + a1)) (by decide +kernel) (by first | decide | omega) la1 (by first | decide | omega) (by first | decide | omega) ?_
        refine x_retI (np := 7) (x := 0) (by decide +kernel) (by first | decide | omega) (Or.inl (by decide +kernel)) ⟨_, rfl, (by first | decide | omega), ?_⟩
        refine x_aload (np := 65) (x := 0) (by decide +kernel) rfl (x_nc_le (by decide)) ?_
        refine x_iload (np := 66) (x := 2) (by decide +kernel) rfl (by first | decide | omega) ?_
        refine x_iload (np := 67) (x := 1) (by decide +kernel) rfl la1 ?_
        refine x_cP (t := 6) (mj := 28) (n := 3) (rc := 2) (ml := 3) (nr := 2) (np := 70) (as := [x_r 45, iv_c v1196, iv_c a1]) (rest := [iv_c (12 * u1263 + a1), x_r 52]) (lo1 := [x_r 45, iv_c v1196, iv_c a1]) (by decide +kernel) (by decide) (by decide +kernel) (x_rb_of (by decide +kernel)) rfl rfl (x_wr (by decide) (x_wi (by first | decide | omega) (x_wi la1 x_wn))) (x_wi (by first | decide | omega) (x_wr (by decide) x_wn)) (by decide) rfl (c28_45 j1271  (by first | decide | omega) (by first | decide | omega)) (fun v1277 l1278 q1279 => ?_)
        refine x_ast (np := 71) (x := 0) (kd := 1) (n := 72) (i := (12 * u1263 + u1268)) (by decide +kernel) (Or.inl rfl) (by decide +kernel) (by first | decide | omega) (by first | decide | omega) (by decide) l1278 (fun z => absurd z (by decide)) ?_
        have j1281 := jU (e := (12 * u1263 + u1268)) (v := v1277) (12 * u1263 + u1268) j1271 rg_52_0_1_72 (by first | decide | omega) (by first | decide | omega) (by first | decide | omega)
        have f1283 := jF (e := (12 * u1263 + u1268)) (v := v1277) (12 * u1263 + u1268) f1273 rg_52_0_1_72 (by first | decide | omega) (by first | decide | omega) (by decide)
        have f1284 := jF (e := (12 * u1263 + u1268)) (v := v1277) (12 * u1263 + u1268) f1274 rg_52_0_1_72 (by first | decide | omega) (by first | decide | omega) (by decide)
        generalize e1282 : x_up h1270 52 (12 * u1263 + u1268) v1277 = h1280 at j1281 f1283 f1284 ⊢
        refine x_iload (np := 73) (x := 4) (by decide +kernel) rfl (by decide) ?_
        refine x_ifz (k := 1) (tg := 92) (np := 76) (by decide +kernel) (by decide) (by decide) (fun q1285 => ?_) (fun q1286 => ?_)
        · have q1285 : 2147483649 ≠ 2147483648 := q1285
          refine x_aload (np := 93) (x := 0) (by decide +kernel) rfl (x_nc_le (by decide)) ?_
          refine x_iload (np := 94) (x := 2) (by decide +kernel) rfl (by first | decide | omega) ?_
          refine x_iload (np := 95) (x := 2) (by decide +kernel) rfl (by first | decide | omega) ?_
          refine x_iload (np := 96) (x := 1) (by decide +kernel) rfl la1 ?_
          refine x_nI (t := 7) (mj := 150) (n := 2) (rc := 0) (ml := 2) (nr := 2) (np := 99) (as := [iv_c v1196, iv_c a1]) (rest := [iv_c v1196, x_r 45]) (lo1 := [iv_c v1196, iv_c a1]) (by decide +kernel) (by decide) (by decide +kernel) (Or.inl rfl) rfl rfl (x_wi (by first | decide | omega) (x_wi la1 x_wn)) (x_wi (by first | decide | omega) (x_wr (by decide) x_wn)) (by decide) rfl ?_
          refine x_iload (np := 1) (x := 0) (by decide +kernel) rfl (by first | decide | omega) ?_
          refine x_const (np := 3) (x := 9223372090541867020) (a := 2147483660) (by decide +kernel) (by decide) (by decide) ?_
          refine x_imul (np := 4) (x := 0) (i := u1263) (j := 12) (v := (2147483648 + 12 * u1263)) (by decide +kernel) (by first | decide | omega) (by first | decide | omega) (by first | decide | omega) (by first | decide | omega) (by first | decide | omega) (by decide) ?_
          refine x_iload (np := 5) (x := 1) (by decide +kernel) rfl la1 ?_
          refine x_iadd (np := 6) (x := 0) (v := (12 * u1263 + a1)) (by decide +kernel) (by first | decide | omega) la1 (by first | decide | omega) (by first | decide | omega) ?_
          refine x_retI (np := 7) (x := 0) (by decide +kernel) (by first | decide | omega) (Or.inl (by decide +kernel)) ⟨_, rfl, (by first | decide | omega), ?_⟩
          refine x_const (np := 101) (x := 9223372129196572693) (a := 2147483669) (by decide +kernel) (by decide) (by decide) ?_
          refine x_imul (np := 102) (x := 0) (i := (12 * u1263 + u1268)) (j := 21) (v := (2147483648 + 252 * u1263 + 21 * u1268)) (by decide +kernel) (by first | decide | omega) (by first | decide | omega) (by first | decide | omega) (by first | decide | omega) (by first | decide | omega) (by decide) ?_
          refine x_cV (t := 6) (mj := 27) (n := 3) (rc := 2) (ml := 4) (nr := 0) (np := 105) (as := [x_r 45, iv_c v1196, iv_c (2147483648 + 252 * u1263 + 21 * u1268)]) (rest := []) (lo1 := [x_r 45, iv_c v1196, iv_c (2147483648 + 252 * u1263 + 21 * u1268), 147573952589676412928]) (by decide +kernel) (by decide) (by decide +kernel) (x_rb_of (by decide +kernel)) rfl rfl (x_wr (by decide) (x_wi (by first | decide | omega) (x_wi (by first | decide | omega) x_wn))) x_wn (by decide) rfl (c27_45 j1281  (by first | decide | omega) (by first | decide | omega)) (fun h1292 q1291 => ?_)
          obtain ⟨j1293, f1294⟩ := q1291
          have f1297 := Fr.trans f1283 f1294 (by decide)
          have f1298 := Fr.trans f1284 f1294 (by decide)
          refine x_iinc (np := 108) (i := 2) (j := 2147483649) (v := (1 + v1196)) (lo' := [x_r 45, iv_c a1, iv_c (1 + v1196), iv_c v1214, iv_c 2147483649]) (by decide +kernel) (by decide) (by decide) rfl (by first | decide | omega) (by first | decide | omega) (by first | decide | omega) rfl ?_
          refine x_goto (np := 111) (x := 2) (by decide +kernel) ?_
          exact i1205 (1 + v1196) (iv_c v1214) (iv_c 2147483649) h1292 (by first | decide | omega) (by first | decide | omega) j1293 f1298
        have q1286 : ¬ (2147483649 ≠ 2147483648) := q1286
        exfalso; omega
      have q1259 : ¬ (2147483654 ≤ v1214) := q1259
      refine x_aload (np := 11) (x := 0) (by decide +kernel) rfl (x_nc_le (by decide)) ?_
      have q1299 : h1200 45 0 = 46 := by have z := jB (e := 0) 0 j1202 rg_45_0_0_1 (by decide) (by decide); omega
      refine x_getR (np := 14) (x := 64) (f := 0) (q := 46) (by decide +kernel) (by decide) (by decide +kernel) q1299 ?_
      refine x_iload (np := 15) (x := 1) (by decide +kernel) rfl l1215 ?_
      obtain ⟨u1300, q1301⟩ : ∃ z, v1214 = 2147483648 + z := ⟨v1214 - 2147483648, by first | decide | omega⟩
      refine x_aldC (np := 16) (x := 0) (n := 6) (i := u1300) (q := (h1200 46 u1300)) (by decide +kernel) (by decide +kernel) (by first | decide | omega) (by first | decide | omega) (by decide) rfl (fun l1302 => ?_)
      refine x_iload (np := 17) (x := 2) (by decide +kernel) rfl la1 ?_
      refine x_cP (t := 7) (mj := 148) (n := 2) (rc := 0) (ml := 2) (nr := 0) (np := 20) (as := [iv_c (h1200 46 u1300), iv_c a1]) (rest := []) (lo1 := [iv_c (h1200 46 u1300), iv_c a1]) (by decide +kernel) (by decide) (by decide +kernel) (Or.inl rfl) rfl rfl (x_wi l1302 (x_wi la1 x_wn)) x_wn (by decide) rfl (c148 j1202 (by first | decide | omega) (by first | decide | omega)) (fun v1303 l1304 q1305 => ?_)
      refine x_ifz (k := 0) (tg := 27) (np := 23) (by decide +kernel) (by decide) l1304 (fun q1306 => ?_) (fun q1307 => ?_)
      · have q1306 : v1303 = 2147483648 := q1306
        refine x_const (np := 28) (x := 9223372039002259456) (a := 2147483648) (by decide +kernel) (by decide) (by decide) ?_
        refine x_retI (np := 29) (x := 0) (by decide +kernel) (by decide) (Or.inr ⟨by decide +kernel, by first | decide | omega, by first | decide | omega⟩) ⟨_, rfl, (by decide), ?_⟩
        refine x_ifz (k := 1) (tg := 32) (np := 28) (by decide +kernel) (by decide) (by decide) (fun q1308 => ?_) (fun q1309 => ?_)
        · have q1308 : 2147483648 ≠ 2147483648 := q1308
          exfalso; omega
        have q1309 : ¬ (2147483648 ≠ 2147483648) := q1309
        refine x_const (np := 29) (x := 9223372043297226753) (a := 2147483649) (by decide +kernel) (by decide) (by decide) ?_
        refine x_goto (np := 32) (x := 33) (by decide +kernel) ?_
        refine x_istore (np := 35) (x := 4) (lo' := [x_r 45, iv_c a1, iv_c v1196, iv_c v1214, iv_c 2147483649]) (by decide +kernel) (by decide) (Nat.le_of_ble_eq_true rfl) rfl ?_
        refine x_aload (np := 36) (x := 0) (by decide +kernel) rfl (x_nc_le (by decide)) ?_
        have q1310 : h1200 45 6 = 51 := by have z := jB (e := 6) 0 j1202 rg_45_6_0_1 (by decide) (by decide); omega
        refine x_getR (np := 39) (x := 70) (f := 6) (q := 51) (by decide +kernel) (by decide) (by decide +kernel) q1310 ?_
        refine x_iload (np := 40) (x := 2) (by decide +kernel) rfl (by first | decide | omega) ?_
        refine x_iload (np := 41) (x := 1) (by decide +kernel) rfl la1 ?_
        refine x_nI (t := 7) (mj := 150) (n := 2) (rc := 0) (ml := 2) (nr := 1) (np := 44) (as := [iv_c v1196, iv_c a1]) (rest := [x_r 51]) (lo1 := [iv_c v1196, iv_c a1]) (by decide +kernel) (by decide) (by decide +kernel) (Or.inl rfl) rfl rfl (x_wi (by first | decide | omega) (x_wi la1 x_wn)) (x_wr (by decide) x_wn) (by decide) rfl ?_
        refine x_iload (np := 1) (x := 0) (by decide +kernel) rfl (by first | decide | omega) ?_
        refine x_const (np := 3) (x := 9223372090541867020) (a := 2147483660) (by decide +kernel) (by decide) (by decide) ?_
        obtain ⟨u1311, q1312⟩ : ∃ z, v1196 = 2147483648 + z := ⟨v1196 - 2147483648, by first | decide | omega⟩
        refine x_imul (np := 4) (x := 0) (i := u1311) (j := 12) (v := (2147483648 + 12 * u1311)) (by decide +kernel) (by first | decide | omega) (by first | decide | omega) (by first | decide | omega) (by first | decide | omega) (by first | decide | omega) (by decide) ?_
        refine x_iload (np := 5) (x := 1) (by decide +kernel) rfl la1 ?_
        refine x_iadd (np := 6) (x := 0) (v := (12 * u1311 + a1)) (by decide +kernel) (by first | decide | omega) la1 (by first | decide | omega) (by first | decide | omega) ?_
        refine x_retI (np := 7) (x := 0) (by decide +kernel) (by first | decide | omega) (Or.inl (by decide +kernel)) ⟨_, rfl, (by first | decide | omega), ?_⟩
        refine x_iload (np := 46) (x := 4) (by decide +kernel) rfl (by decide) ?_
        refine x_ifz (k := 0) (tg := 53) (np := 49) (by decide +kernel) (by decide) (by decide) (fun q1314 => ?_) (fun q1315 => ?_)
        · have q1314 : 2147483649 = 2147483648 := q1314
          exfalso; omega
        have q1315 : ¬ (2147483649 = 2147483648) := q1315
        refine x_const (np := 50) (x := 9223372034707292159) (a := 2147483647) (by decide +kernel) (by decide) (by decide) ?_
        refine x_goto (np := 53) (x := 54) (by decide +kernel) ?_
        obtain ⟨u1316, q1317⟩ : ∃ z, a1 = 2147483648 + z := ⟨a1 - 2147483648, by first | decide | omega⟩
        refine x_ast (np := 55) (x := 0) (kd := 1) (n := 72) (i := (12 * u1311 + u1316)) (by decide +kernel) (Or.inl rfl) (by decide +kernel) (by first | decide | omega) (by first | decide | omega) (by decide) (by decide) (fun z => absurd z (by decide)) ?_
        have j1319 := jU (e := (12 * u1311 + u1316)) (v := 2147483647) (12 * u1311 + u1316) j1202 rg_51_0_1_72 (by first | decide | omega) (by first | decide | omega) (by first | decide | omega)
        have f1321 := jF (e := (12 * u1311 + u1316)) (v := 2147483647) (12 * u1311 + u1316) f1206 rg_51_0_1_72 (by first | decide | omega) (by first | decide | omega) (by decide)
        have f1322 := jF (e := (12 * u1311 + u1316)) (v := 2147483647) (12 * u1311 + u1316) f1201 rg_51_0_1_72 (by first | decide | omega) (by first | decide | omega) (by decide)
        generalize e1320 : x_up h1200 51 (12 * u1311 + u1316) 2147483647 = h1318 at j1319 f1321 f1322 ⊢
        refine x_aload (np := 56) (x := 0) (by decide +kernel) rfl (x_nc_le (by decide)) ?_
        have q1323 : h1318 45 7 = 52 := by have z := jB (e := 7) 0 j1319 rg_45_7_0_1 (by decide) (by decide); omega
        refine x_getR (np := 59) (x := 71) (f := 7) (q := 52) (by decide +kernel) (by decide) (by decide +kernel) q1323 ?_
        refine x_iload (np := 60) (x := 2) (by decide +kernel) rfl (by first | decide | omega) ?_
        refine x_iload (np := 61) (x := 1) (by decide +kernel) rfl la1 ?_
        refine x_nI (t := 7) (mj := 150) (n := 2) (rc := 0) (ml := 2) (nr := 1) (np := 64) (as := [iv_c v1196, iv_c a1]) (rest := [x_r 52]) (lo1 := [iv_c v1196, iv_c a1]) (by decide +kernel) (by decide) (by decide +kernel) (Or.inl rfl) rfl rfl (x_wi (by first | decide | omega) (x_wi la1 x_wn)) (x_wr (by decide) x_wn) (by decide) rfl ?_
        refine x_iload (np := 1) (x := 0) (by decide +kernel) rfl (by first | decide | omega) ?_
        refine x_const (np := 3) (x := 9223372090541867020) (a := 2147483660) (by decide +kernel) (by decide) (by decide) ?_
        refine x_imul (np := 4) (x := 0) (i := u1311) (j := 12) (v := (2147483648 + 12 * u1311)) (by decide +kernel) (by first | decide | omega) (by first | decide | omega) (by first | decide | omega) (by first | decide | omega) (by first | decide | omega) (by decide) ?_
        refine x_iload (np := 5) (x := 1) (by decide +kernel) rfl la1 ?_
        refine x_iadd (np := 6) (x := 0) (v := (12 * u1311 + a1)) (by decide +kernel) (by first | decide | omega) la1 (by first | decide | omega) (by first | decide | omega) ?_
        refine x_retI (np := 7) (x := 0) (by decide +kernel) (by first | decide | omega) (Or.inl (by decide +kernel)) ⟨_, rfl, (by first | decide | omega), ?_⟩
        refine x_aload (np := 65) (x := 0) (by decide +kernel) rfl (x_nc_le (by decide)) ?_
        refine x_iload (np := 66) (x := 2) (by decide +kernel) rfl (by first | decide | omega) ?_
        refine x_iload (np := 67) (x := 1) (by decide +kernel) rfl la1 ?_
        refine x_cP (t := 6) (mj := 28) (n := 3) (rc := 2) (ml := 3) (nr := 2) (np := 70) (as := [x_r 45, iv_c v1196, iv_c a1]) (rest := [iv_c (12 * u1311 + a1), x_r 52]) (lo1 := [x_r 45, iv_c v1196, iv_c a1]) (by decide +kernel) (by decide) (by decide +kernel) (x_rb_of (by decide +kernel)) rfl rfl (x_wr (by decide) (x_wi (by first | decide | omega) (x_wi la1 x_wn))) (x_wi (by first | decide | omega) (x_wr (by decide) x_wn)) (by decide) rfl (c28_45 j1319  (by first | decide | omega) (by first | decide | omega)) (fun v1325 l1326 q1327 => ?_)
        refine x_ast (np := 71) (x := 0) (kd := 1) (n := 72) (i := (12 * u1311 + u1316)) (by decide +kernel) (Or.inl rfl) (by decide +kernel) (by first | decide | omega) (by first | decide | omega) (by decide) l1326 (fun z => absurd z (by decide)) ?_
        have j1329 := jU (e := (12 * u1311 + u1316)) (v := v1325) (12 * u1311 + u1316) j1319 rg_52_0_1_72 (by first | decide | omega) (by first | decide | omega) (by first | decide | omega)
        have f1331 := jF (e := (12 * u1311 + u1316)) (v := v1325) (12 * u1311 + u1316) f1321 rg_52_0_1_72 (by first | decide | omega) (by first | decide | omega) (by decide)
        have f1332 := jF (e := (12 * u1311 + u1316)) (v := v1325) (12 * u1311 + u1316) f1322 rg_52_0_1_72 (by first | decide | omega) (by first | decide | omega) (by decide)
        generalize e1330 : x_up h1318 52 (12 * u1311 + u1316) v1325 = h1328 at j1329 f1331 f1332 ⊢
        refine x_iload (np := 73) (x := 4) (by decide +kernel) rfl (by decide) ?_
        refine x_ifz (k := 1) (tg := 92) (np := 76) (by decide +kernel) (by decide) (by decide) (fun q1333 => ?_) (fun q1334 => ?_)
        · have q1333 : 2147483649 ≠ 2147483648 := q1333
          refine x_aload (np := 93) (x := 0) (by decide +kernel) rfl (x_nc_le (by decide)) ?_
          refine x_iload (np := 94) (x := 2) (by decide +kernel) rfl (by first | decide | omega) ?_
          refine x_iload (np := 95) (x := 2) (by decide +kernel) rfl (by first | decide | omega) ?_
          refine x_iload (np := 96) (x := 1) (by decide +kernel) rfl la1 ?_
          refine x_nI (t := 7) (mj := 150) (n := 2) (rc := 0) (ml := 2) (nr := 2) (np := 99) (as := [iv_c v1196, iv_c a1]) (rest := [iv_c v1196, x_r 45]) (lo1 := [iv_c v1196, iv_c a1]) (by decide +kernel) (by decide) (by decide +kernel) (Or.inl rfl) rfl rfl (x_wi (by first | decide | omega) (x_wi la1 x_wn)) (x_wi (by first | decide | omega) (x_wr (by decide) x_wn)) (by decide) rfl ?_
          refine x_iload (np := 1) (x := 0) (by decide +kernel) rfl (by first | decide | omega) ?_
          refine x_const (np := 3) (x := 9223372090541867020) (a := 2147483660) (by decide +kernel) (by decide) (by decide) ?_
          refine x_imul (np := 4) (x := 0) (i := u1311) (j := 12) (v := (2147483648 + 12 * u1311)) (by decide +kernel) (by first | decide | omega) (by first | decide | omega) (by first | decide | omega) (by first | decide | omega) (by first | decide | omega) (by decide) ?_
          refine x_iload (np := 5) (x := 1) (by decide +kernel) rfl la1 ?_
          refine x_iadd (np := 6) (x := 0) (v := (12 * u1311 + a1)) (by decide +kernel) (by first | decide | omega) la1 (by first | decide | omega) (by first | decide | omega) ?_
          refine x_retI (np := 7) (x := 0) (by decide +kernel) (by first | decide | omega) (Or.inl (by decide +kernel)) ⟨_, rfl, (by first | decide | omega), ?_⟩
          refine x_const (np := 101) (x := 9223372129196572693) (a := 2147483669) (by decide +kernel) (by decide) (by decide) ?_
          refine x_imul (np := 102) (x := 0) (i := (12 * u1311 + u1316)) (j := 21) (v := (2147483648 + 252 * u1311 + 21 * u1316)) (by decide +kernel) (by first | decide | omega) (by first | decide | omega) (by first | decide | omega) (by first | decide | omega) (by first | decide | omega) (by decide) ?_
          refine x_cV (t := 6) (mj := 27) (n := 3) (rc := 2) (ml := 4) (nr := 0) (np := 105) (as := [x_r 45, iv_c v1196, iv_c (2147483648 + 252 * u1311 + 21 * u1316)]) (rest := []) (lo1 := [x_r 45, iv_c v1196, iv_c (2147483648 + 252 * u1311 + 21 * u1316), 147573952589676412928]) (by decide +kernel) (by decide) (by decide +kernel) (x_rb_of (by decide +kernel)) rfl rfl (x_wr (by decide) (x_wi (by first | decide | omega) (x_wi (by first | decide | omega) x_wn))) x_wn (by decide) rfl (c27_45 j1329  (by first | decide | omega) (by first | decide | omega)) (fun h1340 q1339 => ?_)
          obtain ⟨j1341, f1342⟩ := q1339
          have f1345 := Fr.trans f1331 f1342 (by decide)
          have f1346 := Fr.trans f1332 f1342 (by decide)
          refine x_iinc (np := 108) (i := 2) (j := 2147483649) (v := (1 + v1196)) (lo' := [x_r 45, iv_c a1, iv_c (1 + v1196), iv_c v1214, iv_c 2147483649]) (by decide +kernel) (by decide) (by decide) rfl (by first | decide | omega) (by first | decide | omega) (by first | decide | omega) rfl ?_
          refine x_goto (np := 111) (x := 2) (by decide +kernel) ?_
          exact i1205 (1 + v1196) (iv_c v1214) (iv_c 2147483649) h1340 (by first | decide | omega) (by first | decide | omega) j1341 f1346
        have q1334 : ¬ (2147483649 ≠ 2147483648) := q1334
        exfalso; omega
      have q1307 : ¬ (v1303 = 2147483648) := q1307
      refine x_const (np := 24) (x := 9223372043297226753) (a := 2147483649) (by decide +kernel) (by decide) (by decide) ?_
      refine x_goto (np := 27) (x := 28) (by decide +kernel) ?_
      refine x_retI (np := 29) (x := 0) (by decide +kernel) (by decide) (Or.inr ⟨by decide +kernel, by first | decide | omega, by first | decide | omega⟩) ⟨_, rfl, (by decide), ?_⟩
      refine x_ifz (k := 1) (tg := 32) (np := 28) (by decide +kernel) (by decide) (by decide) (fun q1347 => ?_) (fun q1348 => ?_)
      · have q1347 : 2147483649 ≠ 2147483648 := q1347
        refine x_const (np := 33) (x := 9223372039002259456) (a := 2147483648) (by decide +kernel) (by decide) (by decide) ?_
        refine x_istore (np := 35) (x := 4) (lo' := [x_r 45, iv_c a1, iv_c v1196, iv_c v1214, iv_c 2147483648]) (by decide +kernel) (by decide) (Nat.le_of_ble_eq_true rfl) rfl ?_
        refine x_aload (np := 36) (x := 0) (by decide +kernel) rfl (x_nc_le (by decide)) ?_
        have q1349 : h1200 45 6 = 51 := by have z := jB (e := 6) 0 j1202 rg_45_6_0_1 (by decide) (by decide); omega
        refine x_getR (np := 39) (x := 70) (f := 6) (q := 51) (by decide +kernel) (by decide) (by decide +kernel) q1349 ?_
        refine x_iload (np := 40) (x := 2) (by decide +kernel) rfl (by first | decide | omega) ?_
        refine x_iload (np := 41) (x := 1) (by decide +kernel) rfl la1 ?_
        refine x_nI (t := 7) (mj := 150) (n := 2) (rc := 0) (ml := 2) (nr := 1) (np := 44) (as := [iv_c v1196, iv_c a1]) (rest := [x_r 51]) (lo1 := [iv_c v1196, iv_c a1]) (by decide +kernel) (by decide) (by decide +kernel) (Or.inl rfl) rfl rfl (x_wi (by first | decide | omega) (x_wi la1 x_wn)) (x_wr (by decide) x_wn) (by decide) rfl ?_
        refine x_iload (np := 1) (x := 0) (by decide +kernel) rfl (by first | decide | omega) ?_
        refine x_const (np := 3) (x := 9223372090541867020) (a := 2147483660) (by decide +kernel) (by decide) (by decide) ?_
        obtain ⟨u1350, q1351⟩ : ∃ z, v1196 = 2147483648 + z := ⟨v1196 - 2147483648, by first | decide | omega⟩
        refine x_imul (np := 4) (x := 0) (i := u1350) (j := 12) (v := (2147483648 + 12 * u1350)) (by decide +kernel) (by first | decide | omega) (by first | decide | omega) (by first | decide | omega) (by first | decide | omega) (by first | decide | omega) (by decide) ?_
        refine x_iload (np := 5) (x := 1) (by decide +kernel) rfl la1 ?_
        refine x_iadd (np := 6) (x := 0) (v := (12 * u1350 + a1)) (by decide +kernel) (by first | decide | omega) la1 (by first | decide | omega) (by first | decide | omega) ?_
        refine x_retI (np := 7) (x := 0) (by decide +kernel) (by first | decide | omega) (Or.inl (by decide +kernel)) ⟨_, rfl, (by first | decide | omega), ?_⟩
        refine x_iload (np := 46) (x := 4) (by decide +kernel) rfl (by decide) ?_
        refine x_ifz (k := 0) (tg := 53) (np := 49) (by decide +kernel) (by decide) (by decide) (fun q1353 => ?_) (fun q1354 => ?_)
        · have q1353 : 2147483648 = 2147483648 := q1353
          refine x_iload (np := 54) (x := 3) (by decide +kernel) rfl l1215 ?_
          obtain ⟨u1355, q1356⟩ : ∃ z, a1 = 2147483648 + z := ⟨a1 - 2147483648, by first | decide | omega⟩
          refine x_ast (np := 55) (x := 0) (kd := 1) (n := 72) (i := (12 * u1350 + u1355)) (by decide +kernel) (Or.inl rfl) (by decide +kernel) (by first | decide | omega) (by first | decide | omega) (by decide) l1215 (fun z => absurd z (by decide)) ?_
          have j1358 := jU (e := (12 * u1350 + u1355)) (v := v1214) (12 * u1350 + u1355) j1202 rg_51_0_1_72 (by first | decide | omega) (by first | decide | omega) (by first | decide | omega)
          have f1360 := jF (e := (12 * u1350 + u1355)) (v := v1214) (12 * u1350 + u1355) f1206 rg_51_0_1_72 (by first | decide | omega) (by first | decide | omega) (by decide)
          have f1361 := jF (e := (12 * u1350 + u1355)) (v := v1214) (12 * u1350 + u1355) f1201 rg_51_0_1_72 (by first | decide | omega) (by first | decide | omega) (by decide)
          generalize e1359 : x_up h1200 51 (12 * u1350 + u1355) v1214 = h1357 at j1358 f1360 f1361 ⊢
          refine x_aload (np := 56) (x := 0) (by decide +kernel) rfl (x_nc_le (by decide)) ?_
          have q1362 : h1357 45 7 = 52 := by have z := jB (e := 7) 0 j1358 rg_45_7_0_1 (by decide) (by decide); omega
          refine x_getR (np := 59) (x := 71) (f := 7) (q := 52) (by decide +kernel) (by decide) (by decide +kernel) q1362 ?_
          refine x_iload (np := 60) (x := 2) (by decide +kernel) rfl (by first | decide | omega) ?_
          refine x_iload (np := 61) (x := 1) (by decide +kernel) rfl la1 ?_
          refine x_nI (t := 7) (mj := 150) (n := 2) (rc := 0) (ml := 2) (nr := 1) (np := 64) (as := [iv_c v1196, iv_c a1]) (rest := [x_r 52]) (lo1 := [iv_c v1196, iv_c a1]) (by decide +kernel) (by decide) (by decide +kernel) (Or.inl rfl) rfl rfl (x_wi (by first | decide | omega) (x_wi la1 x_wn)) (x_wr (by decide) x_wn) (by decide) rfl ?_
          refine x_iload (np := 1) (x := 0) (by decide +kernel) rfl (by first | decide | omega) ?_
          refine x_const (np := 3) (x := 9223372090541867020) (a := 2147483660) (by decide +kernel) (by decide) (by decide) ?_
          refine x_imul (np := 4) (x := 0) (i := u1350) (j := 12) (v := (2147483648 + 12 * u1350)) (by decide +kernel) (by first | decide | omega) (by first | decide | omega) (by first | decide | omega) (by first | decide | omega) (by first | decide | omega) (by decide) ?_
          refine x_iload (np := 5) (x := 1) (by decide +kernel) rfl la1 ?_
          refine x_iadd (np := 6) (x := 0) (v := (12 * u1350 + a1)) (by decide +kernel) (by first | decide | omega) la1 (by first | decide | omega) (by first | decide | omega) ?_
          refine x_retI (np := 7) (x := 0) (by decide +kernel) (by first | decide | omega) (Or.inl (by decide +kernel)) ⟨_, rfl, (by first | decide | omega), ?_⟩
          refine x_aload (np := 65) (x := 0) (by decide +kernel) rfl (x_nc_le (by decide)) ?_
          refine x_iload (np := 66) (x := 2) (by decide +kernel) rfl (by first | decide | omega) ?_
          refine x_iload (np := 67) (x := 1) (by decide +kernel) rfl la1 ?_
          refine x_cP (t := 6) (mj := 28) (n := 3) (rc := 2) (ml := 3) (nr := 2) (np := 70) (as := [x_r 45, iv_c v1196, iv_c a1]) (rest := [iv_c (12 * u1350 + a1), x_r 52]) (lo1 := [x_r 45, iv_c v1196, iv_c a1]) (by decide +kernel) (by decide) (by decide +kernel) (x_rb_of (by decide +kernel)) rfl rfl (x_wr (by decide) (x_wi (by first | decide | omega) (x_wi la1 x_wn))) (x_wi (by first | decide | omega) (x_wr (by decide) x_wn)) (by decide) rfl (c28_45 j1358  (by first | decide | omega) (by first | decide | omega)) (fun v1364 l1365 q1366 => ?_)
          refine x_ast (np := 71) (x := 0) (kd := 1) (n := 72) (i := (12 * u1350 + u1355)) (by decide +kernel) (Or.inl rfl) (by decide +kernel) (by first | decide | omega) (by first | decide | omega) (by decide) l1365 (fun z => absurd z (by decide)) ?_
          have j1368 := jU (e := (12 * u1350 + u1355)) (v := v1364) (12 * u1350 + u1355) j1358 rg_52_0_1_72 (by first | decide | omega) (by first | decide | omega) (by first | decide | omega)
          have f1370 := jF (e := (12 * u1350 + u1355)) (v := v1364) (12 * u1350 + u1355) f1360 rg_52_0_1_72 (by first | decide | omega) (by first | decide | omega) (by decide)
          have f1371 := jF (e := (12 * u1350 + u1355)) (v := v1364) (12 * u1350 + u1355) f1361 rg_52_0_1_72 (by first | decide | omega) (by first | decide | omega) (by decide)
          generalize e1369 : x_up h1357 52 (12 * u1350 + u1355) v1364 = h1367 at j1368 f1370 f1371 ⊢
          refine x_iload (np := 73) (x := 4) (by decide +kernel) rfl (by decide) ?_
          refine x_ifz (k := 1) (tg := 92) (np := 76) (by decide +kernel) (by decide) (by decide) (fun q1372 => ?_) (fun q1373 => ?_)
          · have q1372 : 2147483648 ≠ 2147483648 := q1372
            exfalso; omega
          have q1373 : ¬ (2147483648 ≠ 2147483648) := q1373
          refine x_aload (np := 77) (x := 0) (by decide +kernel) rfl (x_nc_le (by decide)) ?_
          have q1374 : h1367 45 1 = 47 := by have z := jB (e := 1) 0 j1368 rg_45_1_0_1 (by decide) (by decide); omega
          refine x_getR (np := 80) (x := 65) (f := 1) (q := 47) (by decide +kernel) (by decide) (by decide +kernel) q1374 ?_
          refine x_iload (np := 81) (x := 2) (by decide +kernel) rfl (by first | decide | omega) ?_
          refine x_iload (np := 82) (x := 3) (by decide +kernel) rfl l1215 ?_
          refine x_nI (t := 7) (mj := 149) (n := 2) (rc := 0) (ml := 2) (nr := 1) (np := 85) (as := [iv_c v1196, iv_c v1214]) (rest := [x_r 47]) (lo1 := [iv_c v1196, iv_c v1214]) (by decide +kernel) (by decide) (by decide +kernel) (Or.inl rfl) rfl rfl (x_wi (by first | decide | omega) (x_wi l1215 x_wn)) (x_wr (by decide) x_wn) (by decide) rfl ?_
          refine x_iload (np := 1) (x := 0) (by decide +kernel) rfl (by first | decide | omega) ?_
          refine x_const (np := 3) (x := 9223372064772063238) (a := 2147483654) (by decide +kernel) (by decide) (by decide) ?_
          refine x_imul (np := 4) (x := 0) (i := u1350) (j := 6) (v := (2147483648 + 6 * u1350)) (by decide +kernel) (by first | decide | omega) (by first | decide | omega) (by first | decide | omega) (by first | decide | omega) (by first | decide | omega) (by decide) ?_
          refine x_iload (np := 5) (x := 1) (by decide +kernel) rfl l1215 ?_
          refine x_iadd (np := 6) (x := 0) (v := (6 * u1350 + v1214)) (by decide +kernel) (by first | decide | omega) l1215 (by first | decide | omega) (by first | decide | omega) ?_
          refine x_retI (np := 7) (x := 0) (by decide +kernel) (by first | decide | omega) (Or.inl (by decide +kernel)) ⟨_, rfl, (by first | decide | omega), ?_⟩
          refine x_dup2 (np := 86) (x := 0) (by decide +kernel) (by have z := (iw_c_lt (a := (6 * u1350 + v1214)) (by first | decide | omega)).1; omega) (by have z := x_nc_le (k := 47) (by decide); unfold x_r; omega) ?_
          have q1376 : h1367 47 (6 * u1350 + u1300) = h1357 47 (6 * u1350 + u1300) := by rw [← e1369]; exact x_up_k (by decide)
          have q1377 : h1357 47 (6 * u1350 + u1300) = h1200 47 (6 * u1350 + u1300) := by rw [← e1359]; exact x_up_k (by decide)
          refine x_aldC (np := 87) (x := 0) (n := 36) (i := (6 * u1350 + u1300)) (q := ((h1200 47 (6 * u1350 + u1300)))) (by decide +kernel) (by decide +kernel) (by first | decide | omega) (by first | decide | omega) (by decide) (q1376.trans q1377) (fun l1378 => ?_)
          refine x_const (np := 88) (x := 9223372043297226753) (a := 2147483649) (by decide +kernel) (by decide) (by decide) ?_
          refine x_iload (np := 89) (x := 1) (by decide +kernel) rfl la1 ?_
          refine x_any (np := 90) (k9 := 3) (by decide +kernel) (by decide) (by decide) la1 (fun v1379 l1380 => ?_)
          refine x_any (np := 91) (k9 := 1) (by decide +kernel) (by decide) l1378 l1380 (fun v1381 l1382 => ?_)
          refine x_ast (np := 92) (x := 0) (kd := 1) (n := 36) (i := (6 * u1350 + u1300)) (by decide +kernel) (Or.inl rfl) (by decide +kernel) (by first | decide | omega) (by first | decide | omega) (by decide) l1382 (fun z => absurd z (by decide)) ?_
          have j1384 := jU (e := (6 * u1350 + u1300)) (v := v1381) (6 * u1350 + u1300) j1368 rg_47_0_1_36 (by first | decide | omega) (by first | decide | omega) (by first | decide | omega)
          have f1386 := jF (e := (6 * u1350 + u1300)) (v := v1381) (6 * u1350 + u1300) f1370 rg_47_0_1_36 (by first | decide | omega) (by first | decide | omega) (by decide)
          have f1387 := jF (e := (6 * u1350 + u1300)) (v := v1381) (6 * u1350 + u1300) f1371 rg_47_0_1_36 (by first | decide | omega) (by first | decide | omega) (by decide)
          generalize e1385 : x_up h1367 47 (6 * u1350 + u1300) v1381 = h1383 at j1384 f1386 f1387 ⊢
          refine x_aload (np := 93) (x := 0) (by decide +kernel) rfl (x_nc_le (by decide)) ?_
          refine x_iload (np := 94) (x := 2) (by decide +kernel) rfl (by first | decide | omega) ?_
          refine x_iload (np := 95) (x := 2) (by decide +kernel) rfl (by first | decide | omega) ?_
          refine x_iload (np := 96) (x := 1) (by decide +kernel) rfl la1 ?_
          refine x_nI (t := 7) (mj := 150) (n := 2) (rc := 0) (ml := 2) (nr := 2) (np := 99) (as := [iv_c v1196, iv_c a1]) (rest := [iv_c v1196, x_r 45]) (lo1 := [iv_c v1196, iv_c a1]) (by decide +kernel) (by decide) (by decide +kernel) (Or.inl rfl) rfl rfl (x_wi (by first | decide | omega) (x_wi la1 x_wn)) (x_wi (by first | decide | omega) (x_wr (by decide) x_wn)) (by decide) rfl ?_
          refine x_iload (np := 1) (x := 0) (by decide +kernel) rfl (by first | decide | omega) ?_
          refine x_const (np := 3) (x := 9223372090541867020) (a := 2147483660) (by decide +kernel) (by decide) (by decide) ?_
          refine x_imul (np := 4) (x := 0) (i := u1350) (j := 12) (v := (2147483648 + 12 * u1350)) (by decide +kernel) (by first | decide | omega) (by first | decide | omega) (by first | decide | omega) (by first | decide | omega) (by first | decide | omega) (by decide) ?_
          refine x_iload (np := 5) (x := 1) (by decide +kernel) rfl la1 ?_
          refine x_iadd (np := 6) (x := 0) (v := (12 * u1350 + a1)) (by decide +kernel) (by first | decide | omega) la1 (by first | decide | omega) (by first | decide | omega) ?_
          refine x_retI (np := 7) (x := 0) (by decide +kernel) (by first | decide | omega) (Or.inl (by decide +kernel)) ⟨_, rfl, (by first | decide | omega), ?_⟩
          refine x_const (np := 101) (x := 9223372129196572693) (a := 2147483669) (by decide +kernel) (by decide) (by decide) ?_
          refine x_imul (np := 102) (x := 0) (i := (12 * u1350 + u1355)) (j := 21) (v := (2147483648 + 252 * u1350 + 21 * u1355)) (by decide +kernel) (by first | decide | omega) (by first | decide | omega) (by first | decide | omega) (by first | decide | omega) (by first | decide | omega) (by decide) ?_
          refine x_cV (t := 6) (mj := 27) (n := 3) (rc := 2) (ml := 4) (nr := 0) (np := 105) (as := [x_r 45, iv_c v1196, iv_c (2147483648 + 252 * u1350 + 21 * u1355)]) (rest := []) (lo1 := [x_r 45, iv_c v1196, iv_c (2147483648 + 252 * u1350 + 21 * u1355), 147573952589676412928]) (by decide +kernel) (by decide) (by decide +kernel) (x_rb_of (by decide +kernel)) rfl rfl (x_wr (by decide) (x_wi (by first | decide | omega) (x_wi (by first | decide | omega) x_wn))) x_wn (by decide) rfl (c27_45 j1384  (by first | decide | omega) (by first | decide | omega)) (fun h1393 q1392 => ?_)
          obtain ⟨j1394, f1395⟩ := q1392
          have f1398 := Fr.trans f1386 f1395 (by decide)
          have f1399 := Fr.trans f1387 f1395 (by decide)
          refine x_iinc (np := 108) (i := 2) (j := 2147483649) (v := (1 + v1196)) (lo' := [x_r 45, iv_c a1, iv_c (1 + v1196), iv_c v1214, iv_c 2147483648]) (by decide +kernel) (by decide) (by decide) rfl (by first | decide | omega) (by first | decide | omega) (by first | decide | omega) rfl ?_
          refine x_goto (np := 111) (x := 2) (by decide +kernel) ?_
          exact i1205 (1 + v1196) (iv_c v1214) (iv_c 2147483648) h1393 (by first | decide | omega) (by first | decide | omega) j1394 f1399
        have q1354 : ¬ (2147483648 = 2147483648) := q1354
        exfalso; omega
      have q1348 : ¬ (2147483649 ≠ 2147483648) := q1348
      exfalso; omega
  exact p1203 _ 2147483648 147573952589676412928 147573952589676412928 h (Nat.lt_succ_self _) (by first | decide | omega) hJ (Fr.refl _ _)
set_option maxHeartbeats 0 in
/-- LentNames$Calendar.holdCourt(I)V -/
theorem c19_45 {sc : Nat × Nat} {d a1 : Nat} {h : xh} (hJ : J h) (ba1 : 2147483648 ≤ a1 ∧ a1 ≤ 2147483659) : X sc 19 (d + 3) (xV fun h' => J h' ∧ Fr 5121 h h') 0 0 0 [x_r 45, iv_c a1, 147573952589676412928, 147573952589676412928] [] h := by
  have la1 : a1 < 4294967296 := by first | decide | omega
  have hF := Fr.refl 5121 h
  refine x_const (np := 1) (x := 9223372039002259456) (a := 2147483648) (by decide +kernel) (by decide) (by decide) ?_
  refine x_istore (np := 2) (x := 2) (lo' := [x_r 45, iv_c a1, iv_c 2147483648, 147573952589676412928]) (by decide +kernel) (by decide) (Nat.le_of_ble_eq_true rfl) rfl ?_
  have p584 : ∀ (n : Nat) (v578 : Nat) (w580 : Nat) (h581 : xh), 4294967296 - v578 < n → (2147483648 ≤ v578 ∧ v578 ≤ 2147483654) → J h581 → Fr 5121 h h581 → X sc 19 (d + 3) (xV fun h' => J h' ∧ Fr 5121 h h') 0 0 2 [x_r 45, iv_c a1, iv_c v578, w580] [] h581 := by
    intro n
    induction n with
    | zero => intro v578 w580 h581 q585; exact absurd q585 (Nat.not_lt_zero _)
    | succ n i586 =>
      intro v578 w580 h581 q585 b579 j583 f582
      have f587 := Fr.trans hF f582 (by decide)
      refine x_iload (np := 3) (x := 2) (by decide +kernel) rfl (by first | decide | omega) ?_
      refine x_aload (np := 4) (x := 0) (by decide +kernel) rfl (x_nc_le (by decide)) ?_
      have q588 : h581 45 5 = h 45 5 := f582 45 5 (by decide +kernel)
      have t589 : tw (h 45 5) := hJ.2.2.2.1
      refine x_getR (np := 7) (x := 69) (f := 5) (q := (h 45 5)) (by decide +kernel) (by decide) (by decide +kernel) q588 ?_
      have q590 : h581 (h 45 5) 7 = h (h 45 5) 7 := jK 0 f582 (rg_T0_7_0_1 t589) (by first | decide | omega) (by first | decide | omega) (by decide)
      have b591 := jB (e := 7) 0 hJ (rg_T0_7_0_1 t589) (by first | decide | omega) (by first | decide | omega)
      refine x_getC (np := 10) (x := 519) (f := 7) (q := (h (h 45 5) 7)) (by decide +kernel) (by decide) (tg_0_519_7_0 t589) q590 (fun l592 => ?_)
      refine x_icmp (k := 3) (tg := 54) (np := 13) (by decide +kernel) (by decide) (by first | decide | omega) l592 (fun q593 => ?_) (fun q594 => ?_)
      · have q593 : (h (h 45 5) 7) ≤ v578 := q593
        refine x_retV (np := 55) (x := 0) (by decide +kernel) (by decide +kernel) ⟨rfl, ?_⟩
        exact ⟨j583, f587⟩
      have q594 : ¬ ((h (h 45 5) 7) ≤ v578) := q594
      refine x_aload (np := 14) (x := 0) (by decide +kernel) rfl (x_nc_le (by decide)) ?_
      have q595 : h581 45 12 = 57 := by have z := jB (e := 12) 0 j583 rg_45_12_0_1 (by decide) (by decide); omega
      refine x_getR (np := 17) (x := 76) (f := 12) (q := 57) (by decide +kernel) (by decide) (by decide +kernel) q595 ?_
      refine x_iload (np := 18) (x := 2) (by decide +kernel) rfl (by first | decide | omega) ?_
      obtain ⟨u596, q597⟩ : ∃ z, v578 = 2147483648 + z := ⟨v578 - 2147483648, by first | decide | omega⟩
      have b598 := jB (e := u596) u596 j583 rg_57_0_1_6 (by first | decide | omega) (by first | decide | omega)
      refine x_aldC (np := 19) (x := 0) (n := 6) (i := u596) (q := (h581 57 u596)) (by decide +kernel) (by decide +kernel) (by first | decide | omega) (by first | decide | omega) (by decide) rfl (fun l599 => ?_)
      refine x_const (np := 20) (x := 9223372043297226753) (a := 2147483649) (by decide +kernel) (by decide) (by decide) ?_
      obtain ⟨v600, q601⟩ : ∃ z, z + 2147483649 = (h581 57 u596) + 2147483648 := ⟨(h581 57 u596) + 2147483648 - 2147483649, by first | decide | omega⟩
      refine x_isub (np := 21) (x := 0) (v := v600) (by decide +kernel) l599 (by decide) (by first | decide | omega) (by first | decide | omega) ?_
      refine x_istore (np := 22) (x := 3) (lo' := [x_r 45, iv_c a1, iv_c v578, iv_c v600]) (by decide +kernel) (by first | decide | omega) (Nat.le_of_ble_eq_true rfl) rfl ?_
      have p654 : ∀ (n : Nat) (v649 : Nat) (h651 : xh), v649 < n → (2147483647 ≤ v649 ∧ v649 ≤ 2147483667) → J h651 → Fr 5121 h581 h651 → X sc 19 (d + 3) (xV fun h' => J h' ∧ Fr 5121 h h') 0 0 22 [x_r 45, iv_c a1, iv_c v578, iv_c v649] [] h651 := by
        intro n
        induction n with
        | zero => intro v649 h651 q655; exact absurd q655 (Nat.not_lt_zero _)
        | succ n i656 =>
          intro v649 h651 q655 b650 j653 f652
          have f657 := Fr.trans f587 f652 (by decide)
          have f658 := Fr.trans f582 f652 (by decide)
          refine x_iload (np := 23) (x := 3) (by decide +kernel) rfl (by first | decide | omega) ?_
          refine x_ifz (k := 2) (tg := 48) (np := 26) (by decide +kernel) (by decide) (by first | decide | omega) (fun q659 => ?_) (fun q660 => ?_)
          · have q659 : v649 < 2147483648 := q659
            refine x_iinc (np := 51) (i := 2) (j := 2147483649) (v := (1 + v578)) (lo' := [x_r 45, iv_c a1, iv_c (1 + v578), iv_c v649]) (by decide +kernel) (by decide) (by decide) rfl (by first | decide | omega) (by first | decide | omega) (by first | decide | omega) rfl ?_
            refine x_goto (np := 54) (x := 2) (by decide +kernel) ?_
            exact i586 (1 + v578) (iv_c v649) h651 (by first | decide | omega) (by first | decide | omega) j653 f658
          have q660 : ¬ (v649 < 2147483648) := q660
          refine x_aload (np := 27) (x := 0) (by decide +kernel) rfl (x_nc_le (by decide)) ?_
          refine x_iload (np := 28) (x := 2) (by decide +kernel) rfl (by first | decide | omega) ?_
          refine x_iload (np := 29) (x := 1) (by decide +kernel) rfl la1 ?_
          refine x_cP (t := 6) (mj := 29) (n := 3) (rc := 2) (ml := 3) (nr := 0) (np := 32) (as := [x_r 45, iv_c v578, iv_c a1]) (rest := []) (lo1 := [x_r 45, iv_c v578, iv_c a1]) (by decide +kernel) (by decide) (by decide +kernel) (x_rb_of (by decide +kernel)) rfl rfl (x_wr (by decide) (x_wi (by first | decide | omega) (x_wi la1 x_wn))) x_wn (by decide) rfl (c29_45 j653  (by first | decide | omega) (by first | decide | omega)) (fun v661 l662 q663 => ?_)
          refine x_ifz (k := 1) (tg := 48) (np := 35) (by decide +kernel) (by decide) l662 (fun q664 => ?_) (fun q665 => ?_)
          · have q664 : v661 ≠ 2147483648 := q664
            refine x_iinc (np := 51) (i := 2) (j := 2147483649) (v := (1 + v578)) (lo' := [x_r 45, iv_c a1, iv_c (1 + v578), iv_c v649]) (by decide +kernel) (by decide) (by decide) rfl (by first | decide | omega) (by first | decide | omega) (by first | decide | omega) rfl ?_
            refine x_goto (np := 54) (x := 2) (by decide +kernel) ?_
            exact i586 (1 + v578) (iv_c v649) h651 (by first | decide | omega) (by first | decide | omega) j653 f658
          have q665 : ¬ (v661 ≠ 2147483648) := q665
          refine x_aload (np := 36) (x := 0) (by decide +kernel) rfl (x_nc_le (by decide)) ?_
          refine x_iload (np := 37) (x := 2) (by decide +kernel) rfl (by first | decide | omega) ?_
          refine x_iload (np := 38) (x := 3) (by decide +kernel) rfl (by first | decide | omega) ?_
          refine x_iload (np := 39) (x := 1) (by decide +kernel) rfl la1 ?_
          refine x_cV (t := 6) (mj := 18) (n := 4) (rc := 2) (ml := 5) (nr := 0) (np := 42) (as := [x_r 45, iv_c v578, iv_c v649, iv_c a1]) (rest := []) (lo1 := [x_r 45, iv_c v578, iv_c v649, iv_c a1, 147573952589676412928]) (by decide +kernel) (by decide) (by decide +kernel) (x_rb_of (by decide +kernel)) rfl rfl (x_wr (by decide) (x_wi (by first | decide | omega) (x_wi (by first | decide | omega) (x_wi la1 x_wn)))) x_wn (by decide) rfl (c18_45 j653  (by first | decide | omega) (by first | decide | omega) (by first | decide | omega)) (fun h669 q668 => ?_)
          obtain ⟨j670, f671⟩ := q668
          have f674 := Fr.trans f657 f671 (by decide)
          have f675 := Fr.trans f658 f671 (by decide)
          have f676 := Fr.trans f652 f671 (by decide)
          obtain ⟨v677, q678⟩ : ∃ z, z + 1 = v649 := ⟨v649 - 1, by first | decide | omega⟩
          refine x_iinc (np := 45) (i := 3) (j := 2147483647) (v := v677) (lo' := [x_r 45, iv_c a1, iv_c v578, iv_c v677]) (by decide +kernel) (by decide) (by decide) rfl (by first | decide | omega) (by first | decide | omega) (by first | decide | omega) rfl ?_
          refine x_goto (np := 48) (x := 22) (by decide +kernel) ?_
          exact i656 v677 h669 (by first | decide | omega) (by first | decide | omega) j670 f676
      exact p654 _ v600 h581 (Nat.lt_succ_self _) (by first | decide | omega) j583 (Fr.refl _ _)
  exact p584 _ 2147483648 147573952589676412928 h (Nat.lt_succ_self _) (by first | decide | omega) hJ (Fr.refl _ _)
set_option maxHeartbeats 0 in
/-- LentNames$Calendar.live(LLentNames$Town;)V -/
theorem c4_45_T0 {sc : Nat × Nat} {d ra1 : Nat} {h : xh} (hJ : J h) (ta1 : tw ra1) : X sc 4 (d + 5) (xV fun h' => J h' ∧ Fr 140737488363009 h h') 0 0 0 [x_r 45, x_r ra1, 147573952589676412928] [] h := by
  have hF := Fr.refl 140737488363009 h
  refine x_aload (np := 1) (x := 0) (by decide +kernel) rfl (x_nc_le (by decide)) ?_
  refine x_aload (np := 2) (x := 1) (by decide +kernel) rfl (x_nc_le (tn_0 ta1)) ?_
  refine x_putR (np := 5) (x := 8261) (f := 5) (by decide +kernel) (by decide +kernel) (tn_0 ta1) (by decide) ?_
  have j2 := J_upW (k := 45) (i := 5) hJ ta1 (by decide)
  have f4 := Fr.up (k := 45) (i := 5) (v := ra1) hF (by decide +kernel)
  generalize e3 : x_up h 45 5 ra1 = h1 at j2 f4 ⊢
  refine x_aload (np := 6) (x := 0) (by decide +kernel) rfl (x_nc_le (by decide)) ?_
  refine x_cV (t := 6) (mj := 16) (n := 1) (rc := 2) (ml := 2) (nr := 0) (np := 9) (as := [x_r 45]) (rest := []) (lo1 := [x_r 45, 147573952589676412928]) (by decide +kernel) (by decide) (by decide +kernel) (x_rb_of (by decide +kernel)) rfl rfl (x_wr (by decide) x_wn) x_wn (by decide) rfl (c16_45 j2 ) (fun h8 q7 => ?_)
  obtain ⟨j9, f10⟩ := q7
  have f13 := Fr.trans f4 f10 (by decide)
  refine x_const (np := 10) (x := 9223372039002259456) (a := 2147483648) (by decide +kernel) (by decide) (by decide) ?_
  refine x_istore (np := 11) (x := 2) (lo' := [x_r 45, x_r ra1, iv_c 2147483648]) (by decide +kernel) (by decide) (Nat.le_of_ble_eq_true rfl) rfl ?_
  have p1125 : ∀ (n : Nat) (v1120 : Nat) (h1122 : xh), 4294967296 - v1120 < n → (2147483648 ≤ v1120 ∧ v1120 ≤ 2147483660) → J h1122 → Fr 140737488362497 h8 h1122 → X sc 4 (d + 5) (xV fun h' => J h' ∧ Fr 140737488363009 h h') 0 0 11 [x_r 45, x_r ra1, iv_c v1120] [] h1122 := by
    intro n
    induction n with
    | zero => intro v1120 h1122 q1126; exact absurd q1126 (Nat.not_lt_zero _)
    | succ n i1127 =>
      intro v1120 h1122 q1126 b1121 j1124 f1123
      have f1128 := Fr.trans f13 f1123 (by decide)
      refine x_iload (np := 12) (x := 2) (by decide +kernel) rfl (by first | decide | omega) ?_
      refine x_const (np := 14) (x := 9223372090541867020) (a := 2147483660) (by decide +kernel) (by decide) (by decide) ?_
      refine x_icmp (k := 3) (tg := 62) (np := 17) (by decide +kernel) (by decide) (by first | decide | omega) (by decide) (fun q1129 => ?_) (fun q1130 => ?_)
      · have q1129 : 2147483660 ≤ v1120 := q1129
        refine x_retV (np := 63) (x := 0) (by decide +kernel) (by decide +kernel) ⟨rfl, ?_⟩
        exact ⟨j1124, f1128⟩
      have q1130 : ¬ (2147483660 ≤ v1120) := q1130
      refine x_aload (np := 18) (x := 0) (by decide +kernel) rfl (x_nc_le (by decide)) ?_
      refine x_iload (np := 19) (x := 2) (by decide +kernel) rfl (by first | decide | omega) ?_
      refine x_cV (t := 6) (mj := 17) (n := 2) (rc := 2) (ml := 4) (nr := 0) (np := 22) (as := [x_r 45, iv_c v1120]) (rest := []) (lo1 := [x_r 45, iv_c v1120, 147573952589676412928, 147573952589676412928]) (by decide +kernel) (by decide) (by decide +kernel) (x_rb_of (by decide +kernel)) rfl rfl (x_wr (by decide) (x_wi (by first | decide | omega) x_wn)) x_wn (by decide) rfl (c17_45 j1124  (by first | decide | omega)) (fun h1134 q1133 => ?_)
      obtain ⟨j1135, f1136⟩ := q1133
      have f1139 := Fr.trans f1128 f1136 (by decide)
      have f1140 := Fr.trans f1123 f1136 (by decide)
      refine x_aload (np := 23) (x := 0) (by decide +kernel) rfl (x_nc_le (by decide)) ?_
      have q1141 : h1134 45 5 = h1122 45 5 := f1136 45 5 (by decide +kernel)
      have q1142 : h1122 45 5 = h8 45 5 := f1123 45 5 (by decide +kernel)
      have q1143 : h8 45 5 = h1 45 5 := f10 45 5 (by decide +kernel)
      have q1144 : h1 45 5 = ra1 := by rw [← e3]; exact x_up_at
      refine x_getR (np := 26) (x := 69) (f := 5) (q := ra1) (by decide +kernel) (by decide) (by decide +kernel) (((q1141.trans q1142).trans q1143).trans q1144) ?_
      have q1145 : h1134 ra1 9 = h1122 ra1 9 := jK 0 f1136 (rg_T0_9_0_1 ta1) (by first | decide | omega) (by first | decide | omega) (by decide)
      have q1146 : h1122 ra1 9 = h8 ra1 9 := jK 0 f1123 (rg_T0_9_0_1 ta1) (by first | decide | omega) (by first | decide | omega) (by decide)
      have q1147 : h8 ra1 9 = h1 ra1 9 := jK 0 f10 (rg_T0_9_0_1 ta1) (by first | decide | omega) (by first | decide | omega) (by decide)
      have q1148 : h1 ra1 9 = h ra1 9 := by rw [← e3]; exact x_up_k (tne_0_45 ta1)
      refine x_getC (np := 29) (x := 521) (f := 9) (q := (h ra1 9)) (by decide +kernel) (by decide) (tg_0_521_9_0 ta1) (((q1145.trans q1146).trans q1147).trans q1148) (fun l1149 => ?_)
      refine x_iload (np := 30) (x := 2) (by decide +kernel) rfl (by first | decide | omega) ?_
      refine x_cP (t := 7) (mj := 148) (n := 2) (rc := 0) (ml := 2) (nr := 0) (np := 33) (as := [iv_c (h ra1 9), iv_c v1120]) (rest := []) (lo1 := [iv_c (h ra1 9), iv_c v1120]) (by decide +kernel) (by decide) (by decide +kernel) (Or.inl rfl) rfl rfl (x_wi l1149 (x_wi (by first | decide | omega) x_wn)) x_wn (by decide) rfl (c148 j1135 (by first | decide | omega) (by first | decide | omega)) (fun v1150 l1151 q1152 => ?_)
      refine x_ifz (k := 0) (tg := 41) (np := 36) (by decide +kernel) (by decide) l1151 (fun q1153 => ?_) (fun q1154 => ?_)
      · have q1153 : v1150 = 2147483648 := q1153
        refine x_aload (np := 42) (x := 0) (by decide +kernel) rfl (x_nc_le (by decide)) ?_
        refine x_iload (np := 43) (x := 2) (by decide +kernel) rfl (by first | decide | omega) ?_
        refine x_cV (t := 6) (mj := 20) (n := 2) (rc := 2) (ml := 5) (nr := 0) (np := 46) (as := [x_r 45, iv_c v1120]) (rest := []) (lo1 := [x_r 45, iv_c v1120, 147573952589676412928, 147573952589676412928, 147573952589676412928]) (by decide +kernel) (by decide) (by decide +kernel) (x_rb_of (by decide +kernel)) rfl rfl (x_wr (by decide) (x_wi (by first | decide | omega) x_wn)) x_wn (by decide) rfl (c20_45 j1135  (by first | decide | omega)) (fun h1158 q1157 => ?_)
        obtain ⟨j1159, f1160⟩ := q1157
        have f1163 := Fr.trans f1139 f1160 (by decide)
        have f1164 := Fr.trans f1140 f1160 (by decide)
        refine x_aload (np := 47) (x := 0) (by decide +kernel) rfl (x_nc_le (by decide)) ?_
        refine x_iload (np := 48) (x := 2) (by decide +kernel) rfl (by first | decide | omega) ?_
        refine x_cV (t := 6) (mj := 21) (n := 2) (rc := 2) (ml := 5) (nr := 0) (np := 51) (as := [x_r 45, iv_c v1120]) (rest := []) (lo1 := [x_r 45, iv_c v1120, 147573952589676412928, 147573952589676412928, 147573952589676412928]) (by decide +kernel) (by decide) (by decide +kernel) (x_rb_of (by decide +kernel)) rfl rfl (x_wr (by decide) (x_wi (by first | decide | omega) x_wn)) x_wn (by decide) rfl (c21_45 j1159  (by first | decide | omega)) (fun h1168 q1167 => ?_)
        obtain ⟨j1169, f1170⟩ := q1167
        have f1173 := Fr.trans f1163 f1170 (by decide)
        have f1174 := Fr.trans f1164 f1170 (by decide)
        refine x_aload (np := 52) (x := 0) (by decide +kernel) rfl (x_nc_le (by decide)) ?_
        refine x_iload (np := 53) (x := 2) (by decide +kernel) rfl (by first | decide | omega) ?_
        refine x_cV (t := 6) (mj := 26) (n := 2) (rc := 2) (ml := 5) (nr := 0) (np := 56) (as := [x_r 45, iv_c v1120]) (rest := []) (lo1 := [x_r 45, iv_c v1120, 147573952589676412928, 147573952589676412928, 147573952589676412928]) (by decide +kernel) (by decide) (by decide +kernel) (x_rb_of (by decide +kernel)) rfl rfl (x_wr (by decide) (x_wi (by first | decide | omega) x_wn)) x_wn (by decide) rfl (c26_45 j1169  (by first | decide | omega)) (fun h1178 q1177 => ?_)
        obtain ⟨j1179, f1180⟩ := q1177
        have f1183 := Fr.trans f1173 f1180 (by decide)
        have f1184 := Fr.trans f1174 f1180 (by decide)
        refine x_iinc (np := 59) (i := 2) (j := 2147483649) (v := (1 + v1120)) (lo' := [x_r 45, x_r ra1, iv_c (1 + v1120)]) (by decide +kernel) (by decide) (by decide) rfl (by first | decide | omega) (by first | decide | omega) (by first | decide | omega) rfl ?_
        refine x_goto (np := 62) (x := 11) (by decide +kernel) ?_
        exact i1127 (1 + v1120) h1178 (by first | decide | omega) (by first | decide | omega) j1179 f1184
      have q1154 : ¬ (v1150 = 2147483648) := q1154
      refine x_aload (np := 37) (x := 0) (by decide +kernel) rfl (x_nc_le (by decide)) ?_
      refine x_iload (np := 38) (x := 2) (by decide +kernel) rfl (by first | decide | omega) ?_
      refine x_cV (t := 6) (mj := 19) (n := 2) (rc := 2) (ml := 4) (nr := 0) (np := 41) (as := [x_r 45, iv_c v1120]) (rest := []) (lo1 := [x_r 45, iv_c v1120, 147573952589676412928, 147573952589676412928]) (by decide +kernel) (by decide) (by decide +kernel) (x_rb_of (by decide +kernel)) rfl rfl (x_wr (by decide) (x_wi (by first | decide | omega) x_wn)) x_wn (by decide) rfl (c19_45 j1135  (by first | decide | omega)) (fun h1188 q1187 => ?_)
      obtain ⟨j1189, f1190⟩ := q1187
      have f1193 := Fr.trans f1139 f1190 (by decide)
      have f1194 := Fr.trans f1140 f1190 (by decide)
      refine x_aload (np := 42) (x := 0) (by decide +kernel) rfl (x_nc_le (by decide)) ?_
      refine x_iload (np := 43) (x := 2) (by decide +kernel) rfl (by first | decide | omega) ?_
      refine x_cV (t := 6) (mj := 20) (n := 2) (rc := 2) (ml := 5) (nr := 0) (np := 46) (as := [x_r 45, iv_c v1120]) (rest := []) (lo1 := [x_r 45, iv_c v1120, 147573952589676412928, 147573952589676412928, 147573952589676412928]) (by decide +kernel) (by decide) (by decide +kernel) (x_rb_of (by decide +kernel)) rfl rfl (x_wr (by decide) (x_wi (by first | decide | omega) x_wn)) x_wn (by decide) rfl (c20_45 j1189  (by first | decide | omega)) (fun h1198 q1197 => ?_)
      obtain ⟨j1199, f1200⟩ := q1197
      have f1203 := Fr.trans f1193 f1200 (by decide)
      have f1204 := Fr.trans f1194 f1200 (by decide)
      refine x_aload (np := 47) (x := 0) (by decide +kernel) rfl (x_nc_le (by decide)) ?_
      refine x_iload (np := 48) (x := 2) (by decide +kernel) rfl (by first | decide | omega) ?_
      refine x_cV (t := 6) (mj := 21) (n := 2) (rc := 2) (ml := 5) (nr := 0) (np := 51) (as := [x_r 45, iv_c v1120]) (rest := []) (lo1 := [x_r 45, iv_c v1120, 147573952589676412928, 147573952589676412928, 147573952589676412928]) (by decide +kernel) (by decide) (by decide +kernel) (x_rb_of (by decide +kernel)) rfl rfl (x_wr (by decide) (x_wi (by first | decide | omega) x_wn)) x_wn (by decide) rfl (c21_45 j1199  (by first | decide | omega)) (fun h1208 q1207 => ?_)
      obtain ⟨j1209, f1210⟩ := q1207
      have f1213 := Fr.trans f1203 f1210 (by decide)
      have f1214 := Fr.trans f1204 f1210 (by decide)
      refine x_aload (np := 52) (x := 0) (by decide +kernel) rfl (x_nc_le (by decide)) ?_
      refine x_iload (np := 53) (x := 2) (by decide +kernel) rfl (by first | decide | omega) ?_
      refine x_cV (t := 6) (mj := 26) (n := 2) (rc := 2) (ml := 5) (nr := 0) (np := 56) (as := [x_r 45, iv_c v1120]) (rest := []) (lo1 := [x_r 45, iv_c v1120, 147573952589676412928, 147573952589676412928, 147573952589676412928]) (by decide +kernel) (by decide) (by decide +kernel) (x_rb_of (by decide +kernel)) rfl rfl (x_wr (by decide) (x_wi (by first | decide | omega) x_wn)) x_wn (by decide) rfl (c26_45 j1209  (by first | decide | omega)) (fun h1218 q1217 => ?_)
      obtain ⟨j1219, f1220⟩ := q1217
      have f1223 := Fr.trans f1213 f1220 (by decide)
      have f1224 := Fr.trans f1214 f1220 (by decide)
      refine x_iinc (np := 59) (i := 2) (j := 2147483649) (v := (1 + v1120)) (lo' := [x_r 45, x_r ra1, iv_c (1 + v1120)]) (by decide +kernel) (by decide) (by decide) rfl (by first | decide | omega) (by first | decide | omega) (by first | decide | omega) rfl ?_
      refine x_goto (np := 62) (x := 11) (by decide +kernel) ?_
      exact i1127 (1 + v1120) h1218 (by first | decide | omega) (by first | decide | omega) j1219 f1224
  exact p1125 _ 2147483648 h8 (Nat.lt_succ_self _) (by first | decide | omega) j9 (Fr.refl _ _)
set_option maxHeartbeats 0 in
/-- LentNames.back()Z -/
theorem c139_0 {sc : Nat × Nat} {d  : Nat} {h : xh} (hJ : J h) : X sc 139 (d + 7) (xI fun r h' => J h' ∧ Fr 1548112372014721 h h' ∧ (2147483648 ≤ r ∧ r ≤ 2147483649) ∧ (r = h 0 10) ∧ (r = 2147483649 → ∀ i, tv h' i = svq h 3 i) ∧ (r = 2147483648 → ∀ i, tv h' i = tv h i) ∧ h' 0 8 = h 0 8 ∧ h' 0 9 = h 0 9) 0 0 0 [x_r 0] [] h := by
  have hF := Fr.refl 1548112372014721 h
  refine x_aload (np := 1) (x := 0) (by decide +kernel) rfl (x_nc_le (by decide)) ?_
  have b1 := jB (e := 10) 0 hJ rg_0_10_0_1 (by first | decide | omega) (by first | decide | omega)
  refine x_getC (np := 4) (x := 650) (f := 10) (q := (h 0 10)) (by decide +kernel) (by decide) (by decide +kernel) rfl (fun l2 => ?_)
  refine x_ifz (k := 1) (tg := 9) (np := 7) (by decide +kernel) (by decide) l2 (fun q3 => ?_) (fun q4 => ?_)
  · have q3 : (h 0 10) ≠ 2147483648 := q3
    refine x_aload (np := 10) (x := 0) (by decide +kernel) rfl (x_nc_le (by decide)) ?_
    have t5 : tw (h 0 8) := hJ.2.1
    refine x_getR (np := 13) (x := 648) (f := 8) (q := (h 0 8)) (by decide +kernel) (by decide) (by decide +kernel) rfl ?_
    refine x_aload (np := 14) (x := 0) (by decide +kernel) rfl (x_nc_le (by decide)) ?_
    have q6 : h 0 7 = 3 := by have z := jB (e := 7) 0 hJ rg_0_7_0_1 (by decide) (by decide); omega
    refine x_getR (np := 17) (x := 647) (f := 7) (q := 3) (by decide +kernel) (by decide) (by decide +kernel) q6 ?_
    refine x_cV (t := 6) (mj := 84) (n := 2) (rc := 9) (ml := 2) (nr := 0) (np := 20) (as := [x_r (h 0 8), x_r 3]) (rest := []) (lo1 := [x_r (h 0 8), x_r 3]) (by decide +kernel) (by decide) (by decide +kernel) (x_rb_of (tr_0_9 t5)) rfl rfl (x_wr (tn_0 t5) (x_wr (by decide) x_wn)) x_wn (by decide) rfl (c84_T0_3 hJ t5 ) (fun h10 q9 => ?_)
    obtain ⟨j11, f12, c15, c16, c17, c18, c19, c20, c21⟩ := q9
    have f22 := Fr.trans hF f12 (by decide)
    have b23 := jB (e := 7) 0 hJ rg_3_7_0_1 (by first | decide | omega) (by first | decide | omega)
    have b24 := jB (e := 7) 0 j11 (rg_T0_7_0_1 t5) (by first | decide | omega) (by first | decide | omega)
    have b25 := jB (e := 2) 0 hJ rg_4_2_0_1 (by first | decide | omega) (by first | decide | omega)
    have b26 := jB (e := 2) 0 j11 (rg_T1_2_0_1 t5) (by first | decide | omega) (by first | decide | omega)
    have b27 := jB (e := 2) 0 hJ rg_6_2_0_1 (by first | decide | omega) (by first | decide | omega)
    have b28 := jB (e := 2) 0 j11 (rg_T3_2_0_1 t5) (by first | decide | omega) (by first | decide | omega)
    have b29 := jB (e := 2) 0 hJ rg_8_2_0_1 (by first | decide | omega) (by first | decide | omega)
    have b30 := jB (e := 2) 0 j11 (rg_T5_2_0_1 t5) (by first | decide | omega) (by first | decide | omega)
    have b31 := jB (e := 2) 0 hJ rg_10_2_0_1 (by first | decide | omega) (by first | decide | omega)
    have b32 := jB (e := 2) 0 j11 (rg_T7_2_0_1 t5) (by first | decide | omega) (by first | decide | omega)
    refine x_aload (np := 21) (x := 0) (by decide +kernel) rfl (x_nc_le (by decide)) ?_
    refine x_nV (t := 6) (mj := 143) (n := 1) (rc := 11) (ml := 1) (nr := 0) (np := 24) (as := [x_r 0]) (rest := []) (lo1 := [x_r 0]) (by decide +kernel) (by decide) (by decide +kernel) (x_rb_of (by decide +kernel)) rfl rfl (x_wr (by decide) x_wn) x_wn (by decide) rfl ?_
    refine x_aload (np := 1) (x := 0) (by decide +kernel) rfl (x_nc_le (by decide)) ?_
    have q33 : h10 0 1 = 45 := by have z := jB (e := 1) 0 j11 rg_0_1_0_1 (by decide) (by decide); omega
    refine x_getR (np := 4) (x := 641) (f := 1) (q := 45) (by decide +kernel) (by decide) (by decide +kernel) q33 ?_
    refine x_aload (np := 5) (x := 0) (by decide +kernel) rfl (x_nc_le (by decide)) ?_
    have q34 : h10 0 8 = h 0 8 := f12 0 8 (by decide +kernel)
    refine x_getR (np := 8) (x := 648) (f := 8) (q := (h 0 8)) (by decide +kernel) (by decide) (by decide +kernel) q34 ?_
    refine x_cV (t := 6) (mj := 4) (n := 2) (rc := 2) (ml := 3) (nr := 0) (np := 11) (as := [x_r 45, x_r (h 0 8)]) (rest := []) (lo1 := [x_r 45, x_r (h 0 8), 147573952589676412928]) (by decide +kernel) (by decide) (by decide +kernel) (x_rb_of (by decide +kernel)) rfl rfl (x_wr (by decide) (x_wr (tn_0 t5) x_wn)) x_wn (by decide) rfl (c4_45_T0 j11  t5) (fun h38 q37 => ?_)
    obtain ⟨j39, f40⟩ := q37
    have f43 := Fr.trans f22 f40 (by decide)
    refine x_aload (np := 12) (x := 0) (by decide +kernel) rfl (x_nc_le (by decide)) ?_
    have q44 : h38 0 5 = 63 := by have z := jB (e := 5) 0 j39 rg_0_5_0_1 (by decide) (by decide); omega
    refine x_getR (np := 15) (x := 645) (f := 5) (q := 63) (by decide +kernel) (by decide) (by decide +kernel) q44 ?_
    refine x_nV (t := 8) (mj := 270) (n := 1) (rc := 5) (ml := 1) (nr := 0) (np := 18) (as := [x_r 63]) (rest := []) (lo1 := [x_r 63]) (by decide +kernel) (by decide) (by decide +kernel) (x_rb_of (by decide +kernel)) rfl rfl (x_wr (by decide) x_wn) x_wn (by decide) rfl ?_
    refine x_aload (np := 1) (x := 0) (by decide +kernel) rfl (x_nc_le (by decide)) ?_
    refine x_const (np := 2) (x := 9223372039002259456) (a := 2147483648) (by decide +kernel) (by decide) (by decide) ?_
    refine x_putI (np := 5) (x := 4878) (f := 14) (by decide +kernel) (by decide +kernel) (by decide) (Or.inr ⟨by decide, by first | decide | omega, by first | decide | omega⟩) ?_
    have j46 := jU (e := 14) (v := 2147483648) 0 j39 rg_63_14_0_1 (by first | decide | omega) (by first | decide | omega) (by first | decide | omega)
    have f48 := jF (e := 14) (v := 2147483648) 0 f43 rg_63_14_0_1 (by first | decide | omega) (by first | decide | omega) (by decide)
    generalize e47 : x_up h38 63 14 2147483648 = h45 at j46 f48 ⊢
    refine x_retV (np := 6) (x := 0) (by decide +kernel) (by decide +kernel) ⟨rfl, ?_⟩
    refine x_aload (np := 19) (x := 0) (by decide +kernel) rfl (x_nc_le (by decide)) ?_
    have q49 : h45 0 6 = 69 := by have z := jB (e := 6) 0 j46 rg_0_6_0_1 (by decide) (by decide); omega
    refine x_getR (np := 22) (x := 646) (f := 6) (q := 69) (by decide +kernel) (by decide) (by decide +kernel) q49 ?_
    refine x_nV (t := 8) (mj := 270) (n := 1) (rc := 6) (ml := 1) (nr := 0) (np := 25) (as := [x_r 69]) (rest := []) (lo1 := [x_r 69]) (by decide +kernel) (by decide) (by decide +kernel) (x_rb_of (by decide +kernel)) rfl rfl (x_wr (by decide) x_wn) x_wn (by decide) rfl ?_
    refine x_aload (np := 1) (x := 0) (by decide +kernel) rfl (x_nc_le (by decide)) ?_
    refine x_const (np := 2) (x := 9223372039002259456) (a := 2147483648) (by decide +kernel) (by decide) (by decide) ?_
    refine x_putI (np := 5) (x := 4878) (f := 14) (by decide +kernel) (by decide +kernel) (by decide) (Or.inr ⟨by decide, by first | decide | omega, by first | decide | omega⟩) ?_
    have j51 := jU (e := 14) (v := 2147483648) 0 j46 rg_69_14_0_1 (by first | decide | omega) (by first | decide | omega) (by first | decide | omega)
    have f53 := jF (e := 14) (v := 2147483648) 0 f48 rg_69_14_0_1 (by first | decide | omega) (by first | decide | omega) (by decide)
    generalize e52 : x_up h45 69 14 2147483648 = h50 at j51 f53 ⊢
    refine x_retV (np := 6) (x := 0) (by decide +kernel) (by decide +kernel) ⟨rfl, ?_⟩
    refine x_retV (np := 26) (x := 0) (by decide +kernel) (by decide +kernel) ⟨rfl, ?_⟩
    refine x_const (np := 25) (x := 9223372043297226753) (a := 2147483649) (by decide +kernel) (by decide) (by decide) ?_
    have q54 : h50 0 8 = h45 0 8 := by rw [← e52]; exact x_up_k (by decide)
    have q55 : h45 0 8 = h38 0 8 := by rw [← e47]; exact x_up_k (by decide)
    have q56 : h38 0 8 = h10 0 8 := f40 0 8 (by decide +kernel)
    have q57 : h10 0 8 = h 0 8 := f12 0 8 (by decide +kernel)
    have q58 : h50 0 9 = h45 0 9 := by rw [← e52]; exact x_up_k (by decide)
    have q59 : h45 0 9 = h38 0 9 := by rw [← e47]; exact x_up_k (by decide)
    have q60 : h38 0 9 = h10 0 9 := f40 0 9 (by decide +kernel)
    have q61 : h10 0 9 = h 0 9 := f12 0 9 (by decide +kernel)
    have t62 : tw (h 0 9) := hJ.2.2.1
    have b64 := jB (e := 7) 0 hJ (rg_T0_7_0_1 t5) (by first | decide | omega) (by first | decide | omega)
    have e65 : tv h 0 = (h (h 0 8) 7) := (congrArg (fun z => svq h z 0) rfl).trans rfl
    have q66 : h50 0 8 = h45 0 8 := by rw [← e52]; exact x_up_k (by decide)
    have q67 : h45 0 8 = h38 0 8 := by rw [← e47]; exact x_up_k (by decide)
    have q68 : h38 0 8 = h10 0 8 := f40 0 8 (by decide +kernel)
    have q69 : h10 0 8 = h 0 8 := f12 0 8 (by decide +kernel)
    have q70 : h50 (h 0 8) 7 = h45 (h 0 8) 7 := by rw [← e52]; exact x_up_k (tne_0_69 t5)
    have q71 : h45 (h 0 8) 7 = h38 (h 0 8) 7 := by rw [← e47]; exact x_up_k (tne_0_63 t5)
    have q72 : h38 (h 0 8) 7 = h10 (h 0 8) 7 := jK 0 f40 (rg_T0_7_0_1 t5) (by first | decide | omega) (by first | decide | omega) (by decide)
    have e73 : tv h50 0 = (h10 (h 0 8) 7) := (congrArg (fun z => svq h50 z 0) (((q66.trans q67).trans q68).trans q69)).trans ((q70.trans q71).trans q72)
    have e74 : tv h 1 = (h (h 0 8) 8) := (congrArg (fun z => svq h z 1) rfl).trans rfl
    have q75 : h50 0 8 = h45 0 8 := by rw [← e52]; exact x_up_k (by decide)
    have q76 : h45 0 8 = h38 0 8 := by rw [← e47]; exact x_up_k (by decide)
    have q77 : h38 0 8 = h10 0 8 := f40 0 8 (by decide +kernel)
    have q78 : h10 0 8 = h 0 8 := f12 0 8 (by decide +kernel)
    have q79 : h50 (h 0 8) 8 = h45 (h 0 8) 8 := by rw [← e52]; exact x_up_k (tne_0_69 t5)
    have q80 : h45 (h 0 8) 8 = h38 (h 0 8) 8 := by rw [← e47]; exact x_up_k (tne_0_63 t5)
    have q81 : h38 (h 0 8) 8 = h10 (h 0 8) 8 := jK 0 f40 (rg_T0_8_0_1 t5) (by first | decide | omega) (by first | decide | omega) (by decide)
    have e82 : tv h50 1 = (h10 (h 0 8) 8) := (congrArg (fun z => svq h50 z 1) (((q75.trans q76).trans q77).trans q78)).trans ((q79.trans q80).trans q81)
    have b83 := jB (e := 2) 0 hJ (rg_T1_2_0_1 t5) (by first | decide | omega) (by first | decide | omega)
    have e84 : tv h 2 = (h ((h 0 8) + 1) 2) := (congrArg (fun z => svq h z 2) rfl).trans rfl
    have q85 : h50 0 8 = h45 0 8 := by rw [← e52]; exact x_up_k (by decide)
    have q86 : h45 0 8 = h38 0 8 := by rw [← e47]; exact x_up_k (by decide)
    have q87 : h38 0 8 = h10 0 8 := f40 0 8 (by decide +kernel)
    have q88 : h10 0 8 = h 0 8 := f12 0 8 (by decide +kernel)
    have q89 : h50 ((h 0 8) + 1) 2 = h45 ((h 0 8) + 1) 2 := by rw [← e52]; exact x_up_k (tne_1_69 t5)
    have q90 : h45 ((h 0 8) + 1) 2 = h38 ((h 0 8) + 1) 2 := by rw [← e47]; exact x_up_k (tne_1_63 t5)
    have q91 : h38 ((h 0 8) + 1) 2 = h10 ((h 0 8) + 1) 2 := jK 0 f40 (rg_T1_2_0_1 t5) (by first | decide | omega) (by first | decide | omega) (by decide)
    have e92 : tv h50 2 = (h10 ((h 0 8) + 1) 2) := (congrArg (fun z => svq h50 z 2) (((q85.trans q86).trans q87).trans q88)).trans ((q89.trans q90).trans q91)
    have b93 := jB (e := 2) 0 hJ (rg_T3_2_0_1 t5) (by first | decide | omega) (by first | decide | omega)
    have e94 : tv h 3 = (h ((h 0 8) + 3) 2) := (congrArg (fun z => svq h z 3) rfl).trans rfl
    have q95 : h50 0 8 = h45 0 8 := by rw [← e52]; exact x_up_k (by decide)
    have q96 : h45 0 8 = h38 0 8 := by rw [← e47]; exact x_up_k (by decide)
    have q97 : h38 0 8 = h10 0 8 := f40 0 8 (by decide +kernel)
    have q98 : h10 0 8 = h 0 8 := f12 0 8 (by decide +kernel)
    have q99 : h50 ((h 0 8) + 3) 2 = h45 ((h 0 8) + 3) 2 := by rw [← e52]; exact x_up_k (tne_3_69 t5)
    have q100 : h45 ((h 0 8) + 3) 2 = h38 ((h 0 8) + 3) 2 := by rw [← e47]; exact x_up_k (tne_3_63 t5)
    have q101 : h38 ((h 0 8) + 3) 2 = h10 ((h 0 8) + 3) 2 := jK 0 f40 (rg_T3_2_0_1 t5) (by first | decide | omega) (by first | decide | omega) (by decide)
    have e102 : tv h50 3 = (h10 ((h 0 8) + 3) 2) := (congrArg (fun z => svq h50 z 3) (((q95.trans q96).trans q97).trans q98)).trans ((q99.trans q100).trans q101)
    have b103 := jB (e := 2) 0 hJ (rg_T5_2_0_1 t5) (by first | decide | omega) (by first | decide | omega)
    have e104 : tv h 4 = (h ((h 0 8) + 5) 2) := (congrArg (fun z => svq h z 4) rfl).trans rfl
    have q105 : h50 0 8 = h45 0 8 := by rw [← e52]; exact x_up_k (by decide)
    have q106 : h45 0 8 = h38 0 8 := by rw [← e47]; exact x_up_k (by decide)
    have q107 : h38 0 8 = h10 0 8 := f40 0 8 (by decide +kernel)
    have q108 : h10 0 8 = h 0 8 := f12 0 8 (by decide +kernel)
    have q109 : h50 ((h 0 8) + 5) 2 = h45 ((h 0 8) + 5) 2 := by rw [← e52]; exact x_up_k (tne_5_69 t5)
    have q110 : h45 ((h 0 8) + 5) 2 = h38 ((h 0 8) + 5) 2 := by rw [← e47]; exact x_up_k (tne_5_63 t5)
    have q111 : h38 ((h 0 8) + 5) 2 = h10 ((h 0 8) + 5) 2 := jK 0 f40 (rg_T5_2_0_1 t5) (by first | decide | omega) (by first | decide | omega) (by decide)
    have e112 : tv h50 4 = (h10 ((h 0 8) + 5) 2) := (congrArg (fun z => svq h50 z 4) (((q105.trans q106).trans q107).trans q108)).trans ((q109.trans q110).trans q111)
    have b113 := jB (e := 2) 0 hJ (rg_T7_2_0_1 t5) (by first | decide | omega) (by first | decide | omega)
    have e114 : tv h 5 = (h ((h 0 8) + 7) 2) := (congrArg (fun z => svq h z 5) rfl).trans rfl
    have q115 : h50 0 8 = h45 0 8 := by rw [← e52]; exact x_up_k (by decide)
    have q116 : h45 0 8 = h38 0 8 := by rw [← e47]; exact x_up_k (by decide)
    have q117 : h38 0 8 = h10 0 8 := f40 0 8 (by decide +kernel)
    have q118 : h10 0 8 = h 0 8 := f12 0 8 (by decide +kernel)
    have q119 : h50 ((h 0 8) + 7) 2 = h45 ((h 0 8) + 7) 2 := by rw [← e52]; exact x_up_k (tne_7_69 t5)
    have q120 : h45 ((h 0 8) + 7) 2 = h38 ((h 0 8) + 7) 2 := by rw [← e47]; exact x_up_k (tne_7_63 t5)
    have q121 : h38 ((h 0 8) + 7) 2 = h10 ((h 0 8) + 7) 2 := jK 0 f40 (rg_T7_2_0_1 t5) (by first | decide | omega) (by first | decide | omega) (by decide)
    have e122 : tv h50 5 = (h10 ((h 0 8) + 7) 2) := (congrArg (fun z => svq h50 z 5) (((q115.trans q116).trans q117).trans q118)).trans ((q119.trans q120).trans q121)
    have m63 : ∀ i, tv h50 i = svq h 3 i := fun i => match i with | 0 => (show _ = h 3 7 by first | decide | omega) | 1 => (show _ = h 3 8 by first | decide | omega) | 2 => (show _ = h 4 2 by first | decide | omega) | 3 => (show _ = h 6 2 by first | decide | omega) | 4 => (show _ = h 8 2 by first | decide | omega) | _ + 5 => (show tv h50 5 = h 10 2 by first | decide | omega)
    refine x_retI (np := 26) (x := 0) (by decide +kernel) (by decide) (Or.inr ⟨by decide +kernel, by first | decide | omega, by first | decide | omega⟩) ⟨_, rfl, (by decide), ?_⟩
    exact ⟨j51, f53, (by first | decide | omega), (by first | decide | omega), (fun _ => m63), (fun z => absurd z (by first | decide | omega)), (((q54.trans q55).trans q56).trans q57), (((q58.trans q59).trans q60).trans q61)⟩
  have q4 : ¬ ((h 0 10) ≠ 2147483648) := q4
  refine x_const (np := 8) (x := 9223372039002259456) (a := 2147483648) (by decide +kernel) (by decide) (by decide) ?_
  have t123 : tw (h 0 8) := hJ.2.1
  have t124 : tw (h 0 9) := hJ.2.2.1
  have b126 := jB (e := 7) 0 hJ (rg_T0_7_0_1 t123) (by first | decide | omega) (by first | decide | omega)
  have e127 : tv h 0 = (h (h 0 8) 7) := (congrArg (fun z => svq h z 0) rfl).trans rfl
  have b128 := jB (e := 7) 0 hJ rg_3_7_0_1 (by first | decide | omega) (by first | decide | omega)
  have e129 : tv h 1 = (h (h 0 8) 8) := (congrArg (fun z => svq h z 1) rfl).trans rfl
  have b130 := jB (e := 2) 0 hJ (rg_T1_2_0_1 t123) (by first | decide | omega) (by first | decide | omega)
  have e131 : tv h 2 = (h ((h 0 8) + 1) 2) := (congrArg (fun z => svq h z 2) rfl).trans rfl
  have b132 := jB (e := 2) 0 hJ rg_4_2_0_1 (by first | decide | omega) (by first | decide | omega)
  have b133 := jB (e := 2) 0 hJ (rg_T3_2_0_1 t123) (by first | decide | omega) (by first | decide | omega)
  have e134 : tv h 3 = (h ((h 0 8) + 3) 2) := (congrArg (fun z => svq h z 3) rfl).trans rfl
  have b135 := jB (e := 2) 0 hJ rg_6_2_0_1 (by first | decide | omega) (by first | decide | omega)
  have b136 := jB (e := 2) 0 hJ (rg_T5_2_0_1 t123) (by first | decide | omega) (by first | decide | omega)
  have e137 : tv h 4 = (h ((h 0 8) + 5) 2) := (congrArg (fun z => svq h z 4) rfl).trans rfl
  have b138 := jB (e := 2) 0 hJ rg_8_2_0_1 (by first | decide | omega) (by first | decide | omega)
  have b139 := jB (e := 2) 0 hJ (rg_T7_2_0_1 t123) (by first | decide | omega) (by first | decide | omega)
  have e140 : tv h 5 = (h ((h 0 8) + 7) 2) := (congrArg (fun z => svq h z 5) rfl).trans rfl
  have b141 := jB (e := 2) 0 hJ rg_10_2_0_1 (by first | decide | omega) (by first | decide | omega)
  have m125 : ∀ i, tv h i = tv h i := fun i => match i with | 0 => by omega | 1 => by omega | 2 => by omega | 3 => by omega | 4 => by omega | _ + 5 => (show tv h 5 = tv h 5 by first | decide | omega)
  refine x_retI (np := 9) (x := 0) (by decide +kernel) (by decide) (Or.inr ⟨by decide +kernel, by first | decide | omega, by first | decide | omega⟩) ⟨_, rfl, (by decide), ?_⟩
  exact ⟨hJ, hF, (by first | decide | omega), (by first | decide | omega), (fun z => absurd z (by first | decide | omega)), (fun _ => m125), rfl, rfl⟩
