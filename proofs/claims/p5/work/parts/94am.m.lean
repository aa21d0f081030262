/-! ===== methods ===== -/
set_option maxHeartbeats 0 in
/-- LentNamesModel.isGranted()Z -/
theorem c199_75 {sc : Nat × Nat} {d  : Nat} {h : xh} (hJ : J h) (hW : WT 76 h) : X sc 199 (d + 1) (xI fun r h' => J h' ∧ Fr 4294967296 h h' ∧ (2147483648 ≤ r ∧ r ≤ 2147483649)) 0 0 0 [x_r 75, 147573952589676412928] [] h := by
  have hF := Fr.refl 4294967296 h
  refine x_const (np := 1) (x := 9223372039002259456) (a := 2147483648) (by decide +kernel) (by decide) (by decide) ?_
  refine x_istore (np := 2) (x := 1) (lo' := [x_r 75, iv_c 2147483648]) (by decide +kernel) (by decide) (Nat.le_of_ble_eq_true rfl) rfl ?_
  have p340 : ∀ (n : Nat) (v335 : Nat) (h337 : xh), 4294967296 - v335 < n → (2147483648 ≤ v335 ∧ v335 ≤ 2147483658) → J h337 → Fr 4294967296 h h337 → X sc 199 (d + 1) (xI fun r h' => J h' ∧ Fr 4294967296 h h' ∧ (2147483648 ≤ r ∧ r ≤ 2147483649)) 0 0 2 [x_r 75, iv_c v335] [] h337 := by
    intro n
    induction n with
    | zero => intro v335 h337 q341; exact absurd q341 (Nat.not_lt_zero _)
    | succ n i342 =>
      intro v335 h337 q341 b336 j339 f338
      have f343 := Fr.trans hF f338 (by decide)
      refine x_aload (np := 3) (x := 0) (by decide +kernel) rfl (x_nc_le (by decide)) ?_
      have q344 : h337 75 1 = 76 := by have z := jB (e := 1) 0 j339 rg_75_1_0_1 (by decide) (by decide); omega
      refine x_getR (np := 6) (x := 705) (f := 1) (q := 76) (by decide +kernel) (by decide) (by decide +kernel) q344 ?_
      refine x_const (np := 8) (x := 9223372064772063238) (a := 2147483654) (by decide +kernel) (by decide) (by decide) ?_
      have q345 : h337 76 6 = h 76 6 := jK 0 f338 rg_76_6_0_1 (by first | decide | omega) (by first | decide | omega) (by decide)
      refine x_aldC (np := 9) (x := 0) (n := 1952) (i := 6) (q := (h 76 6)) (by decide +kernel) (by decide +kernel) (by first | decide | omega) (by first | decide | omega) (by decide) q345 (fun l346 => ?_)
      refine x_const (np := 10) (x := 9223372043297226753) (a := 2147483649) (by decide +kernel) (by decide) (by decide) ?_
      refine x_icmp (k := 1) (tg := 61) (np := 13) (by decide +kernel) (by decide) l346 (by decide) (fun q347 => ?_) (fun q348 => ?_)
      · have q347 : (h 76 6) ≠ 2147483649 := q347
        refine x_const (np := 62) (x := 9223372043297226753) (a := 2147483649) (by decide +kernel) (by decide) (by decide) ?_
        refine x_retI (np := 63) (x := 0) (by decide +kernel) (by decide) (Or.inr ⟨by decide +kernel, by first | decide | omega, by first | decide | omega⟩) ⟨_, rfl, (by decide), ?_⟩
        exact ⟨j339, f343, (by first | decide | omega)⟩
      have q348 : ¬ ((h 76 6) ≠ 2147483649) := q348
      refine x_iload (np := 14) (x := 1) (by decide +kernel) rfl (by first | decide | omega) ?_
      refine x_aload (np := 15) (x := 0) (by decide +kernel) rfl (x_nc_le (by decide)) ?_
      have q349 : h337 75 1 = 76 := by have z := jB (e := 1) 0 j339 rg_75_1_0_1 (by decide) (by decide); omega
      refine x_getR (np := 18) (x := 705) (f := 1) (q := 76) (by decide +kernel) (by decide) (by decide +kernel) q349 ?_
      refine x_const (np := 21) (x := 9223373284542775586) (a := 2147483938) (by decide +kernel) (by decide) (by decide) ?_
      have q350 : h337 76 290 = h 76 290 := jK 0 f338 rg_76_290_0_1 (by first | decide | omega) (by first | decide | omega) (by decide)
      have b351 := jB (e := 290) 0 hJ rg_76_290_0_1 (by first | decide | omega) (by first | decide | omega)
      refine x_aldC (np := 22) (x := 0) (n := 1952) (i := 290) (q := (h 76 290)) (by decide +kernel) (by decide +kernel) (by first | decide | omega) (by first | decide | omega) (by decide) q350 (fun l352 => ?_)
      refine x_icmp (k := 3) (tg := 61) (np := 25) (by decide +kernel) (by decide) (by first | decide | omega) l352 (fun q353 => ?_) (fun q354 => ?_)
      · have q353 : (h 76 290) ≤ v335 := q353
        refine x_const (np := 62) (x := 9223372043297226753) (a := 2147483649) (by decide +kernel) (by decide) (by decide) ?_
        refine x_retI (np := 63) (x := 0) (by decide +kernel) (by decide) (Or.inr ⟨by decide +kernel, by first | decide | omega, by first | decide | omega⟩) ⟨_, rfl, (by decide), ?_⟩
        exact ⟨j339, f343, (by first | decide | omega)⟩
      have q354 : ¬ ((h 76 290) ≤ v335) := q354
      refine x_aload (np := 26) (x := 0) (by decide +kernel) rfl (x_nc_le (by decide)) ?_
      refine x_iload (np := 27) (x := 1) (by decide +kernel) rfl (by first | decide | omega) ?_
      have q355 : h337 76 290 = h 76 290 := jK 0 f338 rg_76_290_0_1 (by first | decide | omega) (by first | decide | omega) (by decide)
      have m359 := WT.fr hW hJ f338 (by decide)
      refine x_cI (t := 6) (mj := 198) (n := 2) (rc := 12) (ml := 9) (nr := 0) (np := 30) (as := [x_r 75, iv_c v335]) (rest := []) (lo1 := [x_r 75, iv_c v335, 147573952589676412928, 147573952589676412928, 147573952589676412928, 147573952589676412928, 147573952589676412928, 147573952589676412928, 147573952589676412928]) (by decide +kernel) (by decide) (by decide +kernel) (x_rb_of (by decide +kernel)) rfl rfl (x_wr (by decide) (x_wi (by first | decide | omega) x_wn)) x_wn (by decide) rfl (c198_75 j339  (by first | decide | omega) (by first | decide | omega) m359) (fun v356 h360 l357 q358 => ?_)
      obtain ⟨j361, f362, b363⟩ := q358
      have f364 := Fr.trans f343 f362 (by decide)
      have f365 := Fr.trans f338 f362 (by decide)
      refine x_ifz (k := 0) (tg := 55) (np := 33) (by decide +kernel) (by decide) l357 (fun q366 => ?_) (fun q367 => ?_)
      · have q366 : v356 = 2147483648 := q366
        refine x_iinc (np := 58) (i := 1) (j := 2147483649) (v := (1 + v335)) (lo' := [x_r 75, iv_c (1 + v335)]) (by decide +kernel) (by decide) (by decide) rfl (by first | decide | omega) (by first | decide | omega) (by first | decide | omega) rfl ?_
        refine x_goto (np := 61) (x := 2) (by decide +kernel) ?_
        exact i342 (1 + v335) h360 (by first | decide | omega) (by first | decide | omega) j361 f365
      have q367 : ¬ (v356 = 2147483648) := q367
      refine x_aload (np := 34) (x := 0) (by decide +kernel) rfl (x_nc_le (by decide)) ?_
      have q368 : h360 75 1 = 76 := by have z := jB (e := 1) 0 j361 rg_75_1_0_1 (by decide) (by decide); omega
      refine x_getR (np := 37) (x := 705) (f := 1) (q := 76) (by decide +kernel) (by decide) (by decide +kernel) q368 ?_
      refine x_const (np := 40) (x := 9223373288837742883) (a := 2147483939) (by decide +kernel) (by decide) (by decide) ?_
      refine x_const (np := 41) (x := 9223372051887161347) (a := 2147483651) (by decide +kernel) (by decide) (by decide) ?_
      refine x_iload (np := 42) (x := 1) (by decide +kernel) rfl (by first | decide | omega) ?_
      obtain ⟨u369, q370⟩ : ∃ z, v335 = 2147483648 + z := ⟨v335 - 2147483648, by first | decide | omega⟩
      refine x_imul (np := 43) (x := 0) (i := 3) (j := u369) (v := (2147483648 + 3 * u369)) (by decide +kernel) (by first | decide | omega) (by first | decide | omega) (by first | decide | omega) (by first | decide | omega) (by decide) (by first | decide | omega) ?_
      refine x_iadd (np := 44) (x := 0) (v := (2147483939 + 3 * u369)) (by decide +kernel) (by decide) (by first | decide | omega) (by first | decide | omega) (by first | decide | omega) ?_
      have q372 : h360 76 (291 + 3 * u369) = h337 76 (291 + 3 * u369) := jK u369 f362 rg_76_291_3_10 (by first | decide | omega) (by first | decide | omega) (by decide)
      have q373 : h337 76 (291 + 3 * u369) = h 76 (291 + 3 * u369) := jK u369 f338 rg_76_291_3_10 (by first | decide | omega) (by first | decide | omega) (by decide)
      refine x_aldC (np := 45) (x := 0) (n := 1952) (i := (291 + 3 * u369)) (q := ((h 76 (291 + 3 * u369)))) (by decide +kernel) (by decide +kernel) (by first | decide | omega) (by first | decide | omega) (by decide) (q372.trans q373) (fun l374 => ?_)
      refine x_const (np := 46) (x := 9223372043297226753) (a := 2147483649) (by decide +kernel) (by decide) (by decide) ?_
      refine x_icmp (k := 1) (tg := 53) (np := 49) (by decide +kernel) (by decide) l374 (by decide) (fun q375 => ?_) (fun q376 => ?_)
      · have q375 : ((h 76 (291 + 3 * u369))) ≠ 2147483649 := q375
        refine x_const (np := 54) (x := 9223372039002259456) (a := 2147483648) (by decide +kernel) (by decide) (by decide) ?_
        refine x_retI (np := 55) (x := 0) (by decide +kernel) (by decide) (Or.inr ⟨by decide +kernel, by first | decide | omega, by first | decide | omega⟩) ⟨_, rfl, (by decide), ?_⟩
        exact ⟨j361, f364, (by first | decide | omega)⟩
      have q376 : ¬ (((h 76 (291 + 3 * u369))) ≠ 2147483649) := q376
      refine x_const (np := 50) (x := 9223372043297226753) (a := 2147483649) (by decide +kernel) (by decide) (by decide) ?_
      refine x_goto (np := 53) (x := 54) (by decide +kernel) ?_
      refine x_retI (np := 55) (x := 0) (by decide +kernel) (by decide) (Or.inr ⟨by decide +kernel, by first | decide | omega, by first | decide | omega⟩) ⟨_, rfl, (by decide), ?_⟩
      exact ⟨j361, f364, (by first | decide | omega)⟩
  exact p340 _ 2147483648 h (Nat.lt_succ_self _) (by first | decide | omega) hJ (Fr.refl _ _)
set_option maxHeartbeats 0 in
/-- LentNamesModel.begins(II)V -/
theorem c209_75 {sc : Nat × Nat} {d a1 a2 n0 : Nat} {h : xh} (hJ : J h) (ba1 : 2147483648 ≤ a1 ∧ a1 ≤ 2147483667) (ba2 : 2147483648 ≤ a2 ∧ a2 ≤ 2147483659) (hn0 : n0 ≤ 19) (hM : MB 6 n0 h) (hW : WT 76 h) : X sc 209 (d + 3) (xV fun h' => J h' ∧ Fr 66571993089 h h' ∧ MB 6 (n0 + 1) h') 0 0 0 [x_r 75, iv_c a1, iv_c a2, 147573952589676412928, 147573952589676412928, 147573952589676412928, 147573952589676412928] [] h := by
  have la1 : a1 < 4294967296 := by first | decide | omega
  have la2 : a2 < 4294967296 := by first | decide | omega
  have hF := Fr.refl 66571993089 h
  refine x_aload (np := 1) (x := 0) (by decide +kernel) rfl (x_nc_le (by decide)) ?_
  refine x_iload (np := 2) (x := 1) (by decide +kernel) rfl la1 ?_
  refine x_const (np := 3) (x := 9223372039002259456) (a := 2147483648) (by decide +kernel) (by decide) (by decide) ?_
  refine x_nI (t := 6) (mj := 161) (n := 3) (rc := 12) (ml := 3) (nr := 0) (np := 6) (as := [x_r 75, iv_c a1, iv_c 2147483648]) (rest := []) (lo1 := [x_r 75, iv_c a1, iv_c 2147483648]) (by decide +kernel) (by decide) (by decide +kernel) (x_rb_of (by decide +kernel)) rfl rfl (x_wr (by decide) (x_wi la1 (x_wi (by decide) x_wn))) x_wn (by decide) rfl ?_
  refine x_aload (np := 1) (x := 0) (by decide +kernel) rfl (x_nc_le (by decide)) ?_
  have q1 : h 75 1 = 76 := by have z := jB (e := 1) 0 hJ rg_75_1_0_1 (by decide) (by decide); omega
  refine x_getR (np := 4) (x := 705) (f := 1) (q := 76) (by decide +kernel) (by decide) (by decide +kernel) q1 ?_
  refine x_const (np := 6) (x := 9223372124901605396) (a := 2147483668) (by decide +kernel) (by decide) (by decide) ?_
  refine x_const (np := 8) (x := 9223372069067030535) (a := 2147483655) (by decide +kernel) (by decide) (by decide) ?_
  refine x_iload (np := 9) (x := 1) (by decide +kernel) rfl la1 ?_
  obtain ⟨u2, q3⟩ : ∃ z, a1 = 2147483648 + z := ⟨a1 - 2147483648, by first | decide | omega⟩
  refine x_imul (np := 10) (x := 0) (i := 7) (j := u2) (v := (2147483648 + 7 * u2)) (by decide +kernel) (by first | decide | omega) (by first | decide | omega) (by first | decide | omega) (by first | decide | omega) (by decide) la1 ?_
  refine x_iadd (np := 11) (x := 0) (v := (2147483668 + 7 * u2)) (by decide +kernel) (by decide) (by first | decide | omega) (by first | decide | omega) (by first | decide | omega) ?_
  refine x_iload (np := 12) (x := 2) (by decide +kernel) rfl (by decide) ?_
  refine x_iadd (np := 13) (x := 0) (v := (2147483668 + 7 * u2)) (by decide +kernel) (by first | decide | omega) (by decide) (by first | decide | omega) (by first | decide | omega) ?_
  have b5 := jB (e := (20 + 7 * u2)) u2 hJ rg_76_20_7_20 (by first | decide | omega) (by first | decide | omega)
  refine x_aldC (np := 14) (x := 0) (n := 1952) (i := (20 + 7 * u2)) (q := ((h 76 (20 + 7 * u2)))) (by decide +kernel) (by decide +kernel) (by first | decide | omega) (by first | decide | omega) (by decide) rfl (fun l6 => ?_)
  refine x_retI (np := 15) (x := 0) (by decide +kernel) l6 (Or.inl (by decide +kernel)) ⟨_, rfl, l6, ?_⟩
  refine x_istore (np := 7) (x := 3) (lo' := [x_r 75, iv_c a1, iv_c a2, iv_c ((h 76 (20 + 7 * u2))), 147573952589676412928, 147573952589676412928, 147573952589676412928]) (by decide +kernel) l6 (Nat.le_of_ble_eq_true rfl) rfl ?_
  refine x_aload (np := 8) (x := 0) (by decide +kernel) rfl (x_nc_le (by decide)) ?_
  refine x_iload (np := 9) (x := 1) (by decide +kernel) rfl la1 ?_
  refine x_const (np := 10) (x := 9223372043297226753) (a := 2147483649) (by decide +kernel) (by decide) (by decide) ?_
  refine x_nI (t := 6) (mj := 161) (n := 3) (rc := 12) (ml := 3) (nr := 0) (np := 13) (as := [x_r 75, iv_c a1, iv_c 2147483649]) (rest := []) (lo1 := [x_r 75, iv_c a1, iv_c 2147483649]) (by decide +kernel) (by decide) (by decide +kernel) (x_rb_of (by decide +kernel)) rfl rfl (x_wr (by decide) (x_wi la1 (x_wi (by decide) x_wn))) x_wn (by decide) rfl ?_
  refine x_aload (np := 1) (x := 0) (by decide +kernel) rfl (x_nc_le (by decide)) ?_
  have q7 : h 75 1 = 76 := by have z := jB (e := 1) 0 hJ rg_75_1_0_1 (by decide) (by decide); omega
  refine x_getR (np := 4) (x := 705) (f := 1) (q := 76) (by decide +kernel) (by decide) (by decide +kernel) q7 ?_
  refine x_const (np := 6) (x := 9223372124901605396) (a := 2147483668) (by decide +kernel) (by decide) (by decide) ?_
  refine x_const (np := 8) (x := 9223372069067030535) (a := 2147483655) (by decide +kernel) (by decide) (by decide) ?_
  refine x_iload (np := 9) (x := 1) (by decide +kernel) rfl la1 ?_
  refine x_imul (np := 10) (x := 0) (i := 7) (j := u2) (v := (2147483648 + 7 * u2)) (by decide +kernel) (by first | decide | omega) (by first | decide | omega) (by first | decide | omega) (by first | decide | omega) (by decide) la1 ?_
  refine x_iadd (np := 11) (x := 0) (v := (2147483668 + 7 * u2)) (by decide +kernel) (by decide) (by first | decide | omega) (by first | decide | omega) (by first | decide | omega) ?_
  refine x_iload (np := 12) (x := 2) (by decide +kernel) rfl (by decide) ?_
  refine x_iadd (np := 13) (x := 0) (v := (2147483669 + 7 * u2)) (by decide +kernel) (by first | decide | omega) (by decide) (by first | decide | omega) (by first | decide | omega) ?_
  have b9 := jB (e := (21 + 7 * u2)) u2 hJ rg_76_21_7_20 (by first | decide | omega) (by first | decide | omega)
  refine x_aldC (np := 14) (x := 0) (n := 1952) (i := (21 + 7 * u2)) (q := ((h 76 (21 + 7 * u2)))) (by decide +kernel) (by decide +kernel) (by first | decide | omega) (by first | decide | omega) (by decide) rfl (fun l10 => ?_)
  refine x_retI (np := 15) (x := 0) (by decide +kernel) l10 (Or.inl (by decide +kernel)) ⟨_, rfl, l10, ?_⟩
  refine x_istore (np := 15) (x := 4) (lo' := [x_r 75, iv_c a1, iv_c a2, iv_c ((h 76 (20 + 7 * u2))), iv_c ((h 76 (21 + 7 * u2))), 147573952589676412928, 147573952589676412928]) (by decide +kernel) l10 (Nat.le_of_ble_eq_true rfl) rfl ?_
  refine x_aload (np := 16) (x := 0) (by decide +kernel) rfl (x_nc_le (by decide)) ?_
  refine x_iload (np := 17) (x := 3) (by decide +kernel) rfl l6 ?_
  refine x_cP (t := 6) (mj := 203) (n := 2) (rc := 12) (ml := 2) (nr := 0) (np := 20) (as := [x_r 75, iv_c ((h 76 (20 + 7 * u2)))]) (rest := []) (lo1 := [x_r 75, iv_c ((h 76 (20 + 7 * u2)))]) (by decide +kernel) (by decide) (by decide +kernel) (x_rb_of (by decide +kernel)) rfl rfl (x_wr (by decide) (x_wi l6 x_wn)) x_wn (by decide) rfl (c203_75 hJ  (by first | decide | omega)) (fun v11 l12 q13 => ?_)
  refine x_istore (np := 22) (x := 5) (lo' := [x_r 75, iv_c a1, iv_c a2, iv_c ((h 76 (20 + 7 * u2))), iv_c ((h 76 (21 + 7 * u2))), iv_c v11, 147573952589676412928]) (by decide +kernel) l12 (Nat.le_of_ble_eq_true rfl) rfl ?_
  refine x_aload (np := 23) (x := 0) (by decide +kernel) rfl (x_nc_le (by decide)) ?_
  have q14 : h 75 16 = 83 := by have z := jB (e := 16) 0 hJ rg_75_16_0_1 (by decide) (by decide); omega
  refine x_getR (np := 26) (x := 720) (f := 16) (q := 83) (by decide +kernel) (by decide) (by decide +kernel) q14 ?_
  refine x_iload (np := 27) (x := 3) (by decide +kernel) rfl l6 ?_
  obtain ⟨u15, q16⟩ : ∃ z, ((h 76 (20 + 7 * u2))) = 2147483648 + z := ⟨((h 76 (20 + 7 * u2))) - 2147483648, by first | decide | omega⟩
  have b17 := jB (e := u15) u15 hJ rg_83_0_1_6 (by first | decide | omega) (by first | decide | omega)
  have z18 := hM u15 (by first | decide | omega)
  refine x_aldC (np := 28) (x := 0) (n := 6) (i := u15) (q := (h 83 u15)) (by decide +kernel) (by decide +kernel) (by first | decide | omega) (by first | decide | omega) (by decide) rfl (fun l19 => ?_)
  refine x_ifz (k := 0) (tg := 58) (np := 31) (by decide +kernel) (by decide) l19 (fun q20 => ?_) (fun q21 => ?_)
  · have q20 : (h 83 u15) = 2147483648 := q20
    refine x_const (np := 59) (x := 9223372043297226753) (a := 2147483649) (by decide +kernel) (by decide) (by decide) ?_
    refine x_goto (np := 62) (x := 63) (by decide +kernel) ?_
    refine x_istore (np := 65) (x := 6) (lo' := [x_r 75, iv_c a1, iv_c a2, iv_c ((h 76 (20 + 7 * u2))), iv_c ((h 76 (21 + 7 * u2))), iv_c v11, iv_c 2147483649]) (by decide +kernel) (by decide) (Nat.le_of_ble_eq_true rfl) rfl ?_
    refine x_aload (np := 66) (x := 0) (by decide +kernel) rfl (x_nc_le (by decide)) ?_
    refine x_iload (np := 68) (x := 5) (by decide +kernel) rfl l12 ?_
    refine x_iload (np := 69) (x := 2) (by decide +kernel) rfl la2 ?_
    refine x_cP (t := 6) (mj := 200) (n := 3) (rc := 12) (ml := 3) (nr := 0) (np := 72) (as := [x_r 75, iv_c v11, iv_c a2]) (rest := []) (lo1 := [x_r 75, iv_c v11, iv_c a2]) (by decide +kernel) (by decide) (by decide +kernel) (x_rb_of (by decide +kernel)) rfl rfl (x_wr (by decide) (x_wi l12 (x_wi la2 x_wn))) x_wn (by decide) rfl (c200_75 hJ  (by first | decide | omega) (by first | decide | omega)) (fun v22 l23 q24 => ?_)
    refine x_ifz (k := 0) (tg := 106) (np := 75) (by decide +kernel) (by decide) l23 (fun q25 => ?_) (fun q26 => ?_)
    · have q25 : v22 = 2147483648 := q25
      refine x_retV (np := 107) (x := 0) (by decide +kernel) (by decide +kernel) ⟨rfl, ?_⟩
      exact ⟨hJ, hF, (MB.mono hM (Nat.le_refl _) (Nat.le_succ _))⟩
    have q26 : ¬ (v22 = 2147483648) := q26
    refine x_aload (np := 76) (x := 0) (by decide +kernel) rfl (x_nc_le (by decide)) ?_
    refine x_iload (np := 77) (x := 3) (by decide +kernel) rfl l6 ?_
    refine x_iload (np := 78) (x := 2) (by decide +kernel) rfl la2 ?_
    refine x_cP (t := 6) (mj := 204) (n := 3) (rc := 12) (ml := 5) (nr := 0) (np := 81) (as := [x_r 75, iv_c ((h 76 (20 + 7 * u2))), iv_c a2]) (rest := []) (lo1 := [x_r 75, iv_c ((h 76 (20 + 7 * u2))), iv_c a2, 147573952589676412928, 147573952589676412928]) (by decide +kernel) (by decide) (by decide +kernel) (x_rb_of (by decide +kernel)) rfl rfl (x_wr (by decide) (x_wi l6 (x_wi la2 x_wn))) x_wn (by decide) rfl (c204_75 hJ  (by first | decide | omega) (by first | decide | omega)) (fun v27 l28 q29 => ?_)
    refine x_ifz (k := 0) (tg := 106) (np := 84) (by decide +kernel) (by decide) l28 (fun q30 => ?_) (fun q31 => ?_)
    · have q30 : v27 = 2147483648 := q30
      refine x_retV (np := 107) (x := 0) (by decide +kernel) (by decide +kernel) ⟨rfl, ?_⟩
      exact ⟨hJ, hF, (MB.mono hM (Nat.le_refl _) (Nat.le_succ _))⟩
    have q31 : ¬ (v27 = 2147483648) := q31
    refine x_iload (np := 86) (x := 6) (by decide +kernel) rfl (by decide) ?_
    refine x_ifz (k := 0) (tg := 106) (np := 89) (by decide +kernel) (by decide) (by decide) (fun q32 => ?_) (fun q33 => ?_)
    · have q32 : 2147483649 = 2147483648 := q32
      exfalso; omega
    have q33 : ¬ (2147483649 = 2147483648) := q33
    refine x_iload (np := 91) (x := 5) (by decide +kernel) rfl l12 ?_
    refine x_iload (np := 93) (x := 4) (by decide +kernel) rfl l10 ?_
    refine x_icmp (k := 0) (tg := 106) (np := 96) (by decide +kernel) (by decide) l12 l10 (fun q34 => ?_) (fun q35 => ?_)
    · have q34 : v11 = ((h 76 (21 + 7 * u2))) := q34
      refine x_retV (np := 107) (x := 0) (by decide +kernel) (by decide +kernel) ⟨rfl, ?_⟩
      exact ⟨hJ, hF, (MB.mono hM (Nat.le_refl _) (Nat.le_succ _))⟩
    have q35 : ¬ (v11 = ((h 76 (21 + 7 * u2)))) := q35
    refine x_aload (np := 97) (x := 0) (by decide +kernel) rfl (x_nc_le (by decide)) ?_
    refine x_iload (np := 99) (x := 4) (by decide +kernel) rfl l10 ?_
    refine x_iload (np := 100) (x := 2) (by decide +kernel) rfl la2 ?_
    refine x_cP (t := 6) (mj := 200) (n := 3) (rc := 12) (ml := 3) (nr := 0) (np := 103) (as := [x_r 75, iv_c ((h 76 (21 + 7 * u2))), iv_c a2]) (rest := []) (lo1 := [x_r 75, iv_c ((h 76 (21 + 7 * u2))), iv_c a2]) (by decide +kernel) (by decide) (by decide +kernel) (x_rb_of (by decide +kernel)) rfl rfl (x_wr (by decide) (x_wi l10 (x_wi la2 x_wn))) x_wn (by decide) rfl (c200_75 hJ  (by first | decide | omega) (by first | decide | omega)) (fun v36 l37 q38 => ?_)
    refine x_ifz (k := 1) (tg := 107) (np := 106) (by decide +kernel) (by decide) l37 (fun q39 => ?_) (fun q40 => ?_)
    · have q39 : v36 ≠ 2147483648 := q39
      refine x_aload (np := 108) (x := 0) (by decide +kernel) rfl (x_nc_le (by decide)) ?_
      have q41 : h 75 14 = 81 := by have z := jB (e := 14) 0 hJ rg_75_14_0_1 (by decide) (by decide); omega
      refine x_getR (np := 111) (x := 718) (f := 14) (q := 81) (by decide +kernel) (by decide) (by decide +kernel) q41 ?_
      refine x_const (np := 112) (x := 9223372039002259456) (a := 2147483648) (by decide +kernel) (by decide) (by decide) ?_
      refine x_iload (np := 113) (x := 2) (by decide +kernel) rfl la2 ?_
      refine x_ast (np := 114) (x := 0) (kd := 1) (n := 8) (i := 0) (by decide +kernel) (Or.inl rfl) (by decide +kernel) (by first | decide | omega) (by first | decide | omega) (by decide) la2 (fun z => absurd z (by decide)) ?_
      have j43 := jU (e := 0) (v := a2) 0 hJ rg_81_0_1_8 (by first | decide | omega) (by first | decide | omega) (by first | decide | omega)
      have f45 := jF (e := 0) (v := a2) 0 hF rg_81_0_1_8 (by first | decide | omega) (by first | decide | omega) (by decide)
      have m46 := MB.oth (q := 81) (e := 0) (v := a2) hM (by decide)
      generalize e44 : x_up h 81 0 a2 = h42 at j43 f45 m46 ⊢
      refine x_aload (np := 115) (x := 0) (by decide +kernel) rfl (x_nc_le (by decide)) ?_
      have q47 : h42 75 14 = 81 := by have z := jB (e := 14) 0 j43 rg_75_14_0_1 (by decide) (by decide); omega
      refine x_getR (np := 118) (x := 718) (f := 14) (q := 81) (by decide +kernel) (by decide) (by decide +kernel) q47 ?_
      refine x_const (np := 119) (x := 9223372043297226753) (a := 2147483649) (by decide +kernel) (by decide) (by decide) ?_
      refine x_aload (np := 120) (x := 0) (by decide +kernel) rfl (x_nc_le (by decide)) ?_
      refine x_iload (np := 121) (x := 1) (by decide +kernel) rfl la1 ?_
      refine x_const (np := 122) (x := 9223372051887161347) (a := 2147483651) (by decide +kernel) (by decide) (by decide) ?_
      refine x_nI (t := 6) (mj := 161) (n := 3) (rc := 12) (ml := 3) (nr := 2) (np := 125) (as := [x_r 75, iv_c a1, iv_c 2147483651]) (rest := [iv_c 2147483649, x_r 81]) (lo1 := [x_r 75, iv_c a1, iv_c 2147483651]) (by decide +kernel) (by decide) (by decide +kernel) (x_rb_of (by decide +kernel)) rfl rfl (x_wr (by decide) (x_wi la1 (x_wi (by decide) x_wn))) (x_wi (by decide) (x_wr (by decide) x_wn)) (by decide) rfl ?_
      refine x_aload (np := 1) (x := 0) (by decide +kernel) rfl (x_nc_le (by decide)) ?_
      have q48 : h42 75 1 = 76 := by have z := jB (e := 1) 0 j43 rg_75_1_0_1 (by decide) (by decide); omega
      refine x_getR (np := 4) (x := 705) (f := 1) (q := 76) (by decide +kernel) (by decide) (by decide +kernel) q48 ?_
      refine x_const (np := 6) (x := 9223372124901605396) (a := 2147483668) (by decide +kernel) (by decide) (by decide) ?_
      refine x_const (np := 8) (x := 9223372069067030535) (a := 2147483655) (by decide +kernel) (by decide) (by decide) ?_
      refine x_iload (np := 9) (x := 1) (by decide +kernel) rfl la1 ?_
      refine x_imul (np := 10) (x := 0) (i := 7) (j := u2) (v := (2147483648 + 7 * u2)) (by decide +kernel) (by first | decide | omega) (by first | decide | omega) (by first | decide | omega) (by first | decide | omega) (by decide) la1 ?_
      refine x_iadd (np := 11) (x := 0) (v := (2147483668 + 7 * u2)) (by decide +kernel) (by decide) (by first | decide | omega) (by first | decide | omega) (by first | decide | omega) ?_
      refine x_iload (np := 12) (x := 2) (by decide +kernel) rfl (by decide) ?_
      refine x_iadd (np := 13) (x := 0) (v := (2147483671 + 7 * u2)) (by decide +kernel) (by first | decide | omega) (by decide) (by first | decide | omega) (by first | decide | omega) ?_
      have q50 : h42 76 (23 + 7 * u2) = h 76 (23 + 7 * u2) := by rw [← e44]; exact x_up_k (by decide)
      refine x_aldC (np := 14) (x := 0) (n := 1952) (i := (23 + 7 * u2)) (q := ((h 76 (23 + 7 * u2)))) (by decide +kernel) (by decide +kernel) (by first | decide | omega) (by first | decide | omega) (by decide) q50 (fun l51 => ?_)
      refine x_retI (np := 15) (x := 0) (by decide +kernel) l51 (Or.inl (by decide +kernel)) ⟨_, rfl, l51, ?_⟩
      refine x_ast (np := 126) (x := 0) (kd := 1) (n := 8) (i := 1) (by decide +kernel) (Or.inl rfl) (by decide +kernel) (by first | decide | omega) (by first | decide | omega) (by decide) l51 (fun z => absurd z (by decide)) ?_
      have j53 := jU (e := 1) (v := ((h 76 (23 + 7 * u2)))) 1 j43 rg_81_0_1_8 (by first | decide | omega) (by first | decide | omega) (by first | decide | omega)
      have f55 := jF (e := 1) (v := ((h 76 (23 + 7 * u2)))) 1 f45 rg_81_0_1_8 (by first | decide | omega) (by first | decide | omega) (by decide)
      have m56 := MB.oth (q := 81) (e := 1) (v := ((h 76 (23 + 7 * u2)))) m46 (by decide)
      generalize e54 : x_up h42 81 1 ((h 76 (23 + 7 * u2))) = h52 at j53 f55 m56 ⊢
      refine x_aload (np := 127) (x := 0) (by decide +kernel) rfl (x_nc_le (by decide)) ?_
      have q57 : h52 75 14 = 81 := by have z := jB (e := 14) 0 j53 rg_75_14_0_1 (by decide) (by decide); omega
      refine x_getR (np := 130) (x := 718) (f := 14) (q := 81) (by decide +kernel) (by decide) (by decide +kernel) q57 ?_
      refine x_const (np := 131) (x := 9223372047592194050) (a := 2147483650) (by decide +kernel) (by decide) (by decide) ?_
      refine x_aload (np := 132) (x := 0) (by decide +kernel) rfl (x_nc_le (by decide)) ?_
      refine x_iload (np := 133) (x := 1) (by decide +kernel) rfl la1 ?_
      refine x_const (np := 134) (x := 9223372060477095941) (a := 2147483653) (by decide +kernel) (by decide) (by decide) ?_
      refine x_nI (t := 6) (mj := 161) (n := 3) (rc := 12) (ml := 3) (nr := 2) (np := 137) (as := [x_r 75, iv_c a1, iv_c 2147483653]) (rest := [iv_c 2147483650, x_r 81]) (lo1 := [x_r 75, iv_c a1, iv_c 2147483653]) (by decide +kernel) (by decide) (by decide +kernel) (x_rb_of (by decide +kernel)) rfl rfl (x_wr (by decide) (x_wi la1 (x_wi (by decide) x_wn))) (x_wi (by decide) (x_wr (by decide) x_wn)) (by decide) rfl ?_
      refine x_aload (np := 1) (x := 0) (by decide +kernel) rfl (x_nc_le (by decide)) ?_
      have q58 : h52 75 1 = 76 := by have z := jB (e := 1) 0 j53 rg_75_1_0_1 (by decide) (by decide); omega
      refine x_getR (np := 4) (x := 705) (f := 1) (q := 76) (by decide +kernel) (by decide) (by decide +kernel) q58 ?_
      refine x_const (np := 6) (x := 9223372124901605396) (a := 2147483668) (by decide +kernel) (by decide) (by decide) ?_
      refine x_const (np := 8) (x := 9223372069067030535) (a := 2147483655) (by decide +kernel) (by decide) (by decide) ?_
      refine x_iload (np := 9) (x := 1) (by decide +kernel) rfl la1 ?_
      refine x_imul (np := 10) (x := 0) (i := 7) (j := u2) (v := (2147483648 + 7 * u2)) (by decide +kernel) (by first | decide | omega) (by first | decide | omega) (by first | decide | omega) (by first | decide | omega) (by decide) la1 ?_
      refine x_iadd (np := 11) (x := 0) (v := (2147483668 + 7 * u2)) (by decide +kernel) (by decide) (by first | decide | omega) (by first | decide | omega) (by first | decide | omega) ?_
      refine x_iload (np := 12) (x := 2) (by decide +kernel) rfl (by decide) ?_
      refine x_iadd (np := 13) (x := 0) (v := (2147483673 + 7 * u2)) (by decide +kernel) (by first | decide | omega) (by decide) (by first | decide | omega) (by first | decide | omega) ?_
      have q60 : h52 76 (25 + 7 * u2) = h42 76 (25 + 7 * u2) := by rw [← e54]; exact x_up_k (by decide)
      have q61 : h42 76 (25 + 7 * u2) = h 76 (25 + 7 * u2) := by rw [← e44]; exact x_up_k (by decide)
      refine x_aldC (np := 14) (x := 0) (n := 1952) (i := (25 + 7 * u2)) (q := ((h 76 (25 + 7 * u2)))) (by decide +kernel) (by decide +kernel) (by first | decide | omega) (by first | decide | omega) (by decide) (q60.trans q61) (fun l62 => ?_)
      refine x_retI (np := 15) (x := 0) (by decide +kernel) l62 (Or.inl (by decide +kernel)) ⟨_, rfl, l62, ?_⟩
      refine x_ast (np := 138) (x := 0) (kd := 1) (n := 8) (i := 2) (by decide +kernel) (Or.inl rfl) (by decide +kernel) (by first | decide | omega) (by first | decide | omega) (by decide) l62 (fun z => absurd z (by decide)) ?_
      have j64 := jU (e := 2) (v := ((h 76 (25 + 7 * u2)))) 2 j53 rg_81_0_1_8 (by first | decide | omega) (by first | decide | omega) (by first | decide | omega)
      have f66 := jF (e := 2) (v := ((h 76 (25 + 7 * u2)))) 2 f55 rg_81_0_1_8 (by first | decide | omega) (by first | decide | omega) (by decide)
      have m67 := MB.oth (q := 81) (e := 2) (v := ((h 76 (25 + 7 * u2)))) m56 (by decide)
      generalize e65 : x_up h52 81 2 ((h 76 (25 + 7 * u2))) = h63 at j64 f66 m67 ⊢
      refine x_aload (np := 139) (x := 0) (by decide +kernel) rfl (x_nc_le (by decide)) ?_
      have q68 : h63 75 14 = 81 := by have z := jB (e := 14) 0 j64 rg_75_14_0_1 (by decide) (by decide); omega
      refine x_getR (np := 142) (x := 718) (f := 14) (q := 81) (by decide +kernel) (by decide) (by decide +kernel) q68 ?_
      refine x_const (np := 143) (x := 9223372051887161347) (a := 2147483651) (by decide +kernel) (by decide) (by decide) ?_
      refine x_aload (np := 144) (x := 0) (by decide +kernel) rfl (x_nc_le (by decide)) ?_
      have q69 : h63 75 16 = 83 := by have z := jB (e := 16) 0 j64 rg_75_16_0_1 (by decide) (by decide); omega
      refine x_getR (np := 147) (x := 720) (f := 16) (q := 83) (by decide +kernel) (by decide) (by decide +kernel) q69 ?_
      refine x_iload (np := 148) (x := 3) (by decide +kernel) rfl l6 ?_
      have q70 : h63 83 u15 = h52 83 u15 := by rw [← e65]; exact x_up_k (by decide)
      have q71 : h52 83 u15 = h42 83 u15 := by rw [← e54]; exact x_up_k (by decide)
      have q72 : h42 83 u15 = h 83 u15 := by rw [← e44]; exact x_up_k (by decide)
      have z73 := m67 u15 (by first | decide | omega)
      refine x_aldC (np := 149) (x := 0) (n := 6) (i := u15) (q := (h 83 u15)) (by decide +kernel) (by decide +kernel) (by first | decide | omega) (by first | decide | omega) (by decide) ((q70.trans q71).trans q72) (fun l74 => ?_)
      refine x_ast (np := 150) (x := 0) (kd := 1) (n := 8) (i := 3) (by decide +kernel) (Or.inl rfl) (by decide +kernel) (by first | decide | omega) (by first | decide | omega) (by decide) l19 (fun z => absurd z (by decide)) ?_
      have j76 := jU (e := 3) (v := (h 83 u15)) 3 j64 rg_81_0_1_8 (by first | decide | omega) (by first | decide | omega) (by first | decide | omega)
      have f78 := jF (e := 3) (v := (h 83 u15)) 3 f66 rg_81_0_1_8 (by first | decide | omega) (by first | decide | omega) (by decide)
      have m79 := MB.oth (q := 81) (e := 3) (v := (h 83 u15)) m67 (by decide)
      generalize e77 : x_up h63 81 3 (h 83 u15) = h75 at j76 f78 m79 ⊢
      refine x_aload (np := 151) (x := 0) (by decide +kernel) rfl (x_nc_le (by decide)) ?_
      have q80 : h75 75 14 = 81 := by have z := jB (e := 14) 0 j76 rg_75_14_0_1 (by decide) (by decide); omega
      refine x_getR (np := 154) (x := 718) (f := 14) (q := 81) (by decide +kernel) (by decide) (by decide +kernel) q80 ?_
      refine x_const (np := 155) (x := 9223372056182128644) (a := 2147483652) (by decide +kernel) (by decide) (by decide) ?_
      refine x_aload (np := 156) (x := 0) (by decide +kernel) rfl (x_nc_le (by decide)) ?_
      refine x_iload (np := 158) (x := 5) (by decide +kernel) rfl l12 ?_
      refine x_iload (np := 159) (x := 2) (by decide +kernel) rfl la2 ?_
      refine x_cP (t := 6) (mj := 208) (n := 3) (rc := 12) (ml := 5) (nr := 2) (np := 162) (as := [x_r 75, iv_c v11, iv_c a2]) (rest := [iv_c 2147483652, x_r 81]) (lo1 := [x_r 75, iv_c v11, iv_c a2, 147573952589676412928, 147573952589676412928]) (by decide +kernel) (by decide) (by decide +kernel) (x_rb_of (by decide +kernel)) rfl rfl (x_wr (by decide) (x_wi l12 (x_wi la2 x_wn))) (x_wi (by decide) (x_wr (by decide) x_wn)) (by decide) rfl (c208_75 j76  (by first | decide | omega) (by first | decide | omega)) (fun v81 l82 q83 => ?_)
      refine x_ast (np := 163) (x := 0) (kd := 1) (n := 8) (i := 4) (by decide +kernel) (Or.inl rfl) (by decide +kernel) (by first | decide | omega) (by first | decide | omega) (by decide) l82 (fun z => absurd z (by decide)) ?_
      have j85 := jU (e := 4) (v := v81) 4 j76 rg_81_0_1_8 (by first | decide | omega) (by first | decide | omega) (by first | decide | omega)
      have f87 := jF (e := 4) (v := v81) 4 f78 rg_81_0_1_8 (by first | decide | omega) (by first | decide | omega) (by decide)
      have m88 := MB.oth (q := 81) (e := 4) (v := v81) m79 (by decide)
      generalize e86 : x_up h75 81 4 v81 = h84 at j85 f87 m88 ⊢
      refine x_aload (np := 164) (x := 0) (by decide +kernel) rfl (x_nc_le (by decide)) ?_
      have q89 : h84 75 14 = 81 := by have z := jB (e := 14) 0 j85 rg_75_14_0_1 (by decide) (by decide); omega
      refine x_getR (np := 167) (x := 718) (f := 14) (q := 81) (by decide +kernel) (by decide) (by decide +kernel) q89 ?_
      refine x_const (np := 168) (x := 9223372060477095941) (a := 2147483653) (by decide +kernel) (by decide) (by decide) ?_
      refine x_aload (np := 169) (x := 0) (by decide +kernel) rfl (x_nc_le (by decide)) ?_
      refine x_iload (np := 171) (x := 4) (by decide +kernel) rfl l10 ?_
      refine x_iload (np := 172) (x := 2) (by decide +kernel) rfl la2 ?_
      refine x_cP (t := 6) (mj := 208) (n := 3) (rc := 12) (ml := 5) (nr := 2) (np := 175) (as := [x_r 75, iv_c ((h 76 (21 + 7 * u2))), iv_c a2]) (rest := [iv_c 2147483653, x_r 81]) (lo1 := [x_r 75, iv_c ((h 76 (21 + 7 * u2))), iv_c a2, 147573952589676412928, 147573952589676412928]) (by decide +kernel) (by decide) (by decide +kernel) (x_rb_of (by decide +kernel)) rfl rfl (x_wr (by decide) (x_wi l10 (x_wi la2 x_wn))) (x_wi (by decide) (x_wr (by decide) x_wn)) (by decide) rfl (c208_75 j85  (by first | decide | omega) (by first | decide | omega)) (fun v90 l91 q92 => ?_)
      refine x_ast (np := 176) (x := 0) (kd := 1) (n := 8) (i := 5) (by decide +kernel) (Or.inl rfl) (by decide +kernel) (by first | decide | omega) (by first | decide | omega) (by decide) l91 (fun z => absurd z (by decide)) ?_
      have j94 := jU (e := 5) (v := v90) 5 j85 rg_81_0_1_8 (by first | decide | omega) (by first | decide | omega) (by first | decide | omega)
      have f96 := jF (e := 5) (v := v90) 5 f87 rg_81_0_1_8 (by first | decide | omega) (by first | decide | omega) (by decide)
      have m97 := MB.oth (q := 81) (e := 5) (v := v90) m88 (by decide)
      generalize e95 : x_up h84 81 5 v90 = h93 at j94 f96 m97 ⊢
      refine x_aload (np := 177) (x := 0) (by decide +kernel) rfl (x_nc_le (by decide)) ?_
      have q98 : h93 75 14 = 81 := by have z := jB (e := 14) 0 j94 rg_75_14_0_1 (by decide) (by decide); omega
      refine x_getR (np := 180) (x := 718) (f := 14) (q := 81) (by decide +kernel) (by decide) (by decide +kernel) q98 ?_
      refine x_const (np := 182) (x := 9223372064772063238) (a := 2147483654) (by decide +kernel) (by decide) (by decide) ?_
      refine x_iload (np := 184) (x := 5) (by decide +kernel) rfl l12 ?_
      refine x_iload (np := 185) (x := 3) (by decide +kernel) rfl l6 ?_
      refine x_icmp (k := 1) (tg := 192) (np := 188) (by decide +kernel) (by decide) l12 l6 (fun q99 => ?_) (fun q100 => ?_)
      · have q99 : v11 ≠ ((h 76 (20 + 7 * u2))) := q99
        refine x_const (np := 193) (x := 9223372039002259456) (a := 2147483648) (by decide +kernel) (by decide) (by decide) ?_
        refine x_ast (np := 194) (x := 0) (kd := 1) (n := 8) (i := 6) (by decide +kernel) (Or.inl rfl) (by decide +kernel) (by first | decide | omega) (by first | decide | omega) (by decide) (by decide) (fun z => absurd z (by decide)) ?_
        have j102 := jU (e := 6) (v := 2147483648) 6 j94 rg_81_0_1_8 (by first | decide | omega) (by first | decide | omega) (by first | decide | omega)
        have f104 := jF (e := 6) (v := 2147483648) 6 f96 rg_81_0_1_8 (by first | decide | omega) (by first | decide | omega) (by decide)
        have m105 := MB.oth (q := 81) (e := 6) (v := 2147483648) m97 (by decide)
        generalize e103 : x_up h93 81 6 2147483648 = h101 at j102 f104 m105 ⊢
        refine x_aload (np := 195) (x := 0) (by decide +kernel) rfl (x_nc_le (by decide)) ?_
        have q106 : h101 75 14 = 81 := by have z := jB (e := 14) 0 j102 rg_75_14_0_1 (by decide) (by decide); omega
        refine x_getR (np := 198) (x := 718) (f := 14) (q := 81) (by decide +kernel) (by decide) (by decide +kernel) q106 ?_
        refine x_const (np := 200) (x := 9223372069067030535) (a := 2147483655) (by decide +kernel) (by decide) (by decide) ?_
        refine x_iload (np := 202) (x := 4) (by decide +kernel) rfl l10 ?_
        refine x_iload (np := 203) (x := 3) (by decide +kernel) rfl l6 ?_
        refine x_icmp (k := 1) (tg := 210) (np := 206) (by decide +kernel) (by decide) l10 l6 (fun q107 => ?_) (fun q108 => ?_)
        · have q107 : ((h 76 (21 + 7 * u2))) ≠ ((h 76 (20 + 7 * u2))) := q107
          refine x_const (np := 211) (x := 9223372039002259456) (a := 2147483648) (by decide +kernel) (by decide) (by decide) ?_
          refine x_ast (np := 212) (x := 0) (kd := 1) (n := 8) (i := 7) (by decide +kernel) (Or.inl rfl) (by decide +kernel) (by first | decide | omega) (by first | decide | omega) (by decide) (by decide) (fun z => absurd z (by decide)) ?_
          have j110 := jU (e := 7) (v := 2147483648) 7 j102 rg_81_0_1_8 (by first | decide | omega) (by first | decide | omega) (by first | decide | omega)
          have f112 := jF (e := 7) (v := 2147483648) 7 f104 rg_81_0_1_8 (by first | decide | omega) (by first | decide | omega) (by decide)
          have m113 := MB.oth (q := 81) (e := 7) (v := 2147483648) m105 (by decide)
          generalize e111 : x_up h101 81 7 2147483648 = h109 at j110 f112 m113 ⊢
          refine x_aload (np := 213) (x := 0) (by decide +kernel) rfl (x_nc_le (by decide)) ?_
          have m124 : WT 76 h42 := by rw [← e44]; exact WT.oth hW hJ (by decide)
          have m123 : WT 76 h52 := by rw [← e54]; exact WT.oth m124 j43 (by decide)
          have m122 : WT 76 h63 := by rw [← e65]; exact WT.oth m123 j53 (by decide)
          have m121 : WT 76 h75 := by rw [← e77]; exact WT.oth m122 j64 (by decide)
          have m120 : WT 76 h84 := by rw [← e86]; exact WT.oth m121 j76 (by decide)
          have m119 : WT 76 h93 := by rw [← e95]; exact WT.oth m120 j85 (by decide)
          have m118 : WT 76 h101 := by rw [← e103]; exact WT.oth m119 j94 (by decide)
          have m117 : WT 76 h109 := by rw [← e111]; exact WT.oth m118 j102 (by decide)
          refine x_cI (t := 6) (mj := 199) (n := 1) (rc := 12) (ml := 2) (nr := 0) (np := 216) (as := [x_r 75]) (rest := []) (lo1 := [x_r 75, 147573952589676412928]) (by decide +kernel) (by decide) (by decide +kernel) (x_rb_of (by decide +kernel)) rfl rfl (x_wr (by decide) x_wn) x_wn (by decide) rfl (c199_75 j110  m117) (fun v114 h125 l115 q116 => ?_)
          obtain ⟨j126, f127, b128⟩ := q116
          have m129 := MB.fr m113 f127 (by decide)
          have f130 := Fr.trans f112 f127 (by decide)
          refine x_ifz (k := 1) (tg := 220) (np := 219) (by decide +kernel) (by decide) l115 (fun q131 => ?_) (fun q132 => ?_)
          · have q131 : v114 ≠ 2147483648 := q131
            refine x_aload (np := 221) (x := 0) (by decide +kernel) rfl (x_nc_le (by decide)) ?_
            have q133 : h125 75 21 = 88 := by have z := jB (e := 21) 0 j126 rg_75_21_0_1 (by decide) (by decide); omega
            refine x_getR (np := 224) (x := 725) (f := 21) (q := 88) (by decide +kernel) (by decide) (by decide +kernel) q133 ?_
            refine x_iload (np := 225) (x := 1) (by decide +kernel) rfl la1 ?_
            refine x_iload (np := 227) (x := 5) (by decide +kernel) rfl l12 ?_
            refine x_ast (np := 228) (x := 0) (kd := 1) (n := 20) (i := u2) (by decide +kernel) (Or.inl rfl) (by decide +kernel) (by first | decide | omega) (by first | decide | omega) (by decide) l12 (fun z => absurd z (by decide)) ?_
            have j135 := jU (e := u2) (v := v11) u2 j126 rg_88_0_1_20 (by first | decide | omega) (by first | decide | omega) (by first | decide | omega)
            have f137 := jF (e := u2) (v := v11) u2 f130 rg_88_0_1_20 (by first | decide | omega) (by first | decide | omega) (by decide)
            have m138 := MB.oth (q := 88) (e := u2) (v := v11) m129 (by decide)
            generalize e136 : x_up h125 88 u2 v11 = h134 at j135 f137 m138 ⊢
            refine x_aload (np := 229) (x := 0) (by decide +kernel) rfl (x_nc_le (by decide)) ?_
            have q139 : h134 75 17 = 84 := by have z := jB (e := 17) 0 j135 rg_75_17_0_1 (by decide) (by decide); omega
            refine x_getR (np := 232) (x := 721) (f := 17) (q := 84) (by decide +kernel) (by decide) (by decide +kernel) q139 ?_
            refine x_const (np := 234) (x := 9223372124901605396) (a := 2147483668) (by decide +kernel) (by decide) (by decide) ?_
            refine x_iload (np := 235) (x := 3) (by decide +kernel) rfl l6 ?_
            refine x_imul (np := 236) (x := 0) (i := 20) (j := u15) (v := (2147483648 + 20 * u15)) (by decide +kernel) (by first | decide | omega) (by first | decide | omega) (by first | decide | omega) (by first | decide | omega) (by decide) l6 ?_
            refine x_aload (np := 237) (x := 0) (by decide +kernel) rfl (x_nc_le (by decide)) ?_
            have q141 : h134 75 16 = 83 := by have z := jB (e := 16) 0 j135 rg_75_16_0_1 (by decide) (by decide); omega
            refine x_getR (np := 240) (x := 720) (f := 16) (q := 83) (by decide +kernel) (by decide) (by decide +kernel) q141 ?_
            refine x_iload (np := 241) (x := 3) (by decide +kernel) rfl l6 ?_
            have q142 : h134 83 u15 = h125 83 u15 := by rw [← e136]; exact x_up_k (by decide)
            have q143 : h125 83 u15 = h109 83 u15 := jK u15 f127 rg_83_0_1_6 (by first | decide | omega) (by first | decide | omega) (by decide)
            have q144 : h109 83 u15 = h101 83 u15 := by rw [← e111]; exact x_up_k (by decide)
            have q145 : h101 83 u15 = h93 83 u15 := by rw [← e103]; exact x_up_k (by decide)
            have q146 : h93 83 u15 = h84 83 u15 := by rw [← e95]; exact x_up_k (by decide)
            have q147 : h84 83 u15 = h75 83 u15 := by rw [← e86]; exact x_up_k (by decide)
            have q148 : h75 83 u15 = h63 83 u15 := by rw [← e77]; exact x_up_k (by decide)
            have q149 : h63 83 u15 = h52 83 u15 := by rw [← e65]; exact x_up_k (by decide)
            have q150 : h52 83 u15 = h42 83 u15 := by rw [← e54]; exact x_up_k (by decide)
            have q151 : h42 83 u15 = h 83 u15 := by rw [← e44]; exact x_up_k (by decide)
            have z152 := m138 u15 (by first | decide | omega)
            refine x_aldC (np := 242) (x := 0) (n := 6) (i := u15) (q := (h 83 u15)) (by decide +kernel) (by decide +kernel) (by first | decide | omega) (by first | decide | omega) (by decide) (((((((((q142.trans q143).trans q144).trans q145).trans q146).trans q147).trans q148).trans q149).trans q150).trans q151) (fun l153 => ?_)
            refine x_iadd (np := 243) (x := 0) (v := (20 * u15 + (h 83 u15))) (by decide +kernel) (by first | decide | omega) l19 (by first | decide | omega) (by first | decide | omega) ?_
            refine x_iload (np := 244) (x := 1) (by decide +kernel) rfl la1 ?_
            obtain ⟨u154, q155⟩ : ∃ z, (h 83 u15) = 2147483648 + z := ⟨(h 83 u15) - 2147483648, by first | decide | omega⟩
            refine x_ast (np := 245) (x := 0) (kd := 1) (n := 120) (i := (20 * u15 + u154)) (by decide +kernel) (Or.inl rfl) (by decide +kernel) (by first | decide | omega) (by first | decide | omega) (by decide) la1 (fun z => absurd z (by decide)) ?_
            have j157 := jU (e := (20 * u15 + u154)) (v := a1) (20 * u15 + u154) j135 rg_84_0_1_120 (by first | decide | omega) (by first | decide | omega) (by first | decide | omega)
            have f159 := jF (e := (20 * u15 + u154)) (v := a1) (20 * u15 + u154) f137 rg_84_0_1_120 (by first | decide | omega) (by first | decide | omega) (by decide)
            have m160 := MB.oth (q := 84) (e := (20 * u15 + u154)) (v := a1) m138 (by decide)
            generalize e158 : x_up h134 84 (20 * u15 + u154) a1 = h156 at j157 f159 m160 ⊢
            refine x_aload (np := 246) (x := 0) (by decide +kernel) rfl (x_nc_le (by decide)) ?_
            have q161 : h156 75 16 = 83 := by have z := jB (e := 16) 0 j157 rg_75_16_0_1 (by decide) (by decide); omega
            refine x_getR (np := 249) (x := 720) (f := 16) (q := 83) (by decide +kernel) (by decide) (by decide +kernel) q161 ?_
            refine x_iload (np := 250) (x := 3) (by decide +kernel) rfl l6 ?_
            refine x_dup2 (np := 251) (x := 0) (by decide +kernel) (by have z := (iw_c_lt (a := ((h 76 (20 + 7 * u2)))) l6).1; omega) (by have z := x_nc_le (k := 83) (by decide); unfold x_r; omega) ?_
            have q162 : h156 83 u15 = h134 83 u15 := by rw [← e158]; exact x_up_k (by decide)
            have q163 : h134 83 u15 = h125 83 u15 := by rw [← e136]; exact x_up_k (by decide)
            have q164 : h125 83 u15 = h109 83 u15 := jK u15 f127 rg_83_0_1_6 (by first | decide | omega) (by first | decide | omega) (by decide)
            have q165 : h109 83 u15 = h101 83 u15 := by rw [← e111]; exact x_up_k (by decide)
            have q166 : h101 83 u15 = h93 83 u15 := by rw [← e103]; exact x_up_k (by decide)
            have q167 : h93 83 u15 = h84 83 u15 := by rw [← e95]; exact x_up_k (by decide)
            have q168 : h84 83 u15 = h75 83 u15 := by rw [← e86]; exact x_up_k (by decide)
            have q169 : h75 83 u15 = h63 83 u15 := by rw [← e77]; exact x_up_k (by decide)
            have q170 : h63 83 u15 = h52 83 u15 := by rw [← e65]; exact x_up_k (by decide)
            have q171 : h52 83 u15 = h42 83 u15 := by rw [← e54]; exact x_up_k (by decide)
            have q172 : h42 83 u15 = h 83 u15 := by rw [← e44]; exact x_up_k (by decide)
            have z173 := m160 u15 (by first | decide | omega)
            refine x_aldC (np := 252) (x := 0) (n := 6) (i := u15) (q := (h 83 u15)) (by decide +kernel) (by decide +kernel) (by first | decide | omega) (by first | decide | omega) (by decide) ((((((((((q162.trans q163).trans q164).trans q165).trans q166).trans q167).trans q168).trans q169).trans q170).trans q171).trans q172) (fun l174 => ?_)
            refine x_const (np := 253) (x := 9223372043297226753) (a := 2147483649) (by decide +kernel) (by decide) (by decide) ?_
            refine x_iadd (np := 254) (x := 0) (v := (1 + (h 83 u15))) (by decide +kernel) l19 (by decide) (by first | decide | omega) (by first | decide | omega) ?_
            refine x_ast (np := 255) (x := 0) (kd := 1) (n := 6) (i := u15) (by decide +kernel) (Or.inl rfl) (by decide +kernel) (by first | decide | omega) (by first | decide | omega) (by decide) (by first | decide | omega) (fun z => absurd z (by decide)) ?_
            have j176 := jU (e := u15) (v := (1 + (h 83 u15))) u15 j157 rg_83_0_1_6 (by first | decide | omega) (by first | decide | omega) (by first | decide | omega)
            have f178 := jF (e := u15) (v := (1 + (h 83 u15))) u15 f159 rg_83_0_1_6 (by first | decide | omega) (by first | decide | omega) (by decide)
            have m179 := MB.up (e := u15) (v := (1 + (h 83 u15))) (MB.mono m160 (Nat.le_refl _) (Nat.le_succ _)) (by have z := m160 u15 (by first | decide | omega); omega)
            generalize e177 : x_up h156 83 u15 (1 + (h 83 u15)) = h175 at j176 f178 m179 ⊢
            refine x_retV (np := 256) (x := 0) (by decide +kernel) (by decide +kernel) ⟨rfl, ?_⟩
            exact ⟨j176, f178, m179⟩
          have q132 : ¬ (v114 ≠ 2147483648) := q132
          refine x_retV (np := 220) (x := 0) (by decide +kernel) (by decide +kernel) ⟨rfl, ?_⟩
          exact ⟨j126, f130, (MB.mono m129 (Nat.le_refl _) (Nat.le_succ _))⟩
        have q108 : ¬ (((h 76 (21 + 7 * u2))) ≠ ((h 76 (20 + 7 * u2)))) := q108
        refine x_const (np := 207) (x := 9223372043297226753) (a := 2147483649) (by decide +kernel) (by decide) (by decide) ?_
        refine x_goto (np := 210) (x := 211) (by decide +kernel) ?_
        refine x_ast (np := 212) (x := 0) (kd := 1) (n := 8) (i := 7) (by decide +kernel) (Or.inl rfl) (by decide +kernel) (by first | decide | omega) (by first | decide | omega) (by decide) (by decide) (fun z => absurd z (by decide)) ?_
        have j181 := jU (e := 7) (v := 2147483649) 7 j102 rg_81_0_1_8 (by first | decide | omega) (by first | decide | omega) (by first | decide | omega)
        have f183 := jF (e := 7) (v := 2147483649) 7 f104 rg_81_0_1_8 (by first | decide | omega) (by first | decide | omega) (by decide)
        have m184 := MB.oth (q := 81) (e := 7) (v := 2147483649) m105 (by decide)
        generalize e182 : x_up h101 81 7 2147483649 = h180 at j181 f183 m184 ⊢
        refine x_aload (np := 213) (x := 0) (by decide +kernel) rfl (x_nc_le (by decide)) ?_
        have m195 : WT 76 h42 := by rw [← e44]; exact WT.oth hW hJ (by decide)
        have m194 : WT 76 h52 := by rw [← e54]; exact WT.oth m195 j43 (by decide)
        have m193 : WT 76 h63 := by rw [← e65]; exact WT.oth m194 j53 (by decide)
        have m192 : WT 76 h75 := by rw [← e77]; exact WT.oth m193 j64 (by decide)
        have m191 : WT 76 h84 := by rw [← e86]; exact WT.oth m192 j76 (by decide)
        have m190 : WT 76 h93 := by rw [← e95]; exact WT.oth m191 j85 (by decide)
        have m189 : WT 76 h101 := by rw [← e103]; exact WT.oth m190 j94 (by decide)
        have m188 : WT 76 h180 := by rw [← e182]; exact WT.oth m189 j102 (by decide)
        refine x_cI (t := 6) (mj := 199) (n := 1) (rc := 12) (ml := 2) (nr := 0) (np := 216) (as := [x_r 75]) (rest := []) (lo1 := [x_r 75, 147573952589676412928]) (by decide +kernel) (by decide) (by decide +kernel) (x_rb_of (by decide +kernel)) rfl rfl (x_wr (by decide) x_wn) x_wn (by decide) rfl (c199_75 j181  m188) (fun v185 h196 l186 q187 => ?_)
        obtain ⟨j197, f198, b199⟩ := q187
        have m200 := MB.fr m184 f198 (by decide)
        have f201 := Fr.trans f183 f198 (by decide)
        refine x_ifz (k := 1) (tg := 220) (np := 219) (by decide +kernel) (by decide) l186 (fun q202 => ?_) (fun q203 => ?_)
        · have q202 : v185 ≠ 2147483648 := q202
          refine x_aload (np := 221) (x := 0) (by decide +kernel) rfl (x_nc_le (by decide)) ?_
          have q204 : h196 75 21 = 88 := by have z := jB (e := 21) 0 j197 rg_75_21_0_1 (by decide) (by decide); omega
          refine x_getR (np := 224) (x := 725) (f := 21) (q := 88) (by decide +kernel) (by decide) (by decide +kernel) q204 ?_
          refine x_iload (np := 225) (x := 1) (by decide +kernel) rfl la1 ?_
          refine x_iload (np := 227) (x := 5) (by decide +kernel) rfl l12 ?_
          refine x_ast (np := 228) (x := 0) (kd := 1) (n := 20) (i := u2) (by decide +kernel) (Or.inl rfl) (by decide +kernel) (by first | decide | omega) (by first | decide | omega) (by decide) l12 (fun z => absurd z (by decide)) ?_
          have j206 := jU (e := u2) (v := v11) u2 j197 rg_88_0_1_20 (by first | decide | omega) (by first | decide | omega) (by first | decide | omega)
          have f208 := jF (e := u2) (v := v11) u2 f201 rg_88_0_1_20 (by first | decide | omega) (by first | decide | omega) (by decide)
          have m209 := MB.oth (q := 88) (e := u2) (v := v11) m200 (by decide)
          generalize e207 : x_up h196 88 u2 v11 = h205 at j206 f208 m209 ⊢
          refine x_aload (np := 229) (x := 0) (by decide +kernel) rfl (x_nc_le (by decide)) ?_
          have q210 : h205 75 17 = 84 := by have z := jB (e := 17) 0 j206 rg_75_17_0_1 (by decide) (by decide); omega
          refine x_getR (np := 232) (x := 721) (f := 17) (q := 84) (by decide +kernel) (by decide) (by decide +kernel) q210 ?_
          refine x_const (np := 234) (x := 9223372124901605396) (a := 2147483668) (by decide +kernel) (by decide) (by decide) ?_
          refine x_iload (np := 235) (x := 3) (by decide +kernel) rfl l6 ?_
          refine x_imul (np := 236) (x := 0) (i := 20) (j := u15) (v := (2147483648 + 20 * u15)) (by decide +kernel) (by first | decide | omega) (by first | decide | omega) (by first | decide | omega) (by first | decide | omega) (by decide) l6 ?_
          refine x_aload (np := 237) (x := 0) (by decide +kernel) rfl (x_nc_le (by decide)) ?_
          have q212 : h205 75 16 = 83 := by have z := jB (e := 16) 0 j206 rg_75_16_0_1 (by decide) (by decide); omega
          refine x_getR (np := 240) (x := 720) (f := 16) (q := 83) (by decide +kernel) (by decide) (by decide +kernel) q212 ?_
          refine x_iload (np := 241) (x := 3) (by decide +kernel) rfl l6 ?_
          have q213 : h205 83 u15 = h196 83 u15 := by rw [← e207]; exact x_up_k (by decide)
          have q214 : h196 83 u15 = h180 83 u15 := jK u15 f198 rg_83_0_1_6 (by first | decide | omega) (by first | decide | omega) (by decide)
          have q215 : h180 83 u15 = h101 83 u15 := by rw [← e182]; exact x_up_k (by decide)
          have q216 : h101 83 u15 = h93 83 u15 := by rw [← e103]; exact x_up_k (by decide)
          have q217 : h93 83 u15 = h84 83 u15 := by rw [← e95]; exact x_up_k (by decide)
          have q218 : h84 83 u15 = h75 83 u15 := by rw [← e86]; exact x_up_k (by decide)
          have q219 : h75 83 u15 = h63 83 u15 := by rw [← e77]; exact x_up_k (by decide)
          have q220 : h63 83 u15 = h52 83 u15 := by rw [← e65]; exact x_up_k (by decide)
          have q221 : h52 83 u15 = h42 83 u15 := by rw [← e54]; exact x_up_k (by decide)
          have q222 : h42 83 u15 = h 83 u15 := by rw [← e44]; exact x_up_k (by decide)
          have z223 := m209 u15 (by first | decide | omega)
          refine x_aldC (np := 242) (x := 0) (n := 6) (i := u15) (q := (h 83 u15)) (by decide +kernel) (by decide +kernel) (by first | decide | omega) (by first | decide | omega) (by decide) (((((((((q213.trans q214).trans q215).trans q216).trans q217).trans q218).trans q219).trans q220).trans q221).trans q222) (fun l224 => ?_)
          refine x_iadd (np := 243) (x := 0) (v := (20 * u15 + (h 83 u15))) (by decide +kernel) (by first | decide | omega) l19 (by first | decide | omega) (by first | decide | omega) ?_
          refine x_iload (np := 244) (x := 1) (by decide +kernel) rfl la1 ?_
          obtain ⟨u225, q226⟩ : ∃ z, (h 83 u15) = 2147483648 + z := ⟨(h 83 u15) - 2147483648, by first | decide | omega⟩
          refine x_ast (np := 245) (x := 0) (kd := 1) (n := 120) (i := (20 * u15 + u225)) (by decide +kernel) (Or.inl rfl) (by decide +kernel) (by first | decide | omega) (by first | decide | omega) (by decide) la1 (fun z => absurd z (by decide)) ?_
          have j228 := jU (e := (20 * u15 + u225)) (v := a1) (20 * u15 + u225) j206 rg_84_0_1_120 (by first | decide | omega) (by first | decide | omega) (by first | decide | omega)
          have f230 := jF (e := (20 * u15 + u225)) (v := a1) (20 * u15 + u225) f208 rg_84_0_1_120 (by first | decide | omega) (by first | decide | omega) (by decide)
          have m231 := MB.oth (q := 84) (e := (20 * u15 + u225)) (v := a1) m209 (by decide)
          generalize e229 : x_up h205 84 (20 * u15 + u225) a1 = h227 at j228 f230 m231 ⊢
          refine x_aload (np := 246) (x := 0) (by decide +kernel) rfl (x_nc_le (by decide)) ?_
          have q232 : h227 75 16 = 83 := by have z := jB (e := 16) 0 j228 rg_75_16_0_1 (by decide) (by decide); omega
          refine x_getR (np := 249) (x := 720) (f := 16) (q := 83) (by decide +kernel) (by decide) (by decide +kernel) q232 ?_
          refine x_iload (np := 250) (x := 3) (by decide +kernel) rfl l6 ?_
          refine x_dup2 (np := 251) (x := 0) (by decide +kernel) (by have z := (iw_c_lt (a := ((h 76 (20 + 7 * u2)))) l6).1; omega) (by have z := x_nc_le (k := 83) (by decide); unfold x_r; omega) ?_
          have q233 : h227 83 u15 = h205 83 u15 := by rw [← e229]; exact x_up_k (by decide)
          have q234 : h205 83 u15 = h196 83 u15 := by rw [← e207]; exact x_up_k (by decide)
          have q235 : h196 83 u15 = h180 83 u15 := jK u15 f198 rg_83_0_1_6 (by first | decide | omega) (by first | decide | omega) (by decide)
          have q236 : h180 83 u15 = h101 83 u15 := by rw [← e182]; exact x_up_k (by decide)
          have q237 : h101 83 u15 = h93 83 u15 := by rw [← e103]; exact x_up_k (by decide)
          have q238 : h93 83 u15 = h84 83 u15 := by rw [← e95]; exact x_up_k (by decide)
          have q239 : h84 83 u15 = h75 83 u15 := by rw [← e86]; exact x_up_k (by decide)
          have q240 : h75 83 u15 = h63 83 u15 := by rw [← e77]; exact x_up_k (by decide)
          have q241 : h63 83 u15 = h52 83 u15 := by rw [← e65]; exact x_up_k (by decide)
          have q242 : h52 83 u15 = h42 83 u15 := by rw [← e54]; exact x_up_k (by decide)
          have q243 : h42 83 u15 = h 83 u15 := by rw [← e44]; exact x_up_k (by decide)
          have z244 := m231 u15 (by first | decide | omega)
          refine x_aldC (np := 252) (x := 0) (n := 6) (i := u15) (q := (h 83 u15)) (by decide +kernel) (by decide +kernel) (by first | decide | omega) (by first | decide | omega) (by decide) ((((((((((q233.trans q234).trans q235).trans q236).trans q237).trans q238).trans q239).trans q240).trans q241).trans q242).trans q243) (fun l245 => ?_)
          refine x_const (np := 253) (x := 9223372043297226753) (a := 2147483649) (by decide +kernel) (by decide) (by decide) ?_
          refine x_iadd (np := 254) (x := 0) (v := (1 + (h 83 u15))) (by decide +kernel) l19 (by decide) (by first | decide | omega) (by first | decide | omega) ?_
          refine x_ast (np := 255) (x := 0) (kd := 1) (n := 6) (i := u15) (by decide +kernel) (Or.inl rfl) (by decide +kernel) (by first | decide | omega) (by first | decide | omega) (by decide) (by first | decide | omega) (fun z => absurd z (by decide)) ?_
          have j247 := jU (e := u15) (v := (1 + (h 83 u15))) u15 j228 rg_83_0_1_6 (by first | decide | omega) (by first | decide | omega) (by first | decide | omega)
          have f249 := jF (e := u15) (v := (1 + (h 83 u15))) u15 f230 rg_83_0_1_6 (by first | decide | omega) (by first | decide | omega) (by decide)
          have m250 := MB.up (e := u15) (v := (1 + (h 83 u15))) (MB.mono m231 (Nat.le_refl _) (Nat.le_succ _)) (by have z := m231 u15 (by first | decide | omega); omega)
          generalize e248 : x_up h227 83 u15 (1 + (h 83 u15)) = h246 at j247 f249 m250 ⊢
          refine x_retV (np := 256) (x := 0) (by decide +kernel) (by decide +kernel) ⟨rfl, ?_⟩
          exact ⟨j247, f249, m250⟩
        have q203 : ¬ (v185 ≠ 2147483648) := q203
        refine x_retV (np := 220) (x := 0) (by decide +kernel) (by decide +kernel) ⟨rfl, ?_⟩
        exact ⟨j197, f201, (MB.mono m200 (Nat.le_refl _) (Nat.le_succ _))⟩
      have q100 : ¬ (v11 ≠ ((h 76 (20 + 7 * u2)))) := q100
      refine x_const (np := 189) (x := 9223372043297226753) (a := 2147483649) (by decide +kernel) (by decide) (by decide) ?_
      refine x_goto (np := 192) (x := 193) (by decide +kernel) ?_
      refine x_ast (np := 194) (x := 0) (kd := 1) (n := 8) (i := 6) (by decide +kernel) (Or.inl rfl) (by decide +kernel) (by first | decide | omega) (by first | decide | omega) (by decide) (by decide) (fun z => absurd z (by decide)) ?_
      have j252 := jU (e := 6) (v := 2147483649) 6 j94 rg_81_0_1_8 (by first | decide | omega) (by first | decide | omega) (by first | decide | omega)
      have f254 := jF (e := 6) (v := 2147483649) 6 f96 rg_81_0_1_8 (by first | decide | omega) (by first | decide | omega) (by decide)
      have m255 := MB.oth (q := 81) (e := 6) (v := 2147483649) m97 (by decide)
      generalize e253 : x_up h93 81 6 2147483649 = h251 at j252 f254 m255 ⊢
      refine x_aload (np := 195) (x := 0) (by decide +kernel) rfl (x_nc_le (by decide)) ?_
      have q256 : h251 75 14 = 81 := by have z := jB (e := 14) 0 j252 rg_75_14_0_1 (by decide) (by decide); omega
      refine x_getR (np := 198) (x := 718) (f := 14) (q := 81) (by decide +kernel) (by decide) (by decide +kernel) q256 ?_
      refine x_const (np := 200) (x := 9223372069067030535) (a := 2147483655) (by decide +kernel) (by decide) (by decide) ?_
      refine x_iload (np := 202) (x := 4) (by decide +kernel) rfl l10 ?_
      refine x_iload (np := 203) (x := 3) (by decide +kernel) rfl l6 ?_
      refine x_icmp (k := 1) (tg := 210) (np := 206) (by decide +kernel) (by decide) l10 l6 (fun q257 => ?_) (fun q258 => ?_)
      · have q257 : ((h 76 (21 + 7 * u2))) ≠ ((h 76 (20 + 7 * u2))) := q257
        refine x_const (np := 211) (x := 9223372039002259456) (a := 2147483648) (by decide +kernel) (by decide) (by decide) ?_
        refine x_ast (np := 212) (x := 0) (kd := 1) (n := 8) (i := 7) (by decide +kernel) (Or.inl rfl) (by decide +kernel) (by first | decide | omega) (by first | decide | omega) (by decide) (by decide) (fun z => absurd z (by decide)) ?_
        have j260 := jU (e := 7) (v := 2147483648) 7 j252 rg_81_0_1_8 (by first | decide | omega) (by first | decide | omega) (by first | decide | omega)
        have f262 := jF (e := 7) (v := 2147483648) 7 f254 rg_81_0_1_8 (by first | decide | omega) (by first | decide | omega) (by decide)
        have m263 := MB.oth (q := 81) (e := 7) (v := 2147483648) m255 (by decide)
        generalize e261 : x_up h251 81 7 2147483648 = h259 at j260 f262 m263 ⊢
        refine x_aload (np := 213) (x := 0) (by decide +kernel) rfl (x_nc_le (by decide)) ?_
        have m274 : WT 76 h42 := by rw [← e44]; exact WT.oth hW hJ (by decide)
        have m273 : WT 76 h52 := by rw [← e54]; exact WT.oth m274 j43 (by decide)
        have m272 : WT 76 h63 := by rw [← e65]; exact WT.oth m273 j53 (by decide)
        have m271 : WT 76 h75 := by rw [← e77]; exact WT.oth m272 j64 (by decide)
        have m270 : WT 76 h84 := by rw [← e86]; exact WT.oth m271 j76 (by decide)
        have m269 : WT 76 h93 := by rw [← e95]; exact WT.oth m270 j85 (by decide)
        have m268 : WT 76 h251 := by rw [← e253]; exact WT.oth m269 j94 (by decide)
        have m267 : WT 76 h259 := by rw [← e261]; exact WT.oth m268 j252 (by decide)
        refine x_cI (t := 6) (mj := 199) (n := 1) (rc := 12) (ml := 2) (nr := 0) (np := 216) (as := [x_r 75]) (rest := []) (lo1 := [x_r 75, 147573952589676412928]) (by decide +kernel) (by decide) (by decide +kernel) (x_rb_of (by decide +kernel)) rfl rfl (x_wr (by decide) x_wn) x_wn (by decide) rfl (c199_75 j260  m267) (fun v264 h275 l265 q266 => ?_)
        obtain ⟨j276, f277, b278⟩ := q266
        have m279 := MB.fr m263 f277 (by decide)
        have f280 := Fr.trans f262 f277 (by decide)
        refine x_ifz (k := 1) (tg := 220) (np := 219) (by decide +kernel) (by decide) l265 (fun q281 => ?_) (fun q282 => ?_)
        · have q281 : v264 ≠ 2147483648 := q281
          refine x_aload (np := 221) (x := 0) (by decide +kernel) rfl (x_nc_le (by decide)) ?_
          have q283 : h275 75 21 = 88 := by have z := jB (e := 21) 0 j276 rg_75_21_0_1 (by decide) (by decide); omega
          refine x_getR (np := 224) (x := 725) (f := 21) (q := 88) (by decide +kernel) (by decide) (by decide +kernel) q283 ?_
          refine x_iload (np := 225) (x := 1) (by decide +kernel) rfl la1 ?_
          refine x_iload (np := 227) (x := 5) (by decide +kernel) rfl l12 ?_
          refine x_ast (np := 228) (x := 0) (kd := 1) (n := 20) (i := u2) (by decide +kernel) (Or.inl rfl) (by decide +kernel) (by first | decide | omega) (by first | decide | omega) (by decide) l12 (fun z => absurd z (by decide)) ?_
          have j285 := jU (e := u2) (v := v11) u2 j276 rg_88_0_1_20 (by first | decide | omega) (by first | decide | omega) (by first | decide | omega)
          have f287 := jF (e := u2) (v := v11) u2 f280 rg_88_0_1_20 (by first | decide | omega) (by first | decide | omega) (by decide)
          have m288 := MB.oth (q := 88) (e := u2) (v := v11) m279 (by decide)
          generalize e286 : x_up h275 88 u2 v11 = h284 at j285 f287 m288 ⊢
          refine x_aload (np := 229) (x := 0) (by decide +kernel) rfl (x_nc_le (by decide)) ?_
          have q289 : h284 75 17 = 84 := by have z := jB (e := 17) 0 j285 rg_75_17_0_1 (by decide) (by decide); omega
          refine x_getR (np := 232) (x := 721) (f := 17) (q := 84) (by decide +kernel) (by decide) (by decide +kernel) q289 ?_
          refine x_const (np := 234) (x := 9223372124901605396) (a := 2147483668) (by decide +kernel) (by decide) (by decide) ?_
          refine x_iload (np := 235) (x := 3) (by decide +kernel) rfl l6 ?_
          refine x_imul (np := 236) (x := 0) (i := 20) (j := u15) (v := (2147483648 + 20 * u15)) (by decide +kernel) (by first | decide | omega) (by first | decide | omega) (by first | decide | omega) (by first | decide | omega) (by decide) l6 ?_
          refine x_aload (np := 237) (x := 0) (by decide +kernel) rfl (x_nc_le (by decide)) ?_
          have q291 : h284 75 16 = 83 := by have z := jB (e := 16) 0 j285 rg_75_16_0_1 (by decide) (by decide); omega
          refine x_getR (np := 240) (x := 720) (f := 16) (q := 83) (by decide +kernel) (by decide) (by decide +kernel) q291 ?_
          refine x_iload (np := 241) (x := 3) (by decide +kernel) rfl l6 ?_
          have q292 : h284 83 u15 = h275 83 u15 := by rw [← e286]; exact x_up_k (by decide)
          have q293 : h275 83 u15 = h259 83 u15 := jK u15 f277 rg_83_0_1_6 (by first | decide | omega) (by first | decide | omega) (by decide)
          have q294 : h259 83 u15 = h251 83 u15 := by rw [← e261]; exact x_up_k (by decide)
          have q295 : h251 83 u15 = h93 83 u15 := by rw [← e253]; exact x_up_k (by decide)
          have q296 : h93 83 u15 = h84 83 u15 := by rw [← e95]; exact x_up_k (by decide)
          have q297 : h84 83 u15 = h75 83 u15 := by rw [← e86]; exact x_up_k (by decide)
          have q298 : h75 83 u15 = h63 83 u15 := by rw [← e77]; exact x_up_k (by decide)
          have q299 : h63 83 u15 = h52 83 u15 := by rw [← e65]; exact x_up_k (by decide)
          have q300 : h52 83 u15 = h42 83 u15 := by rw [← e54]; exact x_up_k (by decide)
          have q301 : h42 83 u15 = h 83 u15 := by rw [← e44]; exact x_up_k (by decide)
          have z302 := m288 u15 (by first | decide | omega)
          refine x_aldC (np := 242) (x := 0) (n := 6) (i := u15) (q := (h 83 u15)) (by decide +kernel) (by decide +kernel) (by first | decide | omega) (by first | decide | omega) (by decide) (((((((((q292.trans q293).trans q294).trans q295).trans q296).trans q297).trans q298).trans q299).trans q300).trans q301) (fun l303 => ?_)
          refine x_iadd (np := 243) (x := 0) (v := (20 * u15 + (h 83 u15))) (by decide +kernel) (by first | decide | omega) l19 (by first | decide | omega) (by first | decide | omega) ?_
          refine x_iload (np := 244) (x := 1) (by decide +kernel) rfl la1 ?_
          obtain ⟨u304, q305⟩ : ∃ z, (h 83 u15) = 2147483648 + z := ⟨(h 83 u15) - 2147483648, by first | decide | omega⟩
          refine x_ast (np := 245) (x := 0) (kd := 1) (n := 120) (i := (20 * u15 + u304)) (by decide +kernel) (Or.inl rfl) (by decide +kernel) (by first | decide | omega) (by first | decide | omega) (by decide) la1 (fun z => absurd z (by decide)) ?_
          have j307 := jU (e := (20 * u15 + u304)) (v := a1) (20 * u15 + u304) j285 rg_84_0_1_120 (by first | decide | omega) (by first | decide | omega) (by first | decide | omega)
          have f309 := jF (e := (20 * u15 + u304)) (v := a1) (20 * u15 + u304) f287 rg_84_0_1_120 (by first | decide | omega) (by first | decide | omega) (by decide)
          have m310 := MB.oth (q := 84) (e := (20 * u15 + u304)) (v := a1) m288 (by decide)
          generalize e308 : x_up h284 84 (20 * u15 + u304) a1 = h306 at j307 f309 m310 ⊢
          refine x_aload (np := 246) (x := 0) (by decide +kernel) rfl (x_nc_le (by decide)) ?_
          have q311 : h306 75 16 = 83 := by have z := jB (e := 16) 0 j307 rg_75_16_0_1 (by decide) (by decide); omega
          refine x_getR (np := 249) (x := 720) (f := 16) (q := 83) (by decide +kernel) (by decide) (by decide +kernel) q311 ?_
          refine x_iload (np := 250) (x := 3) (by decide +kernel) rfl l6 ?_
          refine x_dup2 (np := 251) (x := 0) (by decide +kernel) (by have z := (iw_c_lt (a := ((h 76 (20 + 7 * u2)))) l6).1; omega) (by have z := x_nc_le (k := 83) (by decide); unfold x_r; omega) ?_
          have q312 : h306 83 u15 = h284 83 u15 := by rw [← e308]; exact x_up_k (by decide)
          have q313 : h284 83 u15 = h275 83 u15 := by rw [← e286]; exact x_up_k (by decide)
          have q314 : h275 83 u15 = h259 83 u15 := jK u15 f277 rg_83_0_1_6 (by first | decide | omega) (by first | decide | omega) (by decide)
          have q315 : h259 83 u15 = h251 83 u15 := by rw [← e261]; exact x_up_k (by decide)
          have q316 : h251 83 u15 = h93 83 u15 := by rw [← e253]; exact x_up_k (by decide)
          have q317 : h93 83 u15 = h84 83 u15 := by rw [← e95]; exact x_up_k (by decide)
          have q318 : h84 83 u15 = h75 83 u15 := by rw [← e86]; exact x_up_k (by decide)
          have q319 : h75 83 u15 = h63 83 u15 := by rw [← e77]; exact x_up_k (by decide)
          have q320 : h63 83 u15 = h52 83 u15 := by rw [← e65]; exact x_up_k (by decide)
          have q321 : h52 83 u15 = h42 83 u15 := by rw [← e54]; exact x_up_k (by decide)
          have q322 : h42 83 u15 = h 83 u15 := by rw [← e44]; exact x_up_k (by decide)
          have z323 := m310 u15 (by first | decide | omega)
          refine x_aldC (np := 252) (x := 0) (n := 6) (i := u15) (q := (h 83 u15)) (by decide +kernel) (by decide +kernel) (by first | decide | omega) (by first | decide | omega) (by decide) ((((((((((q312.trans q313).trans q314).trans q315).trans q316).trans q317).trans q318).trans q319).trans q320).trans q321).trans q322) (fun l324 => ?_)
          refine x_const (np := 253) (x := 9223372043297226753) (a := 2147483649) (by decide +kernel) (by decide) (by decide) ?_
          refine x_iadd (np := 254) (x := 0) (v := (1 + (h 83 u15))) (by decide +kernel) l19 (by decide) (by first | decide | omega) (by first | decide | omega) ?_
          refine x_ast (np := 255) (x := 0) (kd := 1) (n := 6) (i := u15) (by decide +kernel) (Or.inl rfl) (by decide +kernel) (by first | decide | omega) (by first | decide | omega) (by decide) (by first | decide | omega) (fun z => absurd z (by decide)) ?_
          have j326 := jU (e := u15) (v := (1 + (h 83 u15))) u15 j307 rg_83_0_1_6 (by first | decide | omega) (by first | decide | omega) (by first | decide | omega)
          have f328 := jF (e := u15) (v := (1 + (h 83 u15))) u15 f309 rg_83_0_1_6 (by first | decide | omega) (by first | decide | omega) (by decide)
          have m329 := MB.up (e := u15) (v := (1 + (h 83 u15))) (MB.mono m310 (Nat.le_refl _) (Nat.le_succ _)) (by have z := m310 u15 (by first | decide | omega); omega)
          generalize e327 : x_up h306 83 u15 (1 + (h 83 u15)) = h325 at j326 f328 m329 ⊢
          refine x_retV (np := 256) (x := 0) (by decide +kernel) (by decide +kernel) ⟨rfl, ?_⟩
          exact ⟨j326, f328, m329⟩
        have q282 : ¬ (v264 ≠ 2147483648) := q282
        refine x_retV (np := 220) (x := 0) (by decide +kernel) (by decide +kernel) ⟨rfl, ?_⟩
        exact ⟨j276, f280, (MB.mono m279 (Nat.le_refl _) (Nat.le_succ _))⟩
      have q258 : ¬ (((h 76 (21 + 7 * u2))) ≠ ((h 76 (20 + 7 * u2)))) := q258
      refine x_const (np := 207) (x := 9223372043297226753) (a := 2147483649) (by decide +kernel) (by decide) (by decide) ?_
      refine x_goto (np := 210) (x := 211) (by decide +kernel) ?_
      refine x_ast (np := 212) (x := 0) (kd := 1) (n := 8) (i := 7) (by decide +kernel) (Or.inl rfl) (by decide +kernel) (by first | decide | omega) (by first | decide | omega) (by decide) (by decide) (fun z => absurd z (by decide)) ?_
      have j331 := jU (e := 7) (v := 2147483649) 7 j252 rg_81_0_1_8 (by first | decide | omega) (by first | decide | omega) (by first | decide | omega)
      have f333 := jF (e := 7) (v := 2147483649) 7 f254 rg_81_0_1_8 (by first | decide | omega) (by first | decide | omega) (by decide)
      have m334 := MB.oth (q := 81) (e := 7) (v := 2147483649) m255 (by decide)
      generalize e332 : x_up h251 81 7 2147483649 = h330 at j331 f333 m334 ⊢
      refine x_aload (np := 213) (x := 0) (by decide +kernel) rfl (x_nc_le (by decide)) ?_
      have m345 : WT 76 h42 := by rw [← e44]; exact WT.oth hW hJ (by decide)
      have m344 : WT 76 h52 := by rw [← e54]; exact WT.oth m345 j43 (by decide)
      have m343 : WT 76 h63 := by rw [← e65]; exact WT.oth m344 j53 (by decide)
      have m342 : WT 76 h75 := by rw [← e77]; exact WT.oth m343 j64 (by decide)
      have m341 : WT 76 h84 := by rw [← e86]; exact WT.oth m342 j76 (by decide)
      have m340 : WT 76 h93 := by rw [← e95]; exact WT.oth m341 j85 (by decide)
      have m339 : WT 76 h251 := by rw [← e253]; exact WT.oth m340 j94 (by decide)
      have m338 : WT 76 h330 := by rw [← e332]; exact WT.oth m339 j252 (by decide)
      refine x_cI (t := 6) (mj := 199) (n := 1) (rc := 12) (ml := 2) (nr := 0) (np := 216) (as := [x_r 75]) (rest := []) (lo1 := [x_r 75, 147573952589676412928]) (by decide +kernel) (by decide) (by decide +kernel) (x_rb_of (by decide +kernel)) rfl rfl (x_wr (by decide) x_wn) x_wn (by decide) rfl (c199_75 j331  m338) (fun v335 h346 l336 q337 => ?_)
      obtain ⟨j347, f348, b349⟩ := q337
      have m350 := MB.fr m334 f348 (by decide)
      have f351 := Fr.trans f333 f348 (by decide)
      refine x_ifz (k := 1) (tg := 220) (np := 219) (by decide +kernel) (by decide) l336 (fun q352 => ?_) (fun q353 => ?_)
      · have q352 : v335 ≠ 2147483648 := q352
        refine x_aload (np := 221) (x := 0) (by decide +kernel) rfl (x_nc_le (by decide)) ?_
        have q354 : h346 75 21 = 88 := by have z := jB (e := 21) 0 j347 rg_75_21_0_1 (by decide) (by decide); omega
        refine x_getR (np := 224) (x := 725) (f := 21) (q := 88) (by decide +kernel) (by decide) (by decide +kernel) q354 ?_
        refine x_iload (np := 225) (x := 1) (by decide +kernel) rfl la1 ?_
        refine x_iload (np := 227) (x := 5) (by decide +kernel) rfl l12 ?_
        refine x_ast (np := 228) (x := 0) (kd := 1) (n := 20) (i := u2) (by decide +kernel) (Or.inl rfl) (by decide +kernel) (by first | decide | omega) (by first | decide | omega) (by decide) l12 (fun z => absurd z (by decide)) ?_
        have j356 := jU (e := u2) (v := v11) u2 j347 rg_88_0_1_20 (by first | decide | omega) (by first | decide | omega) (by first | decide | omega)
        have f358 := jF (e := u2) (v := v11) u2 f351 rg_88_0_1_20 (by first | decide | omega) (by first | decide | omega) (by decide)
        have m359 := MB.oth (q := 88) (e := u2) (v := v11) m350 (by decide)
        generalize e357 : x_up h346 88 u2 v11 = h355 at j356 f358 m359 ⊢
        refine x_aload (np := 229) (x := 0) (by decide +kernel) rfl (x_nc_le (by decide)) ?_
        have q360 : h355 75 17 = 84 := by have z := jB (e := 17) 0 j356 rg_75_17_0_1 (by decide) (by decide); omega
        refine x_getR (np := 232) (x := 721) (f := 17) (q := 84) (by decide +kernel) (by decide) (by decide +kernel) q360 ?_
        refine x_const (np := 234) (x := 9223372124901605396) (a := 2147483668) (by decide +kernel) (by decide) (by decide) ?_
        refine x_iload (np := 235) (x := 3) (by decide +kernel) rfl l6 ?_
        refine x_imul (np := 236) (x := 0) (i := 20) (j := u15) (v := (2147483648 + 20 * u15)) (by decide +kernel) (by first | decide | omega) (by first | decide | omega) (by first | decide | omega) (by first | decide | omega) (by decide) l6 ?_
        refine x_aload (np := 237) (x := 0) (by decide +kernel) rfl (x_nc_le (by decide)) ?_
        have q362 : h355 75 16 = 83 := by have z := jB (e := 16) 0 j356 rg_75_16_0_1 (by decide) (by decide); omega
        refine x_getR (np := 240) (x := 720) (f := 16) (q := 83) (by decide +kernel) (by decide) (by decide +kernel) q362 ?_
        refine x_iload (np := 241) (x := 3) (by decide +kernel) rfl l6 ?_
        have q363 : h355 83 u15 = h346 83 u15 := by rw [← e357]; exact x_up_k (by decide)
        have q364 : h346 83 u15 = h330 83 u15 := jK u15 f348 rg_83_0_1_6 (by first | decide | omega) (by first | decide | omega) (by decide)
        have q365 : h330 83 u15 = h251 83 u15 := by rw [← e332]; exact x_up_k (by decide)
        have q366 : h251 83 u15 = h93 83 u15 := by rw [← e253]; exact x_up_k (by decide)
        have q367 : h93 83 u15 = h84 83 u15 := by rw [← e95]; exact x_up_k (by decide)
        have q368 : h84 83 u15 = h75 83 u15 := by rw [← e86]; exact x_up_k (by decide)
        have q369 : h75 83 u15 = h63 83 u15 := by rw [← e77]; exact x_up_k (by decide)
        have q370 : h63 83 u15 = h52 83 u15 := by rw [← e65]; exact x_up_k (by decide)
        have q371 : h52 83 u15 = h42 83 u15 := by rw [← e54]; exact x_up_k (by decide)
        have q372 : h42 83 u15 = h 83 u15 := by rw [← e44]; exact x_up_k (by decide)
        have z373 := m359 u15 (by first | decide | omega)
        refine x_aldC (np := 242) (x := 0) (n := 6) (i := u15) (q := (h 83 u15)) (by decide +kernel) (by decide +kernel) (by first | decide | omega) (by first | decide | omega) (by decide) (((((((((q363.trans q364).trans q365).trans q366).trans q367).trans q368).trans q369).trans q370).trans q371).trans q372) (fun l374 => ?_)
        refine x_iadd (np := 243) (x := 0) (v := (20 * u15 + (h 83 u15))) (by decide +kernel) (by first | decide | omega) l19 (by first | decide | omega) (by first | decide | omega) ?_
        refine x_iload (np := 244) (x := 1) (by decide +kernel) rfl la1 ?_
        obtain ⟨u375, q376⟩ : ∃ z, (h 83 u15) = 2147483648 + z := ⟨(h 83 u15) - 2147483648, by first | decide | omega⟩
        refine x_ast (np := 245) (x := 0) (kd := 1) (n := 120) (i := (20 * u15 + u375)) (by decide +kernel) (Or.inl rfl) (by decide +kernel) (by first | decide | omega) (by first | decide | omega) (by decide) la1 (fun z => absurd z (by decide)) ?_
        have j378 := jU (e := (20 * u15 + u375)) (v := a1) (20 * u15 + u375) j356 rg_84_0_1_120 (by first | decide | omega) (by first | decide | omega) (by first | decide | omega)
        have f380 := jF (e := (20 * u15 + u375)) (v := a1) (20 * u15 + u375) f358 rg_84_0_1_120 (by first | decide | omega) (by first | decide | omega) (by decide)
        have m381 := MB.oth (q := 84) (e := (20 * u15 + u375)) (v := a1) m359 (by decide)
        generalize e379 : x_up h355 84 (20 * u15 + u375) a1 = h377 at j378 f380 m381 ⊢
        refine x_aload (np := 246) (x := 0) (by decide +kernel) rfl (x_nc_le (by decide)) ?_
        have q382 : h377 75 16 = 83 := by have z := jB (e := 16) 0 j378 rg_75_16_0_1 (by decide) (by decide); omega
        refine x_getR (np := 249) (x := 720) (f := 16) (q := 83) (by decide +kernel) (by decide) (by decide +kernel) q382 ?_
        refine x_iload (np := 250) (x := 3) (by decide +kernel) rfl l6 ?_
        refine x_dup2 (np := 251) (x := 0) (by decide +kernel) (by have z := (iw_c_lt (a := ((h 76 (20 + 7 * u2)))) l6).1; omega) (by have z := x_nc_le (k := 83) (by decide); unfold x_r; omega) ?_
        have q383 : h377 83 u15 = h355 83 u15 := by rw [← e379]; exact x_up_k (by decide)
        have q384 : h355 83 u15 = h346 83 u15 := by rw [← e357]; exact x_up_k (by decide)
        have q385 : h346 83 u15 = h330 83 u15 := jK u15 f348 rg_83_0_1_6 (by first | decide | omega) (by first | decide | omega) (by decide)
        have q386 : h330 83 u15 = h251 83 u15 := by rw [← e332]; exact x_up_k (by decide)
        have q387 : h251 83 u15 = h93 83 u15 := by rw [← e253]; exact x_up_k (by decide)
        have q388 : h93 83 u15 = h84 83 u15 := by rw [← e95]; exact x_up_k (by decide)
        have q389 : h84 83 u15 = h75 83 u15 := by rw [← e86]; exact x_up_k (by decide)
        have q390 : h75 83 u15 = h63 83 u15 := by rw [← e77]; exact x_up_k (by decide)
        have q391 : h63 83 u15 = h52 83 u15 := by rw [← e65]; exact x_up_k (by decide)
        have q392 : h52 83 u15 = h42 83 u15 := by rw [← e54]; exact x_up_k (by decide)
        have q393 : h42 83 u15 = h 83 u15 := by rw [← e44]; exact x_up_k (by decide)
        have z394 := m381 u15 (by first | decide | omega)
        refine x_aldC (np := 252) (x := 0) (n := 6) (i := u15) (q := (h 83 u15)) (by decide +kernel) (by decide +kernel) (by first | decide | omega) (by first | decide | omega) (by decide) ((((((((((q383.trans q384).trans q385).trans q386).trans q387).trans q388).trans q389).trans q390).trans q391).trans q392).trans q393) (fun l395 => ?_)
        refine x_const (np := 253) (x := 9223372043297226753) (a := 2147483649) (by decide +kernel) (by decide) (by decide) ?_
        refine x_iadd (np := 254) (x := 0) (v := (1 + (h 83 u15))) (by decide +kernel) l19 (by decide) (by first | decide | omega) (by first | decide | omega) ?_
        refine x_ast (np := 255) (x := 0) (kd := 1) (n := 6) (i := u15) (by decide +kernel) (Or.inl rfl) (by decide +kernel) (by first | decide | omega) (by first | decide | omega) (by decide) (by first | decide | omega) (fun z => absurd z (by decide)) ?_
        have j397 := jU (e := u15) (v := (1 + (h 83 u15))) u15 j378 rg_83_0_1_6 (by first | decide | omega) (by first | decide | omega) (by first | decide | omega)
        have f399 := jF (e := u15) (v := (1 + (h 83 u15))) u15 f380 rg_83_0_1_6 (by first | decide | omega) (by first | decide | omega) (by decide)
        have m400 := MB.up (e := u15) (v := (1 + (h 83 u15))) (MB.mono m381 (Nat.le_refl _) (Nat.le_succ _)) (by have z := m381 u15 (by first | decide | omega); omega)
        generalize e398 : x_up h377 83 u15 (1 + (h 83 u15)) = h396 at j397 f399 m400 ⊢
        refine x_retV (np := 256) (x := 0) (by decide +kernel) (by decide +kernel) ⟨rfl, ?_⟩
        exact ⟨j397, f399, m400⟩
      have q353 : ¬ (v335 ≠ 2147483648) := q353
      refine x_retV (np := 220) (x := 0) (by decide +kernel) (by decide +kernel) ⟨rfl, ?_⟩
      exact ⟨j347, f351, (MB.mono m350 (Nat.le_refl _) (Nat.le_succ _))⟩
    have q40 : ¬ (v36 ≠ 2147483648) := q40
    refine x_retV (np := 107) (x := 0) (by decide +kernel) (by decide +kernel) ⟨rfl, ?_⟩
    exact ⟨hJ, hF, (MB.mono hM (Nat.le_refl _) (Nat.le_succ _))⟩
  have q21 : ¬ ((h 83 u15) = 2147483648) := q21
  refine x_aload (np := 32) (x := 0) (by decide +kernel) rfl (x_nc_le (by decide)) ?_
  refine x_aload (np := 33) (x := 0) (by decide +kernel) rfl (x_nc_le (by decide)) ?_
  have q401 : h 75 17 = 84 := by have z := jB (e := 17) 0 hJ rg_75_17_0_1 (by decide) (by decide); omega
  refine x_getR (np := 36) (x := 721) (f := 17) (q := 84) (by decide +kernel) (by decide) (by decide +kernel) q401 ?_
  refine x_const (np := 38) (x := 9223372124901605396) (a := 2147483668) (by decide +kernel) (by decide) (by decide) ?_
  refine x_iload (np := 39) (x := 3) (by decide +kernel) rfl l6 ?_
  refine x_imul (np := 40) (x := 0) (i := 20) (j := u15) (v := (2147483648 + 20 * u15)) (by decide +kernel) (by first | decide | omega) (by first | decide | omega) (by first | decide | omega) (by first | decide | omega) (by decide) l6 ?_
  refine x_aload (np := 41) (x := 0) (by decide +kernel) rfl (x_nc_le (by decide)) ?_
  have q403 : h 75 16 = 83 := by have z := jB (e := 16) 0 hJ rg_75_16_0_1 (by decide) (by decide); omega
  refine x_getR (np := 44) (x := 720) (f := 16) (q := 83) (by decide +kernel) (by decide) (by decide +kernel) q403 ?_
  refine x_iload (np := 45) (x := 3) (by decide +kernel) rfl l6 ?_
  refine x_aldC (np := 46) (x := 0) (n := 6) (i := u15) (q := (h 83 u15)) (by decide +kernel) (by decide +kernel) (by first | decide | omega) (by first | decide | omega) (by decide) rfl (fun l404 => ?_)
  refine x_iadd (np := 47) (x := 0) (v := (20 * u15 + (h 83 u15))) (by decide +kernel) (by first | decide | omega) l19 (by first | decide | omega) (by first | decide | omega) ?_
  refine x_const (np := 48) (x := 9223372043297226753) (a := 2147483649) (by decide +kernel) (by decide) (by decide) ?_
  obtain ⟨v405, q406⟩ : ∃ z, z + 2147483649 = (20 * u15 + (h 83 u15)) + 2147483648 := ⟨(20 * u15 + (h 83 u15)) + 2147483648 - 2147483649, by first | decide | omega⟩
  refine x_isub (np := 49) (x := 0) (v := v405) (by decide +kernel) (by first | decide | omega) (by decide) (by first | decide | omega) (by first | decide | omega) ?_
  obtain ⟨u407, q408⟩ : ∃ z, v405 = 2147483648 + z := ⟨v405 - 2147483648, by first | decide | omega⟩
  have b409 := jB (e := u407) u407 hJ rg_84_0_1_120 (by first | decide | omega) (by first | decide | omega)
  refine x_aldC (np := 50) (x := 0) (n := 120) (i := u407) (q := (h 84 u407)) (by decide +kernel) (by decide +kernel) (by first | decide | omega) (by first | decide | omega) (by decide) rfl (fun l410 => ?_)
  refine x_const (np := 51) (x := 9223372056182128644) (a := 2147483652) (by decide +kernel) (by decide) (by decide) ?_
  refine x_nI (t := 6) (mj := 161) (n := 3) (rc := 12) (ml := 3) (nr := 0) (np := 54) (as := [x_r 75, iv_c (h 84 u407), iv_c 2147483652]) (rest := []) (lo1 := [x_r 75, iv_c (h 84 u407), iv_c 2147483652]) (by decide +kernel) (by decide) (by decide +kernel) (x_rb_of (by decide +kernel)) rfl rfl (x_wr (by decide) (x_wi l410 (x_wi (by decide) x_wn))) x_wn (by decide) rfl ?_
  refine x_aload (np := 1) (x := 0) (by decide +kernel) rfl (x_nc_le (by decide)) ?_
  have q411 : h 75 1 = 76 := by have z := jB (e := 1) 0 hJ rg_75_1_0_1 (by decide) (by decide); omega
  refine x_getR (np := 4) (x := 705) (f := 1) (q := 76) (by decide +kernel) (by decide) (by decide +kernel) q411 ?_
  refine x_const (np := 6) (x := 9223372124901605396) (a := 2147483668) (by decide +kernel) (by decide) (by decide) ?_
  refine x_const (np := 8) (x := 9223372069067030535) (a := 2147483655) (by decide +kernel) (by decide) (by decide) ?_
  refine x_iload (np := 9) (x := 1) (by decide +kernel) rfl l410 ?_
  obtain ⟨u412, q413⟩ : ∃ z, (h 84 u407) = 2147483648 + z := ⟨(h 84 u407) - 2147483648, by first | decide | omega⟩
  refine x_imul (np := 10) (x := 0) (i := 7) (j := u412) (v := (2147483648 + 7 * u412)) (by decide +kernel) (by first | decide | omega) (by first | decide | omega) (by first | decide | omega) (by first | decide | omega) (by decide) l410 ?_
  refine x_iadd (np := 11) (x := 0) (v := (2147483668 + 7 * u412)) (by decide +kernel) (by decide) (by first | decide | omega) (by first | decide | omega) (by first | decide | omega) ?_
  refine x_iload (np := 12) (x := 2) (by decide +kernel) rfl (by decide) ?_
  refine x_iadd (np := 13) (x := 0) (v := (2147483672 + 7 * u412)) (by decide +kernel) (by first | decide | omega) (by decide) (by first | decide | omega) (by first | decide | omega) ?_
  refine x_aldC (np := 14) (x := 0) (n := 1952) (i := (24 + 7 * u412)) (q := ((h 76 (24 + 7 * u412)))) (by decide +kernel) (by decide +kernel) (by first | decide | omega) (by first | decide | omega) (by decide) rfl (fun l415 => ?_)
  refine x_retI (np := 15) (x := 0) (by decide +kernel) l415 (Or.inl (by decide +kernel)) ⟨_, rfl, l415, ?_⟩
  refine x_const (np := 55) (x := 9223372043297226753) (a := 2147483649) (by decide +kernel) (by decide) (by decide) ?_
  refine x_icmp (k := 1) (tg := 62) (np := 58) (by decide +kernel) (by decide) l415 (by decide) (fun q416 => ?_) (fun q417 => ?_)
  · have q416 : ((h 76 (24 + 7 * u412))) ≠ 2147483649 := q416
    refine x_const (np := 63) (x := 9223372039002259456) (a := 2147483648) (by decide +kernel) (by decide) (by decide) ?_
    refine x_istore (np := 65) (x := 6) (lo' := [x_r 75, iv_c a1, iv_c a2, iv_c ((h 76 (20 + 7 * u2))), iv_c ((h 76 (21 + 7 * u2))), iv_c v11, iv_c 2147483648]) (by decide +kernel) (by decide) (Nat.le_of_ble_eq_true rfl) rfl ?_
    refine x_aload (np := 66) (x := 0) (by decide +kernel) rfl (x_nc_le (by decide)) ?_
    refine x_iload (np := 68) (x := 5) (by decide +kernel) rfl l12 ?_
    refine x_iload (np := 69) (x := 2) (by decide +kernel) rfl la2 ?_
    refine x_cP (t := 6) (mj := 200) (n := 3) (rc := 12) (ml := 3) (nr := 0) (np := 72) (as := [x_r 75, iv_c v11, iv_c a2]) (rest := []) (lo1 := [x_r 75, iv_c v11, iv_c a2]) (by decide +kernel) (by decide) (by decide +kernel) (x_rb_of (by decide +kernel)) rfl rfl (x_wr (by decide) (x_wi l12 (x_wi la2 x_wn))) x_wn (by decide) rfl (c200_75 hJ  (by first | decide | omega) (by first | decide | omega)) (fun v418 l419 q420 => ?_)
    refine x_ifz (k := 0) (tg := 106) (np := 75) (by decide +kernel) (by decide) l419 (fun q421 => ?_) (fun q422 => ?_)
    · have q421 : v418 = 2147483648 := q421
      refine x_retV (np := 107) (x := 0) (by decide +kernel) (by decide +kernel) ⟨rfl, ?_⟩
      exact ⟨hJ, hF, (MB.mono hM (Nat.le_refl _) (Nat.le_succ _))⟩
    have q422 : ¬ (v418 = 2147483648) := q422
    refine x_aload (np := 76) (x := 0) (by decide +kernel) rfl (x_nc_le (by decide)) ?_
    refine x_iload (np := 77) (x := 3) (by decide +kernel) rfl l6 ?_
    refine x_iload (np := 78) (x := 2) (by decide +kernel) rfl la2 ?_
    refine x_cP (t := 6) (mj := 204) (n := 3) (rc := 12) (ml := 5) (nr := 0) (np := 81) (as := [x_r 75, iv_c ((h 76 (20 + 7 * u2))), iv_c a2]) (rest := []) (lo1 := [x_r 75, iv_c ((h 76 (20 + 7 * u2))), iv_c a2, 147573952589676412928, 147573952589676412928]) (by decide +kernel) (by decide) (by decide +kernel) (x_rb_of (by decide +kernel)) rfl rfl (x_wr (by decide) (x_wi l6 (x_wi la2 x_wn))) x_wn (by decide) rfl (c204_75 hJ  (by first | decide | omega) (by first | decide | omega)) (fun v423 l424 q425 => ?_)
    refine x_ifz (k := 0) (tg := 106) (np := 84) (by decide +kernel) (by decide) l424 (fun q426 => ?_) (fun q427 => ?_)
    · have q426 : v423 = 2147483648 := q426
      refine x_retV (np := 107) (x := 0) (by decide +kernel) (by decide +kernel) ⟨rfl, ?_⟩
      exact ⟨hJ, hF, (MB.mono hM (Nat.le_refl _) (Nat.le_succ _))⟩
    have q427 : ¬ (v423 = 2147483648) := q427
    refine x_iload (np := 86) (x := 6) (by decide +kernel) rfl (by decide) ?_
    refine x_ifz (k := 0) (tg := 106) (np := 89) (by decide +kernel) (by decide) (by decide) (fun q428 => ?_) (fun q429 => ?_)
    · have q428 : 2147483648 = 2147483648 := q428
      refine x_retV (np := 107) (x := 0) (by decide +kernel) (by decide +kernel) ⟨rfl, ?_⟩
      exact ⟨hJ, hF, (MB.mono hM (Nat.le_refl _) (Nat.le_succ _))⟩
    have q429 : ¬ (2147483648 = 2147483648) := q429
    exfalso; omega
  have q417 : ¬ (((h 76 (24 + 7 * u412))) ≠ 2147483649) := q417
  refine x_const (np := 59) (x := 9223372043297226753) (a := 2147483649) (by decide +kernel) (by decide) (by decide) ?_
  refine x_goto (np := 62) (x := 63) (by decide +kernel) ?_
  refine x_istore (np := 65) (x := 6) (lo' := [x_r 75, iv_c a1, iv_c a2, iv_c ((h 76 (20 + 7 * u2))), iv_c ((h 76 (21 + 7 * u2))), iv_c v11, iv_c 2147483649]) (by decide +kernel) (by decide) (Nat.le_of_ble_eq_true rfl) rfl ?_
  refine x_aload (np := 66) (x := 0) (by decide +kernel) rfl (x_nc_le (by decide)) ?_
  refine x_iload (np := 68) (x := 5) (by decide +kernel) rfl l12 ?_
  refine x_iload (np := 69) (x := 2) (by decide +kernel) rfl la2 ?_
  refine x_cP (t := 6) (mj := 200) (n := 3) (rc := 12) (ml := 3) (nr := 0) (np := 72) (as := [x_r 75, iv_c v11, iv_c a2]) (rest := []) (lo1 := [x_r 75, iv_c v11, iv_c a2]) (by decide +kernel) (by decide) (by decide +kernel) (x_rb_of (by decide +kernel)) rfl rfl (x_wr (by decide) (x_wi l12 (x_wi la2 x_wn))) x_wn (by decide) rfl (c200_75 hJ  (by first | decide | omega) (by first | decide | omega)) (fun v430 l431 q432 => ?_)
  refine x_ifz (k := 0) (tg := 106) (np := 75) (by decide +kernel) (by decide) l431 (fun q433 => ?_) (fun q434 => ?_)
  · have q433 : v430 = 2147483648 := q433
    refine x_retV (np := 107) (x := 0) (by decide +kernel) (by decide +kernel) ⟨rfl, ?_⟩
    exact ⟨hJ, hF, (MB.mono hM (Nat.le_refl _) (Nat.le_succ _))⟩
  have q434 : ¬ (v430 = 2147483648) := q434
  refine x_aload (np := 76) (x := 0) (by decide +kernel) rfl (x_nc_le (by decide)) ?_
  refine x_iload (np := 77) (x := 3) (by decide +kernel) rfl l6 ?_
  refine x_iload (np := 78) (x := 2) (by decide +kernel) rfl la2 ?_
  refine x_cP (t := 6) (mj := 204) (n := 3) (rc := 12) (ml := 5) (nr := 0) (np := 81) (as := [x_r 75, iv_c ((h 76 (20 + 7 * u2))), iv_c a2]) (rest := []) (lo1 := [x_r 75, iv_c ((h 76 (20 + 7 * u2))), iv_c a2, 147573952589676412928, 147573952589676412928]) (by decide +kernel) (by decide) (by decide +kernel) (x_rb_of (by decide +kernel)) rfl rfl (x_wr (by decide) (x_wi l6 (x_wi la2 x_wn))) x_wn (by decide) rfl (c204_75 hJ  (by first | decide | omega) (by first | decide | omega)) (fun v435 l436 q437 => ?_)
  refine x_ifz (k := 0) (tg := 106) (np := 84) (by decide +kernel) (by decide) l436 (fun q438 => ?_) (fun q439 => ?_)
  · have q438 : v435 = 2147483648 := q438
    refine x_retV (np := 107) (x := 0) (by decide +kernel) (by decide +kernel) ⟨rfl, ?_⟩
    exact ⟨hJ, hF, (MB.mono hM (Nat.le_refl _) (Nat.le_succ _))⟩
  have q439 : ¬ (v435 = 2147483648) := q439
  refine x_iload (np := 86) (x := 6) (by decide +kernel) rfl (by decide) ?_
  refine x_ifz (k := 0) (tg := 106) (np := 89) (by decide +kernel) (by decide) (by decide) (fun q440 => ?_) (fun q441 => ?_)
  · have q440 : 2147483649 = 2147483648 := q440
    exfalso; omega
  have q441 : ¬ (2147483649 = 2147483648) := q441
  refine x_iload (np := 91) (x := 5) (by decide +kernel) rfl l12 ?_
  refine x_iload (np := 93) (x := 4) (by decide +kernel) rfl l10 ?_
  refine x_icmp (k := 0) (tg := 106) (np := 96) (by decide +kernel) (by decide) l12 l10 (fun q442 => ?_) (fun q443 => ?_)
  · have q442 : v11 = ((h 76 (21 + 7 * u2))) := q442
    refine x_retV (np := 107) (x := 0) (by decide +kernel) (by decide +kernel) ⟨rfl, ?_⟩
    exact ⟨hJ, hF, (MB.mono hM (Nat.le_refl _) (Nat.le_succ _))⟩
  have q443 : ¬ (v11 = ((h 76 (21 + 7 * u2)))) := q443
  refine x_aload (np := 97) (x := 0) (by decide +kernel) rfl (x_nc_le (by decide)) ?_
  refine x_iload (np := 99) (x := 4) (by decide +kernel) rfl l10 ?_
  refine x_iload (np := 100) (x := 2) (by decide +kernel) rfl la2 ?_
  refine x_cP (t := 6) (mj := 200) (n := 3) (rc := 12) (ml := 3) (nr := 0) (np := 103) (as := [x_r 75, iv_c ((h 76 (21 + 7 * u2))), iv_c a2]) (rest := []) (lo1 := [x_r 75, iv_c ((h 76 (21 + 7 * u2))), iv_c a2]) (by decide +kernel) (by decide) (by decide +kernel) (x_rb_of (by decide +kernel)) rfl rfl (x_wr (by decide) (x_wi l10 (x_wi la2 x_wn))) x_wn (by decide) rfl (c200_75 hJ  (by first | decide | omega) (by first | decide | omega)) (fun v444 l445 q446 => ?_)
  refine x_ifz (k := 1) (tg := 107) (np := 106) (by decide +kernel) (by decide) l445 (fun q447 => ?_) (fun q448 => ?_)
  · have q447 : v444 ≠ 2147483648 := q447
    refine x_aload (np := 108) (x := 0) (by decide +kernel) rfl (x_nc_le (by decide)) ?_
    have q449 : h 75 14 = 81 := by have z := jB (e := 14) 0 hJ rg_75_14_0_1 (by decide) (by decide); omega
    refine x_getR (np := 111) (x := 718) (f := 14) (q := 81) (by decide +kernel) (by decide) (by decide +kernel) q449 ?_
    refine x_const (np := 112) (x := 9223372039002259456) (a := 2147483648) (by decide +kernel) (by decide) (by decide) ?_
    refine x_iload (np := 113) (x := 2) (by decide +kernel) rfl la2 ?_
    refine x_ast (np := 114) (x := 0) (kd := 1) (n := 8) (i := 0) (by decide +kernel) (Or.inl rfl) (by decide +kernel) (by first | decide | omega) (by first | decide | omega) (by decide) la2 (fun z => absurd z (by decide)) ?_
    have j451 := jU (e := 0) (v := a2) 0 hJ rg_81_0_1_8 (by first | decide | omega) (by first | decide | omega) (by first | decide | omega)
    have f453 := jF (e := 0) (v := a2) 0 hF rg_81_0_1_8 (by first | decide | omega) (by first | decide | omega) (by decide)
    have m454 := MB.oth (q := 81) (e := 0) (v := a2) hM (by decide)
    generalize e452 : x_up h 81 0 a2 = h450 at j451 f453 m454 ⊢
    refine x_aload (np := 115) (x := 0) (by decide +kernel) rfl (x_nc_le (by decide)) ?_
    have q455 : h450 75 14 = 81 := by have z := jB (e := 14) 0 j451 rg_75_14_0_1 (by decide) (by decide); omega
    refine x_getR (np := 118) (x := 718) (f := 14) (q := 81) (by decide +kernel) (by decide) (by decide +kernel) q455 ?_
    refine x_const (np := 119) (x := 9223372043297226753) (a := 2147483649) (by decide +kernel) (by decide) (by decide) ?_
    refine x_aload (np := 120) (x := 0) (by decide +kernel) rfl (x_nc_le (by decide)) ?_
    refine x_iload (np := 121) (x := 1) (by decide +kernel) rfl la1 ?_
    refine x_const (np := 122) (x := 9223372051887161347) (a := 2147483651) (by decide +kernel) (by decide) (by decide) ?_
    refine x_nI (t := 6) (mj := 161) (n := 3) (rc := 12) (ml := 3) (nr := 2) (np := 125) (as := [x_r 75, iv_c a1, iv_c 2147483651]) (rest := [iv_c 2147483649, x_r 81]) (lo1 := [x_r 75, iv_c a1, iv_c 2147483651]) (by decide +kernel) (by decide) (by decide +kernel) (x_rb_of (by decide +kernel)) rfl rfl (x_wr (by decide) (x_wi la1 (x_wi (by decide) x_wn))) (x_wi (by decide) (x_wr (by decide) x_wn)) (by decide) rfl ?_
    refine x_aload (np := 1) (x := 0) (by decide +kernel) rfl (x_nc_le (by decide)) ?_
    have q456 : h450 75 1 = 76 := by have z := jB (e := 1) 0 j451 rg_75_1_0_1 (by decide) (by decide); omega
    refine x_getR (np := 4) (x := 705) (f := 1) (q := 76) (by decide +kernel) (by decide) (by decide +kernel) q456 ?_
    refine x_const (np := 6) (x := 9223372124901605396) (a := 2147483668) (by decide +kernel) (by decide) (by decide) ?_
    refine x_const (np := 8) (x := 9223372069067030535) (a := 2147483655) (by decide +kernel) (by decide) (by decide) ?_
    refine x_iload (np := 9) (x := 1) (by decide +kernel) rfl la1 ?_
    refine x_imul (np := 10) (x := 0) (i := 7) (j := u2) (v := (2147483648 + 7 * u2)) (by decide +kernel) (by first | decide | omega) (by first | decide | omega) (by first | decide | omega) (by first | decide | omega) (by decide) la1 ?_
    refine x_iadd (np := 11) (x := 0) (v := (2147483668 + 7 * u2)) (by decide +kernel) (by decide) (by first | decide | omega) (by first | decide | omega) (by first | decide | omega) ?_
    refine x_iload (np := 12) (x := 2) (by decide +kernel) rfl (by decide) ?_
    refine x_iadd (np := 13) (x := 0) (v := (2147483671 + 7 * u2)) (by decide +kernel) (by first | decide | omega) (by decide) (by first | decide | omega) (by first | decide | omega) ?_
    have q458 : h450 76 (23 + 7 * u2) = h 76 (23 + 7 * u2) := by rw [← e452]; exact x_up_k (by decide)
    refine x_aldC (np := 14) (x := 0) (n := 1952) (i := (23 + 7 * u2)) (q := ((h 76 (23 + 7 * u2)))) (by decide +kernel) (by decide +kernel) (by first | decide | omega) (by first | decide | omega) (by decide) q458 (fun l459 => ?_)
    refine x_retI (np := 15) (x := 0) (by decide +kernel) l459 (Or.inl (by decide +kernel)) ⟨_, rfl, l459, ?_⟩
    refine x_ast (np := 126) (x := 0) (kd := 1) (n := 8) (i := 1) (by decide +kernel) (Or.inl rfl) (by decide +kernel) (by first | decide | omega) (by first | decide | omega) (by decide) l459 (fun z => absurd z (by decide)) ?_
    have j461 := jU (e := 1) (v := ((h 76 (23 + 7 * u2)))) 1 j451 rg_81_0_1_8 (by first | decide | omega) (by first | decide | omega) (by first | decide | omega)
    have f463 := jF (e := 1) (v := ((h 76 (23 + 7 * u2)))) 1 f453 rg_81_0_1_8 (by first | decide | omega) (by first | decide | omega) (by decide)
    have m464 := MB.oth (q := 81) (e := 1) (v := ((h 76 (23 + 7 * u2)))) m454 (by decide)
    generalize e462 : x_up h450 81 1 ((h 76 (23 + 7 * u2))) = h460 at j461 f463 m464 ⊢
    refine x_aload (np := 127) (x := 0) (by decide +kernel) rfl (x_nc_le (by decide)) ?_
    have q465 : h460 75 14 = 81 := by have z := jB (e := 14) 0 j461 rg_75_14_0_1 (by decide) (by decide); omega
    refine x_getR (np := 130) (x := 718) (f := 14) (q := 81) (by decide +kernel) (by decide) (by decide +kernel) q465 ?_
    refine x_const (np := 131) (x := 9223372047592194050) (a := 2147483650) (by decide +kernel) (by decide) (by decide) ?_
    refine x_aload (np := 132) (x := 0) (by decide +kernel) rfl (x_nc_le (by decide)) ?_
    refine x_iload (np := 133) (x := 1) (by decide +kernel) rfl la1 ?_
    refine x_const (np := 134) (x := 9223372060477095941) (a := 2147483653) (by decide +kernel) (by decide) (by decide) ?_
    refine x_nI (t := 6) (mj := 161) (n := 3) (rc := 12) (ml := 3) (nr := 2) (np := 137) (as := [x_r 75, iv_c a1, iv_c 2147483653]) (rest := [iv_c 2147483650, x_r 81]) (lo1 := [x_r 75, iv_c a1, iv_c 2147483653]) (by decide +kernel) (by decide) (by decide +kernel) (x_rb_of (by decide +kernel)) rfl rfl (x_wr (by decide) (x_wi la1 (x_wi (by decide) x_wn))) (x_wi (by decide) (x_wr (by decide) x_wn)) (by decide) rfl ?_
    refine x_aload (np := 1) (x := 0) (by decide +kernel) rfl (x_nc_le (by decide)) ?_
    have q466 : h460 75 1 = 76 := by have z := jB (e := 1) 0 j461 rg_75_1_0_1 (by decide) (by decide); omega
    refine x_getR (np := 4) (x := 705) (f := 1) (q := 76) (by decide +kernel) (by decide) (by decide +kernel) q466 ?_
    refine x_const (np := 6) (x := 9223372124901605396) (a := 2147483668) (by decide +kernel) (by decide) (by decide) ?_
    refine x_const (np := 8) (x := 9223372069067030535) (a := 2147483655) (by decide +kernel) (by decide) (by decide) ?_
    refine x_iload (np := 9) (x := 1) (by decide +kernel) rfl la1 ?_
    refine x_imul (np := 10) (x := 0) (i := 7) (j := u2) (v := (2147483648 + 7 * u2)) (by decide +kernel) (by first | decide | omega) (by first | decide | omega) (by first | decide | omega) (by first | decide | omega) (by decide) la1 ?_
    refine x_iadd (np := 11) (x := 0) (v := (2147483668 + 7 * u2)) (by decide +kernel) (by decide) (by first | decide | omega) (by first | decide | omega) (by first | decide | omega) ?_
    refine x_iload (np := 12) (x := 2) (by decide +kernel) rfl (by decide) ?_
    refine x_iadd (np := 13) (x := 0) (v := (2147483673 + 7 * u2)) (by decide +kernel) (by first | decide | omega) (by decide) (by first | decide | omega) (by first | decide | omega) ?_
    have q468 : h460 76 (25 + 7 * u2) = h450 76 (25 + 7 * u2) := by rw [← e462]; exact x_up_k (by decide)
    have q469 : h450 76 (25 + 7 * u2) = h 76 (25 + 7 * u2) := by rw [← e452]; exact x_up_k (by decide)
    refine x_aldC (np := 14) (x := 0) (n := 1952) (i := (25 + 7 * u2)) (q := ((h 76 (25 + 7 * u2)))) (by decide +kernel) (by decide +kernel) (by first | decide | omega) (by first | decide | omega) (by decide) (q468.trans q469) (fun l470 => ?_)
    refine x_retI (np := 15) (x := 0) (by decide +kernel) l470 (Or.inl (by decide +kernel)) ⟨_, rfl, l470, ?_⟩
    refine x_ast (np := 138) (x := 0) (kd := 1) (n := 8) (i := 2) (by decide +kernel) (Or.inl rfl) (by decide +kernel) (by first | decide | omega) (by first | decide | omega) (by decide) l470 (fun z => absurd z (by decide)) ?_
    have j472 := jU (e := 2) (v := ((h 76 (25 + 7 * u2)))) 2 j461 rg_81_0_1_8 (by first | decide | omega) (by first | decide | omega) (by first | decide | omega)
    have f474 := jF (e := 2) (v := ((h 76 (25 + 7 * u2)))) 2 f463 rg_81_0_1_8 (by first | decide | omega) (by first | decide | omega) (by decide)
    have m475 := MB.oth (q := 81) (e := 2) (v := ((h 76 (25 + 7 * u2)))) m464 (by decide)
    generalize e473 : x_up h460 81 2 ((h 76 (25 + 7 * u2))) = h471 at j472 f474 m475 ⊢
    refine x_aload (np := 139) (x := 0) (by decide +kernel) rfl (x_nc_le (by decide)) ?_
    have q476 : h471 75 14 = 81 := by have z := jB (e := 14) 0 j472 rg_75_14_0_1 (by decide) (by decide); omega
    refine x_getR (np := 142) (x := 718) (f := 14) (q := 81) (by decide +kernel) (by decide) (by decide +kernel) q476 ?_
    refine x_const (np := 143) (x := 9223372051887161347) (a := 2147483651) (by decide +kernel) (by decide) (by decide) ?_
    refine x_aload (np := 144) (x := 0) (by decide +kernel) rfl (x_nc_le (by decide)) ?_
    have q477 : h471 75 16 = 83 := by have z := jB (e := 16) 0 j472 rg_75_16_0_1 (by decide) (by decide); omega
    refine x_getR (np := 147) (x := 720) (f := 16) (q := 83) (by decide +kernel) (by decide) (by decide +kernel) q477 ?_
    refine x_iload (np := 148) (x := 3) (by decide +kernel) rfl l6 ?_
    have q478 : h471 83 u15 = h460 83 u15 := by rw [← e473]; exact x_up_k (by decide)
    have q479 : h460 83 u15 = h450 83 u15 := by rw [← e462]; exact x_up_k (by decide)
    have q480 : h450 83 u15 = h 83 u15 := by rw [← e452]; exact x_up_k (by decide)
    have z481 := m475 u15 (by first | decide | omega)
    refine x_aldC (np := 149) (x := 0) (n := 6) (i := u15) (q := (h 83 u15)) (by decide +kernel) (by decide +kernel) (by first | decide | omega) (by first | decide | omega) (by decide) ((q478.trans q479).trans q480) (fun l482 => ?_)
    refine x_ast (np := 150) (x := 0) (kd := 1) (n := 8) (i := 3) (by decide +kernel) (Or.inl rfl) (by decide +kernel) (by first | decide | omega) (by first | decide | omega) (by decide) l19 (fun z => absurd z (by decide)) ?_
    have j484 := jU (e := 3) (v := (h 83 u15)) 3 j472 rg_81_0_1_8 (by first | decide | omega) (by first | decide | omega) (by first | decide | omega)
    have f486 := jF (e := 3) (v := (h 83 u15)) 3 f474 rg_81_0_1_8 (by first | decide | omega) (by first | decide | omega) (by decide)
    have m487 := MB.oth (q := 81) (e := 3) (v := (h 83 u15)) m475 (by decide)
    generalize e485 : x_up h471 81 3 (h 83 u15) = h483 at j484 f486 m487 ⊢
    refine x_aload (np := 151) (x := 0) (by decide +kernel) rfl (x_nc_le (by decide)) ?_
    have q488 : h483 75 14 = 81 := by have z := jB (e := 14) 0 j484 rg_75_14_0_1 (by decide) (by decide); omega
    refine x_getR (np := 154) (x := 718) (f := 14) (q := 81) (by decide +kernel) (by decide) (by decide +kernel) q488 ?_
    refine x_const (np := 155) (x := 9223372056182128644) (a := 2147483652) (by decide +kernel) (by decide) (by decide) ?_
    refine x_aload (np := 156) (x := 0) (by decide +kernel) rfl (x_nc_le (by decide)) ?_
    refine x_iload (np := 158) (x := 5) (by decide +kernel) rfl l12 ?_
    refine x_iload (np := 159) (x := 2) (by decide +kernel) rfl la2 ?_
    refine x_cP (t := 6) (mj := 208) (n := 3) (rc := 12) (ml := 5) (nr := 2) (np := 162) (as := [x_r 75, iv_c v11, iv_c a2]) (rest := [iv_c 2147483652, x_r 81]) (lo1 := [x_r 75, iv_c v11, iv_c a2, 147573952589676412928, 147573952589676412928]) (by decide +kernel) (by decide) (by decide +kernel) (x_rb_of (by decide +kernel)) rfl rfl (x_wr (by decide) (x_wi l12 (x_wi la2 x_wn))) (x_wi (by decide) (x_wr (by decide) x_wn)) (by decide) rfl (c208_75 j484  (by first | decide | omega) (by first | decide | omega)) (fun v489 l490 q491 => ?_)
    refine x_ast (np := 163) (x := 0) (kd := 1) (n := 8) (i := 4) (by decide +kernel) (Or.inl rfl) (by decide +kernel) (by first | decide | omega) (by first | decide | omega) (by decide) l490 (fun z => absurd z (by decide)) ?_
    have j493 := jU (e := 4) (v := v489) 4 j484 rg_81_0_1_8 (by first | decide | omega) (by first | decide | omega) (by first | decide | omega)
    have f495 := jF (e := 4) (v := v489) 4 f486 rg_81_0_1_8 (by first | decide | omega) (by first | decide | omega) (by decide)
    have m496 := MB.oth (q := 81) (e := 4) (v := v489) m487 (by decide)
    generalize e494 : x_up h483 81 4 v489 = h492 at j493 f495 m496 ⊢
    refine x_aload (np := 164) (x := 0) (by decide +kernel) rfl (x_nc_le (by decide)) ?_
    have q497 : h492 75 14 = 81 := by have z := jB (e := 14) 0 j493 rg_75_14_0_1 (by decide) (by decide); omega
    refine x_getR (np := 167) (x := 718) (f := 14) (q := 81) (by decide +kernel) (by decide) (by decide +kernel) q497 ?_
    refine x_const (np := 168) (x := 9223372060477095941) (a := 2147483653) (by decide +kernel) (by decide) (by decide) ?_
    refine x_aload (np := 169) (x := 0) (by decide +kernel) rfl (x_nc_le (by decide)) ?_
    refine x_iload (np := 171) (x := 4) (by decide +kernel) rfl l10 ?_
    refine x_iload (np := 172) (x := 2) (by decide +kernel) rfl la2 ?_
    refine x_cP (t := 6) (mj := 208) (n := 3) (rc := 12) (ml := 5) (nr := 2) (np := 175) (as := [x_r 75, iv_c ((h 76 (21 + 7 * u2))), iv_c a2]) (rest := [iv_c 2147483653, x_r 81]) (lo1 := [x_r 75, iv_c ((h 76 (21 + 7 * u2))), iv_c a2, 147573952589676412928, 147573952589676412928]) (by decide +kernel) (by decide) (by decide +kernel) (x_rb_of (by decide +kernel)) rfl rfl (x_wr (by decide) (x_wi l10 (x_wi la2 x_wn))) (x_wi (by decide) (x_wr (by decide) x_wn)) (by decide) rfl (c208_75 j493  (by first | decide | omega) (by first | decide | omega)) (fun v498 l499 q500 => ?_)
    refine x_ast (np := 176) (x := 0) (kd := 1) (n := 8) (i := 5) (by decide +kernel) (Or.inl rfl) (by decide +kernel) (by first | decide | omega) (by first | decide | omega) (by decide) l499 (fun z => absurd z (by decide)) ?_
    have j502 := jU (e := 5) (v := v498) 5 j493 rg_81_0_1_8 (by first | decide | omega) (by first | decide | omega) (by first | decide | omega)
    have f504 := jF (e := 5) (v := v498) 5 f495 rg_81_0_1_8 (by first | decide | omega) (by first | decide | omega) (by decide)
    have m505 := MB.oth (q := 81) (e := 5) (v := v498) m496 (by decide)
    generalize e503 : x_up h492 81 5 v498 = h501 at j502 f504 m505 ⊢
    refine x_aload (np := 177) (x := 0) (by decide +kernel) rfl (x_nc_le (by decide)) ?_
    have q506 : h501 75 14 = 81 := by have z := jB (e := 14) 0 j502 rg_75_14_0_1 (by decide) (by decide); omega
    refine x_getR (np := 180) (x := 718) (f := 14) (q := 81) (by decide +kernel) (by decide) (by decide +kernel) q506 ?_
    refine x_const (np := 182) (x := 9223372064772063238) (a := 2147483654) (by decide +kernel) (by decide) (by decide) ?_
    refine x_iload (np := 184) (x := 5) (by decide +kernel) rfl l12 ?_
    refine x_iload (np := 185) (x := 3) (by decide +kernel) rfl l6 ?_
    refine x_icmp (k := 1) (tg := 192) (np := 188) (by decide +kernel) (by decide) l12 l6 (fun q507 => ?_) (fun q508 => ?_)
    · have q507 : v11 ≠ ((h 76 (20 + 7 * u2))) := q507
      refine x_const (np := 193) (x := 9223372039002259456) (a := 2147483648) (by decide +kernel) (by decide) (by decide) ?_
      refine x_ast (np := 194) (x := 0) (kd := 1) (n := 8) (i := 6) (by decide +kernel) (Or.inl rfl) (by decide +kernel) (by first | decide | omega) (by first | decide | omega) (by decide) (by decide) (fun z => absurd z (by decide)) ?_
      have j510 := jU (e := 6) (v := 2147483648) 6 j502 rg_81_0_1_8 (by first | decide | omega) (by first | decide | omega) (by first | decide | omega)
      have f512 := jF (e := 6) (v := 2147483648) 6 f504 rg_81_0_1_8 (by first | decide | omega) (by first | decide | omega) (by decide)
      have m513 := MB.oth (q := 81) (e := 6) (v := 2147483648) m505 (by decide)
      generalize e511 : x_up h501 81 6 2147483648 = h509 at j510 f512 m513 ⊢
      refine x_aload (np := 195) (x := 0) (by decide +kernel) rfl (x_nc_le (by decide)) ?_
      have q514 : h509 75 14 = 81 := by have z := jB (e := 14) 0 j510 rg_75_14_0_1 (by decide) (by decide); omega
      refine x_getR (np := 198) (x := 718) (f := 14) (q := 81) (by decide +kernel) (by decide) (by decide +kernel) q514 ?_
      refine x_const (np := 200) (x := 9223372069067030535) (a := 2147483655) (by decide +kernel) (by decide) (by decide) ?_
      refine x_iload (np := 202) (x := 4) (by decide +kernel) rfl l10 ?_
      refine x_iload (np := 203) (x := 3) (by decide +kernel) rfl l6 ?_
      refine x_icmp (k := 1) (tg := 210) (np := 206) (by decide +kernel) (by decide) l10 l6 (fun q515 => ?_) (fun q516 => ?_)
      · have q515 : ((h 76 (21 + 7 * u2))) ≠ ((h 76 (20 + 7 * u2))) := q515
        refine x_const (np := 211) (x := 9223372039002259456) (a := 2147483648) (by decide +kernel) (by decide) (by decide) ?_
        refine x_ast (np := 212) (x := 0) (kd := 1) (n := 8) (i := 7) (by decide +kernel) (Or.inl rfl) (by decide +kernel) (by first | decide | omega) (by first | decide | omega) (by decide) (by decide) (fun z => absurd z (by decide)) ?_
        have j518 := jU (e := 7) (v := 2147483648) 7 j510 rg_81_0_1_8 (by first | decide | omega) (by first | decide | omega) (by first | decide | omega)
        have f520 := jF (e := 7) (v := 2147483648) 7 f512 rg_81_0_1_8 (by first | decide | omega) (by first | decide | omega) (by decide)
        have m521 := MB.oth (q := 81) (e := 7) (v := 2147483648) m513 (by decide)
        generalize e519 : x_up h509 81 7 2147483648 = h517 at j518 f520 m521 ⊢
        refine x_aload (np := 213) (x := 0) (by decide +kernel) rfl (x_nc_le (by decide)) ?_
        have m532 : WT 76 h450 := by rw [← e452]; exact WT.oth hW hJ (by decide)
        have m531 : WT 76 h460 := by rw [← e462]; exact WT.oth m532 j451 (by decide)
        have m530 : WT 76 h471 := by rw [← e473]; exact WT.oth m531 j461 (by decide)
        have m529 : WT 76 h483 := by rw [← e485]; exact WT.oth m530 j472 (by decide)
        have m528 : WT 76 h492 := by rw [← e494]; exact WT.oth m529 j484 (by decide)
        have m527 : WT 76 h501 := by rw [← e503]; exact WT.oth m528 j493 (by decide)
        have m526 : WT 76 h509 := by rw [← e511]; exact WT.oth m527 j502 (by decide)
        have m525 : WT 76 h517 := by rw [← e519]; exact WT.oth m526 j510 (by decide)
        refine x_cI (t := 6) (mj := 199) (n := 1) (rc := 12) (ml := 2) (nr := 0) (np := 216) (as := [x_r 75]) (rest := []) (lo1 := [x_r 75, 147573952589676412928]) (by decide +kernel) (by decide) (by decide +kernel) (x_rb_of (by decide +kernel)) rfl rfl (x_wr (by decide) x_wn) x_wn (by decide) rfl (c199_75 j518  m525) (fun v522 h533 l523 q524 => ?_)
        obtain ⟨j534, f535, b536⟩ := q524
        have m537 := MB.fr m521 f535 (by decide)
        have f538 := Fr.trans f520 f535 (by decide)
        refine x_ifz (k := 1) (tg := 220) (np := 219) (by decide +kernel) (by decide) l523 (fun q539 => ?_) (fun q540 => ?_)
        · have q539 : v522 ≠ 2147483648 := q539
          refine x_aload (np := 221) (x := 0) (by decide +kernel) rfl (x_nc_le (by decide)) ?_
          have q541 : h533 75 21 = 88 := by have z := jB (e := 21) 0 j534 rg_75_21_0_1 (by decide) (by decide); omega
          refine x_getR (np := 224) (x := 725) (f := 21) (q := 88) (by decide +kernel) (by decide) (by decide +kernel) q541 ?_
          refine x_iload (np := 225) (x := 1) (by decide +kernel) rfl la1 ?_
          refine x_iload (np := 227) (x := 5) (by decide +kernel) rfl l12 ?_
          refine x_ast (np := 228) (x := 0) (kd := 1) (n := 20) (i := u2) (by decide +kernel) (Or.inl rfl) (by decide +kernel) (by first | decide | omega) (by first | decide | omega) (by decide) l12 (fun z => absurd z (by decide)) ?_
          have j543 := jU (e := u2) (v := v11) u2 j534 rg_88_0_1_20 (by first | decide | omega) (by first | decide | omega) (by first | decide | omega)
          have f545 := jF (e := u2) (v := v11) u2 f538 rg_88_0_1_20 (by first | decide | omega) (by first | decide | omega) (by decide)
          have m546 := MB.oth (q := 88) (e := u2) (v := v11) m537 (by decide)
          generalize e544 : x_up h533 88 u2 v11 = h542 at j543 f545 m546 ⊢
          refine x_aload (np := 229) (x := 0) (by decide +kernel) rfl (x_nc_le (by decide)) ?_
          have q547 : h542 75 17 = 84 := by have z := jB (e := 17) 0 j543 rg_75_17_0_1 (by decide) (by decide); omega
          refine x_getR (np := 232) (x := 721) (f := 17) (q := 84) (by decide +kernel) (by decide) (by decide +kernel) q547 ?_
          refine x_const (np := 234) (x := 9223372124901605396) (a := 2147483668) (by decide +kernel) (by decide) (by decide) ?_
          refine x_iload (np := 235) (x := 3) (by decide +kernel) rfl l6 ?_
          refine x_imul (np := 236) (x := 0) (i := 20) (j := u15) (v := (2147483648 + 20 * u15)) (by decide +kernel) (by first | decide | omega) (by first | decide | omega) (by first | decide | omega) (by first | decide | omega) (by decide) l6 ?_
          refine x_aload (np := 237) (x := 0) (by decide +kernel) rfl (x_nc_le (by decide)) ?_
          have q549 : h542 75 16 = 83 := by have z := jB (e := 16) 0 j543 rg_75_16_0_1 (by decide) (by decide); omega
          refine x_getR (np := 240) (x := 720) (f := 16) (q := 83) (by decide +kernel) (by decide) (by decide +kernel) q549 ?_
          refine x_iload (np := 241) (x := 3) (by decide +kernel) rfl l6 ?_
          have q550 : h542 83 u15 = h533 83 u15 := by rw [← e544]; exact x_up_k (by decide)
          have q551 : h533 83 u15 = h517 83 u15 := jK u15 f535 rg_83_0_1_6 (by first | decide | omega) (by first | decide | omega) (by decide)
          have q552 : h517 83 u15 = h509 83 u15 := by rw [← e519]; exact x_up_k (by decide)
          have q553 : h509 83 u15 = h501 83 u15 := by rw [← e511]; exact x_up_k (by decide)
          have q554 : h501 83 u15 = h492 83 u15 := by rw [← e503]; exact x_up_k (by decide)
          have q555 : h492 83 u15 = h483 83 u15 := by rw [← e494]; exact x_up_k (by decide)
          have q556 : h483 83 u15 = h471 83 u15 := by rw [← e485]; exact x_up_k (by decide)
          have q557 : h471 83 u15 = h460 83 u15 := by rw [← e473]; exact x_up_k (by decide)
          have q558 : h460 83 u15 = h450 83 u15 := by rw [← e462]; exact x_up_k (by decide)
          have q559 : h450 83 u15 = h 83 u15 := by rw [← e452]; exact x_up_k (by decide)
          have z560 := m546 u15 (by first | decide | omega)
          refine x_aldC (np := 242) (x := 0) (n := 6) (i := u15) (q := (h 83 u15)) (by decide +kernel) (by decide +kernel) (by first | decide | omega) (by first | decide | omega) (by decide) (((((((((q550.trans q551).trans q552).trans q553).trans q554).trans q555).trans q556).trans q557).trans q558).trans q559) (fun l561 => ?_)
          refine x_iadd (np := 243) (x := 0) (v := (20 * u15 + (h 83 u15))) (by decide +kernel) (by first | decide | omega) l19 (by first | decide | omega) (by first | decide | omega) ?_
          refine x_iload (np := 244) (x := 1) (by decide +kernel) rfl la1 ?_
          obtain ⟨u562, q563⟩ : ∃ z, (h 83 u15) = 2147483648 + z := ⟨(h 83 u15) - 2147483648, by first | decide | omega⟩
          refine x_ast (np := 245) (x := 0) (kd := 1) (n := 120) (i := (20 * u15 + u562)) (by decide +kernel) (Or.inl rfl) (by decide +kernel) (by first | decide | omega) (by first | decide | omega) (by decide) la1 (fun z => absurd z (by decide)) ?_
          have j565 := jU (e := (20 * u15 + u562)) (v := a1) (20 * u15 + u562) j543 rg_84_0_1_120 (by first | decide | omega) (by first | decide | omega) (by first | decide | omega)
          have f567 := jF (e := (20 * u15 + u562)) (v := a1) (20 * u15 + u562) f545 rg_84_0_1_120 (by first | decide | omega) (by first | decide | omega) (by decide)
          have m568 := MB.oth (q := 84) (e := (20 * u15 + u562)) (v := a1) m546 (by decide)
          generalize e566 : x_up h542 84 (20 * u15 + u562) a1 = h564 at j565 f567 m568 ⊢
          refine x_aload (np := 246) (x := 0) (by decide +kernel) rfl (x_nc_le (by decide)) ?_
          have q569 : h564 75 16 = 83 := by have z := jB (e := 16) 0 j565 rg_75_16_0_1 (by decide) (by decide); omega
          refine x_getR (np := 249) (x := 720) (f := 16) (q := 83) (by decide +kernel) (by decide) (by decide +kernel) q569 ?_
          refine x_iload (np := 250) (x := 3) (by decide +kernel) rfl l6 ?_
          refine x_dup2 (np := 251) (x := 0) (by decide +kernel) (by have z := (iw_c_lt (a := ((h 76 (20 + 7 * u2)))) l6).1; omega) (by have z := x_nc_le (k := 83) (by decide); unfold x_r; omega) ?_
          have q570 : h564 83 u15 = h542 83 u15 := by rw [← e566]; exact x_up_k (by decide)
          have q571 : h542 83 u15 = h533 83 u15 := by rw [← e544]; exact x_up_k (by decide)
          have q572 : h533 83 u15 = h517 83 u15 := jK u15 f535 rg_83_0_1_6 (by first | decide | omega) (by first | decide | omega) (by decide)
          have q573 : h517 83 u15 = h509 83 u15 := by rw [← e519]; exact x_up_k (by decide)
          have q574 : h509 83 u15 = h501 83 u15 := by rw [← e511]; exact x_up_k (by decide)
          have q575 : h501 83 u15 = h492 83 u15 := by rw [← e503]; exact x_up_k (by decide)
          have q576 : h492 83 u15 = h483 83 u15 := by rw [← e494]; exact x_up_k (by decide)
          have q577 : h483 83 u15 = h471 83 u15 := by rw [← e485]; exact x_up_k (by decide)
          have q578 : h471 83 u15 = h460 83 u15 := by rw [← e473]; exact x_up_k (by decide)
          have q579 : h460 83 u15 = h450 83 u15 := by rw [← e462]; exact x_up_k (by decide)
          have q580 : h450 83 u15 = h 83 u15 := by rw [← e452]; exact x_up_k (by decide)
          have z581 := m568 u15 (by first | decide | omega)
          refine x_aldC (np := 252) (x := 0) (n := 6) (i := u15) (q := (h 83 u15)) (by decide +kernel) (by decide +kernel) (by first | decide | omega) (by first | decide | omega) (by decide) ((((((((((q570.trans q571).trans q572).trans q573).trans q574).trans q575).trans q576).trans q577).trans q578).trans q579).trans q580) (fun l582 => ?_)
          refine x_const (np := 253) (x := 9223372043297226753) (a := 2147483649) (by decide +kernel) (by decide) (by decide) ?_
          refine x_iadd (np := 254) (x := 0) (v := (1 + (h 83 u15))) (by decide +kernel) l19 (by decide) (by first | decide | omega) (by first | decide | omega) ?_
          refine x_ast (np := 255) (x := 0) (kd := 1) (n := 6) (i := u15) (by decide +kernel) (Or.inl rfl) (by decide +kernel) (by first | decide | omega) (by first | decide | omega) (by decide) (by first | decide | omega) (fun z => absurd z (by decide)) ?_
          have j584 := jU (e := u15) (v := (1 + (h 83 u15))) u15 j565 rg_83_0_1_6 (by first | decide | omega) (by first | decide | omega) (by first | decide | omega)
          have f586 := jF (e := u15) (v := (1 + (h 83 u15))) u15 f567 rg_83_0_1_6 (by first | decide | omega) (by first | decide | omega) (by decide)
          have m587 := MB.up (e := u15) (v := (1 + (h 83 u15))) (MB.mono m568 (Nat.le_refl _) (Nat.le_succ _)) (by have z := m568 u15 (by first | decide | omega); omega)
          generalize e585 : x_up h564 83 u15 (1 + (h 83 u15)) = h583 at j584 f586 m587 ⊢
          refine x_retV (np := 256) (x := 0) (by decide +kernel) (by decide +kernel) ⟨rfl, ?_⟩
          exact ⟨j584, f586, m587⟩
        have q540 : ¬ (v522 ≠ 2147483648) := q540
        refine x_retV (np := 220) (x := 0) (by decide +kernel) (by decide +kernel) ⟨rfl, ?_⟩
        exact ⟨j534, f538, (MB.mono m537 (Nat.le_refl _) (Nat.le_succ _))⟩
      have q516 : ¬ (((h 76 (21 + 7 * u2))) ≠ ((h 76 (20 + 7 * u2)))) := q516
      refine x_const (np := 207) (x := 9223372043297226753) (a := 2147483649) (by decide +kernel) (by decide) (by decide) ?_
      refine x_goto (np := 210) (x := 211) (by decide +kernel) ?_
      refine x_ast (np := 212) (x := 0) (kd := 1) (n := 8) (i := 7) (by decide +kernel) (Or.inl rfl) (by decide +kernel) (by first | decide | omega) (by first | decide | omega) (by decide) (by decide) (fun z => absurd z (by decide)) ?_
      have j589 := jU (e := 7) (v := 2147483649) 7 j510 rg_81_0_1_8 (by first | decide | omega) (by first | decide | omega) (by first | decide | omega)
      have f591 := jF (e := 7) (v := 2147483649) 7 f512 rg_81_0_1_8 (by first | decide | omega) (by first | decide | omega) (by decide)
      have m592 := MB.oth (q := 81) (e := 7) (v := 2147483649) m513 (by decide)
      generalize e590 : x_up h509 81 7 2147483649 = h588 at j589 f591 m592 ⊢
      refine x_aload (np := 213) (x := 0) (by decide +kernel) rfl (x_nc_le (by decide)) ?_
      have m603 : WT 76 h450 := by rw [← e452]; exact WT.oth hW hJ (by decide)
      have m602 : WT 76 h460 := by rw [← e462]; exact WT.oth m603 j451 (by decide)
      have m601 : WT 76 h471 := by rw [← e473]; exact WT.oth m602 j461 (by decide)
      have m600 : WT 76 h483 := by rw [← e485]; exact WT.oth m601 j472 (by decide)
      have m599 : WT 76 h492 := by rw [← e494]; exact WT.oth m600 j484 (by decide)
      have m598 : WT 76 h501 := by rw [← e503]; exact WT.oth m599 j493 (by decide)
      have m597 : WT 76 h509 := by rw [← e511]; exact WT.oth m598 j502 (by decide)
      have m596 : WT 76 h588 := by rw [← e590]; exact WT.oth m597 j510 (by decide)
      refine x_cI (t := 6) (mj := 199) (n := 1) (rc := 12) (ml := 2) (nr := 0) (np := 216) (as := [x_r 75]) (rest := []) (lo1 := [x_r 75, 147573952589676412928]) (by decide +kernel) (by decide) (by decide +kernel) (x_rb_of (by decide +kernel)) rfl rfl (x_wr (by decide) x_wn) x_wn (by decide) rfl (c199_75 j589  m596) (fun v593 h604 l594 q595 => ?_)
      obtain ⟨j605, f606, b607⟩ := q595
      have m608 := MB.fr m592 f606 (by decide)
      have f609 := Fr.trans f591 f606 (by decide)
      refine x_ifz (k := 1) (tg := 220) (np := 219) (by decide +kernel) (by decide) l594 (fun q610 => ?_) (fun q611 => ?_)
      · have q610 : v593 ≠ 2147483648 := q610
        refine x_aload (np := 221) (x := 0) (by decide +kernel) rfl (x_nc_le (by decide)) ?_
        have q612 : h604 75 21 = 88 := by have z := jB (e := 21) 0 j605 rg_75_21_0_1 (by decide) (by decide); omega
        refine x_getR (np := 224) (x := 725) (f := 21) (q := 88) (by decide +kernel) (by decide) (by decide +kernel) q612 ?_
        refine x_iload (np := 225) (x := 1) (by decide +kernel) rfl la1 ?_
        refine x_iload (np := 227) (x := 5) (by decide +kernel) rfl l12 ?_
        refine x_ast (np := 228) (x := 0) (kd := 1) (n := 20) (i := u2) (by decide +kernel) (Or.inl rfl) (by decide +kernel) (by first | decide | omega) (by first | decide | omega) (by decide) l12 (fun z => absurd z (by decide)) ?_
        have j614 := jU (e := u2) (v := v11) u2 j605 rg_88_0_1_20 (by first | decide | omega) (by first | decide | omega) (by first | decide | omega)
        have f616 := jF (e := u2) (v := v11) u2 f609 rg_88_0_1_20 (by first | decide | omega) (by first | decide | omega) (by decide)
        have m617 := MB.oth (q := 88) (e := u2) (v := v11) m608 (by decide)
        generalize e615 : x_up h604 88 u2 v11 = h613 at j614 f616 m617 ⊢
        refine x_aload (np := 229) (x := 0) (by decide +kernel) rfl (x_nc_le (by decide)) ?_
        have q618 : h613 75 17 = 84 := by have z := jB (e := 17) 0 j614 rg_75_17_0_1 (by decide) (by decide); omega
        refine x_getR (np := 232) (x := 721) (f := 17) (q := 84) (by decide +kernel) (by decide) (by decide +kernel) q618 ?_
        refine x_const (np := 234) (x := 9223372124901605396) (a := 2147483668) (by decide +kernel) (by decide) (by decide) ?_
        refine x_iload (np := 235) (x := 3) (by decide +kernel) rfl l6 ?_
        refine x_imul (np := 236) (x := 0) (i := 20) (j := u15) (v := (2147483648 + 20 * u15)) (by decide +kernel) (by first | decide | omega) (by first | decide | omega) (by first | decide | omega) (by first | decide | omega) (by decide) l6 ?_
        refine x_aload (np := 237) (x := 0) (by decide +kernel) rfl (x_nc_le (by decide)) ?_
        have q620 : h613 75 16 = 83 := by have z := jB (e := 16) 0 j614 rg_75_16_0_1 (by decide) (by decide); omega
        refine x_getR (np := 240) (x := 720) (f := 16) (q := 83) (by decide +kernel) (by decide) (by decide +kernel) q620 ?_
        refine x_iload (np := 241) (x := 3) (by decide +kernel) rfl l6 ?_
        have q621 : h613 83 u15 = h604 83 u15 := by rw [← e615]; exact x_up_k (by decide)
        have q622 : h604 83 u15 = h588 83 u15 := jK u15 f606 rg_83_0_1_6 (by first | decide | omega) (by first | decide | omega) (by decide)
        have q623 : h588 83 u15 = h509 83 u15 := by rw [← e590]; exact x_up_k (by decide)
        have q624 : h509 83 u15 = h501 83 u15 := by rw [← e511]; exact x_up_k (by decide)
        have q625 : h501 83 u15 = h492 83 u15 := by rw [← e503]; exact x_up_k (by decide)
        have q626 : h492 83 u15 = h483 83 u15 := by rw [← e494]; exact x_up_k (by decide)
        have q627 : h483 83 u15 = h471 83 u15 := by rw [← e485]; exact x_up_k (by decide)
        have q628 : h471 83 u15 = h460 83 u15 := by rw [← e473]; exact x_up_k (by decide)
        have q629 : h460 83 u15 = h450 83 u15 := by rw [← e462]; exact x_up_k (by decide)
        have q630 : h450 83 u15 = h 83 u15 := by rw [← e452]; exact x_up_k (by decide)
        have z631 := m617 u15 (by first | decide | omega)
        refine x_aldC (np := 242) (x := 0) (n := 6) (i := u15) (q := (h 83 u15)) (by decide +kernel) (by decide +kernel) (by first | decide | omega) (by first | decide | omega) (by decide) (((((((((q621.trans q622).trans q623).trans q624).trans q625).trans q626).trans q627).trans q628).trans q629).trans q630) (fun l632 => ?_)
        refine x_iadd (np := 243) (x := 0) (v := (20 * u15 + (h 83 u15))) (by decide +kernel) (by first | decide | omega) l19 (by first | decide | omega) (by first | decide | omega) ?_
        refine x_iload (np := 244) (x := 1) (by decide +kernel) rfl la1 ?_
        obtain ⟨u633, q634⟩ : ∃ z, (h 83 u15) = 2147483648 + z := ⟨(h 83 u15) - 2147483648, by first | decide | omega⟩
        refine x_ast (np := 245) (x := 0) (kd := 1) (n := 120) (i := (20 * u15 + u633)) (by decide +kernel) (Or.inl rfl) (by decide +kernel) (by first | decide | omega) (by first | decide | omega) (by decide) la1 (fun z => absurd z (by decide)) ?_
        have j636 := jU (e := (20 * u15 + u633)) (v := a1) (20 * u15 + u633) j614 rg_84_0_1_120 (by first | decide | omega) (by first | decide | omega) (by first | decide | omega)
        have f638 := jF (e := (20 * u15 + u633)) (v := a1) (20 * u15 + u633) f616 rg_84_0_1_120 (by first | decide | omega) (by first | decide | omega) (by decide)
        have m639 := MB.oth (q := 84) (e := (20 * u15 + u633)) (v := a1) m617 (by decide)
        generalize e637 : x_up h613 84 (20 * u15 + u633) a1 = h635 at j636 f638 m639 ⊢
        refine x_aload (np := 246) (x := 0) (by decide +kernel) rfl (x_nc_le (by decide)) ?_
        have q640 : h635 75 16 = 83 := by have z := jB (e := 16) 0 j636 rg_75_16_0_1 (by decide) (by decide); omega
        refine x_getR (np := 249) (x := 720) (f := 16) (q := 83) (by decide +kernel) (by decide) (by decide +kernel) q640 ?_
        refine x_iload (np := 250) (x := 3) (by decide +kernel) rfl l6 ?_
        refine x_dup2 (np := 251) (x := 0) (by decide +kernel) (by have z := (iw_c_lt (a := ((h 76 (20 + 7 * u2)))) l6).1; omega) (by have z := x_nc_le (k := 83) (by decide); unfold x_r; omega) ?_
        have q641 : h635 83 u15 = h613 83 u15 := by rw [← e637]; exact x_up_k (by decide)
        have q642 : h613 83 u15 = h604 83 u15 := by rw [← e615]; exact x_up_k (by decide)
        have q643 : h604 83 u15 = h588 83 u15 := jK u15 f606 rg_83_0_1_6 (by first | decide | omega) (by first | decide | omega) (by decide)
        have q644 : h588 83 u15 = h509 83 u15 := by rw [← e590]; exact x_up_k (by decide)
        have q645 : h509 83 u15 = h501 83 u15 := by rw [← e511]; exact x_up_k (by decide)
        have q646 : h501 83 u15 = h492 83 u15 := by rw [← e503]; exact x_up_k (by decide)
        have q647 : h492 83 u15 = h483 83 u15 := by rw [← e494]; exact x_up_k (by decide)
        have q648 : h483 83 u15 = h471 83 u15 := by rw [← e485]; exact x_up_k (by decide)
        have q649 : h471 83 u15 = h460 83 u15 := by rw [← e473]; exact x_up_k (by decide)
        have q650 : h460 83 u15 = h450 83 u15 := by rw [← e462]; exact x_up_k (by decide)
        have q651 : h450 83 u15 = h 83 u15 := by rw [← e452]; exact x_up_k (by decide)
        have z652 := m639 u15 (by first | decide | omega)
        refine x_aldC (np := 252) (x := 0) (n := 6) (i := u15) (q := (h 83 u15)) (by decide +kernel) (by decide +kernel) (by first | decide | omega) (by first | decide | omega) (by decide) ((((((((((q641.trans q642).trans q643).trans q644).trans q645).trans q646).trans q647).trans q648).trans q649).trans q650).trans q651) (fun l653 => ?_)
        refine x_const (np := 253) (x := 9223372043297226753) (a := 2147483649) (by decide +kernel) (by decide) (by decide) ?_
        refine x_iadd (np := 254) (x := 0) (v := (1 + (h 83 u15))) (by decide +kernel) l19 (by decide) (by first | decide | omega) (by first | decide | omega) ?_
        refine x_ast (np := 255) (x := 0) (kd := 1) (n := 6) (i := u15) (by decide +kernel) (Or.inl rfl) (by decide +kernel) (by first | decide | omega) (by first | decide | omega) (by decide) (by first | decide | omega) (fun z => absurd z (by decide)) ?_
        have j655 := jU (e := u15) (v := (1 + (h 83 u15))) u15 j636 rg_83_0_1_6 (by first | decide | omega) (by first | decide | omega) (by first | decide | omega)
        have f657 := jF (e := u15) (v := (1 + (h 83 u15))) u15 f638 rg_83_0_1_6 (by first | decide | omega) (by first | decide | omega) (by decide)
        have m658 := MB.up (e := u15) (v := (1 + (h 83 u15))) (MB.mono m639 (Nat.le_refl _) (Nat.le_succ _)) (by have z := m639 u15 (by first | decide | omega); omega)
        generalize e656 : x_up h635 83 u15 (1 + (h 83 u15)) = h654 at j655 f657 m658 ⊢
        refine x_retV (np := 256) (x := 0) (by decide +kernel) (by decide +kernel) ⟨rfl, ?_⟩
        exact ⟨j655, f657, m658⟩
      have q611 : ¬ (v593 ≠ 2147483648) := q611
      refine x_retV (np := 220) (x := 0) (by decide +kernel) (by decide +kernel) ⟨rfl, ?_⟩
      exact ⟨j605, f609, (MB.mono m608 (Nat.le_refl _) (Nat.le_succ _))⟩
    have q508 : ¬ (v11 ≠ ((h 76 (20 + 7 * u2)))) := q508
    refine x_const (np := 189) (x := 9223372043297226753) (a := 2147483649) (by decide +kernel) (by decide) (by decide) ?_
    refine x_goto (np := 192) (x := 193) (by decide +kernel) ?_
    refine x_ast (np := 194) (x := 0) (kd := 1) (n := 8) (i := 6) (by decide +kernel) (Or.inl rfl) (by decide +kernel) (by first | decide | omega) (by first | decide | omega) (by decide) (by decide) (fun z => absurd z (by decide)) ?_
    have j660 := jU (e := 6) (v := 2147483649) 6 j502 rg_81_0_1_8 (by first | decide | omega) (by first | decide | omega) (by first | decide | omega)
    have f662 := jF (e := 6) (v := 2147483649) 6 f504 rg_81_0_1_8 (by first | decide | omega) (by first | decide | omega) (by decide)
    have m663 := MB.oth (q := 81) (e := 6) (v := 2147483649) m505 (by decide)
    generalize e661 : x_up h501 81 6 2147483649 = h659 at j660 f662 m663 ⊢
    refine x_aload (np := 195) (x := 0) (by decide +kernel) rfl (x_nc_le (by decide)) ?_
    have q664 : h659 75 14 = 81 := by have z := jB (e := 14) 0 j660 rg_75_14_0_1 (by decide) (by decide); omega
    refine x_getR (np := 198) (x := 718) (f := 14) (q := 81) (by decide +kernel) (by decide) (by decide +kernel) q664 ?_
    refine x_const (np := 200) (x := 9223372069067030535) (a := 2147483655) (by decide +kernel) (by decide) (by decide) ?_
    refine x_iload (np := 202) (x := 4) (by decide +kernel) rfl l10 ?_
    refine x_iload (np := 203) (x := 3) (by decide +kernel) rfl l6 ?_
    refine x_icmp (k := 1) (tg := 210) (np := 206) (by decide +kernel) (by decide) l10 l6 (fun q665 => ?_) (fun q666 => ?_)
    · have q665 : ((h 76 (21 + 7 * u2))) ≠ ((h 76 (20 + 7 * u2))) := q665
      refine x_const (np := 211) (x := 9223372039002259456) (a := 2147483648) (by decide +kernel) (by decide) (by decide) ?_
      refine x_ast (np := 212) (x := 0) (kd := 1) (n := 8) (i := 7) (by decide +kernel) (Or.inl rfl) (by decide +kernel) (by first | decide | omega) (by first | decide | omega) (by decide) (by decide) (fun z => absurd z (by decide)) ?_
      have j668 := jU (e := 7) (v := 2147483648) 7 j660 rg_81_0_1_8 (by first | decide | omega) (by first | decide | omega) (by first | decide | omega)
      have f670 := jF (e := 7) (v := 2147483648) 7 f662 rg_81_0_1_8 (by first | decide | omega) (by first | decide | omega) (by decide)
      have m671 := MB.oth (q := 81) (e := 7) (v := 2147483648) m663 (by decide)
      generalize e669 : x_up h659 81 7 2147483648 = h667 at j668 f670 m671 ⊢
      refine x_aload (np := 213) (x := 0) (by decide +kernel) rfl (x_nc_le (by decide)) ?_
      have m682 : WT 76 h450 := by rw [← e452]; exact WT.oth hW hJ (by decide)
      have m681 : WT 76 h460 := by rw [← e462]; exact WT.oth m682 j451 (by decide)
      have m680 : WT 76 h471 := by rw [← e473]; exact WT.oth m681 j461 (by decide)
      have m679 : WT 76 h483 := by rw [← e485]; exact WT.oth m680 j472 (by decide)
      have m678 : WT 76 h492 := by rw [← e494]; exact WT.oth m679 j484 (by decide)
      have m677 : WT 76 h501 := by rw [← e503]; exact WT.oth m678 j493 (by decide)
      have m676 : WT 76 h659 := by rw [← e661]; exact WT.oth m677 j502 (by decide)
      have m675 : WT 76 h667 := by rw [← e669]; exact WT.oth m676 j660 (by decide)
      refine x_cI (t := 6) (mj := 199) (n := 1) (rc := 12) (ml := 2) (nr := 0) (np := 216) (as := [x_r 75]) (rest := []) (lo1 := [x_r 75, 147573952589676412928]) (by decide +kernel) (by decide) (by decide +kernel) (x_rb_of (by decide +kernel)) rfl rfl (x_wr (by decide) x_wn) x_wn (by decide) rfl (c199_75 j668  m675) (fun v672 h683 l673 q674 => ?_)
      obtain ⟨j684, f685, b686⟩ := q674
      have m687 := MB.fr m671 f685 (by decide)
      have f688 := Fr.trans f670 f685 (by decide)
      refine x_ifz (k := 1) (tg := 220) (np := 219) (by decide +kernel) (by decide) l673 (fun q689 => ?_) (fun q690 => ?_)
      · have q689 : v672 ≠ 2147483648 := q689
        refine x_aload (np := 221) (x := 0) (by decide +kernel) rfl (x_nc_le (by decide)) ?_
        have q691 : h683 75 21 = 88 := by have z := jB (e := 21) 0 j684 rg_75_21_0_1 (by decide) (by decide); omega
        refine x_getR (np := 224) (x := 725) (f := 21) (q := 88) (by decide +kernel) (by decide) (by decide +kernel) q691 ?_
        refine x_iload (np := 225) (x := 1) (by decide +kernel) rfl la1 ?_
        refine x_iload (np := 227) (x := 5) (by decide +kernel) rfl l12 ?_
        refine x_ast (np := 228) (x := 0) (kd := 1) (n := 20) (i := u2) (by decide +kernel) (Or.inl rfl) (by decide +kernel) (by first | decide | omega) (by first | decide | omega) (by decide) l12 (fun z => absurd z (by decide)) ?_
        have j693 := jU (e := u2) (v := v11) u2 j684 rg_88_0_1_20 (by first | decide | omega) (by first | decide | omega) (by first | decide | omega)
        have f695 := jF (e := u2) (v := v11) u2 f688 rg_88_0_1_20 (by first | decide | omega) (by first | decide | omega) (by decide)
        have m696 := MB.oth (q := 88) (e := u2) (v := v11) m687 (by decide)
        generalize e694 : x_up h683 88 u2 v11 = h692 at j693 f695 m696 ⊢
        refine x_aload (np := 229) (x := 0) (by decide +kernel) rfl (x_nc_le (by decide)) ?_
        have q697 : h692 75 17 = 84 := by have z := jB (e := 17) 0 j693 rg_75_17_0_1 (by decide) (by decide); omega
        refine x_getR (np := 232) (x := 721) (f := 17) (q := 84) (by decide +kernel) (by decide) (by decide +kernel) q697 ?_
        refine x_const (np := 234) (x := 9223372124901605396) (a := 2147483668) (by decide +kernel) (by decide) (by decide) ?_
        refine x_iload (np := 235) (x := 3) (by decide +kernel) rfl l6 ?_
        refine x_imul (np := 236) (x := 0) (i := 20) (j := u15) (v := (2147483648 + 20 * u15)) (by decide +kernel) (by first | decide | omega) (by first | decide | omega) (by first | decide | omega) (by first | decide | omega) (by decide) l6 ?_
        refine x_aload (np := 237) (x := 0) (by decide +kernel) rfl (x_nc_le (by decide)) ?_
        have q699 : h692 75 16 = 83 := by have z := jB (e := 16) 0 j693 rg_75_16_0_1 (by decide) (by decide); omega
        refine x_getR (np := 240) (x := 720) (f := 16) (q := 83) (by decide +kernel) (by decide) (by decide +kernel) q699 ?_
        refine x_iload (np := 241) (x := 3) (by decide +kernel) rfl l6 ?_
        have q700 : h692 83 u15 = h683 83 u15 := by rw [← e694]; exact x_up_k (by decide)
        have q701 : h683 83 u15 = h667 83 u15 := jK u15 f685 rg_83_0_1_6 (by first | decide | omega) (by first | decide | omega) (by decide)
        have q702 : h667 83 u15 = h659 83 u15 := by rw [← e669]; exact x_up_k (by decide)
        have q703 : h659 83 u15 = h501 83 u15 := by rw [← e661]; exact x_up_k (by decide)
        have q704 : h501 83 u15 = h492 83 u15 := by rw [← e503]; exact x_up_k (by decide)
        have q705 : h492 83 u15 = h483 83 u15 := by rw [← e494]; exact x_up_k (by decide)
        have q706 : h483 83 u15 = h471 83 u15 := by rw [← e485]; exact x_up_k (by decide)
        have q707 : h471 83 u15 = h460 83 u15 := by rw [← e473]; exact x_up_k (by decide)
        have q708 : h460 83 u15 = h450 83 u15 := by rw [← e462]; exact x_up_k (by decide)
        have q709 : h450 83 u15 = h 83 u15 := by rw [← e452]; exact x_up_k (by decide)
        have z710 := m696 u15 (by first | decide | omega)
        refine x_aldC (np := 242) (x := 0) (n := 6) (i := u15) (q := (h 83 u15)) (by decide +kernel) (by decide +kernel) (by first | decide | omega) (by first | decide | omega) (by decide) (((((((((q700.trans q701).trans q702).trans q703).trans q704).trans q705).trans q706).trans q707).trans q708).trans q709) (fun l711 => ?_)
        refine x_iadd (np := 243) (x := 0) (v := (20 * u15 + (h 83 u15))) (by decide +kernel) (by first | decide | omega) l19 (by first | decide | omega) (by first | decide | omega) ?_
        refine x_iload (np := 244) (x := 1) (by decide +kernel) rfl la1 ?_
        obtain ⟨u712, q713⟩ : ∃ z, (h 83 u15) = 2147483648 + z := ⟨(h 83 u15) - 2147483648, by first | decide | omega⟩
        refine x_ast (np := 245) (x := 0) (kd := 1) (n := 120) (i := (20 * u15 + u712)) (by decide +kernel) (Or.inl rfl) (by decide +kernel) (by first | decide | omega) (by first | decide | omega) (by decide) la1 (fun z => absurd z (by decide)) ?_
        have j715 := jU (e := (20 * u15 + u712)) (v := a1) (20 * u15 + u712) j693 rg_84_0_1_120 (by first | decide | omega) (by first | decide | omega) (by first | decide | omega)
        have f717 := jF (e := (20 * u15 + u712)) (v := a1) (20 * u15 + u712) f695 rg_84_0_1_120 (by first | decide | omega) (by first | decide | omega) (by decide)
        have m718 := MB.oth (q := 84) (e := (20 * u15 + u712)) (v := a1) m696 (by decide)
        generalize e716 : x_up h692 84 (20 * u15 + u712) a1 = h714 at j715 f717 m718 ⊢
        refine x_aload (np := 246) (x := 0) (by decide +kernel) rfl (x_nc_le (by decide)) ?_
        have q719 : h714 75 16 = 83 := by have z := jB (e := 16) 0 j715 rg_75_16_0_1 (by decide) (by decide); omega
        refine x_getR (np := 249) (x := 720) (f := 16) (q := 83) (by decide +kernel) (by decide) (by decide +kernel) q719 ?_
        refine x_iload (np := 250) (x := 3) (by decide +kernel) rfl l6 ?_
        refine x_dup2 (np := 251) (x := 0) (by decide +kernel) (by have z := (iw_c_lt (a := ((h 76 (20 + 7 * u2)))) l6).1; omega) (by have z := x_nc_le (k := 83) (by decide); unfold x_r; omega) ?_
        have q720 : h714 83 u15 = h692 83 u15 := by rw [← e716]; exact x_up_k (by decide)
        have q721 : h692 83 u15 = h683 83 u15 := by rw [← e694]; exact x_up_k (by decide)
        have q722 : h683 83 u15 = h667 83 u15 := jK u15 f685 rg_83_0_1_6 (by first | decide | omega) (by first | decide | omega) (by decide)
        have q723 : h667 83 u15 = h659 83 u15 := by rw [← e669]; exact x_up_k (by decide)
        have q724 : h659 83 u15 = h501 83 u15 := by rw [← e661]; exact x_up_k (by decide)
        have q725 : h501 83 u15 = h492 83 u15 := by rw [← e503]; exact x_up_k (by decide)
        have q726 : h492 83 u15 = h483 83 u15 := by rw [← e494]; exact x_up_k (by decide)
        have q727 : h483 83 u15 = h471 83 u15 := by rw [← e485]; exact x_up_k (by decide)
        have q728 : h471 83 u15 = h460 83 u15 := by rw [← e473]; exact x_up_k (by decide)
        have q729 : h460 83 u15 = h450 83 u15 := by rw [← e462]; exact x_up_k (by decide)
        have q730 : h450 83 u15 = h 83 u15 := by rw [← e452]; exact x_up_k (by decide)
        have z731 := m718 u15 (by first | decide | omega)
        refine x_aldC (np := 252) (x := 0) (n := 6) (i := u15) (q := (h 83 u15)) (by decide +kernel) (by decide +kernel) (by first | decide | omega) (by first | decide | omega) (by decide) ((((((((((q720.trans q721).trans q722).trans q723).trans q724).trans q725).trans q726).trans q727).trans q728).trans q729).trans q730) (fun l732 => ?_)
        refine x_const (np := 253) (x := 9223372043297226753) (a := 2147483649) (by decide +kernel) (by decide) (by decide) ?_
        refine x_iadd (np := 254) (x := 0) (v := (1 + (h 83 u15))) (by decide +kernel) l19 (by decide) (by first | decide | omega) (by first | decide | omega) ?_
        refine x_ast (np := 255) (x := 0) (kd := 1) (n := 6) (i := u15) (by decide +kernel) (Or.inl rfl) (by decide +kernel) (by first | decide | omega) (by first | decide | omega) (by decide) (by first | decide | omega) (fun z => absurd z (by decide)) ?_
        have j734 := jU (e := u15) (v := (1 + (h 83 u15))) u15 j715 rg_83_0_1_6 (by first | decide | omega) (by first | decide | omega) (by first | decide | omega)
        have f736 := jF (e := u15) (v := (1 + (h 83 u15))) u15 f717 rg_83_0_1_6 (by first | decide | omega) (by first | decide | omega) (by decide)
        have m737 := MB.up (e := u15) (v := (1 + (h 83 u15))) (MB.mono m718 (Nat.le_refl _) (Nat.le_succ _)) (by have z := m718 u15 (by first | decide | omega); omega)
        generalize e735 : x_up h714 83 u15 (1 + (h 83 u15)) = h733 at j734 f736 m737 ⊢
        refine x_retV (np := 256) (x := 0) (by decide +kernel) (by decide +kernel) ⟨rfl, ?_⟩
        exact ⟨j734, f736, m737⟩
      have q690 : ¬ (v672 ≠ 2147483648) := q690
      refine x_retV (np := 220) (x := 0) (by decide +kernel) (by decide +kernel) ⟨rfl, ?_⟩
      exact ⟨j684, f688, (MB.mono m687 (Nat.le_refl _) (Nat.le_succ _))⟩
    have q666 : ¬ (((h 76 (21 + 7 * u2))) ≠ ((h 76 (20 + 7 * u2)))) := q666
    refine x_const (np := 207) (x := 9223372043297226753) (a := 2147483649) (by decide +kernel) (by decide) (by decide) ?_
    refine x_goto (np := 210) (x := 211) (by decide +kernel) ?_
    refine x_ast (np := 212) (x := 0) (kd := 1) (n := 8) (i := 7) (by decide +kernel) (Or.inl rfl) (by decide +kernel) (by first | decide | omega) (by first | decide | omega) (by decide) (by decide) (fun z => absurd z (by decide)) ?_
    have j739 := jU (e := 7) (v := 2147483649) 7 j660 rg_81_0_1_8 (by first | decide | omega) (by first | decide | omega) (by first | decide | omega)
    have f741 := jF (e := 7) (v := 2147483649) 7 f662 rg_81_0_1_8 (by first | decide | omega) (by first | decide | omega) (by decide)
    have m742 := MB.oth (q := 81) (e := 7) (v := 2147483649) m663 (by decide)
    generalize e740 : x_up h659 81 7 2147483649 = h738 at j739 f741 m742 ⊢
    refine x_aload (np := 213) (x := 0) (by decide +kernel) rfl (x_nc_le (by decide)) ?_
    have m753 : WT 76 h450 := by rw [← e452]; exact WT.oth hW hJ (by decide)
    have m752 : WT 76 h460 := by rw [← e462]; exact WT.oth m753 j451 (by decide)
    have m751 : WT 76 h471 := by rw [← e473]; exact WT.oth m752 j461 (by decide)
    have m750 : WT 76 h483 := by rw [← e485]; exact WT.oth m751 j472 (by decide)
    have m749 : WT 76 h492 := by rw [← e494]; exact WT.oth m750 j484 (by decide)
    have m748 : WT 76 h501 := by rw [← e503]; exact WT.oth m749 j493 (by decide)
    have m747 : WT 76 h659 := by rw [← e661]; exact WT.oth m748 j502 (by decide)
    have m746 : WT 76 h738 := by rw [← e740]; exact WT.oth m747 j660 (by decide)
    refine x_cI (t := 6) (mj := 199) (n := 1) (rc := 12) (ml := 2) (nr := 0) (np := 216) (as := [x_r 75]) (rest := []) (lo1 := [x_r 75, 147573952589676412928]) (by decide +kernel) (by decide) (by decide +kernel) (x_rb_of (by decide +kernel)) rfl rfl (x_wr (by decide) x_wn) x_wn (by decide) rfl (c199_75 j739  m746) (fun v743 h754 l744 q745 => ?_)
    obtain ⟨j755, f756, b757⟩ := q745
    have m758 := MB.fr m742 f756 (by decide)
    have f759 := Fr.trans f741 f756 (by decide)
    refine x_ifz (k := 1) (tg := 220) (np := 219) (by decide +kernel) (by decide) l744 (fun q760 => ?_) (fun q761 => ?_)
    · have q760 : v743 ≠ 2147483648 := q760
      refine x_aload (np := 221) (x := 0) (by decide +kernel) rfl (x_nc_le (by decide)) ?_
      have q762 : h754 75 21 = 88 := by have z := jB (e := 21) 0 j755 rg_75_21_0_1 (by decide) (by decide); omega
      refine x_getR (np := 224) (x := 725) (f := 21) (q := 88) (by decide +kernel) (by decide) (by decide +kernel) q762 ?_
      refine x_iload (np := 225) (x := 1) (by decide +kernel) rfl la1 ?_
      refine x_iload (np := 227) (x := 5) (by decide +kernel) rfl l12 ?_
      refine x_ast (np := 228) (x := 0) (kd := 1) (n := 20) (i := u2) (by decide +kernel) (Or.inl rfl) (by decide +kernel) (by first | decide | omega) (by first | decide | omega) (by decide) l12 (fun z => absurd z (by decide)) ?_
      have j764 := jU (e := u2) (v := v11) u2 j755 rg_88_0_1_20 (by first | decide | omega) (by first | decide | omega) (by first | decide | omega)
      have f766 := jF (e := u2) (v := v11) u2 f759 rg_88_0_1_20 (by first | decide | omega) (by first | decide | omega) (by decide)
      have m767 := MB.oth (q := 88) (e := u2) (v := v11) m758 (by decide)
      generalize e765 : x_up h754 88 u2 v11 = h763 at j764 f766 m767 ⊢
      refine x_aload (np := 229) (x := 0) (by decide +kernel) rfl (x_nc_le (by decide)) ?_
      have q768 : h763 75 17 = 84 := by have z := jB (e := 17) 0 j764 rg_75_17_0_1 (by decide) (by decide); omega
      refine x_getR (np := 232) (x := 721) (f := 17) (q := 84) (by decide +kernel) (by decide) (by decide +kernel) q768 ?_
      refine x_const (np := 234) (x := 9223372124901605396) (a := 2147483668) (by decide +kernel) (by decide) (by decide) ?_
      refine x_iload (np := 235) (x := 3) (by decide +kernel) rfl l6 ?_
      refine x_imul (np := 236) (x := 0) (i := 20) (j := u15) (v := (2147483648 + 20 * u15)) (by decide +kernel) (by first | decide | omega) (by first | decide | omega) (by first | decide | omega) (by first | decide | omega) (by decide) l6 ?_
      refine x_aload (np := 237) (x := 0) (by decide +kernel) rfl (x_nc_le (by decide)) ?_
      have q770 : h763 75 16 = 83 := by have z := jB (e := 16) 0 j764 rg_75_16_0_1 (by decide) (by decide); omega
      refine x_getR (np := 240) (x := 720) (f := 16) (q := 83) (by decide +kernel) (by decide) (by decide +kernel) q770 ?_
      refine x_iload (np := 241) (x := 3) (by decide +kernel) rfl l6 ?_
      have q771 : h763 83 u15 = h754 83 u15 := by rw [← e765]; exact x_up_k (by decide)
      have q772 : h754 83 u15 = h738 83 u15 := jK u15 f756 rg_83_0_1_6 (by first | decide | omega) (by first | decide | omega) (by decide)
      have q773 : h738 83 u15 = h659 83 u15 := by rw [← e740]; exact x_up_k (by decide)
      have q774 : h659 83 u15 = h501 83 u15 := by rw [← e661]; exact x_up_k (by decide)
      have q775 : h501 83 u15 = h492 83 u15 := by rw [← e503]; exact x_up_k (by decide)
      have q776 : h492 83 u15 = h483 83 u15 := by rw [← e494]; exact x_up_k (by decide)
      have q777 : h483 83 u15 = h471 83 u15 := by rw [← e485]; exact x_up_k (by decide)
      have q778 : h471 83 u15 = h460 83 u15 := by rw [← e473]; exact x_up_k (by decide)
      have q779 : h460 83 u15 = h450 83 u15 := by rw [← e462]; exact x_up_k (by decide)
      have q780 : h450 83 u15 = h 83 u15 := by rw [← e452]; exact x_up_k (by decide)
      have z781 := m767 u15 (by first | decide | omega)
      refine x_aldC (np := 242) (x := 0) (n := 6) (i := u15) (q := (h 83 u15)) (by decide +kernel) (by decide +kernel) (by first | decide | omega) (by first | decide | omega) (by decide) (((((((((q771.trans q772).trans q773).trans q774).trans q775).trans q776).trans q777).trans q778).trans q779).trans q780) (fun l782 => ?_)
      refine x_iadd (np := 243) (x := 0) (v := (20 * u15 + (h 83 u15))) (by decide +kernel) (by first | decide | omega) l19 (by first | decide | omega) (by first | decide | omega) ?_
      refine x_iload (np := 244) (x := 1) (by decide +kernel) rfl la1 ?_
      obtain ⟨u783, q784⟩ : ∃ z, (h 83 u15) = 2147483648 + z := ⟨(h 83 u15) - 2147483648, by first | decide | omega⟩
      refine x_ast (np := 245) (x := 0) (kd := 1) (n := 120) (i := (20 * u15 + u783)) (by decide +kernel) (Or.inl rfl) (by decide +kernel) (by first | decide | omega) (by first | decide | omega) (by decide) la1 (fun z => absurd z (by decide)) ?_
      have j786 := jU (e := (20 * u15 + u783)) (v := a1) (20 * u15 + u783) j764 rg_84_0_1_120 (by first | decide | omega) (by first | decide | omega) (by first | decide | omega)
      have f788 := jF (e := (20 * u15 + u783)) (v := a1) (20 * u15 + u783) f766 rg_84_0_1_120 (by first | decide | omega) (by first | decide | omega) (by decide)
      have m789 := MB.oth (q := 84) (e := (20 * u15 + u783)) (v := a1) m767 (by decide)
      generalize e787 : x_up h763 84 (20 * u15 + u783) a1 = h785 at j786 f788 m789 ⊢
      refine x_aload (np := 246) (x := 0) (by decide +kernel) rfl (x_nc_le (by decide)) ?_
      have q790 : h785 75 16 = 83 := by have z := jB (e := 16) 0 j786 rg_75_16_0_1 (by decide) (by decide); omega
      refine x_getR (np := 249) (x := 720) (f := 16) (q := 83) (by decide +kernel) (by decide) (by decide +kernel) q790 ?_
      refine x_iload (np := 250) (x := 3) (by decide +kernel) rfl l6 ?_
      refine x_dup2 (np := 251) (x := 0) (by decide +kernel) (by have z := (iw_c_lt (a := ((h 76 (20 + 7 * u2)))) l6).1; omega) (by have z := x_nc_le (k := 83) (by decide); unfold x_r; omega) ?_
      have q791 : h785 83 u15 = h763 83 u15 := by rw [← e787]; exact x_up_k (by decide)
      have q792 : h763 83 u15 = h754 83 u15 := by rw [← e765]; exact x_up_k (by decide)
      have q793 : h754 83 u15 = h738 83 u15 := jK u15 f756 rg_83_0_1_6 (by first | decide | omega) (by first | decide | omega) (by decide)
      have q794 : h738 83 u15 = h659 83 u15 := by rw [← e740]; exact x_up_k (by decide)
      have q795 : h659 83 u15 = h501 83 u15 := by rw [← e661]; exact x_up_k (by decide)
      have q796 : h501 83 u15 = h492 83 u15 := by rw [← e503]; exact x_up_k (by decide)
      have q797 : h492 83 u15 = h483 83 u15 := by rw [← e494]; exact x_up_k (by decide)
      have q798 : h483 83 u15 = h471 83 u15 := by rw [← e485]; exact x_up_k (by decide)
      have q799 : h471 83 u15 = h460 83 u15 := by rw [← e473]; exact x_up_k (by decide)
      have q800 : h460 83 u15 = h450 83 u15 := by rw [← e462]; exact x_up_k (by decide)
      have q801 : h450 83 u15 = h 83 u15 := by rw [← e452]; exact x_up_k (by decide)
      have z802 := m789 u15 (by first | decide | omega)
      refine x_aldC (np := 252) (x := 0) (n := 6) (i := u15) (q := (h 83 u15)) (by decide +kernel) (by decide +kernel) (by first | decide | omega) (by first | decide | omega) (by decide) ((((((((((q791.trans q792).trans q793).trans q794).trans q795).trans q796).trans q797).trans q798).trans q799).trans q800).trans q801) (fun l803 => ?_)
      refine x_const (np := 253) (x := 9223372043297226753) (a := 2147483649) (by decide +kernel) (by decide) (by decide) ?_
      refine x_iadd (np := 254) (x := 0) (v := (1 + (h 83 u15))) (by decide +kernel) l19 (by decide) (by first | decide | omega) (by first | decide | omega) ?_
      refine x_ast (np := 255) (x := 0) (kd := 1) (n := 6) (i := u15) (by decide +kernel) (Or.inl rfl) (by decide +kernel) (by first | decide | omega) (by first | decide | omega) (by decide) (by first | decide | omega) (fun z => absurd z (by decide)) ?_
      have j805 := jU (e := u15) (v := (1 + (h 83 u15))) u15 j786 rg_83_0_1_6 (by first | decide | omega) (by first | decide | omega) (by first | decide | omega)
      have f807 := jF (e := u15) (v := (1 + (h 83 u15))) u15 f788 rg_83_0_1_6 (by first | decide | omega) (by first | decide | omega) (by decide)
      have m808 := MB.up (e := u15) (v := (1 + (h 83 u15))) (MB.mono m789 (Nat.le_refl _) (Nat.le_succ _)) (by have z := m789 u15 (by first | decide | omega); omega)
      generalize e806 : x_up h785 83 u15 (1 + (h 83 u15)) = h804 at j805 f807 m808 ⊢
      refine x_retV (np := 256) (x := 0) (by decide +kernel) (by decide +kernel) ⟨rfl, ?_⟩
      exact ⟨j805, f807, m808⟩
    have q761 : ¬ (v743 ≠ 2147483648) := q761
    refine x_retV (np := 220) (x := 0) (by decide +kernel) (by decide +kernel) ⟨rfl, ?_⟩
    exact ⟨j755, f759, (MB.mono m758 (Nat.le_refl _) (Nat.le_succ _))⟩
  have q448 : ¬ (v444 ≠ 2147483648) := q448
  refine x_retV (np := 107) (x := 0) (by decide +kernel) (by decide +kernel) ⟨rfl, ?_⟩
  exact ⟨hJ, hF, (MB.mono hM (Nat.le_refl _) (Nat.le_succ _))⟩
set_option maxHeartbeats 0 in
/-- LentNamesModel.goesOn()V -/
theorem c210_75 {sc : Nat × Nat} {d  : Nat} {h : xh} (hJ : J h) (hW : WT 76 h) : X sc 210 (d + 4) (xV fun h' => J h' ∧ Fr 135291469825 h h') 0 0 0 [x_r 75, 147573952589676412928, 147573952589676412928, 147573952589676412928, 147573952589676412928] [] h := by
  have hF := Fr.refl 135291469825 h
  refine x_const (np := 1) (x := 9223372039002259456) (a := 2147483648) (by decide +kernel) (by decide) (by decide) ?_
  refine x_istore (np := 2) (x := 1) (lo' := [x_r 75, iv_c 2147483648, 147573952589676412928, 147573952589676412928, 147573952589676412928]) (by decide +kernel) (by decide) (Nat.le_of_ble_eq_true rfl) rfl ?_
  have p105 : ∀ (n : Nat) (v100 : Nat) (h102 : xh), 4294967296 - v100 < n → (2147483648 ≤ v100 ∧ v100 ≤ 2147483654) → J h102 → Fr 8589934592 h h102 → MB (v100 - 2147483648) 0 h102 → X sc 210 (d + 4) (xV fun h' => J h' ∧ Fr 135291469825 h h') 0 0 2 [x_r 75, iv_c v100, 147573952589676412928, 147573952589676412928, 147573952589676412928] [] h102 := by
    intro n
    induction n with
    | zero => intro v100 h102 q107; exact absurd q107 (Nat.not_lt_zero _)
    | succ n i108 =>
      intro v100 h102 q107 b101 j104 f103 m106
      have f109 := Fr.trans hF f103 (by decide)
      obtain ⟨u110, q111⟩ : ∃ z, v100 = 2147483648 + z := ⟨v100 - 2147483648, by first | decide | omega⟩
      have m112 : MB u110 0 h102 := by
        have e : v100 - 2147483648 = u110 := by first | decide | omega
        rw [← e]
        exact m106
      refine x_iload (np := 3) (x := 1) (by decide +kernel) rfl (by first | decide | omega) ?_
      refine x_const (np := 5) (x := 9223372064772063238) (a := 2147483654) (by decide +kernel) (by decide) (by decide) ?_
      refine x_icmp (k := 3) (tg := 21) (np := 8) (by decide +kernel) (by decide) (by first | decide | omega) (by decide) (fun q113 => ?_) (fun q114 => ?_)
      · have q113 : 2147483654 ≤ v100 := q113
        refine x_const (np := 22) (x := 9223372039002259456) (a := 2147483648) (by decide +kernel) (by decide) (by decide) ?_
        refine x_istore (np := 23) (x := 1) (lo' := [x_r 75, iv_c 2147483648, 147573952589676412928, 147573952589676412928, 147573952589676412928]) (by decide +kernel) (by decide) (Nat.le_of_ble_eq_true rfl) rfl ?_
        have p567 : ∀ (n : Nat) (v562 : Nat) (h564 : xh), 4294967296 - v562 < n → (2147483648 ≤ v562 ∧ v562 ≤ 2147483668) → J h564 → Fr 34359738368 h102 h564 → MB 6 0 h564 → X sc 210 (d + 4) (xV fun h' => J h' ∧ Fr 135291469825 h h') 0 0 23 [x_r 75, iv_c v562, 147573952589676412928, 147573952589676412928, 147573952589676412928] [] h564 := by
          intro n
          induction n with
          | zero => intro v562 h564 q569; exact absurd q569 (Nat.not_lt_zero _)
          | succ n i570 =>
            intro v562 h564 q569 b563 j566 f565 m568
            have f571 := Fr.trans f109 f565 (by decide)
            refine x_iload (np := 24) (x := 1) (by decide +kernel) rfl (by first | decide | omega) ?_
            refine x_const (np := 26) (x := 9223372124901605396) (a := 2147483668) (by decide +kernel) (by decide) (by decide) ?_
            refine x_icmp (k := 3) (tg := 56) (np := 29) (by decide +kernel) (by decide) (by first | decide | omega) (by decide) (fun q572 => ?_) (fun q573 => ?_)
            · have q572 : 2147483668 ≤ v562 := q572
              refine x_const (np := 57) (x := 9223372039002259456) (a := 2147483648) (by decide +kernel) (by decide) (by decide) ?_
              refine x_istore (np := 58) (x := 1) (lo' := [x_r 75, iv_c 2147483648, 147573952589676412928, 147573952589676412928, 147573952589676412928]) (by decide +kernel) (by decide) (Nat.le_of_ble_eq_true rfl) rfl ?_
              have p265846 : ∀ (n : Nat) (v265838 : Nat) (w265840 : Nat) (w265841 : Nat) (w265842 : Nat) (h265843 : xh), 4294967296 - v265838 < n → (2147483648 ≤ v265838 ∧ v265838 ≤ 2147483660) → J h265843 → Fr 135291469825 h564 h265843 → MB 6 (cn (fun l => h 76 (22 + 7 * l)) v265838 0 20) h265843 → X sc 210 (d + 4) (xV fun h' => J h' ∧ Fr 135291469825 h h') 0 0 58 [x_r 75, iv_c v265838, w265840, w265841, w265842] [] h265843 := by
                intro n
                induction n with
                | zero => intro v265838 w265840 w265841 w265842 h265843 q265848; exact absurd q265848 (Nat.not_lt_zero _)
                | succ n i265849 =>
                  intro v265838 w265840 w265841 w265842 h265843 q265848 b265839 j265845 f265844 m265847
                  have f265850 := Fr.trans f571 f265844 (by decide)
                  refine x_iload (np := 59) (x := 1) (by decide +kernel) rfl (by first | decide | omega) ?_
                  refine x_const (np := 61) (x := 9223372090541867020) (a := 2147483660) (by decide +kernel) (by decide) (by decide) ?_
                  refine x_icmp (k := 3) (tg := 355) (np := 64) (by decide +kernel) (by decide) (by first | decide | omega) (by decide) (fun q265851 => ?_) (fun q265852 => ?_)
                  · have q265851 : 2147483660 ≤ v265838 := q265851
                    refine x_retV (np := 356) (x := 0) (by decide +kernel) (by decide +kernel) ⟨rfl, ?_⟩
                    exact ⟨j265845, f265850⟩
                  have q265852 : ¬ (2147483660 ≤ v265838) := q265852
                  refine x_const (np := 65) (x := 9223372039002259456) (a := 2147483648) (by decide +kernel) (by decide) (by decide) ?_
                  refine x_istore (np := 66) (x := 2) (lo' := [x_r 75, iv_c v265838, iv_c 2147483648, w265841, w265842]) (by decide +kernel) (by decide) (Nat.le_of_ble_eq_true rfl) rfl ?_
                  have p266004 : ∀ (n : Nat) (v265999 : Nat) (h266001 : xh), 4294967296 - v265999 < n → (2147483648 ≤ v265999 ∧ v265999 ≤ 2147483654) → J h266001 → Fr 42949672961 h265843 h266001 → MB 6 (cn (fun l => h 76 (22 + 7 * l)) v265838 0 20) h266001 → X sc 210 (d + 4) (xV fun h' => J h' ∧ Fr 135291469825 h h') 0 0 66 [x_r 75, iv_c v265838, iv_c v265999, w265841, w265842] [] h266001 := by
                    intro n
                    induction n with
                    | zero => intro v265999 h266001 q266006; exact absurd q266006 (Nat.not_lt_zero _)
                    | succ n i266007 =>
                      intro v265999 h266001 q266006 b266000 j266003 f266002 m266005
                      have f266008 := Fr.trans f265850 f266002 (by decide)
                      have f266009 := Fr.trans f265844 f266002 (by decide)
                      refine x_iload (np := 67) (x := 2) (by decide +kernel) rfl (by first | decide | omega) ?_
                      refine x_aload (np := 68) (x := 0) (by decide +kernel) rfl (x_nc_le (by decide)) ?_
                      refine x_nI (t := 6) (mj := 157) (n := 1) (rc := 12) (ml := 1) (nr := 1) (np := 71) (as := [x_r 75]) (rest := [iv_c v265999]) (lo1 := [x_r 75]) (by decide +kernel) (by decide) (by decide +kernel) (x_rb_of (by decide +kernel)) rfl rfl (x_wr (by decide) x_wn) (x_wi (by first | decide | omega) x_wn) (by decide) rfl ?_
                      refine x_aload (np := 1) (x := 0) (by decide +kernel) rfl (x_nc_le (by decide)) ?_
                      have q266010 : h266001 75 1 = 76 := by have z := jB (e := 1) 0 j266003 rg_75_1_0_1 (by decide) (by decide); omega
                      refine x_getR (np := 4) (x := 705) (f := 1) (q := 76) (by decide +kernel) (by decide) (by decide +kernel) q266010 ?_
                      refine x_const (np := 5) (x := 9223372039002259456) (a := 2147483648) (by decide +kernel) (by decide) (by decide) ?_
                      have q266011 : h266001 76 0 = h265843 76 0 := jK 0 f266002 rg_76_0_0_1 (by first | decide | omega) (by first | decide | omega) (by decide)
                      have q266012 : h265843 76 0 = h564 76 0 := jK 0 f265844 rg_76_0_0_1 (by first | decide | omega) (by first | decide | omega) (by decide)
                      have q266013 : h564 76 0 = h102 76 0 := jK 0 f565 rg_76_0_0_1 (by first | decide | omega) (by first | decide | omega) (by decide)
                      have q266014 : h102 76 0 = h 76 0 := jK 0 f103 rg_76_0_0_1 (by first | decide | omega) (by first | decide | omega) (by decide)
                      have b266015 := jB (e := 0) 0 hJ rg_76_0_0_1 (by first | decide | omega) (by first | decide | omega)
                      refine x_aldC (np := 6) (x := 0) (n := 1952) (i := 0) (q := (h 76 0)) (by decide +kernel) (by decide +kernel) (by first | decide | omega) (by first | decide | omega) (by decide) (((q266011.trans q266012).trans q266013).trans q266014) (fun l266016 => ?_)
                      refine x_retI (np := 7) (x := 0) (by decide +kernel) l266016 (Or.inl (by decide +kernel)) ⟨_, rfl, l266016, ?_⟩
                      refine x_icmp (k := 3) (tg := 86) (np := 74) (by decide +kernel) (by decide) (by first | decide | omega) l266016 (fun q266017 => ?_) (fun q266018 => ?_)
                      · have q266017 : (h 76 0) ≤ v265999 := q266017
                        refine x_const (np := 87) (x := 9223372039002259456) (a := 2147483648) (by decide +kernel) (by decide) (by decide) ?_
                        refine x_istore (np := 88) (x := 2) (lo' := [x_r 75, iv_c v265838, iv_c 2147483648, w265841, w265842]) (by decide +kernel) (by decide) (Nat.le_of_ble_eq_true rfl) rfl ?_
                        have p266247 : ∀ (n : Nat) (v266242 : Nat) (h266244 : xh), 4294967296 - v266242 < n → (2147483648 ≤ v266242 ∧ v266242 ≤ 2147483654) → J h266244 → Fr 42949672961 h266001 h266244 → MB 6 (cn (fun l => h 76 (22 + 7 * l)) v265838 0 20) h266244 → X sc 210 (d + 4) (xV fun h' => J h' ∧ Fr 135291469825 h h') 0 0 88 [x_r 75, iv_c v265838, iv_c v266242, w265841, w265842] [] h266244 := by
                          intro n
                          induction n with
                          | zero => intro v266242 h266244 q266249; exact absurd q266249 (Nat.not_lt_zero _)
                          | succ n i266250 =>
                            intro v266242 h266244 q266249 b266243 j266246 f266245 m266248
                            have f266251 := Fr.trans f266008 f266245 (by decide)
                            have f266252 := Fr.trans f266009 f266245 (by decide)
                            refine x_iload (np := 89) (x := 2) (by decide +kernel) rfl (by first | decide | omega) ?_
                            refine x_aload (np := 90) (x := 0) (by decide +kernel) rfl (x_nc_le (by decide)) ?_
                            refine x_nI (t := 6) (mj := 157) (n := 1) (rc := 12) (ml := 1) (nr := 1) (np := 93) (as := [x_r 75]) (rest := [iv_c v266242]) (lo1 := [x_r 75]) (by decide +kernel) (by decide) (by decide +kernel) (x_rb_of (by decide +kernel)) rfl rfl (x_wr (by decide) x_wn) (x_wi (by first | decide | omega) x_wn) (by decide) rfl ?_
                            refine x_aload (np := 1) (x := 0) (by decide +kernel) rfl (x_nc_le (by decide)) ?_
                            have q266253 : h266244 75 1 = 76 := by have z := jB (e := 1) 0 j266246 rg_75_1_0_1 (by decide) (by decide); omega
                            refine x_getR (np := 4) (x := 705) (f := 1) (q := 76) (by decide +kernel) (by decide) (by decide +kernel) q266253 ?_
                            refine x_const (np := 5) (x := 9223372039002259456) (a := 2147483648) (by decide +kernel) (by decide) (by decide) ?_
                            have q266254 : h266244 76 0 = h266001 76 0 := jK 0 f266245 rg_76_0_0_1 (by first | decide | omega) (by first | decide | omega) (by decide)
                            have q266255 : h266001 76 0 = h265843 76 0 := jK 0 f266002 rg_76_0_0_1 (by first | decide | omega) (by first | decide | omega) (by decide)
                            have q266256 : h265843 76 0 = h564 76 0 := jK 0 f265844 rg_76_0_0_1 (by first | decide | omega) (by first | decide | omega) (by decide)
                            have q266257 : h564 76 0 = h102 76 0 := jK 0 f565 rg_76_0_0_1 (by first | decide | omega) (by first | decide | omega) (by decide)
                            have q266258 : h102 76 0 = h 76 0 := jK 0 f103 rg_76_0_0_1 (by first | decide | omega) (by first | decide | omega) (by decide)
                            refine x_aldC (np := 6) (x := 0) (n := 1952) (i := 0) (q := (h 76 0)) (by decide +kernel) (by decide +kernel) (by first | decide | omega) (by first | decide | omega) (by decide) ((((q266254.trans q266255).trans q266256).trans q266257).trans q266258) (fun l266259 => ?_)
                            refine x_retI (np := 7) (x := 0) (by decide +kernel) l266016 (Or.inl (by decide +kernel)) ⟨_, rfl, l266016, ?_⟩
                            refine x_icmp (k := 3) (tg := 123) (np := 96) (by decide +kernel) (by decide) (by first | decide | omega) l266016 (fun q266260 => ?_) (fun q266261 => ?_)
                            · have q266260 : (h 76 0) ≤ v266242 := q266260
                              refine x_const (np := 124) (x := 9223372039002259456) (a := 2147483648) (by decide +kernel) (by decide) (by decide) ?_
                              refine x_istore (np := 125) (x := 2) (lo' := [x_r 75, iv_c v265838, iv_c 2147483648, w265841, w265842]) (by decide +kernel) (by decide) (Nat.le_of_ble_eq_true rfl) rfl ?_
                              have p272277 : ∀ (n : Nat) (v272270 : Nat) (w272272 : Nat) (w272273 : Nat) (h272274 : xh), 4294967296 - v272270 < n → (2147483648 ≤ v272270 ∧ v272270 ≤ 2147483654) → J h272274 → Fr 34359738368 h266244 h272274 → MB 6 (cn (fun l => h 76 (22 + 7 * l)) v265838 0 20) h272274 → X sc 210 (d + 4) (xV fun h' => J h' ∧ Fr 135291469825 h h') 0 0 125 [x_r 75, iv_c v265838, iv_c v272270, w272272, w272273] [] h272274 := by
                                intro n
                                induction n with
                                | zero => intro v272270 w272272 w272273 h272274 q272279; exact absurd q272279 (Nat.not_lt_zero _)
                                | succ n i272280 =>
                                  intro v272270 w272272 w272273 h272274 q272279 b272271 j272276 f272275 m272278
                                  have f272281 := Fr.trans f266251 f272275 (by decide)
                                  have f272282 := Fr.trans f266252 f272275 (by decide)
                                  refine x_iload (np := 126) (x := 2) (by decide +kernel) rfl (by first | decide | omega) ?_
                                  refine x_aload (np := 127) (x := 0) (by decide +kernel) rfl (x_nc_le (by decide)) ?_
                                  refine x_nI (t := 6) (mj := 157) (n := 1) (rc := 12) (ml := 1) (nr := 1) (np := 130) (as := [x_r 75]) (rest := [iv_c v272270]) (lo1 := [x_r 75]) (by decide +kernel) (by decide) (by decide +kernel) (x_rb_of (by decide +kernel)) rfl rfl (x_wr (by decide) x_wn) (x_wi (by first | decide | omega) x_wn) (by decide) rfl ?_
                                  refine x_aload (np := 1) (x := 0) (by decide +kernel) rfl (x_nc_le (by decide)) ?_
                                  have q272283 : h272274 75 1 = 76 := by have z := jB (e := 1) 0 j272276 rg_75_1_0_1 (by decide) (by decide); omega
                                  refine x_getR (np := 4) (x := 705) (f := 1) (q := 76) (by decide +kernel) (by decide) (by decide +kernel) q272283 ?_
                                  refine x_const (np := 5) (x := 9223372039002259456) (a := 2147483648) (by decide +kernel) (by decide) (by decide) ?_
                                  have q272284 : h272274 76 0 = h266244 76 0 := jK 0 f272275 rg_76_0_0_1 (by first | decide | omega) (by first | decide | omega) (by decide)
                                  have q272285 : h266244 76 0 = h266001 76 0 := jK 0 f266245 rg_76_0_0_1 (by first | decide | omega) (by first | decide | omega) (by decide)
                                  have q272286 : h266001 76 0 = h265843 76 0 := jK 0 f266002 rg_76_0_0_1 (by first | decide | omega) (by first | decide | omega) (by decide)
                                  have q272287 : h265843 76 0 = h564 76 0 := jK 0 f265844 rg_76_0_0_1 (by first | decide | omega) (by first | decide | omega) (by decide)
                                  have q272288 : h564 76 0 = h102 76 0 := jK 0 f565 rg_76_0_0_1 (by first | decide | omega) (by first | decide | omega) (by decide)
                                  have q272289 : h102 76 0 = h 76 0 := jK 0 f103 rg_76_0_0_1 (by first | decide | omega) (by first | decide | omega) (by decide)
                                  refine x_aldC (np := 6) (x := 0) (n := 1952) (i := 0) (q := (h 76 0)) (by decide +kernel) (by decide +kernel) (by first | decide | omega) (by first | decide | omega) (by decide) (((((q272284.trans q272285).trans q272286).trans q272287).trans q272288).trans q272289) (fun l272290 => ?_)
                                  refine x_retI (np := 7) (x := 0) (by decide +kernel) l266016 (Or.inl (by decide +kernel)) ⟨_, rfl, l266016, ?_⟩
                                  refine x_icmp (k := 3) (tg := 201) (np := 133) (by decide +kernel) (by decide) (by first | decide | omega) l266016 (fun q272291 => ?_) (fun q272292 => ?_)
                                  · have q272291 : (h 76 0) ≤ v272270 := q272291
                                    refine x_const (np := 202) (x := 9223372039002259456) (a := 2147483648) (by decide +kernel) (by decide) (by decide) ?_
                                    refine x_istore (np := 203) (x := 2) (lo' := [x_r 75, iv_c v265838, iv_c 2147483648, w272272, w272273]) (by decide +kernel) (by decide) (Nat.le_of_ble_eq_true rfl) rfl ?_
                                    have p273042 : ∀ (n : Nat) (v273037 : Nat) (h273039 : xh), 4294967296 - v273037 < n → (2147483648 ≤ v273037 ∧ v273037 ≤ 2147483668) → J h273039 → Fr 66571993089 h272274 h273039 → MB 6 (cn (fun l => h 76 (22 + 7 * l)) v265838 (v273037 - 2147483648) 20) h273039 → X sc 210 (d + 4) (xV fun h' => J h' ∧ Fr 135291469825 h h') 0 0 203 [x_r 75, iv_c v265838, iv_c v273037, w272272, w272273] [] h273039 := by
                                      intro n
                                      induction n with
                                      | zero => intro v273037 h273039 q273044; exact absurd q273044 (Nat.not_lt_zero _)
                                      | succ n i273045 =>
                                        intro v273037 h273039 q273044 b273038 j273041 f273040 m273043
                                        have f273046 := Fr.trans f272281 f273040 (by decide)
                                        have f273047 := Fr.trans f272282 f273040 (by decide)
                                        refine x_iload (np := 204) (x := 2) (by decide +kernel) rfl (by first | decide | omega) ?_
                                        refine x_aload (np := 205) (x := 0) (by decide +kernel) rfl (x_nc_le (by decide)) ?_
                                        have q273048 : h273039 75 1 = 76 := by have z := jB (e := 1) 0 j273041 rg_75_1_0_1 (by decide) (by decide); omega
                                        refine x_getR (np := 208) (x := 705) (f := 1) (q := 76) (by decide +kernel) (by decide) (by decide +kernel) q273048 ?_
                                        refine x_const (np := 209) (x := 9223372047592194050) (a := 2147483650) (by decide +kernel) (by decide) (by decide) ?_
                                        have q273049 : h273039 76 2 = h272274 76 2 := jK 0 f273040 rg_76_2_0_1 (by first | decide | omega) (by first | decide | omega) (by decide)
                                        have q273050 : h272274 76 2 = h266244 76 2 := jK 0 f272275 rg_76_2_0_1 (by first | decide | omega) (by first | decide | omega) (by decide)
                                        have q273051 : h266244 76 2 = h266001 76 2 := jK 0 f266245 rg_76_2_0_1 (by first | decide | omega) (by first | decide | omega) (by decide)
                                        have q273052 : h266001 76 2 = h265843 76 2 := jK 0 f266002 rg_76_2_0_1 (by first | decide | omega) (by first | decide | omega) (by decide)
                                        have q273053 : h265843 76 2 = h564 76 2 := jK 0 f265844 rg_76_2_0_1 (by first | decide | omega) (by first | decide | omega) (by decide)
                                        have q273054 : h564 76 2 = h102 76 2 := jK 0 f565 rg_76_2_0_1 (by first | decide | omega) (by first | decide | omega) (by decide)
                                        have q273055 : h102 76 2 = h 76 2 := jK 0 f103 rg_76_2_0_1 (by first | decide | omega) (by first | decide | omega) (by decide)
                                        have b273056 := jB (e := 2) 0 hJ rg_76_2_0_1 (by first | decide | omega) (by first | decide | omega)
                                        refine x_aldC (np := 210) (x := 0) (n := 1952) (i := 2) (q := (h 76 2)) (by decide +kernel) (by decide +kernel) (by first | decide | omega) (by first | decide | omega) (by decide) ((((((q273049.trans q273050).trans q273051).trans q273052).trans q273053).trans q273054).trans q273055) (fun l273057 => ?_)
                                        refine x_icmp (k := 3) (tg := 235) (np := 213) (by decide +kernel) (by decide) (by first | decide | omega) l273057 (fun q273058 => ?_) (fun q273059 => ?_)
                                        · have q273058 : (h 76 2) ≤ v273037 := q273058
                                          refine x_const (np := 236) (x := 9223372039002259456) (a := 2147483648) (by decide +kernel) (by decide) (by decide) ?_
                                          refine x_istore (np := 237) (x := 2) (lo' := [x_r 75, iv_c v265838, iv_c 2147483648, w272272, w272273]) (by decide +kernel) (by decide) (Nat.le_of_ble_eq_true rfl) rfl ?_
                                          have p276486 : ∀ (n : Nat) (v276479 : Nat) (w276481 : Nat) (w276482 : Nat) (h276483 : xh), 4294967296 - v276479 < n → (2147483648 ≤ v276479 ∧ v276479 ≤ 2147483654) → J h276483 → Fr 103079215104 h273039 h276483 → MB 6 (cn (fun l => h 76 (22 + 7 * l)) (1 + v265838) 0 20) h276483 → X sc 210 (d + 4) (xV fun h' => J h' ∧ Fr 135291469825 h h') 0 0 237 [x_r 75, iv_c v265838, iv_c v276479, w276481, w276482] [] h276483 := by
                                            intro n
                                            induction n with
                                            | zero => intro v276479 w276481 w276482 h276483 q276488; exact absurd q276488 (Nat.not_lt_zero _)
                                            | succ n i276489 =>
                                              intro v276479 w276481 w276482 h276483 q276488 b276480 j276485 f276484 m276487
                                              have f276490 := Fr.trans f273046 f276484 (by decide)
                                              have f276491 := Fr.trans f273047 f276484 (by decide)
                                              refine x_iload (np := 238) (x := 2) (by decide +kernel) rfl (by first | decide | omega) ?_
                                              refine x_aload (np := 239) (x := 0) (by decide +kernel) rfl (x_nc_le (by decide)) ?_
                                              refine x_nI (t := 6) (mj := 157) (n := 1) (rc := 12) (ml := 1) (nr := 1) (np := 242) (as := [x_r 75]) (rest := [iv_c v276479]) (lo1 := [x_r 75]) (by decide +kernel) (by decide) (by decide +kernel) (x_rb_of (by decide +kernel)) rfl rfl (x_wr (by decide) x_wn) (x_wi (by first | decide | omega) x_wn) (by decide) rfl ?_
                                              refine x_aload (np := 1) (x := 0) (by decide +kernel) rfl (x_nc_le (by decide)) ?_
                                              have q276492 : h276483 75 1 = 76 := by have z := jB (e := 1) 0 j276485 rg_75_1_0_1 (by decide) (by decide); omega
                                              refine x_getR (np := 4) (x := 705) (f := 1) (q := 76) (by decide +kernel) (by decide) (by decide +kernel) q276492 ?_
                                              refine x_const (np := 5) (x := 9223372039002259456) (a := 2147483648) (by decide +kernel) (by decide) (by decide) ?_
                                              have q276493 : h276483 76 0 = h273039 76 0 := jK 0 f276484 rg_76_0_0_1 (by first | decide | omega) (by first | decide | omega) (by decide)
                                              have q276494 : h273039 76 0 = h272274 76 0 := jK 0 f273040 rg_76_0_0_1 (by first | decide | omega) (by first | decide | omega) (by decide)
                                              have q276495 : h272274 76 0 = h266244 76 0 := jK 0 f272275 rg_76_0_0_1 (by first | decide | omega) (by first | decide | omega) (by decide)
                                              have q276496 : h266244 76 0 = h266001 76 0 := jK 0 f266245 rg_76_0_0_1 (by first | decide | omega) (by first | decide | omega) (by decide)
                                              have q276497 : h266001 76 0 = h265843 76 0 := jK 0 f266002 rg_76_0_0_1 (by first | decide | omega) (by first | decide | omega) (by decide)
                                              have q276498 : h265843 76 0 = h564 76 0 := jK 0 f265844 rg_76_0_0_1 (by first | decide | omega) (by first | decide | omega) (by decide)
                                              have q276499 : h564 76 0 = h102 76 0 := jK 0 f565 rg_76_0_0_1 (by first | decide | omega) (by first | decide | omega) (by decide)
                                              have q276500 : h102 76 0 = h 76 0 := jK 0 f103 rg_76_0_0_1 (by first | decide | omega) (by first | decide | omega) (by decide)
                                              refine x_aldC (np := 6) (x := 0) (n := 1952) (i := 0) (q := (h 76 0)) (by decide +kernel) (by decide +kernel) (by first | decide | omega) (by first | decide | omega) (by decide) (((((((q276493.trans q276494).trans q276495).trans q276496).trans q276497).trans q276498).trans q276499).trans q276500) (fun l276501 => ?_)
                                              refine x_retI (np := 7) (x := 0) (by decide +kernel) l266016 (Or.inl (by decide +kernel)) ⟨_, rfl, l266016, ?_⟩
                                              refine x_icmp (k := 3) (tg := 349) (np := 245) (by decide +kernel) (by decide) (by first | decide | omega) l266016 (fun q276502 => ?_) (fun q276503 => ?_)
                                              · have q276502 : (h 76 0) ≤ v276479 := q276502
                                                refine x_iinc (np := 352) (i := 1) (j := 2147483649) (v := (1 + v265838)) (lo' := [x_r 75, iv_c (1 + v265838), iv_c v276479, w276481, w276482]) (by decide +kernel) (by decide) (by decide) rfl (by first | decide | omega) (by first | decide | omega) (by first | decide | omega) rfl ?_
                                                refine x_goto (np := 355) (x := 58) (by decide +kernel) ?_
                                                exact i265849 (1 + v265838) (iv_c v276479) w276481 w276482 h276483 (by first | decide | omega) (by first | decide | omega) j276485 f276491 m276487
                                              have q276503 : ¬ ((h 76 0) ≤ v276479) := q276503
                                              refine x_const (np := 247) (x := 9223372090541867020) (a := 2147483660) (by decide +kernel) (by decide) (by decide) ?_
                                              refine x_iload (np := 248) (x := 2) (by decide +kernel) rfl (by first | decide | omega) ?_
                                              obtain ⟨u276504, q276505⟩ : ∃ z, v276479 = 2147483648 + z := ⟨v276479 - 2147483648, by first | decide | omega⟩
                                              refine x_imul (np := 249) (x := 0) (i := 12) (j := u276504) (v := (2147483648 + 12 * u276504)) (by decide +kernel) (by first | decide | omega) (by first | decide | omega) (by first | decide | omega) (by first | decide | omega) (by decide) (by first | decide | omega) ?_
                                              refine x_iload (np := 250) (x := 1) (by decide +kernel) rfl (by first | decide | omega) ?_
                                              refine x_iadd (np := 251) (x := 0) (v := (12 * u276504 + v265838)) (by decide +kernel) (by first | decide | omega) (by first | decide | omega) (by first | decide | omega) (by first | decide | omega) ?_
                                              refine x_istore (np := 252) (x := 3) (lo' := [x_r 75, iv_c v265838, iv_c v276479, iv_c (12 * u276504 + v265838), w276482]) (by decide +kernel) (by first | decide | omega) (Nat.le_of_ble_eq_true rfl) rfl ?_
                                              refine x_aload (np := 253) (x := 0) (by decide +kernel) rfl (x_nc_le (by decide)) ?_
                                              have q276507 : h276483 75 18 = 85 := by have z := jB (e := 18) 0 j276485 rg_75_18_0_1 (by decide) (by decide); omega
                                              refine x_getR (np := 256) (x := 722) (f := 18) (q := 85) (by decide +kernel) (by decide) (by decide +kernel) q276507 ?_
                                              refine x_iload (np := 257) (x := 3) (by decide +kernel) rfl (by first | decide | omega) ?_
                                              refine x_aload (np := 258) (x := 0) (by decide +kernel) rfl (x_nc_le (by decide)) ?_
                                              have q276508 : h276483 75 16 = 83 := by have z := jB (e := 16) 0 j276485 rg_75_16_0_1 (by decide) (by decide); omega
                                              refine x_getR (np := 261) (x := 720) (f := 16) (q := 83) (by decide +kernel) (by decide) (by decide +kernel) q276508 ?_
                                              refine x_iload (np := 262) (x := 2) (by decide +kernel) rfl (by first | decide | omega) ?_
                                              have q276509 : h276483 83 u276504 = h273039 83 u276504 := jK u276504 f276484 rg_83_0_1_6 (by first | decide | omega) (by first | decide | omega) (by decide)
                                              have b276510 := jB (e := u276504) u276504 j273041 rg_83_0_1_6 (by first | decide | omega) (by first | decide | omega)
                                              refine x_aldC (np := 263) (x := 0) (n := 6) (i := u276504) (q := (h273039 83 u276504)) (by decide +kernel) (by decide +kernel) (by first | decide | omega) (by first | decide | omega) (by decide) q276509 (fun l276511 => ?_)
                                              obtain ⟨u276512, q276513⟩ : ∃ z, v265838 = 2147483648 + z := ⟨v265838 - 2147483648, by first | decide | omega⟩
                                              refine x_ast (np := 264) (x := 0) (kd := 1) (n := 72) (i := (12 * u276504 + u276512)) (by decide +kernel) (Or.inl rfl) (by decide +kernel) (by first | decide | omega) (by first | decide | omega) (by decide) l276511 (fun z => absurd z (by decide)) ?_
                                              have j276515 := jU (e := (12 * u276504 + u276512)) (v := (h273039 83 u276504)) (12 * u276504 + u276512) j276485 rg_85_0_1_72 (by first | decide | omega) (by first | decide | omega) (by first | decide | omega)
                                              have f276517 := jF (e := (12 * u276504 + u276512)) (v := (h273039 83 u276504)) (12 * u276504 + u276512) f276490 rg_85_0_1_72 (by first | decide | omega) (by first | decide | omega) (by decide)
                                              have f276518 := jF (e := (12 * u276504 + u276512)) (v := (h273039 83 u276504)) (12 * u276504 + u276512) f276491 rg_85_0_1_72 (by first | decide | omega) (by first | decide | omega) (by decide)
                                              have f276519 := jF (e := (12 * u276504 + u276512)) (v := (h273039 83 u276504)) (12 * u276504 + u276512) f276484 rg_85_0_1_72 (by first | decide | omega) (by first | decide | omega) (by decide)
                                              have m276520 := MB.oth (q := 85) (e := (12 * u276504 + u276512)) (v := (h273039 83 u276504)) m276487 (by decide)
                                              generalize e276516 : x_up h276483 85 (12 * u276504 + u276512) (h273039 83 u276504) = h276514 at j276515 f276517 f276518 f276519 m276520 ⊢
                                              refine x_const (np := 265) (x := 9223372039002259456) (a := 2147483648) (by decide +kernel) (by decide) (by decide) ?_
                                              refine x_istore (np := 267) (x := 4) (lo' := [x_r 75, iv_c v265838, iv_c v276479, iv_c (12 * u276504 + v265838), iv_c 2147483648]) (by decide +kernel) (by decide) (Nat.le_of_ble_eq_true rfl) rfl ?_
                                              have p276986 : ∀ (n : Nat) (v276981 : Nat) (h276983 : xh), 4294967296 - v276981 < n → (2147483648 ≤ v276981 ∧ v276981 ≤ 2147483668) → J h276983 → Fr 34359738368 h276514 h276983 → MB 6 (cn (fun l => h 76 (22 + 7 * l)) (1 + v265838) 0 20) h276983 → X sc 210 (d + 4) (xV fun h' => J h' ∧ Fr 135291469825 h h') 0 0 267 [x_r 75, iv_c v265838, iv_c v276479, iv_c (12 * u276504 + v265838), iv_c v276981] [] h276983 := by
                                                intro n
                                                induction n with
                                                | zero => intro v276981 h276983 q276988; exact absurd q276988 (Nat.not_lt_zero _)
                                                | succ n i276989 =>
                                                  intro v276981 h276983 q276988 b276982 j276985 f276984 m276987
                                                  have f276990 := Fr.trans f276517 f276984 (by decide)
                                                  have f276991 := Fr.trans f276518 f276984 (by decide)
                                                  have f276992 := Fr.trans f276519 f276984 (by decide)
                                                  refine x_iload (np := 269) (x := 4) (by decide +kernel) rfl (by first | decide | omega) ?_
                                                  refine x_aload (np := 270) (x := 0) (by decide +kernel) rfl (x_nc_le (by decide)) ?_
                                                  have q276993 : h276983 75 16 = 83 := by have z := jB (e := 16) 0 j276985 rg_75_16_0_1 (by decide) (by decide); omega
                                                  refine x_getR (np := 273) (x := 720) (f := 16) (q := 83) (by decide +kernel) (by decide) (by decide +kernel) q276993 ?_
                                                  refine x_iload (np := 274) (x := 2) (by decide +kernel) rfl (by first | decide | omega) ?_
                                                  have q276994 : h276983 83 u276504 = h276514 83 u276504 := jK u276504 f276984 rg_83_0_1_6 (by first | decide | omega) (by first | decide | omega) (by decide)
                                                  have q276995 : h276514 83 u276504 = h276483 83 u276504 := by rw [← e276516]; exact x_up_k (by decide)
                                                  have q276996 : h276483 83 u276504 = h273039 83 u276504 := jK u276504 f276484 rg_83_0_1_6 (by first | decide | omega) (by first | decide | omega) (by decide)
                                                  refine x_aldC (np := 275) (x := 0) (n := 6) (i := u276504) (q := (h273039 83 u276504)) (by decide +kernel) (by decide +kernel) (by first | decide | omega) (by first | decide | omega) (by decide) ((q276994.trans q276995).trans q276996) (fun l276997 => ?_)
                                                  refine x_icmp (k := 3) (tg := 308) (np := 278) (by decide +kernel) (by decide) (by first | decide | omega) l276511 (fun q276998 => ?_) (fun q276999 => ?_)
                                                  · have q276998 : (h273039 83 u276504) ≤ v276981 := q276998
                                                    refine x_aload (np := 309) (x := 0) (by decide +kernel) rfl (x_nc_le (by decide)) ?_
                                                    have q277000 : h276983 75 20 = 87 := by have z := jB (e := 20) 0 j276985 rg_75_20_0_1 (by decide) (by decide); omega
                                                    refine x_getR (np := 312) (x := 724) (f := 20) (q := 87) (by decide +kernel) (by decide) (by decide +kernel) q277000 ?_
                                                    refine x_iload (np := 313) (x := 3) (by decide +kernel) rfl (by first | decide | omega) ?_
                                                    refine x_aload (np := 314) (x := 0) (by decide +kernel) rfl (x_nc_le (by decide)) ?_
                                                    refine x_aload (np := 315) (x := 0) (by decide +kernel) rfl (x_nc_le (by decide)) ?_
                                                    refine x_iload (np := 316) (x := 2) (by decide +kernel) rfl (by first | decide | omega) ?_
                                                    refine x_cP (t := 6) (mj := 203) (n := 2) (rc := 12) (ml := 2) (nr := 3) (np := 319) (as := [x_r 75, iv_c v276479]) (rest := [x_r 75, iv_c (12 * u276504 + v265838), x_r 87]) (lo1 := [x_r 75, iv_c v276479]) (by decide +kernel) (by decide) (by decide +kernel) (x_rb_of (by decide +kernel)) rfl rfl (x_wr (by decide) (x_wi (by first | decide | omega) x_wn)) (x_wr (by decide) (x_wi (by first | decide | omega) (x_wr (by decide) x_wn))) (by decide) rfl (c203_75 j276985  (by first | decide | omega)) (fun v277001 l277002 q277003 => ?_)
                                                    refine x_iload (np := 320) (x := 1) (by decide +kernel) rfl (by first | decide | omega) ?_
                                                    refine x_cP (t := 6) (mj := 200) (n := 3) (rc := 12) (ml := 3) (nr := 2) (np := 323) (as := [x_r 75, iv_c v277001, iv_c v265838]) (rest := [iv_c (12 * u276504 + v265838), x_r 87]) (lo1 := [x_r 75, iv_c v277001, iv_c v265838]) (by decide +kernel) (by decide) (by decide +kernel) (x_rb_of (by decide +kernel)) rfl rfl (x_wr (by decide) (x_wi l277002 (x_wi (by first | decide | omega) x_wn))) (x_wi (by first | decide | omega) (x_wr (by decide) x_wn)) (by decide) rfl (c200_75 j276985  (by first | decide | omega) (by first | decide | omega)) (fun v277004 l277005 q277006 => ?_)
                                                    refine x_ifz (k := 0) (tg := 334) (np := 326) (by decide +kernel) (by decide) l277005 (fun q277007 => ?_) (fun q277008 => ?_)
                                                    · have q277007 : v277004 = 2147483648 := q277007
                                                      refine x_const (np := 335) (x := 9223372034707292159) (a := 2147483647) (by decide +kernel) (by decide) (by decide) ?_
                                                      refine x_ast (np := 336) (x := 0) (kd := 1) (n := 72) (i := (12 * u276504 + u276512)) (by decide +kernel) (Or.inl rfl) (by decide +kernel) (by first | decide | omega) (by first | decide | omega) (by decide) (by decide) (fun z => absurd z (by decide)) ?_
                                                      have j277010 := jU (e := (12 * u276504 + u276512)) (v := 2147483647) (12 * u276504 + u276512) j276985 rg_87_0_1_72 (by first | decide | omega) (by first | decide | omega) (by first | decide | omega)
                                                      have f277012 := jF (e := (12 * u276504 + u276512)) (v := 2147483647) (12 * u276504 + u276512) f276990 rg_87_0_1_72 (by first | decide | omega) (by first | decide | omega) (by decide)
                                                      have f277013 := jF (e := (12 * u276504 + u276512)) (v := 2147483647) (12 * u276504 + u276512) f276991 rg_87_0_1_72 (by first | decide | omega) (by first | decide | omega) (by decide)
                                                      have f277014 := jF (e := (12 * u276504 + u276512)) (v := 2147483647) (12 * u276504 + u276512) f276992 rg_87_0_1_72 (by first | decide | omega) (by first | decide | omega) (by decide)
                                                      have m277015 := MB.oth (q := 87) (e := (12 * u276504 + u276512)) (v := 2147483647) m276987 (by decide)
                                                      generalize e277011 : x_up h276983 87 (12 * u276504 + u276512) 2147483647 = h277009 at j277010 f277012 f277013 f277014 m277015 ⊢
                                                      refine x_aload (np := 337) (x := 0) (by decide +kernel) rfl (x_nc_le (by decide)) ?_
                                                      have q277016 : h277009 75 24 = 91 := by have z := jB (e := 24) 0 j277010 rg_75_24_0_1 (by decide) (by decide); omega
                                                      refine x_getR (np := 340) (x := 728) (f := 24) (q := 91) (by decide +kernel) (by decide) (by decide +kernel) q277016 ?_
                                                      refine x_iload (np := 341) (x := 3) (by decide +kernel) rfl (by first | decide | omega) ?_
                                                      refine x_const (np := 342) (x := 9223372034707292159) (a := 2147483647) (by decide +kernel) (by decide) (by decide) ?_
                                                      refine x_ast (np := 343) (x := 0) (kd := 1) (n := 72) (i := (12 * u276504 + u276512)) (by decide +kernel) (Or.inl rfl) (by decide +kernel) (by first | decide | omega) (by first | decide | omega) (by decide) (by decide) (fun z => absurd z (by decide)) ?_
                                                      have j277018 := jU (e := (12 * u276504 + u276512)) (v := 2147483647) (12 * u276504 + u276512) j277010 rg_91_0_1_72 (by first | decide | omega) (by first | decide | omega) (by first | decide | omega)
                                                      have f277020 := jF (e := (12 * u276504 + u276512)) (v := 2147483647) (12 * u276504 + u276512) f277012 rg_91_0_1_72 (by first | decide | omega) (by first | decide | omega) (by decide)
                                                      have f277021 := jF (e := (12 * u276504 + u276512)) (v := 2147483647) (12 * u276504 + u276512) f277013 rg_91_0_1_72 (by first | decide | omega) (by first | decide | omega) (by decide)
                                                      have f277022 := jF (e := (12 * u276504 + u276512)) (v := 2147483647) (12 * u276504 + u276512) f277014 rg_91_0_1_72 (by first | decide | omega) (by first | decide | omega) (by decide)
                                                      have m277023 := MB.oth (q := 91) (e := (12 * u276504 + u276512)) (v := 2147483647) m277015 (by decide)
                                                      generalize e277019 : x_up h277009 91 (12 * u276504 + u276512) 2147483647 = h277017 at j277018 f277020 f277021 f277022 m277023 ⊢
                                                      refine x_iinc (np := 346) (i := 2) (j := 2147483649) (v := (1 + v276479)) (lo' := [x_r 75, iv_c v265838, iv_c (1 + v276479), iv_c (12 * u276504 + v265838), iv_c v276981]) (by decide +kernel) (by decide) (by decide) rfl (by first | decide | omega) (by first | decide | omega) (by first | decide | omega) rfl ?_
                                                      refine x_goto (np := 349) (x := 237) (by decide +kernel) ?_
                                                      exact i276489 (1 + v276479) (iv_c (12 * u276504 + v265838)) (iv_c v276981) h277017 (by first | decide | omega) (by first | decide | omega) j277018 f277022 m277023
                                                    have q277008 : ¬ (v277004 = 2147483648) := q277008
                                                    refine x_aload (np := 327) (x := 0) (by decide +kernel) rfl (x_nc_le (by decide)) ?_
                                                    refine x_iload (np := 328) (x := 2) (by decide +kernel) rfl (by first | decide | omega) ?_
                                                    refine x_cP (t := 6) (mj := 203) (n := 2) (rc := 12) (ml := 2) (nr := 2) (np := 331) (as := [x_r 75, iv_c v276479]) (rest := [iv_c (12 * u276504 + v265838), x_r 87]) (lo1 := [x_r 75, iv_c v276479]) (by decide +kernel) (by decide) (by decide +kernel) (x_rb_of (by decide +kernel)) rfl rfl (x_wr (by decide) (x_wi (by first | decide | omega) x_wn)) (x_wi (by first | decide | omega) (x_wr (by decide) x_wn)) (by decide) rfl (c203_75 j276985  (by first | decide | omega)) (fun v277024 l277025 q277026 => ?_)
                                                    refine x_goto (np := 334) (x := 335) (by decide +kernel) ?_
                                                    refine x_ast (np := 336) (x := 0) (kd := 1) (n := 72) (i := (12 * u276504 + u276512)) (by decide +kernel) (Or.inl rfl) (by decide +kernel) (by first | decide | omega) (by first | decide | omega) (by decide) l277025 (fun z => absurd z (by decide)) ?_
                                                    have j277028 := jU (e := (12 * u276504 + u276512)) (v := v277024) (12 * u276504 + u276512) j276985 rg_87_0_1_72 (by first | decide | omega) (by first | decide | omega) (by first | decide | omega)
                                                    have f277030 := jF (e := (12 * u276504 + u276512)) (v := v277024) (12 * u276504 + u276512) f276990 rg_87_0_1_72 (by first | decide | omega) (by first | decide | omega) (by decide)
                                                    have f277031 := jF (e := (12 * u276504 + u276512)) (v := v277024) (12 * u276504 + u276512) f276991 rg_87_0_1_72 (by first | decide | omega) (by first | decide | omega) (by decide)
                                                    have f277032 := jF (e := (12 * u276504 + u276512)) (v := v277024) (12 * u276504 + u276512) f276992 rg_87_0_1_72 (by first | decide | omega) (by first | decide | omega) (by decide)
                                                    have m277033 := MB.oth (q := 87) (e := (12 * u276504 + u276512)) (v := v277024) m276987 (by decide)
                                                    generalize e277029 : x_up h276983 87 (12 * u276504 + u276512) v277024 = h277027 at j277028 f277030 f277031 f277032 m277033 ⊢
                                                    refine x_aload (np := 337) (x := 0) (by decide +kernel) rfl (x_nc_le (by decide)) ?_
                                                    have q277034 : h277027 75 24 = 91 := by have z := jB (e := 24) 0 j277028 rg_75_24_0_1 (by decide) (by decide); omega
                                                    refine x_getR (np := 340) (x := 728) (f := 24) (q := 91) (by decide +kernel) (by decide) (by decide +kernel) q277034 ?_
                                                    refine x_iload (np := 341) (x := 3) (by decide +kernel) rfl (by first | decide | omega) ?_
                                                    refine x_const (np := 342) (x := 9223372034707292159) (a := 2147483647) (by decide +kernel) (by decide) (by decide) ?_
                                                    refine x_ast (np := 343) (x := 0) (kd := 1) (n := 72) (i := (12 * u276504 + u276512)) (by decide +kernel) (Or.inl rfl) (by decide +kernel) (by first | decide | omega) (by first | decide | omega) (by decide) (by decide) (fun z => absurd z (by decide)) ?_
                                                    have j277036 := jU (e := (12 * u276504 + u276512)) (v := 2147483647) (12 * u276504 + u276512) j277028 rg_91_0_1_72 (by first | decide | omega) (by first | decide | omega) (by first | decide | omega)
                                                    have f277038 := jF (e := (12 * u276504 + u276512)) (v := 2147483647) (12 * u276504 + u276512) f277030 rg_91_0_1_72 (by first | decide | omega) (by first | decide | omega) (by decide)
                                                    have f277039 := jF (e := (12 * u276504 + u276512)) (v := 2147483647) (12 * u276504 + u276512) f277031 rg_91_0_1_72 (by first | decide | omega) (by first | decide | omega) (by decide)
                                                    have f277040 := jF (e := (12 * u276504 + u276512)) (v := 2147483647) (12 * u276504 + u276512) f277032 rg_91_0_1_72 (by first | decide | omega) (by first | decide | omega) (by decide)
                                                    have m277041 := MB.oth (q := 91) (e := (12 * u276504 + u276512)) (v := 2147483647) m277033 (by decide)
                                                    generalize e277037 : x_up h277027 91 (12 * u276504 + u276512) 2147483647 = h277035 at j277036 f277038 f277039 f277040 m277041 ⊢
                                                    refine x_iinc (np := 346) (i := 2) (j := 2147483649) (v := (1 + v276479)) (lo' := [x_r 75, iv_c v265838, iv_c (1 + v276479), iv_c (12 * u276504 + v265838), iv_c v276981]) (by decide +kernel) (by decide) (by decide) rfl (by first | decide | omega) (by first | decide | omega) (by first | decide | omega) rfl ?_
                                                    refine x_goto (np := 349) (x := 237) (by decide +kernel) ?_
                                                    exact i276489 (1 + v276479) (iv_c (12 * u276504 + v265838)) (iv_c v276981) h277035 (by first | decide | omega) (by first | decide | omega) j277036 f277040 m277041
                                                  have q276999 : ¬ ((h273039 83 u276504) ≤ v276981) := q276999
                                                  refine x_aload (np := 279) (x := 0) (by decide +kernel) rfl (x_nc_le (by decide)) ?_
                                                  have q277042 : h276983 75 19 = 86 := by have z := jB (e := 19) 0 j276985 rg_75_19_0_1 (by decide) (by decide); omega
                                                  refine x_getR (np := 282) (x := 723) (f := 19) (q := 86) (by decide +kernel) (by decide) (by decide +kernel) q277042 ?_
                                                  refine x_const (np := 284) (x := 9223372124901605396) (a := 2147483668) (by decide +kernel) (by decide) (by decide) ?_
                                                  refine x_iload (np := 285) (x := 3) (by decide +kernel) rfl (by first | decide | omega) ?_
                                                  refine x_imul (np := 286) (x := 0) (i := 20) (j := (12 * u276504 + u276512)) (v := (2147483648 + 240 * u276504 + 20 * u276512)) (by decide +kernel) (by first | decide | omega) (by first | decide | omega) (by first | decide | omega) (by first | decide | omega) (by decide) (by first | decide | omega) ?_
                                                  refine x_iload (np := 288) (x := 4) (by decide +kernel) rfl (by first | decide | omega) ?_
                                                  refine x_iadd (np := 289) (x := 0) (v := (240 * u276504 + 20 * u276512 + v276981)) (by decide +kernel) (by first | decide | omega) (by first | decide | omega) (by first | decide | omega) (by first | decide | omega) ?_
                                                  refine x_aload (np := 290) (x := 0) (by decide +kernel) rfl (x_nc_le (by decide)) ?_
                                                  have q277044 : h276983 75 17 = 84 := by have z := jB (e := 17) 0 j276985 rg_75_17_0_1 (by decide) (by decide); omega
                                                  refine x_getR (np := 293) (x := 721) (f := 17) (q := 84) (by decide +kernel) (by decide) (by decide +kernel) q277044 ?_
                                                  refine x_const (np := 295) (x := 9223372124901605396) (a := 2147483668) (by decide +kernel) (by decide) (by decide) ?_
                                                  refine x_iload (np := 296) (x := 2) (by decide +kernel) rfl (by first | decide | omega) ?_
                                                  refine x_imul (np := 297) (x := 0) (i := 20) (j := u276504) (v := (2147483648 + 20 * u276504)) (by decide +kernel) (by first | decide | omega) (by first | decide | omega) (by first | decide | omega) (by first | decide | omega) (by decide) (by first | decide | omega) ?_
                                                  refine x_iload (np := 299) (x := 4) (by decide +kernel) rfl (by first | decide | omega) ?_
                                                  refine x_iadd (np := 300) (x := 0) (v := (20 * u276504 + v276981)) (by decide +kernel) (by first | decide | omega) (by first | decide | omega) (by first | decide | omega) (by first | decide | omega) ?_
                                                  obtain ⟨u277046, q277047⟩ : ∃ z, v276981 = 2147483648 + z := ⟨v276981 - 2147483648, by first | decide | omega⟩
                                                  have q277048 : h276983 84 (20 * u276504 + u277046) = h276514 84 (20 * u276504 + u277046) := jK (20 * u276504 + u277046) f276984 rg_84_0_1_120 (by first | decide | omega) (by first | decide | omega) (by decide)
                                                  have q277049 : h276514 84 (20 * u276504 + u277046) = h276483 84 (20 * u276504 + u277046) := by rw [← e276516]; exact x_up_k (by decide)
                                                  have q277050 : h276483 84 (20 * u276504 + u277046) = h273039 84 (20 * u276504 + u277046) := jK (20 * u276504 + u277046) f276484 rg_84_0_1_120 (by first | decide | omega) (by first | decide | omega) (by decide)
                                                  have b277051 := jB (e := (20 * u276504 + u277046)) (20 * u276504 + u277046) j273041 rg_84_0_1_120 (by first | decide | omega) (by first | decide | omega)
                                                  refine x_aldC (np := 301) (x := 0) (n := 120) (i := (20 * u276504 + u277046)) (q := ((h273039 84 (20 * u276504 + u277046)))) (by decide +kernel) (by decide +kernel) (by first | decide | omega) (by first | decide | omega) (by decide) ((q277048.trans q277049).trans q277050) (fun l277052 => ?_)
                                                  refine x_ast (np := 302) (x := 0) (kd := 1) (n := 1440) (i := (240 * u276504 + 20 * u276512 + u277046)) (by decide +kernel) (Or.inl rfl) (by decide +kernel) (by first | decide | omega) (by first | decide | omega) (by decide) l277052 (fun z => absurd z (by decide)) ?_
                                                  have j277054 := jU (e := (240 * u276504 + 20 * u276512 + u277046)) (v := ((h273039 84 (20 * u276504 + u277046)))) (240 * u276504 + 20 * u276512 + u277046) j276985 rg_86_0_1_1440 (by first | decide | omega) (by first | decide | omega) (by first | decide | omega)
                                                  have f277056 := jF (e := (240 * u276504 + 20 * u276512 + u277046)) (v := ((h273039 84 (20 * u276504 + u277046)))) (240 * u276504 + 20 * u276512 + u277046) f276990 rg_86_0_1_1440 (by first | decide | omega) (by first | decide | omega) (by decide)
                                                  have f277057 := jF (e := (240 * u276504 + 20 * u276512 + u277046)) (v := ((h273039 84 (20 * u276504 + u277046)))) (240 * u276504 + 20 * u276512 + u277046) f276991 rg_86_0_1_1440 (by first | decide | omega) (by first | decide | omega) (by decide)
                                                  have f277058 := jF (e := (240 * u276504 + 20 * u276512 + u277046)) (v := ((h273039 84 (20 * u276504 + u277046)))) (240 * u276504 + 20 * u276512 + u277046) f276992 rg_86_0_1_1440 (by first | decide | omega) (by first | decide | omega) (by decide)
                                                  have f277059 := jF (e := (240 * u276504 + 20 * u276512 + u277046)) (v := ((h273039 84 (20 * u276504 + u277046)))) (240 * u276504 + 20 * u276512 + u277046) f276984 rg_86_0_1_1440 (by first | decide | omega) (by first | decide | omega) (by decide)
                                                  have m277060 := MB.oth (q := 86) (e := (240 * u276504 + 20 * u276512 + u277046)) (v := ((h273039 84 (20 * u276504 + u277046)))) m276987 (by decide)
                                                  generalize e277055 : x_up h276983 86 (240 * u276504 + 20 * u276512 + u277046) ((h273039 84 (20 * u276504 + u277046))) = h277053 at j277054 f277056 f277057 f277058 f277059 m277060 ⊢
                                                  refine x_iinc (np := 305) (i := 4) (j := 2147483649) (v := (1 + v276981)) (lo' := [x_r 75, iv_c v265838, iv_c v276479, iv_c (12 * u276504 + v265838), iv_c (1 + v276981)]) (by decide +kernel) (by decide) (by decide) rfl (by first | decide | omega) (by first | decide | omega) (by first | decide | omega) rfl ?_
                                                  refine x_goto (np := 308) (x := 267) (by decide +kernel) ?_
                                                  exact i276989 (1 + v276981) h277053 (by first | decide | omega) (by first | decide | omega) j277054 f277059 m277060
                                              exact p276986 _ 2147483648 h276514 (Nat.lt_succ_self _) (by first | decide | omega) j276515 (Fr.refl _ _) m276520
                                          exact p276486 _ 2147483648 w272272 w272273 h273039 (Nat.lt_succ_self _) (by first | decide | omega) j273041 (Fr.refl _ _) (MB.mono m273043 (Nat.le_refl _) (by rw [Nat.add_comm 1 v265838]; exact cn_day 20))
                                        have q273059 : ¬ ((h 76 2) ≤ v273037) := q273059
                                        refine x_aload (np := 214) (x := 0) (by decide +kernel) rfl (x_nc_le (by decide)) ?_
                                        refine x_iload (np := 215) (x := 2) (by decide +kernel) rfl (by first | decide | omega) ?_
                                        refine x_const (np := 216) (x := 9223372047592194050) (a := 2147483650) (by decide +kernel) (by decide) (by decide) ?_
                                        refine x_nI (t := 6) (mj := 161) (n := 3) (rc := 12) (ml := 3) (nr := 0) (np := 219) (as := [x_r 75, iv_c v273037, iv_c 2147483650]) (rest := []) (lo1 := [x_r 75, iv_c v273037, iv_c 2147483650]) (by decide +kernel) (by decide) (by decide +kernel) (x_rb_of (by decide +kernel)) rfl rfl (x_wr (by decide) (x_wi (by first | decide | omega) (x_wi (by decide) x_wn))) x_wn (by decide) rfl ?_
                                        refine x_aload (np := 1) (x := 0) (by decide +kernel) rfl (x_nc_le (by decide)) ?_
                                        have q277061 : h273039 75 1 = 76 := by have z := jB (e := 1) 0 j273041 rg_75_1_0_1 (by decide) (by decide); omega
                                        refine x_getR (np := 4) (x := 705) (f := 1) (q := 76) (by decide +kernel) (by decide) (by decide +kernel) q277061 ?_
                                        refine x_const (np := 6) (x := 9223372124901605396) (a := 2147483668) (by decide +kernel) (by decide) (by decide) ?_
                                        refine x_const (np := 8) (x := 9223372069067030535) (a := 2147483655) (by decide +kernel) (by decide) (by decide) ?_
                                        refine x_iload (np := 9) (x := 1) (by decide +kernel) rfl (by first | decide | omega) ?_
                                        obtain ⟨u277062, q277063⟩ : ∃ z, v273037 = 2147483648 + z := ⟨v273037 - 2147483648, by first | decide | omega⟩
                                        refine x_imul (np := 10) (x := 0) (i := 7) (j := u277062) (v := (2147483648 + 7 * u277062)) (by decide +kernel) (by first | decide | omega) (by first | decide | omega) (by first | decide | omega) (by first | decide | omega) (by decide) (by first | decide | omega) ?_
                                        refine x_iadd (np := 11) (x := 0) (v := (2147483668 + 7 * u277062)) (by decide +kernel) (by decide) (by first | decide | omega) (by first | decide | omega) (by first | decide | omega) ?_
                                        refine x_iload (np := 12) (x := 2) (by decide +kernel) rfl (by decide) ?_
                                        refine x_iadd (np := 13) (x := 0) (v := (2147483670 + 7 * u277062)) (by decide +kernel) (by first | decide | omega) (by decide) (by first | decide | omega) (by first | decide | omega) ?_
                                        have q277065 : h273039 76 (22 + 7 * u277062) = h272274 76 (22 + 7 * u277062) := jK u277062 f273040 rg_76_22_7_20 (by first | decide | omega) (by first | decide | omega) (by decide)
                                        have q277066 : h272274 76 (22 + 7 * u277062) = h266244 76 (22 + 7 * u277062) := jK u277062 f272275 rg_76_22_7_20 (by first | decide | omega) (by first | decide | omega) (by decide)
                                        have q277067 : h266244 76 (22 + 7 * u277062) = h266001 76 (22 + 7 * u277062) := jK u277062 f266245 rg_76_22_7_20 (by first | decide | omega) (by first | decide | omega) (by decide)
                                        have q277068 : h266001 76 (22 + 7 * u277062) = h265843 76 (22 + 7 * u277062) := jK u277062 f266002 rg_76_22_7_20 (by first | decide | omega) (by first | decide | omega) (by decide)
                                        have q277069 : h265843 76 (22 + 7 * u277062) = h564 76 (22 + 7 * u277062) := jK u277062 f265844 rg_76_22_7_20 (by first | decide | omega) (by first | decide | omega) (by decide)
                                        have q277070 : h564 76 (22 + 7 * u277062) = h102 76 (22 + 7 * u277062) := jK u277062 f565 rg_76_22_7_20 (by first | decide | omega) (by first | decide | omega) (by decide)
                                        have q277071 : h102 76 (22 + 7 * u277062) = h 76 (22 + 7 * u277062) := jK u277062 f103 rg_76_22_7_20 (by first | decide | omega) (by first | decide | omega) (by decide)
                                        refine x_aldC (np := 14) (x := 0) (n := 1952) (i := (22 + 7 * u277062)) (q := ((h 76 (22 + 7 * u277062)))) (by decide +kernel) (by decide +kernel) (by first | decide | omega) (by first | decide | omega) (by decide) ((((((q277065.trans q277066).trans q277067).trans q277068).trans q277069).trans q277070).trans q277071) (fun l277072 => ?_)
                                        refine x_retI (np := 15) (x := 0) (by decide +kernel) l277072 (Or.inl (by decide +kernel)) ⟨_, rfl, l277072, ?_⟩
                                        refine x_iload (np := 220) (x := 1) (by decide +kernel) rfl (by first | decide | omega) ?_
                                        refine x_icmp (k := 1) (tg := 229) (np := 223) (by decide +kernel) (by decide) l277072 (by first | decide | omega) (fun q277073 => ?_) (fun q277074 => ?_)
                                        · have q277073 : ((h 76 (22 + 7 * u277062))) ≠ v265838 := q277073
                                          refine x_iinc (np := 232) (i := 2) (j := 2147483649) (v := (1 + v273037)) (lo' := [x_r 75, iv_c v265838, iv_c (1 + v273037), w272272, w272273]) (by decide +kernel) (by decide) (by decide) rfl (by first | decide | omega) (by first | decide | omega) (by first | decide | omega) rfl ?_
                                          refine x_goto (np := 235) (x := 203) (by decide +kernel) ?_
                                          have m277075 : MB 6 (cn (fun l => h 76 (22 + 7 * l)) v265838 ((1 + v273037) - 2147483648) 20) h273039 := by
                                            have e0 : v273037 - 2147483648 = u277062 := by first | decide | omega
                                            have e9 : (1 + v273037) = 2147483648 + (u277062 + 1) := by first | decide | omega
                                            have e1 : (1 + v273037) - 2147483648 = u277062 + 1 := by rw [e9]; exact Nat.add_sub_cancel_left _ _
                                            have p9 := m273043
                                            rw [e0] at p9
                                            rw [e1, cn_skip (f := (fun l => h 76 (22 + 7 * l))) (d := v265838) (l := u277062) (show h 76 (22 + 7 * u277062) ≠ v265838 by first | decide | omega) 20]
                                            exact p9
                                          exact i273045 (1 + v273037) h273039 (by first | decide | omega) (by first | decide | omega) j273041 f273040 m277075
                                        have q277074 : ¬ (((h 76 (22 + 7 * u277062))) ≠ v265838) := q277074
                                        refine x_aload (np := 224) (x := 0) (by decide +kernel) rfl (x_nc_le (by decide)) ?_
                                        refine x_iload (np := 225) (x := 2) (by decide +kernel) rfl (by first | decide | omega) ?_
                                        refine x_iload (np := 226) (x := 1) (by decide +kernel) rfl (by first | decide | omega) ?_
                                        have m277085 := WT.fr hW hJ f103 (by decide)
                                        have m277084 := WT.fr m277085 j104 f565 (by decide)
                                        have m277083 := WT.fr m277084 j566 f265844 (by decide)
                                        have m277082 := WT.fr m277083 j265845 f266002 (by decide)
                                        have m277081 := WT.fr m277082 j266003 f266245 (by decide)
                                        have m277080 := WT.fr m277081 j266246 f272275 (by decide)
                                        have m277079 := WT.fr m277080 j272276 f273040 (by decide)
                                        have q277086 : cn (fun l => h 76 (22 + 7 * l)) v265838 (v273037 - 2147483648) 20 ≤ 19 := by
                                          have e0 : v273037 - 2147483648 = u277062 := by first | decide | omega
                                          have z := cn_lt (f := (fun l => h 76 (22 + 7 * l))) (d := v265838) (l := u277062) (show h 76 (22 + 7 * u277062) = v265838 by first | decide | omega) 20 (by first | decide | omega)
                                          rw [e0]
                                          omega
                                        refine x_cV (t := 6) (mj := 209) (n := 3) (rc := 12) (ml := 7) (nr := 0) (np := 229) (as := [x_r 75, iv_c v273037, iv_c v265838]) (rest := []) (lo1 := [x_r 75, iv_c v273037, iv_c v265838, 147573952589676412928, 147573952589676412928, 147573952589676412928, 147573952589676412928]) (by decide +kernel) (by decide) (by decide +kernel) (x_rb_of (by decide +kernel)) rfl rfl (x_wr (by decide) (x_wi (by first | decide | omega) (x_wi (by first | decide | omega) x_wn))) x_wn (by decide) rfl (c209_75 (n0 := cn (fun l => h 76 (22 + 7 * l)) v265838 (v273037 - 2147483648) 20) j273041  (by first | decide | omega) (by first | decide | omega) q277086 m273043 m277079) (fun h277087 q277078 => ?_)
                                        obtain ⟨j277088, f277089, m277091⟩ := q277078
                                        have f277092 := Fr.trans f273046 f277089 (by decide)
                                        have f277093 := Fr.trans f273047 f277089 (by decide)
                                        have f277094 := Fr.trans f273040 f277089 (by decide)
                                        refine x_iinc (np := 232) (i := 2) (j := 2147483649) (v := (1 + v273037)) (lo' := [x_r 75, iv_c v265838, iv_c (1 + v273037), w272272, w272273]) (by decide +kernel) (by decide) (by decide) rfl (by first | decide | omega) (by first | decide | omega) (by first | decide | omega) rfl ?_
                                        refine x_goto (np := 235) (x := 203) (by decide +kernel) ?_
                                        have m277095 : MB 6 (cn (fun l => h 76 (22 + 7 * l)) v265838 ((1 + v273037) - 2147483648) 20) h277087 := by
                                          have e0 : v273037 - 2147483648 = u277062 := by first | decide | omega
                                          have e9 : (1 + v273037) = 2147483648 + (u277062 + 1) := by first | decide | omega
                                          have e1 : (1 + v273037) - 2147483648 = u277062 + 1 := by rw [e9]; exact Nat.add_sub_cancel_left _ _
                                          have p9 := m277091
                                          rw [e0] at p9
                                          rw [e1, cn_step (f := (fun l => h 76 (22 + 7 * l))) (d := v265838) (l := u277062) (show h 76 (22 + 7 * u277062) = v265838 by first | decide | omega) 20 (by first | decide | omega)]
                                          exact p9
                                        exact i273045 (1 + v273037) h277087 (by first | decide | omega) (by first | decide | omega) j277088 f277094 m277095
                                    exact p273042 _ 2147483648 h272274 (Nat.lt_succ_self _) (by first | decide | omega) j272276 (Fr.refl _ _) m272278
                                  have q272292 : ¬ ((h 76 0) ≤ v272270) := q272292
                                  refine x_const (np := 134) (x := 9223372039002259456) (a := 2147483648) (by decide +kernel) (by decide) (by decide) ?_
                                  refine x_istore (np := 135) (x := 3) (lo' := [x_r 75, iv_c v265838, iv_c v272270, iv_c 2147483648, w272273]) (by decide +kernel) (by decide) (Nat.le_of_ble_eq_true rfl) rfl ?_
                                  have p278026 : ∀ (n : Nat) (v278020 : Nat) (w278022 : Nat) (h278023 : xh), 4294967296 - v278020 < n → (2147483648 ≤ v278020 ∧ v278020 ≤ 2147483668) → J h278023 → Fr 34359738368 h272274 h278023 → MB 6 (cn (fun l => h 76 (22 + 7 * l)) v265838 0 20) h278023 → X sc 210 (d + 4) (xV fun h' => J h' ∧ Fr 135291469825 h h') 0 0 135 [x_r 75, iv_c v265838, iv_c v272270, iv_c v278020, w278022] [] h278023 := by
                                    intro n
                                    induction n with
                                    | zero => intro v278020 w278022 h278023 q278028; exact absurd q278028 (Nat.not_lt_zero _)
                                    | succ n i278029 =>
                                      intro v278020 w278022 h278023 q278028 b278021 j278025 f278024 m278027
                                      have f278030 := Fr.trans f272281 f278024 (by decide)
                                      have f278031 := Fr.trans f272282 f278024 (by decide)
                                      have f278032 := Fr.trans f272275 f278024 (by decide)
                                      refine x_iload (np := 136) (x := 3) (by decide +kernel) rfl (by first | decide | omega) ?_
                                      refine x_aload (np := 137) (x := 0) (by decide +kernel) rfl (x_nc_le (by decide)) ?_
                                      have q278033 : h278023 75 16 = 83 := by have z := jB (e := 16) 0 j278025 rg_75_16_0_1 (by decide) (by decide); omega
                                      refine x_getR (np := 140) (x := 720) (f := 16) (q := 83) (by decide +kernel) (by decide) (by decide +kernel) q278033 ?_
                                      refine x_iload (np := 141) (x := 2) (by decide +kernel) rfl (by first | decide | omega) ?_
                                      obtain ⟨u278034, q278035⟩ : ∃ z, v272270 = 2147483648 + z := ⟨v272270 - 2147483648, by first | decide | omega⟩
                                      have q278036 : h278023 83 u278034 = h272274 83 u278034 := jK u278034 f278024 rg_83_0_1_6 (by first | decide | omega) (by first | decide | omega) (by decide)
                                      have q278037 : h272274 83 u278034 = h266244 83 u278034 := jK u278034 f272275 rg_83_0_1_6 (by first | decide | omega) (by first | decide | omega) (by decide)
                                      have b278038 := jB (e := u278034) u278034 j266246 rg_83_0_1_6 (by first | decide | omega) (by first | decide | omega)
                                      refine x_aldC (np := 142) (x := 0) (n := 6) (i := u278034) (q := (h266244 83 u278034)) (by decide +kernel) (by decide +kernel) (by first | decide | omega) (by first | decide | omega) (by decide) (q278036.trans q278037) (fun l278039 => ?_)
                                      refine x_icmp (k := 3) (tg := 195) (np := 145) (by decide +kernel) (by decide) (by first | decide | omega) l278039 (fun q278040 => ?_) (fun q278041 => ?_)
                                      · have q278040 : (h266244 83 u278034) ≤ v278020 := q278040
                                        refine x_iinc (np := 198) (i := 2) (j := 2147483649) (v := (1 + v272270)) (lo' := [x_r 75, iv_c v265838, iv_c (1 + v272270), iv_c v278020, w278022]) (by decide +kernel) (by decide) (by decide) rfl (by first | decide | omega) (by first | decide | omega) (by first | decide | omega) rfl ?_
                                        refine x_goto (np := 201) (x := 125) (by decide +kernel) ?_
                                        exact i272280 (1 + v272270) (iv_c v278020) w278022 h278023 (by first | decide | omega) (by first | decide | omega) j278025 f278032 m278027
                                      have q278041 : ¬ ((h266244 83 u278034) ≤ v278020) := q278041
                                      refine x_aload (np := 146) (x := 0) (by decide +kernel) rfl (x_nc_le (by decide)) ?_
                                      have q278042 : h278023 75 17 = 84 := by have z := jB (e := 17) 0 j278025 rg_75_17_0_1 (by decide) (by decide); omega
                                      refine x_getR (np := 149) (x := 721) (f := 17) (q := 84) (by decide +kernel) (by decide) (by decide +kernel) q278042 ?_
                                      refine x_const (np := 151) (x := 9223372124901605396) (a := 2147483668) (by decide +kernel) (by decide) (by decide) ?_
                                      refine x_iload (np := 152) (x := 2) (by decide +kernel) rfl (by first | decide | omega) ?_
                                      refine x_imul (np := 153) (x := 0) (i := 20) (j := u278034) (v := (2147483648 + 20 * u278034)) (by decide +kernel) (by first | decide | omega) (by first | decide | omega) (by first | decide | omega) (by first | decide | omega) (by decide) (by first | decide | omega) ?_
                                      refine x_iload (np := 154) (x := 3) (by decide +kernel) rfl (by first | decide | omega) ?_
                                      refine x_iadd (np := 155) (x := 0) (v := (20 * u278034 + v278020)) (by decide +kernel) (by first | decide | omega) (by first | decide | omega) (by first | decide | omega) (by first | decide | omega) ?_
                                      obtain ⟨u278044, q278045⟩ : ∃ z, v278020 = 2147483648 + z := ⟨v278020 - 2147483648, by first | decide | omega⟩
                                      have q278046 : h278023 84 (20 * u278034 + u278044) = h272274 84 (20 * u278034 + u278044) := jK (20 * u278034 + u278044) f278024 rg_84_0_1_120 (by first | decide | omega) (by first | decide | omega) (by decide)
                                      have q278047 : h272274 84 (20 * u278034 + u278044) = h266244 84 (20 * u278034 + u278044) := jK (20 * u278034 + u278044) f272275 rg_84_0_1_120 (by first | decide | omega) (by first | decide | omega) (by decide)
                                      have q278048 : h266244 84 (20 * u278034 + u278044) = h266001 84 (20 * u278034 + u278044) := jK (20 * u278034 + u278044) f266245 rg_84_0_1_120 (by first | decide | omega) (by first | decide | omega) (by decide)
                                      have q278049 : h266001 84 (20 * u278034 + u278044) = h265843 84 (20 * u278034 + u278044) := jK (20 * u278034 + u278044) f266002 rg_84_0_1_120 (by first | decide | omega) (by first | decide | omega) (by decide)
                                      have b278050 := jB (e := (20 * u278034 + u278044)) (20 * u278034 + u278044) j265845 rg_84_0_1_120 (by first | decide | omega) (by first | decide | omega)
                                      refine x_aldC (np := 156) (x := 0) (n := 120) (i := (20 * u278034 + u278044)) (q := ((h265843 84 (20 * u278034 + u278044)))) (by decide +kernel) (by decide +kernel) (by first | decide | omega) (by first | decide | omega) (by decide) (((q278046.trans q278047).trans q278048).trans q278049) (fun l278051 => ?_)
                                      refine x_istore (np := 158) (x := 4) (lo' := [x_r 75, iv_c v265838, iv_c v272270, iv_c v278020, iv_c ((h265843 84 (20 * u278034 + u278044)))]) (by decide +kernel) l278051 (Nat.le_of_ble_eq_true rfl) rfl ?_
                                      refine x_aload (np := 159) (x := 0) (by decide +kernel) rfl (x_nc_le (by decide)) ?_
                                      have q278052 : h278023 75 23 = 90 := by have z := jB (e := 23) 0 j278025 rg_75_23_0_1 (by decide) (by decide); omega
                                      refine x_getR (np := 162) (x := 727) (f := 23) (q := 90) (by decide +kernel) (by decide) (by decide +kernel) q278052 ?_
                                      refine x_iload (np := 164) (x := 4) (by decide +kernel) rfl l278051 ?_
                                      refine x_dup2 (np := 165) (x := 0) (by decide +kernel) (by have z := (iw_c_lt (a := ((h265843 84 (20 * u278034 + u278044)))) l278051).1; omega) (by have z := x_nc_le (k := 90) (by decide); unfold x_r; omega) ?_
                                      obtain ⟨u278053, q278054⟩ : ∃ z, ((h265843 84 (20 * u278034 + u278044))) = 2147483648 + z := ⟨((h265843 84 (20 * u278034 + u278044))) - 2147483648, by first | decide | omega⟩
                                      refine x_aldC (np := 166) (x := 0) (n := 20) (i := u278053) (q := (h278023 90 u278053)) (by decide +kernel) (by decide +kernel) (by first | decide | omega) (by first | decide | omega) (by decide) rfl (fun l278055 => ?_)
                                      refine x_aload (np := 167) (x := 0) (by decide +kernel) rfl (x_nc_le (by decide)) ?_
                                      refine x_iload (np := 169) (x := 4) (by decide +kernel) rfl l278051 ?_
                                      refine x_iload (np := 170) (x := 1) (by decide +kernel) rfl (by first | decide | omega) ?_
                                      refine x_cP (t := 6) (mj := 202) (n := 3) (rc := 12) (ml := 3) (nr := 3) (np := 173) (as := [x_r 75, iv_c ((h265843 84 (20 * u278034 + u278044))), iv_c v265838]) (rest := [iv_c (h278023 90 u278053), iv_c ((h265843 84 (20 * u278034 + u278044))), x_r 90]) (lo1 := [x_r 75, iv_c ((h265843 84 (20 * u278034 + u278044))), iv_c v265838]) (by decide +kernel) (by decide) (by decide +kernel) (x_rb_of (by decide +kernel)) rfl rfl (x_wr (by decide) (x_wi l278051 (x_wi (by first | decide | omega) x_wn))) (x_wi l278055 (x_wi l278051 (x_wr (by decide) x_wn))) (by decide) rfl (c202_75 j278025  (by first | decide | omega) (by first | decide | omega)) (fun v278056 l278057 q278058 => ?_)
                                      refine x_ifz (k := 0) (tg := 186) (np := 176) (by decide +kernel) (by decide) l278057 (fun q278059 => ?_) (fun q278060 => ?_)
                                      · have q278059 : v278056 = 2147483648 := q278059
                                        refine x_const (np := 187) (x := 9223372039002259456) (a := 2147483648) (by decide +kernel) (by decide) (by decide) ?_
                                        refine x_iadd (np := 188) (x := 0) (v := (h278023 90 u278053)) (by decide +kernel) l278055 (by decide) (by first | decide | omega) (by first | decide | omega) ?_
                                        refine x_ast (np := 189) (x := 0) (kd := 1) (n := 20) (i := u278053) (by decide +kernel) (Or.inl rfl) (by decide +kernel) (by first | decide | omega) (by first | decide | omega) (by decide) l278055 (fun z => absurd z (by decide)) ?_
                                        have j278062 := jU (e := u278053) (v := (h278023 90 u278053)) u278053 j278025 rg_90_0_1_20 (by first | decide | omega) (by first | decide | omega) (by first | decide | omega)
                                        have f278064 := jF (e := u278053) (v := (h278023 90 u278053)) u278053 f278030 rg_90_0_1_20 (by first | decide | omega) (by first | decide | omega) (by decide)
                                        have f278065 := jF (e := u278053) (v := (h278023 90 u278053)) u278053 f278031 rg_90_0_1_20 (by first | decide | omega) (by first | decide | omega) (by decide)
                                        have f278066 := jF (e := u278053) (v := (h278023 90 u278053)) u278053 f278032 rg_90_0_1_20 (by first | decide | omega) (by first | decide | omega) (by decide)
                                        have f278067 := jF (e := u278053) (v := (h278023 90 u278053)) u278053 f278024 rg_90_0_1_20 (by first | decide | omega) (by first | decide | omega) (by decide)
                                        have m278068 := MB.oth (q := 90) (e := u278053) (v := (h278023 90 u278053)) m278027 (by decide)
                                        generalize e278063 : x_up h278023 90 u278053 (h278023 90 u278053) = h278061 at j278062 f278064 f278065 f278066 f278067 m278068 ⊢
                                        refine x_iinc (np := 192) (i := 3) (j := 2147483649) (v := (1 + v278020)) (lo' := [x_r 75, iv_c v265838, iv_c v272270, iv_c (1 + v278020), iv_c ((h265843 84 (20 * u278034 + u278044)))]) (by decide +kernel) (by decide) (by decide) rfl (by first | decide | omega) (by first | decide | omega) (by first | decide | omega) rfl ?_
                                        refine x_goto (np := 195) (x := 135) (by decide +kernel) ?_
                                        exact i278029 (1 + v278020) (iv_c ((h265843 84 (20 * u278034 + u278044)))) h278061 (by first | decide | omega) (by first | decide | omega) j278062 f278067 m278068
                                      have q278060 : ¬ (v278056 = 2147483648) := q278060
                                      refine x_aload (np := 177) (x := 0) (by decide +kernel) rfl (x_nc_le (by decide)) ?_
                                      refine x_iload (np := 179) (x := 4) (by decide +kernel) rfl l278051 ?_
                                      refine x_const (np := 180) (x := 9223372060477095941) (a := 2147483653) (by decide +kernel) (by decide) (by decide) ?_
                                      refine x_nI (t := 6) (mj := 161) (n := 3) (rc := 12) (ml := 3) (nr := 3) (np := 183) (as := [x_r 75, iv_c ((h265843 84 (20 * u278034 + u278044))), iv_c 2147483653]) (rest := [iv_c (h278023 90 u278053), iv_c ((h265843 84 (20 * u278034 + u278044))), x_r 90]) (lo1 := [x_r 75, iv_c ((h265843 84 (20 * u278034 + u278044))), iv_c 2147483653]) (by decide +kernel) (by decide) (by decide +kernel) (x_rb_of (by decide +kernel)) rfl rfl (x_wr (by decide) (x_wi l278051 (x_wi (by decide) x_wn))) (x_wi l278055 (x_wi l278051 (x_wr (by decide) x_wn))) (by decide) rfl ?_
                                      refine x_aload (np := 1) (x := 0) (by decide +kernel) rfl (x_nc_le (by decide)) ?_
                                      have q278069 : h278023 75 1 = 76 := by have z := jB (e := 1) 0 j278025 rg_75_1_0_1 (by decide) (by decide); omega
                                      refine x_getR (np := 4) (x := 705) (f := 1) (q := 76) (by decide +kernel) (by decide) (by decide +kernel) q278069 ?_
                                      refine x_const (np := 6) (x := 9223372124901605396) (a := 2147483668) (by decide +kernel) (by decide) (by decide) ?_
                                      refine x_const (np := 8) (x := 9223372069067030535) (a := 2147483655) (by decide +kernel) (by decide) (by decide) ?_
                                      refine x_iload (np := 9) (x := 1) (by decide +kernel) rfl l278051 ?_
                                      refine x_imul (np := 10) (x := 0) (i := 7) (j := u278053) (v := (2147483648 + 7 * u278053)) (by decide +kernel) (by first | decide | omega) (by first | decide | omega) (by first | decide | omega) (by first | decide | omega) (by decide) l278051 ?_
                                      refine x_iadd (np := 11) (x := 0) (v := (2147483668 + 7 * u278053)) (by decide +kernel) (by decide) (by first | decide | omega) (by first | decide | omega) (by first | decide | omega) ?_
                                      refine x_iload (np := 12) (x := 2) (by decide +kernel) rfl (by decide) ?_
                                      refine x_iadd (np := 13) (x := 0) (v := (2147483673 + 7 * u278053)) (by decide +kernel) (by first | decide | omega) (by decide) (by first | decide | omega) (by first | decide | omega) ?_
                                      have q278071 : h278023 76 (25 + 7 * u278053) = h272274 76 (25 + 7 * u278053) := jK u278053 f278024 rg_76_25_7_20 (by first | decide | omega) (by first | decide | omega) (by decide)
                                      have q278072 : h272274 76 (25 + 7 * u278053) = h266244 76 (25 + 7 * u278053) := jK u278053 f272275 rg_76_25_7_20 (by first | decide | omega) (by first | decide | omega) (by decide)
                                      have q278073 : h266244 76 (25 + 7 * u278053) = h266001 76 (25 + 7 * u278053) := jK u278053 f266245 rg_76_25_7_20 (by first | decide | omega) (by first | decide | omega) (by decide)
                                      have q278074 : h266001 76 (25 + 7 * u278053) = h265843 76 (25 + 7 * u278053) := jK u278053 f266002 rg_76_25_7_20 (by first | decide | omega) (by first | decide | omega) (by decide)
                                      have q278075 : h265843 76 (25 + 7 * u278053) = h564 76 (25 + 7 * u278053) := jK u278053 f265844 rg_76_25_7_20 (by first | decide | omega) (by first | decide | omega) (by decide)
                                      have q278076 : h564 76 (25 + 7 * u278053) = h102 76 (25 + 7 * u278053) := jK u278053 f565 rg_76_25_7_20 (by first | decide | omega) (by first | decide | omega) (by decide)
                                      have q278077 : h102 76 (25 + 7 * u278053) = h 76 (25 + 7 * u278053) := jK u278053 f103 rg_76_25_7_20 (by first | decide | omega) (by first | decide | omega) (by decide)
                                      refine x_aldC (np := 14) (x := 0) (n := 1952) (i := (25 + 7 * u278053)) (q := ((h 76 (25 + 7 * u278053)))) (by decide +kernel) (by decide +kernel) (by first | decide | omega) (by first | decide | omega) (by decide) ((((((q278071.trans q278072).trans q278073).trans q278074).trans q278075).trans q278076).trans q278077) (fun l278078 => ?_)
                                      refine x_retI (np := 15) (x := 0) (by decide +kernel) l278078 (Or.inl (by decide +kernel)) ⟨_, rfl, l278078, ?_⟩
                                      refine x_goto (np := 186) (x := 187) (by decide +kernel) ?_
                                      refine x_addA (by rw [tb_b210]; decide +kernel) l278055 l278078 (fun v278079 l278080 => ?_)
                                      refine x_ast (np := 189) (x := 0) (kd := 1) (n := 20) (i := u278053) (by decide +kernel) (Or.inl rfl) (by decide +kernel) (by first | decide | omega) (by first | decide | omega) (by decide) l278080 (fun z => absurd z (by decide)) ?_
                                      have j278082 := jU (e := u278053) (v := v278079) u278053 j278025 rg_90_0_1_20 (by first | decide | omega) (by first | decide | omega) (by first | decide | omega)
                                      have f278084 := jF (e := u278053) (v := v278079) u278053 f278030 rg_90_0_1_20 (by first | decide | omega) (by first | decide | omega) (by decide)
                                      have f278085 := jF (e := u278053) (v := v278079) u278053 f278031 rg_90_0_1_20 (by first | decide | omega) (by first | decide | omega) (by decide)
                                      have f278086 := jF (e := u278053) (v := v278079) u278053 f278032 rg_90_0_1_20 (by first | decide | omega) (by first | decide | omega) (by decide)
                                      have f278087 := jF (e := u278053) (v := v278079) u278053 f278024 rg_90_0_1_20 (by first | decide | omega) (by first | decide | omega) (by decide)
                                      have m278088 := MB.oth (q := 90) (e := u278053) (v := v278079) m278027 (by decide)
                                      generalize e278083 : x_up h278023 90 u278053 v278079 = h278081 at j278082 f278084 f278085 f278086 f278087 m278088 ⊢
                                      refine x_iinc (np := 192) (i := 3) (j := 2147483649) (v := (1 + v278020)) (lo' := [x_r 75, iv_c v265838, iv_c v272270, iv_c (1 + v278020), iv_c ((h265843 84 (20 * u278034 + u278044)))]) (by decide +kernel) (by decide) (by decide) rfl (by first | decide | omega) (by first | decide | omega) (by first | decide | omega) rfl ?_
                                      refine x_goto (np := 195) (x := 135) (by decide +kernel) ?_
                                      exact i278029 (1 + v278020) (iv_c ((h265843 84 (20 * u278034 + u278044)))) h278081 (by first | decide | omega) (by first | decide | omega) j278082 f278087 m278088
                                  exact p278026 _ 2147483648 w272273 h272274 (Nat.lt_succ_self _) (by first | decide | omega) j272276 (Fr.refl _ _) m272278
                              exact p272277 _ 2147483648 w265841 w265842 h266244 (Nat.lt_succ_self _) (by first | decide | omega) j266246 (Fr.refl _ _) m266248
                            have q266261 : ¬ ((h 76 0) ≤ v266242) := q266261
                            refine x_aload (np := 97) (x := 0) (by decide +kernel) rfl (x_nc_le (by decide)) ?_
                            have q278089 : h266244 75 1 = 76 := by have z := jB (e := 1) 0 j266246 rg_75_1_0_1 (by decide) (by decide); omega
                            refine x_getR (np := 100) (x := 705) (f := 1) (q := 76) (by decide +kernel) (by decide) (by decide +kernel) q278089 ?_
                            refine x_const (np := 102) (x := 9223372069067030535) (a := 2147483655) (by decide +kernel) (by decide) (by decide) ?_
                            have q278090 : h266244 76 7 = h266001 76 7 := jK 0 f266245 rg_76_7_0_1 (by first | decide | omega) (by first | decide | omega) (by decide)
                            have q278091 : h266001 76 7 = h265843 76 7 := jK 0 f266002 rg_76_7_0_1 (by first | decide | omega) (by first | decide | omega) (by decide)
                            have q278092 : h265843 76 7 = h564 76 7 := jK 0 f265844 rg_76_7_0_1 (by first | decide | omega) (by first | decide | omega) (by decide)
                            have q278093 : h564 76 7 = h102 76 7 := jK 0 f565 rg_76_7_0_1 (by first | decide | omega) (by first | decide | omega) (by decide)
                            have q278094 : h102 76 7 = h 76 7 := jK 0 f103 rg_76_7_0_1 (by first | decide | omega) (by first | decide | omega) (by decide)
                            refine x_aldC (np := 103) (x := 0) (n := 1952) (i := 7) (q := (h 76 7)) (by decide +kernel) (by decide +kernel) (by first | decide | omega) (by first | decide | omega) (by decide) ((((q278090.trans q278091).trans q278092).trans q278093).trans q278094) (fun l278095 => ?_)
                            refine x_iload (np := 104) (x := 1) (by decide +kernel) rfl (by first | decide | omega) ?_
                            refine x_any (np := 105) (k9 := 4) (by decide +kernel) (by decide) l278095 (by first | decide | omega) (fun v278096 l278097 => ?_)
                            refine x_const (np := 106) (x := 9223372043297226753) (a := 2147483649) (by decide +kernel) (by decide) (by decide) ?_
                            refine x_mask (np := 107) (m := 1) (k9 := 2) (by decide +kernel) l278097 (by decide +kernel) (by decide) (by decide) (by decide) (fun u278098 l278099 => ?_)
                            refine x_const (np := 108) (x := 9223372043297226753) (a := 2147483649) (by decide +kernel) (by decide) (by decide) ?_
                            refine x_icmp (k := 1) (tg := 123) (np := 111) (by decide +kernel) (by decide) (by first | decide | omega) (by decide) (fun q278100 => ?_) (fun q278101 => ?_)
                            · have q278100 : (2147483648 + u278098) ≠ 2147483649 := q278100
                              refine x_const (np := 124) (x := 9223372039002259456) (a := 2147483648) (by decide +kernel) (by decide) (by decide) ?_
                              refine x_istore (np := 125) (x := 2) (lo' := [x_r 75, iv_c v265838, iv_c 2147483648, w265841, w265842]) (by decide +kernel) (by decide) (Nat.le_of_ble_eq_true rfl) rfl ?_
                              have p284117 : ∀ (n : Nat) (v284110 : Nat) (w284112 : Nat) (w284113 : Nat) (h284114 : xh), 4294967296 - v284110 < n → (2147483648 ≤ v284110 ∧ v284110 ≤ 2147483654) → J h284114 → Fr 34359738368 h266244 h284114 → MB 6 (cn (fun l => h 76 (22 + 7 * l)) v265838 0 20) h284114 → X sc 210 (d + 4) (xV fun h' => J h' ∧ Fr 135291469825 h h') 0 0 125 [x_r 75, iv_c v265838, iv_c v284110, w284112, w284113] [] h284114 := by
                                intro n
                                induction n with
                                | zero => intro v284110 w284112 w284113 h284114 q284119; exact absurd q284119 (Nat.not_lt_zero _)
                                | succ n i284120 =>
                                  intro v284110 w284112 w284113 h284114 q284119 b284111 j284116 f284115 m284118
                                  have f284121 := Fr.trans f266251 f284115 (by decide)
                                  have f284122 := Fr.trans f266252 f284115 (by decide)
                                  refine x_iload (np := 126) (x := 2) (by decide +kernel) rfl (by first | decide | omega) ?_
                                  refine x_aload (np := 127) (x := 0) (by decide +kernel) rfl (x_nc_le (by decide)) ?_
                                  refine x_nI (t := 6) (mj := 157) (n := 1) (rc := 12) (ml := 1) (nr := 1) (np := 130) (as := [x_r 75]) (rest := [iv_c v284110]) (lo1 := [x_r 75]) (by decide +kernel) (by decide) (by decide +kernel) (x_rb_of (by decide +kernel)) rfl rfl (x_wr (by decide) x_wn) (x_wi (by first | decide | omega) x_wn) (by decide) rfl ?_
                                  refine x_aload (np := 1) (x := 0) (by decide +kernel) rfl (x_nc_le (by decide)) ?_
                                  have q284123 : h284114 75 1 = 76 := by have z := jB (e := 1) 0 j284116 rg_75_1_0_1 (by decide) (by decide); omega
                                  refine x_getR (np := 4) (x := 705) (f := 1) (q := 76) (by decide +kernel) (by decide) (by decide +kernel) q284123 ?_
                                  refine x_const (np := 5) (x := 9223372039002259456) (a := 2147483648) (by decide +kernel) (by decide) (by decide) ?_
                                  have q284124 : h284114 76 0 = h266244 76 0 := jK 0 f284115 rg_76_0_0_1 (by first | decide | omega) (by first | decide | omega) (by decide)
                                  have q284125 : h266244 76 0 = h266001 76 0 := jK 0 f266245 rg_76_0_0_1 (by first | decide | omega) (by first | decide | omega) (by decide)
                                  have q284126 : h266001 76 0 = h265843 76 0 := jK 0 f266002 rg_76_0_0_1 (by first | decide | omega) (by first | decide | omega) (by decide)
                                  have q284127 : h265843 76 0 = h564 76 0 := jK 0 f265844 rg_76_0_0_1 (by first | decide | omega) (by first | decide | omega) (by decide)
                                  have q284128 : h564 76 0 = h102 76 0 := jK 0 f565 rg_76_0_0_1 (by first | decide | omega) (by first | decide | omega) (by decide)
                                  have q284129 : h102 76 0 = h 76 0 := jK 0 f103 rg_76_0_0_1 (by first | decide | omega) (by first | decide | omega) (by decide)
                                  refine x_aldC (np := 6) (x := 0) (n := 1952) (i := 0) (q := (h 76 0)) (by decide +kernel) (by decide +kernel) (by first | decide | omega) (by first | decide | omega) (by decide) (((((q284124.trans q284125).trans q284126).trans q284127).trans q284128).trans q284129) (fun l284130 => ?_)
                                  refine x_retI (np := 7) (x := 0) (by decide +kernel) l266016 (Or.inl (by decide +kernel)) ⟨_, rfl, l266016, ?_⟩
                                  refine x_icmp (k := 3) (tg := 201) (np := 133) (by decide +kernel) (by decide) (by first | decide | omega) l266016 (fun q284131 => ?_) (fun q284132 => ?_)
                                  · have q284131 : (h 76 0) ≤ v284110 := q284131
                                    refine x_const (np := 202) (x := 9223372039002259456) (a := 2147483648) (by decide +kernel) (by decide) (by decide) ?_
                                    refine x_istore (np := 203) (x := 2) (lo' := [x_r 75, iv_c v265838, iv_c 2147483648, w284112, w284113]) (by decide +kernel) (by decide) (Nat.le_of_ble_eq_true rfl) rfl ?_
                                    have p284882 : ∀ (n : Nat) (v284877 : Nat) (h284879 : xh), 4294967296 - v284877 < n → (2147483648 ≤ v284877 ∧ v284877 ≤ 2147483668) → J h284879 → Fr 66571993089 h284114 h284879 → MB 6 (cn (fun l => h 76 (22 + 7 * l)) v265838 (v284877 - 2147483648) 20) h284879 → X sc 210 (d + 4) (xV fun h' => J h' ∧ Fr 135291469825 h h') 0 0 203 [x_r 75, iv_c v265838, iv_c v284877, w284112, w284113] [] h284879 := by
                                      intro n
                                      induction n with
                                      | zero => intro v284877 h284879 q284884; exact absurd q284884 (Nat.not_lt_zero _)
                                      | succ n i284885 =>
                                        intro v284877 h284879 q284884 b284878 j284881 f284880 m284883
                                        have f284886 := Fr.trans f284121 f284880 (by decide)
                                        have f284887 := Fr.trans f284122 f284880 (by decide)
                                        refine x_iload (np := 204) (x := 2) (by decide +kernel) rfl (by first | decide | omega) ?_
                                        refine x_aload (np := 205) (x := 0) (by decide +kernel) rfl (x_nc_le (by decide)) ?_
                                        have q284888 : h284879 75 1 = 76 := by have z := jB (e := 1) 0 j284881 rg_75_1_0_1 (by decide) (by decide); omega
                                        refine x_getR (np := 208) (x := 705) (f := 1) (q := 76) (by decide +kernel) (by decide) (by decide +kernel) q284888 ?_
                                        refine x_const (np := 209) (x := 9223372047592194050) (a := 2147483650) (by decide +kernel) (by decide) (by decide) ?_
                                        have q284889 : h284879 76 2 = h284114 76 2 := jK 0 f284880 rg_76_2_0_1 (by first | decide | omega) (by first | decide | omega) (by decide)
                                        have q284890 : h284114 76 2 = h266244 76 2 := jK 0 f284115 rg_76_2_0_1 (by first | decide | omega) (by first | decide | omega) (by decide)
                                        have q284891 : h266244 76 2 = h266001 76 2 := jK 0 f266245 rg_76_2_0_1 (by first | decide | omega) (by first | decide | omega) (by decide)
                                        have q284892 : h266001 76 2 = h265843 76 2 := jK 0 f266002 rg_76_2_0_1 (by first | decide | omega) (by first | decide | omega) (by decide)
                                        have q284893 : h265843 76 2 = h564 76 2 := jK 0 f265844 rg_76_2_0_1 (by first | decide | omega) (by first | decide | omega) (by decide)
                                        have q284894 : h564 76 2 = h102 76 2 := jK 0 f565 rg_76_2_0_1 (by first | decide | omega) (by first | decide | omega) (by decide)
                                        have q284895 : h102 76 2 = h 76 2 := jK 0 f103 rg_76_2_0_1 (by first | decide | omega) (by first | decide | omega) (by decide)
                                        have b284896 := jB (e := 2) 0 hJ rg_76_2_0_1 (by first | decide | omega) (by first | decide | omega)
                                        refine x_aldC (np := 210) (x := 0) (n := 1952) (i := 2) (q := (h 76 2)) (by decide +kernel) (by decide +kernel) (by first | decide | omega) (by first | decide | omega) (by decide) ((((((q284889.trans q284890).trans q284891).trans q284892).trans q284893).trans q284894).trans q284895) (fun l284897 => ?_)
                                        refine x_icmp (k := 3) (tg := 235) (np := 213) (by decide +kernel) (by decide) (by first | decide | omega) l284897 (fun q284898 => ?_) (fun q284899 => ?_)
                                        · have q284898 : (h 76 2) ≤ v284877 := q284898
                                          refine x_const (np := 236) (x := 9223372039002259456) (a := 2147483648) (by decide +kernel) (by decide) (by decide) ?_
                                          refine x_istore (np := 237) (x := 2) (lo' := [x_r 75, iv_c v265838, iv_c 2147483648, w284112, w284113]) (by decide +kernel) (by decide) (Nat.le_of_ble_eq_true rfl) rfl ?_
                                          have p288326 : ∀ (n : Nat) (v288319 : Nat) (w288321 : Nat) (w288322 : Nat) (h288323 : xh), 4294967296 - v288319 < n → (2147483648 ≤ v288319 ∧ v288319 ≤ 2147483654) → J h288323 → Fr 103079215104 h284879 h288323 → MB 6 (cn (fun l => h 76 (22 + 7 * l)) (1 + v265838) 0 20) h288323 → X sc 210 (d + 4) (xV fun h' => J h' ∧ Fr 135291469825 h h') 0 0 237 [x_r 75, iv_c v265838, iv_c v288319, w288321, w288322] [] h288323 := by
                                            intro n
                                            induction n with
                                            | zero => intro v288319 w288321 w288322 h288323 q288328; exact absurd q288328 (Nat.not_lt_zero _)
                                            | succ n i288329 =>
                                              intro v288319 w288321 w288322 h288323 q288328 b288320 j288325 f288324 m288327
                                              have f288330 := Fr.trans f284886 f288324 (by decide)
                                              have f288331 := Fr.trans f284887 f288324 (by decide)
                                              refine x_iload (np := 238) (x := 2) (by decide +kernel) rfl (by first | decide | omega) ?_
                                              refine x_aload (np := 239) (x := 0) (by decide +kernel) rfl (x_nc_le (by decide)) ?_
                                              refine x_nI (t := 6) (mj := 157) (n := 1) (rc := 12) (ml := 1) (nr := 1) (np := 242) (as := [x_r 75]) (rest := [iv_c v288319]) (lo1 := [x_r 75]) (by decide +kernel) (by decide) (by decide +kernel) (x_rb_of (by decide +kernel)) rfl rfl (x_wr (by decide) x_wn) (x_wi (by first | decide | omega) x_wn) (by decide) rfl ?_
                                              refine x_aload (np := 1) (x := 0) (by decide +kernel) rfl (x_nc_le (by decide)) ?_
                                              have q288332 : h288323 75 1 = 76 := by have z := jB (e := 1) 0 j288325 rg_75_1_0_1 (by decide) (by decide); omega
                                              refine x_getR (np := 4) (x := 705) (f := 1) (q := 76) (by decide +kernel) (by decide) (by decide +kernel) q288332 ?_
                                              refine x_const (np := 5) (x := 9223372039002259456) (a := 2147483648) (by decide +kernel) (by decide) (by decide) ?_
                                              have q288333 : h288323 76 0 = h284879 76 0 := jK 0 f288324 rg_76_0_0_1 (by first | decide | omega) (by first | decide | omega) (by decide)
                                              have q288334 : h284879 76 0 = h284114 76 0 := jK 0 f284880 rg_76_0_0_1 (by first | decide | omega) (by first | decide | omega) (by decide)
                                              have q288335 : h284114 76 0 = h266244 76 0 := jK 0 f284115 rg_76_0_0_1 (by first | decide | omega) (by first | decide | omega) (by decide)
                                              have q288336 : h266244 76 0 = h266001 76 0 := jK 0 f266245 rg_76_0_0_1 (by first | decide | omega) (by first | decide | omega) (by decide)
                                              have q288337 : h266001 76 0 = h265843 76 0 := jK 0 f266002 rg_76_0_0_1 (by first | decide | omega) (by first | decide | omega) (by decide)
                                              have q288338 : h265843 76 0 = h564 76 0 := jK 0 f265844 rg_76_0_0_1 (by first | decide | omega) (by first | decide | omega) (by decide)
                                              have q288339 : h564 76 0 = h102 76 0 := jK 0 f565 rg_76_0_0_1 (by first | decide | omega) (by first | decide | omega) (by decide)
                                              have q288340 : h102 76 0 = h 76 0 := jK 0 f103 rg_76_0_0_1 (by first | decide | omega) (by first | decide | omega) (by decide)
                                              refine x_aldC (np := 6) (x := 0) (n := 1952) (i := 0) (q := (h 76 0)) (by decide +kernel) (by decide +kernel) (by first | decide | omega) (by first | decide | omega) (by decide) (((((((q288333.trans q288334).trans q288335).trans q288336).trans q288337).trans q288338).trans q288339).trans q288340) (fun l288341 => ?_)
                                              refine x_retI (np := 7) (x := 0) (by decide +kernel) l266016 (Or.inl (by decide +kernel)) ⟨_, rfl, l266016, ?_⟩
                                              refine x_icmp (k := 3) (tg := 349) (np := 245) (by decide +kernel) (by decide) (by first | decide | omega) l266016 (fun q288342 => ?_) (fun q288343 => ?_)
                                              · have q288342 : (h 76 0) ≤ v288319 := q288342
                                                refine x_iinc (np := 352) (i := 1) (j := 2147483649) (v := (1 + v265838)) (lo' := [x_r 75, iv_c (1 + v265838), iv_c v288319, w288321, w288322]) (by decide +kernel) (by decide) (by decide) rfl (by first | decide | omega) (by first | decide | omega) (by first | decide | omega) rfl ?_
                                                refine x_goto (np := 355) (x := 58) (by decide +kernel) ?_
                                                exact i265849 (1 + v265838) (iv_c v288319) w288321 w288322 h288323 (by first | decide | omega) (by first | decide | omega) j288325 f288331 m288327
                                              have q288343 : ¬ ((h 76 0) ≤ v288319) := q288343
                                              refine x_const (np := 247) (x := 9223372090541867020) (a := 2147483660) (by decide +kernel) (by decide) (by decide) ?_
                                              refine x_iload (np := 248) (x := 2) (by decide +kernel) rfl (by first | decide | omega) ?_
                                              obtain ⟨u288344, q288345⟩ : ∃ z, v288319 = 2147483648 + z := ⟨v288319 - 2147483648, by first | decide | omega⟩
                                              refine x_imul (np := 249) (x := 0) (i := 12) (j := u288344) (v := (2147483648 + 12 * u288344)) (by decide +kernel) (by first | decide | omega) (by first | decide | omega) (by first | decide | omega) (by first | decide | omega) (by decide) (by first | decide | omega) ?_
                                              refine x_iload (np := 250) (x := 1) (by decide +kernel) rfl (by first | decide | omega) ?_
                                              refine x_iadd (np := 251) (x := 0) (v := (12 * u288344 + v265838)) (by decide +kernel) (by first | decide | omega) (by first | decide | omega) (by first | decide | omega) (by first | decide | omega) ?_
                                              refine x_istore (np := 252) (x := 3) (lo' := [x_r 75, iv_c v265838, iv_c v288319, iv_c (12 * u288344 + v265838), w288322]) (by decide +kernel) (by first | decide | omega) (Nat.le_of_ble_eq_true rfl) rfl ?_
                                              refine x_aload (np := 253) (x := 0) (by decide +kernel) rfl (x_nc_le (by decide)) ?_
                                              have q288347 : h288323 75 18 = 85 := by have z := jB (e := 18) 0 j288325 rg_75_18_0_1 (by decide) (by decide); omega
                                              refine x_getR (np := 256) (x := 722) (f := 18) (q := 85) (by decide +kernel) (by decide) (by decide +kernel) q288347 ?_
                                              refine x_iload (np := 257) (x := 3) (by decide +kernel) rfl (by first | decide | omega) ?_
                                              refine x_aload (np := 258) (x := 0) (by decide +kernel) rfl (x_nc_le (by decide)) ?_
                                              have q288348 : h288323 75 16 = 83 := by have z := jB (e := 16) 0 j288325 rg_75_16_0_1 (by decide) (by decide); omega
                                              refine x_getR (np := 261) (x := 720) (f := 16) (q := 83) (by decide +kernel) (by decide) (by decide +kernel) q288348 ?_
                                              refine x_iload (np := 262) (x := 2) (by decide +kernel) rfl (by first | decide | omega) ?_
                                              have q288349 : h288323 83 u288344 = h284879 83 u288344 := jK u288344 f288324 rg_83_0_1_6 (by first | decide | omega) (by first | decide | omega) (by decide)
                                              have b288350 := jB (e := u288344) u288344 j284881 rg_83_0_1_6 (by first | decide | omega) (by first | decide | omega)
                                              refine x_aldC (np := 263) (x := 0) (n := 6) (i := u288344) (q := (h284879 83 u288344)) (by decide +kernel) (by decide +kernel) (by first | decide | omega) (by first | decide | omega) (by decide) q288349 (fun l288351 => ?_)
                                              obtain ⟨u288352, q288353⟩ : ∃ z, v265838 = 2147483648 + z := ⟨v265838 - 2147483648, by first | decide | omega⟩
                                              refine x_ast (np := 264) (x := 0) (kd := 1) (n := 72) (i := (12 * u288344 + u288352)) (by decide +kernel) (Or.inl rfl) (by decide +kernel) (by first | decide | omega) (by first | decide | omega) (by decide) l288351 (fun z => absurd z (by decide)) ?_
                                              have j288355 := jU (e := (12 * u288344 + u288352)) (v := (h284879 83 u288344)) (12 * u288344 + u288352) j288325 rg_85_0_1_72 (by first | decide | omega) (by first | decide | omega) (by first | decide | omega)
                                              have f288357 := jF (e := (12 * u288344 + u288352)) (v := (h284879 83 u288344)) (12 * u288344 + u288352) f288330 rg_85_0_1_72 (by first | decide | omega) (by first | decide | omega) (by decide)
                                              have f288358 := jF (e := (12 * u288344 + u288352)) (v := (h284879 83 u288344)) (12 * u288344 + u288352) f288331 rg_85_0_1_72 (by first | decide | omega) (by first | decide | omega) (by decide)
                                              have f288359 := jF (e := (12 * u288344 + u288352)) (v := (h284879 83 u288344)) (12 * u288344 + u288352) f288324 rg_85_0_1_72 (by first | decide | omega) (by first | decide | omega) (by decide)
                                              have m288360 := MB.oth (q := 85) (e := (12 * u288344 + u288352)) (v := (h284879 83 u288344)) m288327 (by decide)
                                              generalize e288356 : x_up h288323 85 (12 * u288344 + u288352) (h284879 83 u288344) = h288354 at j288355 f288357 f288358 f288359 m288360 ⊢
                                              refine x_const (np := 265) (x := 9223372039002259456) (a := 2147483648) (by decide +kernel) (by decide) (by decide) ?_
                                              refine x_istore (np := 267) (x := 4) (lo' := [x_r 75, iv_c v265838, iv_c v288319, iv_c (12 * u288344 + v265838), iv_c 2147483648]) (by decide +kernel) (by decide) (Nat.le_of_ble_eq_true rfl) rfl ?_
                                              have p288826 : ∀ (n : Nat) (v288821 : Nat) (h288823 : xh), 4294967296 - v288821 < n → (2147483648 ≤ v288821 ∧ v288821 ≤ 2147483668) → J h288823 → Fr 34359738368 h288354 h288823 → MB 6 (cn (fun l => h 76 (22 + 7 * l)) (1 + v265838) 0 20) h288823 → X sc 210 (d + 4) (xV fun h' => J h' ∧ Fr 135291469825 h h') 0 0 267 [x_r 75, iv_c v265838, iv_c v288319, iv_c (12 * u288344 + v265838), iv_c v288821] [] h288823 := by
                                                intro n
                                                induction n with
                                                | zero => intro v288821 h288823 q288828; exact absurd q288828 (Nat.not_lt_zero _)
                                                | succ n i288829 =>
                                                  intro v288821 h288823 q288828 b288822 j288825 f288824 m288827
                                                  have f288830 := Fr.trans f288357 f288824 (by decide)
                                                  have f288831 := Fr.trans f288358 f288824 (by decide)
                                                  have f288832 := Fr.trans f288359 f288824 (by decide)
                                                  refine x_iload (np := 269) (x := 4) (by decide +kernel) rfl (by first | decide | omega) ?_
                                                  refine x_aload (np := 270) (x := 0) (by decide +kernel) rfl (x_nc_le (by decide)) ?_
                                                  have q288833 : h288823 75 16 = 83 := by have z := jB (e := 16) 0 j288825 rg_75_16_0_1 (by decide) (by decide); omega
                                                  refine x_getR (np := 273) (x := 720) (f := 16) (q := 83) (by decide +kernel) (by decide) (by decide +kernel) q288833 ?_
                                                  refine x_iload (np := 274) (x := 2) (by decide +kernel) rfl (by first | decide | omega) ?_
                                                  have q288834 : h288823 83 u288344 = h288354 83 u288344 := jK u288344 f288824 rg_83_0_1_6 (by first | decide | omega) (by first | decide | omega) (by decide)
                                                  have q288835 : h288354 83 u288344 = h288323 83 u288344 := by rw [← e288356]; exact x_up_k (by decide)
                                                  have q288836 : h288323 83 u288344 = h284879 83 u288344 := jK u288344 f288324 rg_83_0_1_6 (by first | decide | omega) (by first | decide | omega) (by decide)
                                                  refine x_aldC (np := 275) (x := 0) (n := 6) (i := u288344) (q := (h284879 83 u288344)) (by decide +kernel) (by decide +kernel) (by first | decide | omega) (by first | decide | omega) (by decide) ((q288834.trans q288835).trans q288836) (fun l288837 => ?_)
                                                  refine x_icmp (k := 3) (tg := 308) (np := 278) (by decide +kernel) (by decide) (by first | decide | omega) l288351 (fun q288838 => ?_) (fun q288839 => ?_)
                                                  · have q288838 : (h284879 83 u288344) ≤ v288821 := q288838
                                                    refine x_aload (np := 309) (x := 0) (by decide +kernel) rfl (x_nc_le (by decide)) ?_
                                                    have q288840 : h288823 75 20 = 87 := by have z := jB (e := 20) 0 j288825 rg_75_20_0_1 (by decide) (by decide); omega
                                                    refine x_getR (np := 312) (x := 724) (f := 20) (q := 87) (by decide +kernel) (by decide) (by decide +kernel) q288840 ?_
                                                    refine x_iload (np := 313) (x := 3) (by decide +kernel) rfl (by first | decide | omega) ?_
                                                    refine x_aload (np := 314) (x := 0) (by decide +kernel) rfl (x_nc_le (by decide)) ?_
                                                    refine x_aload (np := 315) (x := 0) (by decide +kernel) rfl (x_nc_le (by decide)) ?_
                                                    refine x_iload (np := 316) (x := 2) (by decide +kernel) rfl (by first | decide | omega) ?_
                                                    refine x_cP (t := 6) (mj := 203) (n := 2) (rc := 12) (ml := 2) (nr := 3) (np := 319) (as := [x_r 75, iv_c v288319]) (rest := [x_r 75, iv_c (12 * u288344 + v265838), x_r 87]) (lo1 := [x_r 75, iv_c v288319]) (by decide +kernel) (by decide) (by decide +kernel) (x_rb_of (by decide +kernel)) rfl rfl (x_wr (by decide) (x_wi (by first | decide | omega) x_wn)) (x_wr (by decide) (x_wi (by first | decide | omega) (x_wr (by decide) x_wn))) (by decide) rfl (c203_75 j288825  (by first | decide | omega)) (fun v288841 l288842 q288843 => ?_)
                                                    refine x_iload (np := 320) (x := 1) (by decide +kernel) rfl (by first | decide | omega) ?_
                                                    refine x_cP (t := 6) (mj := 200) (n := 3) (rc := 12) (ml := 3) (nr := 2) (np := 323) (as := [x_r 75, iv_c v288841, iv_c v265838]) (rest := [iv_c (12 * u288344 + v265838), x_r 87]) (lo1 := [x_r 75, iv_c v288841, iv_c v265838]) (by decide +kernel) (by decide) (by decide +kernel) (x_rb_of (by decide +kernel)) rfl rfl (x_wr (by decide) (x_wi l288842 (x_wi (by first | decide | omega) x_wn))) (x_wi (by first | decide | omega) (x_wr (by decide) x_wn)) (by decide) rfl (c200_75 j288825  (by first | decide | omega) (by first | decide | omega)) (fun v288844 l288845 q288846 => ?_)
                                                    refine x_ifz (k := 0) (tg := 334) (np := 326) (by decide +kernel) (by decide) l288845 (fun q288847 => ?_) (fun q288848 => ?_)
                                                    · have q288847 : v288844 = 2147483648 := q288847
                                                      refine x_const (np := 335) (x := 9223372034707292159) (a := 2147483647) (by decide +kernel) (by decide) (by decide) ?_
                                                      refine x_ast (np := 336) (x := 0) (kd := 1) (n := 72) (i := (12 * u288344 + u288352)) (by decide +kernel) (Or.inl rfl) (by decide +kernel) (by first | decide | omega) (by first | decide | omega) (by decide) (by decide) (fun z => absurd z (by decide)) ?_
                                                      have j288850 := jU (e := (12 * u288344 + u288352)) (v := 2147483647) (12 * u288344 + u288352) j288825 rg_87_0_1_72 (by first | decide | omega) (by first | decide | omega) (by first | decide | omega)
                                                      have f288852 := jF (e := (12 * u288344 + u288352)) (v := 2147483647) (12 * u288344 + u288352) f288830 rg_87_0_1_72 (by first | decide | omega) (by first | decide | omega) (by decide)
                                                      have f288853 := jF (e := (12 * u288344 + u288352)) (v := 2147483647) (12 * u288344 + u288352) f288831 rg_87_0_1_72 (by first | decide | omega) (by first | decide | omega) (by decide)
                                                      have f288854 := jF (e := (12 * u288344 + u288352)) (v := 2147483647) (12 * u288344 + u288352) f288832 rg_87_0_1_72 (by first | decide | omega) (by first | decide | omega) (by decide)
                                                      have m288855 := MB.oth (q := 87) (e := (12 * u288344 + u288352)) (v := 2147483647) m288827 (by decide)
                                                      generalize e288851 : x_up h288823 87 (12 * u288344 + u288352) 2147483647 = h288849 at j288850 f288852 f288853 f288854 m288855 ⊢
                                                      refine x_aload (np := 337) (x := 0) (by decide +kernel) rfl (x_nc_le (by decide)) ?_
                                                      have q288856 : h288849 75 24 = 91 := by have z := jB (e := 24) 0 j288850 rg_75_24_0_1 (by decide) (by decide); omega
                                                      refine x_getR (np := 340) (x := 728) (f := 24) (q := 91) (by decide +kernel) (by decide) (by decide +kernel) q288856 ?_
                                                      refine x_iload (np := 341) (x := 3) (by decide +kernel) rfl (by first | decide | omega) ?_
                                                      refine x_const (np := 342) (x := 9223372034707292159) (a := 2147483647) (by decide +kernel) (by decide) (by decide) ?_
                                                      refine x_ast (np := 343) (x := 0) (kd := 1) (n := 72) (i := (12 * u288344 + u288352)) (by decide +kernel) (Or.inl rfl) (by decide +kernel) (by first | decide | omega) (by first | decide | omega) (by decide) (by decide) (fun z => absurd z (by decide)) ?_
                                                      have j288858 := jU (e := (12 * u288344 + u288352)) (v := 2147483647) (12 * u288344 + u288352) j288850 rg_91_0_1_72 (by first | decide | omega) (by first | decide | omega) (by first | decide | omega)
                                                      have f288860 := jF (e := (12 * u288344 + u288352)) (v := 2147483647) (12 * u288344 + u288352) f288852 rg_91_0_1_72 (by first | decide | omega) (by first | decide | omega) (by decide)
                                                      have f288861 := jF (e := (12 * u288344 + u288352)) (v := 2147483647) (12 * u288344 + u288352) f288853 rg_91_0_1_72 (by first | decide | omega) (by first | decide | omega) (by decide)
                                                      have f288862 := jF (e := (12 * u288344 + u288352)) (v := 2147483647) (12 * u288344 + u288352) f288854 rg_91_0_1_72 (by first | decide | omega) (by first | decide | omega) (by decide)
                                                      have m288863 := MB.oth (q := 91) (e := (12 * u288344 + u288352)) (v := 2147483647) m288855 (by decide)
                                                      generalize e288859 : x_up h288849 91 (12 * u288344 + u288352) 2147483647 = h288857 at j288858 f288860 f288861 f288862 m288863 ⊢
                                                      refine x_iinc (np := 346) (i := 2) (j := 2147483649) (v := (1 + v288319)) (lo' := [x_r 75, iv_c v265838, iv_c (1 + v288319), iv_c (12 * u288344 + v265838), iv_c v288821]) (by decide +kernel) (by decide) (by decide) rfl (by first | decide | omega) (by first | decide | omega) (by first | decide | omega) rfl ?_
                                                      refine x_goto (np := 349) (x := 237) (by decide +kernel) ?_
                                                      exact i288329 (1 + v288319) (iv_c (12 * u288344 + v265838)) (iv_c v288821) h288857 (by first | decide | omega) (by first | decide | omega) j288858 f288862 m288863
                                                    have q288848 : ¬ (v288844 = 2147483648) := q288848
                                                    refine x_aload (np := 327) (x := 0) (by decide +kernel) rfl (x_nc_le (by decide)) ?_
                                                    refine x_iload (np := 328) (x := 2) (by decide +kernel) rfl (by first | decide | omega) ?_
                                                    refine x_cP (t := 6) (mj := 203) (n := 2) (rc := 12) (ml := 2) (nr := 2) (np := 331) (as := [x_r 75, iv_c v288319]) (rest := [iv_c (12 * u288344 + v265838), x_r 87]) (lo1 := [x_r 75, iv_c v288319]) (by decide +kernel) (by decide) (by decide +kernel) (x_rb_of (by decide +kernel)) rfl rfl (x_wr (by decide) (x_wi (by first | decide | omega) x_wn)) (x_wi (by first | decide | omega) (x_wr (by decide) x_wn)) (by decide) rfl (c203_75 j288825  (by first | decide | omega)) (fun v288864 l288865 q288866 => ?_)
                                                    refine x_goto (np := 334) (x := 335) (by decide +kernel) ?_
                                                    refine x_ast (np := 336) (x := 0) (kd := 1) (n := 72) (i := (12 * u288344 + u288352)) (by decide +kernel) (Or.inl rfl) (by decide +kernel) (by first | decide | omega) (by first | decide | omega) (by decide) l288865 (fun z => absurd z (by decide)) ?_
                                                    have j288868 := jU (e := (12 * u288344 + u288352)) (v := v288864) (12 * u288344 + u288352) j288825 rg_87_0_1_72 (by first | decide | omega) (by first | decide | omega) (by first | decide | omega)
                                                    have f288870 := jF (e := (12 * u288344 + u288352)) (v := v288864) (12 * u288344 + u288352) f288830 rg_87_0_1_72 (by first | decide | omega) (by first | decide | omega) (by decide)
                                                    have f288871 := jF (e := (12 * u288344 + u288352)) (v := v288864) (12 * u288344 + u288352) f288831 rg_87_0_1_72 (by first | decide | omega) (by first | decide | omega) (by decide)
                                                    have f288872 := jF (e := (12 * u288344 + u288352)) (v := v288864) (12 * u288344 + u288352) f288832 rg_87_0_1_72 (by first | decide | omega) (by first | decide | omega) (by decide)
                                                    have m288873 := MB.oth (q := 87) (e := (12 * u288344 + u288352)) (v := v288864) m288827 (by decide)
                                                    generalize e288869 : x_up h288823 87 (12 * u288344 + u288352) v288864 = h288867 at j288868 f288870 f288871 f288872 m288873 ⊢
                                                    refine x_aload (np := 337) (x := 0) (by decide +kernel) rfl (x_nc_le (by decide)) ?_
                                                    have q288874 : h288867 75 24 = 91 := by have z := jB (e := 24) 0 j288868 rg_75_24_0_1 (by decide) (by decide); omega
                                                    refine x_getR (np := 340) (x := 728) (f := 24) (q := 91) (by decide +kernel) (by decide) (by decide +kernel) q288874 ?_
                                                    refine x_iload (np := 341) (x := 3) (by decide +kernel) rfl (by first | decide | omega) ?_
                                                    refine x_const (np := 342) (x := 9223372034707292159) (a := 2147483647) (by decide +kernel) (by decide) (by decide) ?_
                                                    refine x_ast (np := 343) (x := 0) (kd := 1) (n := 72) (i := (12 * u288344 + u288352)) (by decide +kernel) (Or.inl rfl) (by decide +kernel) (by first | decide | omega) (by first | decide | omega) (by decide) (by decide) (fun z => absurd z (by decide)) ?_
                                                    have j288876 := jU (e := (12 * u288344 + u288352)) (v := 2147483647) (12 * u288344 + u288352) j288868 rg_91_0_1_72 (by first | decide | omega) (by first | decide | omega) (by first | decide | omega)
                                                    have f288878 := jF (e := (12 * u288344 + u288352)) (v := 2147483647) (12 * u288344 + u288352) f288870 rg_91_0_1_72 (by first | decide | omega) (by first | decide | omega) (by decide)
                                                    have f288879 := jF (e := (12 * u288344 + u288352)) (v := 2147483647) (12 * u288344 + u288352) f288871 rg_91_0_1_72 (by first | decide | omega) (by first | decide | omega) (by decide)
                                                    have f288880 := jF (e := (12 * u288344 + u288352)) (v := 2147483647) (12 * u288344 + u288352) f288872 rg_91_0_1_72 (by first | decide | omega) (by first | decide | omega) (by decide)
                                                    have m288881 := MB.oth (q := 91) (e := (12 * u288344 + u288352)) (v := 2147483647) m288873 (by decide)
                                                    generalize e288877 : x_up h288867 91 (12 * u288344 + u288352) 2147483647 = h288875 at j288876 f288878 f288879 f288880 m288881 ⊢
                                                    refine x_iinc (np := 346) (i := 2) (j := 2147483649) (v := (1 + v288319)) (lo' := [x_r 75, iv_c v265838, iv_c (1 + v288319), iv_c (12 * u288344 + v265838), iv_c v288821]) (by decide +kernel) (by decide) (by decide) rfl (by first | decide | omega) (by first | decide | omega) (by first | decide | omega) rfl ?_
                                                    refine x_goto (np := 349) (x := 237) (by decide +kernel) ?_
                                                    exact i288329 (1 + v288319) (iv_c (12 * u288344 + v265838)) (iv_c v288821) h288875 (by first | decide | omega) (by first | decide | omega) j288876 f288880 m288881
                                                  have q288839 : ¬ ((h284879 83 u288344) ≤ v288821) := q288839
                                                  refine x_aload (np := 279) (x := 0) (by decide +kernel) rfl (x_nc_le (by decide)) ?_
                                                  have q288882 : h288823 75 19 = 86 := by have z := jB (e := 19) 0 j288825 rg_75_19_0_1 (by decide) (by decide); omega
                                                  refine x_getR (np := 282) (x := 723) (f := 19) (q := 86) (by decide +kernel) (by decide) (by decide +kernel) q288882 ?_
                                                  refine x_const (np := 284) (x := 9223372124901605396) (a := 2147483668) (by decide +kernel) (by decide) (by decide) ?_
                                                  refine x_iload (np := 285) (x := 3) (by decide +kernel) rfl (by first | decide | omega) ?_
                                                  refine x_imul (np := 286) (x := 0) (i := 20) (j := (12 * u288344 + u288352)) (v := (2147483648 + 240 * u288344 + 20 * u288352)) (by decide +kernel) (by first | decide | omega) (by first | decide | omega) (by first | decide | omega) (by first | decide | omega) (by decide) (by first | decide | omega) ?_
                                                  refine x_iload (np := 288) (x := 4) (by decide +kernel) rfl (by first | decide | omega) ?_
                                                  refine x_iadd (np := 289) (x := 0) (v := (240 * u288344 + 20 * u288352 + v288821)) (by decide +kernel) (by first | decide | omega) (by first | decide | omega) (by first | decide | omega) (by first | decide | omega) ?_
                                                  refine x_aload (np := 290) (x := 0) (by decide +kernel) rfl (x_nc_le (by decide)) ?_
                                                  have q288884 : h288823 75 17 = 84 := by have z := jB (e := 17) 0 j288825 rg_75_17_0_1 (by decide) (by decide); omega
                                                  refine x_getR (np := 293) (x := 721) (f := 17) (q := 84) (by decide +kernel) (by decide) (by decide +kernel) q288884 ?_
                                                  refine x_const (np := 295) (x := 9223372124901605396) (a := 2147483668) (by decide +kernel) (by decide) (by decide) ?_
                                                  refine x_iload (np := 296) (x := 2) (by decide +kernel) rfl (by first | decide | omega) ?_
                                                  refine x_imul (np := 297) (x := 0) (i := 20) (j := u288344) (v := (2147483648 + 20 * u288344)) (by decide +kernel) (by first | decide | omega) (by first | decide | omega) (by first | decide | omega) (by first | decide | omega) (by decide) (by first | decide | omega) ?_
                                                  refine x_iload (np := 299) (x := 4) (by decide +kernel) rfl (by first | decide | omega) ?_
                                                  refine x_iadd (np := 300) (x := 0) (v := (20 * u288344 + v288821)) (by decide +kernel) (by first | decide | omega) (by first | decide | omega) (by first | decide | omega) (by first | decide | omega) ?_
                                                  obtain ⟨u288886, q288887⟩ : ∃ z, v288821 = 2147483648 + z := ⟨v288821 - 2147483648, by first | decide | omega⟩
                                                  have q288888 : h288823 84 (20 * u288344 + u288886) = h288354 84 (20 * u288344 + u288886) := jK (20 * u288344 + u288886) f288824 rg_84_0_1_120 (by first | decide | omega) (by first | decide | omega) (by decide)
                                                  have q288889 : h288354 84 (20 * u288344 + u288886) = h288323 84 (20 * u288344 + u288886) := by rw [← e288356]; exact x_up_k (by decide)
                                                  have q288890 : h288323 84 (20 * u288344 + u288886) = h284879 84 (20 * u288344 + u288886) := jK (20 * u288344 + u288886) f288324 rg_84_0_1_120 (by first | decide | omega) (by first | decide | omega) (by decide)
                                                  have b288891 := jB (e := (20 * u288344 + u288886)) (20 * u288344 + u288886) j284881 rg_84_0_1_120 (by first | decide | omega) (by first | decide | omega)
                                                  refine x_aldC (np := 301) (x := 0) (n := 120) (i := (20 * u288344 + u288886)) (q := ((h284879 84 (20 * u288344 + u288886)))) (by decide +kernel) (by decide +kernel) (by first | decide | omega) (by first | decide | omega) (by decide) ((q288888.trans q288889).trans q288890) (fun l288892 => ?_)
                                                  refine x_ast (np := 302) (x := 0) (kd := 1) (n := 1440) (i := (240 * u288344 + 20 * u288352 + u288886)) (by decide +kernel) (Or.inl rfl) (by decide +kernel) (by first | decide | omega) (by first | decide | omega) (by decide) l288892 (fun z => absurd z (by decide)) ?_
                                                  have j288894 := jU (e := (240 * u288344 + 20 * u288352 + u288886)) (v := ((h284879 84 (20 * u288344 + u288886)))) (240 * u288344 + 20 * u288352 + u288886) j288825 rg_86_0_1_1440 (by first | decide | omega) (by first | decide | omega) (by first | decide | omega)
                                                  have f288896 := jF (e := (240 * u288344 + 20 * u288352 + u288886)) (v := ((h284879 84 (20 * u288344 + u288886)))) (240 * u288344 + 20 * u288352 + u288886) f288830 rg_86_0_1_1440 (by first | decide | omega) (by first | decide | omega) (by decide)
                                                  have f288897 := jF (e := (240 * u288344 + 20 * u288352 + u288886)) (v := ((h284879 84 (20 * u288344 + u288886)))) (240 * u288344 + 20 * u288352 + u288886) f288831 rg_86_0_1_1440 (by first | decide | omega) (by first | decide | omega) (by decide)
                                                  have f288898 := jF (e := (240 * u288344 + 20 * u288352 + u288886)) (v := ((h284879 84 (20 * u288344 + u288886)))) (240 * u288344 + 20 * u288352 + u288886) f288832 rg_86_0_1_1440 (by first | decide | omega) (by first | decide | omega) (by decide)
                                                  have f288899 := jF (e := (240 * u288344 + 20 * u288352 + u288886)) (v := ((h284879 84 (20 * u288344 + u288886)))) (240 * u288344 + 20 * u288352 + u288886) f288824 rg_86_0_1_1440 (by first | decide | omega) (by first | decide | omega) (by decide)
                                                  have m288900 := MB.oth (q := 86) (e := (240 * u288344 + 20 * u288352 + u288886)) (v := ((h284879 84 (20 * u288344 + u288886)))) m288827 (by decide)
                                                  generalize e288895 : x_up h288823 86 (240 * u288344 + 20 * u288352 + u288886) ((h284879 84 (20 * u288344 + u288886))) = h288893 at j288894 f288896 f288897 f288898 f288899 m288900 ⊢
                                                  refine x_iinc (np := 305) (i := 4) (j := 2147483649) (v := (1 + v288821)) (lo' := [x_r 75, iv_c v265838, iv_c v288319, iv_c (12 * u288344 + v265838), iv_c (1 + v288821)]) (by decide +kernel) (by decide) (by decide) rfl (by first | decide | omega) (by first | decide | omega) (by first | decide | omega) rfl ?_
                                                  refine x_goto (np := 308) (x := 267) (by decide +kernel) ?_
                                                  exact i288829 (1 + v288821) h288893 (by first | decide | omega) (by first | decide | omega) j288894 f288899 m288900
                                              exact p288826 _ 2147483648 h288354 (Nat.lt_succ_self _) (by first | decide | omega) j288355 (Fr.refl _ _) m288360
                                          exact p288326 _ 2147483648 w284112 w284113 h284879 (Nat.lt_succ_self _) (by first | decide | omega) j284881 (Fr.refl _ _) (MB.mono m284883 (Nat.le_refl _) (by rw [Nat.add_comm 1 v265838]; exact cn_day 20))
                                        have q284899 : ¬ ((h 76 2) ≤ v284877) := q284899
                                        refine x_aload (np := 214) (x := 0) (by decide +kernel) rfl (x_nc_le (by decide)) ?_
                                        refine x_iload (np := 215) (x := 2) (by decide +kernel) rfl (by first | decide | omega) ?_
                                        refine x_const (np := 216) (x := 9223372047592194050) (a := 2147483650) (by decide +kernel) (by decide) (by decide) ?_
                                        refine x_nI (t := 6) (mj := 161) (n := 3) (rc := 12) (ml := 3) (nr := 0) (np := 219) (as := [x_r 75, iv_c v284877, iv_c 2147483650]) (rest := []) (lo1 := [x_r 75, iv_c v284877, iv_c 2147483650]) (by decide +kernel) (by decide) (by decide +kernel) (x_rb_of (by decide +kernel)) rfl rfl (x_wr (by decide) (x_wi (by first | decide | omega) (x_wi (by decide) x_wn))) x_wn (by decide) rfl ?_
                                        refine x_aload (np := 1) (x := 0) (by decide +kernel) rfl (x_nc_le (by decide)) ?_
                                        have q288901 : h284879 75 1 = 76 := by have z := jB (e := 1) 0 j284881 rg_75_1_0_1 (by decide) (by decide); omega
                                        refine x_getR (np := 4) (x := 705) (f := 1) (q := 76) (by decide +kernel) (by decide) (by decide +kernel) q288901 ?_
                                        refine x_const (np := 6) (x := 9223372124901605396) (a := 2147483668) (by decide +kernel) (by decide) (by decide) ?_
                                        refine x_const (np := 8) (x := 9223372069067030535) (a := 2147483655) (by decide +kernel) (by decide) (by decide) ?_
                                        refine x_iload (np := 9) (x := 1) (by decide +kernel) rfl (by first | decide | omega) ?_
                                        obtain ⟨u288902, q288903⟩ : ∃ z, v284877 = 2147483648 + z := ⟨v284877 - 2147483648, by first | decide | omega⟩
                                        refine x_imul (np := 10) (x := 0) (i := 7) (j := u288902) (v := (2147483648 + 7 * u288902)) (by decide +kernel) (by first | decide | omega) (by first | decide | omega) (by first | decide | omega) (by first | decide | omega) (by decide) (by first | decide | omega) ?_
                                        refine x_iadd (np := 11) (x := 0) (v := (2147483668 + 7 * u288902)) (by decide +kernel) (by decide) (by first | decide | omega) (by first | decide | omega) (by first | decide | omega) ?_
                                        refine x_iload (np := 12) (x := 2) (by decide +kernel) rfl (by decide) ?_
                                        refine x_iadd (np := 13) (x := 0) (v := (2147483670 + 7 * u288902)) (by decide +kernel) (by first | decide | omega) (by decide) (by first | decide | omega) (by first | decide | omega) ?_
                                        have q288905 : h284879 76 (22 + 7 * u288902) = h284114 76 (22 + 7 * u288902) := jK u288902 f284880 rg_76_22_7_20 (by first | decide | omega) (by first | decide | omega) (by decide)
                                        have q288906 : h284114 76 (22 + 7 * u288902) = h266244 76 (22 + 7 * u288902) := jK u288902 f284115 rg_76_22_7_20 (by first | decide | omega) (by first | decide | omega) (by decide)
                                        have q288907 : h266244 76 (22 + 7 * u288902) = h266001 76 (22 + 7 * u288902) := jK u288902 f266245 rg_76_22_7_20 (by first | decide | omega) (by first | decide | omega) (by decide)
                                        have q288908 : h266001 76 (22 + 7 * u288902) = h265843 76 (22 + 7 * u288902) := jK u288902 f266002 rg_76_22_7_20 (by first | decide | omega) (by first | decide | omega) (by decide)
                                        have q288909 : h265843 76 (22 + 7 * u288902) = h564 76 (22 + 7 * u288902) := jK u288902 f265844 rg_76_22_7_20 (by first | decide | omega) (by first | decide | omega) (by decide)
                                        have q288910 : h564 76 (22 + 7 * u288902) = h102 76 (22 + 7 * u288902) := jK u288902 f565 rg_76_22_7_20 (by first | decide | omega) (by first | decide | omega) (by decide)
                                        have q288911 : h102 76 (22 + 7 * u288902) = h 76 (22 + 7 * u288902) := jK u288902 f103 rg_76_22_7_20 (by first | decide | omega) (by first | decide | omega) (by decide)
                                        refine x_aldC (np := 14) (x := 0) (n := 1952) (i := (22 + 7 * u288902)) (q := ((h 76 (22 + 7 * u288902)))) (by decide +kernel) (by decide +kernel) (by first | decide | omega) (by first | decide | omega) (by decide) ((((((q288905.trans q288906).trans q288907).trans q288908).trans q288909).trans q288910).trans q288911) (fun l288912 => ?_)
                                        refine x_retI (np := 15) (x := 0) (by decide +kernel) l288912 (Or.inl (by decide +kernel)) ⟨_, rfl, l288912, ?_⟩
                                        refine x_iload (np := 220) (x := 1) (by decide +kernel) rfl (by first | decide | omega) ?_
                                        refine x_icmp (k := 1) (tg := 229) (np := 223) (by decide +kernel) (by decide) l288912 (by first | decide | omega) (fun q288913 => ?_) (fun q288914 => ?_)
                                        · have q288913 : ((h 76 (22 + 7 * u288902))) ≠ v265838 := q288913
                                          refine x_iinc (np := 232) (i := 2) (j := 2147483649) (v := (1 + v284877)) (lo' := [x_r 75, iv_c v265838, iv_c (1 + v284877), w284112, w284113]) (by decide +kernel) (by decide) (by decide) rfl (by first | decide | omega) (by first | decide | omega) (by first | decide | omega) rfl ?_
                                          refine x_goto (np := 235) (x := 203) (by decide +kernel) ?_
                                          have m288915 : MB 6 (cn (fun l => h 76 (22 + 7 * l)) v265838 ((1 + v284877) - 2147483648) 20) h284879 := by
                                            have e0 : v284877 - 2147483648 = u288902 := by first | decide | omega
                                            have e9 : (1 + v284877) = 2147483648 + (u288902 + 1) := by first | decide | omega
                                            have e1 : (1 + v284877) - 2147483648 = u288902 + 1 := by rw [e9]; exact Nat.add_sub_cancel_left _ _
                                            have p9 := m284883
                                            rw [e0] at p9
                                            rw [e1, cn_skip (f := (fun l => h 76 (22 + 7 * l))) (d := v265838) (l := u288902) (show h 76 (22 + 7 * u288902) ≠ v265838 by first | decide | omega) 20]
                                            exact p9
                                          exact i284885 (1 + v284877) h284879 (by first | decide | omega) (by first | decide | omega) j284881 f284880 m288915
                                        have q288914 : ¬ (((h 76 (22 + 7 * u288902))) ≠ v265838) := q288914
                                        refine x_aload (np := 224) (x := 0) (by decide +kernel) rfl (x_nc_le (by decide)) ?_
                                        refine x_iload (np := 225) (x := 2) (by decide +kernel) rfl (by first | decide | omega) ?_
                                        refine x_iload (np := 226) (x := 1) (by decide +kernel) rfl (by first | decide | omega) ?_
                                        have m288925 := WT.fr hW hJ f103 (by decide)
                                        have m288924 := WT.fr m288925 j104 f565 (by decide)
                                        have m288923 := WT.fr m288924 j566 f265844 (by decide)
                                        have m288922 := WT.fr m288923 j265845 f266002 (by decide)
                                        have m288921 := WT.fr m288922 j266003 f266245 (by decide)
                                        have m288920 := WT.fr m288921 j266246 f284115 (by decide)
                                        have m288919 := WT.fr m288920 j284116 f284880 (by decide)
                                        have q288926 : cn (fun l => h 76 (22 + 7 * l)) v265838 (v284877 - 2147483648) 20 ≤ 19 := by
                                          have e0 : v284877 - 2147483648 = u288902 := by first | decide | omega
                                          have z := cn_lt (f := (fun l => h 76 (22 + 7 * l))) (d := v265838) (l := u288902) (show h 76 (22 + 7 * u288902) = v265838 by first | decide | omega) 20 (by first | decide | omega)
                                          rw [e0]
                                          omega
                                        refine x_cV (t := 6) (mj := 209) (n := 3) (rc := 12) (ml := 7) (nr := 0) (np := 229) (as := [x_r 75, iv_c v284877, iv_c v265838]) (rest := []) (lo1 := [x_r 75, iv_c v284877, iv_c v265838, 147573952589676412928, 147573952589676412928, 147573952589676412928, 147573952589676412928]) (by decide +kernel) (by decide) (by decide +kernel) (x_rb_of (by decide +kernel)) rfl rfl (x_wr (by decide) (x_wi (by first | decide | omega) (x_wi (by first | decide | omega) x_wn))) x_wn (by decide) rfl (c209_75 (n0 := cn (fun l => h 76 (22 + 7 * l)) v265838 (v284877 - 2147483648) 20) j284881  (by first | decide | omega) (by first | decide | omega) q288926 m284883 m288919) (fun h288927 q288918 => ?_)
                                        obtain ⟨j288928, f288929, m288931⟩ := q288918
                                        have f288932 := Fr.trans f284886 f288929 (by decide)
                                        have f288933 := Fr.trans f284887 f288929 (by decide)
                                        have f288934 := Fr.trans f284880 f288929 (by decide)
                                        refine x_iinc (np := 232) (i := 2) (j := 2147483649) (v := (1 + v284877)) (lo' := [x_r 75, iv_c v265838, iv_c (1 + v284877), w284112, w284113]) (by decide +kernel) (by decide) (by decide) rfl (by first | decide | omega) (by first | decide | omega) (by first | decide | omega) rfl ?_
                                        refine x_goto (np := 235) (x := 203) (by decide +kernel) ?_
                                        have m288935 : MB 6 (cn (fun l => h 76 (22 + 7 * l)) v265838 ((1 + v284877) - 2147483648) 20) h288927 := by
                                          have e0 : v284877 - 2147483648 = u288902 := by first | decide | omega
                                          have e9 : (1 + v284877) = 2147483648 + (u288902 + 1) := by first | decide | omega
                                          have e1 : (1 + v284877) - 2147483648 = u288902 + 1 := by rw [e9]; exact Nat.add_sub_cancel_left _ _
                                          have p9 := m288931
                                          rw [e0] at p9
                                          rw [e1, cn_step (f := (fun l => h 76 (22 + 7 * l))) (d := v265838) (l := u288902) (show h 76 (22 + 7 * u288902) = v265838 by first | decide | omega) 20 (by first | decide | omega)]
                                          exact p9
                                        exact i284885 (1 + v284877) h288927 (by first | decide | omega) (by first | decide | omega) j288928 f288934 m288935
                                    exact p284882 _ 2147483648 h284114 (Nat.lt_succ_self _) (by first | decide | omega) j284116 (Fr.refl _ _) m284118
                                  have q284132 : ¬ ((h 76 0) ≤ v284110) := q284132
                                  refine x_const (np := 134) (x := 9223372039002259456) (a := 2147483648) (by decide +kernel) (by decide) (by decide) ?_
                                  refine x_istore (np := 135) (x := 3) (lo' := [x_r 75, iv_c v265838, iv_c v284110, iv_c 2147483648, w284113]) (by decide +kernel) (by decide) (Nat.le_of_ble_eq_true rfl) rfl ?_
                                  have p289866 : ∀ (n : Nat) (v289860 : Nat) (w289862 : Nat) (h289863 : xh), 4294967296 - v289860 < n → (2147483648 ≤ v289860 ∧ v289860 ≤ 2147483668) → J h289863 → Fr 34359738368 h284114 h289863 → MB 6 (cn (fun l => h 76 (22 + 7 * l)) v265838 0 20) h289863 → X sc 210 (d + 4) (xV fun h' => J h' ∧ Fr 135291469825 h h') 0 0 135 [x_r 75, iv_c v265838, iv_c v284110, iv_c v289860, w289862] [] h289863 := by
                                    intro n
                                    induction n with
                                    | zero => intro v289860 w289862 h289863 q289868; exact absurd q289868 (Nat.not_lt_zero _)
                                    | succ n i289869 =>
                                      intro v289860 w289862 h289863 q289868 b289861 j289865 f289864 m289867
                                      have f289870 := Fr.trans f284121 f289864 (by decide)
                                      have f289871 := Fr.trans f284122 f289864 (by decide)
                                      have f289872 := Fr.trans f284115 f289864 (by decide)
                                      refine x_iload (np := 136) (x := 3) (by decide +kernel) rfl (by first | decide | omega) ?_
                                      refine x_aload (np := 137) (x := 0) (by decide +kernel) rfl (x_nc_le (by decide)) ?_
                                      have q289873 : h289863 75 16 = 83 := by have z := jB (e := 16) 0 j289865 rg_75_16_0_1 (by decide) (by decide); omega
                                      refine x_getR (np := 140) (x := 720) (f := 16) (q := 83) (by decide +kernel) (by decide) (by decide +kernel) q289873 ?_
                                      refine x_iload (np := 141) (x := 2) (by decide +kernel) rfl (by first | decide | omega) ?_
                                      obtain ⟨u289874, q289875⟩ : ∃ z, v284110 = 2147483648 + z := ⟨v284110 - 2147483648, by first | decide | omega⟩
                                      have q289876 : h289863 83 u289874 = h284114 83 u289874 := jK u289874 f289864 rg_83_0_1_6 (by first | decide | omega) (by first | decide | omega) (by decide)
                                      have q289877 : h284114 83 u289874 = h266244 83 u289874 := jK u289874 f284115 rg_83_0_1_6 (by first | decide | omega) (by first | decide | omega) (by decide)
                                      have b289878 := jB (e := u289874) u289874 j266246 rg_83_0_1_6 (by first | decide | omega) (by first | decide | omega)
                                      refine x_aldC (np := 142) (x := 0) (n := 6) (i := u289874) (q := (h266244 83 u289874)) (by decide +kernel) (by decide +kernel) (by first | decide | omega) (by first | decide | omega) (by decide) (q289876.trans q289877) (fun l289879 => ?_)
                                      refine x_icmp (k := 3) (tg := 195) (np := 145) (by decide +kernel) (by decide) (by first | decide | omega) l289879 (fun q289880 => ?_) (fun q289881 => ?_)
                                      · have q289880 : (h266244 83 u289874) ≤ v289860 := q289880
                                        refine x_iinc (np := 198) (i := 2) (j := 2147483649) (v := (1 + v284110)) (lo' := [x_r 75, iv_c v265838, iv_c (1 + v284110), iv_c v289860, w289862]) (by decide +kernel) (by decide) (by decide) rfl (by first | decide | omega) (by first | decide | omega) (by first | decide | omega) rfl ?_
                                        refine x_goto (np := 201) (x := 125) (by decide +kernel) ?_
                                        exact i284120 (1 + v284110) (iv_c v289860) w289862 h289863 (by first | decide | omega) (by first | decide | omega) j289865 f289872 m289867
                                      have q289881 : ¬ ((h266244 83 u289874) ≤ v289860) := q289881
                                      refine x_aload (np := 146) (x := 0) (by decide +kernel) rfl (x_nc_le (by decide)) ?_
                                      have q289882 : h289863 75 17 = 84 := by have z := jB (e := 17) 0 j289865 rg_75_17_0_1 (by decide) (by decide); omega
                                      refine x_getR (np := 149) (x := 721) (f := 17) (q := 84) (by decide +kernel) (by decide) (by decide +kernel) q289882 ?_
                                      refine x_const (np := 151) (x := 9223372124901605396) (a := 2147483668) (by decide +kernel) (by decide) (by decide) ?_
                                      refine x_iload (np := 152) (x := 2) (by decide +kernel) rfl (by first | decide | omega) ?_
                                      refine x_imul (np := 153) (x := 0) (i := 20) (j := u289874) (v := (2147483648 + 20 * u289874)) (by decide +kernel) (by first | decide | omega) (by first | decide | omega) (by first | decide | omega) (by first | decide | omega) (by decide) (by first | decide | omega) ?_
                                      refine x_iload (np := 154) (x := 3) (by decide +kernel) rfl (by first | decide | omega) ?_
                                      refine x_iadd (np := 155) (x := 0) (v := (20 * u289874 + v289860)) (by decide +kernel) (by first | decide | omega) (by first | decide | omega) (by first | decide | omega) (by first | decide | omega) ?_
                                      obtain ⟨u289884, q289885⟩ : ∃ z, v289860 = 2147483648 + z := ⟨v289860 - 2147483648, by first | decide | omega⟩
                                      have q289886 : h289863 84 (20 * u289874 + u289884) = h284114 84 (20 * u289874 + u289884) := jK (20 * u289874 + u289884) f289864 rg_84_0_1_120 (by first | decide | omega) (by first | decide | omega) (by decide)
                                      have q289887 : h284114 84 (20 * u289874 + u289884) = h266244 84 (20 * u289874 + u289884) := jK (20 * u289874 + u289884) f284115 rg_84_0_1_120 (by first | decide | omega) (by first | decide | omega) (by decide)
                                      have q289888 : h266244 84 (20 * u289874 + u289884) = h266001 84 (20 * u289874 + u289884) := jK (20 * u289874 + u289884) f266245 rg_84_0_1_120 (by first | decide | omega) (by first | decide | omega) (by decide)
                                      have q289889 : h266001 84 (20 * u289874 + u289884) = h265843 84 (20 * u289874 + u289884) := jK (20 * u289874 + u289884) f266002 rg_84_0_1_120 (by first | decide | omega) (by first | decide | omega) (by decide)
                                      have b289890 := jB (e := (20 * u289874 + u289884)) (20 * u289874 + u289884) j265845 rg_84_0_1_120 (by first | decide | omega) (by first | decide | omega)
                                      refine x_aldC (np := 156) (x := 0) (n := 120) (i := (20 * u289874 + u289884)) (q := ((h265843 84 (20 * u289874 + u289884)))) (by decide +kernel) (by decide +kernel) (by first | decide | omega) (by first | decide | omega) (by decide) (((q289886.trans q289887).trans q289888).trans q289889) (fun l289891 => ?_)
                                      refine x_istore (np := 158) (x := 4) (lo' := [x_r 75, iv_c v265838, iv_c v284110, iv_c v289860, iv_c ((h265843 84 (20 * u289874 + u289884)))]) (by decide +kernel) l289891 (Nat.le_of_ble_eq_true rfl) rfl ?_
                                      refine x_aload (np := 159) (x := 0) (by decide +kernel) rfl (x_nc_le (by decide)) ?_
                                      have q289892 : h289863 75 23 = 90 := by have z := jB (e := 23) 0 j289865 rg_75_23_0_1 (by decide) (by decide); omega
                                      refine x_getR (np := 162) (x := 727) (f := 23) (q := 90) (by decide +kernel) (by decide) (by decide +kernel) q289892 ?_
                                      refine x_iload (np := 164) (x := 4) (by decide +kernel) rfl l289891 ?_
                                      refine x_dup2 (np := 165) (x := 0) (by decide +kernel) (by have z := (iw_c_lt (a := ((h265843 84 (20 * u289874 + u289884)))) l289891).1; omega) (by have z := x_nc_le (k := 90) (by decide); unfold x_r; omega) ?_
                                      obtain ⟨u289893, q289894⟩ : ∃ z, ((h265843 84 (20 * u289874 + u289884))) = 2147483648 + z := ⟨((h265843 84 (20 * u289874 + u289884))) - 2147483648, by first | decide | omega⟩
                                      refine x_aldC (np := 166) (x := 0) (n := 20) (i := u289893) (q := (h289863 90 u289893)) (by decide +kernel) (by decide +kernel) (by first | decide | omega) (by first | decide | omega) (by decide) rfl (fun l289895 => ?_)
                                      refine x_aload (np := 167) (x := 0) (by decide +kernel) rfl (x_nc_le (by decide)) ?_
                                      refine x_iload (np := 169) (x := 4) (by decide +kernel) rfl l289891 ?_
                                      refine x_iload (np := 170) (x := 1) (by decide +kernel) rfl (by first | decide | omega) ?_
                                      refine x_cP (t := 6) (mj := 202) (n := 3) (rc := 12) (ml := 3) (nr := 3) (np := 173) (as := [x_r 75, iv_c ((h265843 84 (20 * u289874 + u289884))), iv_c v265838]) (rest := [iv_c (h289863 90 u289893), iv_c ((h265843 84 (20 * u289874 + u289884))), x_r 90]) (lo1 := [x_r 75, iv_c ((h265843 84 (20 * u289874 + u289884))), iv_c v265838]) (by decide +kernel) (by decide) (by decide +kernel) (x_rb_of (by decide +kernel)) rfl rfl (x_wr (by decide) (x_wi l289891 (x_wi (by first | decide | omega) x_wn))) (x_wi l289895 (x_wi l289891 (x_wr (by decide) x_wn))) (by decide) rfl (c202_75 j289865  (by first | decide | omega) (by first | decide | omega)) (fun v289896 l289897 q289898 => ?_)
                                      refine x_ifz (k := 0) (tg := 186) (np := 176) (by decide +kernel) (by decide) l289897 (fun q289899 => ?_) (fun q289900 => ?_)
                                      · have q289899 : v289896 = 2147483648 := q289899
                                        refine x_const (np := 187) (x := 9223372039002259456) (a := 2147483648) (by decide +kernel) (by decide) (by decide) ?_
                                        refine x_iadd (np := 188) (x := 0) (v := (h289863 90 u289893)) (by decide +kernel) l289895 (by decide) (by first | decide | omega) (by first | decide | omega) ?_
                                        refine x_ast (np := 189) (x := 0) (kd := 1) (n := 20) (i := u289893) (by decide +kernel) (Or.inl rfl) (by decide +kernel) (by first | decide | omega) (by first | decide | omega) (by decide) l289895 (fun z => absurd z (by decide)) ?_
                                        have j289902 := jU (e := u289893) (v := (h289863 90 u289893)) u289893 j289865 rg_90_0_1_20 (by first | decide | omega) (by first | decide | omega) (by first | decide | omega)
                                        have f289904 := jF (e := u289893) (v := (h289863 90 u289893)) u289893 f289870 rg_90_0_1_20 (by first | decide | omega) (by first | decide | omega) (by decide)
                                        have f289905 := jF (e := u289893) (v := (h289863 90 u289893)) u289893 f289871 rg_90_0_1_20 (by first | decide | omega) (by first | decide | omega) (by decide)
                                        have f289906 := jF (e := u289893) (v := (h289863 90 u289893)) u289893 f289872 rg_90_0_1_20 (by first | decide | omega) (by first | decide | omega) (by decide)
                                        have f289907 := jF (e := u289893) (v := (h289863 90 u289893)) u289893 f289864 rg_90_0_1_20 (by first | decide | omega) (by first | decide | omega) (by decide)
                                        have m289908 := MB.oth (q := 90) (e := u289893) (v := (h289863 90 u289893)) m289867 (by decide)
                                        generalize e289903 : x_up h289863 90 u289893 (h289863 90 u289893) = h289901 at j289902 f289904 f289905 f289906 f289907 m289908 ⊢
                                        refine x_iinc (np := 192) (i := 3) (j := 2147483649) (v := (1 + v289860)) (lo' := [x_r 75, iv_c v265838, iv_c v284110, iv_c (1 + v289860), iv_c ((h265843 84 (20 * u289874 + u289884)))]) (by decide +kernel) (by decide) (by decide) rfl (by first | decide | omega) (by first | decide | omega) (by first | decide | omega) rfl ?_
                                        refine x_goto (np := 195) (x := 135) (by decide +kernel) ?_
                                        exact i289869 (1 + v289860) (iv_c ((h265843 84 (20 * u289874 + u289884)))) h289901 (by first | decide | omega) (by first | decide | omega) j289902 f289907 m289908
                                      have q289900 : ¬ (v289896 = 2147483648) := q289900
                                      refine x_aload (np := 177) (x := 0) (by decide +kernel) rfl (x_nc_le (by decide)) ?_
                                      refine x_iload (np := 179) (x := 4) (by decide +kernel) rfl l289891 ?_
                                      refine x_const (np := 180) (x := 9223372060477095941) (a := 2147483653) (by decide +kernel) (by decide) (by decide) ?_
                                      refine x_nI (t := 6) (mj := 161) (n := 3) (rc := 12) (ml := 3) (nr := 3) (np := 183) (as := [x_r 75, iv_c ((h265843 84 (20 * u289874 + u289884))), iv_c 2147483653]) (rest := [iv_c (h289863 90 u289893), iv_c ((h265843 84 (20 * u289874 + u289884))), x_r 90]) (lo1 := [x_r 75, iv_c ((h265843 84 (20 * u289874 + u289884))), iv_c 2147483653]) (by decide +kernel) (by decide) (by decide +kernel) (x_rb_of (by decide +kernel)) rfl rfl (x_wr (by decide) (x_wi l289891 (x_wi (by decide) x_wn))) (x_wi l289895 (x_wi l289891 (x_wr (by decide) x_wn))) (by decide) rfl ?_
                                      refine x_aload (np := 1) (x := 0) (by decide +kernel) rfl (x_nc_le (by decide)) ?_
                                      have q289909 : h289863 75 1 = 76 := by have z := jB (e := 1) 0 j289865 rg_75_1_0_1 (by decide) (by decide); omega
                                      refine x_getR (np := 4) (x := 705) (f := 1) (q := 76) (by decide +kernel) (by decide) (by decide +kernel) q289909 ?_
                                      refine x_const (np := 6) (x := 9223372124901605396) (a := 2147483668) (by decide +kernel) (by decide) (by decide) ?_
                                      refine x_const (np := 8) (x := 9223372069067030535) (a := 2147483655) (by decide +kernel) (by decide) (by decide) ?_
                                      refine x_iload (np := 9) (x := 1) (by decide +kernel) rfl l289891 ?_
                                      refine x_imul (np := 10) (x := 0) (i := 7) (j := u289893) (v := (2147483648 + 7 * u289893)) (by decide +kernel) (by first | decide | omega) (by first | decide | omega) (by first | decide | omega) (by first | decide | omega) (by decide) l289891 ?_
                                      refine x_iadd (np := 11) (x := 0) (v := (2147483668 + 7 * u289893)) (by decide +kernel) (by decide) (by first | decide | omega) (by first | decide | omega) (by first | decide | omega) ?_
                                      refine x_iload (np := 12) (x := 2) (by decide +kernel) rfl (by decide) ?_
                                      refine x_iadd (np := 13) (x := 0) (v := (2147483673 + 7 * u289893)) (by decide +kernel) (by first | decide | omega) (by decide) (by first | decide | omega) (by first | decide | omega) ?_
                                      have q289911 : h289863 76 (25 + 7 * u289893) = h284114 76 (25 + 7 * u289893) := jK u289893 f289864 rg_76_25_7_20 (by first | decide | omega) (by first | decide | omega) (by decide)
                                      have q289912 : h284114 76 (25 + 7 * u289893) = h266244 76 (25 + 7 * u289893) := jK u289893 f284115 rg_76_25_7_20 (by first | decide | omega) (by first | decide | omega) (by decide)
                                      have q289913 : h266244 76 (25 + 7 * u289893) = h266001 76 (25 + 7 * u289893) := jK u289893 f266245 rg_76_25_7_20 (by first | decide | omega) (by first | decide | omega) (by decide)
                                      have q289914 : h266001 76 (25 + 7 * u289893) = h265843 76 (25 + 7 * u289893) := jK u289893 f266002 rg_76_25_7_20 (by first | decide | omega) (by first | decide | omega) (by decide)
                                      have q289915 : h265843 76 (25 + 7 * u289893) = h564 76 (25 + 7 * u289893) := jK u289893 f265844 rg_76_25_7_20 (by first | decide | omega) (by first | decide | omega) (by decide)
                                      have q289916 : h564 76 (25 + 7 * u289893) = h102 76 (25 + 7 * u289893) := jK u289893 f565 rg_76_25_7_20 (by first | decide | omega) (by first | decide | omega) (by decide)
                                      have q289917 : h102 76 (25 + 7 * u289893) = h 76 (25 + 7 * u289893) := jK u289893 f103 rg_76_25_7_20 (by first | decide | omega) (by first | decide | omega) (by decide)
                                      refine x_aldC (np := 14) (x := 0) (n := 1952) (i := (25 + 7 * u289893)) (q := ((h 76 (25 + 7 * u289893)))) (by decide +kernel) (by decide +kernel) (by first | decide | omega) (by first | decide | omega) (by decide) ((((((q289911.trans q289912).trans q289913).trans q289914).trans q289915).trans q289916).trans q289917) (fun l289918 => ?_)
                                      refine x_retI (np := 15) (x := 0) (by decide +kernel) l289918 (Or.inl (by decide +kernel)) ⟨_, rfl, l289918, ?_⟩
                                      refine x_goto (np := 186) (x := 187) (by decide +kernel) ?_
                                      refine x_addA (by rw [tb_b210]; decide +kernel) l289895 l289918 (fun v289919 l289920 => ?_)
                                      refine x_ast (np := 189) (x := 0) (kd := 1) (n := 20) (i := u289893) (by decide +kernel) (Or.inl rfl) (by decide +kernel) (by first | decide | omega) (by first | decide | omega) (by decide) l289920 (fun z => absurd z (by decide)) ?_
                                      have j289922 := jU (e := u289893) (v := v289919) u289893 j289865 rg_90_0_1_20 (by first | decide | omega) (by first | decide | omega) (by first | decide | omega)
                                      have f289924 := jF (e := u289893) (v := v289919) u289893 f289870 rg_90_0_1_20 (by first | decide | omega) (by first | decide | omega) (by decide)
                                      have f289925 := jF (e := u289893) (v := v289919) u289893 f289871 rg_90_0_1_20 (by first | decide | omega) (by first | decide | omega) (by decide)
                                      have f289926 := jF (e := u289893) (v := v289919) u289893 f289872 rg_90_0_1_20 (by first | decide | omega) (by first | decide | omega) (by decide)
                                      have f289927 := jF (e := u289893) (v := v289919) u289893 f289864 rg_90_0_1_20 (by first | decide | omega) (by first | decide | omega) (by decide)
                                      have m289928 := MB.oth (q := 90) (e := u289893) (v := v289919) m289867 (by decide)
                                      generalize e289923 : x_up h289863 90 u289893 v289919 = h289921 at j289922 f289924 f289925 f289926 f289927 m289928 ⊢
                                      refine x_iinc (np := 192) (i := 3) (j := 2147483649) (v := (1 + v289860)) (lo' := [x_r 75, iv_c v265838, iv_c v284110, iv_c (1 + v289860), iv_c ((h265843 84 (20 * u289874 + u289884)))]) (by decide +kernel) (by decide) (by decide) rfl (by first | decide | omega) (by first | decide | omega) (by first | decide | omega) rfl ?_
                                      refine x_goto (np := 195) (x := 135) (by decide +kernel) ?_
                                      exact i289869 (1 + v289860) (iv_c ((h265843 84 (20 * u289874 + u289884)))) h289921 (by first | decide | omega) (by first | decide | omega) j289922 f289927 m289928
                                  exact p289866 _ 2147483648 w284113 h284114 (Nat.lt_succ_self _) (by first | decide | omega) j284116 (Fr.refl _ _) m284118
                              exact p284117 _ 2147483648 w265841 w265842 h266244 (Nat.lt_succ_self _) (by first | decide | omega) j266246 (Fr.refl _ _) m266248
                            have q278101 : ¬ ((2147483648 + u278098) ≠ 2147483649) := q278101
                            refine x_aload (np := 112) (x := 0) (by decide +kernel) rfl (x_nc_le (by decide)) ?_
                            refine x_iload (np := 113) (x := 2) (by decide +kernel) rfl (by first | decide | omega) ?_
                            refine x_iload (np := 114) (x := 1) (by decide +kernel) rfl (by first | decide | omega) ?_
                            refine x_cV (t := 6) (mj := 207) (n := 3) (rc := 12) (ml := 3) (nr := 0) (np := 117) (as := [x_r 75, iv_c v266242, iv_c v265838]) (rest := []) (lo1 := [x_r 75, iv_c v266242, iv_c v265838]) (by decide +kernel) (by decide) (by decide +kernel) (x_rb_of (by decide +kernel)) rfl rfl (x_wr (by decide) (x_wi (by first | decide | omega) (x_wi (by first | decide | omega) x_wn))) x_wn (by decide) rfl (c207_75 (n0 := cn (fun l => h 76 (22 + 7 * l)) v265838 0 20) j266246  (by first | decide | omega) (by first | decide | omega)  m266248) (fun h289932 q289931 => ?_)
                            obtain ⟨j289933, f289934, m289936⟩ := q289931
                            have f289937 := Fr.trans f266251 f289934 (by decide)
                            have f289938 := Fr.trans f266252 f289934 (by decide)
                            have f289939 := Fr.trans f266245 f289934 (by decide)
                            refine x_iinc (np := 120) (i := 2) (j := 2147483649) (v := (1 + v266242)) (lo' := [x_r 75, iv_c v265838, iv_c (1 + v266242), w265841, w265842]) (by decide +kernel) (by decide) (by decide) rfl (by first | decide | omega) (by first | decide | omega) (by first | decide | omega) rfl ?_
                            refine x_goto (np := 123) (x := 88) (by decide +kernel) ?_
                            exact i266250 (1 + v266242) h289932 (by first | decide | omega) (by first | decide | omega) j289933 f289939 m289936
                        exact p266247 _ 2147483648 h266001 (Nat.lt_succ_self _) (by first | decide | omega) j266003 (Fr.refl _ _) m266005
                      have q266018 : ¬ ((h 76 0) ≤ v265999) := q266018
                      refine x_aload (np := 75) (x := 0) (by decide +kernel) rfl (x_nc_le (by decide)) ?_
                      refine x_iload (np := 76) (x := 2) (by decide +kernel) rfl (by first | decide | omega) ?_
                      refine x_iload (np := 77) (x := 1) (by decide +kernel) rfl (by first | decide | omega) ?_
                      refine x_cV (t := 6) (mj := 206) (n := 3) (rc := 12) (ml := 4) (nr := 0) (np := 80) (as := [x_r 75, iv_c v265999, iv_c v265838]) (rest := []) (lo1 := [x_r 75, iv_c v265999, iv_c v265838, 147573952589676412928]) (by decide +kernel) (by decide) (by decide +kernel) (x_rb_of (by decide +kernel)) rfl rfl (x_wr (by decide) (x_wi (by first | decide | omega) (x_wi (by first | decide | omega) x_wn))) x_wn (by decide) rfl (c206_75 (n0 := cn (fun l => h 76 (22 + 7 * l)) v265838 0 20) j266003  (by first | decide | omega) (by first | decide | omega)  m266005) (fun h289943 q289942 => ?_)
                      obtain ⟨j289944, f289945, m289947⟩ := q289942
                      have f289948 := Fr.trans f266008 f289945 (by decide)
                      have f289949 := Fr.trans f266009 f289945 (by decide)
                      have f289950 := Fr.trans f266002 f289945 (by decide)
                      refine x_iinc (np := 83) (i := 2) (j := 2147483649) (v := (1 + v265999)) (lo' := [x_r 75, iv_c v265838, iv_c (1 + v265999), w265841, w265842]) (by decide +kernel) (by decide) (by decide) rfl (by first | decide | omega) (by first | decide | omega) (by first | decide | omega) rfl ?_
                      refine x_goto (np := 86) (x := 66) (by decide +kernel) ?_
                      exact i266007 (1 + v265999) h289943 (by first | decide | omega) (by first | decide | omega) j289944 f289950 m289947
                  exact p266004 _ 2147483648 h265843 (Nat.lt_succ_self _) (by first | decide | omega) j265845 (Fr.refl _ _) m265847
              exact p265846 _ 2147483648 147573952589676412928 147573952589676412928 147573952589676412928 h564 (Nat.lt_succ_self _) (by first | decide | omega) j566 (Fr.refl _ _) (MB.mono m568 (Nat.le_refl _) (Nat.zero_le _))
            have q573 : ¬ (2147483668 ≤ v562) := q573
            refine x_aload (np := 30) (x := 0) (by decide +kernel) rfl (x_nc_le (by decide)) ?_
            have q289951 : h564 75 21 = 88 := by have z := jB (e := 21) 0 j566 rg_75_21_0_1 (by decide) (by decide); omega
            refine x_getR (np := 33) (x := 725) (f := 21) (q := 88) (by decide +kernel) (by decide) (by decide +kernel) q289951 ?_
            refine x_iload (np := 34) (x := 1) (by decide +kernel) rfl (by first | decide | omega) ?_
            refine x_const (np := 35) (x := 9223372034707292159) (a := 2147483647) (by decide +kernel) (by decide) (by decide) ?_
            obtain ⟨u289952, q289953⟩ : ∃ z, v562 = 2147483648 + z := ⟨v562 - 2147483648, by first | decide | omega⟩
            refine x_ast (np := 36) (x := 0) (kd := 1) (n := 20) (i := u289952) (by decide +kernel) (Or.inl rfl) (by decide +kernel) (by first | decide | omega) (by first | decide | omega) (by decide) (by decide) (fun z => absurd z (by decide)) ?_
            have j289955 := jU (e := u289952) (v := 2147483647) u289952 j566 rg_88_0_1_20 (by first | decide | omega) (by first | decide | omega) (by first | decide | omega)
            have f289957 := jF (e := u289952) (v := 2147483647) u289952 f571 rg_88_0_1_20 (by first | decide | omega) (by first | decide | omega) (by decide)
            have f289958 := jF (e := u289952) (v := 2147483647) u289952 f565 rg_88_0_1_20 (by first | decide | omega) (by first | decide | omega) (by decide)
            have m289959 := MB.oth (q := 88) (e := u289952) (v := 2147483647) m568 (by decide)
            generalize e289956 : x_up h564 88 u289952 2147483647 = h289954 at j289955 f289957 f289958 m289959 ⊢
            refine x_aload (np := 37) (x := 0) (by decide +kernel) rfl (x_nc_le (by decide)) ?_
            have q289960 : h289954 75 22 = 89 := by have z := jB (e := 22) 0 j289955 rg_75_22_0_1 (by decide) (by decide); omega
            refine x_getR (np := 40) (x := 726) (f := 22) (q := 89) (by decide +kernel) (by decide) (by decide +kernel) q289960 ?_
            refine x_iload (np := 41) (x := 1) (by decide +kernel) rfl (by first | decide | omega) ?_
            refine x_const (np := 42) (x := 9223372034707292159) (a := 2147483647) (by decide +kernel) (by decide) (by decide) ?_
            refine x_ast (np := 43) (x := 0) (kd := 1) (n := 20) (i := u289952) (by decide +kernel) (Or.inl rfl) (by decide +kernel) (by first | decide | omega) (by first | decide | omega) (by decide) (by decide) (fun z => absurd z (by decide)) ?_
            have j289962 := jU (e := u289952) (v := 2147483647) u289952 j289955 rg_89_0_1_20 (by first | decide | omega) (by first | decide | omega) (by first | decide | omega)
            have f289964 := jF (e := u289952) (v := 2147483647) u289952 f289957 rg_89_0_1_20 (by first | decide | omega) (by first | decide | omega) (by decide)
            have f289965 := jF (e := u289952) (v := 2147483647) u289952 f289958 rg_89_0_1_20 (by first | decide | omega) (by first | decide | omega) (by decide)
            have m289966 := MB.oth (q := 89) (e := u289952) (v := 2147483647) m289959 (by decide)
            generalize e289963 : x_up h289954 89 u289952 2147483647 = h289961 at j289962 f289964 f289965 m289966 ⊢
            refine x_aload (np := 44) (x := 0) (by decide +kernel) rfl (x_nc_le (by decide)) ?_
            have q289967 : h289961 75 23 = 90 := by have z := jB (e := 23) 0 j289962 rg_75_23_0_1 (by decide) (by decide); omega
            refine x_getR (np := 47) (x := 727) (f := 23) (q := 90) (by decide +kernel) (by decide) (by decide +kernel) q289967 ?_
            refine x_iload (np := 48) (x := 1) (by decide +kernel) rfl (by first | decide | omega) ?_
            refine x_const (np := 49) (x := 9223372039002259456) (a := 2147483648) (by decide +kernel) (by decide) (by decide) ?_
            refine x_ast (np := 50) (x := 0) (kd := 1) (n := 20) (i := u289952) (by decide +kernel) (Or.inl rfl) (by decide +kernel) (by first | decide | omega) (by first | decide | omega) (by decide) (by decide) (fun z => absurd z (by decide)) ?_
            have j289969 := jU (e := u289952) (v := 2147483648) u289952 j289962 rg_90_0_1_20 (by first | decide | omega) (by first | decide | omega) (by first | decide | omega)
            have f289971 := jF (e := u289952) (v := 2147483648) u289952 f289964 rg_90_0_1_20 (by first | decide | omega) (by first | decide | omega) (by decide)
            have f289972 := jF (e := u289952) (v := 2147483648) u289952 f289965 rg_90_0_1_20 (by first | decide | omega) (by first | decide | omega) (by decide)
            have m289973 := MB.oth (q := 90) (e := u289952) (v := 2147483648) m289966 (by decide)
            generalize e289970 : x_up h289961 90 u289952 2147483648 = h289968 at j289969 f289971 f289972 m289973 ⊢
            refine x_iinc (np := 53) (i := 1) (j := 2147483649) (v := (1 + v562)) (lo' := [x_r 75, iv_c (1 + v562), 147573952589676412928, 147573952589676412928, 147573952589676412928]) (by decide +kernel) (by decide) (by decide) rfl (by first | decide | omega) (by first | decide | omega) (by first | decide | omega) rfl ?_
            refine x_goto (np := 56) (x := 23) (by decide +kernel) ?_
            exact i570 (1 + v562) h289968 (by first | decide | omega) (by first | decide | omega) j289969 f289972 m289973
        exact p567 _ 2147483648 h102 (Nat.lt_succ_self _) (by first | decide | omega) j104 (Fr.refl _ _) (MB.mono m112 (by first | decide | omega) (Nat.le_refl _))
      have q114 : ¬ (2147483654 ≤ v100) := q114
      refine x_aload (np := 9) (x := 0) (by decide +kernel) rfl (x_nc_le (by decide)) ?_
      have q289974 : h102 75 16 = 83 := by have z := jB (e := 16) 0 j104 rg_75_16_0_1 (by decide) (by decide); omega
      refine x_getR (np := 12) (x := 720) (f := 16) (q := 83) (by decide +kernel) (by decide) (by decide +kernel) q289974 ?_
      refine x_iload (np := 13) (x := 1) (by decide +kernel) rfl (by first | decide | omega) ?_
      refine x_const (np := 14) (x := 9223372039002259456) (a := 2147483648) (by decide +kernel) (by decide) (by decide) ?_
      refine x_ast (np := 15) (x := 0) (kd := 1) (n := 6) (i := u110) (by decide +kernel) (Or.inl rfl) (by decide +kernel) (by first | decide | omega) (by first | decide | omega) (by decide) (by decide) (fun z => absurd z (by decide)) ?_
      have j289976 := jU (e := u110) (v := 2147483648) u110 j104 rg_83_0_1_6 (by first | decide | omega) (by first | decide | omega) (by first | decide | omega)
      have f289978 := jF (e := u110) (v := 2147483648) u110 f109 rg_83_0_1_6 (by first | decide | omega) (by first | decide | omega) (by decide)
      have f289979 := jF (e := u110) (v := 2147483648) u110 f103 rg_83_0_1_6 (by first | decide | omega) (by first | decide | omega) (by decide)
      have m289980 := MB.ext (k := u110) (v := 2147483648) m112 (by first | decide | omega)
      generalize e289977 : x_up h102 83 u110 2147483648 = h289975 at j289976 f289978 f289979 m289980 ⊢
      refine x_iinc (np := 18) (i := 1) (j := 2147483649) (v := (1 + v100)) (lo' := [x_r 75, iv_c (1 + v100), 147573952589676412928, 147573952589676412928, 147573952589676412928]) (by decide +kernel) (by decide) (by decide) rfl (by first | decide | omega) (by first | decide | omega) (by first | decide | omega) rfl ?_
      refine x_goto (np := 21) (x := 2) (by decide +kernel) ?_
      have m289981 : MB ((1 + v100) - 2147483648) 0 h289975 := by
        have e : (1 + v100) - 2147483648 = (u110 + 1) := by first | decide | omega
        rw [e]
        exact m289980
      exact i108 (1 + v100) h289975 (by first | decide | omega) (by first | decide | omega) j289976 f289979 m289981
  exact p105 _ 2147483648 h (Nat.lt_succ_self _) (by first | decide | omega) hJ (Fr.refl _ _) (show MB (2147483648 - 2147483648) 0 h from MB.zero)
