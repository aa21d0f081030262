/-! ===== methods ===== -/
set_option maxHeartbeats 0 in
/-- LentNames$Calendar.refused()I -/
theorem c14_45 {sc : Nat × Nat} {d  : Nat} {h : xh} (hJ : J h) : X sc 14 d (xI fun r h' => h' = h ∧ (0 ≤ r ∧ r ≤ 4294967295)) 0 0 0 [x_r 45, 147573952589676412928, 147573952589676412928] [] h := by
  refine x_const (np := 1) (x := 9223372039002259456) (a := 2147483648) (by decide +kernel) (by decide) (by decide) ?_
  refine x_istore (np := 2) (x := 1) (lo' := [x_r 45, iv_c 2147483648, 147573952589676412928]) (by decide +kernel) (by decide) (Nat.le_of_ble_eq_true rfl) rfl ?_
  refine x_const (np := 3) (x := 9223372039002259456) (a := 2147483648) (by decide +kernel) (by decide) (by decide) ?_
  refine x_istore (np := 4) (x := 2) (lo' := [x_r 45, iv_c 2147483648, iv_c 2147483648]) (by decide +kernel) (by decide) (Nat.le_of_ble_eq_true rfl) rfl ?_
  have p505 : ∀ (n : Nat) (v501 : Nat) (v503 : Nat), 4294967296 - v503 < n → (0 ≤ v501 ∧ v501 ≤ 4294967295) → (2147483648 ≤ v503 ∧ v503 ≤ 2147483668) → X sc 14 d (xI fun r h' => h' = h ∧ (0 ≤ r ∧ r ≤ 4294967295)) 0 0 4 [x_r 45, iv_c v501, iv_c v503] [] h := by
    intro n
    induction n with
    | zero => intro v501 v503 q506; exact absurd q506 (Nat.not_lt_zero _)
    | succ n i507 =>
      intro v501 v503 q506 b502 b504
      refine x_iload (np := 5) (x := 2) (by decide +kernel) rfl (by first | decide | omega) ?_
      refine x_aload (np := 6) (x := 0) (by decide +kernel) rfl (x_nc_le (by decide)) ?_
      have t508 : tw (h 45 5) := hJ.2.2.2.1
      refine x_getR (np := 9) (x := 69) (f := 5) (q := (h 45 5)) (by decide +kernel) (by decide) (by decide +kernel) rfl ?_
      have q509 : h (h 45 5) 0 = ((h 45 5) + 1) := tf_0_0 hJ t508
      refine x_getR (np := 12) (x := 512) (f := 0) (q := ((h 45 5) + 1)) (by decide +kernel) (by decide) (tg_0_512_0_1 t508) q509 ?_
      have b510 := jB (e := 2) 0 hJ (rg_T1_2_0_1 t508) (by first | decide | omega) (by first | decide | omega)
      refine x_getC (np := 15) (x := 386) (f := 2) (q := (h ((h 45 5) + 1) 2)) (by decide +kernel) (by decide) (tg_1_386_2_0 t508) rfl (fun l511 => ?_)
      refine x_icmp (k := 3) (tg := 37) (np := 18) (by decide +kernel) (by decide) (by first | decide | omega) l511 (fun q512 => ?_) (fun q513 => ?_)
      · have q512 : (h ((h 45 5) + 1) 2) ≤ v503 := q512
        refine x_iload (np := 38) (x := 1) (by decide +kernel) rfl (by first | decide | omega) ?_
        refine x_retI (np := 39) (x := 0) (by decide +kernel) (by first | decide | omega) (Or.inl (by decide +kernel)) ⟨_, rfl, (by first | decide | omega), ?_⟩
        exact ⟨rfl, (by first | decide | omega)⟩
      have q513 : ¬ ((h ((h 45 5) + 1) 2) ≤ v503) := q513
      refine x_aload (np := 19) (x := 0) (by decide +kernel) rfl (x_nc_le (by decide)) ?_
      have q514 : h 45 2 = 48 := by have z := jB (e := 2) 0 hJ rg_45_2_0_1 (by decide) (by decide); omega
      refine x_getR (np := 22) (x := 66) (f := 2) (q := 48) (by decide +kernel) (by decide) (by decide +kernel) q514 ?_
      refine x_iload (np := 23) (x := 2) (by decide +kernel) rfl (by first | decide | omega) ?_
      obtain ⟨u515, q516⟩ : ∃ z, v503 = 2147483648 + z := ⟨v503 - 2147483648, by first | decide | omega⟩
      refine x_aldC (np := 24) (x := 0) (n := 20) (i := u515) (q := (h 48 u515)) (by decide +kernel) (by decide +kernel) (by first | decide | omega) (by first | decide | omega) (by decide) rfl (fun l517 => ?_)
      refine x_const (np := 25) (x := 9223372034707292159) (a := 2147483647) (by decide +kernel) (by decide) (by decide) ?_
      refine x_icmp (k := 1) (tg := 31) (np := 28) (by decide +kernel) (by decide) l517 (by decide) (fun q518 => ?_) (fun q519 => ?_)
      · have q518 : (h 48 u515) ≠ 2147483647 := q518
        refine x_iinc (np := 34) (i := 2) (j := 2147483649) (v := (1 + v503)) (lo' := [x_r 45, iv_c v501, iv_c (1 + v503)]) (by decide +kernel) (by decide) (by decide) rfl (by first | decide | omega) (by first | decide | omega) (by first | decide | omega) rfl ?_
        refine x_goto (np := 37) (x := 4) (by decide +kernel) ?_
        exact i507 v501 (1 + v503) (by first | decide | omega) (by first | decide | omega) (by first | decide | omega)
      have q519 : ¬ ((h 48 u515) ≠ 2147483647) := q519
      refine x_incA (i := 1) (n := 1) (by rw [tb_b14]; decide +kernel) rfl (by first | decide | omega) (fun v520 l521 => ?_)
      show X _ _ _ _ _ _ _ [x_r 45, iv_c v520, iv_c v503] _ _
      refine x_iinc (np := 34) (i := 2) (j := 2147483649) (v := (1 + v503)) (lo' := [x_r 45, iv_c v520, iv_c (1 + v503)]) (by decide +kernel) (by decide) (by decide) rfl (by first | decide | omega) (by first | decide | omega) (by first | decide | omega) rfl ?_
      refine x_goto (np := 37) (x := 4) (by decide +kernel) ?_
      exact i507 v520 (1 + v503) (by first | decide | omega) (by first | decide | omega) (by first | decide | omega)
  exact p505 _ 2147483648 2147483648 (Nat.lt_succ_self _) (by first | decide | omega) (by first | decide | omega)
set_option maxHeartbeats 0 in
/-- LentNames$Town.dying()I -/
theorem c88_T0 {sc : Nat × Nat} {d ra0 : Nat} {h : xh} (hJ : J h) (ta0 : tw ra0) : X sc 88 d (xI fun r h' => h' = h ∧ (0 ≤ r ∧ r ≤ 4294967295)) 0 0 0 [x_r ra0, 147573952589676412928, 147573952589676412928] [] h := by
  refine x_const (np := 1) (x := 9223372039002259456) (a := 2147483648) (by decide +kernel) (by decide) (by decide) ?_
  refine x_istore (np := 2) (x := 1) (lo' := [x_r ra0, iv_c 2147483648, 147573952589676412928]) (by decide +kernel) (by decide) (Nat.le_of_ble_eq_true rfl) rfl ?_
  refine x_const (np := 3) (x := 9223372039002259456) (a := 2147483648) (by decide +kernel) (by decide) (by decide) ?_
  refine x_istore (np := 4) (x := 2) (lo' := [x_r ra0, iv_c 2147483648, iv_c 2147483648]) (by decide +kernel) (by decide) (Nat.le_of_ble_eq_true rfl) rfl ?_
  have p443 : ∀ (n : Nat) (v439 : Nat) (v441 : Nat), 4294967296 - v441 < n → (0 ≤ v439 ∧ v439 ≤ 4294967295) → (2147483648 ≤ v441 ∧ v441 ≤ 2147483654) → X sc 88 d (xI fun r h' => h' = h ∧ (0 ≤ r ∧ r ≤ 4294967295)) 0 0 4 [x_r ra0, iv_c v439, iv_c v441] [] h := by
    intro n
    induction n with
    | zero => intro v439 v441 q444; exact absurd q444 (Nat.not_lt_zero _)
    | succ n i445 =>
      intro v439 v441 q444 b440 b442
      refine x_iload (np := 5) (x := 2) (by decide +kernel) rfl (by first | decide | omega) ?_
      refine x_aload (np := 6) (x := 0) (by decide +kernel) rfl (x_nc_le (tn_0 ta0)) ?_
      have b446 := jB (e := 7) 0 hJ (rg_T0_7_0_1 ta0) (by first | decide | omega) (by first | decide | omega)
      refine x_getC (np := 9) (x := 519) (f := 7) (q := (h ra0 7)) (by decide +kernel) (by decide) (tg_0_519_7_0 ta0) rfl (fun l447 => ?_)
      refine x_icmp (k := 3) (tg := 32) (np := 12) (by decide +kernel) (by decide) (by first | decide | omega) l447 (fun q448 => ?_) (fun q449 => ?_)
      · have q448 : (h ra0 7) ≤ v441 := q448
        refine x_iload (np := 33) (x := 1) (by decide +kernel) rfl (by first | decide | omega) ?_
        refine x_retI (np := 34) (x := 0) (by decide +kernel) (by first | decide | omega) (Or.inl (by decide +kernel)) ⟨_, rfl, (by first | decide | omega), ?_⟩
        exact ⟨rfl, (by first | decide | omega)⟩
      have q449 : ¬ ((h ra0 7) ≤ v441) := q449
      refine x_aload (np := 13) (x := 0) (by decide +kernel) rfl (x_nc_le (tn_0 ta0)) ?_
      have q450 : h ra0 4 = (ra0 + 9) := tf_0_4 hJ ta0
      refine x_getR (np := 16) (x := 516) (f := 4) (q := (ra0 + 9)) (by decide +kernel) (by decide) (tg_0_516_4_1 ta0) q450 ?_
      refine x_iload (np := 17) (x := 2) (by decide +kernel) rfl (by first | decide | omega) ?_
      obtain ⟨u451, q452⟩ : ∃ z, v441 = 2147483648 + z := ⟨v441 - 2147483648, by first | decide | omega⟩
      refine x_aldC (np := 18) (x := 0) (n := 6) (i := u451) (q := (h (ra0 + 9) u451)) (by decide +kernel) (ta_9_6 ta0) (by first | decide | omega) (by first | decide | omega) (by decide) rfl (fun l453 => ?_)
      refine x_const (np := 20) (x := 9223372090541867020) (a := 2147483660) (by decide +kernel) (by decide) (by decide) ?_
      refine x_icmp (k := 3) (tg := 26) (np := 23) (by decide +kernel) (by decide) l453 (by decide) (fun q454 => ?_) (fun q455 => ?_)
      · have q454 : 2147483660 ≤ (h (ra0 + 9) u451) := q454
        refine x_iinc (np := 29) (i := 2) (j := 2147483649) (v := (1 + v441)) (lo' := [x_r ra0, iv_c v439, iv_c (1 + v441)]) (by decide +kernel) (by decide) (by decide) rfl (by first | decide | omega) (by first | decide | omega) (by first | decide | omega) rfl ?_
        refine x_goto (np := 32) (x := 4) (by decide +kernel) ?_
        exact i445 v439 (1 + v441) (by first | decide | omega) (by first | decide | omega) (by first | decide | omega)
      have q455 : ¬ (2147483660 ≤ (h (ra0 + 9) u451)) := q455
      refine x_incA (i := 1) (n := 1) (by rw [tb_b88]; decide +kernel) rfl (by first | decide | omega) (fun v456 l457 => ?_)
      show X _ _ _ _ _ _ _ [x_r ra0, iv_c v456, iv_c v441] _ _
      refine x_iinc (np := 29) (i := 2) (j := 2147483649) (v := (1 + v441)) (lo' := [x_r ra0, iv_c v456, iv_c (1 + v441)]) (by decide +kernel) (by decide) (by decide) rfl (by first | decide | omega) (by first | decide | omega) (by first | decide | omega) rfl ?_
      refine x_goto (np := 32) (x := 4) (by decide +kernel) ?_
      exact i445 v456 (1 + v441) (by first | decide | omega) (by first | decide | omega) (by first | decide | omega)
  exact p443 _ 2147483648 2147483648 (Nat.lt_succ_self _) (by first | decide | omega) (by first | decide | omega)
set_option maxHeartbeats 0 in
/-- LentNames$Town.wishes()I -/
theorem c89_T0 {sc : Nat × Nat} {d ra0 : Nat} {h : xh} (hJ : J h) (ta0 : tw ra0) : X sc 89 (d + 1) (xI fun r h' => h' = h ∧ (0 ≤ r ∧ r ≤ 4294967295)) 0 0 0 [x_r ra0, 147573952589676412928, 147573952589676412928] [] h := by
  refine x_const (np := 1) (x := 9223372039002259456) (a := 2147483648) (by decide +kernel) (by decide) (by decide) ?_
  refine x_istore (np := 2) (x := 1) (lo' := [x_r ra0, iv_c 2147483648, 147573952589676412928]) (by decide +kernel) (by decide) (Nat.le_of_ble_eq_true rfl) rfl ?_
  refine x_const (np := 3) (x := 9223372039002259456) (a := 2147483648) (by decide +kernel) (by decide) (by decide) ?_
  refine x_istore (np := 4) (x := 2) (lo' := [x_r ra0, iv_c 2147483648, iv_c 2147483648]) (by decide +kernel) (by decide) (Nat.le_of_ble_eq_true rfl) rfl ?_
  have p1032 : ∀ (n : Nat) (v1028 : Nat) (v1030 : Nat), 4294967296 - v1030 < n → (0 ≤ v1028 ∧ v1028 ≤ 4294967295) → (2147483648 ≤ v1030 ∧ v1030 ≤ 2147483658) → X sc 89 (d + 1) (xI fun r h' => h' = h ∧ (0 ≤ r ∧ r ≤ 4294967295)) 0 0 4 [x_r ra0, iv_c v1028, iv_c v1030] [] h := by
    intro n
    induction n with
    | zero => intro v1028 v1030 q1033; exact absurd q1033 (Nat.not_lt_zero _)
    | succ n i1034 =>
      intro v1028 v1030 q1033 b1029 b1031
      refine x_iload (np := 5) (x := 2) (by decide +kernel) rfl (by first | decide | omega) ?_
      refine x_aload (np := 6) (x := 0) (by decide +kernel) rfl (x_nc_le (tn_0 ta0)) ?_
      have q1035 : h ra0 1 = (ra0 + 3) := tf_0_1 hJ ta0
      refine x_getR (np := 9) (x := 513) (f := 1) (q := (ra0 + 3)) (by decide +kernel) (by decide) (tg_0_513_1_1 ta0) q1035 ?_
      have b1036 := jB (e := 2) 0 hJ (rg_T3_2_0_1 ta0) (by first | decide | omega) (by first | decide | omega)
      refine x_getC (np := 12) (x := 386) (f := 2) (q := (h (ra0 + 3) 2)) (by decide +kernel) (by decide) (tg_3_386_2_0 ta0) rfl (fun l1037 => ?_)
      refine x_icmp (k := 3) (tg := 37) (np := 15) (by decide +kernel) (by decide) (by first | decide | omega) l1037 (fun q1038 => ?_) (fun q1039 => ?_)
      · have q1038 : (h (ra0 + 3) 2) ≤ v1030 := q1038
        refine x_iload (np := 38) (x := 1) (by decide +kernel) rfl (by first | decide | omega) ?_
        refine x_retI (np := 39) (x := 0) (by decide +kernel) (by first | decide | omega) (Or.inl (by decide +kernel)) ⟨_, rfl, (by first | decide | omega), ?_⟩
        exact ⟨rfl, (by first | decide | omega)⟩
      have q1039 : ¬ ((h (ra0 + 3) 2) ≤ v1030) := q1039
      refine x_aload (np := 16) (x := 0) (by decide +kernel) rfl (x_nc_le (tn_0 ta0)) ?_
      have q1040 : h ra0 1 = (ra0 + 3) := tf_0_1 hJ ta0
      refine x_getR (np := 19) (x := 513) (f := 1) (q := (ra0 + 3)) (by decide +kernel) (by decide) (tg_0_513_1_1 ta0) q1040 ?_
      refine x_iload (np := 20) (x := 2) (by decide +kernel) rfl (by first | decide | omega) ?_
      refine x_const (np := 21) (x := 9223372051887161347) (a := 2147483651) (by decide +kernel) (by decide) (by decide) ?_
      refine x_nI (t := 6) (mj := 68) (n := 3) (rc := 7) (ml := 4) (nr := 0) (np := 24) (as := [x_r (ra0 + 3), iv_c v1030, iv_c 2147483651]) (rest := []) (lo1 := [x_r (ra0 + 3), iv_c v1030, iv_c 2147483651, 147573952589676412928]) (by decide +kernel) (by decide) (by decide +kernel) (x_rb_of (tr_3_7 ta0)) rfl rfl (x_wr (tn_3 ta0) (x_wi (by first | decide | omega) (x_wi (by decide) x_wn))) x_wn (by decide) rfl ?_
      refine x_iload (np := 1) (x := 1) (by decide +kernel) rfl (by first | decide | omega) ?_
      refine x_ifz (k := 2) (tg := 28) (np := 4) (by decide +kernel) (by decide) (by first | decide | omega) (fun q1041 => ?_) (fun q1042 => ?_)
      · have q1041 : v1030 < 2147483648 := q1041
        exfalso; omega
      have q1042 : ¬ (v1030 < 2147483648) := q1042
      refine x_iload (np := 5) (x := 1) (by decide +kernel) rfl (by first | decide | omega) ?_
      refine x_aload (np := 6) (x := 0) (by decide +kernel) rfl (x_nc_le (tn_3 ta0)) ?_
      refine x_getC (np := 9) (x := 386) (f := 2) (q := (h (ra0 + 3) 2)) (by decide +kernel) (by decide) (tg_3_386_2_0 ta0) rfl (fun l1043 => ?_)
      refine x_icmp (k := 3) (tg := 28) (np := 12) (by decide +kernel) (by decide) (by first | decide | omega) l1037 (fun q1044 => ?_) (fun q1045 => ?_)
      · have q1044 : (h (ra0 + 3) 2) ≤ v1030 := q1044
        exfalso; omega
      have q1045 : ¬ ((h (ra0 + 3) 2) ≤ v1030) := q1045
      refine x_iload (np := 13) (x := 2) (by decide +kernel) rfl (by decide) ?_
      refine x_ifz (k := 2) (tg := 28) (np := 16) (by decide +kernel) (by decide) (by decide) (fun q1046 => ?_) (fun q1047 => ?_)
      · have q1046 : 2147483651 < 2147483648 := q1046
        exfalso; omega
      have q1047 : ¬ (2147483651 < 2147483648) := q1047
      refine x_iload (np := 17) (x := 2) (by decide +kernel) rfl (by decide) ?_
      refine x_aload (np := 18) (x := 0) (by decide +kernel) rfl (x_nc_le (tn_3 ta0)) ?_
      have b1048 := jB (e := 0) 0 hJ (rg_T3_0_0_1 ta0) (by first | decide | omega) (by first | decide | omega)
      have q1049 : (h (ra0 + 3) 0) = 2147483652 := by first | decide | omega
      refine x_getC (np := 21) (x := 384) (f := 0) (q := 2147483652) (by decide +kernel) (by decide) (tg_3_384_0_0 ta0) q1049 (fun l1050 => ?_)
      refine x_icmp (k := 3) (tg := 28) (np := 24) (by decide +kernel) (by decide) (by decide) (by decide) (fun q1051 => ?_) (fun q1052 => ?_)
      · have q1051 : 2147483652 ≤ 2147483651 := q1051
        exfalso; omega
      have q1052 : ¬ (2147483652 ≤ 2147483651) := q1052
      refine x_const (np := 25) (x := 9223372043297226753) (a := 2147483649) (by decide +kernel) (by decide) (by decide) ?_
      refine x_goto (np := 28) (x := 29) (by decide +kernel) ?_
      refine x_istore (np := 30) (x := 3) (lo' := [x_r (ra0 + 3), iv_c v1030, iv_c 2147483651, iv_c 2147483649]) (by decide +kernel) (by decide) (Nat.le_of_ble_eq_true rfl) rfl ?_
      refine x_iload (np := 31) (x := 3) (by decide +kernel) rfl (by decide) ?_
      refine x_ifz (k := 0) (tg := 50) (np := 34) (by decide +kernel) (by decide) (by decide) (fun q1053 => ?_) (fun q1054 => ?_)
      · have q1053 : 2147483649 = 2147483648 := q1053
        exfalso; omega
      have q1054 : ¬ (2147483649 = 2147483648) := q1054
      refine x_aload (np := 35) (x := 0) (by decide +kernel) rfl (x_nc_le (tn_3 ta0)) ?_
      have q1055 : h (ra0 + 3) 1 = (ra0 + 4) := tf_3_1 hJ ta0
      refine x_getR (np := 38) (x := 385) (f := 1) (q := (ra0 + 4)) (by decide +kernel) (by decide) (tg_3_385_1_1 ta0) q1055 ?_
      refine x_iload (np := 39) (x := 1) (by decide +kernel) rfl (by first | decide | omega) ?_
      refine x_aload (np := 40) (x := 0) (by decide +kernel) rfl (x_nc_le (tn_3 ta0)) ?_
      refine x_getC (np := 43) (x := 384) (f := 0) (q := 2147483652) (by decide +kernel) (by decide) (tg_3_384_0_0 ta0) q1049 (fun l1056 => ?_)
      obtain ⟨u1057, q1058⟩ : ∃ z, v1030 = 2147483648 + z := ⟨v1030 - 2147483648, by first | decide | omega⟩
      refine x_imul (np := 44) (x := 0) (i := u1057) (j := 4) (v := (2147483648 + 4 * u1057)) (by decide +kernel) (by first | decide | omega) (by first | decide | omega) (by first | decide | omega) (by first | decide | omega) (by first | decide | omega) (by decide) ?_
      refine x_iload (np := 45) (x := 2) (by decide +kernel) rfl (by decide) ?_
      refine x_iadd (np := 46) (x := 0) (v := (2147483651 + 4 * u1057)) (by decide +kernel) (by first | decide | omega) (by decide) (by first | decide | omega) (by first | decide | omega) ?_
      have b1060 := jB (e := (3 + 4 * u1057)) u1057 hJ (rg_T4_3_4_10 ta0) (by first | decide | omega) (by first | decide | omega)
      refine x_aldC (np := 47) (x := 0) (n := 40) (i := (3 + 4 * u1057)) (q := ((h (ra0 + 4) (3 + 4 * u1057)))) (by decide +kernel) (ta_4_40 ta0) (by first | decide | omega) (by first | decide | omega) (by decide) rfl (fun l1061 => ?_)
      refine x_goto (np := 50) (x := 51) (by decide +kernel) ?_
      refine x_retI (np := 52) (x := 0) (by decide +kernel) l1061 (Or.inl (by decide +kernel)) ⟨_, rfl, l1061, ?_⟩
      refine x_const (np := 25) (x := 9223372034707292159) (a := 2147483647) (by decide +kernel) (by decide) (by decide) ?_
      refine x_icmp (k := 0) (tg := 31) (np := 28) (by decide +kernel) (by decide) l1061 (by decide) (fun q1062 => ?_) (fun q1063 => ?_)
      · have q1062 : ((h (ra0 + 4) (3 + 4 * u1057))) = 2147483647 := q1062
        refine x_iinc (np := 34) (i := 2) (j := 2147483649) (v := (1 + v1030)) (lo' := [x_r ra0, iv_c v1028, iv_c (1 + v1030)]) (by decide +kernel) (by decide) (by decide) rfl (by first | decide | omega) (by first | decide | omega) (by first | decide | omega) rfl ?_
        refine x_goto (np := 37) (x := 4) (by decide +kernel) ?_
        exact i1034 v1028 (1 + v1030) (by first | decide | omega) (by first | decide | omega) (by first | decide | omega)
      have q1063 : ¬ (((h (ra0 + 4) (3 + 4 * u1057))) = 2147483647) := q1063
      refine x_incA (i := 1) (n := 1) (by rw [tb_b89]; decide +kernel) rfl (by first | decide | omega) (fun v1064 l1065 => ?_)
      show X _ _ _ _ _ _ _ [x_r ra0, iv_c v1064, iv_c v1030] _ _
      refine x_iinc (np := 34) (i := 2) (j := 2147483649) (v := (1 + v1030)) (lo' := [x_r ra0, iv_c v1064, iv_c (1 + v1030)]) (by decide +kernel) (by decide) (by decide) rfl (by first | decide | omega) (by first | decide | omega) (by first | decide | omega) rfl ?_
      refine x_goto (np := 37) (x := 4) (by decide +kernel) ?_
      exact i1034 v1064 (1 + v1030) (by first | decide | omega) (by first | decide | omega) (by first | decide | omega)
  exact p1032 _ 2147483648 2147483648 (Nat.lt_succ_self _) (by first | decide | omega) (by first | decide | omega)
set_option maxHeartbeats 0 in
/-- LentNames$Town.coins()I -/
theorem c90_T0 {sc : Nat × Nat} {d ra0 : Nat} {h : xh} (hJ : J h) (ta0 : tw ra0) : X sc 90 d (xI fun r h' => h' = h ∧ (0 ≤ r ∧ r ≤ 4294967295)) 0 0 0 [x_r ra0, 147573952589676412928, 147573952589676412928] [] h := by
  refine x_const (np := 1) (x := 9223372039002259456) (a := 2147483648) (by decide +kernel) (by decide) (by decide) ?_
  refine x_istore (np := 2) (x := 1) (lo' := [x_r ra0, iv_c 2147483648, 147573952589676412928]) (by decide +kernel) (by decide) (Nat.le_of_ble_eq_true rfl) rfl ?_
  refine x_const (np := 3) (x := 9223372039002259456) (a := 2147483648) (by decide +kernel) (by decide) (by decide) ?_
  refine x_istore (np := 4) (x := 2) (lo' := [x_r ra0, iv_c 2147483648, iv_c 2147483648]) (by decide +kernel) (by decide) (Nat.le_of_ble_eq_true rfl) rfl ?_
  have p89 : ∀ (n : Nat) (v85 : Nat) (v87 : Nat), 4294967296 - v87 < n → (0 ≤ v85 ∧ v85 ≤ 4294967295) → (2147483648 ≤ v87 ∧ v87 ≤ 2147483654) → X sc 90 d (xI fun r h' => h' = h ∧ (0 ≤ r ∧ r ≤ 4294967295)) 0 0 4 [x_r ra0, iv_c v85, iv_c v87] [] h := by
    intro n
    induction n with
    | zero => intro v85 v87 q90; exact absurd q90 (Nat.not_lt_zero _)
    | succ n i91 =>
      intro v85 v87 q90 b86 b88
      refine x_iload (np := 5) (x := 2) (by decide +kernel) rfl (by first | decide | omega) ?_
      refine x_aload (np := 6) (x := 0) (by decide +kernel) rfl (x_nc_le (tn_0 ta0)) ?_
      have b92 := jB (e := 7) 0 hJ (rg_T0_7_0_1 ta0) (by first | decide | omega) (by first | decide | omega)
      refine x_getC (np := 9) (x := 519) (f := 7) (q := (h ra0 7)) (by decide +kernel) (by decide) (tg_0_519_7_0 ta0) rfl (fun l93 => ?_)
      refine x_icmp (k := 3) (tg := 27) (np := 12) (by decide +kernel) (by decide) (by first | decide | omega) l93 (fun q94 => ?_) (fun q95 => ?_)
      · have q94 : (h ra0 7) ≤ v87 := q94
        refine x_iload (np := 28) (x := 1) (by decide +kernel) rfl (by first | decide | omega) ?_
        refine x_retI (np := 29) (x := 0) (by decide +kernel) (by first | decide | omega) (Or.inl (by decide +kernel)) ⟨_, rfl, (by first | decide | omega), ?_⟩
        exact ⟨rfl, (by first | decide | omega)⟩
      have q95 : ¬ ((h ra0 7) ≤ v87) := q95
      refine x_iload (np := 13) (x := 1) (by decide +kernel) rfl (by first | decide | omega) ?_
      refine x_aload (np := 14) (x := 0) (by decide +kernel) rfl (x_nc_le (tn_0 ta0)) ?_
      have q96 : h ra0 5 = (ra0 + 10) := tf_0_5 hJ ta0
      refine x_getR (np := 17) (x := 517) (f := 5) (q := (ra0 + 10)) (by decide +kernel) (by decide) (tg_0_517_5_1 ta0) q96 ?_
      refine x_iload (np := 18) (x := 2) (by decide +kernel) rfl (by first | decide | omega) ?_
      obtain ⟨u97, q98⟩ : ∃ z, v87 = 2147483648 + z := ⟨v87 - 2147483648, by first | decide | omega⟩
      refine x_aldC (np := 19) (x := 0) (n := 6) (i := u97) (q := (h (ra0 + 10) u97)) (by decide +kernel) (ta_10_6 ta0) (by first | decide | omega) (by first | decide | omega) (by decide) rfl (fun l99 => ?_)
      refine x_addA (by rw [tb_b90]; decide +kernel) (by first | decide | omega) l99 (fun v100 l101 => ?_)
      refine x_istore (np := 21) (x := 1) (lo' := [x_r ra0, iv_c v100, iv_c v87]) (by decide +kernel) l101 (Nat.le_of_ble_eq_true rfl) rfl ?_
      refine x_iinc (np := 24) (i := 2) (j := 2147483649) (v := (1 + v87)) (lo' := [x_r ra0, iv_c v100, iv_c (1 + v87)]) (by decide +kernel) (by decide) (by decide) rfl (by first | decide | omega) (by first | decide | omega) (by first | decide | omega) rfl ?_
      refine x_goto (np := 27) (x := 4) (by decide +kernel) ?_
      exact i91 v100 (1 + v87) (by first | decide | omega) (by first | decide | omega) (by first | decide | omega)
  exact p89 _ 2147483648 2147483648 (Nat.lt_succ_self _) (by first | decide | omega) (by first | decide | omega)
set_option maxHeartbeats 0 in
/-- LentNames.count(I)I -/
theorem c140_0 {sc : Nat × Nat} {d a1 : Nat} {h : xh} (hJ : J h) (ba1 : 0 ≤ a1 ∧ a1 ≤ 4294967295) : X sc 140 (d + 2) (xI fun r h' => h' = h ∧ (0 ≤ r ∧ r ≤ 4294967295)) 0 0 0 [x_r 0, iv_c a1] [] h := by
  have la1 : a1 < 4294967296 := by first | decide | omega
  refine x_iload (np := 1) (x := 1) (by decide +kernel) rfl la1 ?_
  rcases (show a1 < 2147483648 ∨ 2147483659 < a1 ∨ (a1 = 2147483648 ∨ a1 = 2147483649 ∨ a1 = 2147483650 ∨ a1 = 2147483651 ∨ a1 = 2147483652 ∨ a1 = 2147483653 ∨ a1 = 2147483654 ∨ a1 = 2147483655 ∨ a1 = 2147483656 ∨ a1 = 2147483657 ∨ a1 = 2147483658 ∨ a1 = 2147483659) by first | decide | omega) with q1 | q1 | q1 | q1 | q1 | q1 | q1 | q1 | q1 | q1 | q1 | q1 | q1 | q1
  · refine x_tsw0 (np := 2) (x := 0) (by decide +kernel) la1 (lo9 := 2147483648) (hi9 := 2147483659) (tg := 178) (by decide +kernel) (Or.inl q1) ?_
    refine x_const (np := 179) (x := 9223372034707292159) (a := 2147483647) (by decide +kernel) (by decide) (by decide) ?_
    refine x_retI (np := 180) (x := 0) (by decide +kernel) (by decide) (Or.inl (by decide +kernel)) ⟨_, rfl, (by decide), ?_⟩
    exact ⟨rfl, (by first | decide | omega)⟩
  · refine x_tsw0 (np := 2) (x := 0) (by decide +kernel) la1 (lo9 := 2147483648) (hi9 := 2147483659) (tg := 178) (by decide +kernel) (Or.inr q1) ?_
    refine x_const (np := 179) (x := 9223372034707292159) (a := 2147483647) (by decide +kernel) (by decide) (by decide) ?_
    refine x_retI (np := 180) (x := 0) (by decide +kernel) (by decide) (Or.inl (by decide +kernel)) ⟨_, rfl, (by decide), ?_⟩
    exact ⟨rfl, (by first | decide | omega)⟩
  · refine x_tsw1 (np := 2) (x := 0) (by decide +kernel) la1 (i := 0) (lo9 := 2147483648) (hi9 := 2147483659) (tg := 64) (by decide +kernel) (by first | decide | omega) (by first | decide | omega) ?_
    refine x_aload (np := 65) (x := 0) (by decide +kernel) rfl (x_nc_le (by decide)) ?_
    have t2 : tw (h 0 8) := hJ.2.1
    refine x_getR (np := 68) (x := 648) (f := 8) (q := (h 0 8)) (by decide +kernel) (by decide) (by decide +kernel) rfl ?_
    have b3 := jB (e := 7) 0 hJ (rg_T0_7_0_1 t2) (by first | decide | omega) (by first | decide | omega)
    refine x_getC (np := 71) (x := 519) (f := 7) (q := (h (h 0 8) 7)) (by decide +kernel) (by decide) (tg_0_519_7_0 t2) rfl (fun l4 => ?_)
    refine x_retI (np := 72) (x := 0) (by decide +kernel) l4 (Or.inl (by decide +kernel)) ⟨_, rfl, l4, ?_⟩
    exact ⟨rfl, (by first | decide | omega)⟩
  · refine x_tsw1 (np := 2) (x := 0) (by decide +kernel) la1 (i := 1) (lo9 := 2147483648) (hi9 := 2147483659) (tg := 72) (by decide +kernel) (by first | decide | omega) (by first | decide | omega) ?_
    refine x_aload (np := 73) (x := 0) (by decide +kernel) rfl (x_nc_le (by decide)) ?_
    have t5 : tw (h 0 8) := hJ.2.1
    refine x_getR (np := 76) (x := 648) (f := 8) (q := (h 0 8)) (by decide +kernel) (by decide) (by decide +kernel) rfl ?_
    refine x_getC (np := 79) (x := 520) (f := 8) (q := (h (h 0 8) 8)) (by decide +kernel) (by decide) (tg_0_520_8_0 t5) rfl (fun l6 => ?_)
    refine x_retI (np := 80) (x := 0) (by decide +kernel) l6 (Or.inl (by decide +kernel)) ⟨_, rfl, l6, ?_⟩
    exact ⟨rfl, (by first | decide | omega)⟩
  · refine x_tsw1 (np := 2) (x := 0) (by decide +kernel) la1 (i := 2) (lo9 := 2147483648) (hi9 := 2147483659) (tg := 80) (by decide +kernel) (by first | decide | omega) (by first | decide | omega) ?_
    refine x_aload (np := 81) (x := 0) (by decide +kernel) rfl (x_nc_le (by decide)) ?_
    have t7 : tw (h 0 8) := hJ.2.1
    refine x_getR (np := 84) (x := 648) (f := 8) (q := (h 0 8)) (by decide +kernel) (by decide) (by decide +kernel) rfl ?_
    have q8 : h (h 0 8) 0 = ((h 0 8) + 1) := tf_0_0 hJ t7
    refine x_getR (np := 87) (x := 512) (f := 0) (q := ((h 0 8) + 1)) (by decide +kernel) (by decide) (tg_0_512_0_1 t7) q8 ?_
    have b9 := jB (e := 2) 0 hJ (rg_T1_2_0_1 t7) (by first | decide | omega) (by first | decide | omega)
    refine x_getC (np := 90) (x := 386) (f := 2) (q := (h ((h 0 8) + 1) 2)) (by decide +kernel) (by decide) (tg_1_386_2_0 t7) rfl (fun l10 => ?_)
    refine x_retI (np := 91) (x := 0) (by decide +kernel) l10 (Or.inl (by decide +kernel)) ⟨_, rfl, l10, ?_⟩
    exact ⟨rfl, (by first | decide | omega)⟩
  · refine x_tsw1 (np := 2) (x := 0) (by decide +kernel) la1 (i := 3) (lo9 := 2147483648) (hi9 := 2147483659) (tg := 91) (by decide +kernel) (by first | decide | omega) (by first | decide | omega) ?_
    refine x_aload (np := 92) (x := 0) (by decide +kernel) rfl (x_nc_le (by decide)) ?_
    have t11 : tw (h 0 8) := hJ.2.1
    refine x_getR (np := 95) (x := 648) (f := 8) (q := (h 0 8)) (by decide +kernel) (by decide) (by decide +kernel) rfl ?_
    have q12 : h (h 0 8) 1 = ((h 0 8) + 3) := tf_0_1 hJ t11
    refine x_getR (np := 98) (x := 513) (f := 1) (q := ((h 0 8) + 3)) (by decide +kernel) (by decide) (tg_0_513_1_1 t11) q12 ?_
    have b13 := jB (e := 2) 0 hJ (rg_T3_2_0_1 t11) (by first | decide | omega) (by first | decide | omega)
    refine x_getC (np := 101) (x := 386) (f := 2) (q := (h ((h 0 8) + 3) 2)) (by decide +kernel) (by decide) (tg_3_386_2_0 t11) rfl (fun l14 => ?_)
    refine x_retI (np := 102) (x := 0) (by decide +kernel) l14 (Or.inl (by decide +kernel)) ⟨_, rfl, l14, ?_⟩
    exact ⟨rfl, (by first | decide | omega)⟩
  · refine x_tsw1 (np := 2) (x := 0) (by decide +kernel) la1 (i := 4) (lo9 := 2147483648) (hi9 := 2147483659) (tg := 102) (by decide +kernel) (by first | decide | omega) (by first | decide | omega) ?_
    refine x_aload (np := 103) (x := 0) (by decide +kernel) rfl (x_nc_le (by decide)) ?_
    have t15 : tw (h 0 8) := hJ.2.1
    refine x_getR (np := 106) (x := 648) (f := 8) (q := (h 0 8)) (by decide +kernel) (by decide) (by decide +kernel) rfl ?_
    have q16 : h (h 0 8) 2 = ((h 0 8) + 5) := tf_0_2 hJ t15
    refine x_getR (np := 109) (x := 514) (f := 2) (q := ((h 0 8) + 5)) (by decide +kernel) (by decide) (tg_0_514_2_1 t15) q16 ?_
    have b17 := jB (e := 2) 0 hJ (rg_T5_2_0_1 t15) (by first | decide | omega) (by first | decide | omega)
    refine x_getC (np := 112) (x := 386) (f := 2) (q := (h ((h 0 8) + 5) 2)) (by decide +kernel) (by decide) (tg_5_386_2_0 t15) rfl (fun l18 => ?_)
    refine x_retI (np := 113) (x := 0) (by decide +kernel) l18 (Or.inl (by decide +kernel)) ⟨_, rfl, l18, ?_⟩
    exact ⟨rfl, (by first | decide | omega)⟩
  · refine x_tsw1 (np := 2) (x := 0) (by decide +kernel) la1 (i := 5) (lo9 := 2147483648) (hi9 := 2147483659) (tg := 113) (by decide +kernel) (by first | decide | omega) (by first | decide | omega) ?_
    refine x_aload (np := 114) (x := 0) (by decide +kernel) rfl (x_nc_le (by decide)) ?_
    have t19 : tw (h 0 8) := hJ.2.1
    refine x_getR (np := 117) (x := 648) (f := 8) (q := (h 0 8)) (by decide +kernel) (by decide) (by decide +kernel) rfl ?_
    have q20 : h (h 0 8) 3 = ((h 0 8) + 7) := tf_0_3 hJ t19
    refine x_getR (np := 120) (x := 515) (f := 3) (q := ((h 0 8) + 7)) (by decide +kernel) (by decide) (tg_0_515_3_1 t19) q20 ?_
    have b21 := jB (e := 2) 0 hJ (rg_T7_2_0_1 t19) (by first | decide | omega) (by first | decide | omega)
    refine x_getC (np := 123) (x := 386) (f := 2) (q := (h ((h 0 8) + 7) 2)) (by decide +kernel) (by decide) (tg_7_386_2_0 t19) rfl (fun l22 => ?_)
    refine x_retI (np := 124) (x := 0) (by decide +kernel) l22 (Or.inl (by decide +kernel)) ⟨_, rfl, l22, ?_⟩
    exact ⟨rfl, (by first | decide | omega)⟩
  · refine x_tsw1 (np := 2) (x := 0) (by decide +kernel) la1 (i := 6) (lo9 := 2147483648) (hi9 := 2147483659) (tg := 124) (by decide +kernel) (by first | decide | omega) (by first | decide | omega) ?_
    refine x_aload (np := 125) (x := 0) (by decide +kernel) rfl (x_nc_le (by decide)) ?_
    have q23 : h 0 1 = 45 := by have z := jB (e := 1) 0 hJ rg_0_1_0_1 (by decide) (by decide); omega
    refine x_getR (np := 128) (x := 641) (f := 1) (q := 45) (by decide +kernel) (by decide) (by decide +kernel) q23 ?_
    refine x_cP (t := 6) (mj := 14) (n := 1) (rc := 2) (ml := 3) (nr := 0) (np := 131) (as := [x_r 45]) (rest := []) (lo1 := [x_r 45, 147573952589676412928, 147573952589676412928]) (by decide +kernel) (by decide) (by decide +kernel) (x_rb_of (by decide +kernel)) rfl rfl (x_wr (by decide) x_wn) x_wn (by decide) rfl (c14_45 hJ ) (fun v24 l25 q26 => ?_)
    refine x_retI (np := 132) (x := 0) (by decide +kernel) l25 (Or.inl (by decide +kernel)) ⟨_, rfl, l25, ?_⟩
    exact ⟨rfl, (by first | decide | omega)⟩
  · refine x_tsw1 (np := 2) (x := 0) (by decide +kernel) la1 (i := 7) (lo9 := 2147483648) (hi9 := 2147483659) (tg := 132) (by decide +kernel) (by first | decide | omega) (by first | decide | omega) ?_
    refine x_aload (np := 133) (x := 0) (by decide +kernel) rfl (x_nc_le (by decide)) ?_
    have t27 : tw (h 0 8) := hJ.2.1
    refine x_getR (np := 136) (x := 648) (f := 8) (q := (h 0 8)) (by decide +kernel) (by decide) (by decide +kernel) rfl ?_
    refine x_cP (t := 6) (mj := 88) (n := 1) (rc := 9) (ml := 3) (nr := 0) (np := 139) (as := [x_r (h 0 8)]) (rest := []) (lo1 := [x_r (h 0 8), 147573952589676412928, 147573952589676412928]) (by decide +kernel) (by decide) (by decide +kernel) (x_rb_of (tr_0_9 t27)) rfl rfl (x_wr (tn_0 t27) x_wn) x_wn (by decide) rfl (c88_T0 hJ t27) (fun v28 l29 q30 => ?_)
    refine x_retI (np := 140) (x := 0) (by decide +kernel) l29 (Or.inl (by decide +kernel)) ⟨_, rfl, l29, ?_⟩
    exact ⟨rfl, (by first | decide | omega)⟩
  · refine x_tsw1 (np := 2) (x := 0) (by decide +kernel) la1 (i := 8) (lo9 := 2147483648) (hi9 := 2147483659) (tg := 140) (by decide +kernel) (by first | decide | omega) (by first | decide | omega) ?_
    refine x_aload (np := 141) (x := 0) (by decide +kernel) rfl (x_nc_le (by decide)) ?_
    have t31 : tw (h 0 8) := hJ.2.1
    refine x_getR (np := 144) (x := 648) (f := 8) (q := (h 0 8)) (by decide +kernel) (by decide) (by decide +kernel) rfl ?_
    refine x_getC (np := 147) (x := 521) (f := 9) (q := (h (h 0 8) 9)) (by decide +kernel) (by decide) (tg_0_521_9_0 t31) rfl (fun l32 => ?_)
    refine x_nI (t := 7) (mj := 310) (n := 1) (rc := 0) (ml := 1) (nr := 0) (np := 150) (as := [iv_c (h (h 0 8) 9)]) (rest := []) (lo1 := [iv_c (h (h 0 8) 9)]) (by decide +kernel) (by decide) (by decide +kernel) (Or.inl rfl) rfl rfl (x_wi l32 x_wn) x_wn (by decide) rfl ?_
    refine x_iload (np := 1) (x := 0) (by decide +kernel) rfl l32 ?_
    refine x_iload (np := 2) (x := 0) (by decide +kernel) rfl l32 ?_
    refine x_const (np := 3) (x := 9223372043297226753) (a := 2147483649) (by decide +kernel) (by decide) (by decide) ?_
    refine x_any (np := 4) (k9 := 5) (by decide +kernel) (by decide) l32 (by decide) (fun v33 l34 => ?_)
    refine x_const (np := 7) (x := 15372286730238776661) (a := 3579139413) (by decide +kernel) (by decide) (by decide) ?_
    refine x_any (np := 8) (k9 := 0) (by decide +kernel) (by decide) l34 (by decide) (fun v35 l36 => ?_)
    refine x_subA (by rw [tb_b310]; decide +kernel) l32 l36 (fun v37 l38 => ?_)
    refine x_istore (np := 10) (x := 0) (lo' := [iv_c v37]) (by decide +kernel) l38 (Nat.le_of_ble_eq_true rfl) rfl ?_
    refine x_iload (np := 11) (x := 0) (by decide +kernel) rfl l38 ?_
    refine x_const (np := 14) (x := 12912720853744169779) (a := 3006477107) (by decide +kernel) (by decide) (by decide) ?_
    refine x_any (np := 15) (k9 := 0) (by decide +kernel) (by decide) l38 (by decide) (fun v39 l40 => ?_)
    refine x_iload (np := 16) (x := 0) (by decide +kernel) rfl l38 ?_
    refine x_const (np := 17) (x := 9223372047592194050) (a := 2147483650) (by decide +kernel) (by decide) (by decide) ?_
    refine x_any (np := 18) (k9 := 5) (by decide +kernel) (by decide) l38 (by decide) (fun v41 l42 => ?_)
    refine x_const (np := 21) (x := 12912720853744169779) (a := 3006477107) (by decide +kernel) (by decide) (by decide) ?_
    refine x_any (np := 22) (k9 := 0) (by decide +kernel) (by decide) l42 (by decide) (fun v43 l44 => ?_)
    refine x_addA (by rw [tb_b310]; decide +kernel) l40 l44 (fun v45 l46 => ?_)
    refine x_istore (np := 24) (x := 0) (lo' := [iv_c v45]) (by decide +kernel) l46 (Nat.le_of_ble_eq_true rfl) rfl ?_
    refine x_iload (np := 25) (x := 0) (by decide +kernel) rfl l46 ?_
    refine x_iload (np := 26) (x := 0) (by decide +kernel) rfl l46 ?_
    refine x_const (np := 27) (x := 9223372056182128644) (a := 2147483652) (by decide +kernel) (by decide) (by decide) ?_
    refine x_any (np := 28) (k9 := 5) (by decide +kernel) (by decide) l46 (by decide) (fun v47 l48 => ?_)
    refine x_addA (by rw [tb_b310]; decide +kernel) l46 l48 (fun v49 l50 => ?_)
    refine x_const (np := 32) (x := 10308474631573409551) (a := 2400128783) (by decide +kernel) (by decide) (by decide) ?_
    refine x_any (np := 33) (k9 := 0) (by decide +kernel) (by decide) l50 (by decide) (fun v51 l52 => ?_)
    refine x_istore (np := 34) (x := 0) (lo' := [iv_c v51]) (by decide +kernel) l52 (Nat.le_of_ble_eq_true rfl) rfl ?_
    refine x_iload (np := 35) (x := 0) (by decide +kernel) rfl l52 ?_
    refine x_iload (np := 36) (x := 0) (by decide +kernel) rfl l52 ?_
    refine x_const (np := 38) (x := 9223372073361997832) (a := 2147483656) (by decide +kernel) (by decide) (by decide) ?_
    refine x_any (np := 39) (k9 := 5) (by decide +kernel) (by decide) l52 (by decide) (fun v53 l54 => ?_)
    refine x_addA (by rw [tb_b310]; decide +kernel) l52 l54 (fun v55 l56 => ?_)
    refine x_istore (np := 41) (x := 0) (lo' := [iv_c v55]) (by decide +kernel) l56 (Nat.le_of_ble_eq_true rfl) rfl ?_
    refine x_iload (np := 42) (x := 0) (by decide +kernel) rfl l56 ?_
    refine x_iload (np := 43) (x := 0) (by decide +kernel) rfl l56 ?_
    refine x_const (np := 45) (x := 9223372107721736208) (a := 2147483664) (by decide +kernel) (by decide) (by decide) ?_
    refine x_any (np := 46) (k9 := 5) (by decide +kernel) (by decide) l56 (by decide) (fun v57 l58 => ?_)
    refine x_addA (by rw [tb_b310]; decide +kernel) l56 l58 (fun v59 l60 => ?_)
    refine x_istore (np := 48) (x := 0) (lo' := [iv_c v59]) (by decide +kernel) l60 (Nat.le_of_ble_eq_true rfl) rfl ?_
    refine x_iload (np := 49) (x := 0) (by decide +kernel) rfl l60 ?_
    refine x_const (np := 51) (x := 9223372309585199167) (a := 2147483711) (by decide +kernel) (by decide) (by decide) ?_
    refine x_mask (np := 52) (m := 6) (k9 := 64) (by decide +kernel) l60 (by decide +kernel) (by decide) (by decide) (by decide) (fun u61 l62 => ?_)
    refine x_retI (np := 53) (x := 0) (by decide +kernel) (by first | decide | omega) (Or.inl (by decide +kernel)) ⟨_, rfl, (by first | decide | omega), ?_⟩
    refine x_retI (np := 151) (x := 0) (by decide +kernel) (by first | decide | omega) (Or.inl (by decide +kernel)) ⟨_, rfl, (by first | decide | omega), ?_⟩
    exact ⟨rfl, (by first | decide | omega)⟩
  · refine x_tsw1 (np := 2) (x := 0) (by decide +kernel) la1 (i := 9) (lo9 := 2147483648) (hi9 := 2147483659) (tg := 151) (by decide +kernel) (by first | decide | omega) (by first | decide | omega) ?_
    refine x_aload (np := 152) (x := 0) (by decide +kernel) rfl (x_nc_le (by decide)) ?_
    have t63 : tw (h 0 8) := hJ.2.1
    refine x_getR (np := 155) (x := 648) (f := 8) (q := (h 0 8)) (by decide +kernel) (by decide) (by decide +kernel) rfl ?_
    refine x_cP (t := 6) (mj := 89) (n := 1) (rc := 9) (ml := 3) (nr := 0) (np := 158) (as := [x_r (h 0 8)]) (rest := []) (lo1 := [x_r (h 0 8), 147573952589676412928, 147573952589676412928]) (by decide +kernel) (by decide) (by decide +kernel) (x_rb_of (tr_0_9 t63)) rfl rfl (x_wr (tn_0 t63) x_wn) x_wn (by decide) rfl (c89_T0 hJ t63) (fun v64 l65 q66 => ?_)
    refine x_retI (np := 159) (x := 0) (by decide +kernel) l65 (Or.inl (by decide +kernel)) ⟨_, rfl, l65, ?_⟩
    exact ⟨rfl, (by first | decide | omega)⟩
  · refine x_tsw1 (np := 2) (x := 0) (by decide +kernel) la1 (i := 10) (lo9 := 2147483648) (hi9 := 2147483659) (tg := 159) (by decide +kernel) (by first | decide | omega) (by first | decide | omega) ?_
    refine x_aload (np := 160) (x := 0) (by decide +kernel) rfl (x_nc_le (by decide)) ?_
    have t67 : tw (h 0 8) := hJ.2.1
    refine x_getR (np := 163) (x := 648) (f := 8) (q := (h 0 8)) (by decide +kernel) (by decide) (by decide +kernel) rfl ?_
    have q68 : h (h 0 8) 6 = ((h 0 8) + 11) := tf_0_6 hJ t67
    refine x_getR (np := 166) (x := 518) (f := 6) (q := ((h 0 8) + 11)) (by decide +kernel) (by decide) (tg_0_518_6_1 t67) q68 ?_
    refine x_getC (np := 169) (x := 131) (f := 3) (q := (h ((h 0 8) + 11) 3)) (by decide +kernel) (by decide) (tg_11_131_3_0 t67) rfl (fun l69 => ?_)
    refine x_retI (np := 170) (x := 0) (by decide +kernel) l69 (Or.inl (by decide +kernel)) ⟨_, rfl, l69, ?_⟩
    exact ⟨rfl, (by first | decide | omega)⟩
  · refine x_tsw1 (np := 2) (x := 0) (by decide +kernel) la1 (i := 11) (lo9 := 2147483648) (hi9 := 2147483659) (tg := 170) (by decide +kernel) (by first | decide | omega) (by first | decide | omega) ?_
    refine x_aload (np := 171) (x := 0) (by decide +kernel) rfl (x_nc_le (by decide)) ?_
    have t70 : tw (h 0 8) := hJ.2.1
    refine x_getR (np := 174) (x := 648) (f := 8) (q := (h 0 8)) (by decide +kernel) (by decide) (by decide +kernel) rfl ?_
    refine x_cP (t := 6) (mj := 90) (n := 1) (rc := 9) (ml := 3) (nr := 0) (np := 177) (as := [x_r (h 0 8)]) (rest := []) (lo1 := [x_r (h 0 8), 147573952589676412928, 147573952589676412928]) (by decide +kernel) (by decide) (by decide +kernel) (x_rb_of (tr_0_9 t70)) rfl rfl (x_wr (tn_0 t70) x_wn) x_wn (by decide) rfl (c90_T0 hJ t70) (fun v71 l72 q73 => ?_)
    refine x_retI (np := 178) (x := 0) (by decide +kernel) l72 (Or.inl (by decide +kernel)) ⟨_, rfl, l72, ?_⟩
    exact ⟨rfl, (by first | decide | omega)⟩
set_option maxHeartbeats 0 in
/-- LentNamesModel.image()V -/
theorem c155_75 {sc : Nat × Nat} {d  : Nat} {h : xh} (hJ : J h) : X sc 155 d (xV fun h' => J h' ∧ Fr 134610945 h h' ∧ (h' 75 4 = 2147483649) ∧ Cpa 77 76 h h' 1121) 0 0 0 [x_r 75, 147573952589676412928] [] h := by
  have hF := Fr.refl 134610945 h
  refine x_aload (np := 1) (x := 0) (by decide +kernel) rfl (x_nc_le (by decide)) ?_
  refine x_const (np := 2) (x := 9223372039002259456) (a := 2147483648) (by decide +kernel) (by decide) (by decide) ?_
  refine x_putI (np := 5) (x := 704) (f := 0) (by decide +kernel) (by decide +kernel) (by decide) (Or.inl (by decide)) ?_
  have j2 := jU (e := 0) (v := 2147483648) 0 hJ rg_75_0_0_1 (by first | decide | omega) (by first | decide | omega) (by first | decide | omega)
  have f4 := jF (e := 0) (v := 2147483648) 0 hF rg_75_0_0_1 (by first | decide | omega) (by first | decide | omega) (by decide)
  generalize e3 : x_up h 75 0 2147483648 = h1 at j2 f4 ⊢
  refine x_const (np := 6) (x := 9223372039002259456) (a := 2147483648) (by decide +kernel) (by decide) (by decide) ?_
  refine x_istore (np := 7) (x := 1) (lo' := [x_r 75, iv_c 2147483648]) (by decide +kernel) (by decide) (Nat.le_of_ble_eq_true rfl) rfl ?_
  have p434 : ∀ (n : Nat) (v429 : Nat) (h431 : xh), 4294967296 - v429 < n → (2147483648 ≤ v429 ∧ v429 ≤ 2147484769) → J h431 → Fr 134217728 h1 h431 → Cpa 77 76 h h431 (v429 - 2147483648) → X sc 155 d (xV fun h' => J h' ∧ Fr 134610945 h h' ∧ (h' 75 4 = 2147483649) ∧ Cpa 77 76 h h' 1121) 0 0 7 [x_r 75, iv_c v429] [] h431 := by
    intro n
    induction n with
    | zero => intro v429 h431 q436; exact absurd q436 (Nat.not_lt_zero _)
    | succ n i437 =>
      intro v429 h431 q436 b430 j433 f432 m435
      have f438 := Fr.trans f4 f432 (by decide)
      refine x_iload (np := 8) (x := 1) (by decide +kernel) rfl (by first | decide | omega) ?_
      refine x_const (np := 11) (x := 9223376853660599393) (a := 2147484769) (by decide +kernel) (by decide) (by decide) ?_
      refine x_icmp (k := 3) (tg := 32) (np := 14) (by decide +kernel) (by decide) (by first | decide | omega) (by decide) (fun q439 => ?_) (fun q440 => ?_)
      · have q439 : 2147484769 ≤ v429 := q439
        refine x_aload (np := 33) (x := 0) (by decide +kernel) rfl (x_nc_le (by decide)) ?_
        refine x_const (np := 34) (x := 9223372043297226753) (a := 2147483649) (by decide +kernel) (by decide) (by decide) ?_
        refine x_putI (np := 37) (x := 4804) (f := 4) (by decide +kernel) (by decide +kernel) (by decide) (Or.inr ⟨by decide, by first | decide | omega, by first | decide | omega⟩) ?_
        have j442 := jU (e := 4) (v := 2147483649) 0 j433 rg_75_4_0_1 (by first | decide | omega) (by first | decide | omega) (by first | decide | omega)
        have f444 := jF (e := 4) (v := 2147483649) 0 f438 rg_75_4_0_1 (by first | decide | omega) (by first | decide | omega) (by decide)
        generalize e443 : x_up h431 75 4 2147483649 = h441 at j442 f444 ⊢
        have q445 : h441 75 4 = 2147483649 := by rw [← e443]; exact x_up_at
        have m446 : Cpa 77 76 h h431 1121 := Cpa.less m435 (by first | decide | omega)
        have m447 : Cpa 77 76 h h441 1121 := by rw [← e443]; exact Cpa.oth m446 (by decide)
        refine x_retV (np := 38) (x := 0) (by decide +kernel) (by decide +kernel) ⟨rfl, ?_⟩
        exact ⟨j442, f444, (by first | decide | omega), m447⟩
      have q440 : ¬ (2147484769 ≤ v429) := q440
      refine x_aload (np := 15) (x := 0) (by decide +kernel) rfl (x_nc_le (by decide)) ?_
      have q448 : h431 75 2 = 77 := by have z := jB (e := 2) 0 j433 rg_75_2_0_1 (by decide) (by decide); omega
      refine x_getR (np := 18) (x := 706) (f := 2) (q := 77) (by decide +kernel) (by decide) (by decide +kernel) q448 ?_
      refine x_iload (np := 19) (x := 1) (by decide +kernel) rfl (by first | decide | omega) ?_
      refine x_aload (np := 20) (x := 0) (by decide +kernel) rfl (x_nc_le (by decide)) ?_
      have q449 : h431 75 1 = 76 := by have z := jB (e := 1) 0 j433 rg_75_1_0_1 (by decide) (by decide); omega
      refine x_getR (np := 23) (x := 705) (f := 1) (q := 76) (by decide +kernel) (by decide) (by decide +kernel) q449 ?_
      refine x_iload (np := 24) (x := 1) (by decide +kernel) rfl (by first | decide | omega) ?_
      obtain ⟨u450, q451⟩ : ∃ z, v429 = 2147483648 + z := ⟨v429 - 2147483648, by first | decide | omega⟩
      refine x_aldC (np := 25) (x := 0) (n := 1952) (i := u450) (q := (h431 76 u450)) (by decide +kernel) (by decide +kernel) (by first | decide | omega) (by first | decide | omega) (by decide) rfl (fun l452 => ?_)
      refine x_ast (np := 26) (x := 0) (kd := 1) (n := 1121) (i := u450) (by decide +kernel) (Or.inl rfl) (by decide +kernel) (by first | decide | omega) (by first | decide | omega) (by decide) l452 (fun z => absurd z (by decide)) ?_
      have j454 := cwJ (e := u450) (v := (h431 76 u450)) u450 j433 j433 cw_77_0_76_0_1121 (by first | decide | omega) (by first | decide | omega) (by first | rfl | (congr 1; omega))
      have f456 := cwF (e := u450) (v := (h431 76 u450)) u450 f438 cw_77_0_76_0_1121 (by first | decide | omega) (by first | decide | omega) (by decide)
      have f457 := cwF (e := u450) (v := (h431 76 u450)) u450 f432 cw_77_0_76_0_1121 (by first | decide | omega) (by first | decide | omega) (by decide)
      generalize e455 : x_up h431 77 u450 (h431 76 u450) = h453 at j454 f456 f457 ⊢
      refine x_iinc (np := 29) (i := 1) (j := 2147483649) (v := (1 + v429)) (lo' := [x_r 75, iv_c (1 + v429)]) (by decide +kernel) (by decide) (by decide) rfl (by first | decide | omega) (by first | decide | omega) (by first | decide | omega) rfl ?_
      refine x_goto (np := 32) (x := 7) (by decide +kernel) ?_
      have m458 : Cpa 77 76 h h453 ((1 + v429) - 2147483648) := by
        have e0 : v429 - 2147483648 = u450 := by first | decide | omega
        have e9 : (1 + v429) = 2147483648 + (u450 + 1) := by first | decide | omega
        have e1 : (1 + v429) - 2147483648 = u450 + 1 := by rw [e9]; exact Nat.add_sub_cancel_left _ _
        have p9 := m435
        rw [e0] at p9
        rw [e1, ← e455]
        exact Cpa.step p9 ((f432 76 u450 (gr_76b (by first | decide | omega) (by decide) (by decide) (by decide))).trans (by rw [← e3, x_up_k (by decide)]))
      exact i437 (1 + v429) h453 (by first | decide | omega) (by first | decide | omega) j454 f457 m458
  exact p434 _ 2147483648 h1 (Nat.lt_succ_self _) (by first | decide | omega) j2 (Fr.refl _ _) Cpa.zero
set_option maxHeartbeats 0 in
/-- LentNamesModel.back()Z -/
theorem c156_75 {sc : Nat × Nat} {d  : Nat} {h : xh} (hJ : J h) (hr0 : h 75 4 = 2147483649 → 2147483650 ≤ h 77 0) : X sc 156 d (xI fun r h' => J h' ∧ Fr 2814749800792064 h h' ∧ (2147483648 ≤ r ∧ r ≤ 2147483649) ∧ (r = h 75 4) ∧ (r = 2147483649 → Cpa 76 77 h h' 1121) ∧ (r = 2147483648 → ∀ i, h' 76 i = h 76 i)) 0 0 0 [x_r 75, 147573952589676412928] [] h := by
  have hF := Fr.refl 2814749800792064 h
  refine x_aload (np := 1) (x := 0) (by decide +kernel) rfl (x_nc_le (by decide)) ?_
  refine x_const (np := 2) (x := 9223372039002259456) (a := 2147483648) (by decide +kernel) (by decide) (by decide) ?_
  refine x_putI (np := 5) (x := 704) (f := 0) (by decide +kernel) (by decide +kernel) (by decide) (Or.inl (by decide)) ?_
  have j2 := jU (e := 0) (v := 2147483648) 0 hJ rg_75_0_0_1 (by first | decide | omega) (by first | decide | omega) (by first | decide | omega)
  have f4 := jF (e := 0) (v := 2147483648) 0 hF rg_75_0_0_1 (by first | decide | omega) (by first | decide | omega) (by decide)
  generalize e3 : x_up h 75 0 2147483648 = h1 at j2 f4 ⊢
  refine x_aload (np := 6) (x := 0) (by decide +kernel) rfl (x_nc_le (by decide)) ?_
  have q5 : h1 75 4 = h 75 4 := by rw [← e3]; exact x_up_i (by first | decide | omega)
  have b6 := jB (e := 4) 0 hJ rg_75_4_0_1 (by first | decide | omega) (by first | decide | omega)
  refine x_getC (np := 9) (x := 708) (f := 4) (q := (h 75 4)) (by decide +kernel) (by decide) (by decide +kernel) q5 (fun l7 => ?_)
  refine x_ifz (k := 1) (tg := 14) (np := 12) (by decide +kernel) (by decide) l7 (fun q8 => ?_) (fun q9 => ?_)
  · have q8 : (h 75 4) ≠ 2147483648 := q8
    refine x_const (np := 15) (x := 9223372039002259456) (a := 2147483648) (by decide +kernel) (by decide) (by decide) ?_
    refine x_istore (np := 16) (x := 1) (lo' := [x_r 75, iv_c 2147483648]) (by decide +kernel) (by decide) (Nat.le_of_ble_eq_true rfl) rfl ?_
    have p537 : ∀ (n : Nat) (v532 : Nat) (h534 : xh), 4294967296 - v532 < n → (2147483648 ≤ v532 ∧ v532 ≤ 2147484769) → J h534 → Fr 2814749800660992 h1 h534 → Cpa 76 77 h h534 (v532 - 2147483648) → X sc 156 d (xI fun r h' => J h' ∧ Fr 2814749800792064 h h' ∧ (2147483648 ≤ r ∧ r ≤ 2147483649) ∧ (r = h 75 4) ∧ (r = 2147483649 → Cpa 76 77 h h' 1121) ∧ (r = 2147483648 → ∀ i, h' 76 i = h 76 i)) 0 0 16 [x_r 75, iv_c v532] [] h534 := by
      intro n
      induction n with
      | zero => intro v532 h534 q539; exact absurd q539 (Nat.not_lt_zero _)
      | succ n i540 =>
        intro v532 h534 q539 b533 j536 f535 m538
        have f541 := Fr.trans f4 f535 (by decide)
        refine x_iload (np := 17) (x := 1) (by decide +kernel) rfl (by first | decide | omega) ?_
        refine x_const (np := 20) (x := 9223376853660599393) (a := 2147484769) (by decide +kernel) (by decide) (by decide) ?_
        refine x_icmp (k := 3) (tg := 41) (np := 23) (by decide +kernel) (by decide) (by first | decide | omega) (by decide) (fun q542 => ?_) (fun q543 => ?_)
        · have q542 : 2147484769 ≤ v532 := q542
          refine x_const (np := 42) (x := 9223372043297226753) (a := 2147483649) (by decide +kernel) (by decide) (by decide) ?_
          have m544 : Cpa 76 77 h h534 1121 := Cpa.less m538 (by first | decide | omega)
          refine x_retI (np := 43) (x := 0) (by decide +kernel) (by decide) (Or.inr ⟨by decide +kernel, by first | decide | omega, by first | decide | omega⟩) ⟨_, rfl, (by decide), ?_⟩
          exact ⟨j536, f541, (by first | decide | omega), (by first | decide | omega), (fun _ => m544), (fun z => absurd z (by first | decide | omega))⟩
        have q543 : ¬ (2147484769 ≤ v532) := q543
        refine x_aload (np := 24) (x := 0) (by decide +kernel) rfl (x_nc_le (by decide)) ?_
        have q545 : h534 75 1 = 76 := by have z := jB (e := 1) 0 j536 rg_75_1_0_1 (by decide) (by decide); omega
        refine x_getR (np := 27) (x := 705) (f := 1) (q := 76) (by decide +kernel) (by decide) (by decide +kernel) q545 ?_
        refine x_iload (np := 28) (x := 1) (by decide +kernel) rfl (by first | decide | omega) ?_
        refine x_aload (np := 29) (x := 0) (by decide +kernel) rfl (x_nc_le (by decide)) ?_
        have q546 : h534 75 2 = 77 := by have z := jB (e := 2) 0 j536 rg_75_2_0_1 (by decide) (by decide); omega
        refine x_getR (np := 32) (x := 706) (f := 2) (q := 77) (by decide +kernel) (by decide) (by decide +kernel) q546 ?_
        refine x_iload (np := 33) (x := 1) (by decide +kernel) rfl (by first | decide | omega) ?_
        obtain ⟨u547, q548⟩ : ∃ z, v532 = 2147483648 + z := ⟨v532 - 2147483648, by first | decide | omega⟩
        refine x_aldC (np := 34) (x := 0) (n := 1121) (i := u547) (q := (h534 77 u547)) (by decide +kernel) (by decide +kernel) (by first | decide | omega) (by first | decide | omega) (by decide) rfl (fun l549 => ?_)
        refine x_ast (np := 35) (x := 0) (kd := 1) (n := 1952) (i := u547) (by decide +kernel) (Or.inl rfl) (by decide +kernel) (by first | decide | omega) (by first | decide | omega) (by decide) l549 (fun z => absurd z (by decide)) ?_
        have b553 := hr0 (by first | decide | omega)
        have b554 := jB (e := 0) 0 hJ rg_77_0_0_1 (by first | decide | omega) (by first | decide | omega)
        have q555 : h534 77 0 = h1 77 0 := jK 0 f535 rg_77_0_0_1 (by first | decide | omega) (by first | decide | omega) (by decide)
        have q556 : h1 77 0 = h 77 0 := by rw [← e3]; exact x_up_k (by decide)
        have j551 := imJ (e := u547) (v := (h534 77 u547)) j536 j536 (by first | decide | omega) (by first | decide | omega) rfl
        have f557 := imF (e := u547) (v := (h534 77 u547)) f541 (by first | decide | omega) (by decide) (by decide) (by decide)
        have f558 := imF (e := u547) (v := (h534 77 u547)) f535 (by first | decide | omega) (by decide) (by decide) (by decide)
        generalize e552 : x_up h534 76 u547 (h534 77 u547) = h550 at j551 f557 f558 ⊢
        refine x_iinc (np := 38) (i := 1) (j := 2147483649) (v := (1 + v532)) (lo' := [x_r 75, iv_c (1 + v532)]) (by decide +kernel) (by decide) (by decide) rfl (by first | decide | omega) (by first | decide | omega) (by first | decide | omega) rfl ?_
        refine x_goto (np := 41) (x := 16) (by decide +kernel) ?_
        have m559 : Cpa 76 77 h h550 ((1 + v532) - 2147483648) := by
          have e0 : v532 - 2147483648 = u547 := by first | decide | omega
          have e9 : (1 + v532) = 2147483648 + (u547 + 1) := by first | decide | omega
          have e1 : (1 + v532) - 2147483648 = u547 + 1 := by rw [e9]; exact Nat.add_sub_cancel_left _ _
          have p9 := m538
          rw [e0] at p9
          rw [e1, ← e552]
          exact Cpa.step p9 ((f535 77 u547 (by rw [gr_77]; decide)).trans (by rw [← e3, x_up_k (by decide)]))
        exact i540 (1 + v532) h550 (by first | decide | omega) (by first | decide | omega) j551 f558 m559
    exact p537 _ 2147483648 h1 (Nat.lt_succ_self _) (by first | decide | omega) j2 (Fr.refl _ _) Cpa.zero
  have q9 : ¬ ((h 75 4) ≠ 2147483648) := q9
  refine x_const (np := 13) (x := 9223372039002259456) (a := 2147483648) (by decide +kernel) (by decide) (by decide) ?_
  refine x_retI (np := 14) (x := 0) (by decide +kernel) (by decide) (Or.inr ⟨by decide +kernel, by first | decide | omega, by first | decide | omega⟩) ⟨_, rfl, (by decide), ?_⟩
  exact ⟨j2, f4, (by first | decide | omega), (by first | decide | omega), (fun z => absurd z (by first | decide | omega)), (fun _ i => by rw [← e3, x_up_k (by decide)])⟩
set_option maxHeartbeats 0 in
/-- LentNamesModel.feed(IIIII)I -/
theorem c165_75 {sc : Nat × Nat} {d a1 a2 a3 a4 a5 : Nat} {h : xh} (hJ : J h) (ba1 : 0 ≤ a1 ∧ a1 ≤ 4294967295) (ba2 : 0 ≤ a2 ∧ a2 ≤ 4294967295) (ba3 : 0 ≤ a3 ∧ a3 ≤ 4294967295) (ba4 : 0 ≤ a4 ∧ a4 ≤ 4294967295) (ba5 : 0 ≤ a5 ∧ a5 ≤ 4294967295) : X sc 165 d (xI fun r h' => J h' ∧ Fr 1611268096 h h' ∧ (2147483647 ≤ r ∧ r ≤ 2147484048) ∧ (h 75 6 + 20 ≤ 2147484048 → h' 75 6 = h 75 6 + 20 ∧ r = h 75 6 + 20) ∧ (2147484048 < h 75 6 + 20 → h' 75 6 = h 75 6 ∧ r = 2147483647) ∧ (h 75 6 + 20 ≤ 2147484048 → Ap 79 h h' (h 75 6 - 2147483648) 20 (g20 a1 a2 a3 a4 a5)) ∧ (2147484048 < h 75 6 + 20 → ∀ u, h' 79 u = h 79 u)) 0 0 0 [x_r 75, iv_c a1, iv_c a2, iv_c a3, iv_c a4, iv_c a5, 147573952589676412928] [] h := by
  have la1 : a1 < 4294967296 := by first | decide | omega
  have la2 : a2 < 4294967296 := by first | decide | omega
  have la3 : a3 < 4294967296 := by first | decide | omega
  have la4 : a4 < 4294967296 := by first | decide | omega
  have la5 : a5 < 4294967296 := by first | decide | omega
  have hF := Fr.refl 1611268096 h
  refine x_aload (np := 1) (x := 0) (by decide +kernel) rfl (x_nc_le (by decide)) ?_
  refine x_const (np := 2) (x := 9223372039002259456) (a := 2147483648) (by decide +kernel) (by decide) (by decide) ?_
  refine x_putI (np := 5) (x := 704) (f := 0) (by decide +kernel) (by decide +kernel) (by decide) (Or.inl (by decide)) ?_
  have j2 := jU (e := 0) (v := 2147483648) 0 hJ rg_75_0_0_1 (by first | decide | omega) (by first | decide | omega) (by first | decide | omega)
  have f4 := jF (e := 0) (v := 2147483648) 0 hF rg_75_0_0_1 (by first | decide | omega) (by first | decide | omega) (by decide)
  generalize e3 : x_up h 75 0 2147483648 = h1 at j2 f4 ⊢
  refine x_aload (np := 6) (x := 0) (by decide +kernel) rfl (x_nc_le (by decide)) ?_
  have q5 : h1 75 6 = h 75 6 := by rw [← e3]; exact x_up_i (by first | decide | omega)
  have b6 := jB (e := 6) 0 hJ rg_75_6_0_1 (by first | decide | omega) (by first | decide | omega)
  refine x_getC (np := 9) (x := 710) (f := 6) (q := (h 75 6)) (by decide +kernel) (by decide) (by decide +kernel) q5 (fun l7 => ?_)
  refine x_const (np := 11) (x := 9223372124901605396) (a := 2147483668) (by decide +kernel) (by decide) (by decide) ?_
  refine x_iadd (np := 12) (x := 0) (v := (20 + (h 75 6))) (by decide +kernel) l7 (by decide) (by first | decide | omega) (by first | decide | omega) ?_
  refine x_const (np := 15) (x := 9223373756989178256) (a := 2147484048) (by decide +kernel) (by decide) (by decide) ?_
  refine x_icmp (k := 5) (tg := 20) (np := 18) (by decide +kernel) (by decide) (by first | decide | omega) (by decide) (fun q8 => ?_) (fun q9 => ?_)
  · have q8 : (20 + (h 75 6)) ≤ 2147484048 := q8
    refine x_aload (np := 21) (x := 0) (by decide +kernel) rfl (x_nc_le (by decide)) ?_
    have q10 : h1 75 12 = 80 := by have z := jB (e := 12) 0 j2 rg_75_12_0_1 (by decide) (by decide); omega
    refine x_getR (np := 24) (x := 716) (f := 12) (q := 80) (by decide +kernel) (by decide) (by decide +kernel) q10 ?_
    refine x_const (np := 25) (x := 9223372039002259456) (a := 2147483648) (by decide +kernel) (by decide) (by decide) ?_
    refine x_iload (np := 26) (x := 1) (by decide +kernel) rfl la1 ?_
    refine x_ast (np := 27) (x := 0) (kd := 1) (n := 5) (i := 0) (by decide +kernel) (Or.inl rfl) (by decide +kernel) (by first | decide | omega) (by first | decide | omega) (by decide) la1 (fun z => absurd z (by decide)) ?_
    have j12 := jU (e := 0) (v := a1) 0 j2 rg_80_0_1_5 (by first | decide | omega) (by first | decide | omega) (by first | decide | omega)
    have f14 := jF (e := 0) (v := a1) 0 f4 rg_80_0_1_5 (by first | decide | omega) (by first | decide | omega) (by decide)
    generalize e13 : x_up h1 80 0 a1 = h11 at j12 f14 ⊢
    refine x_aload (np := 28) (x := 0) (by decide +kernel) rfl (x_nc_le (by decide)) ?_
    have q15 : h11 75 12 = 80 := by have z := jB (e := 12) 0 j12 rg_75_12_0_1 (by decide) (by decide); omega
    refine x_getR (np := 31) (x := 716) (f := 12) (q := 80) (by decide +kernel) (by decide) (by decide +kernel) q15 ?_
    refine x_const (np := 32) (x := 9223372043297226753) (a := 2147483649) (by decide +kernel) (by decide) (by decide) ?_
    refine x_iload (np := 33) (x := 2) (by decide +kernel) rfl la2 ?_
    refine x_ast (np := 34) (x := 0) (kd := 1) (n := 5) (i := 1) (by decide +kernel) (Or.inl rfl) (by decide +kernel) (by first | decide | omega) (by first | decide | omega) (by decide) la2 (fun z => absurd z (by decide)) ?_
    have j17 := jU (e := 1) (v := a2) 1 j12 rg_80_0_1_5 (by first | decide | omega) (by first | decide | omega) (by first | decide | omega)
    have f19 := jF (e := 1) (v := a2) 1 f14 rg_80_0_1_5 (by first | decide | omega) (by first | decide | omega) (by decide)
    generalize e18 : x_up h11 80 1 a2 = h16 at j17 f19 ⊢
    refine x_aload (np := 35) (x := 0) (by decide +kernel) rfl (x_nc_le (by decide)) ?_
    have q20 : h16 75 12 = 80 := by have z := jB (e := 12) 0 j17 rg_75_12_0_1 (by decide) (by decide); omega
    refine x_getR (np := 38) (x := 716) (f := 12) (q := 80) (by decide +kernel) (by decide) (by decide +kernel) q20 ?_
    refine x_const (np := 39) (x := 9223372047592194050) (a := 2147483650) (by decide +kernel) (by decide) (by decide) ?_
    refine x_iload (np := 40) (x := 3) (by decide +kernel) rfl la3 ?_
    refine x_ast (np := 41) (x := 0) (kd := 1) (n := 5) (i := 2) (by decide +kernel) (Or.inl rfl) (by decide +kernel) (by first | decide | omega) (by first | decide | omega) (by decide) la3 (fun z => absurd z (by decide)) ?_
    have j22 := jU (e := 2) (v := a3) 2 j17 rg_80_0_1_5 (by first | decide | omega) (by first | decide | omega) (by first | decide | omega)
    have f24 := jF (e := 2) (v := a3) 2 f19 rg_80_0_1_5 (by first | decide | omega) (by first | decide | omega) (by decide)
    generalize e23 : x_up h16 80 2 a3 = h21 at j22 f24 ⊢
    refine x_aload (np := 42) (x := 0) (by decide +kernel) rfl (x_nc_le (by decide)) ?_
    have q25 : h21 75 12 = 80 := by have z := jB (e := 12) 0 j22 rg_75_12_0_1 (by decide) (by decide); omega
    refine x_getR (np := 45) (x := 716) (f := 12) (q := 80) (by decide +kernel) (by decide) (by decide +kernel) q25 ?_
    refine x_const (np := 46) (x := 9223372051887161347) (a := 2147483651) (by decide +kernel) (by decide) (by decide) ?_
    refine x_iload (np := 48) (x := 4) (by decide +kernel) rfl la4 ?_
    refine x_ast (np := 49) (x := 0) (kd := 1) (n := 5) (i := 3) (by decide +kernel) (Or.inl rfl) (by decide +kernel) (by first | decide | omega) (by first | decide | omega) (by decide) la4 (fun z => absurd z (by decide)) ?_
    have j27 := jU (e := 3) (v := a4) 3 j22 rg_80_0_1_5 (by first | decide | omega) (by first | decide | omega) (by first | decide | omega)
    have f29 := jF (e := 3) (v := a4) 3 f24 rg_80_0_1_5 (by first | decide | omega) (by first | decide | omega) (by decide)
    generalize e28 : x_up h21 80 3 a4 = h26 at j27 f29 ⊢
    refine x_aload (np := 50) (x := 0) (by decide +kernel) rfl (x_nc_le (by decide)) ?_
    have q30 : h26 75 12 = 80 := by have z := jB (e := 12) 0 j27 rg_75_12_0_1 (by decide) (by decide); omega
    refine x_getR (np := 53) (x := 716) (f := 12) (q := 80) (by decide +kernel) (by decide) (by decide +kernel) q30 ?_
    refine x_const (np := 54) (x := 9223372056182128644) (a := 2147483652) (by decide +kernel) (by decide) (by decide) ?_
    refine x_iload (np := 56) (x := 5) (by decide +kernel) rfl la5 ?_
    refine x_ast (np := 57) (x := 0) (kd := 1) (n := 5) (i := 4) (by decide +kernel) (Or.inl rfl) (by decide +kernel) (by first | decide | omega) (by first | decide | omega) (by decide) la5 (fun z => absurd z (by decide)) ?_
    have j32 := jU (e := 4) (v := a5) 4 j27 rg_80_0_1_5 (by first | decide | omega) (by first | decide | omega) (by first | decide | omega)
    have f34 := jF (e := 4) (v := a5) 4 f29 rg_80_0_1_5 (by first | decide | omega) (by first | decide | omega) (by decide)
    generalize e33 : x_up h26 80 4 a5 = h31 at j32 f34 ⊢
    refine x_const (np := 58) (x := 9223372039002259456) (a := 2147483648) (by decide +kernel) (by decide) (by decide) ?_
    refine x_istore (np := 60) (x := 6) (lo' := [x_r 75, iv_c a1, iv_c a2, iv_c a3, iv_c a4, iv_c a5, iv_c 2147483648]) (by decide +kernel) (by decide) (Nat.le_of_ble_eq_true rfl) rfl ?_
    refine x_iload (np := 62) (x := 6) (by decide +kernel) rfl (by decide) ?_
    refine x_const (np := 64) (x := 9223372124901605396) (a := 2147483668) (by decide +kernel) (by decide) (by decide) ?_
    refine x_icmp (k := 3) (tg := 106) (np := 67) (by decide +kernel) (by decide) (by decide) (by decide) (fun q35 => ?_) (fun q36 => ?_)
    · have q35 : 2147483668 ≤ 2147483648 := q35
      exfalso; omega
    have q36 : ¬ (2147483668 ≤ 2147483648) := q36
    refine x_aload (np := 68) (x := 0) (by decide +kernel) rfl (x_nc_le (by decide)) ?_
    have q37 : h31 75 5 = 79 := by have z := jB (e := 5) 0 j32 rg_75_5_0_1 (by decide) (by decide); omega
    refine x_getR (np := 71) (x := 709) (f := 5) (q := 79) (by decide +kernel) (by decide) (by decide +kernel) q37 ?_
    refine x_aload (np := 72) (x := 0) (by decide +kernel) rfl (x_nc_le (by decide)) ?_
    have q38 : h31 75 6 = h26 75 6 := by rw [← e33]; exact x_up_k (by decide)
    have q39 : h26 75 6 = h21 75 6 := by rw [← e28]; exact x_up_k (by decide)
    have q40 : h21 75 6 = h16 75 6 := by rw [← e23]; exact x_up_k (by decide)
    have q41 : h16 75 6 = h11 75 6 := by rw [← e18]; exact x_up_k (by decide)
    have q42 : h11 75 6 = h1 75 6 := by rw [← e13]; exact x_up_k (by decide)
    have q43 : h1 75 6 = h 75 6 := by rw [← e3]; exact x_up_i (by first | decide | omega)
    refine x_getC (np := 75) (x := 710) (f := 6) (q := (h 75 6)) (by decide +kernel) (by decide) (by decide +kernel) (((((q38.trans q39).trans q40).trans q41).trans q42).trans q43) (fun l44 => ?_)
    refine x_iload (np := 77) (x := 6) (by decide +kernel) rfl (by decide) ?_
    refine x_iadd (np := 78) (x := 0) (v := (h 75 6)) (by decide +kernel) l7 (by decide) (by first | decide | omega) (by first | decide | omega) ?_
    refine x_aload (np := 79) (x := 0) (by decide +kernel) rfl (x_nc_le (by decide)) ?_
    have q45 : h31 75 12 = 80 := by have z := jB (e := 12) 0 j32 rg_75_12_0_1 (by decide) (by decide); omega
    refine x_getR (np := 82) (x := 716) (f := 12) (q := 80) (by decide +kernel) (by decide) (by decide +kernel) q45 ?_
    refine x_iload (np := 84) (x := 6) (by decide +kernel) rfl (by decide) ?_
    refine x_const (np := 85) (x := 9223372056182128644) (a := 2147483652) (by decide +kernel) (by decide) (by decide) ?_
    refine x_div (np := 86) (i := 0) (j := 4) (by decide +kernel) (by first | decide | omega) (by decide) (by first | decide | omega) (by decide) ?_
    show X _ _ _ _ _ _ _ _ [iv_c 2147483648, x_r 80, iv_c (h 75 6), x_r 79] _
    have q46 : h31 80 0 = h26 80 0 := by rw [← e33]; exact x_up_i (by first | decide | omega)
    have q47 : h26 80 0 = h21 80 0 := by rw [← e28]; exact x_up_i (by first | decide | omega)
    have q48 : h21 80 0 = h16 80 0 := by rw [← e23]; exact x_up_i (by first | decide | omega)
    have q49 : h16 80 0 = h11 80 0 := by rw [← e18]; exact x_up_i (by first | decide | omega)
    have q50 : h11 80 0 = a1 := by rw [← e13]; exact x_up_at
    refine x_aldC (np := 87) (x := 0) (n := 5) (i := 0) (q := a1) (by decide +kernel) (by decide +kernel) (by first | decide | omega) (by first | decide | omega) (by decide) ((((q46.trans q47).trans q48).trans q49).trans q50) (fun l51 => ?_)
    refine x_const (np := 89) (x := 9223372142081474584) (a := 2147483672) (by decide +kernel) (by decide) (by decide) ?_
    refine x_const (np := 91) (x := 9223372073361997832) (a := 2147483656) (by decide +kernel) (by decide) (by decide) ?_
    refine x_iload (np := 93) (x := 6) (by decide +kernel) rfl (by decide) ?_
    refine x_const (np := 94) (x := 9223372056182128644) (a := 2147483652) (by decide +kernel) (by decide) (by decide) ?_
    refine x_rem (np := 95) (i := 0) (j := 4) (by decide +kernel) (by first | decide | omega) (by decide) (by first | decide | omega) (by decide) ?_
    show X _ _ _ _ _ _ _ _ [iv_c 2147483648, iv_c 2147483656, iv_c 2147483672, iv_c a1, iv_c (h 75 6), x_r 79] _
    refine x_imul (np := 96) (x := 0) (i := 8) (j := 0) (v := 2147483648) (by decide +kernel) (by first | decide | omega) (by first | decide | omega) (by first | decide | omega) (by first | decide | omega) (by decide) (by decide) ?_
    refine x_isub (np := 97) (x := 0) (v := 2147483672) (by decide +kernel) (by decide) (by decide) (by first | decide | omega) (by first | decide | omega) ?_
    refine x_shrE (np := 98) (by decide +kernel) la1 (by decide) (fun l53 => ?_)
    refine x_b8 (by rw [tb_b165]; decide +kernel) l53 (fun l54 l55 => ?_)
    obtain ⟨u56, q57⟩ : ∃ z, (h 75 6) = 2147483648 + z := ⟨(h 75 6) - 2147483648, by first | decide | omega⟩
    refine x_ast (np := 100) (x := 0) (kd := 2) (n := 400) (i := u56) (by decide +kernel) (Or.inr rfl) (by decide +kernel) (by first | decide | omega) (by first | decide | omega) (by decide) (by first | decide | omega) (fun _ => by first | decide | omega) ?_
    have j59 := jU (e := u56) (v := (b8 (bsh a1 2147483672))) u56 j32 rg_79_0_1_400 (by first | decide | omega) (by first | decide | omega) (by first | decide | omega)
    have f61 := jF (e := u56) (v := (b8 (bsh a1 2147483672))) u56 f34 rg_79_0_1_400 (by first | decide | omega) (by first | decide | omega) (by decide)
    generalize e60 : x_up h31 79 u56 (b8 (bsh a1 2147483672)) = h58 at j59 f61 ⊢
    refine x_iinc (np := 103) (i := 6) (j := 2147483649) (v := 2147483649) (lo' := [x_r 75, iv_c a1, iv_c a2, iv_c a3, iv_c a4, iv_c a5, iv_c 2147483649]) (by decide +kernel) (by decide) (by decide) rfl (by decide) (by first | decide | omega) (by first | decide | omega) rfl ?_
    refine x_goto (np := 106) (x := 60) (by decide +kernel) ?_
    refine x_iload (np := 62) (x := 6) (by decide +kernel) rfl (by decide) ?_
    refine x_const (np := 64) (x := 9223372124901605396) (a := 2147483668) (by decide +kernel) (by decide) (by decide) ?_
    refine x_icmp (k := 3) (tg := 106) (np := 67) (by decide +kernel) (by decide) (by decide) (by decide) (fun q62 => ?_) (fun q63 => ?_)
    · have q62 : 2147483668 ≤ 2147483649 := q62
      exfalso; omega
    have q63 : ¬ (2147483668 ≤ 2147483649) := q63
    refine x_aload (np := 68) (x := 0) (by decide +kernel) rfl (x_nc_le (by decide)) ?_
    have q64 : h58 75 5 = 79 := by have z := jB (e := 5) 0 j59 rg_75_5_0_1 (by decide) (by decide); omega
    refine x_getR (np := 71) (x := 709) (f := 5) (q := 79) (by decide +kernel) (by decide) (by decide +kernel) q64 ?_
    refine x_aload (np := 72) (x := 0) (by decide +kernel) rfl (x_nc_le (by decide)) ?_
    have q65 : h58 75 6 = h31 75 6 := by rw [← e60]; exact x_up_k (by decide)
    have q66 : h31 75 6 = h26 75 6 := by rw [← e33]; exact x_up_k (by decide)
    have q67 : h26 75 6 = h21 75 6 := by rw [← e28]; exact x_up_k (by decide)
    have q68 : h21 75 6 = h16 75 6 := by rw [← e23]; exact x_up_k (by decide)
    have q69 : h16 75 6 = h11 75 6 := by rw [← e18]; exact x_up_k (by decide)
    have q70 : h11 75 6 = h1 75 6 := by rw [← e13]; exact x_up_k (by decide)
    have q71 : h1 75 6 = h 75 6 := by rw [← e3]; exact x_up_i (by first | decide | omega)
    refine x_getC (np := 75) (x := 710) (f := 6) (q := (h 75 6)) (by decide +kernel) (by decide) (by decide +kernel) ((((((q65.trans q66).trans q67).trans q68).trans q69).trans q70).trans q71) (fun l72 => ?_)
    refine x_iload (np := 77) (x := 6) (by decide +kernel) rfl (by decide) ?_
    refine x_iadd (np := 78) (x := 0) (v := (1 + (h 75 6))) (by decide +kernel) l7 (by decide) (by first | decide | omega) (by first | decide | omega) ?_
    refine x_aload (np := 79) (x := 0) (by decide +kernel) rfl (x_nc_le (by decide)) ?_
    have q73 : h58 75 12 = 80 := by have z := jB (e := 12) 0 j59 rg_75_12_0_1 (by decide) (by decide); omega
    refine x_getR (np := 82) (x := 716) (f := 12) (q := 80) (by decide +kernel) (by decide) (by decide +kernel) q73 ?_
    refine x_iload (np := 84) (x := 6) (by decide +kernel) rfl (by decide) ?_
    refine x_const (np := 85) (x := 9223372056182128644) (a := 2147483652) (by decide +kernel) (by decide) (by decide) ?_
    refine x_div (np := 86) (i := 1) (j := 4) (by decide +kernel) (by first | decide | omega) (by decide) (by first | decide | omega) (by decide) ?_
    show X _ _ _ _ _ _ _ _ [iv_c 2147483648, x_r 80, iv_c (1 + (h 75 6)), x_r 79] _
    have q74 : h58 80 0 = h31 80 0 := by rw [← e60]; exact x_up_k (by decide)
    have q75 : h31 80 0 = h26 80 0 := by rw [← e33]; exact x_up_i (by first | decide | omega)
    have q76 : h26 80 0 = h21 80 0 := by rw [← e28]; exact x_up_i (by first | decide | omega)
    have q77 : h21 80 0 = h16 80 0 := by rw [← e23]; exact x_up_i (by first | decide | omega)
    have q78 : h16 80 0 = h11 80 0 := by rw [← e18]; exact x_up_i (by first | decide | omega)
    have q79 : h11 80 0 = a1 := by rw [← e13]; exact x_up_at
    refine x_aldC (np := 87) (x := 0) (n := 5) (i := 0) (q := a1) (by decide +kernel) (by decide +kernel) (by first | decide | omega) (by first | decide | omega) (by decide) (((((q74.trans q75).trans q76).trans q77).trans q78).trans q79) (fun l80 => ?_)
    refine x_const (np := 89) (x := 9223372142081474584) (a := 2147483672) (by decide +kernel) (by decide) (by decide) ?_
    refine x_const (np := 91) (x := 9223372073361997832) (a := 2147483656) (by decide +kernel) (by decide) (by decide) ?_
    refine x_iload (np := 93) (x := 6) (by decide +kernel) rfl (by decide) ?_
    refine x_const (np := 94) (x := 9223372056182128644) (a := 2147483652) (by decide +kernel) (by decide) (by decide) ?_
    refine x_rem (np := 95) (i := 1) (j := 4) (by decide +kernel) (by first | decide | omega) (by decide) (by first | decide | omega) (by decide) ?_
    show X _ _ _ _ _ _ _ _ [iv_c 2147483649, iv_c 2147483656, iv_c 2147483672, iv_c a1, iv_c (1 + (h 75 6)), x_r 79] _
    refine x_imul (np := 96) (x := 0) (i := 8) (j := 1) (v := 2147483656) (by decide +kernel) (by first | decide | omega) (by first | decide | omega) (by first | decide | omega) (by first | decide | omega) (by decide) (by decide) ?_
    refine x_isub (np := 97) (x := 0) (v := 2147483664) (by decide +kernel) (by decide) (by decide) (by first | decide | omega) (by first | decide | omega) ?_
    refine x_shrE (np := 98) (by decide +kernel) la1 (by decide) (fun l82 => ?_)
    refine x_b8 (by rw [tb_b165]; decide +kernel) l82 (fun l83 l84 => ?_)
    refine x_ast (np := 100) (x := 0) (kd := 2) (n := 400) (i := (1 + u56)) (by decide +kernel) (Or.inr rfl) (by decide +kernel) (by first | decide | omega) (by first | decide | omega) (by decide) (by first | decide | omega) (fun _ => by first | decide | omega) ?_
    have j86 := jU (e := (1 + u56)) (v := (b8 (bsh a1 2147483664))) (1 + u56) j59 rg_79_0_1_400 (by first | decide | omega) (by first | decide | omega) (by first | decide | omega)
    have f88 := jF (e := (1 + u56)) (v := (b8 (bsh a1 2147483664))) (1 + u56) f61 rg_79_0_1_400 (by first | decide | omega) (by first | decide | omega) (by decide)
    generalize e87 : x_up h58 79 (1 + u56) (b8 (bsh a1 2147483664)) = h85 at j86 f88 ⊢
    refine x_iinc (np := 103) (i := 6) (j := 2147483649) (v := 2147483650) (lo' := [x_r 75, iv_c a1, iv_c a2, iv_c a3, iv_c a4, iv_c a5, iv_c 2147483650]) (by decide +kernel) (by decide) (by decide) rfl (by decide) (by first | decide | omega) (by first | decide | omega) rfl ?_
    refine x_goto (np := 106) (x := 60) (by decide +kernel) ?_
    refine x_iload (np := 62) (x := 6) (by decide +kernel) rfl (by decide) ?_
    refine x_const (np := 64) (x := 9223372124901605396) (a := 2147483668) (by decide +kernel) (by decide) (by decide) ?_
    refine x_icmp (k := 3) (tg := 106) (np := 67) (by decide +kernel) (by decide) (by decide) (by decide) (fun q89 => ?_) (fun q90 => ?_)
    · have q89 : 2147483668 ≤ 2147483650 := q89
      exfalso; omega
    have q90 : ¬ (2147483668 ≤ 2147483650) := q90
    refine x_aload (np := 68) (x := 0) (by decide +kernel) rfl (x_nc_le (by decide)) ?_
    have q91 : h85 75 5 = 79 := by have z := jB (e := 5) 0 j86 rg_75_5_0_1 (by decide) (by decide); omega
    refine x_getR (np := 71) (x := 709) (f := 5) (q := 79) (by decide +kernel) (by decide) (by decide +kernel) q91 ?_
    refine x_aload (np := 72) (x := 0) (by decide +kernel) rfl (x_nc_le (by decide)) ?_
    have q92 : h85 75 6 = h58 75 6 := by rw [← e87]; exact x_up_k (by decide)
    have q93 : h58 75 6 = h31 75 6 := by rw [← e60]; exact x_up_k (by decide)
    have q94 : h31 75 6 = h26 75 6 := by rw [← e33]; exact x_up_k (by decide)
    have q95 : h26 75 6 = h21 75 6 := by rw [← e28]; exact x_up_k (by decide)
    have q96 : h21 75 6 = h16 75 6 := by rw [← e23]; exact x_up_k (by decide)
    have q97 : h16 75 6 = h11 75 6 := by rw [← e18]; exact x_up_k (by decide)
    have q98 : h11 75 6 = h1 75 6 := by rw [← e13]; exact x_up_k (by decide)
    have q99 : h1 75 6 = h 75 6 := by rw [← e3]; exact x_up_i (by first | decide | omega)
    refine x_getC (np := 75) (x := 710) (f := 6) (q := (h 75 6)) (by decide +kernel) (by decide) (by decide +kernel) (((((((q92.trans q93).trans q94).trans q95).trans q96).trans q97).trans q98).trans q99) (fun l100 => ?_)
    refine x_iload (np := 77) (x := 6) (by decide +kernel) rfl (by decide) ?_
    refine x_iadd (np := 78) (x := 0) (v := (2 + (h 75 6))) (by decide +kernel) l7 (by decide) (by first | decide | omega) (by first | decide | omega) ?_
    refine x_aload (np := 79) (x := 0) (by decide +kernel) rfl (x_nc_le (by decide)) ?_
    have q101 : h85 75 12 = 80 := by have z := jB (e := 12) 0 j86 rg_75_12_0_1 (by decide) (by decide); omega
    refine x_getR (np := 82) (x := 716) (f := 12) (q := 80) (by decide +kernel) (by decide) (by decide +kernel) q101 ?_
    refine x_iload (np := 84) (x := 6) (by decide +kernel) rfl (by decide) ?_
    refine x_const (np := 85) (x := 9223372056182128644) (a := 2147483652) (by decide +kernel) (by decide) (by decide) ?_
    refine x_div (np := 86) (i := 2) (j := 4) (by decide +kernel) (by first | decide | omega) (by decide) (by first | decide | omega) (by decide) ?_
    show X _ _ _ _ _ _ _ _ [iv_c 2147483648, x_r 80, iv_c (2 + (h 75 6)), x_r 79] _
    have q102 : h85 80 0 = h58 80 0 := by rw [← e87]; exact x_up_k (by decide)
    have q103 : h58 80 0 = h31 80 0 := by rw [← e60]; exact x_up_k (by decide)
    have q104 : h31 80 0 = h26 80 0 := by rw [← e33]; exact x_up_i (by first | decide | omega)
    have q105 : h26 80 0 = h21 80 0 := by rw [← e28]; exact x_up_i (by first | decide | omega)
    have q106 : h21 80 0 = h16 80 0 := by rw [← e23]; exact x_up_i (by first | decide | omega)
    have q107 : h16 80 0 = h11 80 0 := by rw [← e18]; exact x_up_i (by first | decide | omega)
    have q108 : h11 80 0 = a1 := by rw [← e13]; exact x_up_at
    refine x_aldC (np := 87) (x := 0) (n := 5) (i := 0) (q := a1) (by decide +kernel) (by decide +kernel) (by first | decide | omega) (by first | decide | omega) (by decide) ((((((q102.trans q103).trans q104).trans q105).trans q106).trans q107).trans q108) (fun l109 => ?_)
    refine x_const (np := 89) (x := 9223372142081474584) (a := 2147483672) (by decide +kernel) (by decide) (by decide) ?_
    refine x_const (np := 91) (x := 9223372073361997832) (a := 2147483656) (by decide +kernel) (by decide) (by decide) ?_
    refine x_iload (np := 93) (x := 6) (by decide +kernel) rfl (by decide) ?_
    refine x_const (np := 94) (x := 9223372056182128644) (a := 2147483652) (by decide +kernel) (by decide) (by decide) ?_
    refine x_rem (np := 95) (i := 2) (j := 4) (by decide +kernel) (by first | decide | omega) (by decide) (by first | decide | omega) (by decide) ?_
    show X _ _ _ _ _ _ _ _ [iv_c 2147483650, iv_c 2147483656, iv_c 2147483672, iv_c a1, iv_c (2 + (h 75 6)), x_r 79] _
    refine x_imul (np := 96) (x := 0) (i := 8) (j := 2) (v := 2147483664) (by decide +kernel) (by first | decide | omega) (by first | decide | omega) (by first | decide | omega) (by first | decide | omega) (by decide) (by decide) ?_
    refine x_isub (np := 97) (x := 0) (v := 2147483656) (by decide +kernel) (by decide) (by decide) (by first | decide | omega) (by first | decide | omega) ?_
    refine x_shrE (np := 98) (by decide +kernel) la1 (by decide) (fun l111 => ?_)
    refine x_b8 (by rw [tb_b165]; decide +kernel) l111 (fun l112 l113 => ?_)
    refine x_ast (np := 100) (x := 0) (kd := 2) (n := 400) (i := (2 + u56)) (by decide +kernel) (Or.inr rfl) (by decide +kernel) (by first | decide | omega) (by first | decide | omega) (by decide) (by first | decide | omega) (fun _ => by first | decide | omega) ?_
    have j115 := jU (e := (2 + u56)) (v := (b8 (bsh a1 2147483656))) (2 + u56) j86 rg_79_0_1_400 (by first | decide | omega) (by first | decide | omega) (by first | decide | omega)
    have f117 := jF (e := (2 + u56)) (v := (b8 (bsh a1 2147483656))) (2 + u56) f88 rg_79_0_1_400 (by first | decide | omega) (by first | decide | omega) (by decide)
    generalize e116 : x_up h85 79 (2 + u56) (b8 (bsh a1 2147483656)) = h114 at j115 f117 ⊢
    refine x_iinc (np := 103) (i := 6) (j := 2147483649) (v := 2147483651) (lo' := [x_r 75, iv_c a1, iv_c a2, iv_c a3, iv_c a4, iv_c a5, iv_c 2147483651]) (by decide +kernel) (by decide) (by decide) rfl (by decide) (by first | decide | omega) (by first | decide | omega) rfl ?_
    refine x_goto (np := 106) (x := 60) (by decide +kernel) ?_
    refine x_iload (np := 62) (x := 6) (by decide +kernel) rfl (by decide) ?_
    refine x_const (np := 64) (x := 9223372124901605396) (a := 2147483668) (by decide +kernel) (by decide) (by decide) ?_
    refine x_icmp (k := 3) (tg := 106) (np := 67) (by decide +kernel) (by decide) (by decide) (by decide) (fun q118 => ?_) (fun q119 => ?_)
    · have q118 : 2147483668 ≤ 2147483651 := q118
      exfalso; omega
    have q119 : ¬ (2147483668 ≤ 2147483651) := q119
    refine x_aload (np := 68) (x := 0) (by decide +kernel) rfl (x_nc_le (by decide)) ?_
    have q120 : h114 75 5 = 79 := by have z := jB (e := 5) 0 j115 rg_75_5_0_1 (by decide) (by decide); omega
    refine x_getR (np := 71) (x := 709) (f := 5) (q := 79) (by decide +kernel) (by decide) (by decide +kernel) q120 ?_
    refine x_aload (np := 72) (x := 0) (by decide +kernel) rfl (x_nc_le (by decide)) ?_
    have q121 : h114 75 6 = h85 75 6 := by rw [← e116]; exact x_up_k (by decide)
    have q122 : h85 75 6 = h58 75 6 := by rw [← e87]; exact x_up_k (by decide)
    have q123 : h58 75 6 = h31 75 6 := by rw [← e60]; exact x_up_k (by decide)
    have q124 : h31 75 6 = h26 75 6 := by rw [← e33]; exact x_up_k (by decide)
    have q125 : h26 75 6 = h21 75 6 := by rw [← e28]; exact x_up_k (by decide)
    have q126 : h21 75 6 = h16 75 6 := by rw [← e23]; exact x_up_k (by decide)
    have q127 : h16 75 6 = h11 75 6 := by rw [← e18]; exact x_up_k (by decide)
    have q128 : h11 75 6 = h1 75 6 := by rw [← e13]; exact x_up_k (by decide)
    have q129 : h1 75 6 = h 75 6 := by rw [← e3]; exact x_up_i (by first | decide | omega)
    refine x_getC (np := 75) (x := 710) (f := 6) (q := (h 75 6)) (by decide +kernel) (by decide) (by decide +kernel) ((((((((q121.trans q122).trans q123).trans q124).trans q125).trans q126).trans q127).trans q128).trans q129) (fun l130 => ?_)
    refine x_iload (np := 77) (x := 6) (by decide +kernel) rfl (by decide) ?_
    refine x_iadd (np := 78) (x := 0) (v := (3 + (h 75 6))) (by decide +kernel) l7 (by decide) (by first | decide | omega) (by first | decide | omega) ?_
    refine x_aload (np := 79) (x := 0) (by decide +kernel) rfl (x_nc_le (by decide)) ?_
    have q131 : h114 75 12 = 80 := by have z := jB (e := 12) 0 j115 rg_75_12_0_1 (by decide) (by decide); omega
    refine x_getR (np := 82) (x := 716) (f := 12) (q := 80) (by decide +kernel) (by decide) (by decide +kernel) q131 ?_
    refine x_iload (np := 84) (x := 6) (by decide +kernel) rfl (by decide) ?_
    refine x_const (np := 85) (x := 9223372056182128644) (a := 2147483652) (by decide +kernel) (by decide) (by decide) ?_
    refine x_div (np := 86) (i := 3) (j := 4) (by decide +kernel) (by first | decide | omega) (by decide) (by first | decide | omega) (by decide) ?_
    show X _ _ _ _ _ _ _ _ [iv_c 2147483648, x_r 80, iv_c (3 + (h 75 6)), x_r 79] _
    have q132 : h114 80 0 = h85 80 0 := by rw [← e116]; exact x_up_k (by decide)
    have q133 : h85 80 0 = h58 80 0 := by rw [← e87]; exact x_up_k (by decide)
    have q134 : h58 80 0 = h31 80 0 := by rw [← e60]; exact x_up_k (by decide)
    have q135 : h31 80 0 = h26 80 0 := by rw [← e33]; exact x_up_i (by first | decide | omega)
    have q136 : h26 80 0 = h21 80 0 := by rw [← e28]; exact x_up_i (by first | decide | omega)
    have q137 : h21 80 0 = h16 80 0 := by rw [← e23]; exact x_up_i (by first | decide | omega)
    have q138 : h16 80 0 = h11 80 0 := by rw [← e18]; exact x_up_i (by first | decide | omega)
    have q139 : h11 80 0 = a1 := by rw [← e13]; exact x_up_at
    refine x_aldC (np := 87) (x := 0) (n := 5) (i := 0) (q := a1) (by decide +kernel) (by decide +kernel) (by first | decide | omega) (by first | decide | omega) (by decide) (((((((q132.trans q133).trans q134).trans q135).trans q136).trans q137).trans q138).trans q139) (fun l140 => ?_)
    refine x_const (np := 89) (x := 9223372142081474584) (a := 2147483672) (by decide +kernel) (by decide) (by decide) ?_
    refine x_const (np := 91) (x := 9223372073361997832) (a := 2147483656) (by decide +kernel) (by decide) (by decide) ?_
    refine x_iload (np := 93) (x := 6) (by decide +kernel) rfl (by decide) ?_
    refine x_const (np := 94) (x := 9223372056182128644) (a := 2147483652) (by decide +kernel) (by decide) (by decide) ?_
    refine x_rem (np := 95) (i := 3) (j := 4) (by decide +kernel) (by first | decide | omega) (by decide) (by first | decide | omega) (by decide) ?_
    show X _ _ _ _ _ _ _ _ [iv_c 2147483651, iv_c 2147483656, iv_c 2147483672, iv_c a1, iv_c (3 + (h 75 6)), x_r 79] _
    refine x_imul (np := 96) (x := 0) (i := 8) (j := 3) (v := 2147483672) (by decide +kernel) (by first | decide | omega) (by first | decide | omega) (by first | decide | omega) (by first | decide | omega) (by decide) (by decide) ?_
    refine x_isub (np := 97) (x := 0) (v := 2147483648) (by decide +kernel) (by decide) (by decide) (by first | decide | omega) (by first | decide | omega) ?_
    refine x_shrE (np := 98) (by decide +kernel) la1 (by decide) (fun l142 => ?_)
    refine x_b8 (by rw [tb_b165]; decide +kernel) l142 (fun l143 l144 => ?_)
    refine x_ast (np := 100) (x := 0) (kd := 2) (n := 400) (i := (3 + u56)) (by decide +kernel) (Or.inr rfl) (by decide +kernel) (by first | decide | omega) (by first | decide | omega) (by decide) (by first | decide | omega) (fun _ => by first | decide | omega) ?_
    have j146 := jU (e := (3 + u56)) (v := (b8 (bsh a1 2147483648))) (3 + u56) j115 rg_79_0_1_400 (by first | decide | omega) (by first | decide | omega) (by first | decide | omega)
    have f148 := jF (e := (3 + u56)) (v := (b8 (bsh a1 2147483648))) (3 + u56) f117 rg_79_0_1_400 (by first | decide | omega) (by first | decide | omega) (by decide)
    generalize e147 : x_up h114 79 (3 + u56) (b8 (bsh a1 2147483648)) = h145 at j146 f148 ⊢
    refine x_iinc (np := 103) (i := 6) (j := 2147483649) (v := 2147483652) (lo' := [x_r 75, iv_c a1, iv_c a2, iv_c a3, iv_c a4, iv_c a5, iv_c 2147483652]) (by decide +kernel) (by decide) (by decide) rfl (by decide) (by first | decide | omega) (by first | decide | omega) rfl ?_
    refine x_goto (np := 106) (x := 60) (by decide +kernel) ?_
    refine x_iload (np := 62) (x := 6) (by decide +kernel) rfl (by decide) ?_
    refine x_const (np := 64) (x := 9223372124901605396) (a := 2147483668) (by decide +kernel) (by decide) (by decide) ?_
    refine x_icmp (k := 3) (tg := 106) (np := 67) (by decide +kernel) (by decide) (by decide) (by decide) (fun q149 => ?_) (fun q150 => ?_)
    · have q149 : 2147483668 ≤ 2147483652 := q149
      exfalso; omega
    have q150 : ¬ (2147483668 ≤ 2147483652) := q150
    refine x_aload (np := 68) (x := 0) (by decide +kernel) rfl (x_nc_le (by decide)) ?_
    have q151 : h145 75 5 = 79 := by have z := jB (e := 5) 0 j146 rg_75_5_0_1 (by decide) (by decide); omega
    refine x_getR (np := 71) (x := 709) (f := 5) (q := 79) (by decide +kernel) (by decide) (by decide +kernel) q151 ?_
    refine x_aload (np := 72) (x := 0) (by decide +kernel) rfl (x_nc_le (by decide)) ?_
    have q152 : h145 75 6 = h114 75 6 := by rw [← e147]; exact x_up_k (by decide)
    have q153 : h114 75 6 = h85 75 6 := by rw [← e116]; exact x_up_k (by decide)
    have q154 : h85 75 6 = h58 75 6 := by rw [← e87]; exact x_up_k (by decide)
    have q155 : h58 75 6 = h31 75 6 := by rw [← e60]; exact x_up_k (by decide)
    have q156 : h31 75 6 = h26 75 6 := by rw [← e33]; exact x_up_k (by decide)
    have q157 : h26 75 6 = h21 75 6 := by rw [← e28]; exact x_up_k (by decide)
    have q158 : h21 75 6 = h16 75 6 := by rw [← e23]; exact x_up_k (by decide)
    have q159 : h16 75 6 = h11 75 6 := by rw [← e18]; exact x_up_k (by decide)
    have q160 : h11 75 6 = h1 75 6 := by rw [← e13]; exact x_up_k (by decide)
    have q161 : h1 75 6 = h 75 6 := by rw [← e3]; exact x_up_i (by first | decide | omega)
    refine x_getC (np := 75) (x := 710) (f := 6) (q := (h 75 6)) (by decide +kernel) (by decide) (by decide +kernel) (((((((((q152.trans q153).trans q154).trans q155).trans q156).trans q157).trans q158).trans q159).trans q160).trans q161) (fun l162 => ?_)
    refine x_iload (np := 77) (x := 6) (by decide +kernel) rfl (by decide) ?_
    refine x_iadd (np := 78) (x := 0) (v := (4 + (h 75 6))) (by decide +kernel) l7 (by decide) (by first | decide | omega) (by first | decide | omega) ?_
    refine x_aload (np := 79) (x := 0) (by decide +kernel) rfl (x_nc_le (by decide)) ?_
    have q163 : h145 75 12 = 80 := by have z := jB (e := 12) 0 j146 rg_75_12_0_1 (by decide) (by decide); omega
    refine x_getR (np := 82) (x := 716) (f := 12) (q := 80) (by decide +kernel) (by decide) (by decide +kernel) q163 ?_
    refine x_iload (np := 84) (x := 6) (by decide +kernel) rfl (by decide) ?_
    refine x_const (np := 85) (x := 9223372056182128644) (a := 2147483652) (by decide +kernel) (by decide) (by decide) ?_
    refine x_div (np := 86) (i := 4) (j := 4) (by decide +kernel) (by first | decide | omega) (by decide) (by first | decide | omega) (by decide) ?_
    show X _ _ _ _ _ _ _ _ [iv_c 2147483649, x_r 80, iv_c (4 + (h 75 6)), x_r 79] _
    have q164 : h145 80 1 = h114 80 1 := by rw [← e147]; exact x_up_k (by decide)
    have q165 : h114 80 1 = h85 80 1 := by rw [← e116]; exact x_up_k (by decide)
    have q166 : h85 80 1 = h58 80 1 := by rw [← e87]; exact x_up_k (by decide)
    have q167 : h58 80 1 = h31 80 1 := by rw [← e60]; exact x_up_k (by decide)
    have q168 : h31 80 1 = h26 80 1 := by rw [← e33]; exact x_up_i (by first | decide | omega)
    have q169 : h26 80 1 = h21 80 1 := by rw [← e28]; exact x_up_i (by first | decide | omega)
    have q170 : h21 80 1 = h16 80 1 := by rw [← e23]; exact x_up_i (by first | decide | omega)
    have q171 : h16 80 1 = a2 := by rw [← e18]; exact x_up_at
    refine x_aldC (np := 87) (x := 0) (n := 5) (i := 1) (q := a2) (by decide +kernel) (by decide +kernel) (by first | decide | omega) (by first | decide | omega) (by decide) (((((((q164.trans q165).trans q166).trans q167).trans q168).trans q169).trans q170).trans q171) (fun l172 => ?_)
    refine x_const (np := 89) (x := 9223372142081474584) (a := 2147483672) (by decide +kernel) (by decide) (by decide) ?_
    refine x_const (np := 91) (x := 9223372073361997832) (a := 2147483656) (by decide +kernel) (by decide) (by decide) ?_
    refine x_iload (np := 93) (x := 6) (by decide +kernel) rfl (by decide) ?_
    refine x_const (np := 94) (x := 9223372056182128644) (a := 2147483652) (by decide +kernel) (by decide) (by decide) ?_
    refine x_rem (np := 95) (i := 4) (j := 4) (by decide +kernel) (by first | decide | omega) (by decide) (by first | decide | omega) (by decide) ?_
    show X _ _ _ _ _ _ _ _ [iv_c 2147483648, iv_c 2147483656, iv_c 2147483672, iv_c a2, iv_c (4 + (h 75 6)), x_r 79] _
    refine x_imul (np := 96) (x := 0) (i := 8) (j := 0) (v := 2147483648) (by decide +kernel) (by first | decide | omega) (by first | decide | omega) (by first | decide | omega) (by first | decide | omega) (by decide) (by decide) ?_
    refine x_isub (np := 97) (x := 0) (v := 2147483672) (by decide +kernel) (by decide) (by decide) (by first | decide | omega) (by first | decide | omega) ?_
    refine x_shrE (np := 98) (by decide +kernel) la2 (by decide) (fun l174 => ?_)
    refine x_b8 (by rw [tb_b165]; decide +kernel) l174 (fun l175 l176 => ?_)
    refine x_ast (np := 100) (x := 0) (kd := 2) (n := 400) (i := (4 + u56)) (by decide +kernel) (Or.inr rfl) (by decide +kernel) (by first | decide | omega) (by first | decide | omega) (by decide) (by first | decide | omega) (fun _ => by first | decide | omega) ?_
    have j178 := jU (e := (4 + u56)) (v := (b8 (bsh a2 2147483672))) (4 + u56) j146 rg_79_0_1_400 (by first | decide | omega) (by first | decide | omega) (by first | decide | omega)
    have f180 := jF (e := (4 + u56)) (v := (b8 (bsh a2 2147483672))) (4 + u56) f148 rg_79_0_1_400 (by first | decide | omega) (by first | decide | omega) (by decide)
    generalize e179 : x_up h145 79 (4 + u56) (b8 (bsh a2 2147483672)) = h177 at j178 f180 ⊢
    refine x_iinc (np := 103) (i := 6) (j := 2147483649) (v := 2147483653) (lo' := [x_r 75, iv_c a1, iv_c a2, iv_c a3, iv_c a4, iv_c a5, iv_c 2147483653]) (by decide +kernel) (by decide) (by decide) rfl (by decide) (by first | decide | omega) (by first | decide | omega) rfl ?_
    refine x_goto (np := 106) (x := 60) (by decide +kernel) ?_
    refine x_iload (np := 62) (x := 6) (by decide +kernel) rfl (by decide) ?_
    refine x_const (np := 64) (x := 9223372124901605396) (a := 2147483668) (by decide +kernel) (by decide) (by decide) ?_
    refine x_icmp (k := 3) (tg := 106) (np := 67) (by decide +kernel) (by decide) (by decide) (by decide) (fun q181 => ?_) (fun q182 => ?_)
    · have q181 : 2147483668 ≤ 2147483653 := q181
      exfalso; omega
    have q182 : ¬ (2147483668 ≤ 2147483653) := q182
    refine x_aload (np := 68) (x := 0) (by decide +kernel) rfl (x_nc_le (by decide)) ?_
    have q183 : h177 75 5 = 79 := by have z := jB (e := 5) 0 j178 rg_75_5_0_1 (by decide) (by decide); omega
    refine x_getR (np := 71) (x := 709) (f := 5) (q := 79) (by decide +kernel) (by decide) (by decide +kernel) q183 ?_
    refine x_aload (np := 72) (x := 0) (by decide +kernel) rfl (x_nc_le (by decide)) ?_
    have q184 : h177 75 6 = h145 75 6 := by rw [← e179]; exact x_up_k (by decide)
    have q185 : h145 75 6 = h114 75 6 := by rw [← e147]; exact x_up_k (by decide)
    have q186 : h114 75 6 = h85 75 6 := by rw [← e116]; exact x_up_k (by decide)
    have q187 : h85 75 6 = h58 75 6 := by rw [← e87]; exact x_up_k (by decide)
    have q188 : h58 75 6 = h31 75 6 := by rw [← e60]; exact x_up_k (by decide)
    have q189 : h31 75 6 = h26 75 6 := by rw [← e33]; exact x_up_k (by decide)
    have q190 : h26 75 6 = h21 75 6 := by rw [← e28]; exact x_up_k (by decide)
    have q191 : h21 75 6 = h16 75 6 := by rw [← e23]; exact x_up_k (by decide)
    have q192 : h16 75 6 = h11 75 6 := by rw [← e18]; exact x_up_k (by decide)
    have q193 : h11 75 6 = h1 75 6 := by rw [← e13]; exact x_up_k (by decide)
    have q194 : h1 75 6 = h 75 6 := by rw [← e3]; exact x_up_i (by first | decide | omega)
    refine x_getC (np := 75) (x := 710) (f := 6) (q := (h 75 6)) (by decide +kernel) (by decide) (by decide +kernel) ((((((((((q184.trans q185).trans q186).trans q187).trans q188).trans q189).trans q190).trans q191).trans q192).trans q193).trans q194) (fun l195 => ?_)
    refine x_iload (np := 77) (x := 6) (by decide +kernel) rfl (by decide) ?_
    refine x_iadd (np := 78) (x := 0) (v := (5 + (h 75 6))) (by decide +kernel) l7 (by decide) (by first | decide | omega) (by first | decide | omega) ?_
    refine x_aload (np := 79) (x := 0) (by decide +kernel) rfl (x_nc_le (by decide)) ?_
    have q196 : h177 75 12 = 80 := by have z := jB (e := 12) 0 j178 rg_75_12_0_1 (by decide) (by decide); omega
    refine x_getR (np := 82) (x := 716) (f := 12) (q := 80) (by decide +kernel) (by decide) (by decide +kernel) q196 ?_
    refine x_iload (np := 84) (x := 6) (by decide +kernel) rfl (by decide) ?_
    refine x_const (np := 85) (x := 9223372056182128644) (a := 2147483652) (by decide +kernel) (by decide) (by decide) ?_
    refine x_div (np := 86) (i := 5) (j := 4) (by decide +kernel) (by first | decide | omega) (by decide) (by first | decide | omega) (by decide) ?_
    show X _ _ _ _ _ _ _ _ [iv_c 2147483649, x_r 80, iv_c (5 + (h 75 6)), x_r 79] _
    have q197 : h177 80 1 = h145 80 1 := by rw [← e179]; exact x_up_k (by decide)
    have q198 : h145 80 1 = h114 80 1 := by rw [← e147]; exact x_up_k (by decide)
    have q199 : h114 80 1 = h85 80 1 := by rw [← e116]; exact x_up_k (by decide)
    have q200 : h85 80 1 = h58 80 1 := by rw [← e87]; exact x_up_k (by decide)
    have q201 : h58 80 1 = h31 80 1 := by rw [← e60]; exact x_up_k (by decide)
    have q202 : h31 80 1 = h26 80 1 := by rw [← e33]; exact x_up_i (by first | decide | omega)
    have q203 : h26 80 1 = h21 80 1 := by rw [← e28]; exact x_up_i (by first | decide | omega)
    have q204 : h21 80 1 = h16 80 1 := by rw [← e23]; exact x_up_i (by first | decide | omega)
    have q205 : h16 80 1 = a2 := by rw [← e18]; exact x_up_at
    refine x_aldC (np := 87) (x := 0) (n := 5) (i := 1) (q := a2) (by decide +kernel) (by decide +kernel) (by first | decide | omega) (by first | decide | omega) (by decide) ((((((((q197.trans q198).trans q199).trans q200).trans q201).trans q202).trans q203).trans q204).trans q205) (fun l206 => ?_)
    refine x_const (np := 89) (x := 9223372142081474584) (a := 2147483672) (by decide +kernel) (by decide) (by decide) ?_
    refine x_const (np := 91) (x := 9223372073361997832) (a := 2147483656) (by decide +kernel) (by decide) (by decide) ?_
    refine x_iload (np := 93) (x := 6) (by decide +kernel) rfl (by decide) ?_
    refine x_const (np := 94) (x := 9223372056182128644) (a := 2147483652) (by decide +kernel) (by decide) (by decide) ?_
    refine x_rem (np := 95) (i := 5) (j := 4) (by decide +kernel) (by first | decide | omega) (by decide) (by first | decide | omega) (by decide) ?_
    show X _ _ _ _ _ _ _ _ [iv_c 2147483649, iv_c 2147483656, iv_c 2147483672, iv_c a2, iv_c (5 + (h 75 6)), x_r 79] _
    refine x_imul (np := 96) (x := 0) (i := 8) (j := 1) (v := 2147483656) (by decide +kernel) (by first | decide | omega) (by first | decide | omega) (by first | decide | omega) (by first | decide | omega) (by decide) (by decide) ?_
    refine x_isub (np := 97) (x := 0) (v := 2147483664) (by decide +kernel) (by decide) (by decide) (by first | decide | omega) (by first | decide | omega) ?_
    refine x_shrE (np := 98) (by decide +kernel) la2 (by decide) (fun l208 => ?_)
    refine x_b8 (by rw [tb_b165]; decide +kernel) l208 (fun l209 l210 => ?_)
    refine x_ast (np := 100) (x := 0) (kd := 2) (n := 400) (i := (5 + u56)) (by decide +kernel) (Or.inr rfl) (by decide +kernel) (by first | decide | omega) (by first | decide | omega) (by decide) (by first | decide | omega) (fun _ => by first | decide | omega) ?_
    have j212 := jU (e := (5 + u56)) (v := (b8 (bsh a2 2147483664))) (5 + u56) j178 rg_79_0_1_400 (by first | decide | omega) (by first | decide | omega) (by first | decide | omega)
    have f214 := jF (e := (5 + u56)) (v := (b8 (bsh a2 2147483664))) (5 + u56) f180 rg_79_0_1_400 (by first | decide | omega) (by first | decide | omega) (by decide)
    generalize e213 : x_up h177 79 (5 + u56) (b8 (bsh a2 2147483664)) = h211 at j212 f214 ⊢
    refine x_iinc (np := 103) (i := 6) (j := 2147483649) (v := 2147483654) (lo' := [x_r 75, iv_c a1, iv_c a2, iv_c a3, iv_c a4, iv_c a5, iv_c 2147483654]) (by decide +kernel) (by decide) (by decide) rfl (by decide) (by first | decide | omega) (by first | decide | omega) rfl ?_
    refine x_goto (np := 106) (x := 60) (by decide +kernel) ?_
    refine x_iload (np := 62) (x := 6) (by decide +kernel) rfl (by decide) ?_
    refine x_const (np := 64) (x := 9223372124901605396) (a := 2147483668) (by decide +kernel) (by decide) (by decide) ?_
    refine x_icmp (k := 3) (tg := 106) (np := 67) (by decide +kernel) (by decide) (by decide) (by decide) (fun q215 => ?_) (fun q216 => ?_)
    · have q215 : 2147483668 ≤ 2147483654 := q215
      exfalso; omega
    have q216 : ¬ (2147483668 ≤ 2147483654) := q216
    refine x_aload (np := 68) (x := 0) (by decide +kernel) rfl (x_nc_le (by decide)) ?_
    have q217 : h211 75 5 = 79 := by have z := jB (e := 5) 0 j212 rg_75_5_0_1 (by decide) (by decide); omega
    refine x_getR (np := 71) (x := 709) (f := 5) (q := 79) (by decide +kernel) (by decide) (by decide +kernel) q217 ?_
    refine x_aload (np := 72) (x := 0) (by decide +kernel) rfl (x_nc_le (by decide)) ?_
    have q218 : h211 75 6 = h177 75 6 := by rw [← e213]; exact x_up_k (by decide)
    have q219 : h177 75 6 = h145 75 6 := by rw [← e179]; exact x_up_k (by decide)
    have q220 : h145 75 6 = h114 75 6 := by rw [← e147]; exact x_up_k (by decide)
    have q221 : h114 75 6 = h85 75 6 := by rw [← e116]; exact x_up_k (by decide)
    have q222 : h85 75 6 = h58 75 6 := by rw [← e87]; exact x_up_k (by decide)
    have q223 : h58 75 6 = h31 75 6 := by rw [← e60]; exact x_up_k (by decide)
    have q224 : h31 75 6 = h26 75 6 := by rw [← e33]; exact x_up_k (by decide)
    have q225 : h26 75 6 = h21 75 6 := by rw [← e28]; exact x_up_k (by decide)
    have q226 : h21 75 6 = h16 75 6 := by rw [← e23]; exact x_up_k (by decide)
    have q227 : h16 75 6 = h11 75 6 := by rw [← e18]; exact x_up_k (by decide)
    have q228 : h11 75 6 = h1 75 6 := by rw [← e13]; exact x_up_k (by decide)
    have q229 : h1 75 6 = h 75 6 := by rw [← e3]; exact x_up_i (by first | decide | omega)
    refine x_getC (np := 75) (x := 710) (f := 6) (q := (h 75 6)) (by decide +kernel) (by decide) (by decide +kernel) (((((((((((q218.trans q219).trans q220).trans q221).trans q222).trans q223).trans q224).trans q225).trans q226).trans q227).trans q228).trans q229) (fun l230 => ?_)
    refine x_iload (np := 77) (x := 6) (by decide +kernel) rfl (by decide) ?_
    refine x_iadd (np := 78) (x := 0) (v := (6 + (h 75 6))) (by decide +kernel) l7 (by decide) (by first | decide | omega) (by first | decide | omega) ?_
    refine x_aload (np := 79) (x := 0) (by decide +kernel) rfl (x_nc_le (by decide)) ?_
    have q231 : h211 75 12 = 80 := by have z := jB (e := 12) 0 j212 rg_75_12_0_1 (by decide) (by decide); omega
    refine x_getR (np := 82) (x := 716) (f := 12) (q := 80) (by decide +kernel) (by decide) (by decide +kernel) q231 ?_
    refine x_iload (np := 84) (x := 6) (by decide +kernel) rfl (by decide) ?_
    refine x_const (np := 85) (x := 9223372056182128644) (a := 2147483652) (by decide +kernel) (by decide) (by decide) ?_
    refine x_div (np := 86) (i := 6) (j := 4) (by decide +kernel) (by first | decide | omega) (by decide) (by first | decide | omega) (by decide) ?_
    show X _ _ _ _ _ _ _ _ [iv_c 2147483649, x_r 80, iv_c (6 + (h 75 6)), x_r 79] _
    have q232 : h211 80 1 = h177 80 1 := by rw [← e213]; exact x_up_k (by decide)
    have q233 : h177 80 1 = h145 80 1 := by rw [← e179]; exact x_up_k (by decide)
    have q234 : h145 80 1 = h114 80 1 := by rw [← e147]; exact x_up_k (by decide)
    have q235 : h114 80 1 = h85 80 1 := by rw [← e116]; exact x_up_k (by decide)
    have q236 : h85 80 1 = h58 80 1 := by rw [← e87]; exact x_up_k (by decide)
    have q237 : h58 80 1 = h31 80 1 := by rw [← e60]; exact x_up_k (by decide)
    have q238 : h31 80 1 = h26 80 1 := by rw [← e33]; exact x_up_i (by first | decide | omega)
    have q239 : h26 80 1 = h21 80 1 := by rw [← e28]; exact x_up_i (by first | decide | omega)
    have q240 : h21 80 1 = h16 80 1 := by rw [← e23]; exact x_up_i (by first | decide | omega)
    have q241 : h16 80 1 = a2 := by rw [← e18]; exact x_up_at
    refine x_aldC (np := 87) (x := 0) (n := 5) (i := 1) (q := a2) (by decide +kernel) (by decide +kernel) (by first | decide | omega) (by first | decide | omega) (by decide) (((((((((q232.trans q233).trans q234).trans q235).trans q236).trans q237).trans q238).trans q239).trans q240).trans q241) (fun l242 => ?_)
    refine x_const (np := 89) (x := 9223372142081474584) (a := 2147483672) (by decide +kernel) (by decide) (by decide) ?_
    refine x_const (np := 91) (x := 9223372073361997832) (a := 2147483656) (by decide +kernel) (by decide) (by decide) ?_
    refine x_iload (np := 93) (x := 6) (by decide +kernel) rfl (by decide) ?_
    refine x_const (np := 94) (x := 9223372056182128644) (a := 2147483652) (by decide +kernel) (by decide) (by decide) ?_
    refine x_rem (np := 95) (i := 6) (j := 4) (by decide +kernel) (by first | decide | omega) (by decide) (by first | decide | omega) (by decide) ?_
    show X _ _ _ _ _ _ _ _ [iv_c 2147483650, iv_c 2147483656, iv_c 2147483672, iv_c a2, iv_c (6 + (h 75 6)), x_r 79] _
    refine x_imul (np := 96) (x := 0) (i := 8) (j := 2) (v := 2147483664) (by decide +kernel) (by first | decide | omega) (by first | decide | omega) (by first | decide | omega) (by first | decide | omega) (by decide) (by decide) ?_
    refine x_isub (np := 97) (x := 0) (v := 2147483656) (by decide +kernel) (by decide) (by decide) (by first | decide | omega) (by first | decide | omega) ?_
    refine x_shrE (np := 98) (by decide +kernel) la2 (by decide) (fun l244 => ?_)
    refine x_b8 (by rw [tb_b165]; decide +kernel) l244 (fun l245 l246 => ?_)
    refine x_ast (np := 100) (x := 0) (kd := 2) (n := 400) (i := (6 + u56)) (by decide +kernel) (Or.inr rfl) (by decide +kernel) (by first | decide | omega) (by first | decide | omega) (by decide) (by first | decide | omega) (fun _ => by first | decide | omega) ?_
    have j248 := jU (e := (6 + u56)) (v := (b8 (bsh a2 2147483656))) (6 + u56) j212 rg_79_0_1_400 (by first | decide | omega) (by first | decide | omega) (by first | decide | omega)
    have f250 := jF (e := (6 + u56)) (v := (b8 (bsh a2 2147483656))) (6 + u56) f214 rg_79_0_1_400 (by first | decide | omega) (by first | decide | omega) (by decide)
    generalize e249 : x_up h211 79 (6 + u56) (b8 (bsh a2 2147483656)) = h247 at j248 f250 ⊢
    refine x_iinc (np := 103) (i := 6) (j := 2147483649) (v := 2147483655) (lo' := [x_r 75, iv_c a1, iv_c a2, iv_c a3, iv_c a4, iv_c a5, iv_c 2147483655]) (by decide +kernel) (by decide) (by decide) rfl (by decide) (by first | decide | omega) (by first | decide | omega) rfl ?_
    refine x_goto (np := 106) (x := 60) (by decide +kernel) ?_
    refine x_iload (np := 62) (x := 6) (by decide +kernel) rfl (by decide) ?_
    refine x_const (np := 64) (x := 9223372124901605396) (a := 2147483668) (by decide +kernel) (by decide) (by decide) ?_
    refine x_icmp (k := 3) (tg := 106) (np := 67) (by decide +kernel) (by decide) (by decide) (by decide) (fun q251 => ?_) (fun q252 => ?_)
    · have q251 : 2147483668 ≤ 2147483655 := q251
      exfalso; omega
    have q252 : ¬ (2147483668 ≤ 2147483655) := q252
    refine x_aload (np := 68) (x := 0) (by decide +kernel) rfl (x_nc_le (by decide)) ?_
    have q253 : h247 75 5 = 79 := by have z := jB (e := 5) 0 j248 rg_75_5_0_1 (by decide) (by decide); omega
    refine x_getR (np := 71) (x := 709) (f := 5) (q := 79) (by decide +kernel) (by decide) (by decide +kernel) q253 ?_
    refine x_aload (np := 72) (x := 0) (by decide +kernel) rfl (x_nc_le (by decide)) ?_
    have q254 : h247 75 6 = h211 75 6 := by rw [← e249]; exact x_up_k (by decide)
    have q255 : h211 75 6 = h177 75 6 := by rw [← e213]; exact x_up_k (by decide)
    have q256 : h177 75 6 = h145 75 6 := by rw [← e179]; exact x_up_k (by decide)
    have q257 : h145 75 6 = h114 75 6 := by rw [← e147]; exact x_up_k (by decide)
    have q258 : h114 75 6 = h85 75 6 := by rw [← e116]; exact x_up_k (by decide)
    have q259 : h85 75 6 = h58 75 6 := by rw [← e87]; exact x_up_k (by decide)
    have q260 : h58 75 6 = h31 75 6 := by rw [← e60]; exact x_up_k (by decide)
    have q261 : h31 75 6 = h26 75 6 := by rw [← e33]; exact x_up_k (by decide)
    have q262 : h26 75 6 = h21 75 6 := by rw [← e28]; exact x_up_k (by decide)
    have q263 : h21 75 6 = h16 75 6 := by rw [← e23]; exact x_up_k (by decide)
    have q264 : h16 75 6 = h11 75 6 := by rw [← e18]; exact x_up_k (by decide)
    have q265 : h11 75 6 = h1 75 6 := by rw [← e13]; exact x_up_k (by decide)
    have q266 : h1 75 6 = h 75 6 := by rw [← e3]; exact x_up_i (by first | decide | omega)
    refine x_getC (np := 75) (x := 710) (f := 6) (q := (h 75 6)) (by decide +kernel) (by decide) (by decide +kernel) ((((((((((((q254.trans q255).trans q256).trans q257).trans q258).trans q259).trans q260).trans q261).trans q262).trans q263).trans q264).trans q265).trans q266) (fun l267 => ?_)
    refine x_iload (np := 77) (x := 6) (by decide +kernel) rfl (by decide) ?_
    refine x_iadd (np := 78) (x := 0) (v := (7 + (h 75 6))) (by decide +kernel) l7 (by decide) (by first | decide | omega) (by first | decide | omega) ?_
    refine x_aload (np := 79) (x := 0) (by decide +kernel) rfl (x_nc_le (by decide)) ?_
    have q268 : h247 75 12 = 80 := by have z := jB (e := 12) 0 j248 rg_75_12_0_1 (by decide) (by decide); omega
    refine x_getR (np := 82) (x := 716) (f := 12) (q := 80) (by decide +kernel) (by decide) (by decide +kernel) q268 ?_
    refine x_iload (np := 84) (x := 6) (by decide +kernel) rfl (by decide) ?_
    refine x_const (np := 85) (x := 9223372056182128644) (a := 2147483652) (by decide +kernel) (by decide) (by decide) ?_
    refine x_div (np := 86) (i := 7) (j := 4) (by decide +kernel) (by first | decide | omega) (by decide) (by first | decide | omega) (by decide) ?_
    show X _ _ _ _ _ _ _ _ [iv_c 2147483649, x_r 80, iv_c (7 + (h 75 6)), x_r 79] _
    have q269 : h247 80 1 = h211 80 1 := by rw [← e249]; exact x_up_k (by decide)
    have q270 : h211 80 1 = h177 80 1 := by rw [← e213]; exact x_up_k (by decide)
    have q271 : h177 80 1 = h145 80 1 := by rw [← e179]; exact x_up_k (by decide)
    have q272 : h145 80 1 = h114 80 1 := by rw [← e147]; exact x_up_k (by decide)
    have q273 : h114 80 1 = h85 80 1 := by rw [← e116]; exact x_up_k (by decide)
    have q274 : h85 80 1 = h58 80 1 := by rw [← e87]; exact x_up_k (by decide)
    have q275 : h58 80 1 = h31 80 1 := by rw [← e60]; exact x_up_k (by decide)
    have q276 : h31 80 1 = h26 80 1 := by rw [← e33]; exact x_up_i (by first | decide | omega)
    have q277 : h26 80 1 = h21 80 1 := by rw [← e28]; exact x_up_i (by first | decide | omega)
    have q278 : h21 80 1 = h16 80 1 := by rw [← e23]; exact x_up_i (by first | decide | omega)
    have q279 : h16 80 1 = a2 := by rw [← e18]; exact x_up_at
    refine x_aldC (np := 87) (x := 0) (n := 5) (i := 1) (q := a2) (by decide +kernel) (by decide +kernel) (by first | decide | omega) (by first | decide | omega) (by decide) ((((((((((q269.trans q270).trans q271).trans q272).trans q273).trans q274).trans q275).trans q276).trans q277).trans q278).trans q279) (fun l280 => ?_)
    refine x_const (np := 89) (x := 9223372142081474584) (a := 2147483672) (by decide +kernel) (by decide) (by decide) ?_
    refine x_const (np := 91) (x := 9223372073361997832) (a := 2147483656) (by decide +kernel) (by decide) (by decide) ?_
    refine x_iload (np := 93) (x := 6) (by decide +kernel) rfl (by decide) ?_
    refine x_const (np := 94) (x := 9223372056182128644) (a := 2147483652) (by decide +kernel) (by decide) (by decide) ?_
    refine x_rem (np := 95) (i := 7) (j := 4) (by decide +kernel) (by first | decide | omega) (by decide) (by first | decide | omega) (by decide) ?_
    show X _ _ _ _ _ _ _ _ [iv_c 2147483651, iv_c 2147483656, iv_c 2147483672, iv_c a2, iv_c (7 + (h 75 6)), x_r 79] _
    refine x_imul (np := 96) (x := 0) (i := 8) (j := 3) (v := 2147483672) (by decide +kernel) (by first | decide | omega) (by first | decide | omega) (by first | decide | omega) (by first | decide | omega) (by decide) (by decide) ?_
    refine x_isub (np := 97) (x := 0) (v := 2147483648) (by decide +kernel) (by decide) (by decide) (by first | decide | omega) (by first | decide | omega) ?_
    refine x_shrE (np := 98) (by decide +kernel) la2 (by decide) (fun l282 => ?_)
    refine x_b8 (by rw [tb_b165]; decide +kernel) l282 (fun l283 l284 => ?_)
    refine x_ast (np := 100) (x := 0) (kd := 2) (n := 400) (i := (7 + u56)) (by decide +kernel) (Or.inr rfl) (by decide +kernel) (by first | decide | omega) (by first | decide | omega) (by decide) (by first | decide | omega) (fun _ => by first | decide | omega) ?_
    have j286 := jU (e := (7 + u56)) (v := (b8 (bsh a2 2147483648))) (7 + u56) j248 rg_79_0_1_400 (by first | decide | omega) (by first | decide | omega) (by first | decide | omega)
    have f288 := jF (e := (7 + u56)) (v := (b8 (bsh a2 2147483648))) (7 + u56) f250 rg_79_0_1_400 (by first | decide | omega) (by first | decide | omega) (by decide)
    generalize e287 : x_up h247 79 (7 + u56) (b8 (bsh a2 2147483648)) = h285 at j286 f288 ⊢
    refine x_iinc (np := 103) (i := 6) (j := 2147483649) (v := 2147483656) (lo' := [x_r 75, iv_c a1, iv_c a2, iv_c a3, iv_c a4, iv_c a5, iv_c 2147483656]) (by decide +kernel) (by decide) (by decide) rfl (by decide) (by first | decide | omega) (by first | decide | omega) rfl ?_
    refine x_goto (np := 106) (x := 60) (by decide +kernel) ?_
    refine x_iload (np := 62) (x := 6) (by decide +kernel) rfl (by decide) ?_
    refine x_const (np := 64) (x := 9223372124901605396) (a := 2147483668) (by decide +kernel) (by decide) (by decide) ?_
    refine x_icmp (k := 3) (tg := 106) (np := 67) (by decide +kernel) (by decide) (by decide) (by decide) (fun q289 => ?_) (fun q290 => ?_)
    · have q289 : 2147483668 ≤ 2147483656 := q289
      exfalso; omega
    have q290 : ¬ (2147483668 ≤ 2147483656) := q290
    refine x_aload (np := 68) (x := 0) (by decide +kernel) rfl (x_nc_le (by decide)) ?_
    have q291 : h285 75 5 = 79 := by have z := jB (e := 5) 0 j286 rg_75_5_0_1 (by decide) (by decide); omega
    refine x_getR (np := 71) (x := 709) (f := 5) (q := 79) (by decide +kernel) (by decide) (by decide +kernel) q291 ?_
    refine x_aload (np := 72) (x := 0) (by decide +kernel) rfl (x_nc_le (by decide)) ?_
    have q292 : h285 75 6 = h247 75 6 := by rw [← e287]; exact x_up_k (by decide)
    have q293 : h247 75 6 = h211 75 6 := by rw [← e249]; exact x_up_k (by decide)
    have q294 : h211 75 6 = h177 75 6 := by rw [← e213]; exact x_up_k (by decide)
    have q295 : h177 75 6 = h145 75 6 := by rw [← e179]; exact x_up_k (by decide)
    have q296 : h145 75 6 = h114 75 6 := by rw [← e147]; exact x_up_k (by decide)
    have q297 : h114 75 6 = h85 75 6 := by rw [← e116]; exact x_up_k (by decide)
    have q298 : h85 75 6 = h58 75 6 := by rw [← e87]; exact x_up_k (by decide)
    have q299 : h58 75 6 = h31 75 6 := by rw [← e60]; exact x_up_k (by decide)
    have q300 : h31 75 6 = h26 75 6 := by rw [← e33]; exact x_up_k (by decide)
    have q301 : h26 75 6 = h21 75 6 := by rw [← e28]; exact x_up_k (by decide)
    have q302 : h21 75 6 = h16 75 6 := by rw [← e23]; exact x_up_k (by decide)
    have q303 : h16 75 6 = h11 75 6 := by rw [← e18]; exact x_up_k (by decide)
    have q304 : h11 75 6 = h1 75 6 := by rw [← e13]; exact x_up_k (by decide)
    have q305 : h1 75 6 = h 75 6 := by rw [← e3]; exact x_up_i (by first | decide | omega)
    refine x_getC (np := 75) (x := 710) (f := 6) (q := (h 75 6)) (by decide +kernel) (by decide) (by decide +kernel) (((((((((((((q292.trans q293).trans q294).trans q295).trans q296).trans q297).trans q298).trans q299).trans q300).trans q301).trans q302).trans q303).trans q304).trans q305) (fun l306 => ?_)
    refine x_iload (np := 77) (x := 6) (by decide +kernel) rfl (by decide) ?_
    refine x_iadd (np := 78) (x := 0) (v := (8 + (h 75 6))) (by decide +kernel) l7 (by decide) (by first | decide | omega) (by first | decide | omega) ?_
    refine x_aload (np := 79) (x := 0) (by decide +kernel) rfl (x_nc_le (by decide)) ?_
    have q307 : h285 75 12 = 80 := by have z := jB (e := 12) 0 j286 rg_75_12_0_1 (by decide) (by decide); omega
    refine x_getR (np := 82) (x := 716) (f := 12) (q := 80) (by decide +kernel) (by decide) (by decide +kernel) q307 ?_
    refine x_iload (np := 84) (x := 6) (by decide +kernel) rfl (by decide) ?_
    refine x_const (np := 85) (x := 9223372056182128644) (a := 2147483652) (by decide +kernel) (by decide) (by decide) ?_
    refine x_div (np := 86) (i := 8) (j := 4) (by decide +kernel) (by first | decide | omega) (by decide) (by first | decide | omega) (by decide) ?_
    show X _ _ _ _ _ _ _ _ [iv_c 2147483650, x_r 80, iv_c (8 + (h 75 6)), x_r 79] _
    have q308 : h285 80 2 = h247 80 2 := by rw [← e287]; exact x_up_k (by decide)
    have q309 : h247 80 2 = h211 80 2 := by rw [← e249]; exact x_up_k (by decide)
    have q310 : h211 80 2 = h177 80 2 := by rw [← e213]; exact x_up_k (by decide)
    have q311 : h177 80 2 = h145 80 2 := by rw [← e179]; exact x_up_k (by decide)
    have q312 : h145 80 2 = h114 80 2 := by rw [← e147]; exact x_up_k (by decide)
    have q313 : h114 80 2 = h85 80 2 := by rw [← e116]; exact x_up_k (by decide)
    have q314 : h85 80 2 = h58 80 2 := by rw [← e87]; exact x_up_k (by decide)
    have q315 : h58 80 2 = h31 80 2 := by rw [← e60]; exact x_up_k (by decide)
    have q316 : h31 80 2 = h26 80 2 := by rw [← e33]; exact x_up_i (by first | decide | omega)
    have q317 : h26 80 2 = h21 80 2 := by rw [← e28]; exact x_up_i (by first | decide | omega)
    have q318 : h21 80 2 = a3 := by rw [← e23]; exact x_up_at
    refine x_aldC (np := 87) (x := 0) (n := 5) (i := 2) (q := a3) (by decide +kernel) (by decide +kernel) (by first | decide | omega) (by first | decide | omega) (by decide) ((((((((((q308.trans q309).trans q310).trans q311).trans q312).trans q313).trans q314).trans q315).trans q316).trans q317).trans q318) (fun l319 => ?_)
    refine x_const (np := 89) (x := 9223372142081474584) (a := 2147483672) (by decide +kernel) (by decide) (by decide) ?_
    refine x_const (np := 91) (x := 9223372073361997832) (a := 2147483656) (by decide +kernel) (by decide) (by decide) ?_
    refine x_iload (np := 93) (x := 6) (by decide +kernel) rfl (by decide) ?_
    refine x_const (np := 94) (x := 9223372056182128644) (a := 2147483652) (by decide +kernel) (by decide) (by decide) ?_
    refine x_rem (np := 95) (i := 8) (j := 4) (by decide +kernel) (by first | decide | omega) (by decide) (by first | decide | omega) (by decide) ?_
    show X _ _ _ _ _ _ _ _ [iv_c 2147483648, iv_c 2147483656, iv_c 2147483672, iv_c a3, iv_c (8 + (h 75 6)), x_r 79] _
    refine x_imul (np := 96) (x := 0) (i := 8) (j := 0) (v := 2147483648) (by decide +kernel) (by first | decide | omega) (by first | decide | omega) (by first | decide | omega) (by first | decide | omega) (by decide) (by decide) ?_
    refine x_isub (np := 97) (x := 0) (v := 2147483672) (by decide +kernel) (by decide) (by decide) (by first | decide | omega) (by first | decide | omega) ?_
    refine x_shrE (np := 98) (by decide +kernel) la3 (by decide) (fun l321 => ?_)
    refine x_b8 (by rw [tb_b165]; decide +kernel) l321 (fun l322 l323 => ?_)
    refine x_ast (np := 100) (x := 0) (kd := 2) (n := 400) (i := (8 + u56)) (by decide +kernel) (Or.inr rfl) (by decide +kernel) (by first | decide | omega) (by first | decide | omega) (by decide) (by first | decide | omega) (fun _ => by first | decide | omega) ?_
    have j325 := jU (e := (8 + u56)) (v := (b8 (bsh a3 2147483672))) (8 + u56) j286 rg_79_0_1_400 (by first | decide | omega) (by first | decide | omega) (by first | decide | omega)
    have f327 := jF (e := (8 + u56)) (v := (b8 (bsh a3 2147483672))) (8 + u56) f288 rg_79_0_1_400 (by first | decide | omega) (by first | decide | omega) (by decide)
    generalize e326 : x_up h285 79 (8 + u56) (b8 (bsh a3 2147483672)) = h324 at j325 f327 ⊢
    refine x_iinc (np := 103) (i := 6) (j := 2147483649) (v := 2147483657) (lo' := [x_r 75, iv_c a1, iv_c a2, iv_c a3, iv_c a4, iv_c a5, iv_c 2147483657]) (by decide +kernel) (by decide) (by decide) rfl (by decide) (by first | decide | omega) (by first | decide | omega) rfl ?_
    refine x_goto (np := 106) (x := 60) (by decide +kernel) ?_
    refine x_iload (np := 62) (x := 6) (by decide +kernel) rfl (by decide) ?_
    refine x_const (np := 64) (x := 9223372124901605396) (a := 2147483668) (by decide +kernel) (by decide) (by decide) ?_
    refine x_icmp (k := 3) (tg := 106) (np := 67) (by decide +kernel) (by decide) (by decide) (by decide) (fun q328 => ?_) (fun q329 => ?_)
    · have q328 : 2147483668 ≤ 2147483657 := q328
      exfalso; omega
    have q329 : ¬ (2147483668 ≤ 2147483657) := q329
    refine x_aload (np := 68) (x := 0) (by decide +kernel) rfl (x_nc_le (by decide)) ?_
    have q330 : h324 75 5 = 79 := by have z := jB (e := 5) 0 j325 rg_75_5_0_1 (by decide) (by decide); omega
    refine x_getR (np := 71) (x := 709) (f := 5) (q := 79) (by decide +kernel) (by decide) (by decide +kernel) q330 ?_
    refine x_aload (np := 72) (x := 0) (by decide +kernel) rfl (x_nc_le (by decide)) ?_
    have q331 : h324 75 6 = h285 75 6 := by rw [← e326]; exact x_up_k (by decide)
    have q332 : h285 75 6 = h247 75 6 := by rw [← e287]; exact x_up_k (by decide)
    have q333 : h247 75 6 = h211 75 6 := by rw [← e249]; exact x_up_k (by decide)
    have q334 : h211 75 6 = h177 75 6 := by rw [← e213]; exact x_up_k (by decide)
    have q335 : h177 75 6 = h145 75 6 := by rw [← e179]; exact x_up_k (by decide)
    have q336 : h145 75 6 = h114 75 6 := by rw [← e147]; exact x_up_k (by decide)
    have q337 : h114 75 6 = h85 75 6 := by rw [← e116]; exact x_up_k (by decide)
    have q338 : h85 75 6 = h58 75 6 := by rw [← e87]; exact x_up_k (by decide)
    have q339 : h58 75 6 = h31 75 6 := by rw [← e60]; exact x_up_k (by decide)
    have q340 : h31 75 6 = h26 75 6 := by rw [← e33]; exact x_up_k (by decide)
    have q341 : h26 75 6 = h21 75 6 := by rw [← e28]; exact x_up_k (by decide)
    have q342 : h21 75 6 = h16 75 6 := by rw [← e23]; exact x_up_k (by decide)
    have q343 : h16 75 6 = h11 75 6 := by rw [← e18]; exact x_up_k (by decide)
    have q344 : h11 75 6 = h1 75 6 := by rw [← e13]; exact x_up_k (by decide)
    have q345 : h1 75 6 = h 75 6 := by rw [← e3]; exact x_up_i (by first | decide | omega)
    refine x_getC (np := 75) (x := 710) (f := 6) (q := (h 75 6)) (by decide +kernel) (by decide) (by decide +kernel) ((((((((((((((q331.trans q332).trans q333).trans q334).trans q335).trans q336).trans q337).trans q338).trans q339).trans q340).trans q341).trans q342).trans q343).trans q344).trans q345) (fun l346 => ?_)
    refine x_iload (np := 77) (x := 6) (by decide +kernel) rfl (by decide) ?_
    refine x_iadd (np := 78) (x := 0) (v := (9 + (h 75 6))) (by decide +kernel) l7 (by decide) (by first | decide | omega) (by first | decide | omega) ?_
    refine x_aload (np := 79) (x := 0) (by decide +kernel) rfl (x_nc_le (by decide)) ?_
    have q347 : h324 75 12 = 80 := by have z := jB (e := 12) 0 j325 rg_75_12_0_1 (by decide) (by decide); omega
    refine x_getR (np := 82) (x := 716) (f := 12) (q := 80) (by decide +kernel) (by decide) (by decide +kernel) q347 ?_
    refine x_iload (np := 84) (x := 6) (by decide +kernel) rfl (by decide) ?_
    refine x_const (np := 85) (x := 9223372056182128644) (a := 2147483652) (by decide +kernel) (by decide) (by decide) ?_
    refine x_div (np := 86) (i := 9) (j := 4) (by decide +kernel) (by first | decide | omega) (by decide) (by first | decide | omega) (by decide) ?_
    show X _ _ _ _ _ _ _ _ [iv_c 2147483650, x_r 80, iv_c (9 + (h 75 6)), x_r 79] _
    have q348 : h324 80 2 = h285 80 2 := by rw [← e326]; exact x_up_k (by decide)
    have q349 : h285 80 2 = h247 80 2 := by rw [← e287]; exact x_up_k (by decide)
    have q350 : h247 80 2 = h211 80 2 := by rw [← e249]; exact x_up_k (by decide)
    have q351 : h211 80 2 = h177 80 2 := by rw [← e213]; exact x_up_k (by decide)
    have q352 : h177 80 2 = h145 80 2 := by rw [← e179]; exact x_up_k (by decide)
    have q353 : h145 80 2 = h114 80 2 := by rw [← e147]; exact x_up_k (by decide)
    have q354 : h114 80 2 = h85 80 2 := by rw [← e116]; exact x_up_k (by decide)
    have q355 : h85 80 2 = h58 80 2 := by rw [← e87]; exact x_up_k (by decide)
    have q356 : h58 80 2 = h31 80 2 := by rw [← e60]; exact x_up_k (by decide)
    have q357 : h31 80 2 = h26 80 2 := by rw [← e33]; exact x_up_i (by first | decide | omega)
    have q358 : h26 80 2 = h21 80 2 := by rw [← e28]; exact x_up_i (by first | decide | omega)
    have q359 : h21 80 2 = a3 := by rw [← e23]; exact x_up_at
    refine x_aldC (np := 87) (x := 0) (n := 5) (i := 2) (q := a3) (by decide +kernel) (by decide +kernel) (by first | decide | omega) (by first | decide | omega) (by decide) (((((((((((q348.trans q349).trans q350).trans q351).trans q352).trans q353).trans q354).trans q355).trans q356).trans q357).trans q358).trans q359) (fun l360 => ?_)
    refine x_const (np := 89) (x := 9223372142081474584) (a := 2147483672) (by decide +kernel) (by decide) (by decide) ?_
    refine x_const (np := 91) (x := 9223372073361997832) (a := 2147483656) (by decide +kernel) (by decide) (by decide) ?_
    refine x_iload (np := 93) (x := 6) (by decide +kernel) rfl (by decide) ?_
    refine x_const (np := 94) (x := 9223372056182128644) (a := 2147483652) (by decide +kernel) (by decide) (by decide) ?_
    refine x_rem (np := 95) (i := 9) (j := 4) (by decide +kernel) (by first | decide | omega) (by decide) (by first | decide | omega) (by decide) ?_
    show X _ _ _ _ _ _ _ _ [iv_c 2147483649, iv_c 2147483656, iv_c 2147483672, iv_c a3, iv_c (9 + (h 75 6)), x_r 79] _
    refine x_imul (np := 96) (x := 0) (i := 8) (j := 1) (v := 2147483656) (by decide +kernel) (by first | decide | omega) (by first | decide | omega) (by first | decide | omega) (by first | decide | omega) (by decide) (by decide) ?_
    refine x_isub (np := 97) (x := 0) (v := 2147483664) (by decide +kernel) (by decide) (by decide) (by first | decide | omega) (by first | decide | omega) ?_
    refine x_shrE (np := 98) (by decide +kernel) la3 (by decide) (fun l362 => ?_)
    refine x_b8 (by rw [tb_b165]; decide +kernel) l362 (fun l363 l364 => ?_)
    refine x_ast (np := 100) (x := 0) (kd := 2) (n := 400) (i := (9 + u56)) (by decide +kernel) (Or.inr rfl) (by decide +kernel) (by first | decide | omega) (by first | decide | omega) (by decide) (by first | decide | omega) (fun _ => by first | decide | omega) ?_
    have j366 := jU (e := (9 + u56)) (v := (b8 (bsh a3 2147483664))) (9 + u56) j325 rg_79_0_1_400 (by first | decide | omega) (by first | decide | omega) (by first | decide | omega)
    have f368 := jF (e := (9 + u56)) (v := (b8 (bsh a3 2147483664))) (9 + u56) f327 rg_79_0_1_400 (by first | decide | omega) (by first | decide | omega) (by decide)
    generalize e367 : x_up h324 79 (9 + u56) (b8 (bsh a3 2147483664)) = h365 at j366 f368 ⊢
    refine x_iinc (np := 103) (i := 6) (j := 2147483649) (v := 2147483658) (lo' := [x_r 75, iv_c a1, iv_c a2, iv_c a3, iv_c a4, iv_c a5, iv_c 2147483658]) (by decide +kernel) (by decide) (by decide) rfl (by decide) (by first | decide | omega) (by first | decide | omega) rfl ?_
    refine x_goto (np := 106) (x := 60) (by decide +kernel) ?_
    refine x_iload (np := 62) (x := 6) (by decide +kernel) rfl (by decide) ?_
    refine x_const (np := 64) (x := 9223372124901605396) (a := 2147483668) (by decide +kernel) (by decide) (by decide) ?_
    refine x_icmp (k := 3) (tg := 106) (np := 67) (by decide +kernel) (by decide) (by decide) (by decide) (fun q369 => ?_) (fun q370 => ?_)
    · have q369 : 2147483668 ≤ 2147483658 := q369
      exfalso; omega
    have q370 : ¬ (2147483668 ≤ 2147483658) := q370
    refine x_aload (np := 68) (x := 0) (by decide +kernel) rfl (x_nc_le (by decide)) ?_
    have q371 : h365 75 5 = 79 := by have z := jB (e := 5) 0 j366 rg_75_5_0_1 (by decide) (by decide); omega
    refine x_getR (np := 71) (x := 709) (f := 5) (q := 79) (by decide +kernel) (by decide) (by decide +kernel) q371 ?_
    refine x_aload (np := 72) (x := 0) (by decide +kernel) rfl (x_nc_le (by decide)) ?_
    have q372 : h365 75 6 = h324 75 6 := by rw [← e367]; exact x_up_k (by decide)
    have q373 : h324 75 6 = h285 75 6 := by rw [← e326]; exact x_up_k (by decide)
    have q374 : h285 75 6 = h247 75 6 := by rw [← e287]; exact x_up_k (by decide)
    have q375 : h247 75 6 = h211 75 6 := by rw [← e249]; exact x_up_k (by decide)
    have q376 : h211 75 6 = h177 75 6 := by rw [← e213]; exact x_up_k (by decide)
    have q377 : h177 75 6 = h145 75 6 := by rw [← e179]; exact x_up_k (by decide)
    have q378 : h145 75 6 = h114 75 6 := by rw [← e147]; exact x_up_k (by decide)
    have q379 : h114 75 6 = h85 75 6 := by rw [← e116]; exact x_up_k (by decide)
    have q380 : h85 75 6 = h58 75 6 := by rw [← e87]; exact x_up_k (by decide)
    have q381 : h58 75 6 = h31 75 6 := by rw [← e60]; exact x_up_k (by decide)
    have q382 : h31 75 6 = h26 75 6 := by rw [← e33]; exact x_up_k (by decide)
    have q383 : h26 75 6 = h21 75 6 := by rw [← e28]; exact x_up_k (by decide)
    have q384 : h21 75 6 = h16 75 6 := by rw [← e23]; exact x_up_k (by decide)
    have q385 : h16 75 6 = h11 75 6 := by rw [← e18]; exact x_up_k (by decide)
    have q386 : h11 75 6 = h1 75 6 := by rw [← e13]; exact x_up_k (by decide)
    have q387 : h1 75 6 = h 75 6 := by rw [← e3]; exact x_up_i (by first | decide | omega)
    refine x_getC (np := 75) (x := 710) (f := 6) (q := (h 75 6)) (by decide +kernel) (by decide) (by decide +kernel) (((((((((((((((q372.trans q373).trans q374).trans q375).trans q376).trans q377).trans q378).trans q379).trans q380).trans q381).trans q382).trans q383).trans q384).trans q385).trans q386).trans q387) (fun l388 => ?_)
    refine x_iload (np := 77) (x := 6) (by decide +kernel) rfl (by decide) ?_
    refine x_iadd (np := 78) (x := 0) (v := (10 + (h 75 6))) (by decide +kernel) l7 (by decide) (by first | decide | omega) (by first | decide | omega) ?_
    refine x_aload (np := 79) (x := 0) (by decide +kernel) rfl (x_nc_le (by decide)) ?_
    have q389 : h365 75 12 = 80 := by have z := jB (e := 12) 0 j366 rg_75_12_0_1 (by decide) (by decide); omega
    refine x_getR (np := 82) (x := 716) (f := 12) (q := 80) (by decide +kernel) (by decide) (by decide +kernel) q389 ?_
    refine x_iload (np := 84) (x := 6) (by decide +kernel) rfl (by decide) ?_
    refine x_const (np := 85) (x := 9223372056182128644) (a := 2147483652) (by decide +kernel) (by decide) (by decide) ?_
    refine x_div (np := 86) (i := 10) (j := 4) (by decide +kernel) (by first | decide | omega) (by decide) (by first | decide | omega) (by decide) ?_
    show X _ _ _ _ _ _ _ _ [iv_c 2147483650, x_r 80, iv_c (10 + (h 75 6)), x_r 79] _
    have q390 : h365 80 2 = h324 80 2 := by rw [← e367]; exact x_up_k (by decide)
    have q391 : h324 80 2 = h285 80 2 := by rw [← e326]; exact x_up_k (by decide)
    have q392 : h285 80 2 = h247 80 2 := by rw [← e287]; exact x_up_k (by decide)
    have q393 : h247 80 2 = h211 80 2 := by rw [← e249]; exact x_up_k (by decide)
    have q394 : h211 80 2 = h177 80 2 := by rw [← e213]; exact x_up_k (by decide)
    have q395 : h177 80 2 = h145 80 2 := by rw [← e179]; exact x_up_k (by decide)
    have q396 : h145 80 2 = h114 80 2 := by rw [← e147]; exact x_up_k (by decide)
    have q397 : h114 80 2 = h85 80 2 := by rw [← e116]; exact x_up_k (by decide)
    have q398 : h85 80 2 = h58 80 2 := by rw [← e87]; exact x_up_k (by decide)
    have q399 : h58 80 2 = h31 80 2 := by rw [← e60]; exact x_up_k (by decide)
    have q400 : h31 80 2 = h26 80 2 := by rw [← e33]; exact x_up_i (by first | decide | omega)
    have q401 : h26 80 2 = h21 80 2 := by rw [← e28]; exact x_up_i (by first | decide | omega)
    have q402 : h21 80 2 = a3 := by rw [← e23]; exact x_up_at
    refine x_aldC (np := 87) (x := 0) (n := 5) (i := 2) (q := a3) (by decide +kernel) (by decide +kernel) (by first | decide | omega) (by first | decide | omega) (by decide) ((((((((((((q390.trans q391).trans q392).trans q393).trans q394).trans q395).trans q396).trans q397).trans q398).trans q399).trans q400).trans q401).trans q402) (fun l403 => ?_)
    refine x_const (np := 89) (x := 9223372142081474584) (a := 2147483672) (by decide +kernel) (by decide) (by decide) ?_
    refine x_const (np := 91) (x := 9223372073361997832) (a := 2147483656) (by decide +kernel) (by decide) (by decide) ?_
    refine x_iload (np := 93) (x := 6) (by decide +kernel) rfl (by decide) ?_
    refine x_const (np := 94) (x := 9223372056182128644) (a := 2147483652) (by decide +kernel) (by decide) (by decide) ?_
    refine x_rem (np := 95) (i := 10) (j := 4) (by decide +kernel) (by first | decide | omega) (by decide) (by first | decide | omega) (by decide) ?_
    show X _ _ _ _ _ _ _ _ [iv_c 2147483650, iv_c 2147483656, iv_c 2147483672, iv_c a3, iv_c (10 + (h 75 6)), x_r 79] _
    refine x_imul (np := 96) (x := 0) (i := 8) (j := 2) (v := 2147483664) (by decide +kernel) (by first | decide | omega) (by first | decide | omega) (by first | decide | omega) (by first | decide | omega) (by decide) (by decide) ?_
    refine x_isub (np := 97) (x := 0) (v := 2147483656) (by decide +kernel) (by decide) (by decide) (by first | decide | omega) (by first | decide | omega) ?_
    refine x_shrE (np := 98) (by decide +kernel) la3 (by decide) (fun l405 => ?_)
    refine x_b8 (by rw [tb_b165]; decide +kernel) l405 (fun l406 l407 => ?_)
    refine x_ast (np := 100) (x := 0) (kd := 2) (n := 400) (i := (10 + u56)) (by decide +kernel) (Or.inr rfl) (by decide +kernel) (by first | decide | omega) (by first | decide | omega) (by decide) (by first | decide | omega) (fun _ => by first | decide | omega) ?_
    have j409 := jU (e := (10 + u56)) (v := (b8 (bsh a3 2147483656))) (10 + u56) j366 rg_79_0_1_400 (by first | decide | omega) (by first | decide | omega) (by first | decide | omega)
    have f411 := jF (e := (10 + u56)) (v := (b8 (bsh a3 2147483656))) (10 + u56) f368 rg_79_0_1_400 (by first | decide | omega) (by first | decide | omega) (by decide)
    generalize e410 : x_up h365 79 (10 + u56) (b8 (bsh a3 2147483656)) = h408 at j409 f411 ⊢
    refine x_iinc (np := 103) (i := 6) (j := 2147483649) (v := 2147483659) (lo' := [x_r 75, iv_c a1, iv_c a2, iv_c a3, iv_c a4, iv_c a5, iv_c 2147483659]) (by decide +kernel) (by decide) (by decide) rfl (by decide) (by first | decide | omega) (by first | decide | omega) rfl ?_
    refine x_goto (np := 106) (x := 60) (by decide +kernel) ?_
    refine x_iload (np := 62) (x := 6) (by decide +kernel) rfl (by decide) ?_
    refine x_const (np := 64) (x := 9223372124901605396) (a := 2147483668) (by decide +kernel) (by decide) (by decide) ?_
    refine x_icmp (k := 3) (tg := 106) (np := 67) (by decide +kernel) (by decide) (by decide) (by decide) (fun q412 => ?_) (fun q413 => ?_)
    · have q412 : 2147483668 ≤ 2147483659 := q412
      exfalso; omega
    have q413 : ¬ (2147483668 ≤ 2147483659) := q413
    refine x_aload (np := 68) (x := 0) (by decide +kernel) rfl (x_nc_le (by decide)) ?_
    have q414 : h408 75 5 = 79 := by have z := jB (e := 5) 0 j409 rg_75_5_0_1 (by decide) (by decide); omega
    refine x_getR (np := 71) (x := 709) (f := 5) (q := 79) (by decide +kernel) (by decide) (by decide +kernel) q414 ?_
    refine x_aload (np := 72) (x := 0) (by decide +kernel) rfl (x_nc_le (by decide)) ?_
    have q415 : h408 75 6 = h365 75 6 := by rw [← e410]; exact x_up_k (by decide)
    have q416 : h365 75 6 = h324 75 6 := by rw [← e367]; exact x_up_k (by decide)
    have q417 : h324 75 6 = h285 75 6 := by rw [← e326]; exact x_up_k (by decide)
    have q418 : h285 75 6 = h247 75 6 := by rw [← e287]; exact x_up_k (by decide)
    have q419 : h247 75 6 = h211 75 6 := by rw [← e249]; exact x_up_k (by decide)
    have q420 : h211 75 6 = h177 75 6 := by rw [← e213]; exact x_up_k (by decide)
    have q421 : h177 75 6 = h145 75 6 := by rw [← e179]; exact x_up_k (by decide)
    have q422 : h145 75 6 = h114 75 6 := by rw [← e147]; exact x_up_k (by decide)
    have q423 : h114 75 6 = h85 75 6 := by rw [← e116]; exact x_up_k (by decide)
    have q424 : h85 75 6 = h58 75 6 := by rw [← e87]; exact x_up_k (by decide)
    have q425 : h58 75 6 = h31 75 6 := by rw [← e60]; exact x_up_k (by decide)
    have q426 : h31 75 6 = h26 75 6 := by rw [← e33]; exact x_up_k (by decide)
    have q427 : h26 75 6 = h21 75 6 := by rw [← e28]; exact x_up_k (by decide)
    have q428 : h21 75 6 = h16 75 6 := by rw [← e23]; exact x_up_k (by decide)
    have q429 : h16 75 6 = h11 75 6 := by rw [← e18]; exact x_up_k (by decide)
    have q430 : h11 75 6 = h1 75 6 := by rw [← e13]; exact x_up_k (by decide)
    have q431 : h1 75 6 = h 75 6 := by rw [← e3]; exact x_up_i (by first | decide | omega)
    refine x_getC (np := 75) (x := 710) (f := 6) (q := (h 75 6)) (by decide +kernel) (by decide) (by decide +kernel) ((((((((((((((((q415.trans q416).trans q417).trans q418).trans q419).trans q420).trans q421).trans q422).trans q423).trans q424).trans q425).trans q426).trans q427).trans q428).trans q429).trans q430).trans q431) (fun l432 => ?_)
    refine x_iload (np := 77) (x := 6) (by decide +kernel) rfl (by decide) ?_
    refine x_iadd (np := 78) (x := 0) (v := (11 + (h 75 6))) (by decide +kernel) l7 (by decide) (by first | decide | omega) (by first | decide | omega) ?_
    refine x_aload (np := 79) (x := 0) (by decide +kernel) rfl (x_nc_le (by decide)) ?_
    have q433 : h408 75 12 = 80 := by have z := jB (e := 12) 0 j409 rg_75_12_0_1 (by decide) (by decide); omega
    refine x_getR (np := 82) (x := 716) (f := 12) (q := 80) (by decide +kernel) (by decide) (by decide +kernel) q433 ?_
    refine x_iload (np := 84) (x := 6) (by decide +kernel) rfl (by decide) ?_
    refine x_const (np := 85) (x := 9223372056182128644) (a := 2147483652) (by decide +kernel) (by decide) (by decide) ?_
    refine x_div (np := 86) (i := 11) (j := 4) (by decide +kernel) (by first | decide | omega) (by decide) (by first | decide | omega) (by decide) ?_
    show X _ _ _ _ _ _ _ _ [iv_c 2147483650, x_r 80, iv_c (11 + (h 75 6)), x_r 79] _
    have q434 : h408 80 2 = h365 80 2 := by rw [← e410]; exact x_up_k (by decide)
    have q435 : h365 80 2 = h324 80 2 := by rw [← e367]; exact x_up_k (by decide)
    have q436 : h324 80 2 = h285 80 2 := by rw [← e326]; exact x_up_k (by decide)
    have q437 : h285 80 2 = h247 80 2 := by rw [← e287]; exact x_up_k (by decide)
    have q438 : h247 80 2 = h211 80 2 := by rw [← e249]; exact x_up_k (by decide)
    have q439 : h211 80 2 = h177 80 2 := by rw [← e213]; exact x_up_k (by decide)
    have q440 : h177 80 2 = h145 80 2 := by rw [← e179]; exact x_up_k (by decide)
    have q441 : h145 80 2 = h114 80 2 := by rw [← e147]; exact x_up_k (by decide)
    have q442 : h114 80 2 = h85 80 2 := by rw [← e116]; exact x_up_k (by decide)
    have q443 : h85 80 2 = h58 80 2 := by rw [← e87]; exact x_up_k (by decide)
    have q444 : h58 80 2 = h31 80 2 := by rw [← e60]; exact x_up_k (by decide)
    have q445 : h31 80 2 = h26 80 2 := by rw [← e33]; exact x_up_i (by first | decide | omega)
    have q446 : h26 80 2 = h21 80 2 := by rw [← e28]; exact x_up_i (by first | decide | omega)
    have q447 : h21 80 2 = a3 := by rw [← e23]; exact x_up_at
    refine x_aldC (np := 87) (x := 0) (n := 5) (i := 2) (q := a3) (by decide +kernel) (by decide +kernel) (by first | decide | omega) (by first | decide | omega) (by decide) (((((((((((((q434.trans q435).trans q436).trans q437).trans q438).trans q439).trans q440).trans q441).trans q442).trans q443).trans q444).trans q445).trans q446).trans q447) (fun l448 => ?_)
    refine x_const (np := 89) (x := 9223372142081474584) (a := 2147483672) (by decide +kernel) (by decide) (by decide) ?_
    refine x_const (np := 91) (x := 9223372073361997832) (a := 2147483656) (by decide +kernel) (by decide) (by decide) ?_
    refine x_iload (np := 93) (x := 6) (by decide +kernel) rfl (by decide) ?_
    refine x_const (np := 94) (x := 9223372056182128644) (a := 2147483652) (by decide +kernel) (by decide) (by decide) ?_
    refine x_rem (np := 95) (i := 11) (j := 4) (by decide +kernel) (by first | decide | omega) (by decide) (by first | decide | omega) (by decide) ?_
    show X _ _ _ _ _ _ _ _ [iv_c 2147483651, iv_c 2147483656, iv_c 2147483672, iv_c a3, iv_c (11 + (h 75 6)), x_r 79] _
    refine x_imul (np := 96) (x := 0) (i := 8) (j := 3) (v := 2147483672) (by decide +kernel) (by first | decide | omega) (by first | decide | omega) (by first | decide | omega) (by first | decide | omega) (by decide) (by decide) ?_
    refine x_isub (np := 97) (x := 0) (v := 2147483648) (by decide +kernel) (by decide) (by decide) (by first | decide | omega) (by first | decide | omega) ?_
    refine x_shrE (np := 98) (by decide +kernel) la3 (by decide) (fun l450 => ?_)
    refine x_b8 (by rw [tb_b165]; decide +kernel) l450 (fun l451 l452 => ?_)
    refine x_ast (np := 100) (x := 0) (kd := 2) (n := 400) (i := (11 + u56)) (by decide +kernel) (Or.inr rfl) (by decide +kernel) (by first | decide | omega) (by first | decide | omega) (by decide) (by first | decide | omega) (fun _ => by first | decide | omega) ?_
    have j454 := jU (e := (11 + u56)) (v := (b8 (bsh a3 2147483648))) (11 + u56) j409 rg_79_0_1_400 (by first | decide | omega) (by first | decide | omega) (by first | decide | omega)
    have f456 := jF (e := (11 + u56)) (v := (b8 (bsh a3 2147483648))) (11 + u56) f411 rg_79_0_1_400 (by first | decide | omega) (by first | decide | omega) (by decide)
    generalize e455 : x_up h408 79 (11 + u56) (b8 (bsh a3 2147483648)) = h453 at j454 f456 ⊢
    refine x_iinc (np := 103) (i := 6) (j := 2147483649) (v := 2147483660) (lo' := [x_r 75, iv_c a1, iv_c a2, iv_c a3, iv_c a4, iv_c a5, iv_c 2147483660]) (by decide +kernel) (by decide) (by decide) rfl (by decide) (by first | decide | omega) (by first | decide | omega) rfl ?_
    refine x_goto (np := 106) (x := 60) (by decide +kernel) ?_
    refine x_iload (np := 62) (x := 6) (by decide +kernel) rfl (by decide) ?_
    refine x_const (np := 64) (x := 9223372124901605396) (a := 2147483668) (by decide +kernel) (by decide) (by decide) ?_
    refine x_icmp (k := 3) (tg := 106) (np := 67) (by decide +kernel) (by decide) (by decide) (by decide) (fun q457 => ?_) (fun q458 => ?_)
    · have q457 : 2147483668 ≤ 2147483660 := q457
      exfalso; omega
    have q458 : ¬ (2147483668 ≤ 2147483660) := q458
    refine x_aload (np := 68) (x := 0) (by decide +kernel) rfl (x_nc_le (by decide)) ?_
    have q459 : h453 75 5 = 79 := by have z := jB (e := 5) 0 j454 rg_75_5_0_1 (by decide) (by decide); omega
    refine x_getR (np := 71) (x := 709) (f := 5) (q := 79) (by decide +kernel) (by decide) (by decide +kernel) q459 ?_
    refine x_aload (np := 72) (x := 0) (by decide +kernel) rfl (x_nc_le (by decide)) ?_
    have q460 : h453 75 6 = h408 75 6 := by rw [← e455]; exact x_up_k (by decide)
    have q461 : h408 75 6 = h365 75 6 := by rw [← e410]; exact x_up_k (by decide)
    have q462 : h365 75 6 = h324 75 6 := by rw [← e367]; exact x_up_k (by decide)
    have q463 : h324 75 6 = h285 75 6 := by rw [← e326]; exact x_up_k (by decide)
    have q464 : h285 75 6 = h247 75 6 := by rw [← e287]; exact x_up_k (by decide)
    have q465 : h247 75 6 = h211 75 6 := by rw [← e249]; exact x_up_k (by decide)
    have q466 : h211 75 6 = h177 75 6 := by rw [← e213]; exact x_up_k (by decide)
    have q467 : h177 75 6 = h145 75 6 := by rw [← e179]; exact x_up_k (by decide)
    have q468 : h145 75 6 = h114 75 6 := by rw [← e147]; exact x_up_k (by decide)
    have q469 : h114 75 6 = h85 75 6 := by rw [← e116]; exact x_up_k (by decide)
    have q470 : h85 75 6 = h58 75 6 := by rw [← e87]; exact x_up_k (by decide)
    have q471 : h58 75 6 = h31 75 6 := by rw [← e60]; exact x_up_k (by decide)
    have q472 : h31 75 6 = h26 75 6 := by rw [← e33]; exact x_up_k (by decide)
    have q473 : h26 75 6 = h21 75 6 := by rw [← e28]; exact x_up_k (by decide)
    have q474 : h21 75 6 = h16 75 6 := by rw [← e23]; exact x_up_k (by decide)
    have q475 : h16 75 6 = h11 75 6 := by rw [← e18]; exact x_up_k (by decide)
    have q476 : h11 75 6 = h1 75 6 := by rw [← e13]; exact x_up_k (by decide)
    have q477 : h1 75 6 = h 75 6 := by rw [← e3]; exact x_up_i (by first | decide | omega)
    refine x_getC (np := 75) (x := 710) (f := 6) (q := (h 75 6)) (by decide +kernel) (by decide) (by decide +kernel) (((((((((((((((((q460.trans q461).trans q462).trans q463).trans q464).trans q465).trans q466).trans q467).trans q468).trans q469).trans q470).trans q471).trans q472).trans q473).trans q474).trans q475).trans q476).trans q477) (fun l478 => ?_)
    refine x_iload (np := 77) (x := 6) (by decide +kernel) rfl (by decide) ?_
    refine x_iadd (np := 78) (x := 0) (v := (12 + (h 75 6))) (by decide +kernel) l7 (by decide) (by first | decide | omega) (by first | decide | omega) ?_
    refine x_aload (np := 79) (x := 0) (by decide +kernel) rfl (x_nc_le (by decide)) ?_
    have q479 : h453 75 12 = 80 := by have z := jB (e := 12) 0 j454 rg_75_12_0_1 (by decide) (by decide); omega
    refine x_getR (np := 82) (x := 716) (f := 12) (q := 80) (by decide +kernel) (by decide) (by decide +kernel) q479 ?_
    refine x_iload (np := 84) (x := 6) (by decide +kernel) rfl (by decide) ?_
    refine x_const (np := 85) (x := 9223372056182128644) (a := 2147483652) (by decide +kernel) (by decide) (by decide) ?_
    refine x_div (np := 86) (i := 12) (j := 4) (by decide +kernel) (by first | decide | omega) (by decide) (by first | decide | omega) (by decide) ?_
    show X _ _ _ _ _ _ _ _ [iv_c 2147483651, x_r 80, iv_c (12 + (h 75 6)), x_r 79] _
    have q480 : h453 80 3 = h408 80 3 := by rw [← e455]; exact x_up_k (by decide)
    have q481 : h408 80 3 = h365 80 3 := by rw [← e410]; exact x_up_k (by decide)
    have q482 : h365 80 3 = h324 80 3 := by rw [← e367]; exact x_up_k (by decide)
    have q483 : h324 80 3 = h285 80 3 := by rw [← e326]; exact x_up_k (by decide)
    have q484 : h285 80 3 = h247 80 3 := by rw [← e287]; exact x_up_k (by decide)
    have q485 : h247 80 3 = h211 80 3 := by rw [← e249]; exact x_up_k (by decide)
    have q486 : h211 80 3 = h177 80 3 := by rw [← e213]; exact x_up_k (by decide)
    have q487 : h177 80 3 = h145 80 3 := by rw [← e179]; exact x_up_k (by decide)
    have q488 : h145 80 3 = h114 80 3 := by rw [← e147]; exact x_up_k (by decide)
    have q489 : h114 80 3 = h85 80 3 := by rw [← e116]; exact x_up_k (by decide)
    have q490 : h85 80 3 = h58 80 3 := by rw [← e87]; exact x_up_k (by decide)
    have q491 : h58 80 3 = h31 80 3 := by rw [← e60]; exact x_up_k (by decide)
    have q492 : h31 80 3 = h26 80 3 := by rw [← e33]; exact x_up_i (by first | decide | omega)
    have q493 : h26 80 3 = a4 := by rw [← e28]; exact x_up_at
    refine x_aldC (np := 87) (x := 0) (n := 5) (i := 3) (q := a4) (by decide +kernel) (by decide +kernel) (by first | decide | omega) (by first | decide | omega) (by decide) (((((((((((((q480.trans q481).trans q482).trans q483).trans q484).trans q485).trans q486).trans q487).trans q488).trans q489).trans q490).trans q491).trans q492).trans q493) (fun l494 => ?_)
    refine x_const (np := 89) (x := 9223372142081474584) (a := 2147483672) (by decide +kernel) (by decide) (by decide) ?_
    refine x_const (np := 91) (x := 9223372073361997832) (a := 2147483656) (by decide +kernel) (by decide) (by decide) ?_
    refine x_iload (np := 93) (x := 6) (by decide +kernel) rfl (by decide) ?_
    refine x_const (np := 94) (x := 9223372056182128644) (a := 2147483652) (by decide +kernel) (by decide) (by decide) ?_
    refine x_rem (np := 95) (i := 12) (j := 4) (by decide +kernel) (by first | decide | omega) (by decide) (by first | decide | omega) (by decide) ?_
    show X _ _ _ _ _ _ _ _ [iv_c 2147483648, iv_c 2147483656, iv_c 2147483672, iv_c a4, iv_c (12 + (h 75 6)), x_r 79] _
    refine x_imul (np := 96) (x := 0) (i := 8) (j := 0) (v := 2147483648) (by decide +kernel) (by first | decide | omega) (by first | decide | omega) (by first | decide | omega) (by first | decide | omega) (by decide) (by decide) ?_
    refine x_isub (np := 97) (x := 0) (v := 2147483672) (by decide +kernel) (by decide) (by decide) (by first | decide | omega) (by first | decide | omega) ?_
    refine x_shrE (np := 98) (by decide +kernel) la4 (by decide) (fun l496 => ?_)
    refine x_b8 (by rw [tb_b165]; decide +kernel) l496 (fun l497 l498 => ?_)
    refine x_ast (np := 100) (x := 0) (kd := 2) (n := 400) (i := (12 + u56)) (by decide +kernel) (Or.inr rfl) (by decide +kernel) (by first | decide | omega) (by first | decide | omega) (by decide) (by first | decide | omega) (fun _ => by first | decide | omega) ?_
    have j500 := jU (e := (12 + u56)) (v := (b8 (bsh a4 2147483672))) (12 + u56) j454 rg_79_0_1_400 (by first | decide | omega) (by first | decide | omega) (by first | decide | omega)
    have f502 := jF (e := (12 + u56)) (v := (b8 (bsh a4 2147483672))) (12 + u56) f456 rg_79_0_1_400 (by first | decide | omega) (by first | decide | omega) (by decide)
    generalize e501 : x_up h453 79 (12 + u56) (b8 (bsh a4 2147483672)) = h499 at j500 f502 ⊢
    refine x_iinc (np := 103) (i := 6) (j := 2147483649) (v := 2147483661) (lo' := [x_r 75, iv_c a1, iv_c a2, iv_c a3, iv_c a4, iv_c a5, iv_c 2147483661]) (by decide +kernel) (by decide) (by decide) rfl (by decide) (by first | decide | omega) (by first | decide | omega) rfl ?_
    refine x_goto (np := 106) (x := 60) (by decide +kernel) ?_
    refine x_iload (np := 62) (x := 6) (by decide +kernel) rfl (by decide) ?_
    refine x_const (np := 64) (x := 9223372124901605396) (a := 2147483668) (by decide +kernel) (by decide) (by decide) ?_
    refine x_icmp (k := 3) (tg := 106) (np := 67) (by decide +kernel) (by decide) (by decide) (by decide) (fun q503 => ?_) (fun q504 => ?_)
    · have q503 : 2147483668 ≤ 2147483661 := q503
      exfalso; omega
    have q504 : ¬ (2147483668 ≤ 2147483661) := q504
    refine x_aload (np := 68) (x := 0) (by decide +kernel) rfl (x_nc_le (by decide)) ?_
    have q505 : h499 75 5 = 79 := by have z := jB (e := 5) 0 j500 rg_75_5_0_1 (by decide) (by decide); omega
    refine x_getR (np := 71) (x := 709) (f := 5) (q := 79) (by decide +kernel) (by decide) (by decide +kernel) q505 ?_
    refine x_aload (np := 72) (x := 0) (by decide +kernel) rfl (x_nc_le (by decide)) ?_
    have q506 : h499 75 6 = h453 75 6 := by rw [← e501]; exact x_up_k (by decide)
    have q507 : h453 75 6 = h408 75 6 := by rw [← e455]; exact x_up_k (by decide)
    have q508 : h408 75 6 = h365 75 6 := by rw [← e410]; exact x_up_k (by decide)
    have q509 : h365 75 6 = h324 75 6 := by rw [← e367]; exact x_up_k (by decide)
    have q510 : h324 75 6 = h285 75 6 := by rw [← e326]; exact x_up_k (by decide)
    have q511 : h285 75 6 = h247 75 6 := by rw [← e287]; exact x_up_k (by decide)
    have q512 : h247 75 6 = h211 75 6 := by rw [← e249]; exact x_up_k (by decide)
    have q513 : h211 75 6 = h177 75 6 := by rw [← e213]; exact x_up_k (by decide)
    have q514 : h177 75 6 = h145 75 6 := by rw [← e179]; exact x_up_k (by decide)
    have q515 : h145 75 6 = h114 75 6 := by rw [← e147]; exact x_up_k (by decide)
    have q516 : h114 75 6 = h85 75 6 := by rw [← e116]; exact x_up_k (by decide)
    have q517 : h85 75 6 = h58 75 6 := by rw [← e87]; exact x_up_k (by decide)
    have q518 : h58 75 6 = h31 75 6 := by rw [← e60]; exact x_up_k (by decide)
    have q519 : h31 75 6 = h26 75 6 := by rw [← e33]; exact x_up_k (by decide)
    have q520 : h26 75 6 = h21 75 6 := by rw [← e28]; exact x_up_k (by decide)
    have q521 : h21 75 6 = h16 75 6 := by rw [← e23]; exact x_up_k (by decide)
    have q522 : h16 75 6 = h11 75 6 := by rw [← e18]; exact x_up_k (by decide)
    have q523 : h11 75 6 = h1 75 6 := by rw [← e13]; exact x_up_k (by decide)
    have q524 : h1 75 6 = h 75 6 := by rw [← e3]; exact x_up_i (by first | decide | omega)
    refine x_getC (np := 75) (x := 710) (f := 6) (q := (h 75 6)) (by decide +kernel) (by decide) (by decide +kernel) ((((((((((((((((((q506.trans q507).trans q508).trans q509).trans q510).trans q511).trans q512).trans q513).trans q514).trans q515).trans q516).trans q517).trans q518).trans q519).trans q520).trans q521).trans q522).trans q523).trans q524) (fun l525 => ?_)
    refine x_iload (np := 77) (x := 6) (by decide +kernel) rfl (by decide) ?_
    refine x_iadd (np := 78) (x := 0) (v := (13 + (h 75 6))) (by decide +kernel) l7 (by decide) (by first | decide | omega) (by first | decide | omega) ?_
    refine x_aload (np := 79) (x := 0) (by decide +kernel) rfl (x_nc_le (by decide)) ?_
    have q526 : h499 75 12 = 80 := by have z := jB (e := 12) 0 j500 rg_75_12_0_1 (by decide) (by decide); omega
    refine x_getR (np := 82) (x := 716) (f := 12) (q := 80) (by decide +kernel) (by decide) (by decide +kernel) q526 ?_
    refine x_iload (np := 84) (x := 6) (by decide +kernel) rfl (by decide) ?_
    refine x_const (np := 85) (x := 9223372056182128644) (a := 2147483652) (by decide +kernel) (by decide) (by decide) ?_
    refine x_div (np := 86) (i := 13) (j := 4) (by decide +kernel) (by first | decide | omega) (by decide) (by first | decide | omega) (by decide) ?_
    show X _ _ _ _ _ _ _ _ [iv_c 2147483651, x_r 80, iv_c (13 + (h 75 6)), x_r 79] _
    have q527 : h499 80 3 = h453 80 3 := by rw [← e501]; exact x_up_k (by decide)
    have q528 : h453 80 3 = h408 80 3 := by rw [← e455]; exact x_up_k (by decide)
    have q529 : h408 80 3 = h365 80 3 := by rw [← e410]; exact x_up_k (by decide)
    have q530 : h365 80 3 = h324 80 3 := by rw [← e367]; exact x_up_k (by decide)
    have q531 : h324 80 3 = h285 80 3 := by rw [← e326]; exact x_up_k (by decide)
    have q532 : h285 80 3 = h247 80 3 := by rw [← e287]; exact x_up_k (by decide)
    have q533 : h247 80 3 = h211 80 3 := by rw [← e249]; exact x_up_k (by decide)
    have q534 : h211 80 3 = h177 80 3 := by rw [← e213]; exact x_up_k (by decide)
    have q535 : h177 80 3 = h145 80 3 := by rw [← e179]; exact x_up_k (by decide)
    have q536 : h145 80 3 = h114 80 3 := by rw [← e147]; exact x_up_k (by decide)
    have q537 : h114 80 3 = h85 80 3 := by rw [← e116]; exact x_up_k (by decide)
    have q538 : h85 80 3 = h58 80 3 := by rw [← e87]; exact x_up_k (by decide)
    have q539 : h58 80 3 = h31 80 3 := by rw [← e60]; exact x_up_k (by decide)
    have q540 : h31 80 3 = h26 80 3 := by rw [← e33]; exact x_up_i (by first | decide | omega)
    have q541 : h26 80 3 = a4 := by rw [← e28]; exact x_up_at
    refine x_aldC (np := 87) (x := 0) (n := 5) (i := 3) (q := a4) (by decide +kernel) (by decide +kernel) (by first | decide | omega) (by first | decide | omega) (by decide) ((((((((((((((q527.trans q528).trans q529).trans q530).trans q531).trans q532).trans q533).trans q534).trans q535).trans q536).trans q537).trans q538).trans q539).trans q540).trans q541) (fun l542 => ?_)
    refine x_const (np := 89) (x := 9223372142081474584) (a := 2147483672) (by decide +kernel) (by decide) (by decide) ?_
    refine x_const (np := 91) (x := 9223372073361997832) (a := 2147483656) (by decide +kernel) (by decide) (by decide) ?_
    refine x_iload (np := 93) (x := 6) (by decide +kernel) rfl (by decide) ?_
    refine x_const (np := 94) (x := 9223372056182128644) (a := 2147483652) (by decide +kernel) (by decide) (by decide) ?_
    refine x_rem (np := 95) (i := 13) (j := 4) (by decide +kernel) (by first | decide | omega) (by decide) (by first | decide | omega) (by decide) ?_
    show X _ _ _ _ _ _ _ _ [iv_c 2147483649, iv_c 2147483656, iv_c 2147483672, iv_c a4, iv_c (13 + (h 75 6)), x_r 79] _
    refine x_imul (np := 96) (x := 0) (i := 8) (j := 1) (v := 2147483656) (by decide +kernel) (by first | decide | omega) (by first | decide | omega) (by first | decide | omega) (by first | decide | omega) (by decide) (by decide) ?_
    refine x_isub (np := 97) (x := 0) (v := 2147483664) (by decide +kernel) (by decide) (by decide) (by first | decide | omega) (by first | decide | omega) ?_
    refine x_shrE (np := 98) (by decide +kernel) la4 (by decide) (fun l544 => ?_)
    refine x_b8 (by rw [tb_b165]; decide +kernel) l544 (fun l545 l546 => ?_)
    refine x_ast (np := 100) (x := 0) (kd := 2) (n := 400) (i := (13 + u56)) (by decide +kernel) (Or.inr rfl) (by decide +kernel) (by first | decide | omega) (by first | decide | omega) (by decide) (by first | decide | omega) (fun _ => by first | decide | omega) ?_
    have j548 := jU (e := (13 + u56)) (v := (b8 (bsh a4 2147483664))) (13 + u56) j500 rg_79_0_1_400 (by first | decide | omega) (by first | decide | omega) (by first | decide | omega)
    have f550 := jF (e := (13 + u56)) (v := (b8 (bsh a4 2147483664))) (13 + u56) f502 rg_79_0_1_400 (by first | decide | omega) (by first | decide | omega) (by decide)
    generalize e549 : x_up h499 79 (13 + u56) (b8 (bsh a4 2147483664)) = h547 at j548 f550 ⊢
    refine x_iinc (np := 103) (i := 6) (j := 2147483649) (v := 2147483662) (lo' := [x_r 75, iv_c a1, iv_c a2, iv_c a3, iv_c a4, iv_c a5, iv_c 2147483662]) (by decide +kernel) (by decide) (by decide) rfl (by decide) (by first | decide | omega) (by first | decide | omega) rfl ?_
    refine x_goto (np := 106) (x := 60) (by decide +kernel) ?_
    refine x_iload (np := 62) (x := 6) (by decide +kernel) rfl (by decide) ?_
    refine x_const (np := 64) (x := 9223372124901605396) (a := 2147483668) (by decide +kernel) (by decide) (by decide) ?_
    refine x_icmp (k := 3) (tg := 106) (np := 67) (by decide +kernel) (by decide) (by decide) (by decide) (fun q551 => ?_) (fun q552 => ?_)
    · have q551 : 2147483668 ≤ 2147483662 := q551
      exfalso; omega
    have q552 : ¬ (2147483668 ≤ 2147483662) := q552
    refine x_aload (np := 68) (x := 0) (by decide +kernel) rfl (x_nc_le (by decide)) ?_
    have q553 : h547 75 5 = 79 := by have z := jB (e := 5) 0 j548 rg_75_5_0_1 (by decide) (by decide); omega
    refine x_getR (np := 71) (x := 709) (f := 5) (q := 79) (by decide +kernel) (by decide) (by decide +kernel) q553 ?_
    refine x_aload (np := 72) (x := 0) (by decide +kernel) rfl (x_nc_le (by decide)) ?_
    have q554 : h547 75 6 = h499 75 6 := by rw [← e549]; exact x_up_k (by decide)
    have q555 : h499 75 6 = h453 75 6 := by rw [← e501]; exact x_up_k (by decide)
    have q556 : h453 75 6 = h408 75 6 := by rw [← e455]; exact x_up_k (by decide)
    have q557 : h408 75 6 = h365 75 6 := by rw [← e410]; exact x_up_k (by decide)
    have q558 : h365 75 6 = h324 75 6 := by rw [← e367]; exact x_up_k (by decide)
    have q559 : h324 75 6 = h285 75 6 := by rw [← e326]; exact x_up_k (by decide)
    have q560 : h285 75 6 = h247 75 6 := by rw [← e287]; exact x_up_k (by decide)
    have q561 : h247 75 6 = h211 75 6 := by rw [← e249]; exact x_up_k (by decide)
    have q562 : h211 75 6 = h177 75 6 := by rw [← e213]; exact x_up_k (by decide)
    have q563 : h177 75 6 = h145 75 6 := by rw [← e179]; exact x_up_k (by decide)
    have q564 : h145 75 6 = h114 75 6 := by rw [← e147]; exact x_up_k (by decide)
    have q565 : h114 75 6 = h85 75 6 := by rw [← e116]; exact x_up_k (by decide)
    have q566 : h85 75 6 = h58 75 6 := by rw [← e87]; exact x_up_k (by decide)
    have q567 : h58 75 6 = h31 75 6 := by rw [← e60]; exact x_up_k (by decide)
    have q568 : h31 75 6 = h26 75 6 := by rw [← e33]; exact x_up_k (by decide)
    have q569 : h26 75 6 = h21 75 6 := by rw [← e28]; exact x_up_k (by decide)
    have q570 : h21 75 6 = h16 75 6 := by rw [← e23]; exact x_up_k (by decide)
    have q571 : h16 75 6 = h11 75 6 := by rw [← e18]; exact x_up_k (by decide)
    have q572 : h11 75 6 = h1 75 6 := by rw [← e13]; exact x_up_k (by decide)
    have q573 : h1 75 6 = h 75 6 := by rw [← e3]; exact x_up_i (by first | decide | omega)
    refine x_getC (np := 75) (x := 710) (f := 6) (q := (h 75 6)) (by decide +kernel) (by decide) (by decide +kernel) (((((((((((((((((((q554.trans q555).trans q556).trans q557).trans q558).trans q559).trans q560).trans q561).trans q562).trans q563).trans q564).trans q565).trans q566).trans q567).trans q568).trans q569).trans q570).trans q571).trans q572).trans q573) (fun l574 => ?_)
    refine x_iload (np := 77) (x := 6) (by decide +kernel) rfl (by decide) ?_
    refine x_iadd (np := 78) (x := 0) (v := (14 + (h 75 6))) (by decide +kernel) l7 (by decide) (by first | decide | omega) (by first | decide | omega) ?_
    refine x_aload (np := 79) (x := 0) (by decide +kernel) rfl (x_nc_le (by decide)) ?_
    have q575 : h547 75 12 = 80 := by have z := jB (e := 12) 0 j548 rg_75_12_0_1 (by decide) (by decide); omega
    refine x_getR (np := 82) (x := 716) (f := 12) (q := 80) (by decide +kernel) (by decide) (by decide +kernel) q575 ?_
    refine x_iload (np := 84) (x := 6) (by decide +kernel) rfl (by decide) ?_
    refine x_const (np := 85) (x := 9223372056182128644) (a := 2147483652) (by decide +kernel) (by decide) (by decide) ?_
    refine x_div (np := 86) (i := 14) (j := 4) (by decide +kernel) (by first | decide | omega) (by decide) (by first | decide | omega) (by decide) ?_
    show X _ _ _ _ _ _ _ _ [iv_c 2147483651, x_r 80, iv_c (14 + (h 75 6)), x_r 79] _
    have q576 : h547 80 3 = h499 80 3 := by rw [← e549]; exact x_up_k (by decide)
    have q577 : h499 80 3 = h453 80 3 := by rw [← e501]; exact x_up_k (by decide)
    have q578 : h453 80 3 = h408 80 3 := by rw [← e455]; exact x_up_k (by decide)
    have q579 : h408 80 3 = h365 80 3 := by rw [← e410]; exact x_up_k (by decide)
    have q580 : h365 80 3 = h324 80 3 := by rw [← e367]; exact x_up_k (by decide)
    have q581 : h324 80 3 = h285 80 3 := by rw [← e326]; exact x_up_k (by decide)
    have q582 : h285 80 3 = h247 80 3 := by rw [← e287]; exact x_up_k (by decide)
    have q583 : h247 80 3 = h211 80 3 := by rw [← e249]; exact x_up_k (by decide)
    have q584 : h211 80 3 = h177 80 3 := by rw [← e213]; exact x_up_k (by decide)
    have q585 : h177 80 3 = h145 80 3 := by rw [← e179]; exact x_up_k (by decide)
    have q586 : h145 80 3 = h114 80 3 := by rw [← e147]; exact x_up_k (by decide)
    have q587 : h114 80 3 = h85 80 3 := by rw [← e116]; exact x_up_k (by decide)
    have q588 : h85 80 3 = h58 80 3 := by rw [← e87]; exact x_up_k (by decide)
    have q589 : h58 80 3 = h31 80 3 := by rw [← e60]; exact x_up_k (by decide)
    have q590 : h31 80 3 = h26 80 3 := by rw [← e33]; exact x_up_i (by first | decide | omega)
    have q591 : h26 80 3 = a4 := by rw [← e28]; exact x_up_at
    refine x_aldC (np := 87) (x := 0) (n := 5) (i := 3) (q := a4) (by decide +kernel) (by decide +kernel) (by first | decide | omega) (by first | decide | omega) (by decide) (((((((((((((((q576.trans q577).trans q578).trans q579).trans q580).trans q581).trans q582).trans q583).trans q584).trans q585).trans q586).trans q587).trans q588).trans q589).trans q590).trans q591) (fun l592 => ?_)
    refine x_const (np := 89) (x := 9223372142081474584) (a := 2147483672) (by decide +kernel) (by decide) (by decide) ?_
    refine x_const (np := 91) (x := 9223372073361997832) (a := 2147483656) (by decide +kernel) (by decide) (by decide) ?_
    refine x_iload (np := 93) (x := 6) (by decide +kernel) rfl (by decide) ?_
    refine x_const (np := 94) (x := 9223372056182128644) (a := 2147483652) (by decide +kernel) (by decide) (by decide) ?_
    refine x_rem (np := 95) (i := 14) (j := 4) (by decide +kernel) (by first | decide | omega) (by decide) (by first | decide | omega) (by decide) ?_
    show X _ _ _ _ _ _ _ _ [iv_c 2147483650, iv_c 2147483656, iv_c 2147483672, iv_c a4, iv_c (14 + (h 75 6)), x_r 79] _
    refine x_imul (np := 96) (x := 0) (i := 8) (j := 2) (v := 2147483664) (by decide +kernel) (by first | decide | omega) (by first | decide | omega) (by first | decide | omega) (by first | decide | omega) (by decide) (by decide) ?_
    refine x_isub (np := 97) (x := 0) (v := 2147483656) (by decide +kernel) (by decide) (by decide) (by first | decide | omega) (by first | decide | omega) ?_
    refine x_shrE (np := 98) (by decide +kernel) la4 (by decide) (fun l594 => ?_)
    refine x_b8 (by rw [tb_b165]; decide +kernel) l594 (fun l595 l596 => ?_)
    refine x_ast (np := 100) (x := 0) (kd := 2) (n := 400) (i := (14 + u56)) (by decide +kernel) (Or.inr rfl) (by decide +kernel) (by first | decide | omega) (by first | decide | omega) (by decide) (by first | decide | omega) (fun _ => by first | decide | omega) ?_
    have j598 := jU (e := (14 + u56)) (v := (b8 (bsh a4 2147483656))) (14 + u56) j548 rg_79_0_1_400 (by first | decide | omega) (by first | decide | omega) (by first | decide | omega)
    have f600 := jF (e := (14 + u56)) (v := (b8 (bsh a4 2147483656))) (14 + u56) f550 rg_79_0_1_400 (by first | decide | omega) (by first | decide | omega) (by decide)
    generalize e599 : x_up h547 79 (14 + u56) (b8 (bsh a4 2147483656)) = h597 at j598 f600 ⊢
    refine x_iinc (np := 103) (i := 6) (j := 2147483649) (v := 2147483663) (lo' := [x_r 75, iv_c a1, iv_c a2, iv_c a3, iv_c a4, iv_c a5, iv_c 2147483663]) (by decide +kernel) (by decide) (by decide) rfl (by decide) (by first | decide | omega) (by first | decide | omega) rfl ?_
    refine x_goto (np := 106) (x := 60) (by decide +kernel) ?_
    refine x_iload (np := 62) (x := 6) (by decide +kernel) rfl (by decide) ?_
    refine x_const (np := 64) (x := 9223372124901605396) (a := 2147483668) (by decide +kernel) (by decide) (by decide) ?_
    refine x_icmp (k := 3) (tg := 106) (np := 67) (by decide +kernel) (by decide) (by decide) (by decide) (fun q601 => ?_) (fun q602 => ?_)
    · have q601 : 2147483668 ≤ 2147483663 := q601
      exfalso; omega
    have q602 : ¬ (2147483668 ≤ 2147483663) := q602
    refine x_aload (np := 68) (x := 0) (by decide +kernel) rfl (x_nc_le (by decide)) ?_
    have q603 : h597 75 5 = 79 := by have z := jB (e := 5) 0 j598 rg_75_5_0_1 (by decide) (by decide); omega
    refine x_getR (np := 71) (x := 709) (f := 5) (q := 79) (by decide +kernel) (by decide) (by decide +kernel) q603 ?_
    refine x_aload (np := 72) (x := 0) (by decide +kernel) rfl (x_nc_le (by decide)) ?_
    have q604 : h597 75 6 = h547 75 6 := by rw [← e599]; exact x_up_k (by decide)
    have q605 : h547 75 6 = h499 75 6 := by rw [← e549]; exact x_up_k (by decide)
    have q606 : h499 75 6 = h453 75 6 := by rw [← e501]; exact x_up_k (by decide)
    have q607 : h453 75 6 = h408 75 6 := by rw [← e455]; exact x_up_k (by decide)
    have q608 : h408 75 6 = h365 75 6 := by rw [← e410]; exact x_up_k (by decide)
    have q609 : h365 75 6 = h324 75 6 := by rw [← e367]; exact x_up_k (by decide)
    have q610 : h324 75 6 = h285 75 6 := by rw [← e326]; exact x_up_k (by decide)
    have q611 : h285 75 6 = h247 75 6 := by rw [← e287]; exact x_up_k (by decide)
    have q612 : h247 75 6 = h211 75 6 := by rw [← e249]; exact x_up_k (by decide)
    have q613 : h211 75 6 = h177 75 6 := by rw [← e213]; exact x_up_k (by decide)
    have q614 : h177 75 6 = h145 75 6 := by rw [← e179]; exact x_up_k (by decide)
    have q615 : h145 75 6 = h114 75 6 := by rw [← e147]; exact x_up_k (by decide)
    have q616 : h114 75 6 = h85 75 6 := by rw [← e116]; exact x_up_k (by decide)
    have q617 : h85 75 6 = h58 75 6 := by rw [← e87]; exact x_up_k (by decide)
    have q618 : h58 75 6 = h31 75 6 := by rw [← e60]; exact x_up_k (by decide)
    have q619 : h31 75 6 = h26 75 6 := by rw [← e33]; exact x_up_k (by decide)
    have q620 : h26 75 6 = h21 75 6 := by rw [← e28]; exact x_up_k (by decide)
    have q621 : h21 75 6 = h16 75 6 := by rw [← e23]; exact x_up_k (by decide)
    have q622 : h16 75 6 = h11 75 6 := by rw [← e18]; exact x_up_k (by decide)
    have q623 : h11 75 6 = h1 75 6 := by rw [← e13]; exact x_up_k (by decide)
    have q624 : h1 75 6 = h 75 6 := by rw [← e3]; exact x_up_i (by first | decide | omega)
    refine x_getC (np := 75) (x := 710) (f := 6) (q := (h 75 6)) (by decide +kernel) (by decide) (by decide +kernel) ((((((((((((((((((((q604.trans q605).trans q606).trans q607).trans q608).trans q609).trans q610).trans q611).trans q612).trans q613).trans q614).trans q615).trans q616).trans q617).trans q618).trans q619).trans q620).trans q621).trans q622).trans q623).trans q624) (fun l625 => ?_)
    refine x_iload (np := 77) (x := 6) (by decide +kernel) rfl (by decide) ?_
    refine x_iadd (np := 78) (x := 0) (v := (15 + (h 75 6))) (by decide +kernel) l7 (by decide) (by first | decide | omega) (by first | decide | omega) ?_
    refine x_aload (np := 79) (x := 0) (by decide +kernel) rfl (x_nc_le (by decide)) ?_
    have q626 : h597 75 12 = 80 := by have z := jB (e := 12) 0 j598 rg_75_12_0_1 (by decide) (by decide); omega
    refine x_getR (np := 82) (x := 716) (f := 12) (q := 80) (by decide +kernel) (by decide) (by decide +kernel) q626 ?_
    refine x_iload (np := 84) (x := 6) (by decide +kernel) rfl (by decide) ?_
    refine x_const (np := 85) (x := 9223372056182128644) (a := 2147483652) (by decide +kernel) (by decide) (by decide) ?_
    refine x_div (np := 86) (i := 15) (j := 4) (by decide +kernel) (by first | decide | omega) (by decide) (by first | decide | omega) (by decide) ?_
    show X _ _ _ _ _ _ _ _ [iv_c 2147483651, x_r 80, iv_c (15 + (h 75 6)), x_r 79] _
    have q627 : h597 80 3 = h547 80 3 := by rw [← e599]; exact x_up_k (by decide)
    have q628 : h547 80 3 = h499 80 3 := by rw [← e549]; exact x_up_k (by decide)
    have q629 : h499 80 3 = h453 80 3 := by rw [← e501]; exact x_up_k (by decide)
    have q630 : h453 80 3 = h408 80 3 := by rw [← e455]; exact x_up_k (by decide)
    have q631 : h408 80 3 = h365 80 3 := by rw [← e410]; exact x_up_k (by decide)
    have q632 : h365 80 3 = h324 80 3 := by rw [← e367]; exact x_up_k (by decide)
    have q633 : h324 80 3 = h285 80 3 := by rw [← e326]; exact x_up_k (by decide)
    have q634 : h285 80 3 = h247 80 3 := by rw [← e287]; exact x_up_k (by decide)
    have q635 : h247 80 3 = h211 80 3 := by rw [← e249]; exact x_up_k (by decide)
    have q636 : h211 80 3 = h177 80 3 := by rw [← e213]; exact x_up_k (by decide)
    have q637 : h177 80 3 = h145 80 3 := by rw [← e179]; exact x_up_k (by decide)
    have q638 : h145 80 3 = h114 80 3 := by rw [← e147]; exact x_up_k (by decide)
    have q639 : h114 80 3 = h85 80 3 := by rw [← e116]; exact x_up_k (by decide)
    have q640 : h85 80 3 = h58 80 3 := by rw [← e87]; exact x_up_k (by decide)
    have q641 : h58 80 3 = h31 80 3 := by rw [← e60]; exact x_up_k (by decide)
    have q642 : h31 80 3 = h26 80 3 := by rw [← e33]; exact x_up_i (by first | decide | omega)
    have q643 : h26 80 3 = a4 := by rw [← e28]; exact x_up_at
    refine x_aldC (np := 87) (x := 0) (n := 5) (i := 3) (q := a4) (by decide +kernel) (by decide +kernel) (by first | decide | omega) (by first | decide | omega) (by decide) ((((((((((((((((q627.trans q628).trans q629).trans q630).trans q631).trans q632).trans q633).trans q634).trans q635).trans q636).trans q637).trans q638).trans q639).trans q640).trans q641).trans q642).trans q643) (fun l644 => ?_)
    refine x_const (np := 89) (x := 9223372142081474584) (a := 2147483672) (by decide +kernel) (by decide) (by decide) ?_
    refine x_const (np := 91) (x := 9223372073361997832) (a := 2147483656) (by decide +kernel) (by decide) (by decide) ?_
    refine x_iload (np := 93) (x := 6) (by decide +kernel) rfl (by decide) ?_
    refine x_const (np := 94) (x := 9223372056182128644) (a := 2147483652) (by decide +kernel) (by decide) (by decide) ?_
    refine x_rem (np := 95) (i := 15) (j := 4) (by decide +kernel) (by first | decide | omega) (by decide) (by first | decide | omega) (by decide) ?_
    show X _ _ _ _ _ _ _ _ [iv_c 2147483651, iv_c 2147483656, iv_c 2147483672, iv_c a4, iv_c (15 + (h 75 6)), x_r 79] _
    refine x_imul (np := 96) (x := 0) (i := 8) (j := 3) (v := 2147483672) (by decide +kernel) (by first | decide | omega) (by first | decide | omega) (by first | decide | omega) (by first | decide | omega) (by decide) (by decide) ?_
    refine x_isub (np := 97) (x := 0) (v := 2147483648) (by decide +kernel) (by decide) (by decide) (by first | decide | omega) (by first | decide | omega) ?_
    refine x_shrE (np := 98) (by decide +kernel) la4 (by decide) (fun l646 => ?_)
    refine x_b8 (by rw [tb_b165]; decide +kernel) l646 (fun l647 l648 => ?_)
    refine x_ast (np := 100) (x := 0) (kd := 2) (n := 400) (i := (15 + u56)) (by decide +kernel) (Or.inr rfl) (by decide +kernel) (by first | decide | omega) (by first | decide | omega) (by decide) (by first | decide | omega) (fun _ => by first | decide | omega) ?_
    have j650 := jU (e := (15 + u56)) (v := (b8 (bsh a4 2147483648))) (15 + u56) j598 rg_79_0_1_400 (by first | decide | omega) (by first | decide | omega) (by first | decide | omega)
    have f652 := jF (e := (15 + u56)) (v := (b8 (bsh a4 2147483648))) (15 + u56) f600 rg_79_0_1_400 (by first | decide | omega) (by first | decide | omega) (by decide)
    generalize e651 : x_up h597 79 (15 + u56) (b8 (bsh a4 2147483648)) = h649 at j650 f652 ⊢
    refine x_iinc (np := 103) (i := 6) (j := 2147483649) (v := 2147483664) (lo' := [x_r 75, iv_c a1, iv_c a2, iv_c a3, iv_c a4, iv_c a5, iv_c 2147483664]) (by decide +kernel) (by decide) (by decide) rfl (by decide) (by first | decide | omega) (by first | decide | omega) rfl ?_
    refine x_goto (np := 106) (x := 60) (by decide +kernel) ?_
    refine x_iload (np := 62) (x := 6) (by decide +kernel) rfl (by decide) ?_
    refine x_const (np := 64) (x := 9223372124901605396) (a := 2147483668) (by decide +kernel) (by decide) (by decide) ?_
    refine x_icmp (k := 3) (tg := 106) (np := 67) (by decide +kernel) (by decide) (by decide) (by decide) (fun q653 => ?_) (fun q654 => ?_)
    · have q653 : 2147483668 ≤ 2147483664 := q653
      exfalso; omega
    have q654 : ¬ (2147483668 ≤ 2147483664) := q654
    refine x_aload (np := 68) (x := 0) (by decide +kernel) rfl (x_nc_le (by decide)) ?_
    have q655 : h649 75 5 = 79 := by have z := jB (e := 5) 0 j650 rg_75_5_0_1 (by decide) (by decide); omega
    refine x_getR (np := 71) (x := 709) (f := 5) (q := 79) (by decide +kernel) (by decide) (by decide +kernel) q655 ?_
    refine x_aload (np := 72) (x := 0) (by decide +kernel) rfl (x_nc_le (by decide)) ?_
    have q656 : h649 75 6 = h597 75 6 := by rw [← e651]; exact x_up_k (by decide)
    have q657 : h597 75 6 = h547 75 6 := by rw [← e599]; exact x_up_k (by decide)
    have q658 : h547 75 6 = h499 75 6 := by rw [← e549]; exact x_up_k (by decide)
    have q659 : h499 75 6 = h453 75 6 := by rw [← e501]; exact x_up_k (by decide)
    have q660 : h453 75 6 = h408 75 6 := by rw [← e455]; exact x_up_k (by decide)
    have q661 : h408 75 6 = h365 75 6 := by rw [← e410]; exact x_up_k (by decide)
    have q662 : h365 75 6 = h324 75 6 := by rw [← e367]; exact x_up_k (by decide)
    have q663 : h324 75 6 = h285 75 6 := by rw [← e326]; exact x_up_k (by decide)
    have q664 : h285 75 6 = h247 75 6 := by rw [← e287]; exact x_up_k (by decide)
    have q665 : h247 75 6 = h211 75 6 := by rw [← e249]; exact x_up_k (by decide)
    have q666 : h211 75 6 = h177 75 6 := by rw [← e213]; exact x_up_k (by decide)
    have q667 : h177 75 6 = h145 75 6 := by rw [← e179]; exact x_up_k (by decide)
    have q668 : h145 75 6 = h114 75 6 := by rw [← e147]; exact x_up_k (by decide)
    have q669 : h114 75 6 = h85 75 6 := by rw [← e116]; exact x_up_k (by decide)
    have q670 : h85 75 6 = h58 75 6 := by rw [← e87]; exact x_up_k (by decide)
    have q671 : h58 75 6 = h31 75 6 := by rw [← e60]; exact x_up_k (by decide)
    have q672 : h31 75 6 = h26 75 6 := by rw [← e33]; exact x_up_k (by decide)
    have q673 : h26 75 6 = h21 75 6 := by rw [← e28]; exact x_up_k (by decide)
    have q674 : h21 75 6 = h16 75 6 := by rw [← e23]; exact x_up_k (by decide)
    have q675 : h16 75 6 = h11 75 6 := by rw [← e18]; exact x_up_k (by decide)
    have q676 : h11 75 6 = h1 75 6 := by rw [← e13]; exact x_up_k (by decide)
    have q677 : h1 75 6 = h 75 6 := by rw [← e3]; exact x_up_i (by first | decide | omega)
    refine x_getC (np := 75) (x := 710) (f := 6) (q := (h 75 6)) (by decide +kernel) (by decide) (by decide +kernel) (((((((((((((((((((((q656.trans q657).trans q658).trans q659).trans q660).trans q661).trans q662).trans q663).trans q664).trans q665).trans q666).trans q667).trans q668).trans q669).trans q670).trans q671).trans q672).trans q673).trans q674).trans q675).trans q676).trans q677) (fun l678 => ?_)
    refine x_iload (np := 77) (x := 6) (by decide +kernel) rfl (by decide) ?_
    refine x_iadd (np := 78) (x := 0) (v := (16 + (h 75 6))) (by decide +kernel) l7 (by decide) (by first | decide | omega) (by first | decide | omega) ?_
    refine x_aload (np := 79) (x := 0) (by decide +kernel) rfl (x_nc_le (by decide)) ?_
    have q679 : h649 75 12 = 80 := by have z := jB (e := 12) 0 j650 rg_75_12_0_1 (by decide) (by decide); omega
    refine x_getR (np := 82) (x := 716) (f := 12) (q := 80) (by decide +kernel) (by decide) (by decide +kernel) q679 ?_
    refine x_iload (np := 84) (x := 6) (by decide +kernel) rfl (by decide) ?_
    refine x_const (np := 85) (x := 9223372056182128644) (a := 2147483652) (by decide +kernel) (by decide) (by decide) ?_
    refine x_div (np := 86) (i := 16) (j := 4) (by decide +kernel) (by first | decide | omega) (by decide) (by first | decide | omega) (by decide) ?_
    show X _ _ _ _ _ _ _ _ [iv_c 2147483652, x_r 80, iv_c (16 + (h 75 6)), x_r 79] _
    have q680 : h649 80 4 = h597 80 4 := by rw [← e651]; exact x_up_k (by decide)
    have q681 : h597 80 4 = h547 80 4 := by rw [← e599]; exact x_up_k (by decide)
    have q682 : h547 80 4 = h499 80 4 := by rw [← e549]; exact x_up_k (by decide)
    have q683 : h499 80 4 = h453 80 4 := by rw [← e501]; exact x_up_k (by decide)
    have q684 : h453 80 4 = h408 80 4 := by rw [← e455]; exact x_up_k (by decide)
    have q685 : h408 80 4 = h365 80 4 := by rw [← e410]; exact x_up_k (by decide)
    have q686 : h365 80 4 = h324 80 4 := by rw [← e367]; exact x_up_k (by decide)
    have q687 : h324 80 4 = h285 80 4 := by rw [← e326]; exact x_up_k (by decide)
    have q688 : h285 80 4 = h247 80 4 := by rw [← e287]; exact x_up_k (by decide)
    have q689 : h247 80 4 = h211 80 4 := by rw [← e249]; exact x_up_k (by decide)
    have q690 : h211 80 4 = h177 80 4 := by rw [← e213]; exact x_up_k (by decide)
    have q691 : h177 80 4 = h145 80 4 := by rw [← e179]; exact x_up_k (by decide)
    have q692 : h145 80 4 = h114 80 4 := by rw [← e147]; exact x_up_k (by decide)
    have q693 : h114 80 4 = h85 80 4 := by rw [← e116]; exact x_up_k (by decide)
    have q694 : h85 80 4 = h58 80 4 := by rw [← e87]; exact x_up_k (by decide)
    have q695 : h58 80 4 = h31 80 4 := by rw [← e60]; exact x_up_k (by decide)
    have q696 : h31 80 4 = a5 := by rw [← e33]; exact x_up_at
    refine x_aldC (np := 87) (x := 0) (n := 5) (i := 4) (q := a5) (by decide +kernel) (by decide +kernel) (by first | decide | omega) (by first | decide | omega) (by decide) ((((((((((((((((q680.trans q681).trans q682).trans q683).trans q684).trans q685).trans q686).trans q687).trans q688).trans q689).trans q690).trans q691).trans q692).trans q693).trans q694).trans q695).trans q696) (fun l697 => ?_)
    refine x_const (np := 89) (x := 9223372142081474584) (a := 2147483672) (by decide +kernel) (by decide) (by decide) ?_
    refine x_const (np := 91) (x := 9223372073361997832) (a := 2147483656) (by decide +kernel) (by decide) (by decide) ?_
    refine x_iload (np := 93) (x := 6) (by decide +kernel) rfl (by decide) ?_
    refine x_const (np := 94) (x := 9223372056182128644) (a := 2147483652) (by decide +kernel) (by decide) (by decide) ?_
    refine x_rem (np := 95) (i := 16) (j := 4) (by decide +kernel) (by first | decide | omega) (by decide) (by first | decide | omega) (by decide) ?_
    show X _ _ _ _ _ _ _ _ [iv_c 2147483648, iv_c 2147483656, iv_c 2147483672, iv_c a5, iv_c (16 + (h 75 6)), x_r 79] _
    refine x_imul (np := 96) (x := 0) (i := 8) (j := 0) (v := 2147483648) (by decide +kernel) (by first | decide | omega) (by first | decide | omega) (by first | decide | omega) (by first | decide | omega) (by decide) (by decide) ?_
    refine x_isub (np := 97) (x := 0) (v := 2147483672) (by decide +kernel) (by decide) (by decide) (by first | decide | omega) (by first | decide | omega) ?_
    refine x_shrE (np := 98) (by decide +kernel) la5 (by decide) (fun l699 => ?_)
    refine x_b8 (by rw [tb_b165]; decide +kernel) l699 (fun l700 l701 => ?_)
    refine x_ast (np := 100) (x := 0) (kd := 2) (n := 400) (i := (16 + u56)) (by decide +kernel) (Or.inr rfl) (by decide +kernel) (by first | decide | omega) (by first | decide | omega) (by decide) (by first | decide | omega) (fun _ => by first | decide | omega) ?_
    have j703 := jU (e := (16 + u56)) (v := (b8 (bsh a5 2147483672))) (16 + u56) j650 rg_79_0_1_400 (by first | decide | omega) (by first | decide | omega) (by first | decide | omega)
    have f705 := jF (e := (16 + u56)) (v := (b8 (bsh a5 2147483672))) (16 + u56) f652 rg_79_0_1_400 (by first | decide | omega) (by first | decide | omega) (by decide)
    generalize e704 : x_up h649 79 (16 + u56) (b8 (bsh a5 2147483672)) = h702 at j703 f705 ⊢
    refine x_iinc (np := 103) (i := 6) (j := 2147483649) (v := 2147483665) (lo' := [x_r 75, iv_c a1, iv_c a2, iv_c a3, iv_c a4, iv_c a5, iv_c 2147483665]) (by decide +kernel) (by decide) (by decide) rfl (by decide) (by first | decide | omega) (by first | decide | omega) rfl ?_
    refine x_goto (np := 106) (x := 60) (by decide +kernel) ?_
    refine x_iload (np := 62) (x := 6) (by decide +kernel) rfl (by decide) ?_
    refine x_const (np := 64) (x := 9223372124901605396) (a := 2147483668) (by decide +kernel) (by decide) (by decide) ?_
    refine x_icmp (k := 3) (tg := 106) (np := 67) (by decide +kernel) (by decide) (by decide) (by decide) (fun q706 => ?_) (fun q707 => ?_)
    · have q706 : 2147483668 ≤ 2147483665 := q706
      exfalso; omega
    have q707 : ¬ (2147483668 ≤ 2147483665) := q707
    refine x_aload (np := 68) (x := 0) (by decide +kernel) rfl (x_nc_le (by decide)) ?_
    have q708 : h702 75 5 = 79 := by have z := jB (e := 5) 0 j703 rg_75_5_0_1 (by decide) (by decide); omega
    refine x_getR (np := 71) (x := 709) (f := 5) (q := 79) (by decide +kernel) (by decide) (by decide +kernel) q708 ?_
    refine x_aload (np := 72) (x := 0) (by decide +kernel) rfl (x_nc_le (by decide)) ?_
    have q709 : h702 75 6 = h649 75 6 := by rw [← e704]; exact x_up_k (by decide)
    have q710 : h649 75 6 = h597 75 6 := by rw [← e651]; exact x_up_k (by decide)
    have q711 : h597 75 6 = h547 75 6 := by rw [← e599]; exact x_up_k (by decide)
    have q712 : h547 75 6 = h499 75 6 := by rw [← e549]; exact x_up_k (by decide)
    have q713 : h499 75 6 = h453 75 6 := by rw [← e501]; exact x_up_k (by decide)
    have q714 : h453 75 6 = h408 75 6 := by rw [← e455]; exact x_up_k (by decide)
    have q715 : h408 75 6 = h365 75 6 := by rw [← e410]; exact x_up_k (by decide)
    have q716 : h365 75 6 = h324 75 6 := by rw [← e367]; exact x_up_k (by decide)
    have q717 : h324 75 6 = h285 75 6 := by rw [← e326]; exact x_up_k (by decide)
    have q718 : h285 75 6 = h247 75 6 := by rw [← e287]; exact x_up_k (by decide)
    have q719 : h247 75 6 = h211 75 6 := by rw [← e249]; exact x_up_k (by decide)
    have q720 : h211 75 6 = h177 75 6 := by rw [← e213]; exact x_up_k (by decide)
    have q721 : h177 75 6 = h145 75 6 := by rw [← e179]; exact x_up_k (by decide)
    have q722 : h145 75 6 = h114 75 6 := by rw [← e147]; exact x_up_k (by decide)
    have q723 : h114 75 6 = h85 75 6 := by rw [← e116]; exact x_up_k (by decide)
    have q724 : h85 75 6 = h58 75 6 := by rw [← e87]; exact x_up_k (by decide)
    have q725 : h58 75 6 = h31 75 6 := by rw [← e60]; exact x_up_k (by decide)
    have q726 : h31 75 6 = h26 75 6 := by rw [← e33]; exact x_up_k (by decide)
    have q727 : h26 75 6 = h21 75 6 := by rw [← e28]; exact x_up_k (by decide)
    have q728 : h21 75 6 = h16 75 6 := by rw [← e23]; exact x_up_k (by decide)
    have q729 : h16 75 6 = h11 75 6 := by rw [← e18]; exact x_up_k (by decide)
    have q730 : h11 75 6 = h1 75 6 := by rw [← e13]; exact x_up_k (by decide)
    have q731 : h1 75 6 = h 75 6 := by rw [← e3]; exact x_up_i (by first | decide | omega)
    refine x_getC (np := 75) (x := 710) (f := 6) (q := (h 75 6)) (by decide +kernel) (by decide) (by decide +kernel) ((((((((((((((((((((((q709.trans q710).trans q711).trans q712).trans q713).trans q714).trans q715).trans q716).trans q717).trans q718).trans q719).trans q720).trans q721).trans q722).trans q723).trans q724).trans q725).trans q726).trans q727).trans q728).trans q729).trans q730).trans q731) (fun l732 => ?_)
    refine x_iload (np := 77) (x := 6) (by decide +kernel) rfl (by decide) ?_
    refine x_iadd (np := 78) (x := 0) (v := (17 + (h 75 6))) (by decide +kernel) l7 (by decide) (by first | decide | omega) (by first | decide | omega) ?_
    refine x_aload (np := 79) (x := 0) (by decide +kernel) rfl (x_nc_le (by decide)) ?_
    have q733 : h702 75 12 = 80 := by have z := jB (e := 12) 0 j703 rg_75_12_0_1 (by decide) (by decide); omega
    refine x_getR (np := 82) (x := 716) (f := 12) (q := 80) (by decide +kernel) (by decide) (by decide +kernel) q733 ?_
    refine x_iload (np := 84) (x := 6) (by decide +kernel) rfl (by decide) ?_
    refine x_const (np := 85) (x := 9223372056182128644) (a := 2147483652) (by decide +kernel) (by decide) (by decide) ?_
    refine x_div (np := 86) (i := 17) (j := 4) (by decide +kernel) (by first | decide | omega) (by decide) (by first | decide | omega) (by decide) ?_
    show X _ _ _ _ _ _ _ _ [iv_c 2147483652, x_r 80, iv_c (17 + (h 75 6)), x_r 79] _
    have q734 : h702 80 4 = h649 80 4 := by rw [← e704]; exact x_up_k (by decide)
    have q735 : h649 80 4 = h597 80 4 := by rw [← e651]; exact x_up_k (by decide)
    have q736 : h597 80 4 = h547 80 4 := by rw [← e599]; exact x_up_k (by decide)
    have q737 : h547 80 4 = h499 80 4 := by rw [← e549]; exact x_up_k (by decide)
    have q738 : h499 80 4 = h453 80 4 := by rw [← e501]; exact x_up_k (by decide)
    have q739 : h453 80 4 = h408 80 4 := by rw [← e455]; exact x_up_k (by decide)
    have q740 : h408 80 4 = h365 80 4 := by rw [← e410]; exact x_up_k (by decide)
    have q741 : h365 80 4 = h324 80 4 := by rw [← e367]; exact x_up_k (by decide)
    have q742 : h324 80 4 = h285 80 4 := by rw [← e326]; exact x_up_k (by decide)
    have q743 : h285 80 4 = h247 80 4 := by rw [← e287]; exact x_up_k (by decide)
    have q744 : h247 80 4 = h211 80 4 := by rw [← e249]; exact x_up_k (by decide)
    have q745 : h211 80 4 = h177 80 4 := by rw [← e213]; exact x_up_k (by decide)
    have q746 : h177 80 4 = h145 80 4 := by rw [← e179]; exact x_up_k (by decide)
    have q747 : h145 80 4 = h114 80 4 := by rw [← e147]; exact x_up_k (by decide)
    have q748 : h114 80 4 = h85 80 4 := by rw [← e116]; exact x_up_k (by decide)
    have q749 : h85 80 4 = h58 80 4 := by rw [← e87]; exact x_up_k (by decide)
    have q750 : h58 80 4 = h31 80 4 := by rw [← e60]; exact x_up_k (by decide)
    have q751 : h31 80 4 = a5 := by rw [← e33]; exact x_up_at
    refine x_aldC (np := 87) (x := 0) (n := 5) (i := 4) (q := a5) (by decide +kernel) (by decide +kernel) (by first | decide | omega) (by first | decide | omega) (by decide) (((((((((((((((((q734.trans q735).trans q736).trans q737).trans q738).trans q739).trans q740).trans q741).trans q742).trans q743).trans q744).trans q745).trans q746).trans q747).trans q748).trans q749).trans q750).trans q751) (fun l752 => ?_)
    refine x_const (np := 89) (x := 9223372142081474584) (a := 2147483672) (by decide +kernel) (by decide) (by decide) ?_
    refine x_const (np := 91) (x := 9223372073361997832) (a := 2147483656) (by decide +kernel) (by decide) (by decide) ?_
    refine x_iload (np := 93) (x := 6) (by decide +kernel) rfl (by decide) ?_
    refine x_const (np := 94) (x := 9223372056182128644) (a := 2147483652) (by decide +kernel) (by decide) (by decide) ?_
    refine x_rem (np := 95) (i := 17) (j := 4) (by decide +kernel) (by first | decide | omega) (by decide) (by first | decide | omega) (by decide) ?_
    show X _ _ _ _ _ _ _ _ [iv_c 2147483649, iv_c 2147483656, iv_c 2147483672, iv_c a5, iv_c (17 + (h 75 6)), x_r 79] _
    refine x_imul (np := 96) (x := 0) (i := 8) (j := 1) (v := 2147483656) (by decide +kernel) (by first | decide | omega) (by first | decide | omega) (by first | decide | omega) (by first | decide | omega) (by decide) (by decide) ?_
    refine x_isub (np := 97) (x := 0) (v := 2147483664) (by decide +kernel) (by decide) (by decide) (by first | decide | omega) (by first | decide | omega) ?_
    refine x_shrE (np := 98) (by decide +kernel) la5 (by decide) (fun l754 => ?_)
    refine x_b8 (by rw [tb_b165]; decide +kernel) l754 (fun l755 l756 => ?_)
    refine x_ast (np := 100) (x := 0) (kd := 2) (n := 400) (i := (17 + u56)) (by decide +kernel) (Or.inr rfl) (by decide +kernel) (by first | decide | omega) (by first | decide | omega) (by decide) (by first | decide | omega) (fun _ => by first | decide | omega) ?_
    have j758 := jU (e := (17 + u56)) (v := (b8 (bsh a5 2147483664))) (17 + u56) j703 rg_79_0_1_400 (by first | decide | omega) (by first | decide | omega) (by first | decide | omega)
    have f760 := jF (e := (17 + u56)) (v := (b8 (bsh a5 2147483664))) (17 + u56) f705 rg_79_0_1_400 (by first | decide | omega) (by first | decide | omega) (by decide)
    generalize e759 : x_up h702 79 (17 + u56) (b8 (bsh a5 2147483664)) = h757 at j758 f760 ⊢
    refine x_iinc (np := 103) (i := 6) (j := 2147483649) (v := 2147483666) (lo' := [x_r 75, iv_c a1, iv_c a2, iv_c a3, iv_c a4, iv_c a5, iv_c 2147483666]) (by decide +kernel) (by decide) (by decide) rfl (by decide) (by first | decide | omega) (by first | decide | omega) rfl ?_
    refine x_goto (np := 106) (x := 60) (by decide +kernel) ?_
    refine x_iload (np := 62) (x := 6) (by decide +kernel) rfl (by decide) ?_
    refine x_const (np := 64) (x := 9223372124901605396) (a := 2147483668) (by decide +kernel) (by decide) (by decide) ?_
    refine x_icmp (k := 3) (tg := 106) (np := 67) (by decide +kernel) (by decide) (by decide) (by decide) (fun q761 => ?_) (fun q762 => ?_)
    · have q761 : 2147483668 ≤ 2147483666 := q761
      exfalso; omega
    have q762 : ¬ (2147483668 ≤ 2147483666) := q762
    refine x_aload (np := 68) (x := 0) (by decide +kernel) rfl (x_nc_le (by decide)) ?_
    have q763 : h757 75 5 = 79 := by have z := jB (e := 5) 0 j758 rg_75_5_0_1 (by decide) (by decide); omega
    refine x_getR (np := 71) (x := 709) (f := 5) (q := 79) (by decide +kernel) (by decide) (by decide +kernel) q763 ?_
    refine x_aload (np := 72) (x := 0) (by decide +kernel) rfl (x_nc_le (by decide)) ?_
    have q764 : h757 75 6 = h702 75 6 := by rw [← e759]; exact x_up_k (by decide)
    have q765 : h702 75 6 = h649 75 6 := by rw [← e704]; exact x_up_k (by decide)
    have q766 : h649 75 6 = h597 75 6 := by rw [← e651]; exact x_up_k (by decide)
    have q767 : h597 75 6 = h547 75 6 := by rw [← e599]; exact x_up_k (by decide)
    have q768 : h547 75 6 = h499 75 6 := by rw [← e549]; exact x_up_k (by decide)
    have q769 : h499 75 6 = h453 75 6 := by rw [← e501]; exact x_up_k (by decide)
    have q770 : h453 75 6 = h408 75 6 := by rw [← e455]; exact x_up_k (by decide)
    have q771 : h408 75 6 = h365 75 6 := by rw [← e410]; exact x_up_k (by decide)
    have q772 : h365 75 6 = h324 75 6 := by rw [← e367]; exact x_up_k (by decide)
    have q773 : h324 75 6 = h285 75 6 := by rw [← e326]; exact x_up_k (by decide)
    have q774 : h285 75 6 = h247 75 6 := by rw [← e287]; exact x_up_k (by decide)
    have q775 : h247 75 6 = h211 75 6 := by rw [← e249]; exact x_up_k (by decide)
    have q776 : h211 75 6 = h177 75 6 := by rw [← e213]; exact x_up_k (by decide)
    have q777 : h177 75 6 = h145 75 6 := by rw [← e179]; exact x_up_k (by decide)
    have q778 : h145 75 6 = h114 75 6 := by rw [← e147]; exact x_up_k (by decide)
    have q779 : h114 75 6 = h85 75 6 := by rw [← e116]; exact x_up_k (by decide)
    have q780 : h85 75 6 = h58 75 6 := by rw [← e87]; exact x_up_k (by decide)
    have q781 : h58 75 6 = h31 75 6 := by rw [← e60]; exact x_up_k (by decide)
    have q782 : h31 75 6 = h26 75 6 := by rw [← e33]; exact x_up_k (by decide)
    have q783 : h26 75 6 = h21 75 6 := by rw [← e28]; exact x_up_k (by decide)
    have q784 : h21 75 6 = h16 75 6 := by rw [← e23]; exact x_up_k (by decide)
    have q785 : h16 75 6 = h11 75 6 := by rw [← e18]; exact x_up_k (by decide)
    have q786 : h11 75 6 = h1 75 6 := by rw [← e13]; exact x_up_k (by decide)
    have q787 : h1 75 6 = h 75 6 := by rw [← e3]; exact x_up_i (by first | decide | omega)
    refine x_getC (np := 75) (x := 710) (f := 6) (q := (h 75 6)) (by decide +kernel) (by decide) (by decide +kernel) (((((((((((((((((((((((q764.trans q765).trans q766).trans q767).trans q768).trans q769).trans q770).trans q771).trans q772).trans q773).trans q774).trans q775).trans q776).trans q777).trans q778).trans q779).trans q780).trans q781).trans q782).trans q783).trans q784).trans q785).trans q786).trans q787) (fun l788 => ?_)
    refine x_iload (np := 77) (x := 6) (by decide +kernel) rfl (by decide) ?_
    refine x_iadd (np := 78) (x := 0) (v := (18 + (h 75 6))) (by decide +kernel) l7 (by decide) (by first | decide | omega) (by first | decide | omega) ?_
    refine x_aload (np := 79) (x := 0) (by decide +kernel) rfl (x_nc_le (by decide)) ?_
    have q789 : h757 75 12 = 80 := by have z := jB (e := 12) 0 j758 rg_75_12_0_1 (by decide) (by decide); omega
    refine x_getR (np := 82) (x := 716) (f := 12) (q := 80) (by decide +kernel) (by decide) (by decide +kernel) q789 ?_
    refine x_iload (np := 84) (x := 6) (by decide +kernel) rfl (by decide) ?_
    refine x_const (np := 85) (x := 9223372056182128644) (a := 2147483652) (by decide +kernel) (by decide) (by decide) ?_
    refine x_div (np := 86) (i := 18) (j := 4) (by decide +kernel) (by first | decide | omega) (by decide) (by first | decide | omega) (by decide) ?_
    show X _ _ _ _ _ _ _ _ [iv_c 2147483652, x_r 80, iv_c (18 + (h 75 6)), x_r 79] _
    have q790 : h757 80 4 = h702 80 4 := by rw [← e759]; exact x_up_k (by decide)
    have q791 : h702 80 4 = h649 80 4 := by rw [← e704]; exact x_up_k (by decide)
    have q792 : h649 80 4 = h597 80 4 := by rw [← e651]; exact x_up_k (by decide)
    have q793 : h597 80 4 = h547 80 4 := by rw [← e599]; exact x_up_k (by decide)
    have q794 : h547 80 4 = h499 80 4 := by rw [← e549]; exact x_up_k (by decide)
    have q795 : h499 80 4 = h453 80 4 := by rw [← e501]; exact x_up_k (by decide)
    have q796 : h453 80 4 = h408 80 4 := by rw [← e455]; exact x_up_k (by decide)
    have q797 : h408 80 4 = h365 80 4 := by rw [← e410]; exact x_up_k (by decide)
    have q798 : h365 80 4 = h324 80 4 := by rw [← e367]; exact x_up_k (by decide)
    have q799 : h324 80 4 = h285 80 4 := by rw [← e326]; exact x_up_k (by decide)
    have q800 : h285 80 4 = h247 80 4 := by rw [← e287]; exact x_up_k (by decide)
    have q801 : h247 80 4 = h211 80 4 := by rw [← e249]; exact x_up_k (by decide)
    have q802 : h211 80 4 = h177 80 4 := by rw [← e213]; exact x_up_k (by decide)
    have q803 : h177 80 4 = h145 80 4 := by rw [← e179]; exact x_up_k (by decide)
    have q804 : h145 80 4 = h114 80 4 := by rw [← e147]; exact x_up_k (by decide)
    have q805 : h114 80 4 = h85 80 4 := by rw [← e116]; exact x_up_k (by decide)
    have q806 : h85 80 4 = h58 80 4 := by rw [← e87]; exact x_up_k (by decide)
    have q807 : h58 80 4 = h31 80 4 := by rw [← e60]; exact x_up_k (by decide)
    have q808 : h31 80 4 = a5 := by rw [← e33]; exact x_up_at
    refine x_aldC (np := 87) (x := 0) (n := 5) (i := 4) (q := a5) (by decide +kernel) (by decide +kernel) (by first | decide | omega) (by first | decide | omega) (by decide) ((((((((((((((((((q790.trans q791).trans q792).trans q793).trans q794).trans q795).trans q796).trans q797).trans q798).trans q799).trans q800).trans q801).trans q802).trans q803).trans q804).trans q805).trans q806).trans q807).trans q808) (fun l809 => ?_)
    refine x_const (np := 89) (x := 9223372142081474584) (a := 2147483672) (by decide +kernel) (by decide) (by decide) ?_
    refine x_const (np := 91) (x := 9223372073361997832) (a := 2147483656) (by decide +kernel) (by decide) (by decide) ?_
    refine x_iload (np := 93) (x := 6) (by decide +kernel) rfl (by decide) ?_
    refine x_const (np := 94) (x := 9223372056182128644) (a := 2147483652) (by decide +kernel) (by decide) (by decide) ?_
    refine x_rem (np := 95) (i := 18) (j := 4) (by decide +kernel) (by first | decide | omega) (by decide) (by first | decide | omega) (by decide) ?_
    show X _ _ _ _ _ _ _ _ [iv_c 2147483650, iv_c 2147483656, iv_c 2147483672, iv_c a5, iv_c (18 + (h 75 6)), x_r 79] _
    refine x_imul (np := 96) (x := 0) (i := 8) (j := 2) (v := 2147483664) (by decide +kernel) (by first | decide | omega) (by first | decide | omega) (by first | decide | omega) (by first | decide | omega) (by decide) (by decide) ?_
    refine x_isub (np := 97) (x := 0) (v := 2147483656) (by decide +kernel) (by decide) (by decide) (by first | decide | omega) (by first | decide | omega) ?_
    refine x_shrE (np := 98) (by decide +kernel) la5 (by decide) (fun l811 => ?_)
    refine x_b8 (by rw [tb_b165]; decide +kernel) l811 (fun l812 l813 => ?_)
    refine x_ast (np := 100) (x := 0) (kd := 2) (n := 400) (i := (18 + u56)) (by decide +kernel) (Or.inr rfl) (by decide +kernel) (by first | decide | omega) (by first | decide | omega) (by decide) (by first | decide | omega) (fun _ => by first | decide | omega) ?_
    have j815 := jU (e := (18 + u56)) (v := (b8 (bsh a5 2147483656))) (18 + u56) j758 rg_79_0_1_400 (by first | decide | omega) (by first | decide | omega) (by first | decide | omega)
    have f817 := jF (e := (18 + u56)) (v := (b8 (bsh a5 2147483656))) (18 + u56) f760 rg_79_0_1_400 (by first | decide | omega) (by first | decide | omega) (by decide)
    generalize e816 : x_up h757 79 (18 + u56) (b8 (bsh a5 2147483656)) = h814 at j815 f817 ⊢
    refine x_iinc (np := 103) (i := 6) (j := 2147483649) (v := 2147483667) (lo' := [x_r 75, iv_c a1, iv_c a2, iv_c a3, iv_c a4, iv_c a5, iv_c 2147483667]) (by decide +kernel) (by decide) (by decide) rfl (by decide) (by first | decide | omega) (by first | decide | omega) rfl ?_
    refine x_goto (np := 106) (x := 60) (by decide +kernel) ?_
    refine x_iload (np := 62) (x := 6) (by decide +kernel) rfl (by decide) ?_
    refine x_const (np := 64) (x := 9223372124901605396) (a := 2147483668) (by decide +kernel) (by decide) (by decide) ?_
    refine x_icmp (k := 3) (tg := 106) (np := 67) (by decide +kernel) (by decide) (by decide) (by decide) (fun q818 => ?_) (fun q819 => ?_)
    · have q818 : 2147483668 ≤ 2147483667 := q818
      exfalso; omega
    have q819 : ¬ (2147483668 ≤ 2147483667) := q819
    refine x_aload (np := 68) (x := 0) (by decide +kernel) rfl (x_nc_le (by decide)) ?_
    have q820 : h814 75 5 = 79 := by have z := jB (e := 5) 0 j815 rg_75_5_0_1 (by decide) (by decide); omega
    refine x_getR (np := 71) (x := 709) (f := 5) (q := 79) (by decide +kernel) (by decide) (by decide +kernel) q820 ?_
    refine x_aload (np := 72) (x := 0) (by decide +kernel) rfl (x_nc_le (by decide)) ?_
    have q821 : h814 75 6 = h757 75 6 := by rw [← e816]; exact x_up_k (by decide)
    have q822 : h757 75 6 = h702 75 6 := by rw [← e759]; exact x_up_k (by decide)
    have q823 : h702 75 6 = h649 75 6 := by rw [← e704]; exact x_up_k (by decide)
    have q824 : h649 75 6 = h597 75 6 := by rw [← e651]; exact x_up_k (by decide)
    have q825 : h597 75 6 = h547 75 6 := by rw [← e599]; exact x_up_k (by decide)
    have q826 : h547 75 6 = h499 75 6 := by rw [← e549]; exact x_up_k (by decide)
    have q827 : h499 75 6 = h453 75 6 := by rw [← e501]; exact x_up_k (by decide)
    have q828 : h453 75 6 = h408 75 6 := by rw [← e455]; exact x_up_k (by decide)
    have q829 : h408 75 6 = h365 75 6 := by rw [← e410]; exact x_up_k (by decide)
    have q830 : h365 75 6 = h324 75 6 := by rw [← e367]; exact x_up_k (by decide)
    have q831 : h324 75 6 = h285 75 6 := by rw [← e326]; exact x_up_k (by decide)
    have q832 : h285 75 6 = h247 75 6 := by rw [← e287]; exact x_up_k (by decide)
    have q833 : h247 75 6 = h211 75 6 := by rw [← e249]; exact x_up_k (by decide)
    have q834 : h211 75 6 = h177 75 6 := by rw [← e213]; exact x_up_k (by decide)
    have q835 : h177 75 6 = h145 75 6 := by rw [← e179]; exact x_up_k (by decide)
    have q836 : h145 75 6 = h114 75 6 := by rw [← e147]; exact x_up_k (by decide)
    have q837 : h114 75 6 = h85 75 6 := by rw [← e116]; exact x_up_k (by decide)
    have q838 : h85 75 6 = h58 75 6 := by rw [← e87]; exact x_up_k (by decide)
    have q839 : h58 75 6 = h31 75 6 := by rw [← e60]; exact x_up_k (by decide)
    have q840 : h31 75 6 = h26 75 6 := by rw [← e33]; exact x_up_k (by decide)
    have q841 : h26 75 6 = h21 75 6 := by rw [← e28]; exact x_up_k (by decide)
    have q842 : h21 75 6 = h16 75 6 := by rw [← e23]; exact x_up_k (by decide)
    have q843 : h16 75 6 = h11 75 6 := by rw [← e18]; exact x_up_k (by decide)
    have q844 : h11 75 6 = h1 75 6 := by rw [← e13]; exact x_up_k (by decide)
    have q845 : h1 75 6 = h 75 6 := by rw [← e3]; exact x_up_i (by first | decide | omega)
    refine x_getC (np := 75) (x := 710) (f := 6) (q := (h 75 6)) (by decide +kernel) (by decide) (by decide +kernel) ((((((((((((((((((((((((q821.trans q822).trans q823).trans q824).trans q825).trans q826).trans q827).trans q828).trans q829).trans q830).trans q831).trans q832).trans q833).trans q834).trans q835).trans q836).trans q837).trans q838).trans q839).trans q840).trans q841).trans q842).trans q843).trans q844).trans q845) (fun l846 => ?_)
    refine x_iload (np := 77) (x := 6) (by decide +kernel) rfl (by decide) ?_
    refine x_iadd (np := 78) (x := 0) (v := (19 + (h 75 6))) (by decide +kernel) l7 (by decide) (by first | decide | omega) (by first | decide | omega) ?_
    refine x_aload (np := 79) (x := 0) (by decide +kernel) rfl (x_nc_le (by decide)) ?_
    have q847 : h814 75 12 = 80 := by have z := jB (e := 12) 0 j815 rg_75_12_0_1 (by decide) (by decide); omega
    refine x_getR (np := 82) (x := 716) (f := 12) (q := 80) (by decide +kernel) (by decide) (by decide +kernel) q847 ?_
    refine x_iload (np := 84) (x := 6) (by decide +kernel) rfl (by decide) ?_
    refine x_const (np := 85) (x := 9223372056182128644) (a := 2147483652) (by decide +kernel) (by decide) (by decide) ?_
    refine x_div (np := 86) (i := 19) (j := 4) (by decide +kernel) (by first | decide | omega) (by decide) (by first | decide | omega) (by decide) ?_
    show X _ _ _ _ _ _ _ _ [iv_c 2147483652, x_r 80, iv_c (19 + (h 75 6)), x_r 79] _
    have q848 : h814 80 4 = h757 80 4 := by rw [← e816]; exact x_up_k (by decide)
    have q849 : h757 80 4 = h702 80 4 := by rw [← e759]; exact x_up_k (by decide)
    have q850 : h702 80 4 = h649 80 4 := by rw [← e704]; exact x_up_k (by decide)
    have q851 : h649 80 4 = h597 80 4 := by rw [← e651]; exact x_up_k (by decide)
    have q852 : h597 80 4 = h547 80 4 := by rw [← e599]; exact x_up_k (by decide)
    have q853 : h547 80 4 = h499 80 4 := by rw [← e549]; exact x_up_k (by decide)
    have q854 : h499 80 4 = h453 80 4 := by rw [← e501]; exact x_up_k (by decide)
    have q855 : h453 80 4 = h408 80 4 := by rw [← e455]; exact x_up_k (by decide)
    have q856 : h408 80 4 = h365 80 4 := by rw [← e410]; exact x_up_k (by decide)
    have q857 : h365 80 4 = h324 80 4 := by rw [← e367]; exact x_up_k (by decide)
    have q858 : h324 80 4 = h285 80 4 := by rw [← e326]; exact x_up_k (by decide)
    have q859 : h285 80 4 = h247 80 4 := by rw [← e287]; exact x_up_k (by decide)
    have q860 : h247 80 4 = h211 80 4 := by rw [← e249]; exact x_up_k (by decide)
    have q861 : h211 80 4 = h177 80 4 := by rw [← e213]; exact x_up_k (by decide)
    have q862 : h177 80 4 = h145 80 4 := by rw [← e179]; exact x_up_k (by decide)
    have q863 : h145 80 4 = h114 80 4 := by rw [← e147]; exact x_up_k (by decide)
    have q864 : h114 80 4 = h85 80 4 := by rw [← e116]; exact x_up_k (by decide)
    have q865 : h85 80 4 = h58 80 4 := by rw [← e87]; exact x_up_k (by decide)
    have q866 : h58 80 4 = h31 80 4 := by rw [← e60]; exact x_up_k (by decide)
    have q867 : h31 80 4 = a5 := by rw [← e33]; exact x_up_at
    refine x_aldC (np := 87) (x := 0) (n := 5) (i := 4) (q := a5) (by decide +kernel) (by decide +kernel) (by first | decide | omega) (by first | decide | omega) (by decide) (((((((((((((((((((q848.trans q849).trans q850).trans q851).trans q852).trans q853).trans q854).trans q855).trans q856).trans q857).trans q858).trans q859).trans q860).trans q861).trans q862).trans q863).trans q864).trans q865).trans q866).trans q867) (fun l868 => ?_)
    refine x_const (np := 89) (x := 9223372142081474584) (a := 2147483672) (by decide +kernel) (by decide) (by decide) ?_
    refine x_const (np := 91) (x := 9223372073361997832) (a := 2147483656) (by decide +kernel) (by decide) (by decide) ?_
    refine x_iload (np := 93) (x := 6) (by decide +kernel) rfl (by decide) ?_
    refine x_const (np := 94) (x := 9223372056182128644) (a := 2147483652) (by decide +kernel) (by decide) (by decide) ?_
    refine x_rem (np := 95) (i := 19) (j := 4) (by decide +kernel) (by first | decide | omega) (by decide) (by first | decide | omega) (by decide) ?_
    show X _ _ _ _ _ _ _ _ [iv_c 2147483651, iv_c 2147483656, iv_c 2147483672, iv_c a5, iv_c (19 + (h 75 6)), x_r 79] _
    refine x_imul (np := 96) (x := 0) (i := 8) (j := 3) (v := 2147483672) (by decide +kernel) (by first | decide | omega) (by first | decide | omega) (by first | decide | omega) (by first | decide | omega) (by decide) (by decide) ?_
    refine x_isub (np := 97) (x := 0) (v := 2147483648) (by decide +kernel) (by decide) (by decide) (by first | decide | omega) (by first | decide | omega) ?_
    refine x_shrE (np := 98) (by decide +kernel) la5 (by decide) (fun l870 => ?_)
    refine x_b8 (by rw [tb_b165]; decide +kernel) l870 (fun l871 l872 => ?_)
    refine x_ast (np := 100) (x := 0) (kd := 2) (n := 400) (i := (19 + u56)) (by decide +kernel) (Or.inr rfl) (by decide +kernel) (by first | decide | omega) (by first | decide | omega) (by decide) (by first | decide | omega) (fun _ => by first | decide | omega) ?_
    have j874 := jU (e := (19 + u56)) (v := (b8 (bsh a5 2147483648))) (19 + u56) j815 rg_79_0_1_400 (by first | decide | omega) (by first | decide | omega) (by first | decide | omega)
    have f876 := jF (e := (19 + u56)) (v := (b8 (bsh a5 2147483648))) (19 + u56) f817 rg_79_0_1_400 (by first | decide | omega) (by first | decide | omega) (by decide)
    generalize e875 : x_up h814 79 (19 + u56) (b8 (bsh a5 2147483648)) = h873 at j874 f876 ⊢
    refine x_iinc (np := 103) (i := 6) (j := 2147483649) (v := 2147483668) (lo' := [x_r 75, iv_c a1, iv_c a2, iv_c a3, iv_c a4, iv_c a5, iv_c 2147483668]) (by decide +kernel) (by decide) (by decide) rfl (by decide) (by first | decide | omega) (by first | decide | omega) rfl ?_
    refine x_goto (np := 106) (x := 60) (by decide +kernel) ?_
    refine x_iload (np := 62) (x := 6) (by decide +kernel) rfl (by decide) ?_
    refine x_const (np := 64) (x := 9223372124901605396) (a := 2147483668) (by decide +kernel) (by decide) (by decide) ?_
    refine x_icmp (k := 3) (tg := 106) (np := 67) (by decide +kernel) (by decide) (by decide) (by decide) (fun q877 => ?_) (fun q878 => ?_)
    · have q877 : 2147483668 ≤ 2147483668 := q877
      refine x_aload (np := 107) (x := 0) (by decide +kernel) rfl (x_nc_le (by decide)) ?_
      refine x_dup (np := 108) (x := 0) (by decide +kernel) (by have z := x_nc_le (k := 75) (by decide); unfold x_r; omega) ?_
      have q879 : h873 75 6 = h814 75 6 := by rw [← e875]; exact x_up_k (by decide)
      have q880 : h814 75 6 = h757 75 6 := by rw [← e816]; exact x_up_k (by decide)
      have q881 : h757 75 6 = h702 75 6 := by rw [← e759]; exact x_up_k (by decide)
      have q882 : h702 75 6 = h649 75 6 := by rw [← e704]; exact x_up_k (by decide)
      have q883 : h649 75 6 = h597 75 6 := by rw [← e651]; exact x_up_k (by decide)
      have q884 : h597 75 6 = h547 75 6 := by rw [← e599]; exact x_up_k (by decide)
      have q885 : h547 75 6 = h499 75 6 := by rw [← e549]; exact x_up_k (by decide)
      have q886 : h499 75 6 = h453 75 6 := by rw [← e501]; exact x_up_k (by decide)
      have q887 : h453 75 6 = h408 75 6 := by rw [← e455]; exact x_up_k (by decide)
      have q888 : h408 75 6 = h365 75 6 := by rw [← e410]; exact x_up_k (by decide)
      have q889 : h365 75 6 = h324 75 6 := by rw [← e367]; exact x_up_k (by decide)
      have q890 : h324 75 6 = h285 75 6 := by rw [← e326]; exact x_up_k (by decide)
      have q891 : h285 75 6 = h247 75 6 := by rw [← e287]; exact x_up_k (by decide)
      have q892 : h247 75 6 = h211 75 6 := by rw [← e249]; exact x_up_k (by decide)
      have q893 : h211 75 6 = h177 75 6 := by rw [← e213]; exact x_up_k (by decide)
      have q894 : h177 75 6 = h145 75 6 := by rw [← e179]; exact x_up_k (by decide)
      have q895 : h145 75 6 = h114 75 6 := by rw [← e147]; exact x_up_k (by decide)
      have q896 : h114 75 6 = h85 75 6 := by rw [← e116]; exact x_up_k (by decide)
      have q897 : h85 75 6 = h58 75 6 := by rw [← e87]; exact x_up_k (by decide)
      have q898 : h58 75 6 = h31 75 6 := by rw [← e60]; exact x_up_k (by decide)
      have q899 : h31 75 6 = h26 75 6 := by rw [← e33]; exact x_up_k (by decide)
      have q900 : h26 75 6 = h21 75 6 := by rw [← e28]; exact x_up_k (by decide)
      have q901 : h21 75 6 = h16 75 6 := by rw [← e23]; exact x_up_k (by decide)
      have q902 : h16 75 6 = h11 75 6 := by rw [← e18]; exact x_up_k (by decide)
      have q903 : h11 75 6 = h1 75 6 := by rw [← e13]; exact x_up_k (by decide)
      have q904 : h1 75 6 = h 75 6 := by rw [← e3]; exact x_up_i (by first | decide | omega)
      refine x_getC (np := 111) (x := 710) (f := 6) (q := (h 75 6)) (by decide +kernel) (by decide) (by decide +kernel) (((((((((((((((((((((((((q879.trans q880).trans q881).trans q882).trans q883).trans q884).trans q885).trans q886).trans q887).trans q888).trans q889).trans q890).trans q891).trans q892).trans q893).trans q894).trans q895).trans q896).trans q897).trans q898).trans q899).trans q900).trans q901).trans q902).trans q903).trans q904) (fun l905 => ?_)
      refine x_const (np := 113) (x := 9223372124901605396) (a := 2147483668) (by decide +kernel) (by decide) (by decide) ?_
      refine x_iadd (np := 114) (x := 0) (v := (20 + (h 75 6))) (by decide +kernel) l7 (by decide) (by first | decide | omega) (by first | decide | omega) ?_
      refine x_putI (np := 117) (x := 710) (f := 6) (by decide +kernel) (by decide +kernel) (by first | decide | omega) (Or.inl (by decide)) ?_
      have j907 := jU (e := 6) (v := (20 + (h 75 6))) 0 j874 rg_75_6_0_1 (by first | decide | omega) (by first | decide | omega) (by first | decide | omega)
      have f909 := jF (e := 6) (v := (20 + (h 75 6))) 0 f876 rg_75_6_0_1 (by first | decide | omega) (by first | decide | omega) (by decide)
      generalize e908 : x_up h873 75 6 (20 + (h 75 6)) = h906 at j907 f909 ⊢
      refine x_aload (np := 118) (x := 0) (by decide +kernel) rfl (x_nc_le (by decide)) ?_
      have q910 : h906 75 6 = (20 + (h 75 6)) := by rw [← e908]; exact x_up_at
      refine x_getC (np := 121) (x := 710) (f := 6) (q := (20 + (h 75 6))) (by decide +kernel) (by decide) (by decide +kernel) q910 (fun l911 => ?_)
      have q912 : h906 75 6 = (20 + (h 75 6)) := by rw [← e908]; exact x_up_at
      have q913 : h906 75 6 = (20 + (h 75 6)) := by rw [← e908]; exact x_up_at
      have m914 : Ap 79 h h1 u56 0 (g20 a1 a2 a3 a4 a5) := by rw [← e3]; exact Ap.oth (Ap.zero (c := 79) (s := u56) (f := (g20 a1 a2 a3 a4 a5))) (by decide)
      have m915 : Ap 79 h h11 u56 0 (g20 a1 a2 a3 a4 a5) := by rw [← e13]; exact Ap.oth m914 (by decide)
      have m916 : Ap 79 h h16 u56 0 (g20 a1 a2 a3 a4 a5) := by rw [← e18]; exact Ap.oth m915 (by decide)
      have m917 : Ap 79 h h21 u56 0 (g20 a1 a2 a3 a4 a5) := by rw [← e23]; exact Ap.oth m916 (by decide)
      have m918 : Ap 79 h h26 u56 0 (g20 a1 a2 a3 a4 a5) := by rw [← e28]; exact Ap.oth m917 (by decide)
      have m919 : Ap 79 h h31 u56 0 (g20 a1 a2 a3 a4 a5) := by rw [← e33]; exact Ap.oth m918 (by decide)
      have m920 : Ap 79 h h58 u56 1 (g20 a1 a2 a3 a4 a5) := by rw [← e60]; exact Ap.put m919 (by first | decide | omega) rfl
      have m921 : Ap 79 h h85 u56 2 (g20 a1 a2 a3 a4 a5) := by rw [← e87]; exact Ap.put m920 (by first | decide | omega) rfl
      have m922 : Ap 79 h h114 u56 3 (g20 a1 a2 a3 a4 a5) := by rw [← e116]; exact Ap.put m921 (by first | decide | omega) rfl
      have m923 : Ap 79 h h145 u56 4 (g20 a1 a2 a3 a4 a5) := by rw [← e147]; exact Ap.put m922 (by first | decide | omega) rfl
      have m924 : Ap 79 h h177 u56 5 (g20 a1 a2 a3 a4 a5) := by rw [← e179]; exact Ap.put m923 (by first | decide | omega) rfl
      have m925 : Ap 79 h h211 u56 6 (g20 a1 a2 a3 a4 a5) := by rw [← e213]; exact Ap.put m924 (by first | decide | omega) rfl
      have m926 : Ap 79 h h247 u56 7 (g20 a1 a2 a3 a4 a5) := by rw [← e249]; exact Ap.put m925 (by first | decide | omega) rfl
      have m927 : Ap 79 h h285 u56 8 (g20 a1 a2 a3 a4 a5) := by rw [← e287]; exact Ap.put m926 (by first | decide | omega) rfl
      have m928 : Ap 79 h h324 u56 9 (g20 a1 a2 a3 a4 a5) := by rw [← e326]; exact Ap.put m927 (by first | decide | omega) rfl
      have m929 : Ap 79 h h365 u56 10 (g20 a1 a2 a3 a4 a5) := by rw [← e367]; exact Ap.put m928 (by first | decide | omega) rfl
      have m930 : Ap 79 h h408 u56 11 (g20 a1 a2 a3 a4 a5) := by rw [← e410]; exact Ap.put m929 (by first | decide | omega) rfl
      have m931 : Ap 79 h h453 u56 12 (g20 a1 a2 a3 a4 a5) := by rw [← e455]; exact Ap.put m930 (by first | decide | omega) rfl
      have m932 : Ap 79 h h499 u56 13 (g20 a1 a2 a3 a4 a5) := by rw [← e501]; exact Ap.put m931 (by first | decide | omega) rfl
      have m933 : Ap 79 h h547 u56 14 (g20 a1 a2 a3 a4 a5) := by rw [← e549]; exact Ap.put m932 (by first | decide | omega) rfl
      have m934 : Ap 79 h h597 u56 15 (g20 a1 a2 a3 a4 a5) := by rw [← e599]; exact Ap.put m933 (by first | decide | omega) rfl
      have m935 : Ap 79 h h649 u56 16 (g20 a1 a2 a3 a4 a5) := by rw [← e651]; exact Ap.put m934 (by first | decide | omega) rfl
      have m936 : Ap 79 h h702 u56 17 (g20 a1 a2 a3 a4 a5) := by rw [← e704]; exact Ap.put m935 (by first | decide | omega) rfl
      have m937 : Ap 79 h h757 u56 18 (g20 a1 a2 a3 a4 a5) := by rw [← e759]; exact Ap.put m936 (by first | decide | omega) rfl
      have m938 : Ap 79 h h814 u56 19 (g20 a1 a2 a3 a4 a5) := by rw [← e816]; exact Ap.put m937 (by first | decide | omega) rfl
      have m939 : Ap 79 h h873 u56 20 (g20 a1 a2 a3 a4 a5) := by rw [← e875]; exact Ap.put m938 (by first | decide | omega) rfl
      have m940 : Ap 79 h h906 u56 20 (g20 a1 a2 a3 a4 a5) := by rw [← e908]; exact Ap.oth m939 (by decide)
      refine x_retI (np := 122) (x := 0) (by decide +kernel) (by first | decide | omega) (Or.inl (by decide +kernel)) ⟨_, rfl, (by first | decide | omega), ?_⟩
      exact ⟨j907, f909, (by first | decide | omega), (fun z => by first | decide | omega), (fun z => by first | decide | omega), (fun _ => Ap.cast m940 (by first | decide | omega)), (fun z => absurd z (by first | decide | omega))⟩
    have q878 : ¬ (2147483668 ≤ 2147483668) := q878
    exfalso; omega
  have q9 : ¬ ((20 + (h 75 6)) ≤ 2147484048) := q9
  refine x_const (np := 19) (x := 9223372034707292159) (a := 2147483647) (by decide +kernel) (by decide) (by decide) ?_
  have q941 : h1 75 6 = h 75 6 := by rw [← e3]; exact x_up_i (by first | decide | omega)
  have q942 : h1 75 6 = h 75 6 := by rw [← e3]; exact x_up_i (by first | decide | omega)
  refine x_retI (np := 20) (x := 0) (by decide +kernel) (by decide) (Or.inl (by decide +kernel)) ⟨_, rfl, (by decide), ?_⟩
  exact ⟨j2, f4, (by first | decide | omega), (fun z => by first | decide | omega), (fun z => by first | decide | omega), (fun z => absurd z (by first | decide | omega)), (fun _ u => by rw [← e3, x_up_k (by decide)])⟩
