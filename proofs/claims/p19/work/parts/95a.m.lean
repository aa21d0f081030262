/-! ===== tables of regions, methods ===== -/
set_option maxHeartbeats 0 in
/-- LentNames.look(II)I -/
theorem c122_0 {sc : Nat × Nat} {d a1 a2 : Nat} {h : xh} (hJ : J h) (ba1 : 0 ≤ a1 ∧ a1 ≤ 4294967295) (ba2 : 0 ≤ a2 ∧ a2 ≤ 4294967295) : X sc 122 (d + 3) (xT (fun r h' => J h' ∧ Fr 0 h h' ∧ (0 ≤ r ∧ r ≤ 4294967295)) (fun E h' => J h' ∧ Fr 0 h h' ∧ (E = 2 ∨ E = 4))) 0 0 0 [x_r 0, iv_c a1, iv_c a2] [] h := by
  have la1 : a1 < 4294967296 := by omega
  have la2 : a2 < 4294967296 := by omega
  have hF := Fr.refl 0 h
  refine x_aload (np := 1) (x := 0) (by decide +kernel) rfl (x_nc_le (by decide)) ?_
  have t1 : tw (h 0 8) := hJ.2.1
  refine x_getR (np := 4) (x := 648) (f := 8) (q := (h 0 8)) (by decide +kernel) (by decide) (by decide +kernel) rfl ?_
  have q2 : h (h 0 8) 0 = ((h 0 8) + 1) := tf_0_0 hJ t1
  refine x_getR (np := 7) (x := 512) (f := 0) (q := ((h 0 8) + 1)) (by decide +kernel) (by decide) (tg_0_512_0_1 t1) q2 ?_
  refine x_iload (np := 8) (x := 1) (by decide +kernel) rfl la1 ?_
  refine x_nU (t := 0) (mj := 147) (n := 2) (rc := 0) (ml := 2) (cc := 1) (ss := 6) (nr := 0) (np := 11) (as := [x_r ((h 0 8) + 1), iv_c a1]) (rest := []) (lo1 := [x_r ((h 0 8) + 1), iv_c a1]) (by decide +kernel) (by decide) (by decide +kernel) (by decide +kernel) (Or.inl rfl) rfl rfl (x_wr (tn_1 t1) (x_wi la1 x_wn)) x_wn (by decide) rfl ?_
  refine x_iload (np := 1) (x := 1) (by decide +kernel) rfl la1 ?_
  refine x_ifz (k := 2) (tg := 12) (np := 4) (by decide +kernel) (by decide) la1 (fun q3 => ?_) (fun q4 => ?_)
  · have q3 : a1 < 2147483648 := q3
    refine x_thr (np := 15) (x := 2) (by decide +kernel) (by decide +kernel) (Nat.le_trans x_wn (by decide)) (Or.inr ⟨_, rfl, ?_⟩)
    refine Or.inr ⟨_, rfl, ?_⟩
    exact ⟨hJ, hF, by decide⟩
  have q4 : ¬ (a1 < 2147483648) := q4
  refine x_iload (np := 5) (x := 1) (by decide +kernel) rfl la1 ?_
  refine x_aload (np := 6) (x := 0) (by decide +kernel) rfl (x_nc_le (tn_1 t1)) ?_
  have b5 := jB (e := 2) 0 hJ (rg_T1_2_0_1 t1) (by omega) (by omega)
  refine x_getC (np := 9) (x := 386) (f := 2) (q := (h ((h 0 8) + 1) 2)) (by decide +kernel) (by decide) (tg_1_386_2_0 t1) rfl (fun l6 => ?_)
  refine x_icmp (k := 2) (tg := 23) (np := 12) (by decide +kernel) (by decide) la1 l6 (fun q7 => ?_) (fun q8 => ?_)
  · have q7 : a1 < (h ((h 0 8) + 1) 2) := q7
    refine x_retV (np := 24) (x := 0) (by decide +kernel) (by decide +kernel) (Or.inl ⟨rfl, ?_⟩)
    refine x_iload (np := 12) (x := 2) (by decide +kernel) rfl la2 ?_
    rcases (show a2 < 2147483648 ∨ 2147483655 < a2 ∨ (a2 = 2147483648 ∨ a2 = 2147483649 ∨ a2 = 2147483650 ∨ a2 = 2147483651 ∨ a2 = 2147483652 ∨ a2 = 2147483653 ∨ a2 = 2147483654 ∨ a2 = 2147483655) by omega) with q9 | q9 | q9 | q9 | q9 | q9 | q9 | q9 | q9 | q9
    · refine x_tsw0 (np := 13) (x := 0) (by decide +kernel) la2 (lo9 := 2147483648) (hi9 := 2147483655) (tg := 157) (by decide +kernel) (Or.inl q9) ?_
      refine x_thrN (is := 229) (text := "a loan has no such number") rfl rfl (List.mem_of_getElem? (i := 8) rfl) (by rw [tb_b122]; decide +kernel) (by rw [tb_b122]; decide +kernel) (by rw [tb_b122]; decide +kernel) (by rw [tb_b122]; decide +kernel) (by rw [tb_b122]; decide +kernel) (by decide +kernel) (Nat.le_trans x_wn (by decide)) (Or.inr ⟨_, rfl, ?_⟩)
      exact ⟨hJ, hF, by decide⟩
    · refine x_tsw0 (np := 13) (x := 0) (by decide +kernel) la2 (lo9 := 2147483648) (hi9 := 2147483655) (tg := 157) (by decide +kernel) (Or.inr q9) ?_
      refine x_thrN (is := 229) (text := "a loan has no such number") rfl rfl (List.mem_of_getElem? (i := 8) rfl) (by rw [tb_b122]; decide +kernel) (by rw [tb_b122]; decide +kernel) (by rw [tb_b122]; decide +kernel) (by rw [tb_b122]; decide +kernel) (by rw [tb_b122]; decide +kernel) (by decide +kernel) (Nat.le_trans x_wn (by decide)) (Or.inr ⟨_, rfl, ?_⟩)
      exact ⟨hJ, hF, by decide⟩
    · refine x_tsw1 (np := 13) (x := 0) (by decide +kernel) la2 (i := 0) (lo9 := 2147483648) (hi9 := 2147483655) (tg := 60) (by decide +kernel) (by omega) (by omega) ?_
      refine x_aload (np := 61) (x := 0) (by decide +kernel) rfl (x_nc_le (by decide)) ?_
      refine x_getR (np := 64) (x := 648) (f := 8) (q := (h 0 8)) (by decide +kernel) (by decide) (by decide +kernel) rfl ?_
      have q10 : h (h 0 8) 0 = ((h 0 8) + 1) := tf_0_0 hJ t1
      refine x_getR (np := 67) (x := 512) (f := 0) (q := ((h 0 8) + 1)) (by decide +kernel) (by decide) (tg_0_512_0_1 t1) q10 ?_
      refine x_iload (np := 68) (x := 1) (by decide +kernel) rfl la1 ?_
      refine x_const (np := 69) (x := 9223372039002259456) (a := 2147483648) (by decide +kernel) (by decide) (by decide) ?_
      refine x_nI (t := 6) (mj := 68) (n := 3) (rc := 7) (ml := 4) (nr := 0) (np := 72) (as := [x_r ((h 0 8) + 1), iv_c a1, iv_c 2147483648]) (rest := []) (lo1 := [x_r ((h 0 8) + 1), iv_c a1, iv_c 2147483648, 147573952589676412928]) (by decide +kernel) (by decide) (by decide +kernel) (x_rb_of (tr_1_7 t1)) rfl rfl (x_wr (tn_1 t1) (x_wi la1 (x_wi (by decide) x_wn))) x_wn (by decide) rfl ?_
      refine x_iload (np := 1) (x := 1) (by decide +kernel) rfl la1 ?_
      refine x_ifz (k := 2) (tg := 28) (np := 4) (by decide +kernel) (by decide) la1 (fun q11 => ?_) (fun q12 => ?_)
      · have q11 : a1 < 2147483648 := q11
        exfalso; omega
      have q12 : ¬ (a1 < 2147483648) := q12
      refine x_iload (np := 5) (x := 1) (by decide +kernel) rfl la1 ?_
      refine x_aload (np := 6) (x := 0) (by decide +kernel) rfl (x_nc_le (tn_1 t1)) ?_
      refine x_getC (np := 9) (x := 386) (f := 2) (q := (h ((h 0 8) + 1) 2)) (by decide +kernel) (by decide) (tg_1_386_2_0 t1) rfl (fun l13 => ?_)
      refine x_icmp (k := 3) (tg := 28) (np := 12) (by decide +kernel) (by decide) la1 l6 (fun q14 => ?_) (fun q15 => ?_)
      · have q14 : (h ((h 0 8) + 1) 2) ≤ a1 := q14
        exfalso; omega
      have q15 : ¬ ((h ((h 0 8) + 1) 2) ≤ a1) := q15
      refine x_iload (np := 13) (x := 2) (by decide +kernel) rfl (by decide) ?_
      refine x_ifz (k := 2) (tg := 28) (np := 16) (by decide +kernel) (by decide) (by decide) (fun q16 => ?_) (fun q17 => ?_)
      · have q16 : 2147483648 < 2147483648 := q16
        exfalso; omega
      have q17 : ¬ (2147483648 < 2147483648) := q17
      refine x_iload (np := 17) (x := 2) (by decide +kernel) rfl (by decide) ?_
      refine x_aload (np := 18) (x := 0) (by decide +kernel) rfl (x_nc_le (tn_1 t1)) ?_
      have b18 := jB (e := 0) 0 hJ (rg_T1_0_0_1 t1) (by omega) (by omega)
      have q19 : (h ((h 0 8) + 1) 0) = 2147483655 := by omega
      refine x_getC (np := 21) (x := 384) (f := 0) (q := 2147483655) (by decide +kernel) (by decide) (tg_1_384_0_0 t1) q19 (fun l20 => ?_)
      refine x_icmp (k := 3) (tg := 28) (np := 24) (by decide +kernel) (by decide) (by decide) (by decide) (fun q21 => ?_) (fun q22 => ?_)
      · have q21 : 2147483655 ≤ 2147483648 := q21
        exfalso; omega
      have q22 : ¬ (2147483655 ≤ 2147483648) := q22
      refine x_const (np := 25) (x := 9223372043297226753) (a := 2147483649) (by decide +kernel) (by decide) (by decide) ?_
      refine x_goto (np := 28) (x := 29) (by decide +kernel) ?_
      refine x_istore (np := 30) (x := 3) (lo' := [x_r ((h 0 8) + 1), iv_c a1, iv_c 2147483648, iv_c 2147483649]) (by decide +kernel) (by decide) (Nat.le_of_ble_eq_true rfl) rfl ?_
      refine x_iload (np := 31) (x := 3) (by decide +kernel) rfl (by decide) ?_
      refine x_ifz (k := 0) (tg := 50) (np := 34) (by decide +kernel) (by decide) (by decide) (fun q23 => ?_) (fun q24 => ?_)
      · have q23 : 2147483649 = 2147483648 := q23
        exfalso; omega
      have q24 : ¬ (2147483649 = 2147483648) := q24
      refine x_aload (np := 35) (x := 0) (by decide +kernel) rfl (x_nc_le (tn_1 t1)) ?_
      have q25 : h ((h 0 8) + 1) 1 = ((h 0 8) + 2) := tf_1_1 hJ t1
      refine x_getR (np := 38) (x := 385) (f := 1) (q := ((h 0 8) + 2)) (by decide +kernel) (by decide) (tg_1_385_1_1 t1) q25 ?_
      refine x_iload (np := 39) (x := 1) (by decide +kernel) rfl la1 ?_
      refine x_aload (np := 40) (x := 0) (by decide +kernel) rfl (x_nc_le (tn_1 t1)) ?_
      refine x_getC (np := 43) (x := 384) (f := 0) (q := 2147483655) (by decide +kernel) (by decide) (tg_1_384_0_0 t1) q19 (fun l26 => ?_)
      obtain ⟨u27, q28⟩ : ∃ z, a1 = 2147483648 + z := ⟨a1 - 2147483648, by omega⟩
      refine x_imul (np := 44) (x := 0) (i := u27) (j := 7) (v := (2147483648 + 7 * u27)) (by decide +kernel) (by omega) (by omega) (by omega) (by omega) la1 (by decide) ?_
      refine x_iload (np := 45) (x := 2) (by decide +kernel) rfl (by decide) ?_
      refine x_iadd (np := 46) (x := 0) (v := (2147483648 + 7 * u27)) (by decide +kernel) (by omega) (by decide) (by omega) (by omega) ?_
      have b30 := jB (e := (7 * u27)) u27 hJ (rg_T2_0_7_20 t1) (by omega) (by omega)
      refine x_aldC (np := 47) (x := 0) (n := 140) (i := (7 * u27)) (q := ((h ((h 0 8) + 2) (7 * u27)))) (by decide +kernel) (ta_2_140 t1) (by omega) (by omega) (by decide) rfl (fun l31 => ?_)
      refine x_goto (np := 50) (x := 51) (by decide +kernel) ?_
      refine x_retI (np := 52) (x := 0) (by decide +kernel) l31 (Or.inl (by decide +kernel)) ⟨_, rfl, l31, ?_⟩
      refine x_retI (np := 73) (x := 0) (by decide +kernel) l31 (Or.inl (by decide +kernel)) (Or.inl ⟨_, rfl, l31, ?_⟩)
      exact ⟨hJ, hF, (by omega)⟩
    · refine x_tsw1 (np := 13) (x := 0) (by decide +kernel) la2 (i := 1) (lo9 := 2147483648) (hi9 := 2147483655) (tg := 73) (by decide +kernel) (by omega) (by omega) ?_
      refine x_aload (np := 74) (x := 0) (by decide +kernel) rfl (x_nc_le (by decide)) ?_
      refine x_getR (np := 77) (x := 648) (f := 8) (q := (h 0 8)) (by decide +kernel) (by decide) (by decide +kernel) rfl ?_
      have q32 : h (h 0 8) 0 = ((h 0 8) + 1) := tf_0_0 hJ t1
      refine x_getR (np := 80) (x := 512) (f := 0) (q := ((h 0 8) + 1)) (by decide +kernel) (by decide) (tg_0_512_0_1 t1) q32 ?_
      refine x_iload (np := 81) (x := 1) (by decide +kernel) rfl la1 ?_
      refine x_const (np := 82) (x := 9223372043297226753) (a := 2147483649) (by decide +kernel) (by decide) (by decide) ?_
      refine x_nI (t := 6) (mj := 68) (n := 3) (rc := 7) (ml := 4) (nr := 0) (np := 85) (as := [x_r ((h 0 8) + 1), iv_c a1, iv_c 2147483649]) (rest := []) (lo1 := [x_r ((h 0 8) + 1), iv_c a1, iv_c 2147483649, 147573952589676412928]) (by decide +kernel) (by decide) (by decide +kernel) (x_rb_of (tr_1_7 t1)) rfl rfl (x_wr (tn_1 t1) (x_wi la1 (x_wi (by decide) x_wn))) x_wn (by decide) rfl ?_
      refine x_iload (np := 1) (x := 1) (by decide +kernel) rfl la1 ?_
      refine x_ifz (k := 2) (tg := 28) (np := 4) (by decide +kernel) (by decide) la1 (fun q33 => ?_) (fun q34 => ?_)
      · have q33 : a1 < 2147483648 := q33
        exfalso; omega
      have q34 : ¬ (a1 < 2147483648) := q34
      refine x_iload (np := 5) (x := 1) (by decide +kernel) rfl la1 ?_
      refine x_aload (np := 6) (x := 0) (by decide +kernel) rfl (x_nc_le (tn_1 t1)) ?_
      refine x_getC (np := 9) (x := 386) (f := 2) (q := (h ((h 0 8) + 1) 2)) (by decide +kernel) (by decide) (tg_1_386_2_0 t1) rfl (fun l35 => ?_)
      refine x_icmp (k := 3) (tg := 28) (np := 12) (by decide +kernel) (by decide) la1 l6 (fun q36 => ?_) (fun q37 => ?_)
      · have q36 : (h ((h 0 8) + 1) 2) ≤ a1 := q36
        exfalso; omega
      have q37 : ¬ ((h ((h 0 8) + 1) 2) ≤ a1) := q37
      refine x_iload (np := 13) (x := 2) (by decide +kernel) rfl (by decide) ?_
      refine x_ifz (k := 2) (tg := 28) (np := 16) (by decide +kernel) (by decide) (by decide) (fun q38 => ?_) (fun q39 => ?_)
      · have q38 : 2147483649 < 2147483648 := q38
        exfalso; omega
      have q39 : ¬ (2147483649 < 2147483648) := q39
      refine x_iload (np := 17) (x := 2) (by decide +kernel) rfl (by decide) ?_
      refine x_aload (np := 18) (x := 0) (by decide +kernel) rfl (x_nc_le (tn_1 t1)) ?_
      have b40 := jB (e := 0) 0 hJ (rg_T1_0_0_1 t1) (by omega) (by omega)
      have q41 : (h ((h 0 8) + 1) 0) = 2147483655 := by omega
      refine x_getC (np := 21) (x := 384) (f := 0) (q := 2147483655) (by decide +kernel) (by decide) (tg_1_384_0_0 t1) q41 (fun l42 => ?_)
      refine x_icmp (k := 3) (tg := 28) (np := 24) (by decide +kernel) (by decide) (by decide) (by decide) (fun q43 => ?_) (fun q44 => ?_)
      · have q43 : 2147483655 ≤ 2147483649 := q43
        exfalso; omega
      have q44 : ¬ (2147483655 ≤ 2147483649) := q44
      refine x_const (np := 25) (x := 9223372043297226753) (a := 2147483649) (by decide +kernel) (by decide) (by decide) ?_
      refine x_goto (np := 28) (x := 29) (by decide +kernel) ?_
      refine x_istore (np := 30) (x := 3) (lo' := [x_r ((h 0 8) + 1), iv_c a1, iv_c 2147483649, iv_c 2147483649]) (by decide +kernel) (by decide) (Nat.le_of_ble_eq_true rfl) rfl ?_
      refine x_iload (np := 31) (x := 3) (by decide +kernel) rfl (by decide) ?_
      refine x_ifz (k := 0) (tg := 50) (np := 34) (by decide +kernel) (by decide) (by decide) (fun q45 => ?_) (fun q46 => ?_)
      · have q45 : 2147483649 = 2147483648 := q45
        exfalso; omega
      have q46 : ¬ (2147483649 = 2147483648) := q46
      refine x_aload (np := 35) (x := 0) (by decide +kernel) rfl (x_nc_le (tn_1 t1)) ?_
      have q47 : h ((h 0 8) + 1) 1 = ((h 0 8) + 2) := tf_1_1 hJ t1
      refine x_getR (np := 38) (x := 385) (f := 1) (q := ((h 0 8) + 2)) (by decide +kernel) (by decide) (tg_1_385_1_1 t1) q47 ?_
      refine x_iload (np := 39) (x := 1) (by decide +kernel) rfl la1 ?_
      refine x_aload (np := 40) (x := 0) (by decide +kernel) rfl (x_nc_le (tn_1 t1)) ?_
      refine x_getC (np := 43) (x := 384) (f := 0) (q := 2147483655) (by decide +kernel) (by decide) (tg_1_384_0_0 t1) q41 (fun l48 => ?_)
      obtain ⟨u49, q50⟩ : ∃ z, a1 = 2147483648 + z := ⟨a1 - 2147483648, by omega⟩
      refine x_imul (np := 44) (x := 0) (i := u49) (j := 7) (v := (2147483648 + 7 * u49)) (by decide +kernel) (by omega) (by omega) (by omega) (by omega) la1 (by decide) ?_
      refine x_iload (np := 45) (x := 2) (by decide +kernel) rfl (by decide) ?_
      refine x_iadd (np := 46) (x := 0) (v := (2147483649 + 7 * u49)) (by decide +kernel) (by omega) (by decide) (by omega) (by omega) ?_
      refine x_aldC (np := 47) (x := 0) (n := 140) (i := (1 + 7 * u49)) (q := ((h ((h 0 8) + 2) (1 + 7 * u49)))) (by decide +kernel) (ta_2_140 t1) (by omega) (by omega) (by decide) rfl (fun l52 => ?_)
      refine x_goto (np := 50) (x := 51) (by decide +kernel) ?_
      refine x_retI (np := 52) (x := 0) (by decide +kernel) l52 (Or.inl (by decide +kernel)) ⟨_, rfl, l52, ?_⟩
      refine x_retI (np := 86) (x := 0) (by decide +kernel) l52 (Or.inl (by decide +kernel)) (Or.inl ⟨_, rfl, l52, ?_⟩)
      exact ⟨hJ, hF, (by omega)⟩
    · refine x_tsw1 (np := 13) (x := 0) (by decide +kernel) la2 (i := 2) (lo9 := 2147483648) (hi9 := 2147483655) (tg := 86) (by decide +kernel) (by omega) (by omega) ?_
      refine x_aload (np := 87) (x := 0) (by decide +kernel) rfl (x_nc_le (by decide)) ?_
      refine x_getR (np := 90) (x := 648) (f := 8) (q := (h 0 8)) (by decide +kernel) (by decide) (by decide +kernel) rfl ?_
      have q53 : h (h 0 8) 0 = ((h 0 8) + 1) := tf_0_0 hJ t1
      refine x_getR (np := 93) (x := 512) (f := 0) (q := ((h 0 8) + 1)) (by decide +kernel) (by decide) (tg_0_512_0_1 t1) q53 ?_
      refine x_iload (np := 94) (x := 1) (by decide +kernel) rfl la1 ?_
      refine x_const (np := 95) (x := 9223372047592194050) (a := 2147483650) (by decide +kernel) (by decide) (by decide) ?_
      refine x_nI (t := 6) (mj := 68) (n := 3) (rc := 7) (ml := 4) (nr := 0) (np := 98) (as := [x_r ((h 0 8) + 1), iv_c a1, iv_c 2147483650]) (rest := []) (lo1 := [x_r ((h 0 8) + 1), iv_c a1, iv_c 2147483650, 147573952589676412928]) (by decide +kernel) (by decide) (by decide +kernel) (x_rb_of (tr_1_7 t1)) rfl rfl (x_wr (tn_1 t1) (x_wi la1 (x_wi (by decide) x_wn))) x_wn (by decide) rfl ?_
      refine x_iload (np := 1) (x := 1) (by decide +kernel) rfl la1 ?_
      refine x_ifz (k := 2) (tg := 28) (np := 4) (by decide +kernel) (by decide) la1 (fun q54 => ?_) (fun q55 => ?_)
      · have q54 : a1 < 2147483648 := q54
        exfalso; omega
      have q55 : ¬ (a1 < 2147483648) := q55
      refine x_iload (np := 5) (x := 1) (by decide +kernel) rfl la1 ?_
      refine x_aload (np := 6) (x := 0) (by decide +kernel) rfl (x_nc_le (tn_1 t1)) ?_
      refine x_getC (np := 9) (x := 386) (f := 2) (q := (h ((h 0 8) + 1) 2)) (by decide +kernel) (by decide) (tg_1_386_2_0 t1) rfl (fun l56 => ?_)
      refine x_icmp (k := 3) (tg := 28) (np := 12) (by decide +kernel) (by decide) la1 l6 (fun q57 => ?_) (fun q58 => ?_)
      · have q57 : (h ((h 0 8) + 1) 2) ≤ a1 := q57
        exfalso; omega
      have q58 : ¬ ((h ((h 0 8) + 1) 2) ≤ a1) := q58
      refine x_iload (np := 13) (x := 2) (by decide +kernel) rfl (by decide) ?_
      refine x_ifz (k := 2) (tg := 28) (np := 16) (by decide +kernel) (by decide) (by decide) (fun q59 => ?_) (fun q60 => ?_)
      · have q59 : 2147483650 < 2147483648 := q59
        exfalso; omega
      have q60 : ¬ (2147483650 < 2147483648) := q60
      refine x_iload (np := 17) (x := 2) (by decide +kernel) rfl (by decide) ?_
      refine x_aload (np := 18) (x := 0) (by decide +kernel) rfl (x_nc_le (tn_1 t1)) ?_
      have b61 := jB (e := 0) 0 hJ (rg_T1_0_0_1 t1) (by omega) (by omega)
      have q62 : (h ((h 0 8) + 1) 0) = 2147483655 := by omega
      refine x_getC (np := 21) (x := 384) (f := 0) (q := 2147483655) (by decide +kernel) (by decide) (tg_1_384_0_0 t1) q62 (fun l63 => ?_)
      refine x_icmp (k := 3) (tg := 28) (np := 24) (by decide +kernel) (by decide) (by decide) (by decide) (fun q64 => ?_) (fun q65 => ?_)
      · have q64 : 2147483655 ≤ 2147483650 := q64
        exfalso; omega
      have q65 : ¬ (2147483655 ≤ 2147483650) := q65
      refine x_const (np := 25) (x := 9223372043297226753) (a := 2147483649) (by decide +kernel) (by decide) (by decide) ?_
      refine x_goto (np := 28) (x := 29) (by decide +kernel) ?_
      refine x_istore (np := 30) (x := 3) (lo' := [x_r ((h 0 8) + 1), iv_c a1, iv_c 2147483650, iv_c 2147483649]) (by decide +kernel) (by decide) (Nat.le_of_ble_eq_true rfl) rfl ?_
      refine x_iload (np := 31) (x := 3) (by decide +kernel) rfl (by decide) ?_
      refine x_ifz (k := 0) (tg := 50) (np := 34) (by decide +kernel) (by decide) (by decide) (fun q66 => ?_) (fun q67 => ?_)
      · have q66 : 2147483649 = 2147483648 := q66
        exfalso; omega
      have q67 : ¬ (2147483649 = 2147483648) := q67
      refine x_aload (np := 35) (x := 0) (by decide +kernel) rfl (x_nc_le (tn_1 t1)) ?_
      have q68 : h ((h 0 8) + 1) 1 = ((h 0 8) + 2) := tf_1_1 hJ t1
      refine x_getR (np := 38) (x := 385) (f := 1) (q := ((h 0 8) + 2)) (by decide +kernel) (by decide) (tg_1_385_1_1 t1) q68 ?_
      refine x_iload (np := 39) (x := 1) (by decide +kernel) rfl la1 ?_
      refine x_aload (np := 40) (x := 0) (by decide +kernel) rfl (x_nc_le (tn_1 t1)) ?_
      refine x_getC (np := 43) (x := 384) (f := 0) (q := 2147483655) (by decide +kernel) (by decide) (tg_1_384_0_0 t1) q62 (fun l69 => ?_)
      obtain ⟨u70, q71⟩ : ∃ z, a1 = 2147483648 + z := ⟨a1 - 2147483648, by omega⟩
      refine x_imul (np := 44) (x := 0) (i := u70) (j := 7) (v := (2147483648 + 7 * u70)) (by decide +kernel) (by omega) (by omega) (by omega) (by omega) la1 (by decide) ?_
      refine x_iload (np := 45) (x := 2) (by decide +kernel) rfl (by decide) ?_
      refine x_iadd (np := 46) (x := 0) (v := (2147483650 + 7 * u70)) (by decide +kernel) (by omega) (by decide) (by omega) (by omega) ?_
      refine x_aldC (np := 47) (x := 0) (n := 140) (i := (2 + 7 * u70)) (q := ((h ((h 0 8) + 2) (2 + 7 * u70)))) (by decide +kernel) (ta_2_140 t1) (by omega) (by omega) (by decide) rfl (fun l73 => ?_)
      refine x_goto (np := 50) (x := 51) (by decide +kernel) ?_
      refine x_retI (np := 52) (x := 0) (by decide +kernel) l73 (Or.inl (by decide +kernel)) ⟨_, rfl, l73, ?_⟩
      refine x_retI (np := 99) (x := 0) (by decide +kernel) l73 (Or.inl (by decide +kernel)) (Or.inl ⟨_, rfl, l73, ?_⟩)
      exact ⟨hJ, hF, (by omega)⟩
    · refine x_tsw1 (np := 13) (x := 0) (by decide +kernel) la2 (i := 3) (lo9 := 2147483648) (hi9 := 2147483655) (tg := 99) (by decide +kernel) (by omega) (by omega) ?_
      refine x_aload (np := 100) (x := 0) (by decide +kernel) rfl (x_nc_le (by decide)) ?_
      refine x_getR (np := 103) (x := 648) (f := 8) (q := (h 0 8)) (by decide +kernel) (by decide) (by decide +kernel) rfl ?_
      refine x_iload (np := 104) (x := 1) (by decide +kernel) rfl la1 ?_
      refine x_nI (t := 6) (mj := 86) (n := 2) (rc := 9) (ml := 2) (nr := 0) (np := 107) (as := [x_r (h 0 8), iv_c a1]) (rest := []) (lo1 := [x_r (h 0 8), iv_c a1]) (by decide +kernel) (by decide) (by decide +kernel) (x_rb_of (tr_0_9 t1)) rfl rfl (x_wr (tn_0 t1) (x_wi la1 x_wn)) x_wn (by decide) rfl ?_
      refine x_aload (np := 1) (x := 0) (by decide +kernel) rfl (x_nc_le (tn_0 t1)) ?_
      refine x_iload (np := 2) (x := 1) (by decide +kernel) rfl la1 ?_
      refine x_nI (t := 6) (mj := 85) (n := 2) (rc := 9) (ml := 2) (nr := 0) (np := 5) (as := [x_r (h 0 8), iv_c a1]) (rest := []) (lo1 := [x_r (h 0 8), iv_c a1]) (by decide +kernel) (by decide) (by decide +kernel) (x_rb_of (tr_0_9 t1)) rfl rfl (x_wr (tn_0 t1) (x_wi la1 x_wn)) x_wn (by decide) rfl ?_
      refine x_aload (np := 1) (x := 0) (by decide +kernel) rfl (x_nc_le (tn_0 t1)) ?_
      have q74 : h (h 0 8) 0 = ((h 0 8) + 1) := tf_0_0 hJ t1
      refine x_getR (np := 4) (x := 512) (f := 0) (q := ((h 0 8) + 1)) (by decide +kernel) (by decide) (tg_0_512_0_1 t1) q74 ?_
      refine x_iload (np := 5) (x := 1) (by decide +kernel) rfl la1 ?_
      refine x_const (np := 6) (x := 9223372047592194050) (a := 2147483650) (by decide +kernel) (by decide) (by decide) ?_
      refine x_nI (t := 6) (mj := 68) (n := 3) (rc := 7) (ml := 4) (nr := 0) (np := 9) (as := [x_r ((h 0 8) + 1), iv_c a1, iv_c 2147483650]) (rest := []) (lo1 := [x_r ((h 0 8) + 1), iv_c a1, iv_c 2147483650, 147573952589676412928]) (by decide +kernel) (by decide) (by decide +kernel) (x_rb_of (tr_1_7 t1)) rfl rfl (x_wr (tn_1 t1) (x_wi la1 (x_wi (by decide) x_wn))) x_wn (by decide) rfl ?_
      refine x_iload (np := 1) (x := 1) (by decide +kernel) rfl la1 ?_
      refine x_ifz (k := 2) (tg := 28) (np := 4) (by decide +kernel) (by decide) la1 (fun q75 => ?_) (fun q76 => ?_)
      · have q75 : a1 < 2147483648 := q75
        exfalso; omega
      have q76 : ¬ (a1 < 2147483648) := q76
      refine x_iload (np := 5) (x := 1) (by decide +kernel) rfl la1 ?_
      refine x_aload (np := 6) (x := 0) (by decide +kernel) rfl (x_nc_le (tn_1 t1)) ?_
      refine x_getC (np := 9) (x := 386) (f := 2) (q := (h ((h 0 8) + 1) 2)) (by decide +kernel) (by decide) (tg_1_386_2_0 t1) rfl (fun l77 => ?_)
      refine x_icmp (k := 3) (tg := 28) (np := 12) (by decide +kernel) (by decide) la1 l6 (fun q78 => ?_) (fun q79 => ?_)
      · have q78 : (h ((h 0 8) + 1) 2) ≤ a1 := q78
        exfalso; omega
      have q79 : ¬ ((h ((h 0 8) + 1) 2) ≤ a1) := q79
      refine x_iload (np := 13) (x := 2) (by decide +kernel) rfl (by decide) ?_
      refine x_ifz (k := 2) (tg := 28) (np := 16) (by decide +kernel) (by decide) (by decide) (fun q80 => ?_) (fun q81 => ?_)
      · have q80 : 2147483650 < 2147483648 := q80
        exfalso; omega
      have q81 : ¬ (2147483650 < 2147483648) := q81
      refine x_iload (np := 17) (x := 2) (by decide +kernel) rfl (by decide) ?_
      refine x_aload (np := 18) (x := 0) (by decide +kernel) rfl (x_nc_le (tn_1 t1)) ?_
      have b82 := jB (e := 0) 0 hJ (rg_T1_0_0_1 t1) (by omega) (by omega)
      have q83 : (h ((h 0 8) + 1) 0) = 2147483655 := by omega
      refine x_getC (np := 21) (x := 384) (f := 0) (q := 2147483655) (by decide +kernel) (by decide) (tg_1_384_0_0 t1) q83 (fun l84 => ?_)
      refine x_icmp (k := 3) (tg := 28) (np := 24) (by decide +kernel) (by decide) (by decide) (by decide) (fun q85 => ?_) (fun q86 => ?_)
      · have q85 : 2147483655 ≤ 2147483650 := q85
        exfalso; omega
      have q86 : ¬ (2147483655 ≤ 2147483650) := q86
      refine x_const (np := 25) (x := 9223372043297226753) (a := 2147483649) (by decide +kernel) (by decide) (by decide) ?_
      refine x_goto (np := 28) (x := 29) (by decide +kernel) ?_
      refine x_istore (np := 30) (x := 3) (lo' := [x_r ((h 0 8) + 1), iv_c a1, iv_c 2147483650, iv_c 2147483649]) (by decide +kernel) (by decide) (Nat.le_of_ble_eq_true rfl) rfl ?_
      refine x_iload (np := 31) (x := 3) (by decide +kernel) rfl (by decide) ?_
      refine x_ifz (k := 0) (tg := 50) (np := 34) (by decide +kernel) (by decide) (by decide) (fun q87 => ?_) (fun q88 => ?_)
      · have q87 : 2147483649 = 2147483648 := q87
        exfalso; omega
      have q88 : ¬ (2147483649 = 2147483648) := q88
      refine x_aload (np := 35) (x := 0) (by decide +kernel) rfl (x_nc_le (tn_1 t1)) ?_
      have q89 : h ((h 0 8) + 1) 1 = ((h 0 8) + 2) := tf_1_1 hJ t1
      refine x_getR (np := 38) (x := 385) (f := 1) (q := ((h 0 8) + 2)) (by decide +kernel) (by decide) (tg_1_385_1_1 t1) q89 ?_
      refine x_iload (np := 39) (x := 1) (by decide +kernel) rfl la1 ?_
      refine x_aload (np := 40) (x := 0) (by decide +kernel) rfl (x_nc_le (tn_1 t1)) ?_
      refine x_getC (np := 43) (x := 384) (f := 0) (q := 2147483655) (by decide +kernel) (by decide) (tg_1_384_0_0 t1) q83 (fun l90 => ?_)
      obtain ⟨u91, q92⟩ : ∃ z, a1 = 2147483648 + z := ⟨a1 - 2147483648, by omega⟩
      refine x_imul (np := 44) (x := 0) (i := u91) (j := 7) (v := (2147483648 + 7 * u91)) (by decide +kernel) (by omega) (by omega) (by omega) (by omega) la1 (by decide) ?_
      refine x_iload (np := 45) (x := 2) (by decide +kernel) rfl (by decide) ?_
      refine x_iadd (np := 46) (x := 0) (v := (2147483650 + 7 * u91)) (by decide +kernel) (by omega) (by decide) (by omega) (by omega) ?_
      refine x_aldC (np := 47) (x := 0) (n := 140) (i := (2 + 7 * u91)) (q := ((h ((h 0 8) + 2) (2 + 7 * u91)))) (by decide +kernel) (ta_2_140 t1) (by omega) (by omega) (by decide) rfl (fun l94 => ?_)
      refine x_goto (np := 50) (x := 51) (by decide +kernel) ?_
      refine x_retI (np := 52) (x := 0) (by decide +kernel) l94 (Or.inl (by decide +kernel)) ⟨_, rfl, l94, ?_⟩
      refine x_aload (np := 10) (x := 0) (by decide +kernel) rfl (x_nc_le (tn_0 t1)) ?_
      have q95 : h (h 0 8) 0 = ((h 0 8) + 1) := tf_0_0 hJ t1
      refine x_getR (np := 13) (x := 512) (f := 0) (q := ((h 0 8) + 1)) (by decide +kernel) (by decide) (tg_0_512_0_1 t1) q95 ?_
      refine x_iload (np := 14) (x := 1) (by decide +kernel) rfl la1 ?_
      refine x_const (np := 15) (x := 9223372051887161347) (a := 2147483651) (by decide +kernel) (by decide) (by decide) ?_
      refine x_nI (t := 6) (mj := 68) (n := 3) (rc := 7) (ml := 4) (nr := 1) (np := 18) (as := [x_r ((h 0 8) + 1), iv_c a1, iv_c 2147483651]) (rest := [iv_c ((h ((h 0 8) + 2) (2 + 7 * u91)))]) (lo1 := [x_r ((h 0 8) + 1), iv_c a1, iv_c 2147483651, 147573952589676412928]) (by decide +kernel) (by decide) (by decide +kernel) (x_rb_of (tr_1_7 t1)) rfl rfl (x_wr (tn_1 t1) (x_wi la1 (x_wi (by decide) x_wn))) (x_wi l94 x_wn) (by decide) rfl ?_
      refine x_iload (np := 1) (x := 1) (by decide +kernel) rfl la1 ?_
      refine x_ifz (k := 2) (tg := 28) (np := 4) (by decide +kernel) (by decide) la1 (fun q96 => ?_) (fun q97 => ?_)
      · have q96 : a1 < 2147483648 := q96
        exfalso; omega
      have q97 : ¬ (a1 < 2147483648) := q97
      refine x_iload (np := 5) (x := 1) (by decide +kernel) rfl la1 ?_
      refine x_aload (np := 6) (x := 0) (by decide +kernel) rfl (x_nc_le (tn_1 t1)) ?_
      refine x_getC (np := 9) (x := 386) (f := 2) (q := (h ((h 0 8) + 1) 2)) (by decide +kernel) (by decide) (tg_1_386_2_0 t1) rfl (fun l98 => ?_)
      refine x_icmp (k := 3) (tg := 28) (np := 12) (by decide +kernel) (by decide) la1 l6 (fun q99 => ?_) (fun q100 => ?_)
      · have q99 : (h ((h 0 8) + 1) 2) ≤ a1 := q99
        exfalso; omega
      have q100 : ¬ ((h ((h 0 8) + 1) 2) ≤ a1) := q100
      refine x_iload (np := 13) (x := 2) (by decide +kernel) rfl (by decide) ?_
      refine x_ifz (k := 2) (tg := 28) (np := 16) (by decide +kernel) (by decide) (by decide) (fun q101 => ?_) (fun q102 => ?_)
      · have q101 : 2147483651 < 2147483648 := q101
        exfalso; omega
      have q102 : ¬ (2147483651 < 2147483648) := q102
      refine x_iload (np := 17) (x := 2) (by decide +kernel) rfl (by decide) ?_
      refine x_aload (np := 18) (x := 0) (by decide +kernel) rfl (x_nc_le (tn_1 t1)) ?_
      refine x_getC (np := 21) (x := 384) (f := 0) (q := 2147483655) (by decide +kernel) (by decide) (tg_1_384_0_0 t1) q83 (fun l103 => ?_)
      refine x_icmp (k := 3) (tg := 28) (np := 24) (by decide +kernel) (by decide) (by decide) (by decide) (fun q104 => ?_) (fun q105 => ?_)
      · have q104 : 2147483655 ≤ 2147483651 := q104
        exfalso; omega
      have q105 : ¬ (2147483655 ≤ 2147483651) := q105
      refine x_const (np := 25) (x := 9223372043297226753) (a := 2147483649) (by decide +kernel) (by decide) (by decide) ?_
      refine x_goto (np := 28) (x := 29) (by decide +kernel) ?_
      refine x_istore (np := 30) (x := 3) (lo' := [x_r ((h 0 8) + 1), iv_c a1, iv_c 2147483651, iv_c 2147483649]) (by decide +kernel) (by decide) (Nat.le_of_ble_eq_true rfl) rfl ?_
      refine x_iload (np := 31) (x := 3) (by decide +kernel) rfl (by decide) ?_
      refine x_ifz (k := 0) (tg := 50) (np := 34) (by decide +kernel) (by decide) (by decide) (fun q106 => ?_) (fun q107 => ?_)
      · have q106 : 2147483649 = 2147483648 := q106
        exfalso; omega
      have q107 : ¬ (2147483649 = 2147483648) := q107
      refine x_aload (np := 35) (x := 0) (by decide +kernel) rfl (x_nc_le (tn_1 t1)) ?_
      have q108 : h ((h 0 8) + 1) 1 = ((h 0 8) + 2) := tf_1_1 hJ t1
      refine x_getR (np := 38) (x := 385) (f := 1) (q := ((h 0 8) + 2)) (by decide +kernel) (by decide) (tg_1_385_1_1 t1) q108 ?_
      refine x_iload (np := 39) (x := 1) (by decide +kernel) rfl la1 ?_
      refine x_aload (np := 40) (x := 0) (by decide +kernel) rfl (x_nc_le (tn_1 t1)) ?_
      refine x_getC (np := 43) (x := 384) (f := 0) (q := 2147483655) (by decide +kernel) (by decide) (tg_1_384_0_0 t1) q83 (fun l109 => ?_)
      refine x_imul (np := 44) (x := 0) (i := u91) (j := 7) (v := (2147483648 + 7 * u91)) (by decide +kernel) (by omega) (by omega) (by omega) (by omega) la1 (by decide) ?_
      refine x_iload (np := 45) (x := 2) (by decide +kernel) rfl (by decide) ?_
      refine x_iadd (np := 46) (x := 0) (v := (2147483651 + 7 * u91)) (by decide +kernel) (by omega) (by decide) (by omega) (by omega) ?_
      refine x_aldC (np := 47) (x := 0) (n := 140) (i := (3 + 7 * u91)) (q := ((h ((h 0 8) + 2) (3 + 7 * u91)))) (by decide +kernel) (ta_2_140 t1) (by omega) (by omega) (by decide) rfl (fun l111 => ?_)
      refine x_goto (np := 50) (x := 51) (by decide +kernel) ?_
      refine x_retI (np := 52) (x := 0) (by decide +kernel) l111 (Or.inl (by decide +kernel)) ⟨_, rfl, l111, ?_⟩
      refine x_addA (by rw [tb_b85]; decide +kernel) l94 l111 (fun v112 l113 => ?_)
      refine x_const (np := 20) (x := 9223372043297226753) (a := 2147483649) (by decide +kernel) (by decide) (by decide) ?_
      refine x_subA (by rw [tb_b85]; decide +kernel) l113 (by decide) (fun v114 l115 => ?_)
      refine x_retI (np := 22) (x := 0) (by decide +kernel) l115 (Or.inl (by decide +kernel)) ⟨_, rfl, l115, ?_⟩
      refine x_aload (np := 6) (x := 0) (by decide +kernel) rfl (x_nc_le (tn_0 t1)) ?_
      have q116 : h (h 0 8) 0 = ((h 0 8) + 1) := tf_0_0 hJ t1
      refine x_getR (np := 9) (x := 512) (f := 0) (q := ((h 0 8) + 1)) (by decide +kernel) (by decide) (tg_0_512_0_1 t1) q116 ?_
      refine x_iload (np := 10) (x := 1) (by decide +kernel) rfl la1 ?_
      refine x_const (np := 12) (x := 9223372064772063238) (a := 2147483654) (by decide +kernel) (by decide) (by decide) ?_
      refine x_nI (t := 6) (mj := 68) (n := 3) (rc := 7) (ml := 4) (nr := 1) (np := 15) (as := [x_r ((h 0 8) + 1), iv_c a1, iv_c 2147483654]) (rest := [iv_c v114]) (lo1 := [x_r ((h 0 8) + 1), iv_c a1, iv_c 2147483654, 147573952589676412928]) (by decide +kernel) (by decide) (by decide +kernel) (x_rb_of (tr_1_7 t1)) rfl rfl (x_wr (tn_1 t1) (x_wi la1 (x_wi (by decide) x_wn))) (x_wi l115 x_wn) (by decide) rfl ?_
      refine x_iload (np := 1) (x := 1) (by decide +kernel) rfl la1 ?_
      refine x_ifz (k := 2) (tg := 28) (np := 4) (by decide +kernel) (by decide) la1 (fun q117 => ?_) (fun q118 => ?_)
      · have q117 : a1 < 2147483648 := q117
        exfalso; omega
      have q118 : ¬ (a1 < 2147483648) := q118
      refine x_iload (np := 5) (x := 1) (by decide +kernel) rfl la1 ?_
      refine x_aload (np := 6) (x := 0) (by decide +kernel) rfl (x_nc_le (tn_1 t1)) ?_
      refine x_getC (np := 9) (x := 386) (f := 2) (q := (h ((h 0 8) + 1) 2)) (by decide +kernel) (by decide) (tg_1_386_2_0 t1) rfl (fun l119 => ?_)
      refine x_icmp (k := 3) (tg := 28) (np := 12) (by decide +kernel) (by decide) la1 l6 (fun q120 => ?_) (fun q121 => ?_)
      · have q120 : (h ((h 0 8) + 1) 2) ≤ a1 := q120
        exfalso; omega
      have q121 : ¬ ((h ((h 0 8) + 1) 2) ≤ a1) := q121
      refine x_iload (np := 13) (x := 2) (by decide +kernel) rfl (by decide) ?_
      refine x_ifz (k := 2) (tg := 28) (np := 16) (by decide +kernel) (by decide) (by decide) (fun q122 => ?_) (fun q123 => ?_)
      · have q122 : 2147483654 < 2147483648 := q122
        exfalso; omega
      have q123 : ¬ (2147483654 < 2147483648) := q123
      refine x_iload (np := 17) (x := 2) (by decide +kernel) rfl (by decide) ?_
      refine x_aload (np := 18) (x := 0) (by decide +kernel) rfl (x_nc_le (tn_1 t1)) ?_
      refine x_getC (np := 21) (x := 384) (f := 0) (q := 2147483655) (by decide +kernel) (by decide) (tg_1_384_0_0 t1) q83 (fun l124 => ?_)
      refine x_icmp (k := 3) (tg := 28) (np := 24) (by decide +kernel) (by decide) (by decide) (by decide) (fun q125 => ?_) (fun q126 => ?_)
      · have q125 : 2147483655 ≤ 2147483654 := q125
        exfalso; omega
      have q126 : ¬ (2147483655 ≤ 2147483654) := q126
      refine x_const (np := 25) (x := 9223372043297226753) (a := 2147483649) (by decide +kernel) (by decide) (by decide) ?_
      refine x_goto (np := 28) (x := 29) (by decide +kernel) ?_
      refine x_istore (np := 30) (x := 3) (lo' := [x_r ((h 0 8) + 1), iv_c a1, iv_c 2147483654, iv_c 2147483649]) (by decide +kernel) (by decide) (Nat.le_of_ble_eq_true rfl) rfl ?_
      refine x_iload (np := 31) (x := 3) (by decide +kernel) rfl (by decide) ?_
      refine x_ifz (k := 0) (tg := 50) (np := 34) (by decide +kernel) (by decide) (by decide) (fun q127 => ?_) (fun q128 => ?_)
      · have q127 : 2147483649 = 2147483648 := q127
        exfalso; omega
      have q128 : ¬ (2147483649 = 2147483648) := q128
      refine x_aload (np := 35) (x := 0) (by decide +kernel) rfl (x_nc_le (tn_1 t1)) ?_
      have q129 : h ((h 0 8) + 1) 1 = ((h 0 8) + 2) := tf_1_1 hJ t1
      refine x_getR (np := 38) (x := 385) (f := 1) (q := ((h 0 8) + 2)) (by decide +kernel) (by decide) (tg_1_385_1_1 t1) q129 ?_
      refine x_iload (np := 39) (x := 1) (by decide +kernel) rfl la1 ?_
      refine x_aload (np := 40) (x := 0) (by decide +kernel) rfl (x_nc_le (tn_1 t1)) ?_
      refine x_getC (np := 43) (x := 384) (f := 0) (q := 2147483655) (by decide +kernel) (by decide) (tg_1_384_0_0 t1) q83 (fun l130 => ?_)
      refine x_imul (np := 44) (x := 0) (i := u91) (j := 7) (v := (2147483648 + 7 * u91)) (by decide +kernel) (by omega) (by omega) (by omega) (by omega) la1 (by decide) ?_
      refine x_iload (np := 45) (x := 2) (by decide +kernel) rfl (by decide) ?_
      refine x_iadd (np := 46) (x := 0) (v := (2147483654 + 7 * u91)) (by decide +kernel) (by omega) (by decide) (by omega) (by omega) ?_
      refine x_aldC (np := 47) (x := 0) (n := 140) (i := (6 + 7 * u91)) (q := ((h ((h 0 8) + 2) (6 + 7 * u91)))) (by decide +kernel) (ta_2_140 t1) (by omega) (by omega) (by decide) rfl (fun l132 => ?_)
      refine x_goto (np := 50) (x := 51) (by decide +kernel) ?_
      refine x_retI (np := 52) (x := 0) (by decide +kernel) l132 (Or.inl (by decide +kernel)) ⟨_, rfl, l132, ?_⟩
      refine x_addA (by rw [tb_b86]; decide +kernel) l115 l132 (fun v133 l134 => ?_)
      refine x_retI (np := 17) (x := 0) (by decide +kernel) l134 (Or.inl (by decide +kernel)) ⟨_, rfl, l134, ?_⟩
      refine x_retI (np := 108) (x := 0) (by decide +kernel) l134 (Or.inl (by decide +kernel)) (Or.inl ⟨_, rfl, l134, ?_⟩)
      exact ⟨hJ, hF, (by omega)⟩
    · refine x_tsw1 (np := 13) (x := 0) (by decide +kernel) la2 (i := 4) (lo9 := 2147483648) (hi9 := 2147483655) (tg := 108) (by decide +kernel) (by omega) (by omega) ?_
      refine x_aload (np := 109) (x := 0) (by decide +kernel) rfl (x_nc_le (by decide)) ?_
      have q135 : h 0 1 = 45 := by have z := jB (e := 1) 0 hJ rg_0_1_0_1 (by decide) (by decide); omega
      refine x_getR (np := 112) (x := 641) (f := 1) (q := 45) (by decide +kernel) (by decide) (by decide +kernel) q135 ?_
      have q136 : h 45 2 = 48 := by have z := jB (e := 2) 0 hJ rg_45_2_0_1 (by decide) (by decide); omega
      refine x_getR (np := 115) (x := 66) (f := 2) (q := 48) (by decide +kernel) (by decide) (by decide +kernel) q136 ?_
      refine x_iload (np := 116) (x := 1) (by decide +kernel) rfl la1 ?_
      obtain ⟨u137, q138⟩ : ∃ z, a1 = 2147483648 + z := ⟨a1 - 2147483648, by omega⟩
      refine x_aldC (np := 117) (x := 0) (n := 20) (i := u137) (q := (h 48 u137)) (by decide +kernel) (by decide +kernel) (by omega) (by omega) (by decide) rfl (fun l139 => ?_)
      refine x_const (np := 118) (x := 9223372034707292159) (a := 2147483647) (by decide +kernel) (by decide) (by decide) ?_
      refine x_icmp (k := 1) (tg := 125) (np := 121) (by decide +kernel) (by decide) l139 (by decide) (fun q140 => ?_) (fun q141 => ?_)
      · have q140 : (h 48 u137) ≠ 2147483647 := q140
        refine x_const (np := 126) (x := 9223372039002259456) (a := 2147483648) (by decide +kernel) (by decide) (by decide) ?_
        refine x_retI (np := 127) (x := 0) (by decide +kernel) (by decide) (Or.inl (by decide +kernel)) (Or.inl ⟨_, rfl, (by decide), ?_⟩)
        exact ⟨hJ, hF, (by omega)⟩
      have q141 : ¬ ((h 48 u137) ≠ 2147483647) := q141
      refine x_const (np := 122) (x := 9223372043297226753) (a := 2147483649) (by decide +kernel) (by decide) (by decide) ?_
      refine x_goto (np := 125) (x := 126) (by decide +kernel) ?_
      refine x_retI (np := 127) (x := 0) (by decide +kernel) (by decide) (Or.inl (by decide +kernel)) (Or.inl ⟨_, rfl, (by decide), ?_⟩)
      exact ⟨hJ, hF, (by omega)⟩
    · refine x_tsw1 (np := 13) (x := 0) (by decide +kernel) la2 (i := 5) (lo9 := 2147483648) (hi9 := 2147483655) (tg := 127) (by decide +kernel) (by omega) (by omega) ?_
      refine x_aload (np := 128) (x := 0) (by decide +kernel) rfl (x_nc_le (by decide)) ?_
      have q142 : h 0 1 = 45 := by have z := jB (e := 1) 0 hJ rg_0_1_0_1 (by decide) (by decide); omega
      refine x_getR (np := 131) (x := 641) (f := 1) (q := 45) (by decide +kernel) (by decide) (by decide +kernel) q142 ?_
      have q143 : h 45 2 = 48 := by have z := jB (e := 2) 0 hJ rg_45_2_0_1 (by decide) (by decide); omega
      refine x_getR (np := 134) (x := 66) (f := 2) (q := 48) (by decide +kernel) (by decide) (by decide +kernel) q143 ?_
      refine x_iload (np := 135) (x := 1) (by decide +kernel) rfl la1 ?_
      obtain ⟨u144, q145⟩ : ∃ z, a1 = 2147483648 + z := ⟨a1 - 2147483648, by omega⟩
      refine x_aldC (np := 136) (x := 0) (n := 20) (i := u144) (q := (h 48 u144)) (by decide +kernel) (by decide +kernel) (by omega) (by omega) (by decide) rfl (fun l146 => ?_)
      refine x_retI (np := 137) (x := 0) (by decide +kernel) l146 (Or.inl (by decide +kernel)) (Or.inl ⟨_, rfl, l146, ?_⟩)
      exact ⟨hJ, hF, (by omega)⟩
    · refine x_tsw1 (np := 13) (x := 0) (by decide +kernel) la2 (i := 6) (lo9 := 2147483648) (hi9 := 2147483655) (tg := 137) (by decide +kernel) (by omega) (by omega) ?_
      refine x_aload (np := 138) (x := 0) (by decide +kernel) rfl (x_nc_le (by decide)) ?_
      have q147 : h 0 1 = 45 := by have z := jB (e := 1) 0 hJ rg_0_1_0_1 (by decide) (by decide); omega
      refine x_getR (np := 141) (x := 641) (f := 1) (q := 45) (by decide +kernel) (by decide) (by decide +kernel) q147 ?_
      have q148 : h 45 3 = 49 := by have z := jB (e := 3) 0 hJ rg_45_3_0_1 (by decide) (by decide); omega
      refine x_getR (np := 144) (x := 67) (f := 3) (q := 49) (by decide +kernel) (by decide) (by decide +kernel) q148 ?_
      refine x_iload (np := 145) (x := 1) (by decide +kernel) rfl la1 ?_
      obtain ⟨u149, q150⟩ : ∃ z, a1 = 2147483648 + z := ⟨a1 - 2147483648, by omega⟩
      refine x_aldC (np := 146) (x := 0) (n := 20) (i := u149) (q := (h 49 u149)) (by decide +kernel) (by decide +kernel) (by omega) (by omega) (by decide) rfl (fun l151 => ?_)
      refine x_retI (np := 147) (x := 0) (by decide +kernel) l151 (Or.inl (by decide +kernel)) (Or.inl ⟨_, rfl, l151, ?_⟩)
      exact ⟨hJ, hF, (by omega)⟩
    · refine x_tsw1 (np := 13) (x := 0) (by decide +kernel) la2 (i := 7) (lo9 := 2147483648) (hi9 := 2147483655) (tg := 147) (by decide +kernel) (by omega) (by omega) ?_
      refine x_aload (np := 148) (x := 0) (by decide +kernel) rfl (x_nc_le (by decide)) ?_
      have q152 : h 0 1 = 45 := by have z := jB (e := 1) 0 hJ rg_0_1_0_1 (by decide) (by decide); omega
      refine x_getR (np := 151) (x := 641) (f := 1) (q := 45) (by decide +kernel) (by decide) (by decide +kernel) q152 ?_
      have q153 : h 45 4 = 50 := by have z := jB (e := 4) 0 hJ rg_45_4_0_1 (by decide) (by decide); omega
      refine x_getR (np := 154) (x := 68) (f := 4) (q := 50) (by decide +kernel) (by decide) (by decide +kernel) q153 ?_
      refine x_iload (np := 155) (x := 1) (by decide +kernel) rfl la1 ?_
      obtain ⟨u154, q155⟩ : ∃ z, a1 = 2147483648 + z := ⟨a1 - 2147483648, by omega⟩
      refine x_aldC (np := 156) (x := 0) (n := 20) (i := u154) (q := (h 50 u154)) (by decide +kernel) (by decide +kernel) (by omega) (by omega) (by decide) rfl (fun l156 => ?_)
      refine x_retI (np := 157) (x := 0) (by decide +kernel) l156 (Or.inl (by decide +kernel)) (Or.inl ⟨_, rfl, l156, ?_⟩)
      exact ⟨hJ, hF, (by omega)⟩
  have q8 : ¬ (a1 < (h ((h 0 8) + 1) 2)) := q8
  refine x_thr (np := 15) (x := 2) (by decide +kernel) (by decide +kernel) (Nat.le_trans x_wn (by decide)) (Or.inr ⟨_, rfl, ?_⟩)
  refine Or.inr ⟨_, rfl, ?_⟩
  exact ⟨hJ, hF, by decide⟩
set_option maxHeartbeats 0 in
/-- LentNames$Calendar.bearerOf(II)I -/
theorem c5_45n {sc : Nat × Nat} {d a1 a2 : Nat} {h : xh} (hJ : J h) (ba1 : 2147483648 ≤ a1 ∧ a1 ≤ 2147483653) (ba2 : 0 ≤ a2 ∧ a2 ≤ 4294967295) : X sc 5 (d + 1) (xI fun r h' => h' = h ∧ (2147483647 ≤ r ∧ r ≤ 2147483653)) 0 0 0 [x_r 45, iv_c a1, iv_c a2] [] h := by
  have la1 : a1 < 4294967296 := by omega
  have la2 : a2 < 4294967296 := by omega
  refine x_aload (np := 1) (x := 0) (by decide +kernel) rfl (x_nc_le (by decide)) ?_
  refine x_iload (np := 2) (x := 1) (by decide +kernel) rfl la1 ?_
  refine x_iload (np := 3) (x := 2) (by decide +kernel) rfl la2 ?_
  refine x_nI (t := 6) (mj := 15) (n := 3) (rc := 2) (ml := 3) (nr := 0) (np := 6) (as := [x_r 45, iv_c a1, iv_c a2]) (rest := []) (lo1 := [x_r 45, iv_c a1, iv_c a2]) (by decide +kernel) (by decide) (by decide +kernel) (x_rb_of (by decide +kernel)) rfl rfl (x_wr (by decide) (x_wi la1 (x_wi la2 x_wn))) x_wn (by decide) rfl ?_
  refine x_iload (np := 1) (x := 1) (by decide +kernel) rfl la1 ?_
  refine x_ifz (k := 2) (tg := 24) (np := 4) (by decide +kernel) (by decide) la1 (fun q1 => ?_) (fun q2 => ?_)
  · have q1 : a1 < 2147483648 := q1
    exfalso; omega
  have q2 : ¬ (a1 < 2147483648) := q2
  refine x_iload (np := 5) (x := 1) (by decide +kernel) rfl la1 ?_
  refine x_const (np := 7) (x := 9223372064772063238) (a := 2147483654) (by decide +kernel) (by decide) (by decide) ?_
  refine x_icmp (k := 3) (tg := 24) (np := 10) (by decide +kernel) (by decide) la1 (by decide) (fun q3 => ?_) (fun q4 => ?_)
  · have q3 : 2147483654 ≤ a1 := q3
    exfalso; omega
  have q4 : ¬ (2147483654 ≤ a1) := q4
  refine x_iload (np := 11) (x := 2) (by decide +kernel) rfl la2 ?_
  refine x_ifz (k := 2) (tg := 24) (np := 14) (by decide +kernel) (by decide) la2 (fun q5 => ?_) (fun q6 => ?_)
  · have q5 : a2 < 2147483648 := q5
    refine x_const (np := 25) (x := 9223372039002259456) (a := 2147483648) (by decide +kernel) (by decide) (by decide) ?_
    refine x_retI (np := 26) (x := 0) (by decide +kernel) (by decide) (Or.inr ⟨by decide +kernel, by omega, by omega⟩) ⟨_, rfl, (by decide), ?_⟩
    refine x_ifz (k := 0) (tg := 22) (np := 9) (by decide +kernel) (by decide) (by decide) (fun q7 => ?_) (fun q8 => ?_)
    · have q7 : 2147483648 = 2147483648 := q7
      refine x_const (np := 23) (x := 9223372034707292159) (a := 2147483647) (by decide +kernel) (by decide) (by decide) ?_
      refine x_retI (np := 24) (x := 0) (by decide +kernel) (by decide) (Or.inl (by decide +kernel)) ⟨_, rfl, (by decide), ?_⟩
      exact ⟨rfl, (by omega)⟩
    have q8 : ¬ (2147483648 = 2147483648) := q8
    exfalso; omega
  have q6 : ¬ (a2 < 2147483648) := q6
  refine x_iload (np := 15) (x := 2) (by decide +kernel) rfl la2 ?_
  refine x_const (np := 17) (x := 9223372090541867020) (a := 2147483660) (by decide +kernel) (by decide) (by decide) ?_
  refine x_icmp (k := 3) (tg := 24) (np := 20) (by decide +kernel) (by decide) la2 (by decide) (fun q9 => ?_) (fun q10 => ?_)
  · have q9 : 2147483660 ≤ a2 := q9
    refine x_const (np := 25) (x := 9223372039002259456) (a := 2147483648) (by decide +kernel) (by decide) (by decide) ?_
    refine x_retI (np := 26) (x := 0) (by decide +kernel) (by decide) (Or.inr ⟨by decide +kernel, by omega, by omega⟩) ⟨_, rfl, (by decide), ?_⟩
    refine x_ifz (k := 0) (tg := 22) (np := 9) (by decide +kernel) (by decide) (by decide) (fun q11 => ?_) (fun q12 => ?_)
    · have q11 : 2147483648 = 2147483648 := q11
      refine x_const (np := 23) (x := 9223372034707292159) (a := 2147483647) (by decide +kernel) (by decide) (by decide) ?_
      refine x_retI (np := 24) (x := 0) (by decide +kernel) (by decide) (Or.inl (by decide +kernel)) ⟨_, rfl, (by decide), ?_⟩
      exact ⟨rfl, (by omega)⟩
    have q12 : ¬ (2147483648 = 2147483648) := q12
    exfalso; omega
  have q10 : ¬ (2147483660 ≤ a2) := q10
  refine x_const (np := 21) (x := 9223372043297226753) (a := 2147483649) (by decide +kernel) (by decide) (by decide) ?_
  refine x_goto (np := 24) (x := 25) (by decide +kernel) ?_
  refine x_retI (np := 26) (x := 0) (by decide +kernel) (by decide) (Or.inr ⟨by decide +kernel, by omega, by omega⟩) ⟨_, rfl, (by decide), ?_⟩
  refine x_ifz (k := 0) (tg := 22) (np := 9) (by decide +kernel) (by decide) (by decide) (fun q13 => ?_) (fun q14 => ?_)
  · have q13 : 2147483649 = 2147483648 := q13
    exfalso; omega
  have q14 : ¬ (2147483649 = 2147483648) := q14
  refine x_aload (np := 10) (x := 0) (by decide +kernel) rfl (x_nc_le (by decide)) ?_
  have q15 : h 45 6 = 51 := by have z := jB (e := 6) 0 hJ rg_45_6_0_1 (by decide) (by decide); omega
  refine x_getR (np := 13) (x := 70) (f := 6) (q := 51) (by decide +kernel) (by decide) (by decide +kernel) q15 ?_
  refine x_iload (np := 14) (x := 1) (by decide +kernel) rfl la1 ?_
  refine x_iload (np := 15) (x := 2) (by decide +kernel) rfl la2 ?_
  refine x_nI (t := 7) (mj := 150) (n := 2) (rc := 0) (ml := 2) (nr := 1) (np := 18) (as := [iv_c a1, iv_c a2]) (rest := [x_r 51]) (lo1 := [iv_c a1, iv_c a2]) (by decide +kernel) (by decide) (by decide +kernel) (Or.inl rfl) rfl rfl (x_wi la1 (x_wi la2 x_wn)) (x_wr (by decide) x_wn) (by decide) rfl ?_
  refine x_iload (np := 1) (x := 0) (by decide +kernel) rfl la1 ?_
  refine x_const (np := 3) (x := 9223372090541867020) (a := 2147483660) (by decide +kernel) (by decide) (by decide) ?_
  obtain ⟨u16, q17⟩ : ∃ z, a1 = 2147483648 + z := ⟨a1 - 2147483648, by omega⟩
  refine x_imul (np := 4) (x := 0) (i := u16) (j := 12) (v := (2147483648 + 12 * u16)) (by decide +kernel) (by omega) (by omega) (by omega) (by omega) la1 (by decide) ?_
  refine x_iload (np := 5) (x := 1) (by decide +kernel) rfl la2 ?_
  refine x_iadd (np := 6) (x := 0) (v := (12 * u16 + a2)) (by decide +kernel) (by omega) la2 (by omega) (by omega) ?_
  refine x_retI (np := 7) (x := 0) (by decide +kernel) (by omega) (Or.inl (by decide +kernel)) ⟨_, rfl, (by omega), ?_⟩
  obtain ⟨u19, q20⟩ : ∃ z, a2 = 2147483648 + z := ⟨a2 - 2147483648, by omega⟩
  have b21 := jB (e := (12 * u16 + u19)) (12 * u16 + u19) hJ rg_51_0_1_72 (by omega) (by omega)
  refine x_aldC (np := 19) (x := 0) (n := 72) (i := (12 * u16 + u19)) (q := ((h 51 (12 * u16 + u19)))) (by decide +kernel) (by decide +kernel) (by omega) (by omega) (by decide) rfl (fun l22 => ?_)
  refine x_goto (np := 22) (x := 23) (by decide +kernel) ?_
  refine x_retI (np := 24) (x := 0) (by decide +kernel) l22 (Or.inl (by decide +kernel)) ⟨_, rfl, l22, ?_⟩
  exact ⟨rfl, (by omega)⟩
set_option maxHeartbeats 0 in
/-- LentNames$Calendar.firstBorne(II)I -/
theorem c11_45 {sc : Nat × Nat} {d a1 a2 : Nat} {h : xh} (hJ : J h) (ba1 : 2147483648 ≤ a1 ∧ a1 ≤ 2147483653) (ba2 : 0 ≤ a2 ∧ a2 ≤ 4294967295) : X sc 11 (d + 2) (xI fun r h' => h' = h ∧ (2147483647 ≤ r ∧ r ≤ 2147483659)) 0 0 0 [x_r 45, iv_c a1, iv_c a2, 147573952589676412928] [] h := by
  have la1 : a1 < 4294967296 := by omega
  have la2 : a2 < 4294967296 := by omega
  refine x_iload (np := 1) (x := 2) (by decide +kernel) rfl la2 ?_
  refine x_const (np := 2) (x := 9223372039002259456) (a := 2147483648) (by decide +kernel) (by decide) (by decide) ?_
  refine x_max (np := 5) (by decide +kernel) la2 (by decide) (Nat.le_trans (x_wi (by decide) (x_wi la2 x_wn)) (by decide)) ?_
  obtain ⟨v1, q2⟩ : ∃ w, w = max a2 2147483648 := ⟨_, rfl⟩
  rw [← q2]
  have b3 : a2 ≤ v1 ∧ 2147483648 ≤ v1 := by omega
  refine x_istore (np := 6) (x := 3) (lo' := [x_r 45, iv_c a1, iv_c a2, iv_c v1]) (by decide +kernel) (by omega) (Nat.le_of_ble_eq_true rfl) rfl ?_
  have p15 : ∀ (n : Nat) (v13 : Nat), 4294967296 - v13 < n → (2147483648 ≤ v13 ∧ v13 ≤ 4294967295) → X sc 11 (d + 2) (xI fun r h' => h' = h ∧ (2147483647 ≤ r ∧ r ≤ 2147483659)) 0 0 6 [x_r 45, iv_c a1, iv_c a2, iv_c v13] [] h := by
    intro n
    induction n with
    | zero => intro v13 q16; exact absurd q16 (Nat.not_lt_zero _)
    | succ n i17 =>
      intro v13 q16 b14
      refine x_iload (np := 7) (x := 3) (by decide +kernel) rfl (by omega) ?_
      refine x_const (np := 9) (x := 9223372090541867020) (a := 2147483660) (by decide +kernel) (by decide) (by decide) ?_
      refine x_icmp (k := 3) (tg := 30) (np := 12) (by decide +kernel) (by decide) (by omega) (by decide) (fun q18 => ?_) (fun q19 => ?_)
      · have q18 : 2147483660 ≤ v13 := q18
        refine x_const (np := 31) (x := 9223372034707292159) (a := 2147483647) (by decide +kernel) (by decide) (by decide) ?_
        refine x_retI (np := 32) (x := 0) (by decide +kernel) (by decide) (Or.inl (by decide +kernel)) ⟨_, rfl, (by decide), ?_⟩
        exact ⟨rfl, (by omega)⟩
      have q19 : ¬ (2147483660 ≤ v13) := q19
      refine x_aload (np := 13) (x := 0) (by decide +kernel) rfl (x_nc_le (by decide)) ?_
      refine x_iload (np := 14) (x := 1) (by decide +kernel) rfl la1 ?_
      refine x_iload (np := 15) (x := 3) (by decide +kernel) rfl (by omega) ?_
      refine x_cP (t := 6) (mj := 5) (n := 3) (rc := 2) (ml := 3) (nr := 0) (np := 18) (as := [x_r 45, iv_c a1, iv_c v13]) (rest := []) (lo1 := [x_r 45, iv_c a1, iv_c v13]) (by decide +kernel) (by decide) (by decide +kernel) (x_rb_of (by decide +kernel)) rfl rfl (x_wr (by decide) (x_wi la1 (x_wi (by omega) x_wn))) x_wn (by decide) rfl (c5_45n hJ  (by omega) (by omega)) (fun v20 l21 q22 => ?_)
      refine x_const (np := 19) (x := 9223372034707292159) (a := 2147483647) (by decide +kernel) (by decide) (by decide) ?_
      refine x_icmp (k := 0) (tg := 24) (np := 22) (by decide +kernel) (by decide) l21 (by decide) (fun q23 => ?_) (fun q24 => ?_)
      · have q23 : v20 = 2147483647 := q23
        refine x_iinc (np := 27) (i := 3) (j := 2147483649) (v := (1 + v13)) (lo' := [x_r 45, iv_c a1, iv_c a2, iv_c (1 + v13)]) (by decide +kernel) (by decide) (by decide) rfl (by omega) (by omega) (by omega) rfl ?_
        refine x_goto (np := 30) (x := 6) (by decide +kernel) ?_
        exact i17 (1 + v13) (by omega) (by omega)
      have q24 : ¬ (v20 = 2147483647) := q24
      refine x_iload (np := 23) (x := 3) (by decide +kernel) rfl (by omega) ?_
      refine x_retI (np := 24) (x := 0) (by decide +kernel) (by omega) (Or.inl (by decide +kernel)) ⟨_, rfl, (by omega), ?_⟩
      exact ⟨rfl, (by omega)⟩
  exact p15 _ v1 (Nat.lt_succ_self _) (by omega)
set_option maxHeartbeats 0 in
/-- LentNames.letter(II)I -/
theorem c124_0 {sc : Nat × Nat} {d a1 a2 : Nat} {h : xh} (hJ : J h) (ba1 : 0 ≤ a1 ∧ a1 ≤ 4294967295) (ba2 : 0 ≤ a2 ∧ a2 ≤ 4294967295) : X sc 124 (d + 3) (xT (fun r h' => J h' ∧ Fr 0 h h' ∧ (2147483647 ≤ r ∧ r ≤ 2147483659)) (fun E h' => J h' ∧ Fr 0 h h' ∧ (E = 2 ∨ E = 4))) 0 0 0 [x_r 0, iv_c a1, iv_c a2, 147573952589676412928, 147573952589676412928] [] h := by
  have la1 : a1 < 4294967296 := by omega
  have la2 : a2 < 4294967296 := by omega
  have hF := Fr.refl 0 h
  refine x_aload (np := 1) (x := 0) (by decide +kernel) rfl (x_nc_le (by decide)) ?_
  have t1 : tw (h 0 8) := hJ.2.1
  refine x_getR (np := 4) (x := 648) (f := 8) (q := (h 0 8)) (by decide +kernel) (by decide) (by decide +kernel) rfl ?_
  have q2 : h (h 0 8) 1 = ((h 0 8) + 3) := tf_0_1 hJ t1
  refine x_getR (np := 7) (x := 513) (f := 1) (q := ((h 0 8) + 3)) (by decide +kernel) (by decide) (tg_0_513_1_1 t1) q2 ?_
  refine x_iload (np := 8) (x := 1) (by decide +kernel) rfl la1 ?_
  refine x_nU (t := 0) (mj := 147) (n := 2) (rc := 0) (ml := 2) (cc := 1) (ss := 6) (nr := 0) (np := 11) (as := [x_r ((h 0 8) + 3), iv_c a1]) (rest := []) (lo1 := [x_r ((h 0 8) + 3), iv_c a1]) (by decide +kernel) (by decide) (by decide +kernel) (by decide +kernel) (Or.inl rfl) rfl rfl (x_wr (tn_3 t1) (x_wi la1 x_wn)) x_wn (by decide) rfl ?_
  refine x_iload (np := 1) (x := 1) (by decide +kernel) rfl la1 ?_
  refine x_ifz (k := 2) (tg := 12) (np := 4) (by decide +kernel) (by decide) la1 (fun q3 => ?_) (fun q4 => ?_)
  · have q3 : a1 < 2147483648 := q3
    refine x_thr (np := 15) (x := 2) (by decide +kernel) (by decide +kernel) (Nat.le_trans x_wn (by decide)) (Or.inr ⟨_, rfl, ?_⟩)
    refine Or.inr ⟨_, rfl, ?_⟩
    exact ⟨hJ, hF, by decide⟩
  have q4 : ¬ (a1 < 2147483648) := q4
  refine x_iload (np := 5) (x := 1) (by decide +kernel) rfl la1 ?_
  refine x_aload (np := 6) (x := 0) (by decide +kernel) rfl (x_nc_le (tn_3 t1)) ?_
  have b5 := jB (e := 2) 0 hJ (rg_T3_2_0_1 t1) (by omega) (by omega)
  refine x_getC (np := 9) (x := 386) (f := 2) (q := (h ((h 0 8) + 3) 2)) (by decide +kernel) (by decide) (tg_3_386_2_0 t1) rfl (fun l6 => ?_)
  refine x_icmp (k := 2) (tg := 23) (np := 12) (by decide +kernel) (by decide) la1 l6 (fun q7 => ?_) (fun q8 => ?_)
  · have q7 : a1 < (h ((h 0 8) + 3) 2) := q7
    refine x_retV (np := 24) (x := 0) (by decide +kernel) (by decide +kernel) (Or.inl ⟨rfl, ?_⟩)
    refine x_iload (np := 12) (x := 2) (by decide +kernel) rfl la2 ?_
    refine x_ifz (k := 2) (tg := 20) (np := 15) (by decide +kernel) (by decide) la2 (fun q9 => ?_) (fun q10 => ?_)
    · have q9 : a2 < 2147483648 := q9
      refine x_thrN (is := 238) (text := "a letter has no such number") rfl rfl (List.mem_of_getElem? (i := 9) rfl) (by rw [tb_b124]; decide +kernel) (by rw [tb_b124]; decide +kernel) (by rw [tb_b124]; decide +kernel) (by rw [tb_b124]; decide +kernel) (by rw [tb_b124]; decide +kernel) (by decide +kernel) (Nat.le_trans x_wn (by decide)) (Or.inr ⟨_, rfl, ?_⟩)
      exact ⟨hJ, hF, by decide⟩
    have q10 : ¬ (a2 < 2147483648) := q10
    refine x_iload (np := 16) (x := 2) (by decide +kernel) rfl la2 ?_
    refine x_const (np := 17) (x := 9223372047592194050) (a := 2147483650) (by decide +kernel) (by decide) (by decide) ?_
    refine x_icmp (k := 5) (tg := 30) (np := 20) (by decide +kernel) (by decide) la2 (by decide) (fun q11 => ?_) (fun q12 => ?_)
    · have q11 : a2 ≤ 2147483650 := q11
      refine x_aload (np := 31) (x := 0) (by decide +kernel) rfl (x_nc_le (by decide)) ?_
      refine x_getR (np := 34) (x := 648) (f := 8) (q := (h 0 8)) (by decide +kernel) (by decide) (by decide +kernel) rfl ?_
      have q13 : h (h 0 8) 1 = ((h 0 8) + 3) := tf_0_1 hJ t1
      refine x_getR (np := 37) (x := 513) (f := 1) (q := ((h 0 8) + 3)) (by decide +kernel) (by decide) (tg_0_513_1_1 t1) q13 ?_
      refine x_iload (np := 38) (x := 1) (by decide +kernel) rfl la1 ?_
      refine x_const (np := 39) (x := 9223372039002259456) (a := 2147483648) (by decide +kernel) (by decide) (by decide) ?_
      refine x_nI (t := 6) (mj := 68) (n := 3) (rc := 7) (ml := 4) (nr := 0) (np := 42) (as := [x_r ((h 0 8) + 3), iv_c a1, iv_c 2147483648]) (rest := []) (lo1 := [x_r ((h 0 8) + 3), iv_c a1, iv_c 2147483648, 147573952589676412928]) (by decide +kernel) (by decide) (by decide +kernel) (x_rb_of (tr_3_7 t1)) rfl rfl (x_wr (tn_3 t1) (x_wi la1 (x_wi (by decide) x_wn))) x_wn (by decide) rfl ?_
      refine x_iload (np := 1) (x := 1) (by decide +kernel) rfl la1 ?_
      refine x_ifz (k := 2) (tg := 28) (np := 4) (by decide +kernel) (by decide) la1 (fun q14 => ?_) (fun q15 => ?_)
      · have q14 : a1 < 2147483648 := q14
        exfalso; omega
      have q15 : ¬ (a1 < 2147483648) := q15
      refine x_iload (np := 5) (x := 1) (by decide +kernel) rfl la1 ?_
      refine x_aload (np := 6) (x := 0) (by decide +kernel) rfl (x_nc_le (tn_3 t1)) ?_
      refine x_getC (np := 9) (x := 386) (f := 2) (q := (h ((h 0 8) + 3) 2)) (by decide +kernel) (by decide) (tg_3_386_2_0 t1) rfl (fun l16 => ?_)
      refine x_icmp (k := 3) (tg := 28) (np := 12) (by decide +kernel) (by decide) la1 l6 (fun q17 => ?_) (fun q18 => ?_)
      · have q17 : (h ((h 0 8) + 3) 2) ≤ a1 := q17
        exfalso; omega
      have q18 : ¬ ((h ((h 0 8) + 3) 2) ≤ a1) := q18
      refine x_iload (np := 13) (x := 2) (by decide +kernel) rfl (by decide) ?_
      refine x_ifz (k := 2) (tg := 28) (np := 16) (by decide +kernel) (by decide) (by decide) (fun q19 => ?_) (fun q20 => ?_)
      · have q19 : 2147483648 < 2147483648 := q19
        exfalso; omega
      have q20 : ¬ (2147483648 < 2147483648) := q20
      refine x_iload (np := 17) (x := 2) (by decide +kernel) rfl (by decide) ?_
      refine x_aload (np := 18) (x := 0) (by decide +kernel) rfl (x_nc_le (tn_3 t1)) ?_
      have b21 := jB (e := 0) 0 hJ (rg_T3_0_0_1 t1) (by omega) (by omega)
      have q22 : (h ((h 0 8) + 3) 0) = 2147483652 := by omega
      refine x_getC (np := 21) (x := 384) (f := 0) (q := 2147483652) (by decide +kernel) (by decide) (tg_3_384_0_0 t1) q22 (fun l23 => ?_)
      refine x_icmp (k := 3) (tg := 28) (np := 24) (by decide +kernel) (by decide) (by decide) (by decide) (fun q24 => ?_) (fun q25 => ?_)
      · have q24 : 2147483652 ≤ 2147483648 := q24
        exfalso; omega
      have q25 : ¬ (2147483652 ≤ 2147483648) := q25
      refine x_const (np := 25) (x := 9223372043297226753) (a := 2147483649) (by decide +kernel) (by decide) (by decide) ?_
      refine x_goto (np := 28) (x := 29) (by decide +kernel) ?_
      refine x_istore (np := 30) (x := 3) (lo' := [x_r ((h 0 8) + 3), iv_c a1, iv_c 2147483648, iv_c 2147483649]) (by decide +kernel) (by decide) (Nat.le_of_ble_eq_true rfl) rfl ?_
      refine x_iload (np := 31) (x := 3) (by decide +kernel) rfl (by decide) ?_
      refine x_ifz (k := 0) (tg := 50) (np := 34) (by decide +kernel) (by decide) (by decide) (fun q26 => ?_) (fun q27 => ?_)
      · have q26 : 2147483649 = 2147483648 := q26
        exfalso; omega
      have q27 : ¬ (2147483649 = 2147483648) := q27
      refine x_aload (np := 35) (x := 0) (by decide +kernel) rfl (x_nc_le (tn_3 t1)) ?_
      have q28 : h ((h 0 8) + 3) 1 = ((h 0 8) + 4) := tf_3_1 hJ t1
      refine x_getR (np := 38) (x := 385) (f := 1) (q := ((h 0 8) + 4)) (by decide +kernel) (by decide) (tg_3_385_1_1 t1) q28 ?_
      refine x_iload (np := 39) (x := 1) (by decide +kernel) rfl la1 ?_
      refine x_aload (np := 40) (x := 0) (by decide +kernel) rfl (x_nc_le (tn_3 t1)) ?_
      refine x_getC (np := 43) (x := 384) (f := 0) (q := 2147483652) (by decide +kernel) (by decide) (tg_3_384_0_0 t1) q22 (fun l29 => ?_)
      obtain ⟨u30, q31⟩ : ∃ z, a1 = 2147483648 + z := ⟨a1 - 2147483648, by omega⟩
      refine x_imul (np := 44) (x := 0) (i := u30) (j := 4) (v := (2147483648 + 4 * u30)) (by decide +kernel) (by omega) (by omega) (by omega) (by omega) la1 (by decide) ?_
      refine x_iload (np := 45) (x := 2) (by decide +kernel) rfl (by decide) ?_
      refine x_iadd (np := 46) (x := 0) (v := (2147483648 + 4 * u30)) (by decide +kernel) (by omega) (by decide) (by omega) (by omega) ?_
      have b33 := jB (e := (4 * u30)) u30 hJ (rg_T4_0_4_10 t1) (by omega) (by omega)
      refine x_aldC (np := 47) (x := 0) (n := 40) (i := (4 * u30)) (q := ((h ((h 0 8) + 4) (4 * u30)))) (by decide +kernel) (ta_4_40 t1) (by omega) (by omega) (by decide) rfl (fun l34 => ?_)
      refine x_goto (np := 50) (x := 51) (by decide +kernel) ?_
      refine x_retI (np := 52) (x := 0) (by decide +kernel) l34 (Or.inl (by decide +kernel)) ⟨_, rfl, l34, ?_⟩
      refine x_istore (np := 43) (x := 3) (lo' := [x_r 0, iv_c a1, iv_c a2, iv_c ((h ((h 0 8) + 4) (4 * u30))), 147573952589676412928]) (by decide +kernel) l34 (Nat.le_of_ble_eq_true rfl) rfl ?_
      refine x_iload (np := 44) (x := 2) (by decide +kernel) rfl la2 ?_
      refine x_ifz (k := 1) (tg := 68) (np := 47) (by decide +kernel) (by decide) la2 (fun q35 => ?_) (fun q36 => ?_)
      · have q35 : a2 ≠ 2147483648 := q35
        refine x_aload (np := 69) (x := 0) (by decide +kernel) rfl (x_nc_le (by decide)) ?_
        have q37 : h 0 1 = 45 := by have z := jB (e := 1) 0 hJ rg_0_1_0_1 (by decide) (by decide); omega
        refine x_getR (np := 72) (x := 641) (f := 1) (q := 45) (by decide +kernel) (by decide) (by decide +kernel) q37 ?_
        refine x_iload (np := 73) (x := 3) (by decide +kernel) rfl l34 ?_
        refine x_aload (np := 74) (x := 0) (by decide +kernel) rfl (x_nc_le (by decide)) ?_
        refine x_getR (np := 77) (x := 648) (f := 8) (q := (h 0 8)) (by decide +kernel) (by decide) (by decide +kernel) rfl ?_
        have q38 : h (h 0 8) 1 = ((h 0 8) + 3) := tf_0_1 hJ t1
        refine x_getR (np := 80) (x := 513) (f := 1) (q := ((h 0 8) + 3)) (by decide +kernel) (by decide) (tg_0_513_1_1 t1) q38 ?_
        refine x_iload (np := 81) (x := 1) (by decide +kernel) rfl la1 ?_
        refine x_const (np := 82) (x := 9223372047592194050) (a := 2147483650) (by decide +kernel) (by decide) (by decide) ?_
        refine x_nI (t := 6) (mj := 68) (n := 3) (rc := 7) (ml := 4) (nr := 2) (np := 85) (as := [x_r ((h 0 8) + 3), iv_c a1, iv_c 2147483650]) (rest := [iv_c ((h ((h 0 8) + 4) (4 * u30))), x_r 45]) (lo1 := [x_r ((h 0 8) + 3), iv_c a1, iv_c 2147483650, 147573952589676412928]) (by decide +kernel) (by decide) (by decide +kernel) (x_rb_of (tr_3_7 t1)) rfl rfl (x_wr (tn_3 t1) (x_wi la1 (x_wi (by decide) x_wn))) (x_wi l34 (x_wr (by decide) x_wn)) (by decide) rfl ?_
        refine x_iload (np := 1) (x := 1) (by decide +kernel) rfl la1 ?_
        refine x_ifz (k := 2) (tg := 28) (np := 4) (by decide +kernel) (by decide) la1 (fun q39 => ?_) (fun q40 => ?_)
        · have q39 : a1 < 2147483648 := q39
          exfalso; omega
        have q40 : ¬ (a1 < 2147483648) := q40
        refine x_iload (np := 5) (x := 1) (by decide +kernel) rfl la1 ?_
        refine x_aload (np := 6) (x := 0) (by decide +kernel) rfl (x_nc_le (tn_3 t1)) ?_
        refine x_getC (np := 9) (x := 386) (f := 2) (q := (h ((h 0 8) + 3) 2)) (by decide +kernel) (by decide) (tg_3_386_2_0 t1) rfl (fun l41 => ?_)
        refine x_icmp (k := 3) (tg := 28) (np := 12) (by decide +kernel) (by decide) la1 l6 (fun q42 => ?_) (fun q43 => ?_)
        · have q42 : (h ((h 0 8) + 3) 2) ≤ a1 := q42
          exfalso; omega
        have q43 : ¬ ((h ((h 0 8) + 3) 2) ≤ a1) := q43
        refine x_iload (np := 13) (x := 2) (by decide +kernel) rfl (by decide) ?_
        refine x_ifz (k := 2) (tg := 28) (np := 16) (by decide +kernel) (by decide) (by decide) (fun q44 => ?_) (fun q45 => ?_)
        · have q44 : 2147483650 < 2147483648 := q44
          exfalso; omega
        have q45 : ¬ (2147483650 < 2147483648) := q45
        refine x_iload (np := 17) (x := 2) (by decide +kernel) rfl (by decide) ?_
        refine x_aload (np := 18) (x := 0) (by decide +kernel) rfl (x_nc_le (tn_3 t1)) ?_
        refine x_getC (np := 21) (x := 384) (f := 0) (q := 2147483652) (by decide +kernel) (by decide) (tg_3_384_0_0 t1) q22 (fun l46 => ?_)
        refine x_icmp (k := 3) (tg := 28) (np := 24) (by decide +kernel) (by decide) (by decide) (by decide) (fun q47 => ?_) (fun q48 => ?_)
        · have q47 : 2147483652 ≤ 2147483650 := q47
          exfalso; omega
        have q48 : ¬ (2147483652 ≤ 2147483650) := q48
        refine x_const (np := 25) (x := 9223372043297226753) (a := 2147483649) (by decide +kernel) (by decide) (by decide) ?_
        refine x_goto (np := 28) (x := 29) (by decide +kernel) ?_
        refine x_istore (np := 30) (x := 3) (lo' := [x_r ((h 0 8) + 3), iv_c a1, iv_c 2147483650, iv_c 2147483649]) (by decide +kernel) (by decide) (Nat.le_of_ble_eq_true rfl) rfl ?_
        refine x_iload (np := 31) (x := 3) (by decide +kernel) rfl (by decide) ?_
        refine x_ifz (k := 0) (tg := 50) (np := 34) (by decide +kernel) (by decide) (by decide) (fun q49 => ?_) (fun q50 => ?_)
        · have q49 : 2147483649 = 2147483648 := q49
          exfalso; omega
        have q50 : ¬ (2147483649 = 2147483648) := q50
        refine x_aload (np := 35) (x := 0) (by decide +kernel) rfl (x_nc_le (tn_3 t1)) ?_
        have q51 : h ((h 0 8) + 3) 1 = ((h 0 8) + 4) := tf_3_1 hJ t1
        refine x_getR (np := 38) (x := 385) (f := 1) (q := ((h 0 8) + 4)) (by decide +kernel) (by decide) (tg_3_385_1_1 t1) q51 ?_
        refine x_iload (np := 39) (x := 1) (by decide +kernel) rfl la1 ?_
        refine x_aload (np := 40) (x := 0) (by decide +kernel) rfl (x_nc_le (tn_3 t1)) ?_
        refine x_getC (np := 43) (x := 384) (f := 0) (q := 2147483652) (by decide +kernel) (by decide) (tg_3_384_0_0 t1) q22 (fun l52 => ?_)
        refine x_imul (np := 44) (x := 0) (i := u30) (j := 4) (v := (2147483648 + 4 * u30)) (by decide +kernel) (by omega) (by omega) (by omega) (by omega) la1 (by decide) ?_
        refine x_iload (np := 45) (x := 2) (by decide +kernel) rfl (by decide) ?_
        refine x_iadd (np := 46) (x := 0) (v := (2147483650 + 4 * u30)) (by decide +kernel) (by omega) (by decide) (by omega) (by omega) ?_
        refine x_aldC (np := 47) (x := 0) (n := 40) (i := (2 + 4 * u30)) (q := ((h ((h 0 8) + 4) (2 + 4 * u30)))) (by decide +kernel) (ta_4_40 t1) (by omega) (by omega) (by decide) rfl (fun l54 => ?_)
        refine x_goto (np := 50) (x := 51) (by decide +kernel) ?_
        refine x_retI (np := 52) (x := 0) (by decide +kernel) l54 (Or.inl (by decide +kernel)) ⟨_, rfl, l54, ?_⟩
        refine x_cP (t := 6) (mj := 11) (n := 3) (rc := 2) (ml := 4) (nr := 0) (np := 88) (as := [x_r 45, iv_c ((h ((h 0 8) + 4) (4 * u30))), iv_c ((h ((h 0 8) + 4) (2 + 4 * u30)))]) (rest := []) (lo1 := [x_r 45, iv_c ((h ((h 0 8) + 4) (4 * u30))), iv_c ((h ((h 0 8) + 4) (2 + 4 * u30))), 147573952589676412928]) (by decide +kernel) (by decide) (by decide +kernel) (x_rb_of (by decide +kernel)) rfl rfl (x_wr (by decide) (x_wi l34 (x_wi l54 x_wn))) x_wn (by decide) rfl (c11_45 hJ  (by omega) (by omega)) (fun v55 l56 q57 => ?_)
        refine x_istore (np := 90) (x := 4) (lo' := [x_r 0, iv_c a1, iv_c a2, iv_c ((h ((h 0 8) + 4) (4 * u30))), iv_c v55]) (by decide +kernel) l56 (Nat.le_of_ble_eq_true rfl) rfl ?_
        refine x_iload (np := 92) (x := 4) (by decide +kernel) rfl l56 ?_
        refine x_const (np := 93) (x := 9223372034707292159) (a := 2147483647) (by decide +kernel) (by decide) (by decide) ?_
        refine x_icmp (k := 0) (tg := 101) (np := 96) (by decide +kernel) (by decide) l56 (by decide) (fun q58 => ?_) (fun q59 => ?_)
        · have q58 : v55 = 2147483647 := q58
          refine x_iload (np := 103) (x := 4) (by decide +kernel) rfl l56 ?_
          refine x_retI (np := 104) (x := 0) (by decide +kernel) l56 (Or.inl (by decide +kernel)) (Or.inl ⟨_, rfl, l56, ?_⟩)
          exact ⟨hJ, hF, (by omega)⟩
        have q59 : ¬ (v55 = 2147483647) := q59
        refine x_iload (np := 97) (x := 2) (by decide +kernel) rfl la2 ?_
        refine x_const (np := 98) (x := 9223372047592194050) (a := 2147483650) (by decide +kernel) (by decide) (by decide) ?_
        refine x_icmp (k := 1) (tg := 104) (np := 101) (by decide +kernel) (by decide) la2 (by decide) (fun q60 => ?_) (fun q61 => ?_)
        · have q60 : a2 ≠ 2147483650 := q60
          refine x_aload (np := 105) (x := 0) (by decide +kernel) rfl (x_nc_le (by decide)) ?_
          have q62 : h 0 1 = 45 := by have z := jB (e := 1) 0 hJ rg_0_1_0_1 (by decide) (by decide); omega
          refine x_getR (np := 108) (x := 641) (f := 1) (q := 45) (by decide +kernel) (by decide) (by decide +kernel) q62 ?_
          refine x_iload (np := 109) (x := 3) (by decide +kernel) rfl l34 ?_
          refine x_iload (np := 111) (x := 4) (by decide +kernel) rfl l56 ?_
          refine x_cP (t := 6) (mj := 5) (n := 3) (rc := 2) (ml := 3) (nr := 0) (np := 114) (as := [x_r 45, iv_c ((h ((h 0 8) + 4) (4 * u30))), iv_c v55]) (rest := []) (lo1 := [x_r 45, iv_c ((h ((h 0 8) + 4) (4 * u30))), iv_c v55]) (by decide +kernel) (by decide) (by decide +kernel) (x_rb_of (by decide +kernel)) rfl rfl (x_wr (by decide) (x_wi l34 (x_wi l56 x_wn))) x_wn (by decide) rfl (c5_45n hJ  (by omega) (by omega)) (fun v63 l64 q65 => ?_)
          refine x_retI (np := 115) (x := 0) (by decide +kernel) l64 (Or.inl (by decide +kernel)) (Or.inl ⟨_, rfl, l64, ?_⟩)
          exact ⟨hJ, hF, (by omega)⟩
        have q61 : ¬ (a2 ≠ 2147483650) := q61
        refine x_iload (np := 103) (x := 4) (by decide +kernel) rfl l56 ?_
        refine x_retI (np := 104) (x := 0) (by decide +kernel) l56 (Or.inl (by decide +kernel)) (Or.inl ⟨_, rfl, l56, ?_⟩)
        exact ⟨hJ, hF, (by omega)⟩
      have q36 : ¬ (a2 ≠ 2147483648) := q36
      refine x_aload (np := 48) (x := 0) (by decide +kernel) rfl (x_nc_le (by decide)) ?_
      have q66 : h 0 1 = 45 := by have z := jB (e := 1) 0 hJ rg_0_1_0_1 (by decide) (by decide); omega
      refine x_getR (np := 51) (x := 641) (f := 1) (q := 45) (by decide +kernel) (by decide) (by decide +kernel) q66 ?_
      refine x_iload (np := 52) (x := 3) (by decide +kernel) rfl l34 ?_
      refine x_aload (np := 53) (x := 0) (by decide +kernel) rfl (x_nc_le (by decide)) ?_
      refine x_getR (np := 56) (x := 648) (f := 8) (q := (h 0 8)) (by decide +kernel) (by decide) (by decide +kernel) rfl ?_
      have q67 : h (h 0 8) 1 = ((h 0 8) + 3) := tf_0_1 hJ t1
      refine x_getR (np := 59) (x := 513) (f := 1) (q := ((h 0 8) + 3)) (by decide +kernel) (by decide) (tg_0_513_1_1 t1) q67 ?_
      refine x_iload (np := 60) (x := 1) (by decide +kernel) rfl la1 ?_
      refine x_const (np := 61) (x := 9223372043297226753) (a := 2147483649) (by decide +kernel) (by decide) (by decide) ?_
      refine x_nI (t := 6) (mj := 68) (n := 3) (rc := 7) (ml := 4) (nr := 2) (np := 64) (as := [x_r ((h 0 8) + 3), iv_c a1, iv_c 2147483649]) (rest := [iv_c ((h ((h 0 8) + 4) (4 * u30))), x_r 45]) (lo1 := [x_r ((h 0 8) + 3), iv_c a1, iv_c 2147483649, 147573952589676412928]) (by decide +kernel) (by decide) (by decide +kernel) (x_rb_of (tr_3_7 t1)) rfl rfl (x_wr (tn_3 t1) (x_wi la1 (x_wi (by decide) x_wn))) (x_wi l34 (x_wr (by decide) x_wn)) (by decide) rfl ?_
      refine x_iload (np := 1) (x := 1) (by decide +kernel) rfl la1 ?_
      refine x_ifz (k := 2) (tg := 28) (np := 4) (by decide +kernel) (by decide) la1 (fun q68 => ?_) (fun q69 => ?_)
      · have q68 : a1 < 2147483648 := q68
        exfalso; omega
      have q69 : ¬ (a1 < 2147483648) := q69
      refine x_iload (np := 5) (x := 1) (by decide +kernel) rfl la1 ?_
      refine x_aload (np := 6) (x := 0) (by decide +kernel) rfl (x_nc_le (tn_3 t1)) ?_
      refine x_getC (np := 9) (x := 386) (f := 2) (q := (h ((h 0 8) + 3) 2)) (by decide +kernel) (by decide) (tg_3_386_2_0 t1) rfl (fun l70 => ?_)
      refine x_icmp (k := 3) (tg := 28) (np := 12) (by decide +kernel) (by decide) la1 l6 (fun q71 => ?_) (fun q72 => ?_)
      · have q71 : (h ((h 0 8) + 3) 2) ≤ a1 := q71
        exfalso; omega
      have q72 : ¬ ((h ((h 0 8) + 3) 2) ≤ a1) := q72
      refine x_iload (np := 13) (x := 2) (by decide +kernel) rfl (by decide) ?_
      refine x_ifz (k := 2) (tg := 28) (np := 16) (by decide +kernel) (by decide) (by decide) (fun q73 => ?_) (fun q74 => ?_)
      · have q73 : 2147483649 < 2147483648 := q73
        exfalso; omega
      have q74 : ¬ (2147483649 < 2147483648) := q74
      refine x_iload (np := 17) (x := 2) (by decide +kernel) rfl (by decide) ?_
      refine x_aload (np := 18) (x := 0) (by decide +kernel) rfl (x_nc_le (tn_3 t1)) ?_
      refine x_getC (np := 21) (x := 384) (f := 0) (q := 2147483652) (by decide +kernel) (by decide) (tg_3_384_0_0 t1) q22 (fun l75 => ?_)
      refine x_icmp (k := 3) (tg := 28) (np := 24) (by decide +kernel) (by decide) (by decide) (by decide) (fun q76 => ?_) (fun q77 => ?_)
      · have q76 : 2147483652 ≤ 2147483649 := q76
        exfalso; omega
      have q77 : ¬ (2147483652 ≤ 2147483649) := q77
      refine x_const (np := 25) (x := 9223372043297226753) (a := 2147483649) (by decide +kernel) (by decide) (by decide) ?_
      refine x_goto (np := 28) (x := 29) (by decide +kernel) ?_
      refine x_istore (np := 30) (x := 3) (lo' := [x_r ((h 0 8) + 3), iv_c a1, iv_c 2147483649, iv_c 2147483649]) (by decide +kernel) (by decide) (Nat.le_of_ble_eq_true rfl) rfl ?_
      refine x_iload (np := 31) (x := 3) (by decide +kernel) rfl (by decide) ?_
      refine x_ifz (k := 0) (tg := 50) (np := 34) (by decide +kernel) (by decide) (by decide) (fun q78 => ?_) (fun q79 => ?_)
      · have q78 : 2147483649 = 2147483648 := q78
        exfalso; omega
      have q79 : ¬ (2147483649 = 2147483648) := q79
      refine x_aload (np := 35) (x := 0) (by decide +kernel) rfl (x_nc_le (tn_3 t1)) ?_
      have q80 : h ((h 0 8) + 3) 1 = ((h 0 8) + 4) := tf_3_1 hJ t1
      refine x_getR (np := 38) (x := 385) (f := 1) (q := ((h 0 8) + 4)) (by decide +kernel) (by decide) (tg_3_385_1_1 t1) q80 ?_
      refine x_iload (np := 39) (x := 1) (by decide +kernel) rfl la1 ?_
      refine x_aload (np := 40) (x := 0) (by decide +kernel) rfl (x_nc_le (tn_3 t1)) ?_
      refine x_getC (np := 43) (x := 384) (f := 0) (q := 2147483652) (by decide +kernel) (by decide) (tg_3_384_0_0 t1) q22 (fun l81 => ?_)
      refine x_imul (np := 44) (x := 0) (i := u30) (j := 4) (v := (2147483648 + 4 * u30)) (by decide +kernel) (by omega) (by omega) (by omega) (by omega) la1 (by decide) ?_
      refine x_iload (np := 45) (x := 2) (by decide +kernel) rfl (by decide) ?_
      refine x_iadd (np := 46) (x := 0) (v := (2147483649 + 4 * u30)) (by decide +kernel) (by omega) (by decide) (by omega) (by omega) ?_
      refine x_aldC (np := 47) (x := 0) (n := 40) (i := (1 + 4 * u30)) (q := ((h ((h 0 8) + 4) (1 + 4 * u30)))) (by decide +kernel) (ta_4_40 t1) (by omega) (by omega) (by decide) rfl (fun l83 => ?_)
      refine x_goto (np := 50) (x := 51) (by decide +kernel) ?_
      refine x_retI (np := 52) (x := 0) (by decide +kernel) l83 (Or.inl (by decide +kernel)) ⟨_, rfl, l83, ?_⟩
      refine x_cP (t := 6) (mj := 5) (n := 3) (rc := 2) (ml := 3) (nr := 0) (np := 67) (as := [x_r 45, iv_c ((h ((h 0 8) + 4) (4 * u30))), iv_c ((h ((h 0 8) + 4) (1 + 4 * u30)))]) (rest := []) (lo1 := [x_r 45, iv_c ((h ((h 0 8) + 4) (4 * u30))), iv_c ((h ((h 0 8) + 4) (1 + 4 * u30)))]) (by decide +kernel) (by decide) (by decide +kernel) (x_rb_of (by decide +kernel)) rfl rfl (x_wr (by decide) (x_wi l34 (x_wi l83 x_wn))) x_wn (by decide) rfl (c5_45n hJ  (by omega) (by omega)) (fun v84 l85 q86 => ?_)
      refine x_retI (np := 68) (x := 0) (by decide +kernel) l85 (Or.inl (by decide +kernel)) (Or.inl ⟨_, rfl, l85, ?_⟩)
      exact ⟨hJ, hF, (by omega)⟩
    have q12 : ¬ (a2 ≤ 2147483650) := q12
    refine x_thrN (is := 238) (text := "a letter has no such number") rfl rfl (List.mem_of_getElem? (i := 9) rfl) (by rw [tb_b124]; decide +kernel) (by rw [tb_b124]; decide +kernel) (by rw [tb_b124]; decide +kernel) (by rw [tb_b124]; decide +kernel) (by rw [tb_b124]; decide +kernel) (by decide +kernel) (Nat.le_trans x_wn (by decide)) (Or.inr ⟨_, rfl, ?_⟩)
    exact ⟨hJ, hF, by decide⟩
  have q8 : ¬ (a1 < (h ((h 0 8) + 3) 2)) := q8
  refine x_thr (np := 15) (x := 2) (by decide +kernel) (by decide +kernel) (Nat.le_trans x_wn (by decide)) (Or.inr ⟨_, rfl, ?_⟩)
  refine Or.inr ⟨_, rfl, ?_⟩
  exact ⟨hJ, hF, by decide⟩
