/-! ===== methods ===== -/
set_option maxHeartbeats 0 in
/-- LentNames.plan(II)I -/
theorem c127_0 {sc : Nat × Nat} {d a1 a2 : Nat} {h : xh} (hJ : J h) (ba1 : 0 ≤ a1 ∧ a1 ≤ 4294967295) (ba2 : 0 ≤ a2 ∧ a2 ≤ 4294967295) : X sc 127 (d + 25) (xT (fun r h' => J h' ∧ Fr 32769 h h' ∧ (0 ≤ r ∧ r ≤ 4294967295)) (fun E h' => J h' ∧ Fr 32769 h h' ∧ (E = 0))) 0 0 0 [x_r 0, iv_c a1, iv_c a2] [] h := by
  have la1 : a1 < 4294967296 := by omega
  have la2 : a2 < 4294967296 := by omega
  have hF := Fr.refl 32769 h
  refine x_iload (np := 1) (x := 1) (by decide +kernel) rfl la1 ?_
  refine x_ifz (k := 2) (tg := 10) (np := 4) (by decide +kernel) (by decide) la1 (fun q1 => ?_) (fun q2 => ?_)
  · have q1 : a1 < 2147483648 := q1
    refine x_thr (np := 13) (x := 0) (by decide +kernel) (by decide +kernel) (Nat.le_trans x_wn (by decide)) (Or.inr ⟨_, rfl, ?_⟩)
    exact ⟨hJ, hF, by decide⟩
  have q2 : ¬ (a1 < 2147483648) := q2
  refine x_iload (np := 5) (x := 1) (by decide +kernel) rfl la1 ?_
  refine x_const (np := 7) (x := 9223372090541867020) (a := 2147483660) (by decide +kernel) (by decide) (by decide) ?_
  refine x_icmp (k := 5) (tg := 20) (np := 10) (by decide +kernel) (by decide) la1 (by decide) (fun q3 => ?_) (fun q4 => ?_)
  · have q3 : a1 ≤ 2147483660 := q3
    refine x_iload (np := 21) (x := 2) (by decide +kernel) rfl la2 ?_
    refine x_const (np := 22) (x := 9223372034707292159) (a := 2147483647) (by decide +kernel) (by decide) (by decide) ?_
    refine x_icmp (k := 3) (tg := 35) (np := 25) (by decide +kernel) (by decide) la2 (by decide) (fun q5 => ?_) (fun q6 => ?_)
    · have q5 : 2147483647 ≤ a2 := q5
      refine x_aload (np := 36) (x := 0) (by decide +kernel) rfl (x_nc_le (by decide)) ?_
      have q7 : h 0 5 = 63 := by have z := jB (e := 5) 0 hJ rg_0_5_0_1 (by decide) (by decide); omega
      refine x_getR (np := 39) (x := 645) (f := 5) (q := 63) (by decide +kernel) (by decide) (by decide +kernel) q7 ?_
      refine x_iload (np := 40) (x := 1) (by decide +kernel) rfl la1 ?_
      refine x_cV (t := 8) (mj := 271) (n := 2) (rc := 5) (ml := 3) (nr := 0) (np := 43) (as := [x_r 63, iv_c a1]) (rest := []) (lo1 := [x_r 63, iv_c a1, 147573952589676412928]) (by decide +kernel) (by decide) (by decide +kernel) (x_rb_of (by decide +kernel)) rfl rfl (x_wr (by decide) (x_wi la1 x_wn)) x_wn (by decide) rfl (c271_63 hJ  (by omega)) (fun h11 q10 => ?_)
      obtain ⟨j12, f13⟩ := q10
      have f16 := Fr.trans hF f13 (by decide)
      refine x_aload (np := 44) (x := 0) (by decide +kernel) rfl (x_nc_le (by decide)) ?_
      have q17 : h11 0 5 = 63 := by have z := jB (e := 5) 0 j12 rg_0_5_0_1 (by decide) (by decide); omega
      refine x_getR (np := 47) (x := 645) (f := 5) (q := 63) (by decide +kernel) (by decide) (by decide +kernel) q17 ?_
      have b18 := jB (e := 9) 0 j12 rg_63_9_0_1 (by omega) (by omega)
      refine x_getC (np := 50) (x := 777) (f := 9) (q := (h11 63 9)) (by decide +kernel) (by decide) (by decide +kernel) rfl (fun l19 => ?_)
      refine x_ifz (k := 0) (tg := 58) (np := 53) (by decide +kernel) (by decide) l19 (fun q20 => ?_) (fun q21 => ?_)
      · have q20 : (h11 63 9) = 2147483648 := q20
        refine x_aload (np := 59) (x := 0) (by decide +kernel) rfl (x_nc_le (by decide)) ?_
        have q22 : h11 0 5 = 63 := by have z := jB (e := 5) 0 j12 rg_0_5_0_1 (by decide) (by decide); omega
        refine x_getR (np := 62) (x := 645) (f := 5) (q := 63) (by decide +kernel) (by decide) (by decide +kernel) q22 ?_
        refine x_iload (np := 63) (x := 2) (by decide +kernel) rfl la2 ?_
        refine x_nI (t := 8) (mj := 272) (n := 2) (rc := 5) (ml := 2) (nr := 0) (np := 66) (as := [x_r 63, iv_c a2]) (rest := []) (lo1 := [x_r 63, iv_c a2]) (by decide +kernel) (by decide) (by decide +kernel) (x_rb_of (by decide +kernel)) rfl rfl (x_wr (by decide) (x_wi la2 x_wn)) x_wn (by decide) rfl ?_
        refine x_aload (np := 1) (x := 0) (by decide +kernel) rfl (x_nc_le (by decide)) ?_
        refine x_getC (np := 4) (x := 776) (f := 8) (q := (h11 63 8)) (by decide +kernel) (by decide) (by decide +kernel) rfl (fun l23 => ?_)
        refine x_ifz (k := 1) (tg := 9) (np := 7) (by decide +kernel) (by decide) l23 (fun q24 => ?_) (fun q25 => ?_)
        · have q24 : (h11 63 8) ≠ 2147483648 := q24
          refine x_iload (np := 10) (x := 1) (by decide +kernel) rfl la2 ?_
          refine x_const (np := 11) (x := 9223372034707292159) (a := 2147483647) (by decide +kernel) (by decide) (by decide) ?_
          refine x_icmp (k := 1) (tg := 19) (np := 14) (by decide +kernel) (by decide) la2 (by decide) (fun q26 => ?_) (fun q27 => ?_)
          · have q26 : a2 ≠ 2147483647 := q26
            refine x_iload (np := 20) (x := 1) (by decide +kernel) rfl la2 ?_
            refine x_ifz (k := 2) (tg := 40) (np := 23) (by decide +kernel) (by decide) la2 (fun q28 => ?_) (fun q29 => ?_)
            · have q28 : a2 < 2147483648 := q28
              exfalso; omega
            have q29 : ¬ (a2 < 2147483648) := q29
            refine x_iload (np := 24) (x := 1) (by decide +kernel) rfl la2 ?_
            refine x_aload (np := 25) (x := 0) (by decide +kernel) rfl (x_nc_le (by decide)) ?_
            have b30 := jB (e := 15) 0 j12 rg_63_15_0_1 (by omega) (by omega)
            refine x_getC (np := 28) (x := 783) (f := 15) (q := (h11 63 15)) (by decide +kernel) (by decide) (by decide +kernel) rfl (fun l31 => ?_)
            refine x_icmp (k := 3) (tg := 40) (np := 31) (by decide +kernel) (by decide) la2 l31 (fun q32 => ?_) (fun q33 => ?_)
            · have q32 : (h11 63 15) ≤ a2 := q32
              refine x_const (np := 41) (x := 9223372034707292159) (a := 2147483647) (by decide +kernel) (by decide) (by decide) ?_
              refine x_retI (np := 42) (x := 0) (by decide +kernel) (by decide) (Or.inl (by decide +kernel)) ⟨_, rfl, (by decide), ?_⟩
              refine x_retI (np := 67) (x := 0) (by decide +kernel) (by decide) (Or.inl (by decide +kernel)) (Or.inl ⟨_, rfl, (by decide), ?_⟩)
              exact ⟨j12, f16, (by omega)⟩
            have q33 : ¬ ((h11 63 15) ≤ a2) := q33
            refine x_aload (np := 32) (x := 0) (by decide +kernel) rfl (x_nc_le (by decide)) ?_
            have q34 : h11 63 4 = 68 := by have z := jB (e := 4) 0 j12 rg_63_4_0_1 (by decide) (by decide); omega
            refine x_getR (np := 35) (x := 772) (f := 4) (q := 68) (by decide +kernel) (by decide) (by decide +kernel) q34 ?_
            refine x_iload (np := 36) (x := 1) (by decide +kernel) rfl la2 ?_
            obtain ⟨u35, q36⟩ : ∃ z, a2 = 2147483648 + z := ⟨a2 - 2147483648, by omega⟩
            refine x_aldC (np := 37) (x := 0) (n := 5) (i := u35) (q := (h11 68 u35)) (by decide +kernel) (by decide +kernel) (by omega) (by omega) (by decide) rfl (fun l37 => ?_)
            refine x_goto (np := 40) (x := 41) (by decide +kernel) ?_
            refine x_retI (np := 42) (x := 0) (by decide +kernel) l37 (Or.inl (by decide +kernel)) ⟨_, rfl, l37, ?_⟩
            refine x_retI (np := 67) (x := 0) (by decide +kernel) l37 (Or.inl (by decide +kernel)) (Or.inl ⟨_, rfl, l37, ?_⟩)
            exact ⟨j12, f16, (by omega)⟩
          have q27 : ¬ (a2 ≠ 2147483647) := q27
          refine x_aload (np := 15) (x := 0) (by decide +kernel) rfl (x_nc_le (by decide)) ?_
          have b38 := jB (e := 15) 0 j12 rg_63_15_0_1 (by omega) (by omega)
          refine x_getC (np := 18) (x := 783) (f := 15) (q := (h11 63 15)) (by decide +kernel) (by decide) (by decide +kernel) rfl (fun l39 => ?_)
          refine x_retI (np := 19) (x := 0) (by decide +kernel) l39 (Or.inl (by decide +kernel)) ⟨_, rfl, l39, ?_⟩
          refine x_retI (np := 67) (x := 0) (by decide +kernel) l39 (Or.inl (by decide +kernel)) (Or.inl ⟨_, rfl, l39, ?_⟩)
          exact ⟨j12, f16, (by omega)⟩
        have q25 : ¬ ((h11 63 8) ≠ 2147483648) := q25
        refine x_const (np := 8) (x := 9223372034707292159) (a := 2147483647) (by decide +kernel) (by decide) (by decide) ?_
        refine x_retI (np := 9) (x := 0) (by decide +kernel) (by decide) (Or.inl (by decide +kernel)) ⟨_, rfl, (by decide), ?_⟩
        refine x_retI (np := 67) (x := 0) (by decide +kernel) (by decide) (Or.inl (by decide +kernel)) (Or.inl ⟨_, rfl, (by decide), ?_⟩)
        exact ⟨j12, f16, (by omega)⟩
      have q21 : ¬ ((h11 63 9) = 2147483648) := q21
      refine x_const (np := 55) (x := 9223372030412324862) (a := 2147483646) (by decide +kernel) (by decide) (by decide) ?_
      refine x_goto (np := 58) (x := 66) (by decide +kernel) ?_
      refine x_retI (np := 67) (x := 0) (by decide +kernel) (by decide) (Or.inl (by decide +kernel)) (Or.inl ⟨_, rfl, (by decide), ?_⟩)
      exact ⟨j12, f16, (by omega)⟩
    have q6 : ¬ (2147483647 ≤ a2) := q6
    refine x_thr (np := 28) (x := 0) (by decide +kernel) (by decide +kernel) (Nat.le_trans x_wn (by decide)) (Or.inr ⟨_, rfl, ?_⟩)
    exact ⟨hJ, hF, by decide⟩
  have q4 : ¬ (a1 ≤ 2147483660) := q4
  refine x_thr (np := 13) (x := 0) (by decide +kernel) (by decide +kernel) (Nat.le_trans x_wn (by decide)) (Or.inr ⟨_, rfl, ?_⟩)
  exact ⟨hJ, hF, by decide⟩
set_option maxHeartbeats 0 in
/-- LentNames$Table.at(II)I -/
theorem c68_T5_c1 {sc : Nat × Nat} {d ra0 a1 : Nat} {h : xh} (hJ : J h) (ta0 : tw ra0) (ba1 : 2147483648 ≤ a1 ∧ a1 ≤ 2147483657) : X sc 68 d (xI fun r h' => h' = h ∧ (0 ≤ r ∧ r ≤ 4294967295)) 0 0 0 [x_r (ra0 + 5), iv_c a1, iv_c 2147483649, 147573952589676412928] [] h := by
  have la1 : a1 < 4294967296 := by omega
  refine x_iload (np := 1) (x := 1) (by decide +kernel) rfl la1 ?_
  refine x_ifz (k := 2) (tg := 28) (np := 4) (by decide +kernel) (by decide) la1 (fun q1 => ?_) (fun q2 => ?_)
  · have q1 : a1 < 2147483648 := q1
    exfalso; omega
  have q2 : ¬ (a1 < 2147483648) := q2
  refine x_iload (np := 5) (x := 1) (by decide +kernel) rfl la1 ?_
  refine x_aload (np := 6) (x := 0) (by decide +kernel) rfl (x_nc_le (tn_5 ta0)) ?_
  have b3 := jB (e := 2) 0 hJ (rg_T5_2_0_1 ta0) (by omega) (by omega)
  refine x_getC (np := 9) (x := 386) (f := 2) (q := (h (ra0 + 5) 2)) (by decide +kernel) (by decide) (tg_5_386_2_0 ta0) rfl (fun l4 => ?_)
  refine x_icmp (k := 3) (tg := 28) (np := 12) (by decide +kernel) (by decide) la1 l4 (fun q5 => ?_) (fun q6 => ?_)
  · have q5 : (h (ra0 + 5) 2) ≤ a1 := q5
    refine x_const (np := 29) (x := 9223372039002259456) (a := 2147483648) (by decide +kernel) (by decide) (by decide) ?_
    refine x_istore (np := 30) (x := 3) (lo' := [x_r (ra0 + 5), iv_c a1, iv_c 2147483649, iv_c 2147483648]) (by decide +kernel) (by decide) (Nat.le_of_ble_eq_true rfl) rfl ?_
    refine x_iload (np := 31) (x := 3) (by decide +kernel) rfl (by decide) ?_
    refine x_ifz (k := 0) (tg := 50) (np := 34) (by decide +kernel) (by decide) (by decide) (fun q7 => ?_) (fun q8 => ?_)
    · have q7 : 2147483648 = 2147483648 := q7
      refine x_const (np := 51) (x := 9223372034707292159) (a := 2147483647) (by decide +kernel) (by decide) (by decide) ?_
      refine x_retI (np := 52) (x := 0) (by decide +kernel) (by decide) (Or.inl (by decide +kernel)) ⟨_, rfl, (by decide), ?_⟩
      exact ⟨rfl, (by omega)⟩
    have q8 : ¬ (2147483648 = 2147483648) := q8
    exfalso; omega
  have q6 : ¬ ((h (ra0 + 5) 2) ≤ a1) := q6
  refine x_iload (np := 13) (x := 2) (by decide +kernel) rfl (by decide) ?_
  refine x_ifz (k := 2) (tg := 28) (np := 16) (by decide +kernel) (by decide) (by decide) (fun q9 => ?_) (fun q10 => ?_)
  · have q9 : 2147483649 < 2147483648 := q9
    exfalso; omega
  have q10 : ¬ (2147483649 < 2147483648) := q10
  refine x_iload (np := 17) (x := 2) (by decide +kernel) rfl (by decide) ?_
  refine x_aload (np := 18) (x := 0) (by decide +kernel) rfl (x_nc_le (tn_5 ta0)) ?_
  have b11 := jB (e := 0) 0 hJ (rg_T5_0_0_1 ta0) (by omega) (by omega)
  have q12 : (h (ra0 + 5) 0) = 2147483652 := by omega
  refine x_getC (np := 21) (x := 384) (f := 0) (q := 2147483652) (by decide +kernel) (by decide) (tg_5_384_0_0 ta0) q12 (fun l13 => ?_)
  refine x_icmp (k := 3) (tg := 28) (np := 24) (by decide +kernel) (by decide) (by decide) (by decide) (fun q14 => ?_) (fun q15 => ?_)
  · have q14 : 2147483652 ≤ 2147483649 := q14
    exfalso; omega
  have q15 : ¬ (2147483652 ≤ 2147483649) := q15
  refine x_const (np := 25) (x := 9223372043297226753) (a := 2147483649) (by decide +kernel) (by decide) (by decide) ?_
  refine x_goto (np := 28) (x := 29) (by decide +kernel) ?_
  refine x_istore (np := 30) (x := 3) (lo' := [x_r (ra0 + 5), iv_c a1, iv_c 2147483649, iv_c 2147483649]) (by decide +kernel) (by decide) (Nat.le_of_ble_eq_true rfl) rfl ?_
  refine x_iload (np := 31) (x := 3) (by decide +kernel) rfl (by decide) ?_
  refine x_ifz (k := 0) (tg := 50) (np := 34) (by decide +kernel) (by decide) (by decide) (fun q16 => ?_) (fun q17 => ?_)
  · have q16 : 2147483649 = 2147483648 := q16
    exfalso; omega
  have q17 : ¬ (2147483649 = 2147483648) := q17
  refine x_aload (np := 35) (x := 0) (by decide +kernel) rfl (x_nc_le (tn_5 ta0)) ?_
  have q18 : h (ra0 + 5) 1 = (ra0 + 6) := tf_5_1 hJ ta0
  refine x_getR (np := 38) (x := 385) (f := 1) (q := (ra0 + 6)) (by decide +kernel) (by decide) (tg_5_385_1_1 ta0) q18 ?_
  refine x_iload (np := 39) (x := 1) (by decide +kernel) rfl la1 ?_
  refine x_aload (np := 40) (x := 0) (by decide +kernel) rfl (x_nc_le (tn_5 ta0)) ?_
  refine x_getC (np := 43) (x := 384) (f := 0) (q := 2147483652) (by decide +kernel) (by decide) (tg_5_384_0_0 ta0) q12 (fun l19 => ?_)
  obtain ⟨u20, q21⟩ : ∃ z, a1 = 2147483648 + z := ⟨a1 - 2147483648, by omega⟩
  refine x_imul (np := 44) (x := 0) (i := u20) (j := 4) (v := (2147483648 + 4 * u20)) (by decide +kernel) (by omega) (by omega) (by omega) (by omega) la1 (by decide) ?_
  refine x_iload (np := 45) (x := 2) (by decide +kernel) rfl (by decide) ?_
  refine x_iadd (np := 46) (x := 0) (v := (2147483649 + 4 * u20)) (by decide +kernel) (by omega) (by decide) (by omega) (by omega) ?_
  refine x_aldC (np := 47) (x := 0) (n := 40) (i := (1 + 4 * u20)) (q := ((h (ra0 + 6) (1 + 4 * u20)))) (by decide +kernel) (ta_6_40 ta0) (by omega) (by omega) (by decide) rfl (fun l23 => ?_)
  refine x_goto (np := 50) (x := 51) (by decide +kernel) ?_
  refine x_retI (np := 52) (x := 0) (by decide +kernel) l23 (Or.inl (by decide +kernel)) ⟨_, rfl, l23, ?_⟩
  exact ⟨rfl, (by omega)⟩
set_option maxHeartbeats 0 in
/-- LentNames$Table.at(II)I -/
theorem c68_T5_c2 {sc : Nat × Nat} {d ra0 a1 : Nat} {h : xh} (hJ : J h) (ta0 : tw ra0) (ba1 : 2147483648 ≤ a1 ∧ a1 ≤ 2147483657) : X sc 68 d (xI fun r h' => h' = h ∧ (0 ≤ r ∧ r ≤ 4294967295)) 0 0 0 [x_r (ra0 + 5), iv_c a1, iv_c 2147483650, 147573952589676412928] [] h := by
  have la1 : a1 < 4294967296 := by omega
  refine x_iload (np := 1) (x := 1) (by decide +kernel) rfl la1 ?_
  refine x_ifz (k := 2) (tg := 28) (np := 4) (by decide +kernel) (by decide) la1 (fun q1 => ?_) (fun q2 => ?_)
  · have q1 : a1 < 2147483648 := q1
    exfalso; omega
  have q2 : ¬ (a1 < 2147483648) := q2
  refine x_iload (np := 5) (x := 1) (by decide +kernel) rfl la1 ?_
  refine x_aload (np := 6) (x := 0) (by decide +kernel) rfl (x_nc_le (tn_5 ta0)) ?_
  have b3 := jB (e := 2) 0 hJ (rg_T5_2_0_1 ta0) (by omega) (by omega)
  refine x_getC (np := 9) (x := 386) (f := 2) (q := (h (ra0 + 5) 2)) (by decide +kernel) (by decide) (tg_5_386_2_0 ta0) rfl (fun l4 => ?_)
  refine x_icmp (k := 3) (tg := 28) (np := 12) (by decide +kernel) (by decide) la1 l4 (fun q5 => ?_) (fun q6 => ?_)
  · have q5 : (h (ra0 + 5) 2) ≤ a1 := q5
    refine x_const (np := 29) (x := 9223372039002259456) (a := 2147483648) (by decide +kernel) (by decide) (by decide) ?_
    refine x_istore (np := 30) (x := 3) (lo' := [x_r (ra0 + 5), iv_c a1, iv_c 2147483650, iv_c 2147483648]) (by decide +kernel) (by decide) (Nat.le_of_ble_eq_true rfl) rfl ?_
    refine x_iload (np := 31) (x := 3) (by decide +kernel) rfl (by decide) ?_
    refine x_ifz (k := 0) (tg := 50) (np := 34) (by decide +kernel) (by decide) (by decide) (fun q7 => ?_) (fun q8 => ?_)
    · have q7 : 2147483648 = 2147483648 := q7
      refine x_const (np := 51) (x := 9223372034707292159) (a := 2147483647) (by decide +kernel) (by decide) (by decide) ?_
      refine x_retI (np := 52) (x := 0) (by decide +kernel) (by decide) (Or.inl (by decide +kernel)) ⟨_, rfl, (by decide), ?_⟩
      exact ⟨rfl, (by omega)⟩
    have q8 : ¬ (2147483648 = 2147483648) := q8
    exfalso; omega
  have q6 : ¬ ((h (ra0 + 5) 2) ≤ a1) := q6
  refine x_iload (np := 13) (x := 2) (by decide +kernel) rfl (by decide) ?_
  refine x_ifz (k := 2) (tg := 28) (np := 16) (by decide +kernel) (by decide) (by decide) (fun q9 => ?_) (fun q10 => ?_)
  · have q9 : 2147483650 < 2147483648 := q9
    exfalso; omega
  have q10 : ¬ (2147483650 < 2147483648) := q10
  refine x_iload (np := 17) (x := 2) (by decide +kernel) rfl (by decide) ?_
  refine x_aload (np := 18) (x := 0) (by decide +kernel) rfl (x_nc_le (tn_5 ta0)) ?_
  have b11 := jB (e := 0) 0 hJ (rg_T5_0_0_1 ta0) (by omega) (by omega)
  have q12 : (h (ra0 + 5) 0) = 2147483652 := by omega
  refine x_getC (np := 21) (x := 384) (f := 0) (q := 2147483652) (by decide +kernel) (by decide) (tg_5_384_0_0 ta0) q12 (fun l13 => ?_)
  refine x_icmp (k := 3) (tg := 28) (np := 24) (by decide +kernel) (by decide) (by decide) (by decide) (fun q14 => ?_) (fun q15 => ?_)
  · have q14 : 2147483652 ≤ 2147483650 := q14
    exfalso; omega
  have q15 : ¬ (2147483652 ≤ 2147483650) := q15
  refine x_const (np := 25) (x := 9223372043297226753) (a := 2147483649) (by decide +kernel) (by decide) (by decide) ?_
  refine x_goto (np := 28) (x := 29) (by decide +kernel) ?_
  refine x_istore (np := 30) (x := 3) (lo' := [x_r (ra0 + 5), iv_c a1, iv_c 2147483650, iv_c 2147483649]) (by decide +kernel) (by decide) (Nat.le_of_ble_eq_true rfl) rfl ?_
  refine x_iload (np := 31) (x := 3) (by decide +kernel) rfl (by decide) ?_
  refine x_ifz (k := 0) (tg := 50) (np := 34) (by decide +kernel) (by decide) (by decide) (fun q16 => ?_) (fun q17 => ?_)
  · have q16 : 2147483649 = 2147483648 := q16
    exfalso; omega
  have q17 : ¬ (2147483649 = 2147483648) := q17
  refine x_aload (np := 35) (x := 0) (by decide +kernel) rfl (x_nc_le (tn_5 ta0)) ?_
  have q18 : h (ra0 + 5) 1 = (ra0 + 6) := tf_5_1 hJ ta0
  refine x_getR (np := 38) (x := 385) (f := 1) (q := (ra0 + 6)) (by decide +kernel) (by decide) (tg_5_385_1_1 ta0) q18 ?_
  refine x_iload (np := 39) (x := 1) (by decide +kernel) rfl la1 ?_
  refine x_aload (np := 40) (x := 0) (by decide +kernel) rfl (x_nc_le (tn_5 ta0)) ?_
  refine x_getC (np := 43) (x := 384) (f := 0) (q := 2147483652) (by decide +kernel) (by decide) (tg_5_384_0_0 ta0) q12 (fun l19 => ?_)
  obtain ⟨u20, q21⟩ : ∃ z, a1 = 2147483648 + z := ⟨a1 - 2147483648, by omega⟩
  refine x_imul (np := 44) (x := 0) (i := u20) (j := 4) (v := (2147483648 + 4 * u20)) (by decide +kernel) (by omega) (by omega) (by omega) (by omega) la1 (by decide) ?_
  refine x_iload (np := 45) (x := 2) (by decide +kernel) rfl (by decide) ?_
  refine x_iadd (np := 46) (x := 0) (v := (2147483650 + 4 * u20)) (by decide +kernel) (by omega) (by decide) (by omega) (by omega) ?_
  refine x_aldC (np := 47) (x := 0) (n := 40) (i := (2 + 4 * u20)) (q := ((h (ra0 + 6) (2 + 4 * u20)))) (by decide +kernel) (ta_6_40 ta0) (by omega) (by omega) (by decide) rfl (fun l23 => ?_)
  refine x_goto (np := 50) (x := 51) (by decide +kernel) ?_
  refine x_retI (np := 52) (x := 0) (by decide +kernel) l23 (Or.inl (by decide +kernel)) ⟨_, rfl, l23, ?_⟩
  exact ⟨rfl, (by omega)⟩
set_option maxHeartbeats 0 in
/-- LentNames$Table.at(II)I -/
theorem c68_T5_c0 {sc : Nat × Nat} {d ra0 a1 : Nat} {h : xh} (hJ : J h) (ta0 : tw ra0) (ba1 : 2147483648 ≤ a1 ∧ a1 ≤ 2147483657) : X sc 68 d (xI fun r h' => h' = h ∧ (0 ≤ r ∧ r ≤ 4294967295)) 0 0 0 [x_r (ra0 + 5), iv_c a1, iv_c 2147483648, 147573952589676412928] [] h := by
  have la1 : a1 < 4294967296 := by omega
  refine x_iload (np := 1) (x := 1) (by decide +kernel) rfl la1 ?_
  refine x_ifz (k := 2) (tg := 28) (np := 4) (by decide +kernel) (by decide) la1 (fun q1 => ?_) (fun q2 => ?_)
  · have q1 : a1 < 2147483648 := q1
    exfalso; omega
  have q2 : ¬ (a1 < 2147483648) := q2
  refine x_iload (np := 5) (x := 1) (by decide +kernel) rfl la1 ?_
  refine x_aload (np := 6) (x := 0) (by decide +kernel) rfl (x_nc_le (tn_5 ta0)) ?_
  have b3 := jB (e := 2) 0 hJ (rg_T5_2_0_1 ta0) (by omega) (by omega)
  refine x_getC (np := 9) (x := 386) (f := 2) (q := (h (ra0 + 5) 2)) (by decide +kernel) (by decide) (tg_5_386_2_0 ta0) rfl (fun l4 => ?_)
  refine x_icmp (k := 3) (tg := 28) (np := 12) (by decide +kernel) (by decide) la1 l4 (fun q5 => ?_) (fun q6 => ?_)
  · have q5 : (h (ra0 + 5) 2) ≤ a1 := q5
    refine x_const (np := 29) (x := 9223372039002259456) (a := 2147483648) (by decide +kernel) (by decide) (by decide) ?_
    refine x_istore (np := 30) (x := 3) (lo' := [x_r (ra0 + 5), iv_c a1, iv_c 2147483648, iv_c 2147483648]) (by decide +kernel) (by decide) (Nat.le_of_ble_eq_true rfl) rfl ?_
    refine x_iload (np := 31) (x := 3) (by decide +kernel) rfl (by decide) ?_
    refine x_ifz (k := 0) (tg := 50) (np := 34) (by decide +kernel) (by decide) (by decide) (fun q7 => ?_) (fun q8 => ?_)
    · have q7 : 2147483648 = 2147483648 := q7
      refine x_const (np := 51) (x := 9223372034707292159) (a := 2147483647) (by decide +kernel) (by decide) (by decide) ?_
      refine x_retI (np := 52) (x := 0) (by decide +kernel) (by decide) (Or.inl (by decide +kernel)) ⟨_, rfl, (by decide), ?_⟩
      exact ⟨rfl, (by omega)⟩
    have q8 : ¬ (2147483648 = 2147483648) := q8
    exfalso; omega
  have q6 : ¬ ((h (ra0 + 5) 2) ≤ a1) := q6
  refine x_iload (np := 13) (x := 2) (by decide +kernel) rfl (by decide) ?_
  refine x_ifz (k := 2) (tg := 28) (np := 16) (by decide +kernel) (by decide) (by decide) (fun q9 => ?_) (fun q10 => ?_)
  · have q9 : 2147483648 < 2147483648 := q9
    exfalso; omega
  have q10 : ¬ (2147483648 < 2147483648) := q10
  refine x_iload (np := 17) (x := 2) (by decide +kernel) rfl (by decide) ?_
  refine x_aload (np := 18) (x := 0) (by decide +kernel) rfl (x_nc_le (tn_5 ta0)) ?_
  have b11 := jB (e := 0) 0 hJ (rg_T5_0_0_1 ta0) (by omega) (by omega)
  have q12 : (h (ra0 + 5) 0) = 2147483652 := by omega
  refine x_getC (np := 21) (x := 384) (f := 0) (q := 2147483652) (by decide +kernel) (by decide) (tg_5_384_0_0 ta0) q12 (fun l13 => ?_)
  refine x_icmp (k := 3) (tg := 28) (np := 24) (by decide +kernel) (by decide) (by decide) (by decide) (fun q14 => ?_) (fun q15 => ?_)
  · have q14 : 2147483652 ≤ 2147483648 := q14
    exfalso; omega
  have q15 : ¬ (2147483652 ≤ 2147483648) := q15
  refine x_const (np := 25) (x := 9223372043297226753) (a := 2147483649) (by decide +kernel) (by decide) (by decide) ?_
  refine x_goto (np := 28) (x := 29) (by decide +kernel) ?_
  refine x_istore (np := 30) (x := 3) (lo' := [x_r (ra0 + 5), iv_c a1, iv_c 2147483648, iv_c 2147483649]) (by decide +kernel) (by decide) (Nat.le_of_ble_eq_true rfl) rfl ?_
  refine x_iload (np := 31) (x := 3) (by decide +kernel) rfl (by decide) ?_
  refine x_ifz (k := 0) (tg := 50) (np := 34) (by decide +kernel) (by decide) (by decide) (fun q16 => ?_) (fun q17 => ?_)
  · have q16 : 2147483649 = 2147483648 := q16
    exfalso; omega
  have q17 : ¬ (2147483649 = 2147483648) := q17
  refine x_aload (np := 35) (x := 0) (by decide +kernel) rfl (x_nc_le (tn_5 ta0)) ?_
  have q18 : h (ra0 + 5) 1 = (ra0 + 6) := tf_5_1 hJ ta0
  refine x_getR (np := 38) (x := 385) (f := 1) (q := (ra0 + 6)) (by decide +kernel) (by decide) (tg_5_385_1_1 ta0) q18 ?_
  refine x_iload (np := 39) (x := 1) (by decide +kernel) rfl la1 ?_
  refine x_aload (np := 40) (x := 0) (by decide +kernel) rfl (x_nc_le (tn_5 ta0)) ?_
  refine x_getC (np := 43) (x := 384) (f := 0) (q := 2147483652) (by decide +kernel) (by decide) (tg_5_384_0_0 ta0) q12 (fun l19 => ?_)
  obtain ⟨u20, q21⟩ : ∃ z, a1 = 2147483648 + z := ⟨a1 - 2147483648, by omega⟩
  refine x_imul (np := 44) (x := 0) (i := u20) (j := 4) (v := (2147483648 + 4 * u20)) (by decide +kernel) (by omega) (by omega) (by omega) (by omega) la1 (by decide) ?_
  refine x_iload (np := 45) (x := 2) (by decide +kernel) rfl (by decide) ?_
  refine x_iadd (np := 46) (x := 0) (v := (2147483648 + 4 * u20)) (by decide +kernel) (by omega) (by decide) (by omega) (by omega) ?_
  refine x_aldC (np := 47) (x := 0) (n := 40) (i := (4 * u20)) (q := ((h (ra0 + 6) (4 * u20)))) (by decide +kernel) (ta_6_40 ta0) (by omega) (by omega) (by decide) rfl (fun l23 => ?_)
  refine x_goto (np := 50) (x := 51) (by decide +kernel) ?_
  refine x_retI (np := 52) (x := 0) (by decide +kernel) l23 (Or.inl (by decide +kernel)) ⟨_, rfl, l23, ?_⟩
  exact ⟨rfl, (by omega)⟩
set_option maxHeartbeats 0 in
/-- LentNames$Calendar.payer(I)I -/
theorem c12_45 {sc : Nat × Nat} {d a1 : Nat} {h : xh} (hJ : J h) (ba1 : 2147483648 ≤ a1 ∧ a1 ≤ 2147483657) : X sc 12 (d + 2) (xI fun r h' => h' = h ∧ (2147483647 ≤ r ∧ r ≤ 2147483653)) 0 0 0 [x_r 45, iv_c a1, 147573952589676412928, 147573952589676412928] [] h := by
  have la1 : a1 < 4294967296 := by omega
  refine x_aload (np := 1) (x := 0) (by decide +kernel) rfl (x_nc_le (by decide)) ?_
  have t1 : tw (h 45 5) := hJ.2.2.2.1
  refine x_getR (np := 4) (x := 69) (f := 5) (q := (h 45 5)) (by decide +kernel) (by decide) (by decide +kernel) rfl ?_
  have q2 : h (h 45 5) 2 = ((h 45 5) + 5) := tf_0_2 hJ t1
  refine x_getR (np := 7) (x := 514) (f := 2) (q := ((h 45 5) + 5)) (by decide +kernel) (by decide) (tg_0_514_2_1 t1) q2 ?_
  refine x_iload (np := 8) (x := 1) (by decide +kernel) rfl la1 ?_
  refine x_const (np := 9) (x := 9223372043297226753) (a := 2147483649) (by decide +kernel) (by decide) (by decide) ?_
  refine x_cP (t := 6) (mj := 68) (n := 3) (rc := 7) (ml := 4) (nr := 0) (np := 12) (as := [x_r ((h 45 5) + 5), iv_c a1, iv_c 2147483649]) (rest := []) (lo1 := [x_r ((h 45 5) + 5), iv_c a1, iv_c 2147483649, 147573952589676412928]) (by decide +kernel) (by decide) (by decide +kernel) (x_rb_of (tr_5_7 t1)) rfl rfl (x_wr (tn_5 t1) (x_wi la1 (x_wi (by decide) x_wn))) x_wn (by decide) rfl (c68_T5_c1 hJ t1 (by omega) ) (fun v4 l5 q6 => ?_)
  refine x_istore (np := 13) (x := 2) (lo' := [x_r 45, iv_c a1, iv_c v4, 147573952589676412928]) (by decide +kernel) l5 (Nat.le_of_ble_eq_true rfl) rfl ?_
  refine x_aload (np := 14) (x := 0) (by decide +kernel) rfl (x_nc_le (by decide)) ?_
  refine x_getR (np := 17) (x := 69) (f := 5) (q := (h 45 5)) (by decide +kernel) (by decide) (by decide +kernel) rfl ?_
  have q7 : h (h 45 5) 2 = ((h 45 5) + 5) := tf_0_2 hJ t1
  refine x_getR (np := 20) (x := 514) (f := 2) (q := ((h 45 5) + 5)) (by decide +kernel) (by decide) (tg_0_514_2_1 t1) q7 ?_
  refine x_iload (np := 21) (x := 1) (by decide +kernel) rfl la1 ?_
  refine x_const (np := 22) (x := 9223372047592194050) (a := 2147483650) (by decide +kernel) (by decide) (by decide) ?_
  refine x_cP (t := 6) (mj := 68) (n := 3) (rc := 7) (ml := 4) (nr := 0) (np := 25) (as := [x_r ((h 45 5) + 5), iv_c a1, iv_c 2147483650]) (rest := []) (lo1 := [x_r ((h 45 5) + 5), iv_c a1, iv_c 2147483650, 147573952589676412928]) (by decide +kernel) (by decide) (by decide +kernel) (x_rb_of (tr_5_7 t1)) rfl rfl (x_wr (tn_5 t1) (x_wi la1 (x_wi (by decide) x_wn))) x_wn (by decide) rfl (c68_T5_c2 hJ t1 (by omega) ) (fun v9 l10 q11 => ?_)
  refine x_istore (np := 26) (x := 3) (lo' := [x_r 45, iv_c a1, iv_c v4, iv_c v9]) (by decide +kernel) l10 (Nat.le_of_ble_eq_true rfl) rfl ?_
  refine x_aload (np := 27) (x := 0) (by decide +kernel) rfl (x_nc_le (by decide)) ?_
  refine x_getR (np := 30) (x := 69) (f := 5) (q := (h 45 5)) (by decide +kernel) (by decide) (by decide +kernel) rfl ?_
  have q12 : h (h 45 5) 2 = ((h 45 5) + 5) := tf_0_2 hJ t1
  refine x_getR (np := 33) (x := 514) (f := 2) (q := ((h 45 5) + 5)) (by decide +kernel) (by decide) (tg_0_514_2_1 t1) q12 ?_
  refine x_iload (np := 34) (x := 1) (by decide +kernel) rfl la1 ?_
  refine x_const (np := 35) (x := 9223372039002259456) (a := 2147483648) (by decide +kernel) (by decide) (by decide) ?_
  refine x_cP (t := 6) (mj := 68) (n := 3) (rc := 7) (ml := 4) (nr := 0) (np := 38) (as := [x_r ((h 45 5) + 5), iv_c a1, iv_c 2147483648]) (rest := []) (lo1 := [x_r ((h 45 5) + 5), iv_c a1, iv_c 2147483648, 147573952589676412928]) (by decide +kernel) (by decide) (by decide +kernel) (x_rb_of (tr_5_7 t1)) rfl rfl (x_wr (tn_5 t1) (x_wi la1 (x_wi (by decide) x_wn))) x_wn (by decide) rfl (c68_T5_c0 hJ t1 (by omega) ) (fun v14 l15 q16 => ?_)
  refine x_ifz (k := 1) (tg := 48) (np := 41) (by decide +kernel) (by decide) l15 (fun q17 => ?_) (fun q18 => ?_)
  · have q17 : v14 ≠ 2147483648 := q17
    refine x_aload (np := 49) (x := 0) (by decide +kernel) rfl (x_nc_le (by decide)) ?_
    refine x_iload (np := 50) (x := 2) (by decide +kernel) rfl l5 ?_
    refine x_iload (np := 51) (x := 3) (by decide +kernel) rfl l10 ?_
    refine x_nI (t := 6) (mj := 31) (n := 3) (rc := 2) (ml := 3) (nr := 0) (np := 54) (as := [x_r 45, iv_c v4, iv_c v9]) (rest := []) (lo1 := [x_r 45, iv_c v4, iv_c v9]) (by decide +kernel) (by decide) (by decide +kernel) (x_rb_of (by decide +kernel)) rfl rfl (x_wr (by decide) (x_wi l5 (x_wi l10 x_wn))) x_wn (by decide) rfl ?_
    refine x_iload (np := 1) (x := 1) (by decide +kernel) rfl l5 ?_
    refine x_ifz (k := 2) (tg := 27) (np := 4) (by decide +kernel) (by decide) l5 (fun q19 => ?_) (fun q20 => ?_)
    · have q19 : v4 < 2147483648 := q19
      refine x_const (np := 28) (x := 9223372039002259456) (a := 2147483648) (by decide +kernel) (by decide) (by decide) ?_
      refine x_retI (np := 29) (x := 0) (by decide +kernel) (by decide) (Or.inr ⟨by decide +kernel, by omega, by omega⟩) ⟨_, rfl, (by decide), ?_⟩
      refine x_ifz (k := 0) (tg := 61) (np := 57) (by decide +kernel) (by decide) (by decide) (fun q21 => ?_) (fun q22 => ?_)
      · have q21 : 2147483648 = 2147483648 := q21
        refine x_const (np := 62) (x := 9223372034707292159) (a := 2147483647) (by decide +kernel) (by decide) (by decide) ?_
        refine x_retI (np := 63) (x := 0) (by decide +kernel) (by decide) (Or.inl (by decide +kernel)) ⟨_, rfl, (by decide), ?_⟩
        exact ⟨rfl, (by omega)⟩
      have q22 : ¬ (2147483648 = 2147483648) := q22
      exfalso; omega
    have q20 : ¬ (v4 < 2147483648) := q20
    refine x_iload (np := 5) (x := 1) (by decide +kernel) rfl l5 ?_
    refine x_const (np := 7) (x := 9223372064772063238) (a := 2147483654) (by decide +kernel) (by decide) (by decide) ?_
    refine x_icmp (k := 3) (tg := 27) (np := 10) (by decide +kernel) (by decide) l5 (by decide) (fun q23 => ?_) (fun q24 => ?_)
    · have q23 : 2147483654 ≤ v4 := q23
      refine x_const (np := 28) (x := 9223372039002259456) (a := 2147483648) (by decide +kernel) (by decide) (by decide) ?_
      refine x_retI (np := 29) (x := 0) (by decide +kernel) (by decide) (Or.inr ⟨by decide +kernel, by omega, by omega⟩) ⟨_, rfl, (by decide), ?_⟩
      refine x_ifz (k := 0) (tg := 61) (np := 57) (by decide +kernel) (by decide) (by decide) (fun q25 => ?_) (fun q26 => ?_)
      · have q25 : 2147483648 = 2147483648 := q25
        refine x_const (np := 62) (x := 9223372034707292159) (a := 2147483647) (by decide +kernel) (by decide) (by decide) ?_
        refine x_retI (np := 63) (x := 0) (by decide +kernel) (by decide) (Or.inl (by decide +kernel)) ⟨_, rfl, (by decide), ?_⟩
        exact ⟨rfl, (by omega)⟩
      have q26 : ¬ (2147483648 = 2147483648) := q26
      exfalso; omega
    have q24 : ¬ (2147483654 ≤ v4) := q24
    refine x_aload (np := 11) (x := 0) (by decide +kernel) rfl (x_nc_le (by decide)) ?_
    have q27 : h 45 0 = 46 := by have z := jB (e := 0) 0 hJ rg_45_0_0_1 (by decide) (by decide); omega
    refine x_getR (np := 14) (x := 64) (f := 0) (q := 46) (by decide +kernel) (by decide) (by decide +kernel) q27 ?_
    refine x_iload (np := 15) (x := 1) (by decide +kernel) rfl l5 ?_
    obtain ⟨u28, q29⟩ : ∃ z, v4 = 2147483648 + z := ⟨v4 - 2147483648, by omega⟩
    refine x_aldC (np := 16) (x := 0) (n := 6) (i := u28) (q := (h 46 u28)) (by decide +kernel) (by decide +kernel) (by omega) (by omega) (by decide) rfl (fun l30 => ?_)
    refine x_iload (np := 17) (x := 2) (by decide +kernel) rfl l10 ?_
    refine x_cP (t := 7) (mj := 148) (n := 2) (rc := 0) (ml := 2) (nr := 0) (np := 20) (as := [iv_c (h 46 u28), iv_c v9]) (rest := []) (lo1 := [iv_c (h 46 u28), iv_c v9]) (by decide +kernel) (by decide) (by decide +kernel) (Or.inl rfl) rfl rfl (x_wi l30 (x_wi l10 x_wn)) x_wn (by decide) rfl (c148 hJ (by omega) (by omega)) (fun v31 l32 q33 => ?_)
    refine x_ifz (k := 0) (tg := 27) (np := 23) (by decide +kernel) (by decide) l32 (fun q34 => ?_) (fun q35 => ?_)
    · have q34 : v31 = 2147483648 := q34
      refine x_const (np := 28) (x := 9223372039002259456) (a := 2147483648) (by decide +kernel) (by decide) (by decide) ?_
      refine x_retI (np := 29) (x := 0) (by decide +kernel) (by decide) (Or.inr ⟨by decide +kernel, by omega, by omega⟩) ⟨_, rfl, (by decide), ?_⟩
      refine x_ifz (k := 0) (tg := 61) (np := 57) (by decide +kernel) (by decide) (by decide) (fun q36 => ?_) (fun q37 => ?_)
      · have q36 : 2147483648 = 2147483648 := q36
        refine x_const (np := 62) (x := 9223372034707292159) (a := 2147483647) (by decide +kernel) (by decide) (by decide) ?_
        refine x_retI (np := 63) (x := 0) (by decide +kernel) (by decide) (Or.inl (by decide +kernel)) ⟨_, rfl, (by decide), ?_⟩
        exact ⟨rfl, (by omega)⟩
      have q37 : ¬ (2147483648 = 2147483648) := q37
      exfalso; omega
    have q35 : ¬ (v31 = 2147483648) := q35
    refine x_const (np := 24) (x := 9223372043297226753) (a := 2147483649) (by decide +kernel) (by decide) (by decide) ?_
    refine x_goto (np := 27) (x := 28) (by decide +kernel) ?_
    refine x_retI (np := 29) (x := 0) (by decide +kernel) (by decide) (Or.inr ⟨by decide +kernel, by omega, by omega⟩) ⟨_, rfl, (by decide), ?_⟩
    refine x_ifz (k := 0) (tg := 61) (np := 57) (by decide +kernel) (by decide) (by decide) (fun q38 => ?_) (fun q39 => ?_)
    · have q38 : 2147483649 = 2147483648 := q38
      exfalso; omega
    have q39 : ¬ (2147483649 = 2147483648) := q39
    refine x_iload (np := 58) (x := 2) (by decide +kernel) rfl l5 ?_
    refine x_goto (np := 61) (x := 62) (by decide +kernel) ?_
    refine x_retI (np := 63) (x := 0) (by decide +kernel) l5 (Or.inl (by decide +kernel)) ⟨_, rfl, l5, ?_⟩
    exact ⟨rfl, (by omega)⟩
  have q18 : ¬ (v14 ≠ 2147483648) := q18
  refine x_aload (np := 42) (x := 0) (by decide +kernel) rfl (x_nc_le (by decide)) ?_
  refine x_iload (np := 43) (x := 2) (by decide +kernel) rfl l5 ?_
  refine x_iload (np := 44) (x := 3) (by decide +kernel) rfl l10 ?_
  refine x_cP (t := 6) (mj := 5) (n := 3) (rc := 2) (ml := 3) (nr := 0) (np := 47) (as := [x_r 45, iv_c v4, iv_c v9]) (rest := []) (lo1 := [x_r 45, iv_c v4, iv_c v9]) (by decide +kernel) (by decide) (by decide +kernel) (x_rb_of (by decide +kernel)) rfl rfl (x_wr (by decide) (x_wi l5 (x_wi l10 x_wn))) x_wn (by decide) rfl (c5_45 hJ  (by omega) (by omega)) (fun v40 l41 q42 => ?_)
  refine x_retI (np := 48) (x := 0) (by decide +kernel) l41 (Or.inl (by decide +kernel)) ⟨_, rfl, l41, ?_⟩
  exact ⟨rfl, (by omega)⟩
set_option maxHeartbeats 0 in
/-- LentNames.pays(I)I -/
theorem c128_0 {sc : Nat × Nat} {d a1 : Nat} {h : xh} (hJ : J h) (ba1 : 0 ≤ a1 ∧ a1 ≤ 4294967295) : X sc 128 (d + 3) (xT (fun r h' => J h' ∧ Fr 0 h h' ∧ (2147483647 ≤ r ∧ r ≤ 2147483653)) (fun E h' => J h' ∧ Fr 0 h h' ∧ (E = 2))) 0 0 0 [x_r 0, iv_c a1] [] h := by
  have la1 : a1 < 4294967296 := by omega
  have hF := Fr.refl 0 h
  refine x_aload (np := 1) (x := 0) (by decide +kernel) rfl (x_nc_le (by decide)) ?_
  have t1 : tw (h 0 8) := hJ.2.1
  refine x_getR (np := 4) (x := 648) (f := 8) (q := (h 0 8)) (by decide +kernel) (by decide) (by decide +kernel) rfl ?_
  have q2 : h (h 0 8) 2 = ((h 0 8) + 5) := tf_0_2 hJ t1
  refine x_getR (np := 7) (x := 514) (f := 2) (q := ((h 0 8) + 5)) (by decide +kernel) (by decide) (tg_0_514_2_1 t1) q2 ?_
  refine x_iload (np := 8) (x := 1) (by decide +kernel) rfl la1 ?_
  refine x_nU (t := 0) (mj := 147) (n := 2) (rc := 0) (ml := 2) (cc := 1) (ss := 6) (nr := 0) (np := 11) (as := [x_r ((h 0 8) + 5), iv_c a1]) (rest := []) (lo1 := [x_r ((h 0 8) + 5), iv_c a1]) (by decide +kernel) (by decide) (by decide +kernel) (by decide +kernel) (Or.inl rfl) rfl rfl (x_wr (tn_5 t1) (x_wi la1 x_wn)) x_wn (by decide) rfl ?_
  refine x_iload (np := 1) (x := 1) (by decide +kernel) rfl la1 ?_
  refine x_ifz (k := 2) (tg := 12) (np := 4) (by decide +kernel) (by decide) la1 (fun q3 => ?_) (fun q4 => ?_)
  · have q3 : a1 < 2147483648 := q3
    refine x_thr (np := 15) (x := 2) (by decide +kernel) (by decide +kernel) (Nat.le_trans x_wn (by decide)) (Or.inr ⟨_, rfl, ?_⟩)
    refine Or.inr ⟨_, rfl, ?_⟩
    exact ⟨hJ, hF, by decide⟩
  have q4 : ¬ (a1 < 2147483648) := q4
  refine x_iload (np := 5) (x := 1) (by decide +kernel) rfl la1 ?_
  refine x_aload (np := 6) (x := 0) (by decide +kernel) rfl (x_nc_le (tn_5 t1)) ?_
  have b5 := jB (e := 2) 0 hJ (rg_T5_2_0_1 t1) (by omega) (by omega)
  refine x_getC (np := 9) (x := 386) (f := 2) (q := (h ((h 0 8) + 5) 2)) (by decide +kernel) (by decide) (tg_5_386_2_0 t1) rfl (fun l6 => ?_)
  refine x_icmp (k := 2) (tg := 23) (np := 12) (by decide +kernel) (by decide) la1 l6 (fun q7 => ?_) (fun q8 => ?_)
  · have q7 : a1 < (h ((h 0 8) + 5) 2) := q7
    refine x_retV (np := 24) (x := 0) (by decide +kernel) (by decide +kernel) (Or.inl ⟨rfl, ?_⟩)
    refine x_aload (np := 12) (x := 0) (by decide +kernel) rfl (x_nc_le (by decide)) ?_
    have q9 : h 0 1 = 45 := by have z := jB (e := 1) 0 hJ rg_0_1_0_1 (by decide) (by decide); omega
    refine x_getR (np := 15) (x := 641) (f := 1) (q := 45) (by decide +kernel) (by decide) (by decide +kernel) q9 ?_
    refine x_iload (np := 16) (x := 1) (by decide +kernel) rfl la1 ?_
    refine x_cP (t := 6) (mj := 12) (n := 2) (rc := 2) (ml := 4) (nr := 0) (np := 19) (as := [x_r 45, iv_c a1]) (rest := []) (lo1 := [x_r 45, iv_c a1, 147573952589676412928, 147573952589676412928]) (by decide +kernel) (by decide) (by decide +kernel) (x_rb_of (by decide +kernel)) rfl rfl (x_wr (by decide) (x_wi la1 x_wn)) x_wn (by decide) rfl (c12_45 hJ  (by omega)) (fun v10 l11 q12 => ?_)
    refine x_retI (np := 20) (x := 0) (by decide +kernel) l11 (Or.inl (by decide +kernel)) (Or.inl ⟨_, rfl, l11, ?_⟩)
    exact ⟨hJ, hF, (by omega)⟩
  have q8 : ¬ (a1 < (h ((h 0 8) + 5) 2)) := q8
  refine x_thr (np := 15) (x := 2) (by decide +kernel) (by decide +kernel) (Nat.le_trans x_wn (by decide)) (Or.inr ⟨_, rfl, ?_⟩)
  refine Or.inr ⟨_, rfl, ?_⟩
  exact ⟨hJ, hF, by decide⟩
set_option maxHeartbeats 0 in
/-- LentNames.bill(I)I -/
theorem c129_0 {sc : Nat × Nat} {d a1 : Nat} {h : xh} (hJ : J h) (ba1 : 0 ≤ a1 ∧ a1 ≤ 4294967295) : X sc 129 (d + 3) (xT (fun r h' => J h' ∧ Fr 0 h h' ∧ (0 ≤ r ∧ r ≤ 4294967295)) (fun E h' => J h' ∧ Fr 0 h h' ∧ (E = 2))) 0 0 0 [x_r 0, iv_c a1, 147573952589676412928, 147573952589676412928] [] h := by
  have la1 : a1 < 4294967296 := by omega
  have hF := Fr.refl 0 h
  refine x_aload (np := 1) (x := 0) (by decide +kernel) rfl (x_nc_le (by decide)) ?_
  refine x_iload (np := 2) (x := 1) (by decide +kernel) rfl la1 ?_
  refine x_nU (t := 6) (mj := 145) (n := 2) (rc := 11) (ml := 2) (cc := 1) (ss := 6) (nr := 0) (np := 5) (as := [x_r 0, iv_c a1]) (rest := []) (lo1 := [x_r 0, iv_c a1]) (by decide +kernel) (by decide) (by decide +kernel) (by decide +kernel) (x_rb_of (by decide +kernel)) rfl rfl (x_wr (by decide) (x_wi la1 x_wn)) x_wn (by decide) rfl ?_
  refine x_iload (np := 1) (x := 1) (by decide +kernel) rfl la1 ?_
  refine x_ifz (k := 2) (tg := 15) (np := 4) (by decide +kernel) (by decide) la1 (fun q1 => ?_) (fun q2 => ?_)
  · have q1 : a1 < 2147483648 := q1
    refine x_thr (np := 18) (x := 2) (by decide +kernel) (by decide +kernel) (Nat.le_trans x_wn (by decide)) (Or.inr ⟨_, rfl, ?_⟩)
    refine Or.inr ⟨_, rfl, ?_⟩
    exact ⟨hJ, hF, by decide⟩
  have q2 : ¬ (a1 < 2147483648) := q2
  refine x_iload (np := 5) (x := 1) (by decide +kernel) rfl la1 ?_
  refine x_aload (np := 6) (x := 0) (by decide +kernel) rfl (x_nc_le (by decide)) ?_
  have t3 : tw (h 0 8) := hJ.2.1
  refine x_getR (np := 9) (x := 648) (f := 8) (q := (h 0 8)) (by decide +kernel) (by decide) (by decide +kernel) rfl ?_
  have b4 := jB (e := 7) 0 hJ (rg_T0_7_0_1 t3) (by omega) (by omega)
  refine x_getC (np := 12) (x := 519) (f := 7) (q := (h (h 0 8) 7)) (by decide +kernel) (by decide) (tg_0_519_7_0 t3) rfl (fun l5 => ?_)
  refine x_icmp (k := 2) (tg := 26) (np := 15) (by decide +kernel) (by decide) la1 l5 (fun q6 => ?_) (fun q7 => ?_)
  · have q6 : a1 < (h (h 0 8) 7) := q6
    refine x_retV (np := 27) (x := 0) (by decide +kernel) (by decide +kernel) (Or.inl ⟨rfl, ?_⟩)
    refine x_const (np := 6) (x := 9223372039002259456) (a := 2147483648) (by decide +kernel) (by decide) (by decide) ?_
    refine x_istore (np := 7) (x := 2) (lo' := [x_r 0, iv_c a1, iv_c 2147483648, 147573952589676412928]) (by decide +kernel) (by decide) (Nat.le_of_ble_eq_true rfl) rfl ?_
    refine x_const (np := 8) (x := 9223372039002259456) (a := 2147483648) (by decide +kernel) (by decide) (by decide) ?_
    refine x_istore (np := 9) (x := 3) (lo' := [x_r 0, iv_c a1, iv_c 2147483648, iv_c 2147483648]) (by decide +kernel) (by decide) (Nat.le_of_ble_eq_true rfl) rfl ?_
    have p354 : ∀ (n : Nat) (v350 : Nat) (v352 : Nat), 4294967296 - v352 < n → (0 ≤ v350 ∧ v350 ≤ 4294967295) → (2147483648 ≤ v352 ∧ v352 ≤ 2147483658) → X sc 129 (d + 3) (xT (fun r h' => J h' ∧ Fr 0 h h' ∧ (0 ≤ r ∧ r ≤ 4294967295)) (fun E h' => J h' ∧ Fr 0 h h' ∧ (E = 2))) 1 6 9 [x_r 0, iv_c a1, iv_c v350, iv_c v352] [] h := by
      intro n
      induction n with
      | zero => intro v350 v352 q355; exact absurd q355 (Nat.not_lt_zero _)
      | succ n i356 =>
        intro v350 v352 q355 b351 b353
        refine x_iload (np := 10) (x := 3) (by decide +kernel) rfl (by omega) ?_
        refine x_aload (np := 11) (x := 0) (by decide +kernel) rfl (x_nc_le (by decide)) ?_
        refine x_getR (np := 14) (x := 648) (f := 8) (q := (h 0 8)) (by decide +kernel) (by decide) (by decide +kernel) rfl ?_
        have q357 : h (h 0 8) 2 = ((h 0 8) + 5) := tf_0_2 hJ t3
        refine x_getR (np := 17) (x := 514) (f := 2) (q := ((h 0 8) + 5)) (by decide +kernel) (by decide) (tg_0_514_2_1 t3) q357 ?_
        have b358 := jB (e := 2) 0 hJ (rg_T5_2_0_1 t3) (by omega) (by omega)
        refine x_getC (np := 20) (x := 386) (f := 2) (q := (h ((h 0 8) + 5) 2)) (by decide +kernel) (by decide) (tg_5_386_2_0 t3) rfl (fun l359 => ?_)
        refine x_icmp (k := 3) (tg := 56) (np := 23) (by decide +kernel) (by decide) (by omega) l359 (fun q360 => ?_) (fun q361 => ?_)
        · have q360 : (h ((h 0 8) + 5) 2) ≤ v352 := q360
          refine x_iload (np := 57) (x := 2) (by decide +kernel) rfl (by omega) ?_
          refine x_retI (np := 58) (x := 0) (by decide +kernel) (by omega) (Or.inl (by decide +kernel)) (Or.inl ⟨_, rfl, (by omega), ?_⟩)
          exact ⟨hJ, hF, (by omega)⟩
        have q361 : ¬ ((h ((h 0 8) + 5) 2) ≤ v352) := q361
        refine x_aload (np := 24) (x := 0) (by decide +kernel) rfl (x_nc_le (by decide)) ?_
        have q362 : h 0 1 = 45 := by have z := jB (e := 1) 0 hJ rg_0_1_0_1 (by decide) (by decide); omega
        refine x_getR (np := 27) (x := 641) (f := 1) (q := 45) (by decide +kernel) (by decide) (by decide +kernel) q362 ?_
        refine x_iload (np := 28) (x := 3) (by decide +kernel) rfl (by omega) ?_
        refine x_cP (t := 6) (mj := 12) (n := 2) (rc := 2) (ml := 4) (nr := 0) (np := 31) (as := [x_r 45, iv_c v352]) (rest := []) (lo1 := [x_r 45, iv_c v352, 147573952589676412928, 147573952589676412928]) (by decide +kernel) (by decide) (by decide +kernel) (x_rb_of (by decide +kernel)) rfl rfl (x_wr (by decide) (x_wi (by omega) x_wn)) x_wn (by decide) rfl (c12_45 hJ  (by omega)) (fun v363 l364 q365 => ?_)
        refine x_iload (np := 32) (x := 1) (by decide +kernel) rfl la1 ?_
        refine x_icmp (k := 1) (tg := 50) (np := 35) (by decide +kernel) (by decide) l364 la1 (fun q366 => ?_) (fun q367 => ?_)
        · have q366 : v363 ≠ a1 := q366
          refine x_iinc (np := 53) (i := 3) (j := 2147483649) (v := (1 + v352)) (lo' := [x_r 0, iv_c a1, iv_c v350, iv_c (1 + v352)]) (by decide +kernel) (by decide) (by decide) rfl (by omega) (by omega) (by omega) rfl ?_
          refine x_goto (np := 56) (x := 9) (by decide +kernel) ?_
          exact i356 v350 (1 + v352) (by omega) (by omega) (by omega)
        have q367 : ¬ (v363 ≠ a1) := q367
        refine x_iload (np := 36) (x := 2) (by decide +kernel) rfl (by omega) ?_
        refine x_aload (np := 37) (x := 0) (by decide +kernel) rfl (x_nc_le (by decide)) ?_
        refine x_getR (np := 40) (x := 648) (f := 8) (q := (h 0 8)) (by decide +kernel) (by decide) (by decide +kernel) rfl ?_
        have q368 : h (h 0 8) 2 = ((h 0 8) + 5) := tf_0_2 hJ t3
        refine x_getR (np := 43) (x := 514) (f := 2) (q := ((h 0 8) + 5)) (by decide +kernel) (by decide) (tg_0_514_2_1 t3) q368 ?_
        refine x_iload (np := 44) (x := 3) (by decide +kernel) rfl (by omega) ?_
        refine x_const (np := 45) (x := 9223372051887161347) (a := 2147483651) (by decide +kernel) (by decide) (by decide) ?_
        refine x_nI (t := 6) (mj := 68) (n := 3) (rc := 7) (ml := 4) (nr := 1) (np := 48) (as := [x_r ((h 0 8) + 5), iv_c v352, iv_c 2147483651]) (rest := [iv_c v350]) (lo1 := [x_r ((h 0 8) + 5), iv_c v352, iv_c 2147483651, 147573952589676412928]) (by decide +kernel) (by decide) (by decide +kernel) (x_rb_of (tr_5_7 t3)) rfl rfl (x_wr (tn_5 t3) (x_wi (by omega) (x_wi (by decide) x_wn))) (x_wi (by omega) x_wn) (by decide) rfl ?_
        refine x_iload (np := 1) (x := 1) (by decide +kernel) rfl (by omega) ?_
        refine x_ifz (k := 2) (tg := 28) (np := 4) (by decide +kernel) (by decide) (by omega) (fun q369 => ?_) (fun q370 => ?_)
        · have q369 : v352 < 2147483648 := q369
          exfalso; omega
        have q370 : ¬ (v352 < 2147483648) := q370
        refine x_iload (np := 5) (x := 1) (by decide +kernel) rfl (by omega) ?_
        refine x_aload (np := 6) (x := 0) (by decide +kernel) rfl (x_nc_le (tn_5 t3)) ?_
        refine x_getC (np := 9) (x := 386) (f := 2) (q := (h ((h 0 8) + 5) 2)) (by decide +kernel) (by decide) (tg_5_386_2_0 t3) rfl (fun l371 => ?_)
        refine x_icmp (k := 3) (tg := 28) (np := 12) (by decide +kernel) (by decide) (by omega) l359 (fun q372 => ?_) (fun q373 => ?_)
        · have q372 : (h ((h 0 8) + 5) 2) ≤ v352 := q372
          exfalso; omega
        have q373 : ¬ ((h ((h 0 8) + 5) 2) ≤ v352) := q373
        refine x_iload (np := 13) (x := 2) (by decide +kernel) rfl (by decide) ?_
        refine x_ifz (k := 2) (tg := 28) (np := 16) (by decide +kernel) (by decide) (by decide) (fun q374 => ?_) (fun q375 => ?_)
        · have q374 : 2147483651 < 2147483648 := q374
          exfalso; omega
        have q375 : ¬ (2147483651 < 2147483648) := q375
        refine x_iload (np := 17) (x := 2) (by decide +kernel) rfl (by decide) ?_
        refine x_aload (np := 18) (x := 0) (by decide +kernel) rfl (x_nc_le (tn_5 t3)) ?_
        have b376 := jB (e := 0) 0 hJ (rg_T5_0_0_1 t3) (by omega) (by omega)
        have q377 : (h ((h 0 8) + 5) 0) = 2147483652 := by omega
        refine x_getC (np := 21) (x := 384) (f := 0) (q := 2147483652) (by decide +kernel) (by decide) (tg_5_384_0_0 t3) q377 (fun l378 => ?_)
        refine x_icmp (k := 3) (tg := 28) (np := 24) (by decide +kernel) (by decide) (by decide) (by decide) (fun q379 => ?_) (fun q380 => ?_)
        · have q379 : 2147483652 ≤ 2147483651 := q379
          exfalso; omega
        have q380 : ¬ (2147483652 ≤ 2147483651) := q380
        refine x_const (np := 25) (x := 9223372043297226753) (a := 2147483649) (by decide +kernel) (by decide) (by decide) ?_
        refine x_goto (np := 28) (x := 29) (by decide +kernel) ?_
        refine x_istore (np := 30) (x := 3) (lo' := [x_r ((h 0 8) + 5), iv_c v352, iv_c 2147483651, iv_c 2147483649]) (by decide +kernel) (by decide) (Nat.le_of_ble_eq_true rfl) rfl ?_
        refine x_iload (np := 31) (x := 3) (by decide +kernel) rfl (by decide) ?_
        refine x_ifz (k := 0) (tg := 50) (np := 34) (by decide +kernel) (by decide) (by decide) (fun q381 => ?_) (fun q382 => ?_)
        · have q381 : 2147483649 = 2147483648 := q381
          exfalso; omega
        have q382 : ¬ (2147483649 = 2147483648) := q382
        refine x_aload (np := 35) (x := 0) (by decide +kernel) rfl (x_nc_le (tn_5 t3)) ?_
        have q383 : h ((h 0 8) + 5) 1 = ((h 0 8) + 6) := tf_5_1 hJ t3
        refine x_getR (np := 38) (x := 385) (f := 1) (q := ((h 0 8) + 6)) (by decide +kernel) (by decide) (tg_5_385_1_1 t3) q383 ?_
        refine x_iload (np := 39) (x := 1) (by decide +kernel) rfl (by omega) ?_
        refine x_aload (np := 40) (x := 0) (by decide +kernel) rfl (x_nc_le (tn_5 t3)) ?_
        refine x_getC (np := 43) (x := 384) (f := 0) (q := 2147483652) (by decide +kernel) (by decide) (tg_5_384_0_0 t3) q377 (fun l384 => ?_)
        obtain ⟨u385, q386⟩ : ∃ z, v352 = 2147483648 + z := ⟨v352 - 2147483648, by omega⟩
        refine x_imul (np := 44) (x := 0) (i := u385) (j := 4) (v := (2147483648 + 4 * u385)) (by decide +kernel) (by omega) (by omega) (by omega) (by omega) (by omega) (by decide) ?_
        refine x_iload (np := 45) (x := 2) (by decide +kernel) rfl (by decide) ?_
        refine x_iadd (np := 46) (x := 0) (v := (2147483651 + 4 * u385)) (by decide +kernel) (by omega) (by decide) (by omega) (by omega) ?_
        refine x_aldC (np := 47) (x := 0) (n := 40) (i := (3 + 4 * u385)) (q := ((h ((h 0 8) + 6) (3 + 4 * u385)))) (by decide +kernel) (ta_6_40 t3) (by omega) (by omega) (by decide) rfl (fun l388 => ?_)
        refine x_goto (np := 50) (x := 51) (by decide +kernel) ?_
        refine x_retI (np := 52) (x := 0) (by decide +kernel) l388 (Or.inl (by decide +kernel)) ⟨_, rfl, l388, ?_⟩
        refine x_addA (by rw [tb_b129]; decide +kernel) (by omega) l388 (fun v389 l390 => ?_)
        refine x_istore (np := 50) (x := 2) (lo' := [x_r 0, iv_c a1, iv_c v389, iv_c v352]) (by decide +kernel) l390 (Nat.le_of_ble_eq_true rfl) rfl ?_
        refine x_iinc (np := 53) (i := 3) (j := 2147483649) (v := (1 + v352)) (lo' := [x_r 0, iv_c a1, iv_c v389, iv_c (1 + v352)]) (by decide +kernel) (by decide) (by decide) rfl (by omega) (by omega) (by omega) rfl ?_
        refine x_goto (np := 56) (x := 9) (by decide +kernel) ?_
        exact i356 v389 (1 + v352) (by omega) (by omega) (by omega)
    exact p354 _ 2147483648 2147483648 (Nat.lt_succ_self _) (by omega) (by omega)
  have q7 : ¬ (a1 < (h (h 0 8) 7)) := q7
  refine x_thr (np := 18) (x := 2) (by decide +kernel) (by decide +kernel) (Nat.le_trans x_wn (by decide)) (Or.inr ⟨_, rfl, ?_⟩)
  refine Or.inr ⟨_, rfl, ?_⟩
  exact ⟨hJ, hF, by decide⟩
set_option maxHeartbeats 0 in
/-- LentNames.purse(II)I -/
theorem c130_0 {sc : Nat × Nat} {d a1 a2 : Nat} {h : xh} (hJ : J h) (ba1 : 0 ≤ a1 ∧ a1 ≤ 4294967295) (ba2 : 0 ≤ a2 ∧ a2 ≤ 4294967295) : X sc 130 (d + 1) (xT (fun r h' => J h' ∧ Fr 128 h h' ∧ (0 ≤ r ∧ r ≤ 4294967295)) (fun E h' => J h' ∧ Fr 128 h h' ∧ (E = 0 ∨ E = 2))) 0 0 0 [x_r 0, iv_c a1, iv_c a2, 147573952589676412928] [] h := by
  have la1 : a1 < 4294967296 := by omega
  have la2 : a2 < 4294967296 := by omega
  have hF := Fr.refl 128 h
  refine x_aload (np := 1) (x := 0) (by decide +kernel) rfl (x_nc_le (by decide)) ?_
  refine x_iload (np := 2) (x := 1) (by decide +kernel) rfl la1 ?_
  refine x_nU (t := 6) (mj := 145) (n := 2) (rc := 11) (ml := 2) (cc := 1) (ss := 6) (nr := 0) (np := 5) (as := [x_r 0, iv_c a1]) (rest := []) (lo1 := [x_r 0, iv_c a1]) (by decide +kernel) (by decide) (by decide +kernel) (by decide +kernel) (x_rb_of (by decide +kernel)) rfl rfl (x_wr (by decide) (x_wi la1 x_wn)) x_wn (by decide) rfl ?_
  refine x_iload (np := 1) (x := 1) (by decide +kernel) rfl la1 ?_
  refine x_ifz (k := 2) (tg := 15) (np := 4) (by decide +kernel) (by decide) la1 (fun q1 => ?_) (fun q2 => ?_)
  · have q1 : a1 < 2147483648 := q1
    refine x_thr (np := 18) (x := 2) (by decide +kernel) (by decide +kernel) (Nat.le_trans x_wn (by decide)) (Or.inr ⟨_, rfl, ?_⟩)
    refine Or.inr ⟨_, rfl, ?_⟩
    exact ⟨hJ, hF, by decide⟩
  have q2 : ¬ (a1 < 2147483648) := q2
  refine x_iload (np := 5) (x := 1) (by decide +kernel) rfl la1 ?_
  refine x_aload (np := 6) (x := 0) (by decide +kernel) rfl (x_nc_le (by decide)) ?_
  have t3 : tw (h 0 8) := hJ.2.1
  refine x_getR (np := 9) (x := 648) (f := 8) (q := (h 0 8)) (by decide +kernel) (by decide) (by decide +kernel) rfl ?_
  have b4 := jB (e := 7) 0 hJ (rg_T0_7_0_1 t3) (by omega) (by omega)
  refine x_getC (np := 12) (x := 519) (f := 7) (q := (h (h 0 8) 7)) (by decide +kernel) (by decide) (tg_0_519_7_0 t3) rfl (fun l5 => ?_)
  refine x_icmp (k := 2) (tg := 26) (np := 15) (by decide +kernel) (by decide) la1 l5 (fun q6 => ?_) (fun q7 => ?_)
  · have q6 : a1 < (h (h 0 8) 7) := q6
    refine x_retV (np := 27) (x := 0) (by decide +kernel) (by decide +kernel) (Or.inl ⟨rfl, ?_⟩)
    refine x_iload (np := 6) (x := 2) (by decide +kernel) rfl la2 ?_
    refine x_ifz (k := 2) (tg := 16) (np := 9) (by decide +kernel) (by decide) la2 (fun q8 => ?_) (fun q9 => ?_)
    · have q8 : a2 < 2147483648 := q8
      refine x_thr (np := 19) (x := 0) (by decide +kernel) (by decide +kernel) (Nat.le_trans x_wn (by decide)) (Or.inr ⟨_, rfl, ?_⟩)
      exact ⟨hJ, hF, by decide⟩
    have q9 : ¬ (a2 < 2147483648) := q9
    refine x_iload (np := 10) (x := 2) (by decide +kernel) rfl la2 ?_
    refine x_const (np := 13) (x := 9223414984380262159) (a := 2147493647) (by decide +kernel) (by decide) (by decide) ?_
    refine x_icmp (k := 5) (tg := 27) (np := 16) (by decide +kernel) (by decide) la2 (by decide) (fun q10 => ?_) (fun q11 => ?_)
    · have q10 : a2 ≤ 2147493647 := q10
      refine x_aload (np := 28) (x := 0) (by decide +kernel) rfl (x_nc_le (by decide)) ?_
      refine x_getR (np := 31) (x := 648) (f := 8) (q := (h 0 8)) (by decide +kernel) (by decide) (by decide +kernel) rfl ?_
      have q12 : h (h 0 8) 5 = ((h 0 8) + 10) := tf_0_5 hJ t3
      refine x_getR (np := 34) (x := 517) (f := 5) (q := ((h 0 8) + 10)) (by decide +kernel) (by decide) (tg_0_517_5_1 t3) q12 ?_
      refine x_iload (np := 35) (x := 1) (by decide +kernel) rfl la1 ?_
      obtain ⟨u13, q14⟩ : ∃ z, a1 = 2147483648 + z := ⟨a1 - 2147483648, by omega⟩
      refine x_aldC (np := 36) (x := 0) (n := 6) (i := u13) (q := (h ((h 0 8) + 10) u13)) (by decide +kernel) (ta_10_6 t3) (by omega) (by omega) (by decide) rfl (fun l15 => ?_)
      refine x_istore (np := 37) (x := 3) (lo' := [x_r 0, iv_c a1, iv_c a2, iv_c (h ((h 0 8) + 10) u13)]) (by decide +kernel) l15 (Nat.le_of_ble_eq_true rfl) rfl ?_
      refine x_aload (np := 38) (x := 0) (by decide +kernel) rfl (x_nc_le (by decide)) ?_
      refine x_getR (np := 41) (x := 648) (f := 8) (q := (h 0 8)) (by decide +kernel) (by decide) (by decide +kernel) rfl ?_
      have q16 : h (h 0 8) 5 = ((h 0 8) + 10) := tf_0_5 hJ t3
      refine x_getR (np := 44) (x := 517) (f := 5) (q := ((h 0 8) + 10)) (by decide +kernel) (by decide) (tg_0_517_5_1 t3) q16 ?_
      refine x_iload (np := 45) (x := 1) (by decide +kernel) rfl la1 ?_
      refine x_iload (np := 46) (x := 2) (by decide +kernel) rfl la2 ?_
      refine x_ast (np := 47) (x := 0) (kd := 1) (n := 6) (i := u13) (by decide +kernel) (Or.inl rfl) (ta_10_6 t3) (by omega) (by omega) (by decide) la2 (fun z => absurd z (by decide)) ?_
      have j18 := jU (e := u13) (v := a2) u13 hJ (rg_T10_0_1_6 t3) (by omega) (by omega) (by omega)
      have f20 := jF (e := u13) (v := a2) u13 hF (rg_T10_0_1_6 t3) (by omega) (by omega) (by decide)
      generalize e19 : x_up h ((h 0 8) + 10) u13 a2 = h17 at j18 f20 ⊢
      refine x_iload (np := 48) (x := 3) (by decide +kernel) rfl l15 ?_
      refine x_retI (np := 49) (x := 0) (by decide +kernel) l15 (Or.inl (by decide +kernel)) (Or.inl ⟨_, rfl, l15, ?_⟩)
      exact ⟨j18, f20, (by omega)⟩
    have q11 : ¬ (a2 ≤ 2147493647) := q11
    refine x_thr (np := 19) (x := 0) (by decide +kernel) (by decide +kernel) (Nat.le_trans x_wn (by decide)) (Or.inr ⟨_, rfl, ?_⟩)
    exact ⟨hJ, hF, by decide⟩
  have q7 : ¬ (a1 < (h (h 0 8) 7)) := q7
  refine x_thr (np := 18) (x := 2) (by decide +kernel) (by decide +kernel) (Nat.le_trans x_wn (by decide)) (Or.inr ⟨_, rfl, ?_⟩)
  refine Or.inr ⟨_, rfl, ?_⟩
  exact ⟨hJ, hF, by decide⟩
set_option maxHeartbeats 0 in
/-- LentNames$Accounts.settle(LLentNames$Town;LLentNames$Calendar;)V -/
theorem c1_59_T0_45 {sc : Nat × Nat} {d ra1 : Nat} {h : xh} (hJ : J h) (ta1 : tw ra1) : X sc 1 (d + 3) (xV fun h' => J h' ∧ Fr 8193 h h') 0 0 0 [x_r 59, x_r ra1, x_r 45, 147573952589676412928, 147573952589676412928] [] h := by
  have hF := Fr.refl 8193 h
  refine x_aload (np := 1) (x := 1) (by decide +kernel) rfl (x_nc_le (tn_0 ta1)) ?_
  have q1 : h ra1 5 = (ra1 + 10) := tf_0_5 hJ ta1
  refine x_getR (np := 4) (x := 517) (f := 5) (q := (ra1 + 10)) (by decide +kernel) (by decide) (tg_0_517_5_1 ta1) q1 ?_
  refine x_const (np := 5) (x := 9223372039002259456) (a := 2147483648) (by decide +kernel) (by decide) (by decide) ?_
  refine x_aload (np := 6) (x := 0) (by decide +kernel) rfl (x_nc_le (by decide)) ?_
  have q2 : h 59 0 = 60 := by have z := jB (e := 0) 0 hJ rg_59_0_0_1 (by decide) (by decide); omega
  refine x_getR (np := 9) (x := 0) (f := 0) (q := 60) (by decide +kernel) (by decide) (by decide +kernel) q2 ?_
  refine x_const (np := 10) (x := 9223372039002259456) (a := 2147483648) (by decide +kernel) (by decide) (by decide) ?_
  refine x_const (np := 12) (x := 9223372064772063238) (a := 2147483654) (by decide +kernel) (by decide) (by decide) ?_
  refine x_copy (np := 15) (q := 60) (r := (ra1 + 10)) (N := 6) (nq := 6) (nr := 6) (n8 := 0) (by decide +kernel) (ta_10_6 ta1) (by decide +kernel) (by decide) (by decide) (by decide) (by decide) x_wn (by decide) ?_
  have j4 := J_cp (q := 60) (r := (ra1 + 10)) (N := 6) hJ (tn_10 ta1) (ctb_60_T10_6 ta1).1 (ctb_60_T10_6 ta1).2.1 (ctb_60_T10_6 ta1).2.2
  have f5 := Fr_cp (q := 60) (r := (ra1 + 10)) (N := 6) (Fr.refl 8192 h) (fun i _ => show Nat.testBit 8192 13 = true by decide)
  generalize e6 : x_cp h 60 (ra1 + 10) 6 = h3 at j4 f5 ⊢
  have f7 := Fr.trans hF f5 (by decide)
  refine x_aload (np := 16) (x := 0) (by decide +kernel) rfl (x_nc_le (by decide)) ?_
  refine x_const (np := 17) (x := 9223372039002259456) (a := 2147483648) (by decide +kernel) (by decide) (by decide) ?_
  refine x_putI (np := 20) (x := 1) (f := 1) (by decide +kernel) (by decide +kernel) (by decide) (Or.inl (by decide)) ?_
  have j9 := jU (e := 1) (v := 2147483648) 0 j4 rg_59_1_0_1 (by omega) (by omega) (by omega)
  have f11 := jF (e := 1) (v := 2147483648) 0 f7 rg_59_1_0_1 (by omega) (by omega) (by decide)
  generalize e10 : x_up h3 59 1 2147483648 = h8 at j9 f11 ⊢
  refine x_const (np := 21) (x := 9223372039002259456) (a := 2147483648) (by decide +kernel) (by decide) (by decide) ?_
  refine x_istore (np := 22) (x := 3) (lo' := [x_r 59, x_r ra1, x_r 45, iv_c 2147483648, 147573952589676412928]) (by decide +kernel) (by decide) (Nat.le_of_ble_eq_true rfl) rfl ?_
  have p14968 : ∀ (n : Nat) (v14962 : Nat) (w14964 : Nat) (h14965 : xh), 4294967296 - v14962 < n → (2147483648 ≤ v14962 ∧ v14962 ≤ 2147483660) → J h14965 → Fr 8192 h8 h14965 → X sc 1 (d + 3) (xV fun h' => J h' ∧ Fr 8193 h h') 0 0 22 [x_r 59, x_r ra1, x_r 45, iv_c v14962, w14964] [] h14965 := by
    intro n
    induction n with
    | zero => intro v14962 w14964 h14965 q14969; exact absurd q14969 (Nat.not_lt_zero _)
    | succ n i14970 =>
      intro v14962 w14964 h14965 q14969 b14963 j14967 f14966
      have f14971 := Fr.trans f11 f14966 (by decide)
      refine x_iload (np := 23) (x := 3) (by decide +kernel) rfl (by omega) ?_
      refine x_const (np := 25) (x := 9223372090541867020) (a := 2147483660) (by decide +kernel) (by decide) (by decide) ?_
      refine x_icmp (k := 3) (tg := 91) (np := 28) (by decide +kernel) (by decide) (by omega) (by decide) (fun q14972 => ?_) (fun q14973 => ?_)
      · have q14972 : 2147483660 ≤ v14962 := q14972
        refine x_retV (np := 92) (x := 0) (by decide +kernel) (by decide +kernel) ⟨rfl, ?_⟩
        exact ⟨j14967, f14971⟩
      have q14973 : ¬ (2147483660 ≤ v14962) := q14973
      refine x_const (np := 29) (x := 9223372039002259456) (a := 2147483648) (by decide +kernel) (by decide) (by decide) ?_
      refine x_istore (np := 31) (x := 4) (lo' := [x_r 59, x_r ra1, x_r 45, iv_c v14962, iv_c 2147483648]) (by decide +kernel) (by decide) (Nat.le_of_ble_eq_true rfl) rfl ?_
      have p16198 : ∀ (n : Nat) (v16193 : Nat) (h16195 : xh), 4294967296 - v16193 < n → (2147483648 ≤ v16193 ∧ v16193 ≤ 2147483658) → J h16195 → Fr 8192 h14965 h16195 → X sc 1 (d + 3) (xV fun h' => J h' ∧ Fr 8193 h h') 0 0 31 [x_r 59, x_r ra1, x_r 45, iv_c v14962, iv_c v16193] [] h16195 := by
        intro n
        induction n with
        | zero => intro v16193 h16195 q16199; exact absurd q16199 (Nat.not_lt_zero _)
        | succ n i16200 =>
          intro v16193 h16195 q16199 b16194 j16197 f16196
          have f16201 := Fr.trans f14971 f16196 (by decide)
          have f16202 := Fr.trans f14966 f16196 (by decide)
          refine x_iload (np := 33) (x := 4) (by decide +kernel) rfl (by omega) ?_
          refine x_aload (np := 34) (x := 1) (by decide +kernel) rfl (x_nc_le (tn_0 ta1)) ?_
          have q16203 : h16195 ra1 2 = (ra1 + 5) := tf_0_2 j16197 ta1
          refine x_getR (np := 37) (x := 514) (f := 2) (q := (ra1 + 5)) (by decide +kernel) (by decide) (tg_0_514_2_1 ta1) q16203 ?_
          have q16204 : h16195 (ra1 + 5) 2 = h14965 (ra1 + 5) 2 := jK 0 f16196 (rg_T5_2_0_1 ta1) (by omega) (by omega) (by decide)
          have q16205 : h14965 (ra1 + 5) 2 = h8 (ra1 + 5) 2 := jK 0 f14966 (rg_T5_2_0_1 ta1) (by omega) (by omega) (by decide)
          have q16206 : h8 (ra1 + 5) 2 = h3 (ra1 + 5) 2 := by rw [← e10]; exact x_up_k (tne_5_59 ta1)
          have q16207 : h3 (ra1 + 5) 2 = h (ra1 + 5) 2 := jK 0 f5 (rg_T5_2_0_1 ta1) (by omega) (by omega) (by decide)
          have b16208 := jB (e := 2) 0 hJ (rg_T5_2_0_1 ta1) (by omega) (by omega)
          refine x_getC (np := 40) (x := 386) (f := 2) (q := (h (ra1 + 5) 2)) (by decide +kernel) (by decide) (tg_5_386_2_0 ta1) (((q16204.trans q16205).trans q16206).trans q16207) (fun l16209 => ?_)
          refine x_icmp (k := 3) (tg := 85) (np := 43) (by decide +kernel) (by decide) (by omega) l16209 (fun q16210 => ?_) (fun q16211 => ?_)
          · have q16210 : (h (ra1 + 5) 2) ≤ v16193 := q16210
            refine x_iinc (np := 88) (i := 3) (j := 2147483649) (v := (1 + v14962)) (lo' := [x_r 59, x_r ra1, x_r 45, iv_c (1 + v14962), iv_c v16193]) (by decide +kernel) (by decide) (by decide) rfl (by omega) (by omega) (by omega) rfl ?_
            refine x_goto (np := 91) (x := 22) (by decide +kernel) ?_
            exact i14970 (1 + v14962) (iv_c v16193) h16195 (by omega) (by omega) j16197 f16202
          have q16211 : ¬ ((h (ra1 + 5) 2) ≤ v16193) := q16211
          refine x_aload (np := 44) (x := 1) (by decide +kernel) rfl (x_nc_le (tn_0 ta1)) ?_
          have q16212 : h16195 ra1 2 = (ra1 + 5) := tf_0_2 j16197 ta1
          refine x_getR (np := 47) (x := 514) (f := 2) (q := (ra1 + 5)) (by decide +kernel) (by decide) (tg_0_514_2_1 ta1) q16212 ?_
          refine x_iload (np := 49) (x := 4) (by decide +kernel) rfl (by omega) ?_
          refine x_const (np := 50) (x := 9223372047592194050) (a := 2147483650) (by decide +kernel) (by decide) (by decide) ?_
          refine x_nI (t := 6) (mj := 68) (n := 3) (rc := 7) (ml := 4) (nr := 0) (np := 53) (as := [x_r (ra1 + 5), iv_c v16193, iv_c 2147483650]) (rest := []) (lo1 := [x_r (ra1 + 5), iv_c v16193, iv_c 2147483650, 147573952589676412928]) (by decide +kernel) (by decide) (by decide +kernel) (x_rb_of (tr_5_7 ta1)) rfl rfl (x_wr (tn_5 ta1) (x_wi (by omega) (x_wi (by decide) x_wn))) x_wn (by decide) rfl ?_
          refine x_iload (np := 1) (x := 1) (by decide +kernel) rfl (by omega) ?_
          refine x_ifz (k := 2) (tg := 28) (np := 4) (by decide +kernel) (by decide) (by omega) (fun q16217 => ?_) (fun q16218 => ?_)
          · have q16217 : v16193 < 2147483648 := q16217
            exfalso; omega
          have q16218 : ¬ (v16193 < 2147483648) := q16218
          refine x_iload (np := 5) (x := 1) (by decide +kernel) rfl (by omega) ?_
          refine x_aload (np := 6) (x := 0) (by decide +kernel) rfl (x_nc_le (tn_5 ta1)) ?_
          have q16219 : h16195 (ra1 + 5) 2 = h14965 (ra1 + 5) 2 := jK 0 f16196 (rg_T5_2_0_1 ta1) (by omega) (by omega) (by decide)
          have q16220 : h14965 (ra1 + 5) 2 = h8 (ra1 + 5) 2 := jK 0 f14966 (rg_T5_2_0_1 ta1) (by omega) (by omega) (by decide)
          have q16221 : h8 (ra1 + 5) 2 = h3 (ra1 + 5) 2 := by rw [← e10]; exact x_up_k (tne_5_59 ta1)
          have q16222 : h3 (ra1 + 5) 2 = h (ra1 + 5) 2 := jK 0 f5 (rg_T5_2_0_1 ta1) (by omega) (by omega) (by decide)
          refine x_getC (np := 9) (x := 386) (f := 2) (q := (h (ra1 + 5) 2)) (by decide +kernel) (by decide) (tg_5_386_2_0 ta1) (((q16219.trans q16220).trans q16221).trans q16222) (fun l16223 => ?_)
          refine x_icmp (k := 3) (tg := 28) (np := 12) (by decide +kernel) (by decide) (by omega) l16209 (fun q16224 => ?_) (fun q16225 => ?_)
          · have q16224 : (h (ra1 + 5) 2) ≤ v16193 := q16224
            exfalso; omega
          have q16225 : ¬ ((h (ra1 + 5) 2) ≤ v16193) := q16225
          refine x_iload (np := 13) (x := 2) (by decide +kernel) rfl (by decide) ?_
          refine x_ifz (k := 2) (tg := 28) (np := 16) (by decide +kernel) (by decide) (by decide) (fun q16226 => ?_) (fun q16227 => ?_)
          · have q16226 : 2147483650 < 2147483648 := q16226
            exfalso; omega
          have q16227 : ¬ (2147483650 < 2147483648) := q16227
          refine x_iload (np := 17) (x := 2) (by decide +kernel) rfl (by decide) ?_
          refine x_aload (np := 18) (x := 0) (by decide +kernel) rfl (x_nc_le (tn_5 ta1)) ?_
          have q16228 : h16195 (ra1 + 5) 0 = h14965 (ra1 + 5) 0 := jK 0 f16196 (rg_T5_0_0_1 ta1) (by omega) (by omega) (by decide)
          have q16229 : h14965 (ra1 + 5) 0 = h8 (ra1 + 5) 0 := jK 0 f14966 (rg_T5_0_0_1 ta1) (by omega) (by omega) (by decide)
          have q16230 : h8 (ra1 + 5) 0 = h3 (ra1 + 5) 0 := by rw [← e10]; exact x_up_k (tne_5_59 ta1)
          have q16231 : h3 (ra1 + 5) 0 = h (ra1 + 5) 0 := jK 0 f5 (rg_T5_0_0_1 ta1) (by omega) (by omega) (by decide)
          have b16232 := jB (e := 0) 0 hJ (rg_T5_0_0_1 ta1) (by omega) (by omega)
          have q16233 : (h (ra1 + 5) 0) = 2147483652 := by omega
          refine x_getC (np := 21) (x := 384) (f := 0) (q := 2147483652) (by decide +kernel) (by decide) (tg_5_384_0_0 ta1) ((((q16228.trans q16229).trans q16230).trans q16231).trans q16233) (fun l16234 => ?_)
          refine x_icmp (k := 3) (tg := 28) (np := 24) (by decide +kernel) (by decide) (by decide) (by decide) (fun q16235 => ?_) (fun q16236 => ?_)
          · have q16235 : 2147483652 ≤ 2147483650 := q16235
            exfalso; omega
          have q16236 : ¬ (2147483652 ≤ 2147483650) := q16236
          refine x_const (np := 25) (x := 9223372043297226753) (a := 2147483649) (by decide +kernel) (by decide) (by decide) ?_
          refine x_goto (np := 28) (x := 29) (by decide +kernel) ?_
          refine x_istore (np := 30) (x := 3) (lo' := [x_r (ra1 + 5), iv_c v16193, iv_c 2147483650, iv_c 2147483649]) (by decide +kernel) (by decide) (Nat.le_of_ble_eq_true rfl) rfl ?_
          refine x_iload (np := 31) (x := 3) (by decide +kernel) rfl (by decide) ?_
          refine x_ifz (k := 0) (tg := 50) (np := 34) (by decide +kernel) (by decide) (by decide) (fun q16237 => ?_) (fun q16238 => ?_)
          · have q16237 : 2147483649 = 2147483648 := q16237
            exfalso; omega
          have q16238 : ¬ (2147483649 = 2147483648) := q16238
          refine x_aload (np := 35) (x := 0) (by decide +kernel) rfl (x_nc_le (tn_5 ta1)) ?_
          have q16239 : h16195 (ra1 + 5) 1 = (ra1 + 6) := tf_5_1 j16197 ta1
          refine x_getR (np := 38) (x := 385) (f := 1) (q := (ra1 + 6)) (by decide +kernel) (by decide) (tg_5_385_1_1 ta1) q16239 ?_
          refine x_iload (np := 39) (x := 1) (by decide +kernel) rfl (by omega) ?_
          refine x_aload (np := 40) (x := 0) (by decide +kernel) rfl (x_nc_le (tn_5 ta1)) ?_
          have q16240 : h16195 (ra1 + 5) 0 = h14965 (ra1 + 5) 0 := jK 0 f16196 (rg_T5_0_0_1 ta1) (by omega) (by omega) (by decide)
          have q16241 : h14965 (ra1 + 5) 0 = h8 (ra1 + 5) 0 := jK 0 f14966 (rg_T5_0_0_1 ta1) (by omega) (by omega) (by decide)
          have q16242 : h8 (ra1 + 5) 0 = h3 (ra1 + 5) 0 := by rw [← e10]; exact x_up_k (tne_5_59 ta1)
          have q16243 : h3 (ra1 + 5) 0 = h (ra1 + 5) 0 := jK 0 f5 (rg_T5_0_0_1 ta1) (by omega) (by omega) (by decide)
          refine x_getC (np := 43) (x := 384) (f := 0) (q := 2147483652) (by decide +kernel) (by decide) (tg_5_384_0_0 ta1) ((((q16240.trans q16241).trans q16242).trans q16243).trans q16233) (fun l16244 => ?_)
          obtain ⟨u16245, q16246⟩ : ∃ z, v16193 = 2147483648 + z := ⟨v16193 - 2147483648, by omega⟩
          refine x_imul (np := 44) (x := 0) (i := u16245) (j := 4) (v := (2147483648 + 4 * u16245)) (by decide +kernel) (by omega) (by omega) (by omega) (by omega) (by omega) (by decide) ?_
          refine x_iload (np := 45) (x := 2) (by decide +kernel) rfl (by decide) ?_
          refine x_iadd (np := 46) (x := 0) (v := (2147483650 + 4 * u16245)) (by decide +kernel) (by omega) (by decide) (by omega) (by omega) ?_
          have q16248 : h16195 (ra1 + 6) (2 + 4 * u16245) = h14965 (ra1 + 6) (2 + 4 * u16245) := jK (2 + 4 * u16245) f16196 (rg_T6_0_1_40 ta1) (by omega) (by omega) (by decide)
          have q16249 : h14965 (ra1 + 6) (2 + 4 * u16245) = h8 (ra1 + 6) (2 + 4 * u16245) := jK (2 + 4 * u16245) f14966 (rg_T6_0_1_40 ta1) (by omega) (by omega) (by decide)
          have q16250 : h8 (ra1 + 6) (2 + 4 * u16245) = h3 (ra1 + 6) (2 + 4 * u16245) := by rw [← e10]; exact x_up_k (tne_6_59 ta1)
          have q16251 : h3 (ra1 + 6) (2 + 4 * u16245) = h (ra1 + 6) (2 + 4 * u16245) := jK (2 + 4 * u16245) f5 (rg_T6_0_1_40 ta1) (by omega) (by omega) (by decide)
          refine x_aldC (np := 47) (x := 0) (n := 40) (i := (2 + 4 * u16245)) (q := ((h (ra1 + 6) (2 + 4 * u16245)))) (by decide +kernel) (ta_6_40 ta1) (by omega) (by omega) (by decide) (((q16248.trans q16249).trans q16250).trans q16251) (fun l16252 => ?_)
          refine x_goto (np := 50) (x := 51) (by decide +kernel) ?_
          refine x_retI (np := 52) (x := 0) (by decide +kernel) l16252 (Or.inl (by decide +kernel)) ⟨_, rfl, l16252, ?_⟩
          refine x_iload (np := 54) (x := 3) (by decide +kernel) rfl (by omega) ?_
          refine x_icmp (k := 1) (tg := 79) (np := 57) (by decide +kernel) (by decide) l16252 (by omega) (fun q16253 => ?_) (fun q16254 => ?_)
          · have q16253 : ((h (ra1 + 6) (2 + 4 * u16245))) ≠ v14962 := q16253
            refine x_iinc (np := 82) (i := 4) (j := 2147483649) (v := (1 + v16193)) (lo' := [x_r 59, x_r ra1, x_r 45, iv_c v14962, iv_c (1 + v16193)]) (by decide +kernel) (by decide) (by decide) rfl (by omega) (by omega) (by omega) rfl ?_
            refine x_goto (np := 85) (x := 31) (by decide +kernel) ?_
            exact i16200 (1 + v16193) h16195 (by omega) (by omega) j16197 f16196
          have q16254 : ¬ (((h (ra1 + 6) (2 + 4 * u16245))) ≠ v14962) := q16254
          refine x_aload (np := 58) (x := 0) (by decide +kernel) rfl (x_nc_le (by decide)) ?_
          refine x_iload (np := 60) (x := 4) (by decide +kernel) rfl (by omega) ?_
          refine x_aload (np := 61) (x := 2) (by decide +kernel) rfl (x_nc_le (by decide)) ?_
          refine x_iload (np := 63) (x := 4) (by decide +kernel) rfl (by omega) ?_
          refine x_cP (t := 6) (mj := 12) (n := 2) (rc := 2) (ml := 4) (nr := 2) (np := 66) (as := [x_r 45, iv_c v16193]) (rest := [iv_c v16193, x_r 59]) (lo1 := [x_r 45, iv_c v16193, 147573952589676412928, 147573952589676412928]) (by decide +kernel) (by decide) (by decide +kernel) (x_rb_of (by decide +kernel)) rfl rfl (x_wr (by decide) (x_wi (by omega) x_wn)) (x_wi (by omega) (x_wr (by decide) x_wn)) (by decide) rfl (c12_45 j16197  (by omega)) (fun v16255 l16256 q16257 => ?_)
          refine x_aload (np := 67) (x := 1) (by decide +kernel) rfl (x_nc_le (tn_0 ta1)) ?_
          have q16258 : h16195 ra1 2 = (ra1 + 5) := tf_0_2 j16197 ta1
          refine x_getR (np := 70) (x := 514) (f := 2) (q := (ra1 + 5)) (by decide +kernel) (by decide) (tg_0_514_2_1 ta1) q16258 ?_
          refine x_iload (np := 72) (x := 4) (by decide +kernel) rfl (by omega) ?_
          refine x_const (np := 73) (x := 9223372051887161347) (a := 2147483651) (by decide +kernel) (by decide) (by decide) ?_
          refine x_nI (t := 6) (mj := 68) (n := 3) (rc := 7) (ml := 4) (nr := 3) (np := 76) (as := [x_r (ra1 + 5), iv_c v16193, iv_c 2147483651]) (rest := [iv_c v16255, iv_c v16193, x_r 59]) (lo1 := [x_r (ra1 + 5), iv_c v16193, iv_c 2147483651, 147573952589676412928]) (by decide +kernel) (by decide) (by decide +kernel) (x_rb_of (tr_5_7 ta1)) rfl rfl (x_wr (tn_5 ta1) (x_wi (by omega) (x_wi (by decide) x_wn))) (x_wi l16256 (x_wi (by omega) (x_wr (by decide) x_wn))) (by decide) rfl ?_
          refine x_iload (np := 1) (x := 1) (by decide +kernel) rfl (by omega) ?_
          refine x_ifz (k := 2) (tg := 28) (np := 4) (by decide +kernel) (by decide) (by omega) (fun q16263 => ?_) (fun q16264 => ?_)
          · have q16263 : v16193 < 2147483648 := q16263
            exfalso; omega
          have q16264 : ¬ (v16193 < 2147483648) := q16264
          refine x_iload (np := 5) (x := 1) (by decide +kernel) rfl (by omega) ?_
          refine x_aload (np := 6) (x := 0) (by decide +kernel) rfl (x_nc_le (tn_5 ta1)) ?_
          have q16265 : h16195 (ra1 + 5) 2 = h14965 (ra1 + 5) 2 := jK 0 f16196 (rg_T5_2_0_1 ta1) (by omega) (by omega) (by decide)
          have q16266 : h14965 (ra1 + 5) 2 = h8 (ra1 + 5) 2 := jK 0 f14966 (rg_T5_2_0_1 ta1) (by omega) (by omega) (by decide)
          have q16267 : h8 (ra1 + 5) 2 = h3 (ra1 + 5) 2 := by rw [← e10]; exact x_up_k (tne_5_59 ta1)
          have q16268 : h3 (ra1 + 5) 2 = h (ra1 + 5) 2 := jK 0 f5 (rg_T5_2_0_1 ta1) (by omega) (by omega) (by decide)
          refine x_getC (np := 9) (x := 386) (f := 2) (q := (h (ra1 + 5) 2)) (by decide +kernel) (by decide) (tg_5_386_2_0 ta1) (((q16265.trans q16266).trans q16267).trans q16268) (fun l16269 => ?_)
          refine x_icmp (k := 3) (tg := 28) (np := 12) (by decide +kernel) (by decide) (by omega) l16209 (fun q16270 => ?_) (fun q16271 => ?_)
          · have q16270 : (h (ra1 + 5) 2) ≤ v16193 := q16270
            exfalso; omega
          have q16271 : ¬ ((h (ra1 + 5) 2) ≤ v16193) := q16271
          refine x_iload (np := 13) (x := 2) (by decide +kernel) rfl (by decide) ?_
          refine x_ifz (k := 2) (tg := 28) (np := 16) (by decide +kernel) (by decide) (by decide) (fun q16272 => ?_) (fun q16273 => ?_)
          · have q16272 : 2147483651 < 2147483648 := q16272
            exfalso; omega
          have q16273 : ¬ (2147483651 < 2147483648) := q16273
          refine x_iload (np := 17) (x := 2) (by decide +kernel) rfl (by decide) ?_
          refine x_aload (np := 18) (x := 0) (by decide +kernel) rfl (x_nc_le (tn_5 ta1)) ?_
          have q16274 : h16195 (ra1 + 5) 0 = h14965 (ra1 + 5) 0 := jK 0 f16196 (rg_T5_0_0_1 ta1) (by omega) (by omega) (by decide)
          have q16275 : h14965 (ra1 + 5) 0 = h8 (ra1 + 5) 0 := jK 0 f14966 (rg_T5_0_0_1 ta1) (by omega) (by omega) (by decide)
          have q16276 : h8 (ra1 + 5) 0 = h3 (ra1 + 5) 0 := by rw [← e10]; exact x_up_k (tne_5_59 ta1)
          have q16277 : h3 (ra1 + 5) 0 = h (ra1 + 5) 0 := jK 0 f5 (rg_T5_0_0_1 ta1) (by omega) (by omega) (by decide)
          refine x_getC (np := 21) (x := 384) (f := 0) (q := 2147483652) (by decide +kernel) (by decide) (tg_5_384_0_0 ta1) ((((q16274.trans q16275).trans q16276).trans q16277).trans q16233) (fun l16278 => ?_)
          refine x_icmp (k := 3) (tg := 28) (np := 24) (by decide +kernel) (by decide) (by decide) (by decide) (fun q16279 => ?_) (fun q16280 => ?_)
          · have q16279 : 2147483652 ≤ 2147483651 := q16279
            exfalso; omega
          have q16280 : ¬ (2147483652 ≤ 2147483651) := q16280
          refine x_const (np := 25) (x := 9223372043297226753) (a := 2147483649) (by decide +kernel) (by decide) (by decide) ?_
          refine x_goto (np := 28) (x := 29) (by decide +kernel) ?_
          refine x_istore (np := 30) (x := 3) (lo' := [x_r (ra1 + 5), iv_c v16193, iv_c 2147483651, iv_c 2147483649]) (by decide +kernel) (by decide) (Nat.le_of_ble_eq_true rfl) rfl ?_
          refine x_iload (np := 31) (x := 3) (by decide +kernel) rfl (by decide) ?_
          refine x_ifz (k := 0) (tg := 50) (np := 34) (by decide +kernel) (by decide) (by decide) (fun q16281 => ?_) (fun q16282 => ?_)
          · have q16281 : 2147483649 = 2147483648 := q16281
            exfalso; omega
          have q16282 : ¬ (2147483649 = 2147483648) := q16282
          refine x_aload (np := 35) (x := 0) (by decide +kernel) rfl (x_nc_le (tn_5 ta1)) ?_
          have q16283 : h16195 (ra1 + 5) 1 = (ra1 + 6) := tf_5_1 j16197 ta1
          refine x_getR (np := 38) (x := 385) (f := 1) (q := (ra1 + 6)) (by decide +kernel) (by decide) (tg_5_385_1_1 ta1) q16283 ?_
          refine x_iload (np := 39) (x := 1) (by decide +kernel) rfl (by omega) ?_
          refine x_aload (np := 40) (x := 0) (by decide +kernel) rfl (x_nc_le (tn_5 ta1)) ?_
          have q16284 : h16195 (ra1 + 5) 0 = h14965 (ra1 + 5) 0 := jK 0 f16196 (rg_T5_0_0_1 ta1) (by omega) (by omega) (by decide)
          have q16285 : h14965 (ra1 + 5) 0 = h8 (ra1 + 5) 0 := jK 0 f14966 (rg_T5_0_0_1 ta1) (by omega) (by omega) (by decide)
          have q16286 : h8 (ra1 + 5) 0 = h3 (ra1 + 5) 0 := by rw [← e10]; exact x_up_k (tne_5_59 ta1)
          have q16287 : h3 (ra1 + 5) 0 = h (ra1 + 5) 0 := jK 0 f5 (rg_T5_0_0_1 ta1) (by omega) (by omega) (by decide)
          refine x_getC (np := 43) (x := 384) (f := 0) (q := 2147483652) (by decide +kernel) (by decide) (tg_5_384_0_0 ta1) ((((q16284.trans q16285).trans q16286).trans q16287).trans q16233) (fun l16288 => ?_)
          refine x_imul (np := 44) (x := 0) (i := u16245) (j := 4) (v := (2147483648 + 4 * u16245)) (by decide +kernel) (by omega) (by omega) (by omega) (by omega) (by omega) (by decide) ?_
          refine x_iload (np := 45) (x := 2) (by decide +kernel) rfl (by decide) ?_
          refine x_iadd (np := 46) (x := 0) (v := (2147483651 + 4 * u16245)) (by decide +kernel) (by omega) (by decide) (by omega) (by omega) ?_
          have q16290 : h16195 (ra1 + 6) (3 + 4 * u16245) = h14965 (ra1 + 6) (3 + 4 * u16245) := jK (3 + 4 * u16245) f16196 (rg_T6_0_1_40 ta1) (by omega) (by omega) (by decide)
          have q16291 : h14965 (ra1 + 6) (3 + 4 * u16245) = h8 (ra1 + 6) (3 + 4 * u16245) := jK (3 + 4 * u16245) f14966 (rg_T6_0_1_40 ta1) (by omega) (by omega) (by decide)
          have q16292 : h8 (ra1 + 6) (3 + 4 * u16245) = h3 (ra1 + 6) (3 + 4 * u16245) := by rw [← e10]; exact x_up_k (tne_6_59 ta1)
          have q16293 : h3 (ra1 + 6) (3 + 4 * u16245) = h (ra1 + 6) (3 + 4 * u16245) := jK (3 + 4 * u16245) f5 (rg_T6_0_1_40 ta1) (by omega) (by omega) (by decide)
          refine x_aldC (np := 47) (x := 0) (n := 40) (i := (3 + 4 * u16245)) (q := ((h (ra1 + 6) (3 + 4 * u16245)))) (by decide +kernel) (ta_6_40 ta1) (by omega) (by omega) (by decide) (((q16290.trans q16291).trans q16292).trans q16293) (fun l16294 => ?_)
          refine x_goto (np := 50) (x := 51) (by decide +kernel) ?_
          refine x_retI (np := 52) (x := 0) (by decide +kernel) l16294 (Or.inl (by decide +kernel)) ⟨_, rfl, l16294, ?_⟩
          refine x_nV (t := 6) (mj := 2) (n := 4) (rc := 1) (ml := 4) (nr := 0) (np := 79) (as := [x_r 59, iv_c v16193, iv_c v16255, iv_c ((h (ra1 + 6) (3 + 4 * u16245)))]) (rest := []) (lo1 := [x_r 59, iv_c v16193, iv_c v16255, iv_c ((h (ra1 + 6) (3 + 4 * u16245)))]) (by decide +kernel) (by decide) (by decide +kernel) (x_rb_of (by decide +kernel)) rfl rfl (x_wr (by decide) (x_wi (by omega) (x_wi l16256 (x_wi l16294 x_wn)))) x_wn (by decide) rfl ?_
          refine x_iload (np := 1) (x := 2) (by decide +kernel) rfl l16256 ?_
          refine x_const (np := 2) (x := 9223372034707292159) (a := 2147483647) (by decide +kernel) (by decide) (by decide) ?_
          refine x_icmp (k := 0) (tg := 15) (np := 5) (by decide +kernel) (by decide) l16256 (by decide) (fun q16295 => ?_) (fun q16296 => ?_)
          · have q16295 : v16255 = 2147483647 := q16295
            refine x_aload (np := 16) (x := 0) (by decide +kernel) rfl (x_nc_le (by decide)) ?_
            refine x_dup (np := 17) (x := 0) (by decide +kernel) (by have z := x_nc_le (k := 59) (by decide); unfold x_r; omega) ?_
            refine x_getC (np := 20) (x := 1) (f := 1) (q := (h16195 59 1)) (by decide +kernel) (by decide) (by decide +kernel) rfl (fun l16297 => ?_)
            refine x_const (np := 21) (x := 9223372043297226753) (a := 2147483649) (by decide +kernel) (by decide) (by decide) ?_
            refine x_iload (np := 22) (x := 1) (by decide +kernel) rfl (by omega) ?_
            refine x_any (np := 23) (k9 := 3) (by decide +kernel) (by decide) (by decide) (by omega) (fun v16298 l16299 => ?_)
            refine x_any (np := 24) (k9 := 1) (by decide +kernel) (by decide) l16297 l16299 (fun v16300 l16301 => ?_)
            refine x_putI (np := 27) (x := 1) (f := 1) (by decide +kernel) (by decide +kernel) l16301 (Or.inl (by decide)) ?_
            have j16303 := jU (e := 1) (v := v16300) 0 j16197 rg_59_1_0_1 (by omega) (by omega) (by omega)
            have f16305 := jF (e := 1) (v := v16300) 0 f16201 rg_59_1_0_1 (by omega) (by omega) (by decide)
            have f16306 := jF (e := 1) (v := v16300) 0 f16202 rg_59_1_0_1 (by omega) (by omega) (by decide)
            have f16307 := jF (e := 1) (v := v16300) 0 f16196 rg_59_1_0_1 (by omega) (by omega) (by decide)
            generalize e16304 : x_up h16195 59 1 v16300 = h16302 at j16303 f16305 f16306 f16307 ⊢
            refine x_goto (np := 30) (x := 40) (by decide +kernel) ?_
            refine x_retV (np := 41) (x := 0) (by decide +kernel) (by decide +kernel) ⟨rfl, ?_⟩
            refine x_iinc (np := 82) (i := 4) (j := 2147483649) (v := (1 + v16193)) (lo' := [x_r 59, x_r ra1, x_r 45, iv_c v14962, iv_c (1 + v16193)]) (by decide +kernel) (by decide) (by decide) rfl (by omega) (by omega) (by omega) rfl ?_
            refine x_goto (np := 85) (x := 31) (by decide +kernel) ?_
            exact i16200 (1 + v16193) h16302 (by omega) (by omega) j16303 f16307
          have q16296 : ¬ (v16255 = 2147483647) := q16296
          refine x_aload (np := 6) (x := 0) (by decide +kernel) rfl (x_nc_le (by decide)) ?_
          have q16308 : h16195 59 0 = 60 := by have z := jB (e := 0) 0 j16197 rg_59_0_0_1 (by decide) (by decide); omega
          refine x_getR (np := 9) (x := 0) (f := 0) (q := 60) (by decide +kernel) (by decide) (by decide +kernel) q16308 ?_
          refine x_iload (np := 10) (x := 2) (by decide +kernel) rfl l16256 ?_
          obtain ⟨u16309, q16310⟩ : ∃ z, v16255 = 2147483648 + z := ⟨v16255 - 2147483648, by omega⟩
          refine x_aldC (np := 11) (x := 0) (n := 6) (i := u16309) (q := (h16195 60 u16309)) (by decide +kernel) (by decide +kernel) (by omega) (by omega) (by decide) rfl (fun l16311 => ?_)
          refine x_iload (np := 12) (x := 3) (by decide +kernel) rfl l16294 ?_
          refine x_icmp (k := 3) (tg := 30) (np := 15) (by decide +kernel) (by decide) l16311 l16294 (fun q16312 => ?_) (fun q16313 => ?_)
          · have q16312 : ((h (ra1 + 6) (3 + 4 * u16245))) ≤ (h16195 60 u16309) := q16312
            refine x_aload (np := 31) (x := 0) (by decide +kernel) rfl (x_nc_le (by decide)) ?_
            have q16314 : h16195 59 0 = 60 := by have z := jB (e := 0) 0 j16197 rg_59_0_0_1 (by decide) (by decide); omega
            refine x_getR (np := 34) (x := 0) (f := 0) (q := 60) (by decide +kernel) (by decide) (by decide +kernel) q16314 ?_
            refine x_iload (np := 35) (x := 2) (by decide +kernel) rfl l16256 ?_
            refine x_dup2 (np := 36) (x := 0) (by decide +kernel) (by have z := (iw_c_lt (a := v16255) l16256).1; omega) (by have z := x_nc_le (k := 60) (by decide); unfold x_r; omega) ?_
            refine x_aldC (np := 37) (x := 0) (n := 6) (i := u16309) (q := (h16195 60 u16309)) (by decide +kernel) (by decide +kernel) (by omega) (by omega) (by decide) rfl (fun l16315 => ?_)
            refine x_iload (np := 38) (x := 3) (by decide +kernel) rfl l16294 ?_
            refine x_subA (by rw [tb_b2]; decide +kernel) l16311 l16294 (fun v16316 l16317 => ?_)
            refine x_ast (np := 40) (x := 0) (kd := 1) (n := 6) (i := u16309) (by decide +kernel) (Or.inl rfl) (by decide +kernel) (by omega) (by omega) (by decide) l16317 (fun z => absurd z (by decide)) ?_
            have j16319 := jU (e := u16309) (v := v16316) u16309 j16197 rg_60_0_1_6 (by omega) (by omega) (by omega)
            have f16321 := jF (e := u16309) (v := v16316) u16309 f16201 rg_60_0_1_6 (by omega) (by omega) (by decide)
            have f16322 := jF (e := u16309) (v := v16316) u16309 f16202 rg_60_0_1_6 (by omega) (by omega) (by decide)
            have f16323 := jF (e := u16309) (v := v16316) u16309 f16196 rg_60_0_1_6 (by omega) (by omega) (by decide)
            generalize e16320 : x_up h16195 60 u16309 v16316 = h16318 at j16319 f16321 f16322 f16323 ⊢
            refine x_retV (np := 41) (x := 0) (by decide +kernel) (by decide +kernel) ⟨rfl, ?_⟩
            refine x_iinc (np := 82) (i := 4) (j := 2147483649) (v := (1 + v16193)) (lo' := [x_r 59, x_r ra1, x_r 45, iv_c v14962, iv_c (1 + v16193)]) (by decide +kernel) (by decide) (by decide) rfl (by omega) (by omega) (by omega) rfl ?_
            refine x_goto (np := 85) (x := 31) (by decide +kernel) ?_
            exact i16200 (1 + v16193) h16318 (by omega) (by omega) j16319 f16323
          have q16313 : ¬ (((h (ra1 + 6) (3 + 4 * u16245))) ≤ (h16195 60 u16309)) := q16313
          refine x_aload (np := 16) (x := 0) (by decide +kernel) rfl (x_nc_le (by decide)) ?_
          refine x_dup (np := 17) (x := 0) (by decide +kernel) (by have z := x_nc_le (k := 59) (by decide); unfold x_r; omega) ?_
          refine x_getC (np := 20) (x := 1) (f := 1) (q := (h16195 59 1)) (by decide +kernel) (by decide) (by decide +kernel) rfl (fun l16324 => ?_)
          refine x_const (np := 21) (x := 9223372043297226753) (a := 2147483649) (by decide +kernel) (by decide) (by decide) ?_
          refine x_iload (np := 22) (x := 1) (by decide +kernel) rfl (by omega) ?_
          refine x_any (np := 23) (k9 := 3) (by decide +kernel) (by decide) (by decide) (by omega) (fun v16325 l16326 => ?_)
          refine x_any (np := 24) (k9 := 1) (by decide +kernel) (by decide) l16324 l16326 (fun v16327 l16328 => ?_)
          refine x_putI (np := 27) (x := 1) (f := 1) (by decide +kernel) (by decide +kernel) l16328 (Or.inl (by decide)) ?_
          have j16330 := jU (e := 1) (v := v16327) 0 j16197 rg_59_1_0_1 (by omega) (by omega) (by omega)
          have f16332 := jF (e := 1) (v := v16327) 0 f16201 rg_59_1_0_1 (by omega) (by omega) (by decide)
          have f16333 := jF (e := 1) (v := v16327) 0 f16202 rg_59_1_0_1 (by omega) (by omega) (by decide)
          have f16334 := jF (e := 1) (v := v16327) 0 f16196 rg_59_1_0_1 (by omega) (by omega) (by decide)
          generalize e16331 : x_up h16195 59 1 v16327 = h16329 at j16330 f16332 f16333 f16334 ⊢
          refine x_goto (np := 30) (x := 40) (by decide +kernel) ?_
          refine x_retV (np := 41) (x := 0) (by decide +kernel) (by decide +kernel) ⟨rfl, ?_⟩
          refine x_iinc (np := 82) (i := 4) (j := 2147483649) (v := (1 + v16193)) (lo' := [x_r 59, x_r ra1, x_r 45, iv_c v14962, iv_c (1 + v16193)]) (by decide +kernel) (by decide) (by decide) rfl (by omega) (by omega) (by omega) rfl ?_
          refine x_goto (np := 85) (x := 31) (by decide +kernel) ?_
          exact i16200 (1 + v16193) h16329 (by omega) (by omega) j16330 f16334
      exact p16198 _ 2147483648 h14965 (Nat.lt_succ_self _) (by omega) j14967 (Fr.refl _ _)
  exact p14968 _ 2147483648 147573952589676412928 h8 (Nat.lt_succ_self _) (by omega) j9 (Fr.refl _ _)
set_option maxHeartbeats 0 in
/-- LentNames.left(I)I -/
theorem c131_0 {sc : Nat × Nat} {d a1 : Nat} {h : xh} (hJ : J h) (ba1 : 0 ≤ a1 ∧ a1 ≤ 4294967295) : X sc 131 (d + 4) (xT (fun r h' => J h' ∧ Fr 8193 h h' ∧ (0 ≤ r ∧ r ≤ 4294967295)) (fun E h' => J h' ∧ Fr 8193 h h' ∧ (E = 2))) 0 0 0 [x_r 0, iv_c a1] [] h := by
  have la1 : a1 < 4294967296 := by omega
  have hF := Fr.refl 8193 h
  refine x_aload (np := 1) (x := 0) (by decide +kernel) rfl (x_nc_le (by decide)) ?_
  refine x_iload (np := 2) (x := 1) (by decide +kernel) rfl la1 ?_
  refine x_nU (t := 6) (mj := 145) (n := 2) (rc := 11) (ml := 2) (cc := 1) (ss := 6) (nr := 0) (np := 5) (as := [x_r 0, iv_c a1]) (rest := []) (lo1 := [x_r 0, iv_c a1]) (by decide +kernel) (by decide) (by decide +kernel) (by decide +kernel) (x_rb_of (by decide +kernel)) rfl rfl (x_wr (by decide) (x_wi la1 x_wn)) x_wn (by decide) rfl ?_
  refine x_iload (np := 1) (x := 1) (by decide +kernel) rfl la1 ?_
  refine x_ifz (k := 2) (tg := 15) (np := 4) (by decide +kernel) (by decide) la1 (fun q1 => ?_) (fun q2 => ?_)
  · have q1 : a1 < 2147483648 := q1
    refine x_thr (np := 18) (x := 2) (by decide +kernel) (by decide +kernel) (Nat.le_trans x_wn (by decide)) (Or.inr ⟨_, rfl, ?_⟩)
    refine Or.inr ⟨_, rfl, ?_⟩
    exact ⟨hJ, hF, by decide⟩
  have q2 : ¬ (a1 < 2147483648) := q2
  refine x_iload (np := 5) (x := 1) (by decide +kernel) rfl la1 ?_
  refine x_aload (np := 6) (x := 0) (by decide +kernel) rfl (x_nc_le (by decide)) ?_
  have t3 : tw (h 0 8) := hJ.2.1
  refine x_getR (np := 9) (x := 648) (f := 8) (q := (h 0 8)) (by decide +kernel) (by decide) (by decide +kernel) rfl ?_
  have b4 := jB (e := 7) 0 hJ (rg_T0_7_0_1 t3) (by omega) (by omega)
  refine x_getC (np := 12) (x := 519) (f := 7) (q := (h (h 0 8) 7)) (by decide +kernel) (by decide) (tg_0_519_7_0 t3) rfl (fun l5 => ?_)
  refine x_icmp (k := 2) (tg := 26) (np := 15) (by decide +kernel) (by decide) la1 l5 (fun q6 => ?_) (fun q7 => ?_)
  · have q6 : a1 < (h (h 0 8) 7) := q6
    refine x_retV (np := 27) (x := 0) (by decide +kernel) (by decide +kernel) (Or.inl ⟨rfl, ?_⟩)
    refine x_aload (np := 6) (x := 0) (by decide +kernel) rfl (x_nc_le (by decide)) ?_
    have q8 : h 0 2 = 59 := by have z := jB (e := 2) 0 hJ rg_0_2_0_1 (by decide) (by decide); omega
    refine x_getR (np := 9) (x := 642) (f := 2) (q := 59) (by decide +kernel) (by decide) (by decide +kernel) q8 ?_
    refine x_aload (np := 10) (x := 0) (by decide +kernel) rfl (x_nc_le (by decide)) ?_
    refine x_getR (np := 13) (x := 648) (f := 8) (q := (h 0 8)) (by decide +kernel) (by decide) (by decide +kernel) rfl ?_
    refine x_aload (np := 14) (x := 0) (by decide +kernel) rfl (x_nc_le (by decide)) ?_
    have q9 : h 0 1 = 45 := by have z := jB (e := 1) 0 hJ rg_0_1_0_1 (by decide) (by decide); omega
    refine x_getR (np := 17) (x := 641) (f := 1) (q := 45) (by decide +kernel) (by decide) (by decide +kernel) q9 ?_
    refine x_cV (t := 6) (mj := 1) (n := 3) (rc := 1) (ml := 5) (nr := 0) (np := 20) (as := [x_r 59, x_r (h 0 8), x_r 45]) (rest := []) (lo1 := [x_r 59, x_r (h 0 8), x_r 45, 147573952589676412928, 147573952589676412928]) (by decide +kernel) (by decide) (by decide +kernel) (x_rb_of (by decide +kernel)) rfl rfl (x_wr (by decide) (x_wr (tn_0 t3) (x_wr (by decide) x_wn))) x_wn (by decide) rfl (c1_59_T0_45 hJ  t3 ) (fun h13 q12 => ?_)
    obtain ⟨j14, f15⟩ := q12
    have f18 := Fr.trans hF f15 (by decide)
    refine x_aload (np := 21) (x := 0) (by decide +kernel) rfl (x_nc_le (by decide)) ?_
    have q19 : h13 0 2 = 59 := by have z := jB (e := 2) 0 j14 rg_0_2_0_1 (by decide) (by decide); omega
    refine x_getR (np := 24) (x := 642) (f := 2) (q := 59) (by decide +kernel) (by decide) (by decide +kernel) q19 ?_
    have q20 : h13 59 0 = 60 := by have z := jB (e := 0) 0 j14 rg_59_0_0_1 (by decide) (by decide); omega
    refine x_getR (np := 27) (x := 0) (f := 0) (q := 60) (by decide +kernel) (by decide) (by decide +kernel) q20 ?_
    refine x_iload (np := 28) (x := 1) (by decide +kernel) rfl la1 ?_
    obtain ⟨u21, q22⟩ : ∃ z, a1 = 2147483648 + z := ⟨a1 - 2147483648, by omega⟩
    refine x_aldC (np := 29) (x := 0) (n := 6) (i := u21) (q := (h13 60 u21)) (by decide +kernel) (by decide +kernel) (by omega) (by omega) (by decide) rfl (fun l23 => ?_)
    refine x_retI (np := 30) (x := 0) (by decide +kernel) l23 (Or.inl (by decide +kernel)) (Or.inl ⟨_, rfl, l23, ?_⟩)
    exact ⟨j14, f18, (by omega)⟩
  have q7 : ¬ (a1 < (h (h 0 8) 7)) := q7
  refine x_thr (np := 18) (x := 2) (by decide +kernel) (by decide +kernel) (Nat.le_trans x_wn (by decide)) (Or.inr ⟨_, rfl, ?_⟩)
  refine Or.inr ⟨_, rfl, ?_⟩
  exact ⟨hJ, hF, by decide⟩
set_option maxHeartbeats 0 in
/-- LentNames.unpaid()I -/
theorem c132_0 {sc : Nat × Nat} {d  : Nat} {h : xh} (hJ : J h) : X sc 132 (d + 4) (xI fun r h' => J h' ∧ Fr 8193 h h' ∧ (0 ≤ r ∧ r ≤ 4294967295)) 0 0 0 [x_r 0] [] h := by
  have hF := Fr.refl 8193 h
  refine x_aload (np := 1) (x := 0) (by decide +kernel) rfl (x_nc_le (by decide)) ?_
  have q1 : h 0 2 = 59 := by have z := jB (e := 2) 0 hJ rg_0_2_0_1 (by decide) (by decide); omega
  refine x_getR (np := 4) (x := 642) (f := 2) (q := 59) (by decide +kernel) (by decide) (by decide +kernel) q1 ?_
  refine x_aload (np := 5) (x := 0) (by decide +kernel) rfl (x_nc_le (by decide)) ?_
  have t2 : tw (h 0 8) := hJ.2.1
  refine x_getR (np := 8) (x := 648) (f := 8) (q := (h 0 8)) (by decide +kernel) (by decide) (by decide +kernel) rfl ?_
  refine x_aload (np := 9) (x := 0) (by decide +kernel) rfl (x_nc_le (by decide)) ?_
  have q3 : h 0 1 = 45 := by have z := jB (e := 1) 0 hJ rg_0_1_0_1 (by decide) (by decide); omega
  refine x_getR (np := 12) (x := 641) (f := 1) (q := 45) (by decide +kernel) (by decide) (by decide +kernel) q3 ?_
  refine x_cV (t := 6) (mj := 1) (n := 3) (rc := 1) (ml := 5) (nr := 0) (np := 15) (as := [x_r 59, x_r (h 0 8), x_r 45]) (rest := []) (lo1 := [x_r 59, x_r (h 0 8), x_r 45, 147573952589676412928, 147573952589676412928]) (by decide +kernel) (by decide) (by decide +kernel) (x_rb_of (by decide +kernel)) rfl rfl (x_wr (by decide) (x_wr (tn_0 t2) (x_wr (by decide) x_wn))) x_wn (by decide) rfl (c1_59_T0_45 hJ  t2 ) (fun h7 q6 => ?_)
  obtain ⟨j8, f9⟩ := q6
  have f12 := Fr.trans hF f9 (by decide)
  refine x_aload (np := 16) (x := 0) (by decide +kernel) rfl (x_nc_le (by decide)) ?_
  have q13 : h7 0 2 = 59 := by have z := jB (e := 2) 0 j8 rg_0_2_0_1 (by decide) (by decide); omega
  refine x_getR (np := 19) (x := 642) (f := 2) (q := 59) (by decide +kernel) (by decide) (by decide +kernel) q13 ?_
  refine x_getC (np := 22) (x := 1) (f := 1) (q := (h7 59 1)) (by decide +kernel) (by decide) (by decide +kernel) rfl (fun l14 => ?_)
  refine x_retI (np := 23) (x := 0) (by decide +kernel) l14 (Or.inl (by decide +kernel)) ⟨_, rfl, l14, ?_⟩
  exact ⟨j8, f12, (by omega)⟩
set_option maxHeartbeats 0 in
/-- LentNames.meets(I)I -/
theorem c133_0 {sc : Nat × Nat} {d a1 : Nat} {h : xh} (hJ : J h) (ba1 : 0 ≤ a1 ∧ a1 ≤ 4294967295) : X sc 133 (d + 4) (xT (fun r h' => J h' ∧ Fr 8193 h h' ∧ (2147483647 ≤ r ∧ r ≤ 2147483653)) (fun E h' => J h' ∧ Fr 8193 h h' ∧ (E = 2))) 0 0 0 [x_r 0, iv_c a1, 147573952589676412928, 147573952589676412928, 147573952589676412928, 147573952589676412928, 147573952589676412928] [] h := by
  have la1 : a1 < 4294967296 := by omega
  have hF := Fr.refl 8193 h
  refine x_aload (np := 1) (x := 0) (by decide +kernel) rfl (x_nc_le (by decide)) ?_
  have t1 : tw (h 0 8) := hJ.2.1
  refine x_getR (np := 4) (x := 648) (f := 8) (q := (h 0 8)) (by decide +kernel) (by decide) (by decide +kernel) rfl ?_
  have q2 : h (h 0 8) 2 = ((h 0 8) + 5) := tf_0_2 hJ t1
  refine x_getR (np := 7) (x := 514) (f := 2) (q := ((h 0 8) + 5)) (by decide +kernel) (by decide) (tg_0_514_2_1 t1) q2 ?_
  refine x_iload (np := 8) (x := 1) (by decide +kernel) rfl la1 ?_
  refine x_nU (t := 0) (mj := 147) (n := 2) (rc := 0) (ml := 2) (cc := 1) (ss := 6) (nr := 0) (np := 11) (as := [x_r ((h 0 8) + 5), iv_c a1]) (rest := []) (lo1 := [x_r ((h 0 8) + 5), iv_c a1]) (by decide +kernel) (by decide) (by decide +kernel) (by decide +kernel) (Or.inl rfl) rfl rfl (x_wr (tn_5 t1) (x_wi la1 x_wn)) x_wn (by decide) rfl ?_
  refine x_iload (np := 1) (x := 1) (by decide +kernel) rfl la1 ?_
  refine x_ifz (k := 2) (tg := 12) (np := 4) (by decide +kernel) (by decide) la1 (fun q3 => ?_) (fun q4 => ?_)
  · have q3 : a1 < 2147483648 := q3
    refine x_thr (np := 15) (x := 2) (by decide +kernel) (by decide +kernel) (Nat.le_trans x_wn (by decide)) (Or.inr ⟨_, rfl, ?_⟩)
    refine Or.inr ⟨_, rfl, ?_⟩
    exact ⟨hJ, hF, by decide⟩
  have q4 : ¬ (a1 < 2147483648) := q4
  refine x_iload (np := 5) (x := 1) (by decide +kernel) rfl la1 ?_
  refine x_aload (np := 6) (x := 0) (by decide +kernel) rfl (x_nc_le (tn_5 t1)) ?_
  have b5 := jB (e := 2) 0 hJ (rg_T5_2_0_1 t1) (by omega) (by omega)
  refine x_getC (np := 9) (x := 386) (f := 2) (q := (h ((h 0 8) + 5) 2)) (by decide +kernel) (by decide) (tg_5_386_2_0 t1) rfl (fun l6 => ?_)
  refine x_icmp (k := 2) (tg := 23) (np := 12) (by decide +kernel) (by decide) la1 l6 (fun q7 => ?_) (fun q8 => ?_)
  · have q7 : a1 < (h ((h 0 8) + 5) 2) := q7
    refine x_retV (np := 24) (x := 0) (by decide +kernel) (by decide +kernel) (Or.inl ⟨rfl, ?_⟩)
    refine x_aload (np := 12) (x := 0) (by decide +kernel) rfl (x_nc_le (by decide)) ?_
    have q9 : h 0 2 = 59 := by have z := jB (e := 2) 0 hJ rg_0_2_0_1 (by decide) (by decide); omega
    refine x_getR (np := 15) (x := 642) (f := 2) (q := 59) (by decide +kernel) (by decide) (by decide +kernel) q9 ?_
    refine x_aload (np := 16) (x := 0) (by decide +kernel) rfl (x_nc_le (by decide)) ?_
    refine x_getR (np := 19) (x := 648) (f := 8) (q := (h 0 8)) (by decide +kernel) (by decide) (by decide +kernel) rfl ?_
    refine x_aload (np := 20) (x := 0) (by decide +kernel) rfl (x_nc_le (by decide)) ?_
    have q10 : h 0 1 = 45 := by have z := jB (e := 1) 0 hJ rg_0_1_0_1 (by decide) (by decide); omega
    refine x_getR (np := 23) (x := 641) (f := 1) (q := 45) (by decide +kernel) (by decide) (by decide +kernel) q10 ?_
    refine x_cV (t := 6) (mj := 1) (n := 3) (rc := 1) (ml := 5) (nr := 0) (np := 26) (as := [x_r 59, x_r (h 0 8), x_r 45]) (rest := []) (lo1 := [x_r 59, x_r (h 0 8), x_r 45, 147573952589676412928, 147573952589676412928]) (by decide +kernel) (by decide) (by decide +kernel) (x_rb_of (by decide +kernel)) rfl rfl (x_wr (by decide) (x_wr (tn_0 t1) (x_wr (by decide) x_wn))) x_wn (by decide) rfl (c1_59_T0_45 hJ  t1 ) (fun h14 q13 => ?_)
    obtain ⟨j15, f16⟩ := q13
    have f19 := Fr.trans hF f16 (by decide)
    refine x_aload (np := 27) (x := 0) (by decide +kernel) rfl (x_nc_le (by decide)) ?_
    have q20 : h14 0 2 = 59 := by have z := jB (e := 2) 0 j15 rg_0_2_0_1 (by decide) (by decide); omega
    refine x_getR (np := 30) (x := 642) (f := 2) (q := 59) (by decide +kernel) (by decide) (by decide +kernel) q20 ?_
    refine x_getC (np := 33) (x := 1) (f := 1) (q := (h14 59 1)) (by decide +kernel) (by decide) (by decide +kernel) rfl (fun l21 => ?_)
    refine x_iload (np := 34) (x := 1) (by decide +kernel) rfl la1 ?_
    refine x_cP (t := 0) (mj := 148) (n := 2) (rc := 0) (ml := 2) (nr := 0) (np := 37) (as := [iv_c (h14 59 1), iv_c a1]) (rest := []) (lo1 := [iv_c (h14 59 1), iv_c a1]) (by decide +kernel) (by decide) (by decide +kernel) (Or.inl rfl) rfl rfl (x_wi l21 (x_wi la1 x_wn)) x_wn (by decide) rfl (c148 j15 (by omega) (by omega)) (fun v22 l23 q24 => ?_)
    refine x_ifz (k := 0) (tg := 56) (np := 40) (by decide +kernel) (by decide) l23 (fun q25 => ?_) (fun q26 => ?_)
    · have q25 : v22 = 2147483648 := q25
      refine x_const (np := 57) (x := 9223372034707292159) (a := 2147483647) (by decide +kernel) (by decide) (by decide) ?_
      refine x_retI (np := 58) (x := 0) (by decide +kernel) (by decide) (Or.inl (by decide +kernel)) (Or.inl ⟨_, rfl, (by decide), ?_⟩)
      exact ⟨j15, f19, (by omega)⟩
    have q26 : ¬ (v22 = 2147483648) := q26
    refine x_aload (np := 41) (x := 0) (by decide +kernel) rfl (x_nc_le (by decide)) ?_
    have q27 : h14 0 8 = h 0 8 := f16 0 8 (by decide +kernel)
    refine x_getR (np := 44) (x := 648) (f := 8) (q := (h 0 8)) (by decide +kernel) (by decide) (by decide +kernel) q27 ?_
    have q28 : h14 (h 0 8) 2 = ((h 0 8) + 5) := tf_0_2 j15 t1
    refine x_getR (np := 47) (x := 514) (f := 2) (q := ((h 0 8) + 5)) (by decide +kernel) (by decide) (tg_0_514_2_1 t1) q28 ?_
    refine x_iload (np := 48) (x := 1) (by decide +kernel) rfl la1 ?_
    refine x_const (np := 49) (x := 9223372039002259456) (a := 2147483648) (by decide +kernel) (by decide) (by decide) ?_
    refine x_nI (t := 6) (mj := 68) (n := 3) (rc := 7) (ml := 4) (nr := 0) (np := 52) (as := [x_r ((h 0 8) + 5), iv_c a1, iv_c 2147483648]) (rest := []) (lo1 := [x_r ((h 0 8) + 5), iv_c a1, iv_c 2147483648, 147573952589676412928]) (by decide +kernel) (by decide) (by decide +kernel) (x_rb_of (tr_5_7 t1)) rfl rfl (x_wr (tn_5 t1) (x_wi la1 (x_wi (by decide) x_wn))) x_wn (by decide) rfl ?_
    refine x_iload (np := 1) (x := 1) (by decide +kernel) rfl la1 ?_
    refine x_ifz (k := 2) (tg := 28) (np := 4) (by decide +kernel) (by decide) la1 (fun q30 => ?_) (fun q31 => ?_)
    · have q30 : a1 < 2147483648 := q30
      exfalso; omega
    have q31 : ¬ (a1 < 2147483648) := q31
    refine x_iload (np := 5) (x := 1) (by decide +kernel) rfl la1 ?_
    refine x_aload (np := 6) (x := 0) (by decide +kernel) rfl (x_nc_le (tn_5 t1)) ?_
    have q32 : h14 ((h 0 8) + 5) 2 = h ((h 0 8) + 5) 2 := jK 0 f16 (rg_T5_2_0_1 t1) (by omega) (by omega) (by decide)
    refine x_getC (np := 9) (x := 386) (f := 2) (q := (h ((h 0 8) + 5) 2)) (by decide +kernel) (by decide) (tg_5_386_2_0 t1) q32 (fun l33 => ?_)
    refine x_icmp (k := 3) (tg := 28) (np := 12) (by decide +kernel) (by decide) la1 l6 (fun q34 => ?_) (fun q35 => ?_)
    · have q34 : (h ((h 0 8) + 5) 2) ≤ a1 := q34
      exfalso; omega
    have q35 : ¬ ((h ((h 0 8) + 5) 2) ≤ a1) := q35
    refine x_iload (np := 13) (x := 2) (by decide +kernel) rfl (by decide) ?_
    refine x_ifz (k := 2) (tg := 28) (np := 16) (by decide +kernel) (by decide) (by decide) (fun q36 => ?_) (fun q37 => ?_)
    · have q36 : 2147483648 < 2147483648 := q36
      exfalso; omega
    have q37 : ¬ (2147483648 < 2147483648) := q37
    refine x_iload (np := 17) (x := 2) (by decide +kernel) rfl (by decide) ?_
    refine x_aload (np := 18) (x := 0) (by decide +kernel) rfl (x_nc_le (tn_5 t1)) ?_
    have q38 : h14 ((h 0 8) + 5) 0 = h ((h 0 8) + 5) 0 := jK 0 f16 (rg_T5_0_0_1 t1) (by omega) (by omega) (by decide)
    have b39 := jB (e := 0) 0 hJ (rg_T5_0_0_1 t1) (by omega) (by omega)
    have q40 : (h ((h 0 8) + 5) 0) = 2147483652 := by omega
    refine x_getC (np := 21) (x := 384) (f := 0) (q := 2147483652) (by decide +kernel) (by decide) (tg_5_384_0_0 t1) (q38.trans q40) (fun l41 => ?_)
    refine x_icmp (k := 3) (tg := 28) (np := 24) (by decide +kernel) (by decide) (by decide) (by decide) (fun q42 => ?_) (fun q43 => ?_)
    · have q42 : 2147483652 ≤ 2147483648 := q42
      exfalso; omega
    have q43 : ¬ (2147483652 ≤ 2147483648) := q43
    refine x_const (np := 25) (x := 9223372043297226753) (a := 2147483649) (by decide +kernel) (by decide) (by decide) ?_
    refine x_goto (np := 28) (x := 29) (by decide +kernel) ?_
    refine x_istore (np := 30) (x := 3) (lo' := [x_r ((h 0 8) + 5), iv_c a1, iv_c 2147483648, iv_c 2147483649]) (by decide +kernel) (by decide) (Nat.le_of_ble_eq_true rfl) rfl ?_
    refine x_iload (np := 31) (x := 3) (by decide +kernel) rfl (by decide) ?_
    refine x_ifz (k := 0) (tg := 50) (np := 34) (by decide +kernel) (by decide) (by decide) (fun q44 => ?_) (fun q45 => ?_)
    · have q44 : 2147483649 = 2147483648 := q44
      exfalso; omega
    have q45 : ¬ (2147483649 = 2147483648) := q45
    refine x_aload (np := 35) (x := 0) (by decide +kernel) rfl (x_nc_le (tn_5 t1)) ?_
    have q46 : h14 ((h 0 8) + 5) 1 = ((h 0 8) + 6) := tf_5_1 j15 t1
    refine x_getR (np := 38) (x := 385) (f := 1) (q := ((h 0 8) + 6)) (by decide +kernel) (by decide) (tg_5_385_1_1 t1) q46 ?_
    refine x_iload (np := 39) (x := 1) (by decide +kernel) rfl la1 ?_
    refine x_aload (np := 40) (x := 0) (by decide +kernel) rfl (x_nc_le (tn_5 t1)) ?_
    have q47 : h14 ((h 0 8) + 5) 0 = h ((h 0 8) + 5) 0 := jK 0 f16 (rg_T5_0_0_1 t1) (by omega) (by omega) (by decide)
    refine x_getC (np := 43) (x := 384) (f := 0) (q := 2147483652) (by decide +kernel) (by decide) (tg_5_384_0_0 t1) (q47.trans q40) (fun l48 => ?_)
    obtain ⟨u49, q50⟩ : ∃ z, a1 = 2147483648 + z := ⟨a1 - 2147483648, by omega⟩
    refine x_imul (np := 44) (x := 0) (i := u49) (j := 4) (v := (2147483648 + 4 * u49)) (by decide +kernel) (by omega) (by omega) (by omega) (by omega) la1 (by decide) ?_
    refine x_iload (np := 45) (x := 2) (by decide +kernel) rfl (by decide) ?_
    refine x_iadd (np := 46) (x := 0) (v := (2147483648 + 4 * u49)) (by decide +kernel) (by omega) (by decide) (by omega) (by omega) ?_
    have q52 : h14 ((h 0 8) + 6) (4 * u49) = h ((h 0 8) + 6) (4 * u49) := jK (4 * u49) f16 (rg_T6_0_1_40 t1) (by omega) (by omega) (by decide)
    refine x_aldC (np := 47) (x := 0) (n := 40) (i := (4 * u49)) (q := ((h ((h 0 8) + 6) (4 * u49)))) (by decide +kernel) (ta_6_40 t1) (by omega) (by omega) (by decide) q52 (fun l53 => ?_)
    refine x_goto (np := 50) (x := 51) (by decide +kernel) ?_
    refine x_retI (np := 52) (x := 0) (by decide +kernel) l53 (Or.inl (by decide +kernel)) ⟨_, rfl, l53, ?_⟩
    refine x_const (np := 53) (x := 9223372043297226753) (a := 2147483649) (by decide +kernel) (by decide) (by decide) ?_
    refine x_icmp (k := 1) (tg := 58) (np := 56) (by decide +kernel) (by decide) l53 (by decide) (fun q54 => ?_) (fun q55 => ?_)
    · have q54 : ((h ((h 0 8) + 6) (4 * u49))) ≠ 2147483649 := q54
      refine x_aload (np := 59) (x := 0) (by decide +kernel) rfl (x_nc_le (by decide)) ?_
      have q56 : h14 0 8 = h 0 8 := f16 0 8 (by decide +kernel)
      refine x_getR (np := 62) (x := 648) (f := 8) (q := (h 0 8)) (by decide +kernel) (by decide) (by decide +kernel) q56 ?_
      have q57 : h14 (h 0 8) 2 = ((h 0 8) + 5) := tf_0_2 j15 t1
      refine x_getR (np := 65) (x := 514) (f := 2) (q := ((h 0 8) + 5)) (by decide +kernel) (by decide) (tg_0_514_2_1 t1) q57 ?_
      refine x_iload (np := 66) (x := 1) (by decide +kernel) rfl la1 ?_
      refine x_const (np := 67) (x := 9223372043297226753) (a := 2147483649) (by decide +kernel) (by decide) (by decide) ?_
      refine x_nI (t := 6) (mj := 68) (n := 3) (rc := 7) (ml := 4) (nr := 0) (np := 70) (as := [x_r ((h 0 8) + 5), iv_c a1, iv_c 2147483649]) (rest := []) (lo1 := [x_r ((h 0 8) + 5), iv_c a1, iv_c 2147483649, 147573952589676412928]) (by decide +kernel) (by decide) (by decide +kernel) (x_rb_of (tr_5_7 t1)) rfl rfl (x_wr (tn_5 t1) (x_wi la1 (x_wi (by decide) x_wn))) x_wn (by decide) rfl ?_
      refine x_iload (np := 1) (x := 1) (by decide +kernel) rfl la1 ?_
      refine x_ifz (k := 2) (tg := 28) (np := 4) (by decide +kernel) (by decide) la1 (fun q59 => ?_) (fun q60 => ?_)
      · have q59 : a1 < 2147483648 := q59
        exfalso; omega
      have q60 : ¬ (a1 < 2147483648) := q60
      refine x_iload (np := 5) (x := 1) (by decide +kernel) rfl la1 ?_
      refine x_aload (np := 6) (x := 0) (by decide +kernel) rfl (x_nc_le (tn_5 t1)) ?_
      have q61 : h14 ((h 0 8) + 5) 2 = h ((h 0 8) + 5) 2 := jK 0 f16 (rg_T5_2_0_1 t1) (by omega) (by omega) (by decide)
      refine x_getC (np := 9) (x := 386) (f := 2) (q := (h ((h 0 8) + 5) 2)) (by decide +kernel) (by decide) (tg_5_386_2_0 t1) q61 (fun l62 => ?_)
      refine x_icmp (k := 3) (tg := 28) (np := 12) (by decide +kernel) (by decide) la1 l6 (fun q63 => ?_) (fun q64 => ?_)
      · have q63 : (h ((h 0 8) + 5) 2) ≤ a1 := q63
        exfalso; omega
      have q64 : ¬ ((h ((h 0 8) + 5) 2) ≤ a1) := q64
      refine x_iload (np := 13) (x := 2) (by decide +kernel) rfl (by decide) ?_
      refine x_ifz (k := 2) (tg := 28) (np := 16) (by decide +kernel) (by decide) (by decide) (fun q65 => ?_) (fun q66 => ?_)
      · have q65 : 2147483649 < 2147483648 := q65
        exfalso; omega
      have q66 : ¬ (2147483649 < 2147483648) := q66
      refine x_iload (np := 17) (x := 2) (by decide +kernel) rfl (by decide) ?_
      refine x_aload (np := 18) (x := 0) (by decide +kernel) rfl (x_nc_le (tn_5 t1)) ?_
      have q67 : h14 ((h 0 8) + 5) 0 = h ((h 0 8) + 5) 0 := jK 0 f16 (rg_T5_0_0_1 t1) (by omega) (by omega) (by decide)
      refine x_getC (np := 21) (x := 384) (f := 0) (q := 2147483652) (by decide +kernel) (by decide) (tg_5_384_0_0 t1) (q67.trans q40) (fun l68 => ?_)
      refine x_icmp (k := 3) (tg := 28) (np := 24) (by decide +kernel) (by decide) (by decide) (by decide) (fun q69 => ?_) (fun q70 => ?_)
      · have q69 : 2147483652 ≤ 2147483649 := q69
        exfalso; omega
      have q70 : ¬ (2147483652 ≤ 2147483649) := q70
      refine x_const (np := 25) (x := 9223372043297226753) (a := 2147483649) (by decide +kernel) (by decide) (by decide) ?_
      refine x_goto (np := 28) (x := 29) (by decide +kernel) ?_
      refine x_istore (np := 30) (x := 3) (lo' := [x_r ((h 0 8) + 5), iv_c a1, iv_c 2147483649, iv_c 2147483649]) (by decide +kernel) (by decide) (Nat.le_of_ble_eq_true rfl) rfl ?_
      refine x_iload (np := 31) (x := 3) (by decide +kernel) rfl (by decide) ?_
      refine x_ifz (k := 0) (tg := 50) (np := 34) (by decide +kernel) (by decide) (by decide) (fun q71 => ?_) (fun q72 => ?_)
      · have q71 : 2147483649 = 2147483648 := q71
        exfalso; omega
      have q72 : ¬ (2147483649 = 2147483648) := q72
      refine x_aload (np := 35) (x := 0) (by decide +kernel) rfl (x_nc_le (tn_5 t1)) ?_
      have q73 : h14 ((h 0 8) + 5) 1 = ((h 0 8) + 6) := tf_5_1 j15 t1
      refine x_getR (np := 38) (x := 385) (f := 1) (q := ((h 0 8) + 6)) (by decide +kernel) (by decide) (tg_5_385_1_1 t1) q73 ?_
      refine x_iload (np := 39) (x := 1) (by decide +kernel) rfl la1 ?_
      refine x_aload (np := 40) (x := 0) (by decide +kernel) rfl (x_nc_le (tn_5 t1)) ?_
      have q74 : h14 ((h 0 8) + 5) 0 = h ((h 0 8) + 5) 0 := jK 0 f16 (rg_T5_0_0_1 t1) (by omega) (by omega) (by decide)
      refine x_getC (np := 43) (x := 384) (f := 0) (q := 2147483652) (by decide +kernel) (by decide) (tg_5_384_0_0 t1) (q74.trans q40) (fun l75 => ?_)
      refine x_imul (np := 44) (x := 0) (i := u49) (j := 4) (v := (2147483648 + 4 * u49)) (by decide +kernel) (by omega) (by omega) (by omega) (by omega) la1 (by decide) ?_
      refine x_iload (np := 45) (x := 2) (by decide +kernel) rfl (by decide) ?_
      refine x_iadd (np := 46) (x := 0) (v := (2147483649 + 4 * u49)) (by decide +kernel) (by omega) (by decide) (by omega) (by omega) ?_
      have q77 : h14 ((h 0 8) + 6) (1 + 4 * u49) = h ((h 0 8) + 6) (1 + 4 * u49) := jK (1 + 4 * u49) f16 (rg_T6_0_1_40 t1) (by omega) (by omega) (by decide)
      refine x_aldC (np := 47) (x := 0) (n := 40) (i := (1 + 4 * u49)) (q := ((h ((h 0 8) + 6) (1 + 4 * u49)))) (by decide +kernel) (ta_6_40 t1) (by omega) (by omega) (by decide) q77 (fun l78 => ?_)
      refine x_goto (np := 50) (x := 51) (by decide +kernel) ?_
      refine x_retI (np := 52) (x := 0) (by decide +kernel) l78 (Or.inl (by decide +kernel)) ⟨_, rfl, l78, ?_⟩
      refine x_istore (np := 71) (x := 2) (lo' := [x_r 0, iv_c a1, iv_c ((h ((h 0 8) + 6) (1 + 4 * u49))), 147573952589676412928, 147573952589676412928, 147573952589676412928, 147573952589676412928]) (by decide +kernel) l78 (Nat.le_of_ble_eq_true rfl) rfl ?_
      refine x_aload (np := 72) (x := 0) (by decide +kernel) rfl (x_nc_le (by decide)) ?_
      have q79 : h14 0 8 = h 0 8 := f16 0 8 (by decide +kernel)
      refine x_getR (np := 75) (x := 648) (f := 8) (q := (h 0 8)) (by decide +kernel) (by decide) (by decide +kernel) q79 ?_
      have q80 : h14 (h 0 8) 2 = ((h 0 8) + 5) := tf_0_2 j15 t1
      refine x_getR (np := 78) (x := 514) (f := 2) (q := ((h 0 8) + 5)) (by decide +kernel) (by decide) (tg_0_514_2_1 t1) q80 ?_
      refine x_iload (np := 79) (x := 1) (by decide +kernel) rfl la1 ?_
      refine x_const (np := 80) (x := 9223372047592194050) (a := 2147483650) (by decide +kernel) (by decide) (by decide) ?_
      refine x_nI (t := 6) (mj := 68) (n := 3) (rc := 7) (ml := 4) (nr := 0) (np := 83) (as := [x_r ((h 0 8) + 5), iv_c a1, iv_c 2147483650]) (rest := []) (lo1 := [x_r ((h 0 8) + 5), iv_c a1, iv_c 2147483650, 147573952589676412928]) (by decide +kernel) (by decide) (by decide +kernel) (x_rb_of (tr_5_7 t1)) rfl rfl (x_wr (tn_5 t1) (x_wi la1 (x_wi (by decide) x_wn))) x_wn (by decide) rfl ?_
      refine x_iload (np := 1) (x := 1) (by decide +kernel) rfl la1 ?_
      refine x_ifz (k := 2) (tg := 28) (np := 4) (by decide +kernel) (by decide) la1 (fun q82 => ?_) (fun q83 => ?_)
      · have q82 : a1 < 2147483648 := q82
        exfalso; omega
      have q83 : ¬ (a1 < 2147483648) := q83
      refine x_iload (np := 5) (x := 1) (by decide +kernel) rfl la1 ?_
      refine x_aload (np := 6) (x := 0) (by decide +kernel) rfl (x_nc_le (tn_5 t1)) ?_
      have q84 : h14 ((h 0 8) + 5) 2 = h ((h 0 8) + 5) 2 := jK 0 f16 (rg_T5_2_0_1 t1) (by omega) (by omega) (by decide)
      refine x_getC (np := 9) (x := 386) (f := 2) (q := (h ((h 0 8) + 5) 2)) (by decide +kernel) (by decide) (tg_5_386_2_0 t1) q84 (fun l85 => ?_)
      refine x_icmp (k := 3) (tg := 28) (np := 12) (by decide +kernel) (by decide) la1 l6 (fun q86 => ?_) (fun q87 => ?_)
      · have q86 : (h ((h 0 8) + 5) 2) ≤ a1 := q86
        exfalso; omega
      have q87 : ¬ ((h ((h 0 8) + 5) 2) ≤ a1) := q87
      refine x_iload (np := 13) (x := 2) (by decide +kernel) rfl (by decide) ?_
      refine x_ifz (k := 2) (tg := 28) (np := 16) (by decide +kernel) (by decide) (by decide) (fun q88 => ?_) (fun q89 => ?_)
      · have q88 : 2147483650 < 2147483648 := q88
        exfalso; omega
      have q89 : ¬ (2147483650 < 2147483648) := q89
      refine x_iload (np := 17) (x := 2) (by decide +kernel) rfl (by decide) ?_
      refine x_aload (np := 18) (x := 0) (by decide +kernel) rfl (x_nc_le (tn_5 t1)) ?_
      have q90 : h14 ((h 0 8) + 5) 0 = h ((h 0 8) + 5) 0 := jK 0 f16 (rg_T5_0_0_1 t1) (by omega) (by omega) (by decide)
      refine x_getC (np := 21) (x := 384) (f := 0) (q := 2147483652) (by decide +kernel) (by decide) (tg_5_384_0_0 t1) (q90.trans q40) (fun l91 => ?_)
      refine x_icmp (k := 3) (tg := 28) (np := 24) (by decide +kernel) (by decide) (by decide) (by decide) (fun q92 => ?_) (fun q93 => ?_)
      · have q92 : 2147483652 ≤ 2147483650 := q92
        exfalso; omega
      have q93 : ¬ (2147483652 ≤ 2147483650) := q93
      refine x_const (np := 25) (x := 9223372043297226753) (a := 2147483649) (by decide +kernel) (by decide) (by decide) ?_
      refine x_goto (np := 28) (x := 29) (by decide +kernel) ?_
      refine x_istore (np := 30) (x := 3) (lo' := [x_r ((h 0 8) + 5), iv_c a1, iv_c 2147483650, iv_c 2147483649]) (by decide +kernel) (by decide) (Nat.le_of_ble_eq_true rfl) rfl ?_
      refine x_iload (np := 31) (x := 3) (by decide +kernel) rfl (by decide) ?_
      refine x_ifz (k := 0) (tg := 50) (np := 34) (by decide +kernel) (by decide) (by decide) (fun q94 => ?_) (fun q95 => ?_)
      · have q94 : 2147483649 = 2147483648 := q94
        exfalso; omega
      have q95 : ¬ (2147483649 = 2147483648) := q95
      refine x_aload (np := 35) (x := 0) (by decide +kernel) rfl (x_nc_le (tn_5 t1)) ?_
      have q96 : h14 ((h 0 8) + 5) 1 = ((h 0 8) + 6) := tf_5_1 j15 t1
      refine x_getR (np := 38) (x := 385) (f := 1) (q := ((h 0 8) + 6)) (by decide +kernel) (by decide) (tg_5_385_1_1 t1) q96 ?_
      refine x_iload (np := 39) (x := 1) (by decide +kernel) rfl la1 ?_
      refine x_aload (np := 40) (x := 0) (by decide +kernel) rfl (x_nc_le (tn_5 t1)) ?_
      have q97 : h14 ((h 0 8) + 5) 0 = h ((h 0 8) + 5) 0 := jK 0 f16 (rg_T5_0_0_1 t1) (by omega) (by omega) (by decide)
      refine x_getC (np := 43) (x := 384) (f := 0) (q := 2147483652) (by decide +kernel) (by decide) (tg_5_384_0_0 t1) (q97.trans q40) (fun l98 => ?_)
      refine x_imul (np := 44) (x := 0) (i := u49) (j := 4) (v := (2147483648 + 4 * u49)) (by decide +kernel) (by omega) (by omega) (by omega) (by omega) la1 (by decide) ?_
      refine x_iload (np := 45) (x := 2) (by decide +kernel) rfl (by decide) ?_
      refine x_iadd (np := 46) (x := 0) (v := (2147483650 + 4 * u49)) (by decide +kernel) (by omega) (by decide) (by omega) (by omega) ?_
      have q100 : h14 ((h 0 8) + 6) (2 + 4 * u49) = h ((h 0 8) + 6) (2 + 4 * u49) := jK (2 + 4 * u49) f16 (rg_T6_0_1_40 t1) (by omega) (by omega) (by decide)
      refine x_aldC (np := 47) (x := 0) (n := 40) (i := (2 + 4 * u49)) (q := ((h ((h 0 8) + 6) (2 + 4 * u49)))) (by decide +kernel) (ta_6_40 t1) (by omega) (by omega) (by decide) q100 (fun l101 => ?_)
      refine x_goto (np := 50) (x := 51) (by decide +kernel) ?_
      refine x_retI (np := 52) (x := 0) (by decide +kernel) l101 (Or.inl (by decide +kernel)) ⟨_, rfl, l101, ?_⟩
      refine x_istore (np := 84) (x := 3) (lo' := [x_r 0, iv_c a1, iv_c ((h ((h 0 8) + 6) (1 + 4 * u49))), iv_c ((h ((h 0 8) + 6) (2 + 4 * u49))), 147573952589676412928, 147573952589676412928, 147573952589676412928]) (by decide +kernel) l101 (Nat.le_of_ble_eq_true rfl) rfl ?_
      refine x_aload (np := 85) (x := 0) (by decide +kernel) rfl (x_nc_le (by decide)) ?_
      have q102 : h14 0 8 = h 0 8 := f16 0 8 (by decide +kernel)
      refine x_getR (np := 88) (x := 648) (f := 8) (q := (h 0 8)) (by decide +kernel) (by decide) (by decide +kernel) q102 ?_
      have q103 : h14 (h 0 8) 2 = ((h 0 8) + 5) := tf_0_2 j15 t1
      refine x_getR (np := 91) (x := 514) (f := 2) (q := ((h 0 8) + 5)) (by decide +kernel) (by decide) (tg_0_514_2_1 t1) q103 ?_
      refine x_iload (np := 92) (x := 1) (by decide +kernel) rfl la1 ?_
      refine x_const (np := 93) (x := 9223372051887161347) (a := 2147483651) (by decide +kernel) (by decide) (by decide) ?_
      refine x_nI (t := 6) (mj := 68) (n := 3) (rc := 7) (ml := 4) (nr := 0) (np := 96) (as := [x_r ((h 0 8) + 5), iv_c a1, iv_c 2147483651]) (rest := []) (lo1 := [x_r ((h 0 8) + 5), iv_c a1, iv_c 2147483651, 147573952589676412928]) (by decide +kernel) (by decide) (by decide +kernel) (x_rb_of (tr_5_7 t1)) rfl rfl (x_wr (tn_5 t1) (x_wi la1 (x_wi (by decide) x_wn))) x_wn (by decide) rfl ?_
      refine x_iload (np := 1) (x := 1) (by decide +kernel) rfl la1 ?_
      refine x_ifz (k := 2) (tg := 28) (np := 4) (by decide +kernel) (by decide) la1 (fun q105 => ?_) (fun q106 => ?_)
      · have q105 : a1 < 2147483648 := q105
        exfalso; omega
      have q106 : ¬ (a1 < 2147483648) := q106
      refine x_iload (np := 5) (x := 1) (by decide +kernel) rfl la1 ?_
      refine x_aload (np := 6) (x := 0) (by decide +kernel) rfl (x_nc_le (tn_5 t1)) ?_
      have q107 : h14 ((h 0 8) + 5) 2 = h ((h 0 8) + 5) 2 := jK 0 f16 (rg_T5_2_0_1 t1) (by omega) (by omega) (by decide)
      refine x_getC (np := 9) (x := 386) (f := 2) (q := (h ((h 0 8) + 5) 2)) (by decide +kernel) (by decide) (tg_5_386_2_0 t1) q107 (fun l108 => ?_)
      refine x_icmp (k := 3) (tg := 28) (np := 12) (by decide +kernel) (by decide) la1 l6 (fun q109 => ?_) (fun q110 => ?_)
      · have q109 : (h ((h 0 8) + 5) 2) ≤ a1 := q109
        exfalso; omega
      have q110 : ¬ ((h ((h 0 8) + 5) 2) ≤ a1) := q110
      refine x_iload (np := 13) (x := 2) (by decide +kernel) rfl (by decide) ?_
      refine x_ifz (k := 2) (tg := 28) (np := 16) (by decide +kernel) (by decide) (by decide) (fun q111 => ?_) (fun q112 => ?_)
      · have q111 : 2147483651 < 2147483648 := q111
        exfalso; omega
      have q112 : ¬ (2147483651 < 2147483648) := q112
      refine x_iload (np := 17) (x := 2) (by decide +kernel) rfl (by decide) ?_
      refine x_aload (np := 18) (x := 0) (by decide +kernel) rfl (x_nc_le (tn_5 t1)) ?_
      have q113 : h14 ((h 0 8) + 5) 0 = h ((h 0 8) + 5) 0 := jK 0 f16 (rg_T5_0_0_1 t1) (by omega) (by omega) (by decide)
      refine x_getC (np := 21) (x := 384) (f := 0) (q := 2147483652) (by decide +kernel) (by decide) (tg_5_384_0_0 t1) (q113.trans q40) (fun l114 => ?_)
      refine x_icmp (k := 3) (tg := 28) (np := 24) (by decide +kernel) (by decide) (by decide) (by decide) (fun q115 => ?_) (fun q116 => ?_)
      · have q115 : 2147483652 ≤ 2147483651 := q115
        exfalso; omega
      have q116 : ¬ (2147483652 ≤ 2147483651) := q116
      refine x_const (np := 25) (x := 9223372043297226753) (a := 2147483649) (by decide +kernel) (by decide) (by decide) ?_
      refine x_goto (np := 28) (x := 29) (by decide +kernel) ?_
      refine x_istore (np := 30) (x := 3) (lo' := [x_r ((h 0 8) + 5), iv_c a1, iv_c 2147483651, iv_c 2147483649]) (by decide +kernel) (by decide) (Nat.le_of_ble_eq_true rfl) rfl ?_
      refine x_iload (np := 31) (x := 3) (by decide +kernel) rfl (by decide) ?_
      refine x_ifz (k := 0) (tg := 50) (np := 34) (by decide +kernel) (by decide) (by decide) (fun q117 => ?_) (fun q118 => ?_)
      · have q117 : 2147483649 = 2147483648 := q117
        exfalso; omega
      have q118 : ¬ (2147483649 = 2147483648) := q118
      refine x_aload (np := 35) (x := 0) (by decide +kernel) rfl (x_nc_le (tn_5 t1)) ?_
      have q119 : h14 ((h 0 8) + 5) 1 = ((h 0 8) + 6) := tf_5_1 j15 t1
      refine x_getR (np := 38) (x := 385) (f := 1) (q := ((h 0 8) + 6)) (by decide +kernel) (by decide) (tg_5_385_1_1 t1) q119 ?_
      refine x_iload (np := 39) (x := 1) (by decide +kernel) rfl la1 ?_
      refine x_aload (np := 40) (x := 0) (by decide +kernel) rfl (x_nc_le (tn_5 t1)) ?_
      have q120 : h14 ((h 0 8) + 5) 0 = h ((h 0 8) + 5) 0 := jK 0 f16 (rg_T5_0_0_1 t1) (by omega) (by omega) (by decide)
      refine x_getC (np := 43) (x := 384) (f := 0) (q := 2147483652) (by decide +kernel) (by decide) (tg_5_384_0_0 t1) (q120.trans q40) (fun l121 => ?_)
      refine x_imul (np := 44) (x := 0) (i := u49) (j := 4) (v := (2147483648 + 4 * u49)) (by decide +kernel) (by omega) (by omega) (by omega) (by omega) la1 (by decide) ?_
      refine x_iload (np := 45) (x := 2) (by decide +kernel) rfl (by decide) ?_
      refine x_iadd (np := 46) (x := 0) (v := (2147483651 + 4 * u49)) (by decide +kernel) (by omega) (by decide) (by omega) (by omega) ?_
      have q123 : h14 ((h 0 8) + 6) (3 + 4 * u49) = h ((h 0 8) + 6) (3 + 4 * u49) := jK (3 + 4 * u49) f16 (rg_T6_0_1_40 t1) (by omega) (by omega) (by decide)
      refine x_aldC (np := 47) (x := 0) (n := 40) (i := (3 + 4 * u49)) (q := ((h ((h 0 8) + 6) (3 + 4 * u49)))) (by decide +kernel) (ta_6_40 t1) (by omega) (by omega) (by decide) q123 (fun l124 => ?_)
      refine x_goto (np := 50) (x := 51) (by decide +kernel) ?_
      refine x_retI (np := 52) (x := 0) (by decide +kernel) l124 (Or.inl (by decide +kernel)) ⟨_, rfl, l124, ?_⟩
      refine x_istore (np := 98) (x := 4) (lo' := [x_r 0, iv_c a1, iv_c ((h ((h 0 8) + 6) (1 + 4 * u49))), iv_c ((h ((h 0 8) + 6) (2 + 4 * u49))), iv_c ((h ((h 0 8) + 6) (3 + 4 * u49))), 147573952589676412928, 147573952589676412928]) (by decide +kernel) l124 (Nat.le_of_ble_eq_true rfl) rfl ?_
      refine x_const (np := 99) (x := 9223372039002259456) (a := 2147483648) (by decide +kernel) (by decide) (by decide) ?_
      refine x_istore (np := 101) (x := 5) (lo' := [x_r 0, iv_c a1, iv_c ((h ((h 0 8) + 6) (1 + 4 * u49))), iv_c ((h ((h 0 8) + 6) (2 + 4 * u49))), iv_c ((h ((h 0 8) + 6) (3 + 4 * u49))), iv_c 2147483648, 147573952589676412928]) (by decide +kernel) (by decide) (Nat.le_of_ble_eq_true rfl) rfl ?_
      have p350 : ∀ (n : Nat) (v347 : Nat) (w349 : Nat), 4294967296 - v347 < n → (2147483648 ≤ v347 ∧ v347 ≤ 2147483654) → X sc 133 (d + 4) (xT (fun r h' => J h' ∧ Fr 8193 h h' ∧ (2147483647 ≤ r ∧ r ≤ 2147483653)) (fun E h' => J h' ∧ Fr 8193 h h' ∧ (E = 2))) 1 6 101 [x_r 0, iv_c a1, iv_c ((h ((h 0 8) + 6) (1 + 4 * u49))), iv_c ((h ((h 0 8) + 6) (2 + 4 * u49))), iv_c ((h ((h 0 8) + 6) (3 + 4 * u49))), iv_c v347, w349] [] h14 := by
        intro n
        induction n with
        | zero => intro v347 w349 q351; exact absurd q351 (Nat.not_lt_zero _)
        | succ n i352 =>
          intro v347 w349 q351 b348
          refine x_iload (np := 103) (x := 5) (by decide +kernel) rfl (by omega) ?_
          refine x_aload (np := 104) (x := 0) (by decide +kernel) rfl (x_nc_le (by decide)) ?_
          have q353 : h14 0 8 = h 0 8 := f16 0 8 (by decide +kernel)
          refine x_getR (np := 107) (x := 648) (f := 8) (q := (h 0 8)) (by decide +kernel) (by decide) (by decide +kernel) q353 ?_
          have q354 : h14 (h 0 8) 7 = h (h 0 8) 7 := jK 0 f16 (rg_T0_7_0_1 t1) (by omega) (by omega) (by decide)
          have b355 := jB (e := 7) 0 hJ (rg_T0_7_0_1 t1) (by omega) (by omega)
          refine x_getC (np := 110) (x := 519) (f := 7) (q := (h (h 0 8) 7)) (by decide +kernel) (by decide) (tg_0_519_7_0 t1) q354 (fun l356 => ?_)
          refine x_icmp (k := 3) (tg := 180) (np := 113) (by decide +kernel) (by decide) (by omega) l356 (fun q357 => ?_) (fun q358 => ?_)
          · have q357 : (h (h 0 8) 7) ≤ v347 := q357
            refine x_const (np := 181) (x := 9223372034707292159) (a := 2147483647) (by decide +kernel) (by decide) (by decide) ?_
            refine x_retI (np := 182) (x := 0) (by decide +kernel) (by decide) (Or.inl (by decide +kernel)) (Or.inl ⟨_, rfl, (by decide), ?_⟩)
            exact ⟨j15, f19, (by omega)⟩
          have q358 : ¬ ((h (h 0 8) 7) ≤ v347) := q358
          refine x_aload (np := 114) (x := 0) (by decide +kernel) rfl (x_nc_le (by decide)) ?_
          have q359 : h14 0 1 = 45 := by have z := jB (e := 1) 0 j15 rg_0_1_0_1 (by decide) (by decide); omega
          refine x_getR (np := 117) (x := 641) (f := 1) (q := 45) (by decide +kernel) (by decide) (by decide +kernel) q359 ?_
          have q360 : h14 45 0 = 46 := by have z := jB (e := 0) 0 j15 rg_45_0_0_1 (by decide) (by decide); omega
          refine x_getR (np := 120) (x := 64) (f := 0) (q := 46) (by decide +kernel) (by decide) (by decide +kernel) q360 ?_
          refine x_iload (np := 122) (x := 5) (by decide +kernel) rfl (by omega) ?_
          obtain ⟨u361, q362⟩ : ∃ z, v347 = 2147483648 + z := ⟨v347 - 2147483648, by omega⟩
          have q363 : h14 46 u361 = h 46 u361 := jK u361 f16 rg_46_0_1_6 (by omega) (by omega) (by decide)
          refine x_aldC (np := 123) (x := 0) (n := 6) (i := u361) (q := (h 46 u361)) (by decide +kernel) (by decide +kernel) (by omega) (by omega) (by decide) q363 (fun l364 => ?_)
          refine x_iload (np := 124) (x := 3) (by decide +kernel) rfl l101 ?_
          refine x_cP (t := 0) (mj := 148) (n := 2) (rc := 0) (ml := 2) (nr := 0) (np := 127) (as := [iv_c (h 46 u361), iv_c ((h ((h 0 8) + 6) (2 + 4 * u49)))]) (rest := []) (lo1 := [iv_c (h 46 u361), iv_c ((h ((h 0 8) + 6) (2 + 4 * u49)))]) (by decide +kernel) (by decide) (by decide +kernel) (Or.inl rfl) rfl rfl (x_wi l364 (x_wi l101 x_wn)) x_wn (by decide) rfl (c148 j15 (by omega) (by omega)) (fun v365 l366 q367 => ?_)
          refine x_ifz (k := 0) (tg := 148) (np := 130) (by decide +kernel) (by decide) l366 (fun q368 => ?_) (fun q369 => ?_)
          · have q368 : v365 = 2147483648 := q368
            refine x_const (np := 149) (x := 9223372039002259456) (a := 2147483648) (by decide +kernel) (by decide) (by decide) ?_
            refine x_istore (np := 151) (x := 6) (lo' := [x_r 0, iv_c a1, iv_c ((h ((h 0 8) + 6) (1 + 4 * u49))), iv_c ((h ((h 0 8) + 6) (2 + 4 * u49))), iv_c ((h ((h 0 8) + 6) (3 + 4 * u49))), iv_c v347, iv_c 2147483648]) (by decide +kernel) (by decide) (Nat.le_of_ble_eq_true rfl) rfl ?_
            refine x_iload (np := 153) (x := 6) (by decide +kernel) rfl (by decide) ?_
            refine x_ifz (k := 0) (tg := 174) (np := 156) (by decide +kernel) (by decide) (by decide) (fun q370 => ?_) (fun q371 => ?_)
            · have q370 : 2147483648 = 2147483648 := q370
              refine x_iinc (np := 177) (i := 5) (j := 2147483649) (v := (1 + v347)) (lo' := [x_r 0, iv_c a1, iv_c ((h ((h 0 8) + 6) (1 + 4 * u49))), iv_c ((h ((h 0 8) + 6) (2 + 4 * u49))), iv_c ((h ((h 0 8) + 6) (3 + 4 * u49))), iv_c (1 + v347), iv_c 2147483648]) (by decide +kernel) (by decide) (by decide) rfl (by omega) (by omega) (by omega) rfl ?_
              refine x_goto (np := 180) (x := 101) (by decide +kernel) ?_
              exact i352 (1 + v347) (iv_c 2147483648) (by omega) (by omega)
            have q371 : ¬ (2147483648 = 2147483648) := q371
            exfalso; omega
          have q369 : ¬ (v365 = 2147483648) := q369
          refine x_aload (np := 131) (x := 0) (by decide +kernel) rfl (x_nc_le (by decide)) ?_
          have q372 : h14 0 1 = 45 := by have z := jB (e := 1) 0 j15 rg_0_1_0_1 (by decide) (by decide); omega
          refine x_getR (np := 134) (x := 641) (f := 1) (q := 45) (by decide +kernel) (by decide) (by decide +kernel) q372 ?_
          refine x_iload (np := 135) (x := 2) (by decide +kernel) rfl l78 ?_
          refine x_iload (np := 136) (x := 3) (by decide +kernel) rfl l101 ?_
          refine x_cP (t := 6) (mj := 5) (n := 3) (rc := 2) (ml := 3) (nr := 0) (np := 139) (as := [x_r 45, iv_c ((h ((h 0 8) + 6) (1 + 4 * u49))), iv_c ((h ((h 0 8) + 6) (2 + 4 * u49)))]) (rest := []) (lo1 := [x_r 45, iv_c ((h ((h 0 8) + 6) (1 + 4 * u49))), iv_c ((h ((h 0 8) + 6) (2 + 4 * u49)))]) (by decide +kernel) (by decide) (by decide +kernel) (x_rb_of (by decide +kernel)) rfl rfl (x_wr (by decide) (x_wi l78 (x_wi l101 x_wn))) x_wn (by decide) rfl (c5_45 j15  (by omega) (by omega)) (fun v373 l374 q375 => ?_)
          refine x_iload (np := 141) (x := 5) (by decide +kernel) rfl (by omega) ?_
          refine x_icmp (k := 0) (tg := 148) (np := 144) (by decide +kernel) (by decide) l374 (by omega) (fun q376 => ?_) (fun q377 => ?_)
          · have q376 : v373 = v347 := q376
            refine x_const (np := 149) (x := 9223372039002259456) (a := 2147483648) (by decide +kernel) (by decide) (by decide) ?_
            refine x_istore (np := 151) (x := 6) (lo' := [x_r 0, iv_c a1, iv_c ((h ((h 0 8) + 6) (1 + 4 * u49))), iv_c ((h ((h 0 8) + 6) (2 + 4 * u49))), iv_c ((h ((h 0 8) + 6) (3 + 4 * u49))), iv_c v347, iv_c 2147483648]) (by decide +kernel) (by decide) (Nat.le_of_ble_eq_true rfl) rfl ?_
            refine x_iload (np := 153) (x := 6) (by decide +kernel) rfl (by decide) ?_
            refine x_ifz (k := 0) (tg := 174) (np := 156) (by decide +kernel) (by decide) (by decide) (fun q378 => ?_) (fun q379 => ?_)
            · have q378 : 2147483648 = 2147483648 := q378
              refine x_iinc (np := 177) (i := 5) (j := 2147483649) (v := (1 + v347)) (lo' := [x_r 0, iv_c a1, iv_c ((h ((h 0 8) + 6) (1 + 4 * u49))), iv_c ((h ((h 0 8) + 6) (2 + 4 * u49))), iv_c ((h ((h 0 8) + 6) (3 + 4 * u49))), iv_c (1 + v347), iv_c 2147483648]) (by decide +kernel) (by decide) (by decide) rfl (by omega) (by omega) (by omega) rfl ?_
              refine x_goto (np := 180) (x := 101) (by decide +kernel) ?_
              exact i352 (1 + v347) (iv_c 2147483648) (by omega) (by omega)
            have q379 : ¬ (2147483648 = 2147483648) := q379
            exfalso; omega
          have q377 : ¬ (v373 = v347) := q377
          refine x_const (np := 145) (x := 9223372043297226753) (a := 2147483649) (by decide +kernel) (by decide) (by decide) ?_
          refine x_goto (np := 148) (x := 149) (by decide +kernel) ?_
          refine x_istore (np := 151) (x := 6) (lo' := [x_r 0, iv_c a1, iv_c ((h ((h 0 8) + 6) (1 + 4 * u49))), iv_c ((h ((h 0 8) + 6) (2 + 4 * u49))), iv_c ((h ((h 0 8) + 6) (3 + 4 * u49))), iv_c v347, iv_c 2147483649]) (by decide +kernel) (by decide) (Nat.le_of_ble_eq_true rfl) rfl ?_
          refine x_iload (np := 153) (x := 6) (by decide +kernel) rfl (by decide) ?_
          refine x_ifz (k := 0) (tg := 174) (np := 156) (by decide +kernel) (by decide) (by decide) (fun q380 => ?_) (fun q381 => ?_)
          · have q380 : 2147483649 = 2147483648 := q380
            exfalso; omega
          have q381 : ¬ (2147483649 = 2147483648) := q381
          refine x_aload (np := 157) (x := 0) (by decide +kernel) rfl (x_nc_le (by decide)) ?_
          have q382 : h14 0 2 = 59 := by have z := jB (e := 2) 0 j15 rg_0_2_0_1 (by decide) (by decide); omega
          refine x_getR (np := 160) (x := 642) (f := 2) (q := 59) (by decide +kernel) (by decide) (by decide +kernel) q382 ?_
          have q383 : h14 59 0 = 60 := by have z := jB (e := 0) 0 j15 rg_59_0_0_1 (by decide) (by decide); omega
          refine x_getR (np := 163) (x := 0) (f := 0) (q := 60) (by decide +kernel) (by decide) (by decide +kernel) q383 ?_
          refine x_iload (np := 165) (x := 5) (by decide +kernel) rfl (by omega) ?_
          refine x_aldC (np := 166) (x := 0) (n := 6) (i := u361) (q := (h14 60 u361)) (by decide +kernel) (by decide +kernel) (by omega) (by omega) (by decide) rfl (fun l384 => ?_)
          refine x_iload (np := 168) (x := 4) (by decide +kernel) rfl l124 ?_
          refine x_icmp (k := 2) (tg := 174) (np := 171) (by decide +kernel) (by decide) l384 l124 (fun q385 => ?_) (fun q386 => ?_)
          · have q385 : (h14 60 u361) < ((h ((h 0 8) + 6) (3 + 4 * u49))) := q385
            refine x_iinc (np := 177) (i := 5) (j := 2147483649) (v := (1 + v347)) (lo' := [x_r 0, iv_c a1, iv_c ((h ((h 0 8) + 6) (1 + 4 * u49))), iv_c ((h ((h 0 8) + 6) (2 + 4 * u49))), iv_c ((h ((h 0 8) + 6) (3 + 4 * u49))), iv_c (1 + v347), iv_c 2147483649]) (by decide +kernel) (by decide) (by decide) rfl (by omega) (by omega) (by omega) rfl ?_
            refine x_goto (np := 180) (x := 101) (by decide +kernel) ?_
            exact i352 (1 + v347) (iv_c 2147483649) (by omega) (by omega)
          have q386 : ¬ ((h14 60 u361) < ((h ((h 0 8) + 6) (3 + 4 * u49)))) := q386
          refine x_iload (np := 173) (x := 5) (by decide +kernel) rfl (by omega) ?_
          refine x_retI (np := 174) (x := 0) (by decide +kernel) (by omega) (Or.inl (by decide +kernel)) (Or.inl ⟨_, rfl, (by omega), ?_⟩)
          exact ⟨j15, f19, (by omega)⟩
      exact p350 _ 2147483648 147573952589676412928 (Nat.lt_succ_self _) (by omega)
    have q55 : ¬ (((h ((h 0 8) + 6) (4 * u49))) ≠ 2147483649) := q55
    refine x_const (np := 57) (x := 9223372034707292159) (a := 2147483647) (by decide +kernel) (by decide) (by decide) ?_
    refine x_retI (np := 58) (x := 0) (by decide +kernel) (by decide) (Or.inl (by decide +kernel)) (Or.inl ⟨_, rfl, (by decide), ?_⟩)
    exact ⟨j15, f19, (by omega)⟩
  have q8 : ¬ (a1 < (h ((h 0 8) + 5) 2)) := q8
  refine x_thr (np := 15) (x := 2) (by decide +kernel) (by decide +kernel) (Nat.le_trans x_wn (by decide)) (Or.inr ⟨_, rfl, ?_⟩)
  refine Or.inr ⟨_, rfl, ?_⟩
  exact ⟨hJ, hF, by decide⟩
set_option maxHeartbeats 0 in
/-- LentNames$Table.at(II)I -/
theorem c68_T7_c0 {sc : Nat × Nat} {d ra0 a1 : Nat} {h : xh} (hJ : J h) (ta0 : tw ra0) (ba1 : 2147483648 ≤ a1 ∧ a1 ≤ 2147483657) : X sc 68 d (xI fun r h' => h' = h ∧ (2147483647 ≤ r ∧ r ≤ 2147483653)) 0 0 0 [x_r (ra0 + 7), iv_c a1, iv_c 2147483648, 147573952589676412928] [] h := by
  have la1 : a1 < 4294967296 := by omega
  refine x_iload (np := 1) (x := 1) (by decide +kernel) rfl la1 ?_
  refine x_ifz (k := 2) (tg := 28) (np := 4) (by decide +kernel) (by decide) la1 (fun q1 => ?_) (fun q2 => ?_)
  · have q1 : a1 < 2147483648 := q1
    exfalso; omega
  have q2 : ¬ (a1 < 2147483648) := q2
  refine x_iload (np := 5) (x := 1) (by decide +kernel) rfl la1 ?_
  refine x_aload (np := 6) (x := 0) (by decide +kernel) rfl (x_nc_le (tn_7 ta0)) ?_
  have b3 := jB (e := 2) 0 hJ (rg_T7_2_0_1 ta0) (by omega) (by omega)
  refine x_getC (np := 9) (x := 386) (f := 2) (q := (h (ra0 + 7) 2)) (by decide +kernel) (by decide) (tg_7_386_2_0 ta0) rfl (fun l4 => ?_)
  refine x_icmp (k := 3) (tg := 28) (np := 12) (by decide +kernel) (by decide) la1 l4 (fun q5 => ?_) (fun q6 => ?_)
  · have q5 : (h (ra0 + 7) 2) ≤ a1 := q5
    refine x_const (np := 29) (x := 9223372039002259456) (a := 2147483648) (by decide +kernel) (by decide) (by decide) ?_
    refine x_istore (np := 30) (x := 3) (lo' := [x_r (ra0 + 7), iv_c a1, iv_c 2147483648, iv_c 2147483648]) (by decide +kernel) (by decide) (Nat.le_of_ble_eq_true rfl) rfl ?_
    refine x_iload (np := 31) (x := 3) (by decide +kernel) rfl (by decide) ?_
    refine x_ifz (k := 0) (tg := 50) (np := 34) (by decide +kernel) (by decide) (by decide) (fun q7 => ?_) (fun q8 => ?_)
    · have q7 : 2147483648 = 2147483648 := q7
      refine x_const (np := 51) (x := 9223372034707292159) (a := 2147483647) (by decide +kernel) (by decide) (by decide) ?_
      refine x_retI (np := 52) (x := 0) (by decide +kernel) (by decide) (Or.inl (by decide +kernel)) ⟨_, rfl, (by decide), ?_⟩
      exact ⟨rfl, (by omega)⟩
    have q8 : ¬ (2147483648 = 2147483648) := q8
    exfalso; omega
  have q6 : ¬ ((h (ra0 + 7) 2) ≤ a1) := q6
  refine x_iload (np := 13) (x := 2) (by decide +kernel) rfl (by decide) ?_
  refine x_ifz (k := 2) (tg := 28) (np := 16) (by decide +kernel) (by decide) (by decide) (fun q9 => ?_) (fun q10 => ?_)
  · have q9 : 2147483648 < 2147483648 := q9
    exfalso; omega
  have q10 : ¬ (2147483648 < 2147483648) := q10
  refine x_iload (np := 17) (x := 2) (by decide +kernel) rfl (by decide) ?_
  refine x_aload (np := 18) (x := 0) (by decide +kernel) rfl (x_nc_le (tn_7 ta0)) ?_
  have b11 := jB (e := 0) 0 hJ (rg_T7_0_0_1 ta0) (by omega) (by omega)
  have q12 : (h (ra0 + 7) 0) = 2147483652 := by omega
  refine x_getC (np := 21) (x := 384) (f := 0) (q := 2147483652) (by decide +kernel) (by decide) (tg_7_384_0_0 ta0) q12 (fun l13 => ?_)
  refine x_icmp (k := 3) (tg := 28) (np := 24) (by decide +kernel) (by decide) (by decide) (by decide) (fun q14 => ?_) (fun q15 => ?_)
  · have q14 : 2147483652 ≤ 2147483648 := q14
    exfalso; omega
  have q15 : ¬ (2147483652 ≤ 2147483648) := q15
  refine x_const (np := 25) (x := 9223372043297226753) (a := 2147483649) (by decide +kernel) (by decide) (by decide) ?_
  refine x_goto (np := 28) (x := 29) (by decide +kernel) ?_
  refine x_istore (np := 30) (x := 3) (lo' := [x_r (ra0 + 7), iv_c a1, iv_c 2147483648, iv_c 2147483649]) (by decide +kernel) (by decide) (Nat.le_of_ble_eq_true rfl) rfl ?_
  refine x_iload (np := 31) (x := 3) (by decide +kernel) rfl (by decide) ?_
  refine x_ifz (k := 0) (tg := 50) (np := 34) (by decide +kernel) (by decide) (by decide) (fun q16 => ?_) (fun q17 => ?_)
  · have q16 : 2147483649 = 2147483648 := q16
    exfalso; omega
  have q17 : ¬ (2147483649 = 2147483648) := q17
  refine x_aload (np := 35) (x := 0) (by decide +kernel) rfl (x_nc_le (tn_7 ta0)) ?_
  have q18 : h (ra0 + 7) 1 = (ra0 + 8) := tf_7_1 hJ ta0
  refine x_getR (np := 38) (x := 385) (f := 1) (q := (ra0 + 8)) (by decide +kernel) (by decide) (tg_7_385_1_1 ta0) q18 ?_
  refine x_iload (np := 39) (x := 1) (by decide +kernel) rfl la1 ?_
  refine x_aload (np := 40) (x := 0) (by decide +kernel) rfl (x_nc_le (tn_7 ta0)) ?_
  refine x_getC (np := 43) (x := 384) (f := 0) (q := 2147483652) (by decide +kernel) (by decide) (tg_7_384_0_0 ta0) q12 (fun l19 => ?_)
  obtain ⟨u20, q21⟩ : ∃ z, a1 = 2147483648 + z := ⟨a1 - 2147483648, by omega⟩
  refine x_imul (np := 44) (x := 0) (i := u20) (j := 4) (v := (2147483648 + 4 * u20)) (by decide +kernel) (by omega) (by omega) (by omega) (by omega) la1 (by decide) ?_
  refine x_iload (np := 45) (x := 2) (by decide +kernel) rfl (by decide) ?_
  refine x_iadd (np := 46) (x := 0) (v := (2147483648 + 4 * u20)) (by decide +kernel) (by omega) (by decide) (by omega) (by omega) ?_
  have b23 := jB (e := (4 * u20)) u20 hJ (rg_T8_0_4_10 ta0) (by omega) (by omega)
  refine x_aldC (np := 47) (x := 0) (n := 40) (i := (4 * u20)) (q := ((h (ra0 + 8) (4 * u20)))) (by decide +kernel) (ta_8_40 ta0) (by omega) (by omega) (by decide) rfl (fun l24 => ?_)
  refine x_goto (np := 50) (x := 51) (by decide +kernel) ?_
  refine x_retI (np := 52) (x := 0) (by decide +kernel) l24 (Or.inl (by decide +kernel)) ⟨_, rfl, l24, ?_⟩
  exact ⟨rfl, (by omega)⟩
set_option maxHeartbeats 0 in
/-- LentNames$Table.at(II)I -/
theorem c68_T7_c1 {sc : Nat × Nat} {d ra0 a1 : Nat} {h : xh} (hJ : J h) (ta0 : tw ra0) (ba1 : 2147483648 ≤ a1 ∧ a1 ≤ 2147483657) : X sc 68 d (xI fun r h' => h' = h ∧ (0 ≤ r ∧ r ≤ 4294967295)) 0 0 0 [x_r (ra0 + 7), iv_c a1, iv_c 2147483649, 147573952589676412928] [] h := by
  have la1 : a1 < 4294967296 := by omega
  refine x_iload (np := 1) (x := 1) (by decide +kernel) rfl la1 ?_
  refine x_ifz (k := 2) (tg := 28) (np := 4) (by decide +kernel) (by decide) la1 (fun q1 => ?_) (fun q2 => ?_)
  · have q1 : a1 < 2147483648 := q1
    exfalso; omega
  have q2 : ¬ (a1 < 2147483648) := q2
  refine x_iload (np := 5) (x := 1) (by decide +kernel) rfl la1 ?_
  refine x_aload (np := 6) (x := 0) (by decide +kernel) rfl (x_nc_le (tn_7 ta0)) ?_
  have b3 := jB (e := 2) 0 hJ (rg_T7_2_0_1 ta0) (by omega) (by omega)
  refine x_getC (np := 9) (x := 386) (f := 2) (q := (h (ra0 + 7) 2)) (by decide +kernel) (by decide) (tg_7_386_2_0 ta0) rfl (fun l4 => ?_)
  refine x_icmp (k := 3) (tg := 28) (np := 12) (by decide +kernel) (by decide) la1 l4 (fun q5 => ?_) (fun q6 => ?_)
  · have q5 : (h (ra0 + 7) 2) ≤ a1 := q5
    refine x_const (np := 29) (x := 9223372039002259456) (a := 2147483648) (by decide +kernel) (by decide) (by decide) ?_
    refine x_istore (np := 30) (x := 3) (lo' := [x_r (ra0 + 7), iv_c a1, iv_c 2147483649, iv_c 2147483648]) (by decide +kernel) (by decide) (Nat.le_of_ble_eq_true rfl) rfl ?_
    refine x_iload (np := 31) (x := 3) (by decide +kernel) rfl (by decide) ?_
    refine x_ifz (k := 0) (tg := 50) (np := 34) (by decide +kernel) (by decide) (by decide) (fun q7 => ?_) (fun q8 => ?_)
    · have q7 : 2147483648 = 2147483648 := q7
      refine x_const (np := 51) (x := 9223372034707292159) (a := 2147483647) (by decide +kernel) (by decide) (by decide) ?_
      refine x_retI (np := 52) (x := 0) (by decide +kernel) (by decide) (Or.inl (by decide +kernel)) ⟨_, rfl, (by decide), ?_⟩
      exact ⟨rfl, (by omega)⟩
    have q8 : ¬ (2147483648 = 2147483648) := q8
    exfalso; omega
  have q6 : ¬ ((h (ra0 + 7) 2) ≤ a1) := q6
  refine x_iload (np := 13) (x := 2) (by decide +kernel) rfl (by decide) ?_
  refine x_ifz (k := 2) (tg := 28) (np := 16) (by decide +kernel) (by decide) (by decide) (fun q9 => ?_) (fun q10 => ?_)
  · have q9 : 2147483649 < 2147483648 := q9
    exfalso; omega
  have q10 : ¬ (2147483649 < 2147483648) := q10
  refine x_iload (np := 17) (x := 2) (by decide +kernel) rfl (by decide) ?_
  refine x_aload (np := 18) (x := 0) (by decide +kernel) rfl (x_nc_le (tn_7 ta0)) ?_
  have b11 := jB (e := 0) 0 hJ (rg_T7_0_0_1 ta0) (by omega) (by omega)
  have q12 : (h (ra0 + 7) 0) = 2147483652 := by omega
  refine x_getC (np := 21) (x := 384) (f := 0) (q := 2147483652) (by decide +kernel) (by decide) (tg_7_384_0_0 ta0) q12 (fun l13 => ?_)
  refine x_icmp (k := 3) (tg := 28) (np := 24) (by decide +kernel) (by decide) (by decide) (by decide) (fun q14 => ?_) (fun q15 => ?_)
  · have q14 : 2147483652 ≤ 2147483649 := q14
    exfalso; omega
  have q15 : ¬ (2147483652 ≤ 2147483649) := q15
  refine x_const (np := 25) (x := 9223372043297226753) (a := 2147483649) (by decide +kernel) (by decide) (by decide) ?_
  refine x_goto (np := 28) (x := 29) (by decide +kernel) ?_
  refine x_istore (np := 30) (x := 3) (lo' := [x_r (ra0 + 7), iv_c a1, iv_c 2147483649, iv_c 2147483649]) (by decide +kernel) (by decide) (Nat.le_of_ble_eq_true rfl) rfl ?_
  refine x_iload (np := 31) (x := 3) (by decide +kernel) rfl (by decide) ?_
  refine x_ifz (k := 0) (tg := 50) (np := 34) (by decide +kernel) (by decide) (by decide) (fun q16 => ?_) (fun q17 => ?_)
  · have q16 : 2147483649 = 2147483648 := q16
    exfalso; omega
  have q17 : ¬ (2147483649 = 2147483648) := q17
  refine x_aload (np := 35) (x := 0) (by decide +kernel) rfl (x_nc_le (tn_7 ta0)) ?_
  have q18 : h (ra0 + 7) 1 = (ra0 + 8) := tf_7_1 hJ ta0
  refine x_getR (np := 38) (x := 385) (f := 1) (q := (ra0 + 8)) (by decide +kernel) (by decide) (tg_7_385_1_1 ta0) q18 ?_
  refine x_iload (np := 39) (x := 1) (by decide +kernel) rfl la1 ?_
  refine x_aload (np := 40) (x := 0) (by decide +kernel) rfl (x_nc_le (tn_7 ta0)) ?_
  refine x_getC (np := 43) (x := 384) (f := 0) (q := 2147483652) (by decide +kernel) (by decide) (tg_7_384_0_0 ta0) q12 (fun l19 => ?_)
  obtain ⟨u20, q21⟩ : ∃ z, a1 = 2147483648 + z := ⟨a1 - 2147483648, by omega⟩
  refine x_imul (np := 44) (x := 0) (i := u20) (j := 4) (v := (2147483648 + 4 * u20)) (by decide +kernel) (by omega) (by omega) (by omega) (by omega) la1 (by decide) ?_
  refine x_iload (np := 45) (x := 2) (by decide +kernel) rfl (by decide) ?_
  refine x_iadd (np := 46) (x := 0) (v := (2147483649 + 4 * u20)) (by decide +kernel) (by omega) (by decide) (by omega) (by omega) ?_
  refine x_aldC (np := 47) (x := 0) (n := 40) (i := (1 + 4 * u20)) (q := ((h (ra0 + 8) (1 + 4 * u20)))) (by decide +kernel) (ta_8_40 ta0) (by omega) (by omega) (by decide) rfl (fun l23 => ?_)
  refine x_goto (np := 50) (x := 51) (by decide +kernel) ?_
  refine x_retI (np := 52) (x := 0) (by decide +kernel) l23 (Or.inl (by decide +kernel)) ⟨_, rfl, l23, ?_⟩
  exact ⟨rfl, (by omega)⟩
set_option maxHeartbeats 0 in
/-- LentNames$Table.at(II)I -/
theorem c68_T7_c2 {sc : Nat × Nat} {d ra0 a1 : Nat} {h : xh} (hJ : J h) (ta0 : tw ra0) (ba1 : 2147483648 ≤ a1 ∧ a1 ≤ 2147483657) : X sc 68 d (xI fun r h' => h' = h ∧ (0 ≤ r ∧ r ≤ 4294967295)) 0 0 0 [x_r (ra0 + 7), iv_c a1, iv_c 2147483650, 147573952589676412928] [] h := by
  have la1 : a1 < 4294967296 := by omega
  refine x_iload (np := 1) (x := 1) (by decide +kernel) rfl la1 ?_
  refine x_ifz (k := 2) (tg := 28) (np := 4) (by decide +kernel) (by decide) la1 (fun q1 => ?_) (fun q2 => ?_)
  · have q1 : a1 < 2147483648 := q1
    exfalso; omega
  have q2 : ¬ (a1 < 2147483648) := q2
  refine x_iload (np := 5) (x := 1) (by decide +kernel) rfl la1 ?_
  refine x_aload (np := 6) (x := 0) (by decide +kernel) rfl (x_nc_le (tn_7 ta0)) ?_
  have b3 := jB (e := 2) 0 hJ (rg_T7_2_0_1 ta0) (by omega) (by omega)
  refine x_getC (np := 9) (x := 386) (f := 2) (q := (h (ra0 + 7) 2)) (by decide +kernel) (by decide) (tg_7_386_2_0 ta0) rfl (fun l4 => ?_)
  refine x_icmp (k := 3) (tg := 28) (np := 12) (by decide +kernel) (by decide) la1 l4 (fun q5 => ?_) (fun q6 => ?_)
  · have q5 : (h (ra0 + 7) 2) ≤ a1 := q5
    refine x_const (np := 29) (x := 9223372039002259456) (a := 2147483648) (by decide +kernel) (by decide) (by decide) ?_
    refine x_istore (np := 30) (x := 3) (lo' := [x_r (ra0 + 7), iv_c a1, iv_c 2147483650, iv_c 2147483648]) (by decide +kernel) (by decide) (Nat.le_of_ble_eq_true rfl) rfl ?_
    refine x_iload (np := 31) (x := 3) (by decide +kernel) rfl (by decide) ?_
    refine x_ifz (k := 0) (tg := 50) (np := 34) (by decide +kernel) (by decide) (by decide) (fun q7 => ?_) (fun q8 => ?_)
    · have q7 : 2147483648 = 2147483648 := q7
      refine x_const (np := 51) (x := 9223372034707292159) (a := 2147483647) (by decide +kernel) (by decide) (by decide) ?_
      refine x_retI (np := 52) (x := 0) (by decide +kernel) (by decide) (Or.inl (by decide +kernel)) ⟨_, rfl, (by decide), ?_⟩
      exact ⟨rfl, (by omega)⟩
    have q8 : ¬ (2147483648 = 2147483648) := q8
    exfalso; omega
  have q6 : ¬ ((h (ra0 + 7) 2) ≤ a1) := q6
  refine x_iload (np := 13) (x := 2) (by decide +kernel) rfl (by decide) ?_
  refine x_ifz (k := 2) (tg := 28) (np := 16) (by decide +kernel) (by decide) (by decide) (fun q9 => ?_) (fun q10 => ?_)
  · have q9 : 2147483650 < 2147483648 := q9
    exfalso; omega
  have q10 : ¬ (2147483650 < 2147483648) := q10
  refine x_iload (np := 17) (x := 2) (by decide +kernel) rfl (by decide) ?_
  refine x_aload (np := 18) (x := 0) (by decide +kernel) rfl (x_nc_le (tn_7 ta0)) ?_
  have b11 := jB (e := 0) 0 hJ (rg_T7_0_0_1 ta0) (by omega) (by omega)
  have q12 : (h (ra0 + 7) 0) = 2147483652 := by omega
  refine x_getC (np := 21) (x := 384) (f := 0) (q := 2147483652) (by decide +kernel) (by decide) (tg_7_384_0_0 ta0) q12 (fun l13 => ?_)
  refine x_icmp (k := 3) (tg := 28) (np := 24) (by decide +kernel) (by decide) (by decide) (by decide) (fun q14 => ?_) (fun q15 => ?_)
  · have q14 : 2147483652 ≤ 2147483650 := q14
    exfalso; omega
  have q15 : ¬ (2147483652 ≤ 2147483650) := q15
  refine x_const (np := 25) (x := 9223372043297226753) (a := 2147483649) (by decide +kernel) (by decide) (by decide) ?_
  refine x_goto (np := 28) (x := 29) (by decide +kernel) ?_
  refine x_istore (np := 30) (x := 3) (lo' := [x_r (ra0 + 7), iv_c a1, iv_c 2147483650, iv_c 2147483649]) (by decide +kernel) (by decide) (Nat.le_of_ble_eq_true rfl) rfl ?_
  refine x_iload (np := 31) (x := 3) (by decide +kernel) rfl (by decide) ?_
  refine x_ifz (k := 0) (tg := 50) (np := 34) (by decide +kernel) (by decide) (by decide) (fun q16 => ?_) (fun q17 => ?_)
  · have q16 : 2147483649 = 2147483648 := q16
    exfalso; omega
  have q17 : ¬ (2147483649 = 2147483648) := q17
  refine x_aload (np := 35) (x := 0) (by decide +kernel) rfl (x_nc_le (tn_7 ta0)) ?_
  have q18 : h (ra0 + 7) 1 = (ra0 + 8) := tf_7_1 hJ ta0
  refine x_getR (np := 38) (x := 385) (f := 1) (q := (ra0 + 8)) (by decide +kernel) (by decide) (tg_7_385_1_1 ta0) q18 ?_
  refine x_iload (np := 39) (x := 1) (by decide +kernel) rfl la1 ?_
  refine x_aload (np := 40) (x := 0) (by decide +kernel) rfl (x_nc_le (tn_7 ta0)) ?_
  refine x_getC (np := 43) (x := 384) (f := 0) (q := 2147483652) (by decide +kernel) (by decide) (tg_7_384_0_0 ta0) q12 (fun l19 => ?_)
  obtain ⟨u20, q21⟩ : ∃ z, a1 = 2147483648 + z := ⟨a1 - 2147483648, by omega⟩
  refine x_imul (np := 44) (x := 0) (i := u20) (j := 4) (v := (2147483648 + 4 * u20)) (by decide +kernel) (by omega) (by omega) (by omega) (by omega) la1 (by decide) ?_
  refine x_iload (np := 45) (x := 2) (by decide +kernel) rfl (by decide) ?_
  refine x_iadd (np := 46) (x := 0) (v := (2147483650 + 4 * u20)) (by decide +kernel) (by omega) (by decide) (by omega) (by omega) ?_
  refine x_aldC (np := 47) (x := 0) (n := 40) (i := (2 + 4 * u20)) (q := ((h (ra0 + 8) (2 + 4 * u20)))) (by decide +kernel) (ta_8_40 ta0) (by omega) (by omega) (by decide) rfl (fun l23 => ?_)
  refine x_goto (np := 50) (x := 51) (by decide +kernel) ?_
  refine x_retI (np := 52) (x := 0) (by decide +kernel) l23 (Or.inl (by decide +kernel)) ⟨_, rfl, l23, ?_⟩
  exact ⟨rfl, (by omega)⟩
set_option maxHeartbeats 0 in
/-- LentNames$Calendar.agrees(I)Z -/
theorem c13_45 {sc : Nat × Nat} {d a1 : Nat} {h : xh} (hJ : J h) (ba1 : 2147483648 ≤ a1 ∧ a1 ≤ 2147483657) : X sc 13 (d + 2) (xI fun r h' => h' = h ∧ (2147483648 ≤ r ∧ r ≤ 2147483649)) 0 0 0 [x_r 45, iv_c a1, 147573952589676412928] [] h := by
  have la1 : a1 < 4294967296 := by omega
  refine x_aload (np := 1) (x := 0) (by decide +kernel) rfl (x_nc_le (by decide)) ?_
  refine x_aload (np := 2) (x := 0) (by decide +kernel) rfl (x_nc_le (by decide)) ?_
  have t1 : tw (h 45 5) := hJ.2.2.2.1
  refine x_getR (np := 5) (x := 69) (f := 5) (q := (h 45 5)) (by decide +kernel) (by decide) (by decide +kernel) rfl ?_
  have q2 : h (h 45 5) 3 = ((h 45 5) + 7) := tf_0_3 hJ t1
  refine x_getR (np := 8) (x := 515) (f := 3) (q := ((h 45 5) + 7)) (by decide +kernel) (by decide) (tg_0_515_3_1 t1) q2 ?_
  refine x_iload (np := 9) (x := 1) (by decide +kernel) rfl la1 ?_
  refine x_const (np := 10) (x := 9223372039002259456) (a := 2147483648) (by decide +kernel) (by decide) (by decide) ?_
  refine x_cP (t := 6) (mj := 68) (n := 3) (rc := 7) (ml := 4) (nr := 1) (np := 13) (as := [x_r ((h 45 5) + 7), iv_c a1, iv_c 2147483648]) (rest := [x_r 45]) (lo1 := [x_r ((h 45 5) + 7), iv_c a1, iv_c 2147483648, 147573952589676412928]) (by decide +kernel) (by decide) (by decide +kernel) (x_rb_of (tr_7_7 t1)) rfl rfl (x_wr (tn_7 t1) (x_wi la1 (x_wi (by decide) x_wn))) (x_wr (by decide) x_wn) (by decide) rfl (c68_T7_c0 hJ t1 (by omega) ) (fun v4 l5 q6 => ?_)
  refine x_aload (np := 14) (x := 0) (by decide +kernel) rfl (x_nc_le (by decide)) ?_
  refine x_getR (np := 17) (x := 69) (f := 5) (q := (h 45 5)) (by decide +kernel) (by decide) (by decide +kernel) rfl ?_
  have q7 : h (h 45 5) 3 = ((h 45 5) + 7) := tf_0_3 hJ t1
  refine x_getR (np := 20) (x := 515) (f := 3) (q := ((h 45 5) + 7)) (by decide +kernel) (by decide) (tg_0_515_3_1 t1) q7 ?_
  refine x_iload (np := 21) (x := 1) (by decide +kernel) rfl la1 ?_
  refine x_const (np := 22) (x := 9223372043297226753) (a := 2147483649) (by decide +kernel) (by decide) (by decide) ?_
  refine x_cP (t := 6) (mj := 68) (n := 3) (rc := 7) (ml := 4) (nr := 2) (np := 25) (as := [x_r ((h 45 5) + 7), iv_c a1, iv_c 2147483649]) (rest := [iv_c v4, x_r 45]) (lo1 := [x_r ((h 45 5) + 7), iv_c a1, iv_c 2147483649, 147573952589676412928]) (by decide +kernel) (by decide) (by decide +kernel) (x_rb_of (tr_7_7 t1)) rfl rfl (x_wr (tn_7 t1) (x_wi la1 (x_wi (by decide) x_wn))) (x_wi l5 (x_wr (by decide) x_wn)) (by decide) rfl (c68_T7_c1 hJ t1 (by omega) ) (fun v9 l10 q11 => ?_)
  refine x_cP (t := 6) (mj := 5) (n := 3) (rc := 2) (ml := 3) (nr := 0) (np := 28) (as := [x_r 45, iv_c v4, iv_c v9]) (rest := []) (lo1 := [x_r 45, iv_c v4, iv_c v9]) (by decide +kernel) (by decide) (by decide +kernel) (x_rb_of (by decide +kernel)) rfl rfl (x_wr (by decide) (x_wi l5 (x_wi l10 x_wn))) x_wn (by decide) rfl (c5_45 hJ  (by omega) (by omega)) (fun v12 l13 q14 => ?_)
  refine x_istore (np := 29) (x := 2) (lo' := [x_r 45, iv_c a1, iv_c v12]) (by decide +kernel) l13 (Nat.le_of_ble_eq_true rfl) rfl ?_
  refine x_iload (np := 30) (x := 2) (by decide +kernel) rfl l13 ?_
  refine x_const (np := 31) (x := 9223372034707292159) (a := 2147483647) (by decide +kernel) (by decide) (by decide) ?_
  refine x_icmp (k := 0) (tg := 57) (np := 34) (by decide +kernel) (by decide) l13 (by decide) (fun q15 => ?_) (fun q16 => ?_)
  · have q15 : v12 = 2147483647 := q15
    refine x_const (np := 58) (x := 9223372039002259456) (a := 2147483648) (by decide +kernel) (by decide) (by decide) ?_
    refine x_retI (np := 59) (x := 0) (by decide +kernel) (by decide) (Or.inr ⟨by decide +kernel, by omega, by omega⟩) ⟨_, rfl, (by decide), ?_⟩
    exact ⟨rfl, (by omega)⟩
  have q16 : ¬ (v12 = 2147483647) := q16
  refine x_aload (np := 35) (x := 0) (by decide +kernel) rfl (x_nc_le (by decide)) ?_
  refine x_getR (np := 38) (x := 69) (f := 5) (q := (h 45 5)) (by decide +kernel) (by decide) (by decide +kernel) rfl ?_
  have q17 : h (h 45 5) 3 = ((h 45 5) + 7) := tf_0_3 hJ t1
  refine x_getR (np := 41) (x := 515) (f := 3) (q := ((h 45 5) + 7)) (by decide +kernel) (by decide) (tg_0_515_3_1 t1) q17 ?_
  refine x_iload (np := 42) (x := 1) (by decide +kernel) rfl la1 ?_
  refine x_const (np := 43) (x := 9223372047592194050) (a := 2147483650) (by decide +kernel) (by decide) (by decide) ?_
  refine x_cP (t := 6) (mj := 68) (n := 3) (rc := 7) (ml := 4) (nr := 0) (np := 46) (as := [x_r ((h 45 5) + 7), iv_c a1, iv_c 2147483650]) (rest := []) (lo1 := [x_r ((h 45 5) + 7), iv_c a1, iv_c 2147483650, 147573952589676412928]) (by decide +kernel) (by decide) (by decide +kernel) (x_rb_of (tr_7_7 t1)) rfl rfl (x_wr (tn_7 t1) (x_wi la1 (x_wi (by decide) x_wn))) x_wn (by decide) rfl (c68_T7_c2 hJ t1 (by omega) ) (fun v19 l20 q21 => ?_)
  refine x_iload (np := 47) (x := 2) (by decide +kernel) rfl l13 ?_
  refine x_cP (t := 7) (mj := 148) (n := 2) (rc := 0) (ml := 2) (nr := 0) (np := 50) (as := [iv_c v19, iv_c v12]) (rest := []) (lo1 := [iv_c v19, iv_c v12]) (by decide +kernel) (by decide) (by decide +kernel) (Or.inl rfl) rfl rfl (x_wi l20 (x_wi l13 x_wn)) x_wn (by decide) rfl (c148 hJ (by omega) (by omega)) (fun v22 l23 q24 => ?_)
  refine x_ifz (k := 0) (tg := 57) (np := 53) (by decide +kernel) (by decide) l23 (fun q25 => ?_) (fun q26 => ?_)
  · have q25 : v22 = 2147483648 := q25
    refine x_const (np := 58) (x := 9223372039002259456) (a := 2147483648) (by decide +kernel) (by decide) (by decide) ?_
    refine x_retI (np := 59) (x := 0) (by decide +kernel) (by decide) (Or.inr ⟨by decide +kernel, by omega, by omega⟩) ⟨_, rfl, (by decide), ?_⟩
    exact ⟨rfl, (by omega)⟩
  have q26 : ¬ (v22 = 2147483648) := q26
  refine x_const (np := 54) (x := 9223372043297226753) (a := 2147483649) (by decide +kernel) (by decide) (by decide) ?_
  refine x_goto (np := 57) (x := 58) (by decide +kernel) ?_
  refine x_retI (np := 59) (x := 0) (by decide +kernel) (by decide) (Or.inr ⟨by decide +kernel, by omega, by omega⟩) ⟨_, rfl, (by decide), ?_⟩
  exact ⟨rfl, (by omega)⟩
set_option maxHeartbeats 0 in
/-- LentNames.agree()I -/
theorem c134_0 {sc : Nat × Nat} {d  : Nat} {h : xh} (hJ : J h) : X sc 134 (d + 3) (xI fun r h' => h' = h ∧ (0 ≤ r ∧ r ≤ 4294967295)) 0 0 0 [x_r 0, 147573952589676412928, 147573952589676412928] [] h := by
  refine x_const (np := 1) (x := 9223372039002259456) (a := 2147483648) (by decide +kernel) (by decide) (by decide) ?_
  refine x_istore (np := 2) (x := 1) (lo' := [x_r 0, iv_c 2147483648, 147573952589676412928]) (by decide +kernel) (by decide) (Nat.le_of_ble_eq_true rfl) rfl ?_
  refine x_const (np := 3) (x := 9223372039002259456) (a := 2147483648) (by decide +kernel) (by decide) (by decide) ?_
  refine x_istore (np := 4) (x := 2) (lo' := [x_r 0, iv_c 2147483648, iv_c 2147483648]) (by decide +kernel) (by decide) (Nat.le_of_ble_eq_true rfl) rfl ?_
  have p185 : ∀ (n : Nat) (v181 : Nat) (v183 : Nat), 4294967296 - v183 < n → (0 ≤ v181 ∧ v181 ≤ 4294967295) → (2147483648 ≤ v183 ∧ v183 ≤ 2147483658) → X sc 134 (d + 3) (xI fun r h' => h' = h ∧ (0 ≤ r ∧ r ≤ 4294967295)) 0 0 4 [x_r 0, iv_c v181, iv_c v183] [] h := by
    intro n
    induction n with
    | zero => intro v181 v183 q186; exact absurd q186 (Nat.not_lt_zero _)
    | succ n i187 =>
      intro v181 v183 q186 b182 b184
      refine x_iload (np := 5) (x := 2) (by decide +kernel) rfl (by omega) ?_
      refine x_aload (np := 6) (x := 0) (by decide +kernel) rfl (x_nc_le (by decide)) ?_
      have t188 : tw (h 0 8) := hJ.2.1
      refine x_getR (np := 9) (x := 648) (f := 8) (q := (h 0 8)) (by decide +kernel) (by decide) (by decide +kernel) rfl ?_
      have q189 : h (h 0 8) 3 = ((h 0 8) + 7) := tf_0_3 hJ t188
      refine x_getR (np := 12) (x := 515) (f := 3) (q := ((h 0 8) + 7)) (by decide +kernel) (by decide) (tg_0_515_3_1 t188) q189 ?_
      have b190 := jB (e := 2) 0 hJ (rg_T7_2_0_1 t188) (by omega) (by omega)
      refine x_getC (np := 15) (x := 386) (f := 2) (q := (h ((h 0 8) + 7) 2)) (by decide +kernel) (by decide) (tg_7_386_2_0 t188) rfl (fun l191 => ?_)
      refine x_icmp (k := 3) (tg := 41) (np := 18) (by decide +kernel) (by decide) (by omega) l191 (fun q192 => ?_) (fun q193 => ?_)
      · have q192 : (h ((h 0 8) + 7) 2) ≤ v183 := q192
        refine x_iload (np := 42) (x := 1) (by decide +kernel) rfl (by omega) ?_
        refine x_retI (np := 43) (x := 0) (by decide +kernel) (by omega) (Or.inl (by decide +kernel)) ⟨_, rfl, (by omega), ?_⟩
        exact ⟨rfl, (by omega)⟩
      have q193 : ¬ ((h ((h 0 8) + 7) 2) ≤ v183) := q193
      refine x_aload (np := 19) (x := 0) (by decide +kernel) rfl (x_nc_le (by decide)) ?_
      have q194 : h 0 1 = 45 := by have z := jB (e := 1) 0 hJ rg_0_1_0_1 (by decide) (by decide); omega
      refine x_getR (np := 22) (x := 641) (f := 1) (q := 45) (by decide +kernel) (by decide) (by decide +kernel) q194 ?_
      refine x_iload (np := 23) (x := 2) (by decide +kernel) rfl (by omega) ?_
      refine x_cP (t := 6) (mj := 13) (n := 2) (rc := 2) (ml := 3) (nr := 0) (np := 26) (as := [x_r 45, iv_c v183]) (rest := []) (lo1 := [x_r 45, iv_c v183, 147573952589676412928]) (by decide +kernel) (by decide) (by decide +kernel) (x_rb_of (by decide +kernel)) rfl rfl (x_wr (by decide) (x_wi (by omega) x_wn)) x_wn (by decide) rfl (c13_45 hJ  (by omega)) (fun v195 l196 q197 => ?_)
      refine x_ifz (k := 0) (tg := 35) (np := 29) (by decide +kernel) (by decide) l196 (fun q198 => ?_) (fun q199 => ?_)
      · have q198 : v195 = 2147483648 := q198
        refine x_iinc (np := 38) (i := 2) (j := 2147483649) (v := (1 + v183)) (lo' := [x_r 0, iv_c v181, iv_c (1 + v183)]) (by decide +kernel) (by decide) (by decide) rfl (by omega) (by omega) (by omega) rfl ?_
        refine x_goto (np := 41) (x := 4) (by decide +kernel) ?_
        exact i187 v181 (1 + v183) (by omega) (by omega) (by omega)
      have q199 : ¬ (v195 = 2147483648) := q199
      refine x_iload (np := 30) (x := 1) (by decide +kernel) rfl (by omega) ?_
      refine x_const (np := 31) (x := 9223372043297226753) (a := 2147483649) (by decide +kernel) (by decide) (by decide) ?_
      refine x_iload (np := 32) (x := 2) (by decide +kernel) rfl (by omega) ?_
      refine x_any (np := 33) (k9 := 3) (by decide +kernel) (by decide) (by decide) (by omega) (fun v200 l201 => ?_)
      refine x_any (np := 34) (k9 := 1) (by decide +kernel) (by decide) (by omega) l201 (fun v202 l203 => ?_)
      refine x_istore (np := 35) (x := 1) (lo' := [x_r 0, iv_c v202, iv_c v183]) (by decide +kernel) l203 (Nat.le_of_ble_eq_true rfl) rfl ?_
      refine x_iinc (np := 38) (i := 2) (j := 2147483649) (v := (1 + v183)) (lo' := [x_r 0, iv_c v202, iv_c (1 + v183)]) (by decide +kernel) (by decide) (by decide) rfl (by omega) (by omega) (by omega) rfl ?_
      refine x_goto (np := 41) (x := 4) (by decide +kernel) ?_
      exact i187 v202 (1 + v183) (by omega) (by omega) (by omega)
  exact p185 _ 2147483648 2147483648 (Nat.lt_succ_self _) (by omega) (by omega)
set_option maxHeartbeats 0 in
/-- LentNames.can(I)I -/
theorem c135_0 {sc : Nat × Nat} {d a1 : Nat} {h : xh} (hJ : J h) (ba1 : 0 ≤ a1 ∧ a1 ≤ 4294967295) : X sc 135 (d + 1) (xT (fun r h' => J h' ∧ Fr 0 h h' ∧ (0 ≤ r ∧ r ≤ 4294967295)) (fun E h' => J h' ∧ Fr 0 h h' ∧ (E = 2))) 0 0 0 [x_r 0, iv_c a1, 147573952589676412928, 147573952589676412928, 147573952589676412928, 147573952589676412928] [] h := by
  have la1 : a1 < 4294967296 := by omega
  have hF := Fr.refl 0 h
  refine x_aload (np := 1) (x := 0) (by decide +kernel) rfl (x_nc_le (by decide)) ?_
  have t1 : tw (h 0 8) := hJ.2.1
  refine x_getR (np := 4) (x := 648) (f := 8) (q := (h 0 8)) (by decide +kernel) (by decide) (by decide +kernel) rfl ?_
  have q2 : h (h 0 8) 3 = ((h 0 8) + 7) := tf_0_3 hJ t1
  refine x_getR (np := 7) (x := 515) (f := 3) (q := ((h 0 8) + 7)) (by decide +kernel) (by decide) (tg_0_515_3_1 t1) q2 ?_
  refine x_iload (np := 8) (x := 1) (by decide +kernel) rfl la1 ?_
  refine x_nU (t := 0) (mj := 147) (n := 2) (rc := 0) (ml := 2) (cc := 1) (ss := 6) (nr := 0) (np := 11) (as := [x_r ((h 0 8) + 7), iv_c a1]) (rest := []) (lo1 := [x_r ((h 0 8) + 7), iv_c a1]) (by decide +kernel) (by decide) (by decide +kernel) (by decide +kernel) (Or.inl rfl) rfl rfl (x_wr (tn_7 t1) (x_wi la1 x_wn)) x_wn (by decide) rfl ?_
  refine x_iload (np := 1) (x := 1) (by decide +kernel) rfl la1 ?_
  refine x_ifz (k := 2) (tg := 12) (np := 4) (by decide +kernel) (by decide) la1 (fun q3 => ?_) (fun q4 => ?_)
  · have q3 : a1 < 2147483648 := q3
    refine x_thr (np := 15) (x := 2) (by decide +kernel) (by decide +kernel) (Nat.le_trans x_wn (by decide)) (Or.inr ⟨_, rfl, ?_⟩)
    refine Or.inr ⟨_, rfl, ?_⟩
    exact ⟨hJ, hF, by decide⟩
  have q4 : ¬ (a1 < 2147483648) := q4
  refine x_iload (np := 5) (x := 1) (by decide +kernel) rfl la1 ?_
  refine x_aload (np := 6) (x := 0) (by decide +kernel) rfl (x_nc_le (tn_7 t1)) ?_
  have b5 := jB (e := 2) 0 hJ (rg_T7_2_0_1 t1) (by omega) (by omega)
  refine x_getC (np := 9) (x := 386) (f := 2) (q := (h ((h 0 8) + 7) 2)) (by decide +kernel) (by decide) (tg_7_386_2_0 t1) rfl (fun l6 => ?_)
  refine x_icmp (k := 2) (tg := 23) (np := 12) (by decide +kernel) (by decide) la1 l6 (fun q7 => ?_) (fun q8 => ?_)
  · have q7 : a1 < (h ((h 0 8) + 7) 2) := q7
    refine x_retV (np := 24) (x := 0) (by decide +kernel) (by decide +kernel) (Or.inl ⟨rfl, ?_⟩)
    refine x_aload (np := 12) (x := 0) (by decide +kernel) rfl (x_nc_le (by decide)) ?_
    refine x_getR (np := 15) (x := 648) (f := 8) (q := (h 0 8)) (by decide +kernel) (by decide) (by decide +kernel) rfl ?_
    have q9 : h (h 0 8) 3 = ((h 0 8) + 7) := tf_0_3 hJ t1
    refine x_getR (np := 18) (x := 515) (f := 3) (q := ((h 0 8) + 7)) (by decide +kernel) (by decide) (tg_0_515_3_1 t1) q9 ?_
    refine x_iload (np := 19) (x := 1) (by decide +kernel) rfl la1 ?_
    refine x_const (np := 20) (x := 9223372047592194050) (a := 2147483650) (by decide +kernel) (by decide) (by decide) ?_
    refine x_nI (t := 6) (mj := 68) (n := 3) (rc := 7) (ml := 4) (nr := 0) (np := 23) (as := [x_r ((h 0 8) + 7), iv_c a1, iv_c 2147483650]) (rest := []) (lo1 := [x_r ((h 0 8) + 7), iv_c a1, iv_c 2147483650, 147573952589676412928]) (by decide +kernel) (by decide) (by decide +kernel) (x_rb_of (tr_7_7 t1)) rfl rfl (x_wr (tn_7 t1) (x_wi la1 (x_wi (by decide) x_wn))) x_wn (by decide) rfl ?_
    refine x_iload (np := 1) (x := 1) (by decide +kernel) rfl la1 ?_
    refine x_ifz (k := 2) (tg := 28) (np := 4) (by decide +kernel) (by decide) la1 (fun q10 => ?_) (fun q11 => ?_)
    · have q10 : a1 < 2147483648 := q10
      exfalso; omega
    have q11 : ¬ (a1 < 2147483648) := q11
    refine x_iload (np := 5) (x := 1) (by decide +kernel) rfl la1 ?_
    refine x_aload (np := 6) (x := 0) (by decide +kernel) rfl (x_nc_le (tn_7 t1)) ?_
    refine x_getC (np := 9) (x := 386) (f := 2) (q := (h ((h 0 8) + 7) 2)) (by decide +kernel) (by decide) (tg_7_386_2_0 t1) rfl (fun l12 => ?_)
    refine x_icmp (k := 3) (tg := 28) (np := 12) (by decide +kernel) (by decide) la1 l6 (fun q13 => ?_) (fun q14 => ?_)
    · have q13 : (h ((h 0 8) + 7) 2) ≤ a1 := q13
      exfalso; omega
    have q14 : ¬ ((h ((h 0 8) + 7) 2) ≤ a1) := q14
    refine x_iload (np := 13) (x := 2) (by decide +kernel) rfl (by decide) ?_
    refine x_ifz (k := 2) (tg := 28) (np := 16) (by decide +kernel) (by decide) (by decide) (fun q15 => ?_) (fun q16 => ?_)
    · have q15 : 2147483650 < 2147483648 := q15
      exfalso; omega
    have q16 : ¬ (2147483650 < 2147483648) := q16
    refine x_iload (np := 17) (x := 2) (by decide +kernel) rfl (by decide) ?_
    refine x_aload (np := 18) (x := 0) (by decide +kernel) rfl (x_nc_le (tn_7 t1)) ?_
    have b17 := jB (e := 0) 0 hJ (rg_T7_0_0_1 t1) (by omega) (by omega)
    have q18 : (h ((h 0 8) + 7) 0) = 2147483652 := by omega
    refine x_getC (np := 21) (x := 384) (f := 0) (q := 2147483652) (by decide +kernel) (by decide) (tg_7_384_0_0 t1) q18 (fun l19 => ?_)
    refine x_icmp (k := 3) (tg := 28) (np := 24) (by decide +kernel) (by decide) (by decide) (by decide) (fun q20 => ?_) (fun q21 => ?_)
    · have q20 : 2147483652 ≤ 2147483650 := q20
      exfalso; omega
    have q21 : ¬ (2147483652 ≤ 2147483650) := q21
    refine x_const (np := 25) (x := 9223372043297226753) (a := 2147483649) (by decide +kernel) (by decide) (by decide) ?_
    refine x_goto (np := 28) (x := 29) (by decide +kernel) ?_
    refine x_istore (np := 30) (x := 3) (lo' := [x_r ((h 0 8) + 7), iv_c a1, iv_c 2147483650, iv_c 2147483649]) (by decide +kernel) (by decide) (Nat.le_of_ble_eq_true rfl) rfl ?_
    refine x_iload (np := 31) (x := 3) (by decide +kernel) rfl (by decide) ?_
    refine x_ifz (k := 0) (tg := 50) (np := 34) (by decide +kernel) (by decide) (by decide) (fun q22 => ?_) (fun q23 => ?_)
    · have q22 : 2147483649 = 2147483648 := q22
      exfalso; omega
    have q23 : ¬ (2147483649 = 2147483648) := q23
    refine x_aload (np := 35) (x := 0) (by decide +kernel) rfl (x_nc_le (tn_7 t1)) ?_
    have q24 : h ((h 0 8) + 7) 1 = ((h 0 8) + 8) := tf_7_1 hJ t1
    refine x_getR (np := 38) (x := 385) (f := 1) (q := ((h 0 8) + 8)) (by decide +kernel) (by decide) (tg_7_385_1_1 t1) q24 ?_
    refine x_iload (np := 39) (x := 1) (by decide +kernel) rfl la1 ?_
    refine x_aload (np := 40) (x := 0) (by decide +kernel) rfl (x_nc_le (tn_7 t1)) ?_
    refine x_getC (np := 43) (x := 384) (f := 0) (q := 2147483652) (by decide +kernel) (by decide) (tg_7_384_0_0 t1) q18 (fun l25 => ?_)
    obtain ⟨u26, q27⟩ : ∃ z, a1 = 2147483648 + z := ⟨a1 - 2147483648, by omega⟩
    refine x_imul (np := 44) (x := 0) (i := u26) (j := 4) (v := (2147483648 + 4 * u26)) (by decide +kernel) (by omega) (by omega) (by omega) (by omega) la1 (by decide) ?_
    refine x_iload (np := 45) (x := 2) (by decide +kernel) rfl (by decide) ?_
    refine x_iadd (np := 46) (x := 0) (v := (2147483650 + 4 * u26)) (by decide +kernel) (by omega) (by decide) (by omega) (by omega) ?_
    refine x_aldC (np := 47) (x := 0) (n := 40) (i := (2 + 4 * u26)) (q := ((h ((h 0 8) + 8) (2 + 4 * u26)))) (by decide +kernel) (ta_8_40 t1) (by omega) (by omega) (by decide) rfl (fun l29 => ?_)
    refine x_goto (np := 50) (x := 51) (by decide +kernel) ?_
    refine x_retI (np := 52) (x := 0) (by decide +kernel) l29 (Or.inl (by decide +kernel)) ⟨_, rfl, l29, ?_⟩
    refine x_istore (np := 24) (x := 2) (lo' := [x_r 0, iv_c a1, iv_c ((h ((h 0 8) + 8) (2 + 4 * u26))), 147573952589676412928, 147573952589676412928, 147573952589676412928]) (by decide +kernel) l29 (Nat.le_of_ble_eq_true rfl) rfl ?_
    refine x_aload (np := 25) (x := 0) (by decide +kernel) rfl (x_nc_le (by decide)) ?_
    refine x_getR (np := 28) (x := 648) (f := 8) (q := (h 0 8)) (by decide +kernel) (by decide) (by decide +kernel) rfl ?_
    have q30 : h (h 0 8) 3 = ((h 0 8) + 7) := tf_0_3 hJ t1
    refine x_getR (np := 31) (x := 515) (f := 3) (q := ((h 0 8) + 7)) (by decide +kernel) (by decide) (tg_0_515_3_1 t1) q30 ?_
    refine x_iload (np := 32) (x := 1) (by decide +kernel) rfl la1 ?_
    refine x_const (np := 33) (x := 9223372043297226753) (a := 2147483649) (by decide +kernel) (by decide) (by decide) ?_
    refine x_nI (t := 6) (mj := 68) (n := 3) (rc := 7) (ml := 4) (nr := 0) (np := 36) (as := [x_r ((h 0 8) + 7), iv_c a1, iv_c 2147483649]) (rest := []) (lo1 := [x_r ((h 0 8) + 7), iv_c a1, iv_c 2147483649, 147573952589676412928]) (by decide +kernel) (by decide) (by decide +kernel) (x_rb_of (tr_7_7 t1)) rfl rfl (x_wr (tn_7 t1) (x_wi la1 (x_wi (by decide) x_wn))) x_wn (by decide) rfl ?_
    refine x_iload (np := 1) (x := 1) (by decide +kernel) rfl la1 ?_
    refine x_ifz (k := 2) (tg := 28) (np := 4) (by decide +kernel) (by decide) la1 (fun q31 => ?_) (fun q32 => ?_)
    · have q31 : a1 < 2147483648 := q31
      exfalso; omega
    have q32 : ¬ (a1 < 2147483648) := q32
    refine x_iload (np := 5) (x := 1) (by decide +kernel) rfl la1 ?_
    refine x_aload (np := 6) (x := 0) (by decide +kernel) rfl (x_nc_le (tn_7 t1)) ?_
    refine x_getC (np := 9) (x := 386) (f := 2) (q := (h ((h 0 8) + 7) 2)) (by decide +kernel) (by decide) (tg_7_386_2_0 t1) rfl (fun l33 => ?_)
    refine x_icmp (k := 3) (tg := 28) (np := 12) (by decide +kernel) (by decide) la1 l6 (fun q34 => ?_) (fun q35 => ?_)
    · have q34 : (h ((h 0 8) + 7) 2) ≤ a1 := q34
      exfalso; omega
    have q35 : ¬ ((h ((h 0 8) + 7) 2) ≤ a1) := q35
    refine x_iload (np := 13) (x := 2) (by decide +kernel) rfl (by decide) ?_
    refine x_ifz (k := 2) (tg := 28) (np := 16) (by decide +kernel) (by decide) (by decide) (fun q36 => ?_) (fun q37 => ?_)
    · have q36 : 2147483649 < 2147483648 := q36
      exfalso; omega
    have q37 : ¬ (2147483649 < 2147483648) := q37
    refine x_iload (np := 17) (x := 2) (by decide +kernel) rfl (by decide) ?_
    refine x_aload (np := 18) (x := 0) (by decide +kernel) rfl (x_nc_le (tn_7 t1)) ?_
    refine x_getC (np := 21) (x := 384) (f := 0) (q := 2147483652) (by decide +kernel) (by decide) (tg_7_384_0_0 t1) q18 (fun l38 => ?_)
    refine x_icmp (k := 3) (tg := 28) (np := 24) (by decide +kernel) (by decide) (by decide) (by decide) (fun q39 => ?_) (fun q40 => ?_)
    · have q39 : 2147483652 ≤ 2147483649 := q39
      exfalso; omega
    have q40 : ¬ (2147483652 ≤ 2147483649) := q40
    refine x_const (np := 25) (x := 9223372043297226753) (a := 2147483649) (by decide +kernel) (by decide) (by decide) ?_
    refine x_goto (np := 28) (x := 29) (by decide +kernel) ?_
    refine x_istore (np := 30) (x := 3) (lo' := [x_r ((h 0 8) + 7), iv_c a1, iv_c 2147483649, iv_c 2147483649]) (by decide +kernel) (by decide) (Nat.le_of_ble_eq_true rfl) rfl ?_
    refine x_iload (np := 31) (x := 3) (by decide +kernel) rfl (by decide) ?_
    refine x_ifz (k := 0) (tg := 50) (np := 34) (by decide +kernel) (by decide) (by decide) (fun q41 => ?_) (fun q42 => ?_)
    · have q41 : 2147483649 = 2147483648 := q41
      exfalso; omega
    have q42 : ¬ (2147483649 = 2147483648) := q42
    refine x_aload (np := 35) (x := 0) (by decide +kernel) rfl (x_nc_le (tn_7 t1)) ?_
    have q43 : h ((h 0 8) + 7) 1 = ((h 0 8) + 8) := tf_7_1 hJ t1
    refine x_getR (np := 38) (x := 385) (f := 1) (q := ((h 0 8) + 8)) (by decide +kernel) (by decide) (tg_7_385_1_1 t1) q43 ?_
    refine x_iload (np := 39) (x := 1) (by decide +kernel) rfl la1 ?_
    refine x_aload (np := 40) (x := 0) (by decide +kernel) rfl (x_nc_le (tn_7 t1)) ?_
    refine x_getC (np := 43) (x := 384) (f := 0) (q := 2147483652) (by decide +kernel) (by decide) (tg_7_384_0_0 t1) q18 (fun l44 => ?_)
    refine x_imul (np := 44) (x := 0) (i := u26) (j := 4) (v := (2147483648 + 4 * u26)) (by decide +kernel) (by omega) (by omega) (by omega) (by omega) la1 (by decide) ?_
    refine x_iload (np := 45) (x := 2) (by decide +kernel) rfl (by decide) ?_
    refine x_iadd (np := 46) (x := 0) (v := (2147483649 + 4 * u26)) (by decide +kernel) (by omega) (by decide) (by omega) (by omega) ?_
    refine x_aldC (np := 47) (x := 0) (n := 40) (i := (1 + 4 * u26)) (q := ((h ((h 0 8) + 8) (1 + 4 * u26)))) (by decide +kernel) (ta_8_40 t1) (by omega) (by omega) (by decide) rfl (fun l46 => ?_)
    refine x_goto (np := 50) (x := 51) (by decide +kernel) ?_
    refine x_retI (np := 52) (x := 0) (by decide +kernel) l46 (Or.inl (by decide +kernel)) ⟨_, rfl, l46, ?_⟩
    refine x_istore (np := 37) (x := 3) (lo' := [x_r 0, iv_c a1, iv_c ((h ((h 0 8) + 8) (2 + 4 * u26))), iv_c ((h ((h 0 8) + 8) (1 + 4 * u26))), 147573952589676412928, 147573952589676412928]) (by decide +kernel) l46 (Nat.le_of_ble_eq_true rfl) rfl ?_
    refine x_const (np := 38) (x := 9223372039002259456) (a := 2147483648) (by decide +kernel) (by decide) (by decide) ?_
    refine x_istore (np := 40) (x := 4) (lo' := [x_r 0, iv_c a1, iv_c ((h ((h 0 8) + 8) (2 + 4 * u26))), iv_c ((h ((h 0 8) + 8) (1 + 4 * u26))), iv_c 2147483648, 147573952589676412928]) (by decide +kernel) (by decide) (Nat.le_of_ble_eq_true rfl) rfl ?_
    refine x_const (np := 41) (x := 9223372039002259456) (a := 2147483648) (by decide +kernel) (by decide) (by decide) ?_
    refine x_istore (np := 43) (x := 5) (lo' := [x_r 0, iv_c a1, iv_c ((h ((h 0 8) + 8) (2 + 4 * u26))), iv_c ((h ((h 0 8) + 8) (1 + 4 * u26))), iv_c 2147483648, iv_c 2147483648]) (by decide +kernel) (by decide) (Nat.le_of_ble_eq_true rfl) rfl ?_
    have p213 : ∀ (n : Nat) (v209 : Nat) (v211 : Nat), 4294967296 - v211 < n → (0 ≤ v209 ∧ v209 ≤ 4294967295) → (2147483648 ≤ v211 ∧ v211 ≤ 2147483654) → X sc 135 (d + 1) (xT (fun r h' => J h' ∧ Fr 0 h h' ∧ (0 ≤ r ∧ r ≤ 4294967295)) (fun E h' => J h' ∧ Fr 0 h h' ∧ (E = 2))) 1 6 43 [x_r 0, iv_c a1, iv_c ((h ((h 0 8) + 8) (2 + 4 * u26))), iv_c ((h ((h 0 8) + 8) (1 + 4 * u26))), iv_c v209, iv_c v211] [] h := by
      intro n
      induction n with
      | zero => intro v209 v211 q214; exact absurd q214 (Nat.not_lt_zero _)
      | succ n i215 =>
        intro v209 v211 q214 b210 b212
        refine x_iload (np := 45) (x := 5) (by decide +kernel) rfl (by omega) ?_
        refine x_aload (np := 46) (x := 0) (by decide +kernel) rfl (x_nc_le (by decide)) ?_
        refine x_getR (np := 49) (x := 648) (f := 8) (q := (h 0 8)) (by decide +kernel) (by decide) (by decide +kernel) rfl ?_
        have b216 := jB (e := 7) 0 hJ (rg_T0_7_0_1 t1) (by omega) (by omega)
        refine x_getC (np := 52) (x := 519) (f := 7) (q := (h (h 0 8) 7)) (by decide +kernel) (by decide) (tg_0_519_7_0 t1) rfl (fun l217 => ?_)
        refine x_icmp (k := 3) (tg := 96) (np := 55) (by decide +kernel) (by decide) (by omega) l217 (fun q218 => ?_) (fun q219 => ?_)
        · have q218 : (h (h 0 8) 7) ≤ v211 := q218
          refine x_iload (np := 98) (x := 4) (by decide +kernel) rfl (by omega) ?_
          refine x_retI (np := 99) (x := 0) (by decide +kernel) (by omega) (Or.inl (by decide +kernel)) (Or.inl ⟨_, rfl, (by omega), ?_⟩)
          exact ⟨hJ, hF, (by omega)⟩
        have q219 : ¬ ((h (h 0 8) 7) ≤ v211) := q219
        refine x_iload (np := 56) (x := 2) (by decide +kernel) rfl l29 ?_
        refine x_iload (np := 58) (x := 5) (by decide +kernel) rfl (by omega) ?_
        refine x_cP (t := 0) (mj := 148) (n := 2) (rc := 0) (ml := 2) (nr := 0) (np := 61) (as := [iv_c ((h ((h 0 8) + 8) (2 + 4 * u26))), iv_c v211]) (rest := []) (lo1 := [iv_c ((h ((h 0 8) + 8) (2 + 4 * u26))), iv_c v211]) (by decide +kernel) (by decide) (by decide +kernel) (Or.inl rfl) rfl rfl (x_wi l29 (x_wi (by omega) x_wn)) x_wn (by decide) rfl (c148 hJ (by omega) (by omega)) (fun v220 l221 q222 => ?_)
        refine x_ifz (k := 0) (tg := 90) (np := 64) (by decide +kernel) (by decide) l221 (fun q223 => ?_) (fun q224 => ?_)
        · have q223 : v220 = 2147483648 := q223
          refine x_iinc (np := 93) (i := 5) (j := 2147483649) (v := (1 + v211)) (lo' := [x_r 0, iv_c a1, iv_c ((h ((h 0 8) + 8) (2 + 4 * u26))), iv_c ((h ((h 0 8) + 8) (1 + 4 * u26))), iv_c v209, iv_c (1 + v211)]) (by decide +kernel) (by decide) (by decide) rfl (by omega) (by omega) (by omega) rfl ?_
          refine x_goto (np := 96) (x := 43) (by decide +kernel) ?_
          exact i215 v209 (1 + v211) (by omega) (by omega) (by omega)
        have q224 : ¬ (v220 = 2147483648) := q224
        refine x_aload (np := 65) (x := 0) (by decide +kernel) rfl (x_nc_le (by decide)) ?_
        have q225 : h 0 1 = 45 := by have z := jB (e := 1) 0 hJ rg_0_1_0_1 (by decide) (by decide); omega
        refine x_getR (np := 68) (x := 641) (f := 1) (q := 45) (by decide +kernel) (by decide) (by decide +kernel) q225 ?_
        have q226 : h 45 0 = 46 := by have z := jB (e := 0) 0 hJ rg_45_0_0_1 (by decide) (by decide); omega
        refine x_getR (np := 71) (x := 64) (f := 0) (q := 46) (by decide +kernel) (by decide) (by decide +kernel) q226 ?_
        refine x_iload (np := 73) (x := 5) (by decide +kernel) rfl (by omega) ?_
        obtain ⟨u227, q228⟩ : ∃ z, v211 = 2147483648 + z := ⟨v211 - 2147483648, by omega⟩
        refine x_aldC (np := 74) (x := 0) (n := 6) (i := u227) (q := (h 46 u227)) (by decide +kernel) (by decide +kernel) (by omega) (by omega) (by decide) rfl (fun l229 => ?_)
        refine x_iload (np := 75) (x := 3) (by decide +kernel) rfl l46 ?_
        refine x_cP (t := 0) (mj := 148) (n := 2) (rc := 0) (ml := 2) (nr := 0) (np := 78) (as := [iv_c (h 46 u227), iv_c ((h ((h 0 8) + 8) (1 + 4 * u26)))]) (rest := []) (lo1 := [iv_c (h 46 u227), iv_c ((h ((h 0 8) + 8) (1 + 4 * u26)))]) (by decide +kernel) (by decide) (by decide +kernel) (Or.inl rfl) rfl rfl (x_wi l229 (x_wi l46 x_wn)) x_wn (by decide) rfl (c148 hJ (by omega) (by omega)) (fun v230 l231 q232 => ?_)
        refine x_ifz (k := 0) (tg := 90) (np := 81) (by decide +kernel) (by decide) l231 (fun q233 => ?_) (fun q234 => ?_)
        · have q233 : v230 = 2147483648 := q233
          refine x_iinc (np := 93) (i := 5) (j := 2147483649) (v := (1 + v211)) (lo' := [x_r 0, iv_c a1, iv_c ((h ((h 0 8) + 8) (2 + 4 * u26))), iv_c ((h ((h 0 8) + 8) (1 + 4 * u26))), iv_c v209, iv_c (1 + v211)]) (by decide +kernel) (by decide) (by decide) rfl (by omega) (by omega) (by omega) rfl ?_
          refine x_goto (np := 96) (x := 43) (by decide +kernel) ?_
          exact i215 v209 (1 + v211) (by omega) (by omega) (by omega)
        have q234 : ¬ (v230 = 2147483648) := q234
        refine x_iload (np := 83) (x := 4) (by decide +kernel) rfl (by omega) ?_
        refine x_const (np := 84) (x := 9223372043297226753) (a := 2147483649) (by decide +kernel) (by decide) (by decide) ?_
        refine x_iload (np := 86) (x := 5) (by decide +kernel) rfl (by omega) ?_
        refine x_any (np := 87) (k9 := 3) (by decide +kernel) (by decide) (by decide) (by omega) (fun v235 l236 => ?_)
        refine x_any (np := 88) (k9 := 1) (by decide +kernel) (by decide) (by omega) l236 (fun v237 l238 => ?_)
        refine x_istore (np := 90) (x := 4) (lo' := [x_r 0, iv_c a1, iv_c ((h ((h 0 8) + 8) (2 + 4 * u26))), iv_c ((h ((h 0 8) + 8) (1 + 4 * u26))), iv_c v237, iv_c v211]) (by decide +kernel) l238 (Nat.le_of_ble_eq_true rfl) rfl ?_
        refine x_iinc (np := 93) (i := 5) (j := 2147483649) (v := (1 + v211)) (lo' := [x_r 0, iv_c a1, iv_c ((h ((h 0 8) + 8) (2 + 4 * u26))), iv_c ((h ((h 0 8) + 8) (1 + 4 * u26))), iv_c v237, iv_c (1 + v211)]) (by decide +kernel) (by decide) (by decide) rfl (by omega) (by omega) (by omega) rfl ?_
        refine x_goto (np := 96) (x := 43) (by decide +kernel) ?_
        exact i215 v237 (1 + v211) (by omega) (by omega) (by omega)
    exact p213 _ 2147483648 2147483648 (Nat.lt_succ_self _) (by omega) (by omega)
  have q8 : ¬ (a1 < (h ((h 0 8) + 7) 2)) := q8
  refine x_thr (np := 15) (x := 2) (by decide +kernel) (by decide +kernel) (Nat.le_trans x_wn (by decide)) (Or.inr ⟨_, rfl, ?_⟩)
  refine Or.inr ⟨_, rfl, ?_⟩
  exact ⟨hJ, hF, by decide⟩
