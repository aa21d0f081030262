/-! ===== tables of regions, methods ===== -/
theorem rg_97_0_1_1 : rgn 97 0 1 1 0 4294967295 46 := by
  unfold rgn j_nt
  decide +kernel
set_option maxHeartbeats 0 in
/-- LentNames$Table.put(III)V -/
theorem c69_T3_c3nn {sc : Nat × Nat} {d ra0 a1 a3 : Nat} {h : xh} (hJ : J h) (ta0 : tw ra0) (ba1 : 2147483647 ≤ a1 ∧ a1 ≤ 2147483657) (ba3 : 2147483647 ≤ a3 ∧ a3 ≤ 2147483653) : X sc 69 d (xV fun h' => J h' ∧ Fr 129 h h') 0 0 0 [x_r (ra0 + 3), iv_c a1, iv_c 2147483651, iv_c a3, 147573952589676412928] [] h := by
  have la1 : a1 < 4294967296 := by omega
  have la3 : a3 < 4294967296 := by omega
  have hF := Fr.refl 129 h
  refine x_iload (np := 1) (x := 1) (by decide +kernel) rfl la1 ?_
  refine x_ifz (k := 2) (tg := 28) (np := 4) (by decide +kernel) (by decide) la1 (fun q1 => ?_) (fun q2 => ?_)
  · have q1 : a1 < 2147483648 := q1
    refine x_const (np := 29) (x := 9223372039002259456) (a := 2147483648) (by decide +kernel) (by decide) (by decide) ?_
    refine x_istore (np := 31) (x := 4) (lo' := [x_r (ra0 + 3), iv_c a1, iv_c 2147483651, iv_c a3, iv_c 2147483648]) (by decide +kernel) (by decide) (Nat.le_of_ble_eq_true rfl) rfl ?_
    refine x_iload (np := 33) (x := 4) (by decide +kernel) rfl (by decide) ?_
    refine x_ifz (k := 0) (tg := 50) (np := 36) (by decide +kernel) (by decide) (by decide) (fun q3 => ?_) (fun q4 => ?_)
    · have q3 : 2147483648 = 2147483648 := q3
      refine x_retV (np := 51) (x := 0) (by decide +kernel) (by decide +kernel) ⟨rfl, ?_⟩
      exact ⟨hJ, hF⟩
    have q4 : ¬ (2147483648 = 2147483648) := q4
    exfalso; omega
  have q2 : ¬ (a1 < 2147483648) := q2
  refine x_iload (np := 5) (x := 1) (by decide +kernel) rfl la1 ?_
  refine x_aload (np := 6) (x := 0) (by decide +kernel) rfl (x_nc_le (tn_3 ta0)) ?_
  have b5 := jB (e := 2) 0 hJ (rg_T3_2_0_1 ta0) (by omega) (by omega)
  refine x_getC (np := 9) (x := 386) (f := 2) (q := (h (ra0 + 3) 2)) (by decide +kernel) (by decide) (tg_3_386_2_0 ta0) rfl (fun l6 => ?_)
  refine x_icmp (k := 3) (tg := 28) (np := 12) (by decide +kernel) (by decide) la1 l6 (fun q7 => ?_) (fun q8 => ?_)
  · have q7 : (h (ra0 + 3) 2) ≤ a1 := q7
    refine x_const (np := 29) (x := 9223372039002259456) (a := 2147483648) (by decide +kernel) (by decide) (by decide) ?_
    refine x_istore (np := 31) (x := 4) (lo' := [x_r (ra0 + 3), iv_c a1, iv_c 2147483651, iv_c a3, iv_c 2147483648]) (by decide +kernel) (by decide) (Nat.le_of_ble_eq_true rfl) rfl ?_
    refine x_iload (np := 33) (x := 4) (by decide +kernel) rfl (by decide) ?_
    refine x_ifz (k := 0) (tg := 50) (np := 36) (by decide +kernel) (by decide) (by decide) (fun q9 => ?_) (fun q10 => ?_)
    · have q9 : 2147483648 = 2147483648 := q9
      refine x_retV (np := 51) (x := 0) (by decide +kernel) (by decide +kernel) ⟨rfl, ?_⟩
      exact ⟨hJ, hF⟩
    have q10 : ¬ (2147483648 = 2147483648) := q10
    exfalso; omega
  have q8 : ¬ ((h (ra0 + 3) 2) ≤ a1) := q8
  refine x_iload (np := 13) (x := 2) (by decide +kernel) rfl (by decide) ?_
  refine x_ifz (k := 2) (tg := 28) (np := 16) (by decide +kernel) (by decide) (by decide) (fun q11 => ?_) (fun q12 => ?_)
  · have q11 : 2147483651 < 2147483648 := q11
    exfalso; omega
  have q12 : ¬ (2147483651 < 2147483648) := q12
  refine x_iload (np := 17) (x := 2) (by decide +kernel) rfl (by decide) ?_
  refine x_aload (np := 18) (x := 0) (by decide +kernel) rfl (x_nc_le (tn_3 ta0)) ?_
  have b13 := jB (e := 0) 0 hJ (rg_T3_0_0_1 ta0) (by omega) (by omega)
  have q14 : (h (ra0 + 3) 0) = 2147483652 := by omega
  refine x_getC (np := 21) (x := 384) (f := 0) (q := 2147483652) (by decide +kernel) (by decide) (tg_3_384_0_0 ta0) q14 (fun l15 => ?_)
  refine x_icmp (k := 3) (tg := 28) (np := 24) (by decide +kernel) (by decide) (by decide) (by decide) (fun q16 => ?_) (fun q17 => ?_)
  · have q16 : 2147483652 ≤ 2147483651 := q16
    exfalso; omega
  have q17 : ¬ (2147483652 ≤ 2147483651) := q17
  refine x_const (np := 25) (x := 9223372043297226753) (a := 2147483649) (by decide +kernel) (by decide) (by decide) ?_
  refine x_goto (np := 28) (x := 29) (by decide +kernel) ?_
  refine x_istore (np := 31) (x := 4) (lo' := [x_r (ra0 + 3), iv_c a1, iv_c 2147483651, iv_c a3, iv_c 2147483649]) (by decide +kernel) (by decide) (Nat.le_of_ble_eq_true rfl) rfl ?_
  refine x_iload (np := 33) (x := 4) (by decide +kernel) rfl (by decide) ?_
  refine x_ifz (k := 0) (tg := 50) (np := 36) (by decide +kernel) (by decide) (by decide) (fun q18 => ?_) (fun q19 => ?_)
  · have q18 : 2147483649 = 2147483648 := q18
    exfalso; omega
  have q19 : ¬ (2147483649 = 2147483648) := q19
  refine x_aload (np := 37) (x := 0) (by decide +kernel) rfl (x_nc_le (tn_3 ta0)) ?_
  have q20 : h (ra0 + 3) 1 = (ra0 + 4) := tf_3_1 hJ ta0
  refine x_getR (np := 40) (x := 385) (f := 1) (q := (ra0 + 4)) (by decide +kernel) (by decide) (tg_3_385_1_1 ta0) q20 ?_
  refine x_iload (np := 41) (x := 1) (by decide +kernel) rfl la1 ?_
  refine x_aload (np := 42) (x := 0) (by decide +kernel) rfl (x_nc_le (tn_3 ta0)) ?_
  refine x_getC (np := 45) (x := 384) (f := 0) (q := 2147483652) (by decide +kernel) (by decide) (tg_3_384_0_0 ta0) q14 (fun l21 => ?_)
  obtain ⟨u22, q23⟩ : ∃ z, a1 = 2147483648 + z := ⟨a1 - 2147483648, by omega⟩
  refine x_imul (np := 46) (x := 0) (i := u22) (j := 4) (v := (2147483648 + 4 * u22)) (by decide +kernel) (by omega) (by omega) (by omega) (by omega) la1 (by decide) ?_
  refine x_iload (np := 47) (x := 2) (by decide +kernel) rfl (by decide) ?_
  refine x_iadd (np := 48) (x := 0) (v := (2147483651 + 4 * u22)) (by decide +kernel) (by omega) (by decide) (by omega) (by omega) ?_
  refine x_iload (np := 49) (x := 3) (by decide +kernel) rfl la3 ?_
  refine x_ast (np := 50) (x := 0) (kd := 1) (n := 40) (i := (3 + 4 * u22)) (by decide +kernel) (Or.inl rfl) (ta_4_40 ta0) (by omega) (by omega) (by decide) la3 (fun z => absurd z (by decide)) ?_
  have j26 := jU (e := (3 + 4 * u22)) (v := a3) u22 hJ (rg_T4_3_4_10 ta0) (by omega) (by omega) (by omega)
  have f28 := jF (e := (3 + 4 * u22)) (v := a3) u22 hF (rg_T4_3_4_10 ta0) (by omega) (by omega) (by decide)
  generalize e27 : x_up h (ra0 + 4) (3 + 4 * u22) a3 = h25 at j26 f28 ⊢
  refine x_retV (np := 51) (x := 0) (by decide +kernel) (by decide +kernel) ⟨rfl, ?_⟩
  exact ⟨j26, f28⟩
set_option maxHeartbeats 0 in
/-- LentNamesLaw.tell(LLentNames;[J)I -/
theorem c282_0_97 {sc : Nat × Nat} {d  : Nat} {h : xh} (hJ : J h) : X sc 282 (d + 11) (xI fun r h' => J h' ∧ Fr 211106232655547 h h' ∧ (2147483648 ≤ r ∧ r ≤ 2147483650) ∧ (h' 1 1 = 2147483648)) 0 0 0 [x_r 0, x_r 97, 147573952589676412928] [] h := by
  have hF := Fr.refl 211106232655547 h
  refine x_aload (np := 1) (x := 1) (by decide +kernel) rfl (x_nc_le (by decide)) ?_
  refine x_const (np := 2) (x := 9223372039002259456) (a := 2147483648) (by decide +kernel) (by decide) (by decide) ?_
  refine x_aload (np := 3) (x := 0) (by decide +kernel) rfl (x_nc_le (by decide)) ?_
  refine x_cT (t := 6) (mj := 106) (n := 1) (rc := 11) (ml := 2) (cc := 1) (ss := 6) (nr := 2) (np := 6) (as := [x_r 0]) (rest := [iv_c 2147483648, x_r 97]) (lo1 := [x_r 0, 147573952589676412928]) (by decide +kernel) (by decide) (by decide +kernel) (x_rb_of (by decide +kernel)) rfl rfl (x_wr (by decide) x_wn) (x_wi (by decide) (x_wr (by decide) x_wn)) (by decide) rfl (c106_0 hJ ) (fun v1 h4 l2 q3 => ?_) (fun E6 h7 q5 => ?_)
  · obtain ⟨j8, f9, b10, c11⟩ := q3
    have f12 := Fr.trans hF f9 (by decide)
    have b13 := jB (e := 1) 0 j8 rg_1_1_0_1 (by omega) (by omega)
    refine x_i2l (np := 7) (x := 0) (by decide +kernel) l2 ?_
    refine x_last (np := 8) (x := 0) (n := 1) (i := 0) (by decide +kernel) (by decide) (by decide +kernel) (by decide +kernel) (by omega) (by omega) (by decide) l2 ?_
    have j15 := jU (e := 0) (v := v1) 0 j8 rg_97_0_1_1 (by omega) (by omega) (by omega)
    have f17 := jF (e := 0) (v := v1) 0 f12 rg_97_0_1_1 (by omega) (by omega) (by decide)
    generalize e16 : x_up h4 97 0 v1 = h14 at j15 f17 ⊢
    refine x_goto (np := 11) (x := 17) (by decide +kernel) ?_
    refine x_const (np := 18) (x := 9223372039002259456) (a := 2147483648) (by decide +kernel) (by decide) (by decide) ?_
    have q18 : h14 1 1 = h4 1 1 := by rw [← e16]; exact x_up_k (by decide)
    refine x_retI (np := 19) (x := 0) (by decide +kernel) (by decide) (Or.inl (by decide +kernel)) ⟨_, rfl, (by decide), ?_⟩
    exact ⟨j15, f17, (by omega), (by omega)⟩
  obtain ⟨j19, f20, e21, c22⟩ := q5
  have f23 := Fr.trans hF f20 (by decide)
  have b24 := jB (e := 1) 0 j19 rg_1_1_0_1 (by omega) (by omega)
  rcases e21 with rfl | rfl
  · refine ⟨11, fun _ _ => rfl, ?_⟩
    refine x_astE (np := 12) (x := 2) (lo' := [x_r 0, x_r 97, 55340232221128654850]) (by decide +kernel) (Nat.le_of_ble_eq_true rfl) rfl ?_
    refine x_const (np := 13) (x := 9223372043297226753) (a := 2147483649) (by decide +kernel) (by decide) (by decide) ?_
    refine x_retI (np := 14) (x := 0) (by decide +kernel) (by decide) (Or.inl (by decide +kernel)) ⟨_, rfl, (by decide), ?_⟩
    exact ⟨j19, f23, (by omega), (by omega)⟩
  · refine ⟨14, fun _ _ => rfl, ?_⟩
    refine x_astE (np := 15) (x := 2) (lo' := [x_r 0, x_r 97, 55340232221128654850]) (by decide +kernel) (Nat.le_of_ble_eq_true rfl) rfl ?_
    refine x_const (np := 16) (x := 9223372047592194050) (a := 2147483650) (by decide +kernel) (by decide) (by decide) ?_
    refine x_retI (np := 17) (x := 0) (by decide +kernel) (by decide) (Or.inl (by decide +kernel)) ⟨_, rfl, (by decide), ?_⟩
    exact ⟨j19, f23, (by omega), (by omega)⟩
set_option maxHeartbeats 0 in
/-- LentNamesLaw.people(LLentNames;I)I -/
theorem c283_0 {sc : Nat × Nat} {d a1 : Nat} {h : xh} (hJ : J h) (ba1 : 0 ≤ a1 ∧ a1 ≤ 4294967295) : X sc 283 (d + 8) (xI fun r h' => J h' ∧ Fr 140737488461441 h h' ∧ (2147483648 ≤ r ∧ r ≤ 2147483650)) 0 0 0 [x_r 0, iv_c a1, 147573952589676412928] [] h := by
  have la1 : a1 < 4294967296 := by omega
  have hF := Fr.refl 140737488461441 h
  refine x_aload (np := 1) (x := 0) (by decide +kernel) rfl (x_nc_le (by decide)) ?_
  refine x_iload (np := 2) (x := 1) (by decide +kernel) rfl la1 ?_
  refine x_cTU (t := 6) (mj := 109) (n := 2) (rc := 11) (ml := 2) (cc := 1) (ss := 6) (nr := 0) (np := 5) (as := [x_r 0, iv_c a1]) (rest := []) (lo1 := [x_r 0, iv_c a1]) (by decide +kernel) (by decide) (by decide +kernel) (x_rb_of (by decide +kernel)) rfl rfl (x_wr (by decide) (x_wi la1 x_wn)) x_wn (by decide) rfl (c109_0 hJ  (by omega)) (fun h4 q3 => ?_) (fun E6 h7 q5 => ?_)
  · obtain ⟨j8, f9⟩ := q3
    have f11 := Fr.trans hF f9 (by decide)
    refine x_goto (np := 8) (x := 14) (by decide +kernel) ?_
    refine x_const (np := 15) (x := 9223372039002259456) (a := 2147483648) (by decide +kernel) (by decide) (by decide) ?_
    refine x_retI (np := 16) (x := 0) (by decide +kernel) (by decide) (Or.inl (by decide +kernel)) ⟨_, rfl, (by decide), ?_⟩
    exact ⟨j8, f11, (by omega)⟩
  obtain ⟨j12, f13, e14⟩ := q5
  have f15 := Fr.trans hF f13 (by decide)
  rcases e14 with rfl | rfl
  · refine ⟨8, fun _ _ => rfl, ?_⟩
    refine x_astE (np := 9) (x := 2) (lo' := [x_r 0, iv_c a1, 55340232221128654850]) (by decide +kernel) (Nat.le_of_ble_eq_true rfl) rfl ?_
    refine x_const (np := 10) (x := 9223372043297226753) (a := 2147483649) (by decide +kernel) (by decide) (by decide) ?_
    refine x_retI (np := 11) (x := 0) (by decide +kernel) (by decide) (Or.inl (by decide +kernel)) ⟨_, rfl, (by decide), ?_⟩
    exact ⟨j12, f15, (by omega)⟩
  · refine ⟨11, fun _ _ => rfl, ?_⟩
    refine x_astE (np := 12) (x := 2) (lo' := [x_r 0, iv_c a1, 55340232221128654850]) (by decide +kernel) (Nat.le_of_ble_eq_true rfl) rfl ?_
    refine x_const (np := 13) (x := 9223372047592194050) (a := 2147483650) (by decide +kernel) (by decide) (by decide) ?_
    refine x_retI (np := 14) (x := 0) (by decide +kernel) (by decide) (Or.inl (by decide +kernel)) ⟨_, rfl, (by decide), ?_⟩
    exact ⟨j12, f15, (by omega)⟩
set_option maxHeartbeats 0 in
/-- LentNamesLaw.bears(LLentNames;II[J)I -/
theorem c284_0_97 {sc : Nat × Nat} {d a1 a2 : Nat} {h : xh} (hJ : J h) (ba1 : 0 ≤ a1 ∧ a1 ≤ 4294967295) (ba2 : 0 ≤ a2 ∧ a2 ≤ 4294967295) : X sc 284 (d + 3) (xI fun r h' => J h' ∧ Fr 70368744177664 h h' ∧ (2147483648 ≤ r ∧ r ≤ 2147483649)) 0 0 0 [x_r 0, iv_c a1, iv_c a2, x_r 97, 147573952589676412928] [] h := by
  have la1 : a1 < 4294967296 := by omega
  have la2 : a2 < 4294967296 := by omega
  have hF := Fr.refl 70368744177664 h
  refine x_aload (np := 1) (x := 3) (by decide +kernel) rfl (x_nc_le (by decide)) ?_
  refine x_const (np := 2) (x := 9223372039002259456) (a := 2147483648) (by decide +kernel) (by decide) (by decide) ?_
  refine x_aload (np := 3) (x := 0) (by decide +kernel) rfl (x_nc_le (by decide)) ?_
  refine x_iload (np := 4) (x := 1) (by decide +kernel) rfl la1 ?_
  refine x_iload (np := 5) (x := 2) (by decide +kernel) rfl la2 ?_
  refine x_cT (t := 6) (mj := 110) (n := 3) (rc := 11) (ml := 3) (cc := 2) (ss := 12) (nr := 2) (np := 8) (as := [x_r 0, iv_c a1, iv_c a2]) (rest := [iv_c 2147483648, x_r 97]) (lo1 := [x_r 0, iv_c a1, iv_c a2]) (by decide +kernel) (by decide) (by decide +kernel) (x_rb_of (by decide +kernel)) rfl rfl (x_wr (by decide) (x_wi la1 (x_wi la2 x_wn))) (x_wi (by decide) (x_wr (by decide) x_wn)) (by decide) rfl (c110_0 hJ  (by omega) (by omega)) (fun v1 h4 l2 q3 => ?_) (fun E6 h7 q5 => ?_)
  · obtain ⟨j8, f9, b10⟩ := q3
    have f11 := Fr.trans hF f9 (by decide)
    refine x_i2l (np := 9) (x := 0) (by decide +kernel) l2 ?_
    refine x_last (np := 10) (x := 0) (n := 1) (i := 0) (by decide +kernel) (by decide) (by decide +kernel) (by decide +kernel) (by omega) (by omega) (by decide) l2 ?_
    have j13 := jU (e := 0) (v := v1) 0 j8 rg_97_0_1_1 (by omega) (by omega) (by omega)
    have f15 := jF (e := 0) (v := v1) 0 f11 rg_97_0_1_1 (by omega) (by omega) (by decide)
    generalize e14 : x_up h4 97 0 v1 = h12 at j13 f15 ⊢
    refine x_goto (np := 13) (x := 17) (by decide +kernel) ?_
    refine x_const (np := 18) (x := 9223372039002259456) (a := 2147483648) (by decide +kernel) (by decide) (by decide) ?_
    refine x_retI (np := 19) (x := 0) (by decide +kernel) (by decide) (Or.inl (by decide +kernel)) ⟨_, rfl, (by decide), ?_⟩
    exact ⟨j13, f15, (by omega)⟩
  obtain ⟨j16, f17, e18⟩ := q5
  have f19 := Fr.trans hF f17 (by decide)
  rcases e18 with rfl
  · refine ⟨13, fun _ _ => rfl, ?_⟩
    refine x_astE (np := 15) (x := 4) (lo' := [x_r 0, iv_c a1, iv_c a2, x_r 97, 55340232221128654850]) (by decide +kernel) (Nat.le_of_ble_eq_true rfl) rfl ?_
    refine x_const (np := 16) (x := 9223372043297226753) (a := 2147483649) (by decide +kernel) (by decide) (by decide) ?_
    refine x_retI (np := 17) (x := 0) (by decide +kernel) (by decide) (Or.inl (by decide +kernel)) ⟨_, rfl, (by decide), ?_⟩
    exact ⟨j16, f19, (by omega)⟩
set_option maxHeartbeats 0 in
/-- LentNamesLaw.names(LLentNames;II[J)I -/
theorem c285_0_97 {sc : Nat × Nat} {d a1 a2 : Nat} {h : xh} (hJ : J h) (ba1 : 0 ≤ a1 ∧ a1 ≤ 4294967295) (ba2 : 0 ≤ a2 ∧ a2 ≤ 4294967295) : X sc 285 (d + 4) (xI fun r h' => J h' ∧ Fr 70368744177664 h h' ∧ (2147483648 ≤ r ∧ r ≤ 2147483649)) 0 0 0 [x_r 0, iv_c a1, iv_c a2, x_r 97, 147573952589676412928] [] h := by
  have la1 : a1 < 4294967296 := by omega
  have la2 : a2 < 4294967296 := by omega
  have hF := Fr.refl 70368744177664 h
  refine x_aload (np := 1) (x := 3) (by decide +kernel) rfl (x_nc_le (by decide)) ?_
  refine x_const (np := 2) (x := 9223372039002259456) (a := 2147483648) (by decide +kernel) (by decide) (by decide) ?_
  refine x_aload (np := 3) (x := 0) (by decide +kernel) rfl (x_nc_le (by decide)) ?_
  refine x_iload (np := 4) (x := 1) (by decide +kernel) rfl la1 ?_
  refine x_iload (np := 5) (x := 2) (by decide +kernel) rfl la2 ?_
  refine x_cT (t := 6) (mj := 111) (n := 3) (rc := 11) (ml := 3) (cc := 2) (ss := 12) (nr := 2) (np := 8) (as := [x_r 0, iv_c a1, iv_c a2]) (rest := [iv_c 2147483648, x_r 97]) (lo1 := [x_r 0, iv_c a1, iv_c a2]) (by decide +kernel) (by decide) (by decide +kernel) (x_rb_of (by decide +kernel)) rfl rfl (x_wr (by decide) (x_wi la1 (x_wi la2 x_wn))) (x_wi (by decide) (x_wr (by decide) x_wn)) (by decide) rfl (c111_0 hJ  (by omega) (by omega)) (fun v1 h4 l2 q3 => ?_) (fun E6 h7 q5 => ?_)
  · obtain ⟨j8, f9, b10⟩ := q3
    have f11 := Fr.trans hF f9 (by decide)
    refine x_i2l (np := 9) (x := 0) (by decide +kernel) l2 ?_
    refine x_last (np := 10) (x := 0) (n := 1) (i := 0) (by decide +kernel) (by decide) (by decide +kernel) (by decide +kernel) (by omega) (by omega) (by decide) l2 ?_
    have j13 := jU (e := 0) (v := v1) 0 j8 rg_97_0_1_1 (by omega) (by omega) (by omega)
    have f15 := jF (e := 0) (v := v1) 0 f11 rg_97_0_1_1 (by omega) (by omega) (by decide)
    generalize e14 : x_up h4 97 0 v1 = h12 at j13 f15 ⊢
    refine x_goto (np := 13) (x := 17) (by decide +kernel) ?_
    refine x_const (np := 18) (x := 9223372039002259456) (a := 2147483648) (by decide +kernel) (by decide) (by decide) ?_
    refine x_retI (np := 19) (x := 0) (by decide +kernel) (by decide) (Or.inl (by decide +kernel)) ⟨_, rfl, (by decide), ?_⟩
    exact ⟨j13, f15, (by omega)⟩
  obtain ⟨j16, f17, e18⟩ := q5
  have f19 := Fr.trans hF f17 (by decide)
  rcases e18 with rfl
  · refine ⟨13, fun _ _ => rfl, ?_⟩
    refine x_astE (np := 15) (x := 4) (lo' := [x_r 0, iv_c a1, iv_c a2, x_r 97, 55340232221128654850]) (by decide +kernel) (Nat.le_of_ble_eq_true rfl) rfl ?_
    refine x_const (np := 16) (x := 9223372043297226753) (a := 2147483649) (by decide +kernel) (by decide) (by decide) ?_
    refine x_retI (np := 17) (x := 0) (by decide +kernel) (by decide) (Or.inl (by decide +kernel)) ⟨_, rfl, (by decide), ?_⟩
    exact ⟨j16, f19, (by omega)⟩
set_option maxHeartbeats 0 in
/-- LentNamesLaw.how(LLentNames;II[J)I -/
theorem c286_0_97 {sc : Nat × Nat} {d a1 a2 : Nat} {h : xh} (hJ : J h) (ba1 : 0 ≤ a1 ∧ a1 ≤ 4294967295) (ba2 : 0 ≤ a2 ∧ a2 ≤ 4294967295) : X sc 286 (d + 3) (xI fun r h' => J h' ∧ Fr 70368744177664 h h' ∧ (2147483648 ≤ r ∧ r ≤ 2147483649)) 0 0 0 [x_r 0, iv_c a1, iv_c a2, x_r 97, 147573952589676412928] [] h := by
  have la1 : a1 < 4294967296 := by omega
  have la2 : a2 < 4294967296 := by omega
  have hF := Fr.refl 70368744177664 h
  refine x_aload (np := 1) (x := 3) (by decide +kernel) rfl (x_nc_le (by decide)) ?_
  refine x_const (np := 2) (x := 9223372039002259456) (a := 2147483648) (by decide +kernel) (by decide) (by decide) ?_
  refine x_aload (np := 3) (x := 0) (by decide +kernel) rfl (x_nc_le (by decide)) ?_
  refine x_iload (np := 4) (x := 1) (by decide +kernel) rfl la1 ?_
  refine x_iload (np := 5) (x := 2) (by decide +kernel) rfl la2 ?_
  refine x_cT (t := 6) (mj := 112) (n := 3) (rc := 11) (ml := 3) (cc := 2) (ss := 12) (nr := 2) (np := 8) (as := [x_r 0, iv_c a1, iv_c a2]) (rest := [iv_c 2147483648, x_r 97]) (lo1 := [x_r 0, iv_c a1, iv_c a2]) (by decide +kernel) (by decide) (by decide +kernel) (x_rb_of (by decide +kernel)) rfl rfl (x_wr (by decide) (x_wi la1 (x_wi la2 x_wn))) (x_wi (by decide) (x_wr (by decide) x_wn)) (by decide) rfl (c112_0 hJ  (by omega) (by omega)) (fun v1 h4 l2 q3 => ?_) (fun E6 h7 q5 => ?_)
  · obtain ⟨j8, f9, b10⟩ := q3
    have f11 := Fr.trans hF f9 (by decide)
    refine x_i2l (np := 9) (x := 0) (by decide +kernel) l2 ?_
    refine x_last (np := 10) (x := 0) (n := 1) (i := 0) (by decide +kernel) (by decide) (by decide +kernel) (by decide +kernel) (by omega) (by omega) (by decide) l2 ?_
    have j13 := jU (e := 0) (v := v1) 0 j8 rg_97_0_1_1 (by omega) (by omega) (by omega)
    have f15 := jF (e := 0) (v := v1) 0 f11 rg_97_0_1_1 (by omega) (by omega) (by decide)
    generalize e14 : x_up h4 97 0 v1 = h12 at j13 f15 ⊢
    refine x_goto (np := 13) (x := 17) (by decide +kernel) ?_
    refine x_const (np := 18) (x := 9223372039002259456) (a := 2147483648) (by decide +kernel) (by decide) (by decide) ?_
    refine x_retI (np := 19) (x := 0) (by decide +kernel) (by decide) (Or.inl (by decide +kernel)) ⟨_, rfl, (by decide), ?_⟩
    exact ⟨j13, f15, (by omega)⟩
  obtain ⟨j16, f17, e18⟩ := q5
  have f19 := Fr.trans hF f17 (by decide)
  rcases e18 with rfl
  · refine ⟨13, fun _ _ => rfl, ?_⟩
    refine x_astE (np := 15) (x := 4) (lo' := [x_r 0, iv_c a1, iv_c a2, x_r 97, 55340232221128654850]) (by decide +kernel) (Nat.le_of_ble_eq_true rfl) rfl ?_
    refine x_const (np := 16) (x := 9223372043297226753) (a := 2147483649) (by decide +kernel) (by decide) (by decide) ?_
    refine x_retI (np := 17) (x := 0) (by decide +kernel) (by decide) (Or.inl (by decide +kernel)) ⟨_, rfl, (by decide), ?_⟩
    exact ⟨j16, f19, (by omega)⟩
set_option maxHeartbeats 0 in
/-- LentNamesLaw.row(LLentNames;III[J)I -/
theorem c287_0_97 {sc : Nat × Nat} {d a1 a2 a3 : Nat} {h : xh} (hJ : J h) (ba1 : 0 ≤ a1 ∧ a1 ≤ 4294967295) (ba2 : 0 ≤ a2 ∧ a2 ≤ 4294967295) (ba3 : 0 ≤ a3 ∧ a3 ≤ 4294967295) : X sc 287 (d + 3) (xI fun r h' => J h' ∧ Fr 70368744177664 h h' ∧ (2147483648 ≤ r ∧ r ≤ 2147483649)) 0 0 0 [x_r 0, iv_c a1, iv_c a2, iv_c a3, x_r 97, 147573952589676412928] [] h := by
  have la1 : a1 < 4294967296 := by omega
  have la2 : a2 < 4294967296 := by omega
  have la3 : a3 < 4294967296 := by omega
  have hF := Fr.refl 70368744177664 h
  refine x_aload (np := 2) (x := 4) (by decide +kernel) rfl (x_nc_le (by decide)) ?_
  refine x_const (np := 3) (x := 9223372039002259456) (a := 2147483648) (by decide +kernel) (by decide) (by decide) ?_
  refine x_aload (np := 4) (x := 0) (by decide +kernel) rfl (x_nc_le (by decide)) ?_
  refine x_iload (np := 5) (x := 1) (by decide +kernel) rfl la1 ?_
  refine x_iload (np := 6) (x := 2) (by decide +kernel) rfl la2 ?_
  refine x_iload (np := 7) (x := 3) (by decide +kernel) rfl la3 ?_
  refine x_cT (t := 6) (mj := 113) (n := 4) (rc := 11) (ml := 4) (cc := 2) (ss := 12) (nr := 2) (np := 10) (as := [x_r 0, iv_c a1, iv_c a2, iv_c a3]) (rest := [iv_c 2147483648, x_r 97]) (lo1 := [x_r 0, iv_c a1, iv_c a2, iv_c a3]) (by decide +kernel) (by decide) (by decide +kernel) (x_rb_of (by decide +kernel)) rfl rfl (x_wr (by decide) (x_wi la1 (x_wi la2 (x_wi la3 x_wn)))) (x_wi (by decide) (x_wr (by decide) x_wn)) (by decide) rfl (c113_0 hJ  (by omega) (by omega) (by omega)) (fun v1 h4 l2 q3 => ?_) (fun E6 h7 q5 => ?_)
  · obtain ⟨j8, f9, b10⟩ := q3
    have f11 := Fr.trans hF f9 (by decide)
    refine x_i2l (np := 11) (x := 0) (by decide +kernel) l2 ?_
    refine x_last (np := 12) (x := 0) (n := 1) (i := 0) (by decide +kernel) (by decide) (by decide +kernel) (by decide +kernel) (by omega) (by omega) (by decide) l2 ?_
    have j13 := jU (e := 0) (v := v1) 0 j8 rg_97_0_1_1 (by omega) (by omega) (by omega)
    have f15 := jF (e := 0) (v := v1) 0 f11 rg_97_0_1_1 (by omega) (by omega) (by decide)
    generalize e14 : x_up h4 97 0 v1 = h12 at j13 f15 ⊢
    refine x_goto (np := 15) (x := 19) (by decide +kernel) ?_
    refine x_const (np := 20) (x := 9223372039002259456) (a := 2147483648) (by decide +kernel) (by decide) (by decide) ?_
    refine x_retI (np := 21) (x := 0) (by decide +kernel) (by decide) (Or.inl (by decide +kernel)) ⟨_, rfl, (by decide), ?_⟩
    exact ⟨j13, f15, (by omega)⟩
  obtain ⟨j16, f17, e18⟩ := q5
  have f19 := Fr.trans hF f17 (by decide)
  rcases e18 with rfl
  · refine ⟨15, fun _ _ => rfl, ?_⟩
    refine x_astE (np := 17) (x := 5) (lo' := [x_r 0, iv_c a1, iv_c a2, iv_c a3, x_r 97, 55340232221128654850]) (by decide +kernel) (Nat.le_of_ble_eq_true rfl) rfl ?_
    refine x_const (np := 18) (x := 9223372043297226753) (a := 2147483649) (by decide +kernel) (by decide) (by decide) ?_
    refine x_retI (np := 19) (x := 0) (by decide +kernel) (by decide) (Or.inl (by decide +kernel)) ⟨_, rfl, (by decide), ?_⟩
    exact ⟨j16, f19, (by omega)⟩
set_option maxHeartbeats 0 in
/-- LentNamesLaw.nameless(LLentNames;I[J)I -/
theorem c288_0_97 {sc : Nat × Nat} {d a1 : Nat} {h : xh} (hJ : J h) (ba1 : 0 ≤ a1 ∧ a1 ≤ 4294967295) : X sc 288 (d + 3) (xI fun r h' => J h' ∧ Fr 70368744177664 h h' ∧ (2147483648 ≤ r ∧ r ≤ 2147483649)) 0 0 0 [x_r 0, iv_c a1, x_r 97, 147573952589676412928] [] h := by
  have la1 : a1 < 4294967296 := by omega
  have hF := Fr.refl 70368744177664 h
  refine x_aload (np := 1) (x := 2) (by decide +kernel) rfl (x_nc_le (by decide)) ?_
  refine x_const (np := 2) (x := 9223372039002259456) (a := 2147483648) (by decide +kernel) (by decide) (by decide) ?_
  refine x_aload (np := 3) (x := 0) (by decide +kernel) rfl (x_nc_le (by decide)) ?_
  refine x_iload (np := 4) (x := 1) (by decide +kernel) rfl la1 ?_
  refine x_cT (t := 6) (mj := 114) (n := 2) (rc := 11) (ml := 2) (cc := 1) (ss := 6) (nr := 2) (np := 7) (as := [x_r 0, iv_c a1]) (rest := [iv_c 2147483648, x_r 97]) (lo1 := [x_r 0, iv_c a1]) (by decide +kernel) (by decide) (by decide +kernel) (x_rb_of (by decide +kernel)) rfl rfl (x_wr (by decide) (x_wi la1 x_wn)) (x_wi (by decide) (x_wr (by decide) x_wn)) (by decide) rfl (c114_0 hJ  (by omega)) (fun v1 h4 l2 q3 => ?_) (fun E6 h7 q5 => ?_)
  · obtain ⟨j8, f9, b10⟩ := q3
    have f11 := Fr.trans hF f9 (by decide)
    refine x_i2l (np := 8) (x := 0) (by decide +kernel) l2 ?_
    refine x_last (np := 9) (x := 0) (n := 1) (i := 0) (by decide +kernel) (by decide) (by decide +kernel) (by decide +kernel) (by omega) (by omega) (by decide) l2 ?_
    have j13 := jU (e := 0) (v := v1) 0 j8 rg_97_0_1_1 (by omega) (by omega) (by omega)
    have f15 := jF (e := 0) (v := v1) 0 f11 rg_97_0_1_1 (by omega) (by omega) (by decide)
    generalize e14 : x_up h4 97 0 v1 = h12 at j13 f15 ⊢
    refine x_goto (np := 12) (x := 15) (by decide +kernel) ?_
    refine x_const (np := 16) (x := 9223372039002259456) (a := 2147483648) (by decide +kernel) (by decide) (by decide) ?_
    refine x_retI (np := 17) (x := 0) (by decide +kernel) (by decide) (Or.inl (by decide +kernel)) ⟨_, rfl, (by decide), ?_⟩
    exact ⟨j13, f15, (by omega)⟩
  obtain ⟨j16, f17, e18⟩ := q5
  have f19 := Fr.trans hF f17 (by decide)
  rcases e18 with rfl
  · refine ⟨12, fun _ _ => rfl, ?_⟩
    refine x_astE (np := 13) (x := 3) (lo' := [x_r 0, iv_c a1, x_r 97, 55340232221128654850]) (by decide +kernel) (Nat.le_of_ble_eq_true rfl) rfl ?_
    refine x_const (np := 14) (x := 9223372043297226753) (a := 2147483649) (by decide +kernel) (by decide) (by decide) ?_
    refine x_retI (np := 15) (x := 0) (by decide +kernel) (by decide) (Or.inl (by decide +kernel)) ⟨_, rfl, (by decide), ?_⟩
    exact ⟨j16, f19, (by omega)⟩
set_option maxHeartbeats 0 in
/-- LentNamesLaw.longest(LLentNames;I[J)I -/
theorem c289_0_97 {sc : Nat × Nat} {d a1 : Nat} {h : xh} (hJ : J h) (ba1 : 0 ≤ a1 ∧ a1 ≤ 4294967295) : X sc 289 (d + 3) (xI fun r h' => J h' ∧ Fr 70368744177664 h h' ∧ (2147483648 ≤ r ∧ r ≤ 2147483649)) 0 0 0 [x_r 0, iv_c a1, x_r 97, 147573952589676412928] [] h := by
  have la1 : a1 < 4294967296 := by omega
  have hF := Fr.refl 70368744177664 h
  refine x_aload (np := 1) (x := 2) (by decide +kernel) rfl (x_nc_le (by decide)) ?_
  refine x_const (np := 2) (x := 9223372039002259456) (a := 2147483648) (by decide +kernel) (by decide) (by decide) ?_
  refine x_aload (np := 3) (x := 0) (by decide +kernel) rfl (x_nc_le (by decide)) ?_
  refine x_iload (np := 4) (x := 1) (by decide +kernel) rfl la1 ?_
  refine x_cT (t := 6) (mj := 115) (n := 2) (rc := 11) (ml := 5) (cc := 1) (ss := 6) (nr := 2) (np := 7) (as := [x_r 0, iv_c a1]) (rest := [iv_c 2147483648, x_r 97]) (lo1 := [x_r 0, iv_c a1, 147573952589676412928, 147573952589676412928, 147573952589676412928]) (by decide +kernel) (by decide) (by decide +kernel) (x_rb_of (by decide +kernel)) rfl rfl (x_wr (by decide) (x_wi la1 x_wn)) (x_wi (by decide) (x_wr (by decide) x_wn)) (by decide) rfl (c115_0 hJ  (by omega)) (fun v1 h4 l2 q3 => ?_) (fun E6 h7 q5 => ?_)
  · obtain ⟨j8, f9, b10⟩ := q3
    have f11 := Fr.trans hF f9 (by decide)
    refine x_i2l (np := 8) (x := 0) (by decide +kernel) l2 ?_
    refine x_last (np := 9) (x := 0) (n := 1) (i := 0) (by decide +kernel) (by decide) (by decide +kernel) (by decide +kernel) (by omega) (by omega) (by decide) l2 ?_
    have j13 := jU (e := 0) (v := v1) 0 j8 rg_97_0_1_1 (by omega) (by omega) (by omega)
    have f15 := jF (e := 0) (v := v1) 0 f11 rg_97_0_1_1 (by omega) (by omega) (by decide)
    generalize e14 : x_up h4 97 0 v1 = h12 at j13 f15 ⊢
    refine x_goto (np := 12) (x := 15) (by decide +kernel) ?_
    refine x_const (np := 16) (x := 9223372039002259456) (a := 2147483648) (by decide +kernel) (by decide) (by decide) ?_
    refine x_retI (np := 17) (x := 0) (by decide +kernel) (by decide) (Or.inl (by decide +kernel)) ⟨_, rfl, (by decide), ?_⟩
    exact ⟨j13, f15, (by omega)⟩
  obtain ⟨j16, f17, e18⟩ := q5
  have f19 := Fr.trans hF f17 (by decide)
  rcases e18 with rfl
  · refine ⟨12, fun _ _ => rfl, ?_⟩
    refine x_astE (np := 13) (x := 3) (lo' := [x_r 0, iv_c a1, x_r 97, 55340232221128654850]) (by decide +kernel) (Nat.le_of_ble_eq_true rfl) rfl ?_
    refine x_const (np := 14) (x := 9223372043297226753) (a := 2147483649) (by decide +kernel) (by decide) (by decide) ?_
    refine x_retI (np := 15) (x := 0) (by decide +kernel) (by decide) (Or.inl (by decide +kernel)) ⟨_, rfl, (by decide), ?_⟩
    exact ⟨j16, f19, (by omega)⟩
set_option maxHeartbeats 0 in
/-- LentNamesLaw.lives(LLentNames;II[J)I -/
theorem c290_0_97 {sc : Nat × Nat} {d a1 a2 : Nat} {h : xh} (hJ : J h) (ba1 : 0 ≤ a1 ∧ a1 ≤ 4294967295) (ba2 : 0 ≤ a2 ∧ a2 ≤ 4294967295) : X sc 290 (d + 2) (xI fun r h' => J h' ∧ Fr 70368744177664 h h' ∧ (2147483648 ≤ r ∧ r ≤ 2147483649)) 0 0 0 [x_r 0, iv_c a1, iv_c a2, x_r 97, 147573952589676412928] [] h := by
  have la1 : a1 < 4294967296 := by omega
  have la2 : a2 < 4294967296 := by omega
  have hF := Fr.refl 70368744177664 h
  refine x_aload (np := 1) (x := 3) (by decide +kernel) rfl (x_nc_le (by decide)) ?_
  refine x_const (np := 2) (x := 9223372039002259456) (a := 2147483648) (by decide +kernel) (by decide) (by decide) ?_
  refine x_aload (np := 3) (x := 0) (by decide +kernel) rfl (x_nc_le (by decide)) ?_
  refine x_iload (np := 4) (x := 1) (by decide +kernel) rfl la1 ?_
  refine x_iload (np := 5) (x := 2) (by decide +kernel) rfl la2 ?_
  refine x_cT (t := 6) (mj := 116) (n := 3) (rc := 11) (ml := 3) (cc := 2) (ss := 12) (nr := 2) (np := 8) (as := [x_r 0, iv_c a1, iv_c a2]) (rest := [iv_c 2147483648, x_r 97]) (lo1 := [x_r 0, iv_c a1, iv_c a2]) (by decide +kernel) (by decide) (by decide +kernel) (x_rb_of (by decide +kernel)) rfl rfl (x_wr (by decide) (x_wi la1 (x_wi la2 x_wn))) (x_wi (by decide) (x_wr (by decide) x_wn)) (by decide) rfl (c116_0 hJ  (by omega) (by omega)) (fun v1 h4 l2 q3 => ?_) (fun E6 h7 q5 => ?_)
  · obtain ⟨j8, f9, b10⟩ := q3
    have f11 := Fr.trans hF f9 (by decide)
    refine x_ifz (k := 0) (tg := 15) (np := 11) (by decide +kernel) (by decide) l2 (fun q12 => ?_) (fun q13 => ?_)
    · have q12 : v1 = 2147483648 := q12
      refine x_lconst (np := 16) (x := 0) (by decide +kernel) (by decide) ?_
      show X _ _ _ _ _ _ _ _ [(73786976294838206464 + iv_c 2147483648), iv_c 2147483648, x_r 97] _
      refine x_last (np := 17) (x := 0) (n := 1) (i := 0) (by decide +kernel) (by decide) (by decide +kernel) (by decide +kernel) (by omega) (by omega) (by decide) (by decide) ?_
      have j15 := jU (e := 0) (v := 2147483648) 0 j8 rg_97_0_1_1 (by omega) (by omega) (by omega)
      have f17 := jF (e := 0) (v := 2147483648) 0 f11 rg_97_0_1_1 (by omega) (by omega) (by decide)
      generalize e16 : x_up h4 97 0 2147483648 = h14 at j15 f17 ⊢
      refine x_goto (np := 20) (x := 24) (by decide +kernel) ?_
      refine x_const (np := 25) (x := 9223372039002259456) (a := 2147483648) (by decide +kernel) (by decide) (by decide) ?_
      refine x_retI (np := 26) (x := 0) (by decide +kernel) (by decide) (Or.inl (by decide +kernel)) ⟨_, rfl, (by decide), ?_⟩
      exact ⟨j15, f17, (by omega)⟩
    have q13 : ¬ (v1 = 2147483648) := q13
    refine x_lconst (np := 12) (x := 1) (by decide +kernel) (by decide) ?_
    show X _ _ _ _ _ _ _ _ [(73786976294838206464 + iv_c 2147483649), iv_c 2147483648, x_r 97] _
    refine x_goto (np := 15) (x := 16) (by decide +kernel) ?_
    refine x_last (np := 17) (x := 0) (n := 1) (i := 0) (by decide +kernel) (by decide) (by decide +kernel) (by decide +kernel) (by omega) (by omega) (by decide) (by decide) ?_
    have j19 := jU (e := 0) (v := 2147483649) 0 j8 rg_97_0_1_1 (by omega) (by omega) (by omega)
    have f21 := jF (e := 0) (v := 2147483649) 0 f11 rg_97_0_1_1 (by omega) (by omega) (by decide)
    generalize e20 : x_up h4 97 0 2147483649 = h18 at j19 f21 ⊢
    refine x_goto (np := 20) (x := 24) (by decide +kernel) ?_
    refine x_const (np := 25) (x := 9223372039002259456) (a := 2147483648) (by decide +kernel) (by decide) (by decide) ?_
    refine x_retI (np := 26) (x := 0) (by decide +kernel) (by decide) (Or.inl (by decide +kernel)) ⟨_, rfl, (by decide), ?_⟩
    exact ⟨j19, f21, (by omega)⟩
  obtain ⟨j22, f23, e24⟩ := q5
  have f25 := Fr.trans hF f23 (by decide)
  rcases e24 with rfl
  · refine ⟨20, fun _ _ => rfl, ?_⟩
    refine x_astE (np := 22) (x := 4) (lo' := [x_r 0, iv_c a1, iv_c a2, x_r 97, 55340232221128654850]) (by decide +kernel) (Nat.le_of_ble_eq_true rfl) rfl ?_
    refine x_const (np := 23) (x := 9223372043297226753) (a := 2147483649) (by decide +kernel) (by decide) (by decide) ?_
    refine x_retI (np := 24) (x := 0) (by decide +kernel) (by decide) (Or.inl (by decide +kernel)) ⟨_, rfl, (by decide), ?_⟩
    exact ⟨j22, f25, (by omega)⟩
set_option maxHeartbeats 0 in
/-- LentNamesLaw.look(LLentNames;II[J)I -/
theorem c291_0_97 {sc : Nat × Nat} {d a1 a2 : Nat} {h : xh} (hJ : J h) (ba1 : 0 ≤ a1 ∧ a1 ≤ 4294967295) (ba2 : 0 ≤ a2 ∧ a2 ≤ 4294967295) : X sc 291 (d + 4) (xI fun r h' => J h' ∧ Fr 70368744177664 h h' ∧ (2147483648 ≤ r ∧ r ≤ 2147483650)) 0 0 0 [x_r 0, iv_c a1, iv_c a2, x_r 97, 147573952589676412928] [] h := by
  have la1 : a1 < 4294967296 := by omega
  have la2 : a2 < 4294967296 := by omega
  have hF := Fr.refl 70368744177664 h
  refine x_aload (np := 1) (x := 3) (by decide +kernel) rfl (x_nc_le (by decide)) ?_
  refine x_const (np := 2) (x := 9223372039002259456) (a := 2147483648) (by decide +kernel) (by decide) (by decide) ?_
  refine x_aload (np := 3) (x := 0) (by decide +kernel) rfl (x_nc_le (by decide)) ?_
  refine x_iload (np := 4) (x := 1) (by decide +kernel) rfl la1 ?_
  refine x_iload (np := 5) (x := 2) (by decide +kernel) rfl la2 ?_
  refine x_cT (t := 6) (mj := 122) (n := 3) (rc := 11) (ml := 3) (cc := 2) (ss := 12) (nr := 2) (np := 8) (as := [x_r 0, iv_c a1, iv_c a2]) (rest := [iv_c 2147483648, x_r 97]) (lo1 := [x_r 0, iv_c a1, iv_c a2]) (by decide +kernel) (by decide) (by decide +kernel) (x_rb_of (by decide +kernel)) rfl rfl (x_wr (by decide) (x_wi la1 (x_wi la2 x_wn))) (x_wi (by decide) (x_wr (by decide) x_wn)) (by decide) rfl (c122_0 hJ  (by omega) (by omega)) (fun v1 h4 l2 q3 => ?_) (fun E6 h7 q5 => ?_)
  · obtain ⟨j8, f9, b10⟩ := q3
    have f11 := Fr.trans hF f9 (by decide)
    refine x_i2l (np := 9) (x := 0) (by decide +kernel) l2 ?_
    refine x_last (np := 10) (x := 0) (n := 1) (i := 0) (by decide +kernel) (by decide) (by decide +kernel) (by decide +kernel) (by omega) (by omega) (by decide) l2 ?_
    have j13 := jU (e := 0) (v := v1) 0 j8 rg_97_0_1_1 (by omega) (by omega) (by omega)
    have f15 := jF (e := 0) (v := v1) 0 f11 rg_97_0_1_1 (by omega) (by omega) (by decide)
    generalize e14 : x_up h4 97 0 v1 = h12 at j13 f15 ⊢
    refine x_goto (np := 13) (x := 21) (by decide +kernel) ?_
    refine x_const (np := 22) (x := 9223372039002259456) (a := 2147483648) (by decide +kernel) (by decide) (by decide) ?_
    refine x_retI (np := 23) (x := 0) (by decide +kernel) (by decide) (Or.inl (by decide +kernel)) ⟨_, rfl, (by decide), ?_⟩
    exact ⟨j13, f15, (by omega)⟩
  obtain ⟨j16, f17, e18⟩ := q5
  have f19 := Fr.trans hF f17 (by decide)
  rcases e18 with rfl | rfl
  · refine ⟨13, fun _ _ => rfl, ?_⟩
    refine x_astE (np := 15) (x := 4) (lo' := [x_r 0, iv_c a1, iv_c a2, x_r 97, 55340232221128654850]) (by decide +kernel) (Nat.le_of_ble_eq_true rfl) rfl ?_
    refine x_const (np := 16) (x := 9223372043297226753) (a := 2147483649) (by decide +kernel) (by decide) (by decide) ?_
    refine x_retI (np := 17) (x := 0) (by decide +kernel) (by decide) (Or.inl (by decide +kernel)) ⟨_, rfl, (by decide), ?_⟩
    exact ⟨j16, f19, (by omega)⟩
  · refine ⟨17, fun _ _ => rfl, ?_⟩
    refine x_astE (np := 19) (x := 4) (lo' := [x_r 0, iv_c a1, iv_c a2, x_r 97, 55340232221128654850]) (by decide +kernel) (Nat.le_of_ble_eq_true rfl) rfl ?_
    refine x_const (np := 20) (x := 9223372047592194050) (a := 2147483650) (by decide +kernel) (by decide) (by decide) ?_
    refine x_retI (np := 21) (x := 0) (by decide +kernel) (by decide) (Or.inl (by decide +kernel)) ⟨_, rfl, (by decide), ?_⟩
    exact ⟨j16, f19, (by omega)⟩
set_option maxHeartbeats 0 in
/-- LentNamesLaw.owes(LLentNames;IZ[J)I -/
theorem c292_0_97 {sc : Nat × Nat} {d a1 a2 : Nat} {h : xh} (hJ : J h) (ba1 : 0 ≤ a1 ∧ a1 ≤ 4294967295) (ba2 : 2147483648 ≤ a2 ∧ a2 ≤ 2147483649) : X sc 292 (d + 2) (xI fun r h' => J h' ∧ Fr 70368744177664 h h' ∧ (2147483648 ≤ r ∧ r ≤ 2147483649)) 0 0 0 [x_r 0, iv_c a1, iv_c a2, x_r 97, 147573952589676412928] [] h := by
  have la1 : a1 < 4294967296 := by omega
  have la2 : a2 < 4294967296 := by omega
  have hF := Fr.refl 70368744177664 h
  refine x_aload (np := 1) (x := 3) (by decide +kernel) rfl (x_nc_le (by decide)) ?_
  refine x_const (np := 2) (x := 9223372039002259456) (a := 2147483648) (by decide +kernel) (by decide) (by decide) ?_
  refine x_aload (np := 3) (x := 0) (by decide +kernel) rfl (x_nc_le (by decide)) ?_
  refine x_iload (np := 4) (x := 1) (by decide +kernel) rfl la1 ?_
  refine x_iload (np := 5) (x := 2) (by decide +kernel) rfl la2 ?_
  refine x_cT (t := 6) (mj := 123) (n := 3) (rc := 11) (ml := 6) (cc := 1) (ss := 6) (nr := 2) (np := 8) (as := [x_r 0, iv_c a1, iv_c a2]) (rest := [iv_c 2147483648, x_r 97]) (lo1 := [x_r 0, iv_c a1, iv_c a2, 147573952589676412928, 147573952589676412928, 147573952589676412928]) (by decide +kernel) (by decide) (by decide +kernel) (x_rb_of (by decide +kernel)) rfl rfl (x_wr (by decide) (x_wi la1 (x_wi la2 x_wn))) (x_wi (by decide) (x_wr (by decide) x_wn)) (by decide) rfl (c123_0 hJ  (by omega) (by omega)) (fun v1 h4 l2 q3 => ?_) (fun E6 h7 q5 => ?_)
  · obtain ⟨j8, f9, b10⟩ := q3
    have f11 := Fr.trans hF f9 (by decide)
    refine x_i2l (np := 9) (x := 0) (by decide +kernel) l2 ?_
    refine x_last (np := 10) (x := 0) (n := 1) (i := 0) (by decide +kernel) (by decide) (by decide +kernel) (by decide +kernel) (by omega) (by omega) (by decide) l2 ?_
    have j13 := jU (e := 0) (v := v1) 0 j8 rg_97_0_1_1 (by omega) (by omega) (by omega)
    have f15 := jF (e := 0) (v := v1) 0 f11 rg_97_0_1_1 (by omega) (by omega) (by decide)
    generalize e14 : x_up h4 97 0 v1 = h12 at j13 f15 ⊢
    refine x_goto (np := 13) (x := 17) (by decide +kernel) ?_
    refine x_const (np := 18) (x := 9223372039002259456) (a := 2147483648) (by decide +kernel) (by decide) (by decide) ?_
    refine x_retI (np := 19) (x := 0) (by decide +kernel) (by decide) (Or.inl (by decide +kernel)) ⟨_, rfl, (by decide), ?_⟩
    exact ⟨j13, f15, (by omega)⟩
  obtain ⟨j16, f17, e18⟩ := q5
  have f19 := Fr.trans hF f17 (by decide)
  rcases e18 with rfl
  · refine ⟨13, fun _ _ => rfl, ?_⟩
    refine x_astE (np := 15) (x := 4) (lo' := [x_r 0, iv_c a1, iv_c a2, x_r 97, 55340232221128654850]) (by decide +kernel) (Nat.le_of_ble_eq_true rfl) rfl ?_
    refine x_const (np := 16) (x := 9223372043297226753) (a := 2147483649) (by decide +kernel) (by decide) (by decide) ?_
    refine x_retI (np := 17) (x := 0) (by decide +kernel) (by decide) (Or.inl (by decide +kernel)) ⟨_, rfl, (by decide), ?_⟩
    exact ⟨j16, f19, (by omega)⟩
set_option maxHeartbeats 0 in
/-- LentNamesLaw.letter(LLentNames;II[J)I -/
theorem c293_0_97 {sc : Nat × Nat} {d a1 a2 : Nat} {h : xh} (hJ : J h) (ba1 : 0 ≤ a1 ∧ a1 ≤ 4294967295) (ba2 : 0 ≤ a2 ∧ a2 ≤ 4294967295) : X sc 293 (d + 4) (xI fun r h' => J h' ∧ Fr 70368744177664 h h' ∧ (2147483648 ≤ r ∧ r ≤ 2147483650)) 0 0 0 [x_r 0, iv_c a1, iv_c a2, x_r 97, 147573952589676412928] [] h := by
  have la1 : a1 < 4294967296 := by omega
  have la2 : a2 < 4294967296 := by omega
  have hF := Fr.refl 70368744177664 h
  refine x_aload (np := 1) (x := 3) (by decide +kernel) rfl (x_nc_le (by decide)) ?_
  refine x_const (np := 2) (x := 9223372039002259456) (a := 2147483648) (by decide +kernel) (by decide) (by decide) ?_
  refine x_aload (np := 3) (x := 0) (by decide +kernel) rfl (x_nc_le (by decide)) ?_
  refine x_iload (np := 4) (x := 1) (by decide +kernel) rfl la1 ?_
  refine x_iload (np := 5) (x := 2) (by decide +kernel) rfl la2 ?_
  refine x_cT (t := 6) (mj := 124) (n := 3) (rc := 11) (ml := 5) (cc := 2) (ss := 12) (nr := 2) (np := 8) (as := [x_r 0, iv_c a1, iv_c a2]) (rest := [iv_c 2147483648, x_r 97]) (lo1 := [x_r 0, iv_c a1, iv_c a2, 147573952589676412928, 147573952589676412928]) (by decide +kernel) (by decide) (by decide +kernel) (x_rb_of (by decide +kernel)) rfl rfl (x_wr (by decide) (x_wi la1 (x_wi la2 x_wn))) (x_wi (by decide) (x_wr (by decide) x_wn)) (by decide) rfl (c124_0 hJ  (by omega) (by omega)) (fun v1 h4 l2 q3 => ?_) (fun E6 h7 q5 => ?_)
  · obtain ⟨j8, f9, b10⟩ := q3
    have f11 := Fr.trans hF f9 (by decide)
    refine x_i2l (np := 9) (x := 0) (by decide +kernel) l2 ?_
    refine x_last (np := 10) (x := 0) (n := 1) (i := 0) (by decide +kernel) (by decide) (by decide +kernel) (by decide +kernel) (by omega) (by omega) (by decide) l2 ?_
    have j13 := jU (e := 0) (v := v1) 0 j8 rg_97_0_1_1 (by omega) (by omega) (by omega)
    have f15 := jF (e := 0) (v := v1) 0 f11 rg_97_0_1_1 (by omega) (by omega) (by decide)
    generalize e14 : x_up h4 97 0 v1 = h12 at j13 f15 ⊢
    refine x_goto (np := 13) (x := 21) (by decide +kernel) ?_
    refine x_const (np := 22) (x := 9223372039002259456) (a := 2147483648) (by decide +kernel) (by decide) (by decide) ?_
    refine x_retI (np := 23) (x := 0) (by decide +kernel) (by decide) (Or.inl (by decide +kernel)) ⟨_, rfl, (by decide), ?_⟩
    exact ⟨j13, f15, (by omega)⟩
  obtain ⟨j16, f17, e18⟩ := q5
  have f19 := Fr.trans hF f17 (by decide)
  rcases e18 with rfl | rfl
  · refine ⟨13, fun _ _ => rfl, ?_⟩
    refine x_astE (np := 15) (x := 4) (lo' := [x_r 0, iv_c a1, iv_c a2, x_r 97, 55340232221128654850]) (by decide +kernel) (Nat.le_of_ble_eq_true rfl) rfl ?_
    refine x_const (np := 16) (x := 9223372043297226753) (a := 2147483649) (by decide +kernel) (by decide) (by decide) ?_
    refine x_retI (np := 17) (x := 0) (by decide +kernel) (by decide) (Or.inl (by decide +kernel)) ⟨_, rfl, (by decide), ?_⟩
    exact ⟨j16, f19, (by omega)⟩
  · refine ⟨17, fun _ _ => rfl, ?_⟩
    refine x_astE (np := 19) (x := 4) (lo' := [x_r 0, iv_c a1, iv_c a2, x_r 97, 55340232221128654850]) (by decide +kernel) (Nat.le_of_ble_eq_true rfl) rfl ?_
    refine x_const (np := 20) (x := 9223372047592194050) (a := 2147483650) (by decide +kernel) (by decide) (by decide) ?_
    refine x_retI (np := 21) (x := 0) (by decide +kernel) (by decide) (Or.inl (by decide +kernel)) ⟨_, rfl, (by decide), ?_⟩
    exact ⟨j16, f19, (by omega)⟩
set_option maxHeartbeats 0 in
/-- LentNamesLaw.pays(LLentNames;I[J)I -/
theorem c294_0_97 {sc : Nat × Nat} {d a1 : Nat} {h : xh} (hJ : J h) (ba1 : 0 ≤ a1 ∧ a1 ≤ 4294967295) : X sc 294 (d + 4) (xI fun r h' => J h' ∧ Fr 70368744177664 h h' ∧ (2147483648 ≤ r ∧ r ≤ 2147483649)) 0 0 0 [x_r 0, iv_c a1, x_r 97, 147573952589676412928] [] h := by
  have la1 : a1 < 4294967296 := by omega
  have hF := Fr.refl 70368744177664 h
  refine x_aload (np := 1) (x := 2) (by decide +kernel) rfl (x_nc_le (by decide)) ?_
  refine x_const (np := 2) (x := 9223372039002259456) (a := 2147483648) (by decide +kernel) (by decide) (by decide) ?_
  refine x_aload (np := 3) (x := 0) (by decide +kernel) rfl (x_nc_le (by decide)) ?_
  refine x_iload (np := 4) (x := 1) (by decide +kernel) rfl la1 ?_
  refine x_cT (t := 6) (mj := 128) (n := 2) (rc := 11) (ml := 2) (cc := 1) (ss := 6) (nr := 2) (np := 7) (as := [x_r 0, iv_c a1]) (rest := [iv_c 2147483648, x_r 97]) (lo1 := [x_r 0, iv_c a1]) (by decide +kernel) (by decide) (by decide +kernel) (x_rb_of (by decide +kernel)) rfl rfl (x_wr (by decide) (x_wi la1 x_wn)) (x_wi (by decide) (x_wr (by decide) x_wn)) (by decide) rfl (c128_0 hJ  (by omega)) (fun v1 h4 l2 q3 => ?_) (fun E6 h7 q5 => ?_)
  · obtain ⟨j8, f9, b10⟩ := q3
    have f11 := Fr.trans hF f9 (by decide)
    refine x_i2l (np := 8) (x := 0) (by decide +kernel) l2 ?_
    refine x_last (np := 9) (x := 0) (n := 1) (i := 0) (by decide +kernel) (by decide) (by decide +kernel) (by decide +kernel) (by omega) (by omega) (by decide) l2 ?_
    have j13 := jU (e := 0) (v := v1) 0 j8 rg_97_0_1_1 (by omega) (by omega) (by omega)
    have f15 := jF (e := 0) (v := v1) 0 f11 rg_97_0_1_1 (by omega) (by omega) (by decide)
    generalize e14 : x_up h4 97 0 v1 = h12 at j13 f15 ⊢
    refine x_goto (np := 12) (x := 15) (by decide +kernel) ?_
    refine x_const (np := 16) (x := 9223372039002259456) (a := 2147483648) (by decide +kernel) (by decide) (by decide) ?_
    refine x_retI (np := 17) (x := 0) (by decide +kernel) (by decide) (Or.inl (by decide +kernel)) ⟨_, rfl, (by decide), ?_⟩
    exact ⟨j13, f15, (by omega)⟩
  obtain ⟨j16, f17, e18⟩ := q5
  have f19 := Fr.trans hF f17 (by decide)
  rcases e18 with rfl
  · refine ⟨12, fun _ _ => rfl, ?_⟩
    refine x_astE (np := 13) (x := 3) (lo' := [x_r 0, iv_c a1, x_r 97, 55340232221128654850]) (by decide +kernel) (Nat.le_of_ble_eq_true rfl) rfl ?_
    refine x_const (np := 14) (x := 9223372043297226753) (a := 2147483649) (by decide +kernel) (by decide) (by decide) ?_
    refine x_retI (np := 15) (x := 0) (by decide +kernel) (by decide) (Or.inl (by decide +kernel)) ⟨_, rfl, (by decide), ?_⟩
    exact ⟨j16, f19, (by omega)⟩
set_option maxHeartbeats 0 in
/-- LentNamesLaw.bill(LLentNames;I[J)I -/
theorem c295_0_97 {sc : Nat × Nat} {d a1 : Nat} {h : xh} (hJ : J h) (ba1 : 0 ≤ a1 ∧ a1 ≤ 4294967295) : X sc 295 (d + 4) (xI fun r h' => J h' ∧ Fr 70368744177664 h h' ∧ (2147483648 ≤ r ∧ r ≤ 2147483649)) 0 0 0 [x_r 0, iv_c a1, x_r 97, 147573952589676412928] [] h := by
  have la1 : a1 < 4294967296 := by omega
  have hF := Fr.refl 70368744177664 h
  refine x_aload (np := 1) (x := 2) (by decide +kernel) rfl (x_nc_le (by decide)) ?_
  refine x_const (np := 2) (x := 9223372039002259456) (a := 2147483648) (by decide +kernel) (by decide) (by decide) ?_
  refine x_aload (np := 3) (x := 0) (by decide +kernel) rfl (x_nc_le (by decide)) ?_
  refine x_iload (np := 4) (x := 1) (by decide +kernel) rfl la1 ?_
  refine x_cT (t := 6) (mj := 129) (n := 2) (rc := 11) (ml := 4) (cc := 1) (ss := 6) (nr := 2) (np := 7) (as := [x_r 0, iv_c a1]) (rest := [iv_c 2147483648, x_r 97]) (lo1 := [x_r 0, iv_c a1, 147573952589676412928, 147573952589676412928]) (by decide +kernel) (by decide) (by decide +kernel) (x_rb_of (by decide +kernel)) rfl rfl (x_wr (by decide) (x_wi la1 x_wn)) (x_wi (by decide) (x_wr (by decide) x_wn)) (by decide) rfl (c129_0 hJ  (by omega)) (fun v1 h4 l2 q3 => ?_) (fun E6 h7 q5 => ?_)
  · obtain ⟨j8, f9, b10⟩ := q3
    have f11 := Fr.trans hF f9 (by decide)
    refine x_i2l (np := 8) (x := 0) (by decide +kernel) l2 ?_
    refine x_last (np := 9) (x := 0) (n := 1) (i := 0) (by decide +kernel) (by decide) (by decide +kernel) (by decide +kernel) (by omega) (by omega) (by decide) l2 ?_
    have j13 := jU (e := 0) (v := v1) 0 j8 rg_97_0_1_1 (by omega) (by omega) (by omega)
    have f15 := jF (e := 0) (v := v1) 0 f11 rg_97_0_1_1 (by omega) (by omega) (by decide)
    generalize e14 : x_up h4 97 0 v1 = h12 at j13 f15 ⊢
    refine x_goto (np := 12) (x := 15) (by decide +kernel) ?_
    refine x_const (np := 16) (x := 9223372039002259456) (a := 2147483648) (by decide +kernel) (by decide) (by decide) ?_
    refine x_retI (np := 17) (x := 0) (by decide +kernel) (by decide) (Or.inl (by decide +kernel)) ⟨_, rfl, (by decide), ?_⟩
    exact ⟨j13, f15, (by omega)⟩
  obtain ⟨j16, f17, e18⟩ := q5
  have f19 := Fr.trans hF f17 (by decide)
  rcases e18 with rfl
  · refine ⟨12, fun _ _ => rfl, ?_⟩
    refine x_astE (np := 13) (x := 3) (lo' := [x_r 0, iv_c a1, x_r 97, 55340232221128654850]) (by decide +kernel) (Nat.le_of_ble_eq_true rfl) rfl ?_
    refine x_const (np := 14) (x := 9223372043297226753) (a := 2147483649) (by decide +kernel) (by decide) (by decide) ?_
    refine x_retI (np := 15) (x := 0) (by decide +kernel) (by decide) (Or.inl (by decide +kernel)) ⟨_, rfl, (by decide), ?_⟩
    exact ⟨j16, f19, (by omega)⟩
set_option maxHeartbeats 0 in
/-- LentNamesLaw.custom(LLentNames;[J)I -/
theorem c296_0_97 {sc : Nat × Nat} {d  : Nat} {h : xh} (hJ : J h) : X sc 296 (d + 32) (xI fun r h' => J h' ∧ Fr 211106232655547 h h' ∧ (2147483648 ≤ r ∧ r ≤ 2147483649) ∧ (h' 1 1 = 2147483648)) 0 0 0 [x_r 0, x_r 97, 147573952589676412928] [] h := by
  have hF := Fr.refl 211106232655547 h
  refine x_aload (np := 1) (x := 1) (by decide +kernel) rfl (x_nc_le (by decide)) ?_
  refine x_const (np := 2) (x := 9223372039002259456) (a := 2147483648) (by decide +kernel) (by decide) (by decide) ?_
  refine x_aload (np := 3) (x := 0) (by decide +kernel) rfl (x_nc_le (by decide)) ?_
  refine x_cT (t := 6) (mj := 108) (n := 1) (rc := 11) (ml := 2) (cc := 1) (ss := 6) (nr := 2) (np := 6) (as := [x_r 0]) (rest := [iv_c 2147483648, x_r 97]) (lo1 := [x_r 0, 147573952589676412928]) (by decide +kernel) (by decide) (by decide +kernel) (x_rb_of (by decide +kernel)) rfl rfl (x_wr (by decide) x_wn) (x_wi (by decide) (x_wr (by decide) x_wn)) (by decide) rfl (c108_0 hJ ) (fun v1 h4 l2 q3 => ?_) (fun E6 h7 q5 => ?_)
  · obtain ⟨j8, f9, b10, c11⟩ := q3
    have f12 := Fr.trans hF f9 (by decide)
    have b13 := jB (e := 1) 0 j8 rg_1_1_0_1 (by omega) (by omega)
    refine x_i2l (np := 7) (x := 0) (by decide +kernel) l2 ?_
    refine x_last (np := 8) (x := 0) (n := 1) (i := 0) (by decide +kernel) (by decide) (by decide +kernel) (by decide +kernel) (by omega) (by omega) (by decide) l2 ?_
    have j15 := jU (e := 0) (v := v1) 0 j8 rg_97_0_1_1 (by omega) (by omega) (by omega)
    have f17 := jF (e := 0) (v := v1) 0 f12 rg_97_0_1_1 (by omega) (by omega) (by decide)
    generalize e16 : x_up h4 97 0 v1 = h14 at j15 f17 ⊢
    refine x_goto (np := 11) (x := 14) (by decide +kernel) ?_
    refine x_const (np := 15) (x := 9223372039002259456) (a := 2147483648) (by decide +kernel) (by decide) (by decide) ?_
    have q18 : h14 1 1 = h4 1 1 := by rw [← e16]; exact x_up_k (by decide)
    refine x_retI (np := 16) (x := 0) (by decide +kernel) (by decide) (Or.inl (by decide +kernel)) ⟨_, rfl, (by decide), ?_⟩
    exact ⟨j15, f17, (by omega), (by omega)⟩
  obtain ⟨j19, f20, e21, c22⟩ := q5
  have f23 := Fr.trans hF f20 (by decide)
  have b24 := jB (e := 1) 0 j19 rg_1_1_0_1 (by omega) (by omega)
  rcases e21 with rfl
  · refine ⟨11, fun _ _ => rfl, ?_⟩
    refine x_astE (np := 12) (x := 2) (lo' := [x_r 0, x_r 97, 55340232221128654850]) (by decide +kernel) (Nat.le_of_ble_eq_true rfl) rfl ?_
    refine x_const (np := 13) (x := 9223372043297226753) (a := 2147483649) (by decide +kernel) (by decide) (by decide) ?_
    refine x_retI (np := 14) (x := 0) (by decide +kernel) (by decide) (Or.inl (by decide +kernel)) ⟨_, rfl, (by decide), ?_⟩
    exact ⟨j19, f23, (by omega), (by omega)⟩
set_option maxHeartbeats 0 in
/-- LentNamesLaw.purse(LLentNames;II[J)I -/
theorem c297_0_97 {sc : Nat × Nat} {d a1 a2 : Nat} {h : xh} (hJ : J h) (ba1 : 0 ≤ a1 ∧ a1 ≤ 4294967295) (ba2 : 0 ≤ a2 ∧ a2 ≤ 4294967295) : X sc 297 (d + 2) (xI fun r h' => J h' ∧ Fr 70368744177792 h h' ∧ (2147483648 ≤ r ∧ r ≤ 2147483650)) 0 0 0 [x_r 0, iv_c a1, iv_c a2, x_r 97, 147573952589676412928] [] h := by
  have la1 : a1 < 4294967296 := by omega
  have la2 : a2 < 4294967296 := by omega
  have hF := Fr.refl 70368744177792 h
  refine x_aload (np := 1) (x := 3) (by decide +kernel) rfl (x_nc_le (by decide)) ?_
  refine x_const (np := 2) (x := 9223372039002259456) (a := 2147483648) (by decide +kernel) (by decide) (by decide) ?_
  refine x_aload (np := 3) (x := 0) (by decide +kernel) rfl (x_nc_le (by decide)) ?_
  refine x_iload (np := 4) (x := 1) (by decide +kernel) rfl la1 ?_
  refine x_iload (np := 5) (x := 2) (by decide +kernel) rfl la2 ?_
  refine x_cT (t := 6) (mj := 130) (n := 3) (rc := 11) (ml := 4) (cc := 2) (ss := 12) (nr := 2) (np := 8) (as := [x_r 0, iv_c a1, iv_c a2]) (rest := [iv_c 2147483648, x_r 97]) (lo1 := [x_r 0, iv_c a1, iv_c a2, 147573952589676412928]) (by decide +kernel) (by decide) (by decide +kernel) (x_rb_of (by decide +kernel)) rfl rfl (x_wr (by decide) (x_wi la1 (x_wi la2 x_wn))) (x_wi (by decide) (x_wr (by decide) x_wn)) (by decide) rfl (c130_0 hJ  (by omega) (by omega)) (fun v1 h4 l2 q3 => ?_) (fun E6 h7 q5 => ?_)
  · obtain ⟨j8, f9, b10⟩ := q3
    have f11 := Fr.trans hF f9 (by decide)
    refine x_i2l (np := 9) (x := 0) (by decide +kernel) l2 ?_
    refine x_last (np := 10) (x := 0) (n := 1) (i := 0) (by decide +kernel) (by decide) (by decide +kernel) (by decide +kernel) (by omega) (by omega) (by decide) l2 ?_
    have j13 := jU (e := 0) (v := v1) 0 j8 rg_97_0_1_1 (by omega) (by omega) (by omega)
    have f15 := jF (e := 0) (v := v1) 0 f11 rg_97_0_1_1 (by omega) (by omega) (by decide)
    generalize e14 : x_up h4 97 0 v1 = h12 at j13 f15 ⊢
    refine x_goto (np := 13) (x := 21) (by decide +kernel) ?_
    refine x_const (np := 22) (x := 9223372039002259456) (a := 2147483648) (by decide +kernel) (by decide) (by decide) ?_
    refine x_retI (np := 23) (x := 0) (by decide +kernel) (by decide) (Or.inl (by decide +kernel)) ⟨_, rfl, (by decide), ?_⟩
    exact ⟨j13, f15, (by omega)⟩
  obtain ⟨j16, f17, e18⟩ := q5
  have f19 := Fr.trans hF f17 (by decide)
  rcases e18 with rfl | rfl
  · refine ⟨17, fun _ _ => rfl, ?_⟩
    refine x_astE (np := 19) (x := 4) (lo' := [x_r 0, iv_c a1, iv_c a2, x_r 97, 55340232221128654850]) (by decide +kernel) (Nat.le_of_ble_eq_true rfl) rfl ?_
    refine x_const (np := 20) (x := 9223372047592194050) (a := 2147483650) (by decide +kernel) (by decide) (by decide) ?_
    refine x_retI (np := 21) (x := 0) (by decide +kernel) (by decide) (Or.inl (by decide +kernel)) ⟨_, rfl, (by decide), ?_⟩
    exact ⟨j16, f19, (by omega)⟩
  · refine ⟨13, fun _ _ => rfl, ?_⟩
    refine x_astE (np := 15) (x := 4) (lo' := [x_r 0, iv_c a1, iv_c a2, x_r 97, 55340232221128654850]) (by decide +kernel) (Nat.le_of_ble_eq_true rfl) rfl ?_
    refine x_const (np := 16) (x := 9223372043297226753) (a := 2147483649) (by decide +kernel) (by decide) (by decide) ?_
    refine x_retI (np := 17) (x := 0) (by decide +kernel) (by decide) (Or.inl (by decide +kernel)) ⟨_, rfl, (by decide), ?_⟩
    exact ⟨j16, f19, (by omega)⟩
set_option maxHeartbeats 0 in
/-- LentNamesLaw.left(LLentNames;I[J)I -/
theorem c298_0_97 {sc : Nat × Nat} {d a1 : Nat} {h : xh} (hJ : J h) (ba1 : 0 ≤ a1 ∧ a1 ≤ 4294967295) : X sc 298 (d + 5) (xI fun r h' => J h' ∧ Fr 70368744185857 h h' ∧ (2147483648 ≤ r ∧ r ≤ 2147483649)) 0 0 0 [x_r 0, iv_c a1, x_r 97, 147573952589676412928] [] h := by
  have la1 : a1 < 4294967296 := by omega
  have hF := Fr.refl 70368744185857 h
  refine x_aload (np := 1) (x := 2) (by decide +kernel) rfl (x_nc_le (by decide)) ?_
  refine x_const (np := 2) (x := 9223372039002259456) (a := 2147483648) (by decide +kernel) (by decide) (by decide) ?_
  refine x_aload (np := 3) (x := 0) (by decide +kernel) rfl (x_nc_le (by decide)) ?_
  refine x_iload (np := 4) (x := 1) (by decide +kernel) rfl la1 ?_
  refine x_cT (t := 6) (mj := 131) (n := 2) (rc := 11) (ml := 2) (cc := 1) (ss := 6) (nr := 2) (np := 7) (as := [x_r 0, iv_c a1]) (rest := [iv_c 2147483648, x_r 97]) (lo1 := [x_r 0, iv_c a1]) (by decide +kernel) (by decide) (by decide +kernel) (x_rb_of (by decide +kernel)) rfl rfl (x_wr (by decide) (x_wi la1 x_wn)) (x_wi (by decide) (x_wr (by decide) x_wn)) (by decide) rfl (c131_0 hJ  (by omega)) (fun v1 h4 l2 q3 => ?_) (fun E6 h7 q5 => ?_)
  · obtain ⟨j8, f9, b10⟩ := q3
    have f11 := Fr.trans hF f9 (by decide)
    refine x_i2l (np := 8) (x := 0) (by decide +kernel) l2 ?_
    refine x_last (np := 9) (x := 0) (n := 1) (i := 0) (by decide +kernel) (by decide) (by decide +kernel) (by decide +kernel) (by omega) (by omega) (by decide) l2 ?_
    have j13 := jU (e := 0) (v := v1) 0 j8 rg_97_0_1_1 (by omega) (by omega) (by omega)
    have f15 := jF (e := 0) (v := v1) 0 f11 rg_97_0_1_1 (by omega) (by omega) (by decide)
    generalize e14 : x_up h4 97 0 v1 = h12 at j13 f15 ⊢
    refine x_goto (np := 12) (x := 15) (by decide +kernel) ?_
    refine x_const (np := 16) (x := 9223372039002259456) (a := 2147483648) (by decide +kernel) (by decide) (by decide) ?_
    refine x_retI (np := 17) (x := 0) (by decide +kernel) (by decide) (Or.inl (by decide +kernel)) ⟨_, rfl, (by decide), ?_⟩
    exact ⟨j13, f15, (by omega)⟩
  obtain ⟨j16, f17, e18⟩ := q5
  have f19 := Fr.trans hF f17 (by decide)
  rcases e18 with rfl
  · refine ⟨12, fun _ _ => rfl, ?_⟩
    refine x_astE (np := 13) (x := 3) (lo' := [x_r 0, iv_c a1, x_r 97, 55340232221128654850]) (by decide +kernel) (Nat.le_of_ble_eq_true rfl) rfl ?_
    refine x_const (np := 14) (x := 9223372043297226753) (a := 2147483649) (by decide +kernel) (by decide) (by decide) ?_
    refine x_retI (np := 15) (x := 0) (by decide +kernel) (by decide) (Or.inl (by decide +kernel)) ⟨_, rfl, (by decide), ?_⟩
    exact ⟨j16, f19, (by omega)⟩
set_option maxHeartbeats 0 in
/-- LentNamesLaw.meets(LLentNames;I[J)I -/
theorem c299_0_97 {sc : Nat × Nat} {d a1 : Nat} {h : xh} (hJ : J h) (ba1 : 0 ≤ a1 ∧ a1 ≤ 4294967295) : X sc 299 (d + 5) (xI fun r h' => J h' ∧ Fr 70368744185857 h h' ∧ (2147483648 ≤ r ∧ r ≤ 2147483649)) 0 0 0 [x_r 0, iv_c a1, x_r 97, 147573952589676412928] [] h := by
  have la1 : a1 < 4294967296 := by omega
  have hF := Fr.refl 70368744185857 h
  refine x_aload (np := 1) (x := 2) (by decide +kernel) rfl (x_nc_le (by decide)) ?_
  refine x_const (np := 2) (x := 9223372039002259456) (a := 2147483648) (by decide +kernel) (by decide) (by decide) ?_
  refine x_aload (np := 3) (x := 0) (by decide +kernel) rfl (x_nc_le (by decide)) ?_
  refine x_iload (np := 4) (x := 1) (by decide +kernel) rfl la1 ?_
  refine x_cT (t := 6) (mj := 133) (n := 2) (rc := 11) (ml := 7) (cc := 1) (ss := 6) (nr := 2) (np := 7) (as := [x_r 0, iv_c a1]) (rest := [iv_c 2147483648, x_r 97]) (lo1 := [x_r 0, iv_c a1, 147573952589676412928, 147573952589676412928, 147573952589676412928, 147573952589676412928, 147573952589676412928]) (by decide +kernel) (by decide) (by decide +kernel) (x_rb_of (by decide +kernel)) rfl rfl (x_wr (by decide) (x_wi la1 x_wn)) (x_wi (by decide) (x_wr (by decide) x_wn)) (by decide) rfl (c133_0 hJ  (by omega)) (fun v1 h4 l2 q3 => ?_) (fun E6 h7 q5 => ?_)
  · obtain ⟨j8, f9, b10⟩ := q3
    have f11 := Fr.trans hF f9 (by decide)
    refine x_i2l (np := 8) (x := 0) (by decide +kernel) l2 ?_
    refine x_last (np := 9) (x := 0) (n := 1) (i := 0) (by decide +kernel) (by decide) (by decide +kernel) (by decide +kernel) (by omega) (by omega) (by decide) l2 ?_
    have j13 := jU (e := 0) (v := v1) 0 j8 rg_97_0_1_1 (by omega) (by omega) (by omega)
    have f15 := jF (e := 0) (v := v1) 0 f11 rg_97_0_1_1 (by omega) (by omega) (by decide)
    generalize e14 : x_up h4 97 0 v1 = h12 at j13 f15 ⊢
    refine x_goto (np := 12) (x := 15) (by decide +kernel) ?_
    refine x_const (np := 16) (x := 9223372039002259456) (a := 2147483648) (by decide +kernel) (by decide) (by decide) ?_
    refine x_retI (np := 17) (x := 0) (by decide +kernel) (by decide) (Or.inl (by decide +kernel)) ⟨_, rfl, (by decide), ?_⟩
    exact ⟨j13, f15, (by omega)⟩
  obtain ⟨j16, f17, e18⟩ := q5
  have f19 := Fr.trans hF f17 (by decide)
  rcases e18 with rfl
  · refine ⟨12, fun _ _ => rfl, ?_⟩
    refine x_astE (np := 13) (x := 3) (lo' := [x_r 0, iv_c a1, x_r 97, 55340232221128654850]) (by decide +kernel) (Nat.le_of_ble_eq_true rfl) rfl ?_
    refine x_const (np := 14) (x := 9223372043297226753) (a := 2147483649) (by decide +kernel) (by decide) (by decide) ?_
    refine x_retI (np := 15) (x := 0) (by decide +kernel) (by decide) (Or.inl (by decide +kernel)) ⟨_, rfl, (by decide), ?_⟩
    exact ⟨j16, f19, (by omega)⟩
set_option maxHeartbeats 0 in
/-- LentNamesLaw.way(LLentNames;IZ[J)I -/
theorem c300_0_97 {sc : Nat × Nat} {d a1 a2 : Nat} {h : xh} (hJ : J h) (ba1 : 0 ≤ a1 ∧ a1 ≤ 4294967295) (ba2 : 2147483648 ≤ a2 ∧ a2 ≤ 2147483649) : X sc 300 (d + 4) (xI fun r h' => J h' ∧ Fr 70368744177664 h h' ∧ (2147483648 ≤ r ∧ r ≤ 2147483649)) 0 0 0 [x_r 0, iv_c a1, iv_c a2, x_r 97, 147573952589676412928] [] h := by
  have la1 : a1 < 4294967296 := by omega
  have la2 : a2 < 4294967296 := by omega
  have hF := Fr.refl 70368744177664 h
  refine x_aload (np := 1) (x := 3) (by decide +kernel) rfl (x_nc_le (by decide)) ?_
  refine x_const (np := 2) (x := 9223372039002259456) (a := 2147483648) (by decide +kernel) (by decide) (by decide) ?_
  refine x_aload (np := 3) (x := 0) (by decide +kernel) rfl (x_nc_le (by decide)) ?_
  refine x_iload (np := 4) (x := 1) (by decide +kernel) rfl la1 ?_
  refine x_iload (np := 5) (x := 2) (by decide +kernel) rfl la2 ?_
  refine x_cT (t := 6) (mj := 120) (n := 3) (rc := 11) (ml := 5) (cc := 1) (ss := 6) (nr := 2) (np := 8) (as := [x_r 0, iv_c a1, iv_c a2]) (rest := [iv_c 2147483648, x_r 97]) (lo1 := [x_r 0, iv_c a1, iv_c a2, 147573952589676412928, 147573952589676412928]) (by decide +kernel) (by decide) (by decide +kernel) (x_rb_of (by decide +kernel)) rfl rfl (x_wr (by decide) (x_wi la1 (x_wi la2 x_wn))) (x_wi (by decide) (x_wr (by decide) x_wn)) (by decide) rfl (c120_0 hJ  (by omega) (by omega)) (fun v1 h4 l2 q3 => ?_) (fun E6 h7 q5 => ?_)
  · obtain ⟨j8, f9, b10⟩ := q3
    have f11 := Fr.trans hF f9 (by decide)
    refine x_i2l (np := 9) (x := 0) (by decide +kernel) l2 ?_
    refine x_last (np := 10) (x := 0) (n := 1) (i := 0) (by decide +kernel) (by decide) (by decide +kernel) (by decide +kernel) (by omega) (by omega) (by decide) l2 ?_
    have j13 := jU (e := 0) (v := v1) 0 j8 rg_97_0_1_1 (by omega) (by omega) (by omega)
    have f15 := jF (e := 0) (v := v1) 0 f11 rg_97_0_1_1 (by omega) (by omega) (by decide)
    generalize e14 : x_up h4 97 0 v1 = h12 at j13 f15 ⊢
    refine x_goto (np := 13) (x := 17) (by decide +kernel) ?_
    refine x_const (np := 18) (x := 9223372039002259456) (a := 2147483648) (by decide +kernel) (by decide) (by decide) ?_
    refine x_retI (np := 19) (x := 0) (by decide +kernel) (by decide) (Or.inl (by decide +kernel)) ⟨_, rfl, (by decide), ?_⟩
    exact ⟨j13, f15, (by omega)⟩
  obtain ⟨j16, f17, e18⟩ := q5
  have f19 := Fr.trans hF f17 (by decide)
  rcases e18 with rfl
  · refine ⟨13, fun _ _ => rfl, ?_⟩
    refine x_astE (np := 15) (x := 4) (lo' := [x_r 0, iv_c a1, iv_c a2, x_r 97, 55340232221128654850]) (by decide +kernel) (Nat.le_of_ble_eq_true rfl) rfl ?_
    refine x_const (np := 16) (x := 9223372043297226753) (a := 2147483649) (by decide +kernel) (by decide) (by decide) ?_
    refine x_retI (np := 17) (x := 0) (by decide +kernel) (by decide) (Or.inl (by decide +kernel)) ⟨_, rfl, (by decide), ?_⟩
    exact ⟨j16, f19, (by omega)⟩
set_option maxHeartbeats 0 in
/-- LentNamesLaw.wish(LLentNames;II[J)I -/
theorem c301_0_97 {sc : Nat × Nat} {d a1 a2 : Nat} {h : xh} (hJ : J h) (ba1 : 0 ≤ a1 ∧ a1 ≤ 4294967295) (ba2 : 0 ≤ a2 ∧ a2 ≤ 4294967295) : X sc 301 (d + 2) (xI fun r h' => J h' ∧ Fr 70368744210561 h h' ∧ (2147483648 ≤ r ∧ r ≤ 2147483649)) 0 0 0 [x_r 0, iv_c a1, iv_c a2, x_r 97, 147573952589676412928] [] h := by
  have la1 : a1 < 4294967296 := by omega
  have la2 : a2 < 4294967296 := by omega
  have hF := Fr.refl 70368744210561 h
  refine x_aload (np := 1) (x := 3) (by decide +kernel) rfl (x_nc_le (by decide)) ?_
  refine x_const (np := 2) (x := 9223372039002259456) (a := 2147483648) (by decide +kernel) (by decide) (by decide) ?_
  refine x_aload (np := 3) (x := 0) (by decide +kernel) rfl (x_nc_le (by decide)) ?_
  refine x_iload (np := 4) (x := 1) (by decide +kernel) rfl la1 ?_
  refine x_iload (np := 5) (x := 2) (by decide +kernel) rfl la2 ?_
  refine x_cT (t := 6) (mj := 125) (n := 3) (rc := 11) (ml := 4) (cc := 2) (ss := 12) (nr := 2) (np := 8) (as := [x_r 0, iv_c a1, iv_c a2]) (rest := [iv_c 2147483648, x_r 97]) (lo1 := [x_r 0, iv_c a1, iv_c a2, 147573952589676412928]) (by decide +kernel) (by decide) (by decide +kernel) (x_rb_of (by decide +kernel)) rfl rfl (x_wr (by decide) (x_wi la1 (x_wi la2 x_wn))) (x_wi (by decide) (x_wr (by decide) x_wn)) (by decide) rfl (c125_0 hJ  (by omega) (by omega)) (fun v1 h4 l2 q3 => ?_) (fun E6 h7 q5 => ?_)
  · obtain ⟨j8, f9, b10⟩ := q3
    have f11 := Fr.trans hF f9 (by decide)
    refine x_i2l (np := 9) (x := 0) (by decide +kernel) l2 ?_
    refine x_last (np := 10) (x := 0) (n := 1) (i := 0) (by decide +kernel) (by decide) (by decide +kernel) (by decide +kernel) (by omega) (by omega) (by decide) l2 ?_
    have j13 := jU (e := 0) (v := v1) 0 j8 rg_97_0_1_1 (by omega) (by omega) (by omega)
    have f15 := jF (e := 0) (v := v1) 0 f11 rg_97_0_1_1 (by omega) (by omega) (by decide)
    generalize e14 : x_up h4 97 0 v1 = h12 at j13 f15 ⊢
    refine x_goto (np := 13) (x := 17) (by decide +kernel) ?_
    refine x_const (np := 18) (x := 9223372039002259456) (a := 2147483648) (by decide +kernel) (by decide) (by decide) ?_
    refine x_retI (np := 19) (x := 0) (by decide +kernel) (by decide) (Or.inl (by decide +kernel)) ⟨_, rfl, (by decide), ?_⟩
    exact ⟨j13, f15, (by omega)⟩
  obtain ⟨j16, f17, e18⟩ := q5
  have f19 := Fr.trans hF f17 (by decide)
  rcases e18 with rfl
  · refine ⟨13, fun _ _ => rfl, ?_⟩
    refine x_astE (np := 15) (x := 4) (lo' := [x_r 0, iv_c a1, iv_c a2, x_r 97, 55340232221128654850]) (by decide +kernel) (Nat.le_of_ble_eq_true rfl) rfl ?_
    refine x_const (np := 16) (x := 9223372043297226753) (a := 2147483649) (by decide +kernel) (by decide) (by decide) ?_
    refine x_retI (np := 17) (x := 0) (by decide +kernel) (by decide) (Or.inl (by decide +kernel)) ⟨_, rfl, (by decide), ?_⟩
    exact ⟨j16, f19, (by omega)⟩
set_option maxHeartbeats 0 in
/-- LentNamesLaw.plan(LLentNames;II[J)I -/
theorem c302_0_97 {sc : Nat × Nat} {d a1 a2 : Nat} {h : xh} (hJ : J h) (ba1 : 0 ≤ a1 ∧ a1 ≤ 4294967295) (ba2 : 0 ≤ a2 ∧ a2 ≤ 4294967295) : X sc 302 (d + 26) (xI fun r h' => J h' ∧ Fr 70368744210433 h h' ∧ (2147483648 ≤ r ∧ r ≤ 2147483649)) 0 0 0 [x_r 0, iv_c a1, iv_c a2, x_r 97, 147573952589676412928] [] h := by
  have la1 : a1 < 4294967296 := by omega
  have la2 : a2 < 4294967296 := by omega
  have hF := Fr.refl 70368744210433 h
  refine x_aload (np := 1) (x := 3) (by decide +kernel) rfl (x_nc_le (by decide)) ?_
  refine x_const (np := 2) (x := 9223372039002259456) (a := 2147483648) (by decide +kernel) (by decide) (by decide) ?_
  refine x_aload (np := 3) (x := 0) (by decide +kernel) rfl (x_nc_le (by decide)) ?_
  refine x_iload (np := 4) (x := 1) (by decide +kernel) rfl la1 ?_
  refine x_iload (np := 5) (x := 2) (by decide +kernel) rfl la2 ?_
  refine x_cT (t := 6) (mj := 127) (n := 3) (rc := 11) (ml := 3) (cc := 1) (ss := 6) (nr := 2) (np := 8) (as := [x_r 0, iv_c a1, iv_c a2]) (rest := [iv_c 2147483648, x_r 97]) (lo1 := [x_r 0, iv_c a1, iv_c a2]) (by decide +kernel) (by decide) (by decide +kernel) (x_rb_of (by decide +kernel)) rfl rfl (x_wr (by decide) (x_wi la1 (x_wi la2 x_wn))) (x_wi (by decide) (x_wr (by decide) x_wn)) (by decide) rfl (c127_0 hJ  (by omega) (by omega)) (fun v1 h4 l2 q3 => ?_) (fun E6 h7 q5 => ?_)
  · obtain ⟨j8, f9, b10⟩ := q3
    have f11 := Fr.trans hF f9 (by decide)
    refine x_i2l (np := 9) (x := 0) (by decide +kernel) l2 ?_
    refine x_last (np := 10) (x := 0) (n := 1) (i := 0) (by decide +kernel) (by decide) (by decide +kernel) (by decide +kernel) (by omega) (by omega) (by decide) l2 ?_
    have j13 := jU (e := 0) (v := v1) 0 j8 rg_97_0_1_1 (by omega) (by omega) (by omega)
    have f15 := jF (e := 0) (v := v1) 0 f11 rg_97_0_1_1 (by omega) (by omega) (by decide)
    generalize e14 : x_up h4 97 0 v1 = h12 at j13 f15 ⊢
    refine x_goto (np := 13) (x := 17) (by decide +kernel) ?_
    refine x_const (np := 18) (x := 9223372039002259456) (a := 2147483648) (by decide +kernel) (by decide) (by decide) ?_
    refine x_retI (np := 19) (x := 0) (by decide +kernel) (by decide) (Or.inl (by decide +kernel)) ⟨_, rfl, (by decide), ?_⟩
    exact ⟨j13, f15, (by omega)⟩
  obtain ⟨j16, f17, e18⟩ := q5
  have f19 := Fr.trans hF f17 (by decide)
  rcases e18 with rfl
  · refine ⟨13, fun _ _ => rfl, ?_⟩
    refine x_astE (np := 15) (x := 4) (lo' := [x_r 0, iv_c a1, iv_c a2, x_r 97, 55340232221128654850]) (by decide +kernel) (Nat.le_of_ble_eq_true rfl) rfl ?_
    refine x_const (np := 16) (x := 9223372043297226753) (a := 2147483649) (by decide +kernel) (by decide) (by decide) ?_
    refine x_retI (np := 17) (x := 0) (by decide +kernel) (by decide) (Or.inl (by decide +kernel)) ⟨_, rfl, (by decide), ?_⟩
    exact ⟨j16, f19, (by omega)⟩
set_option maxHeartbeats 0 in
/-- LentNamesLaw.can(LLentNames;I[J)I -/
theorem c303_0_97 {sc : Nat × Nat} {d a1 : Nat} {h : xh} (hJ : J h) (ba1 : 0 ≤ a1 ∧ a1 ≤ 4294967295) : X sc 303 (d + 2) (xI fun r h' => J h' ∧ Fr 70368744177664 h h' ∧ (2147483648 ≤ r ∧ r ≤ 2147483649)) 0 0 0 [x_r 0, iv_c a1, x_r 97, 147573952589676412928] [] h := by
  have la1 : a1 < 4294967296 := by omega
  have hF := Fr.refl 70368744177664 h
  refine x_aload (np := 1) (x := 2) (by decide +kernel) rfl (x_nc_le (by decide)) ?_
  refine x_const (np := 2) (x := 9223372039002259456) (a := 2147483648) (by decide +kernel) (by decide) (by decide) ?_
  refine x_aload (np := 3) (x := 0) (by decide +kernel) rfl (x_nc_le (by decide)) ?_
  refine x_iload (np := 4) (x := 1) (by decide +kernel) rfl la1 ?_
  refine x_cT (t := 6) (mj := 135) (n := 2) (rc := 11) (ml := 6) (cc := 1) (ss := 6) (nr := 2) (np := 7) (as := [x_r 0, iv_c a1]) (rest := [iv_c 2147483648, x_r 97]) (lo1 := [x_r 0, iv_c a1, 147573952589676412928, 147573952589676412928, 147573952589676412928, 147573952589676412928]) (by decide +kernel) (by decide) (by decide +kernel) (x_rb_of (by decide +kernel)) rfl rfl (x_wr (by decide) (x_wi la1 x_wn)) (x_wi (by decide) (x_wr (by decide) x_wn)) (by decide) rfl (c135_0 hJ  (by omega)) (fun v1 h4 l2 q3 => ?_) (fun E6 h7 q5 => ?_)
  · obtain ⟨j8, f9, b10⟩ := q3
    have f11 := Fr.trans hF f9 (by decide)
    refine x_i2l (np := 8) (x := 0) (by decide +kernel) l2 ?_
    refine x_last (np := 9) (x := 0) (n := 1) (i := 0) (by decide +kernel) (by decide) (by decide +kernel) (by decide +kernel) (by omega) (by omega) (by decide) l2 ?_
    have j13 := jU (e := 0) (v := v1) 0 j8 rg_97_0_1_1 (by omega) (by omega) (by omega)
    have f15 := jF (e := 0) (v := v1) 0 f11 rg_97_0_1_1 (by omega) (by omega) (by decide)
    generalize e14 : x_up h4 97 0 v1 = h12 at j13 f15 ⊢
    refine x_goto (np := 12) (x := 15) (by decide +kernel) ?_
    refine x_const (np := 16) (x := 9223372039002259456) (a := 2147483648) (by decide +kernel) (by decide) (by decide) ?_
    refine x_retI (np := 17) (x := 0) (by decide +kernel) (by decide) (Or.inl (by decide +kernel)) ⟨_, rfl, (by decide), ?_⟩
    exact ⟨j13, f15, (by omega)⟩
  obtain ⟨j16, f17, e18⟩ := q5
  have f19 := Fr.trans hF f17 (by decide)
  rcases e18 with rfl
  · refine ⟨12, fun _ _ => rfl, ?_⟩
    refine x_astE (np := 13) (x := 3) (lo' := [x_r 0, iv_c a1, x_r 97, 55340232221128654850]) (by decide +kernel) (Nat.le_of_ble_eq_true rfl) rfl ?_
    refine x_const (np := 14) (x := 9223372043297226753) (a := 2147483649) (by decide +kernel) (by decide) (by decide) ?_
    refine x_retI (np := 15) (x := 0) (by decide +kernel) (by decide) (Or.inl (by decide +kernel)) ⟨_, rfl, (by decide), ?_⟩
    exact ⟨j16, f19, (by omega)⟩
set_option maxHeartbeats 0 in
/-- LentNamesLaw.secrets(LLentNames;II[J)I -/
theorem c304_0_97 {sc : Nat × Nat} {d a1 a2 : Nat} {h : xh} (hJ : J h) (ba1 : 0 ≤ a1 ∧ a1 ≤ 4294967295) (ba2 : 0 ≤ a2 ∧ a2 ≤ 4294967295) : X sc 304 (d + 26) (xI fun r h' => J h' ∧ Fr 70368744243201 h h' ∧ (2147483648 ≤ r ∧ r ≤ 2147483650)) 0 0 0 [x_r 0, iv_c a1, iv_c a2, x_r 97, 147573952589676412928] [] h := by
  have la1 : a1 < 4294967296 := by omega
  have la2 : a2 < 4294967296 := by omega
  have hF := Fr.refl 70368744243201 h
  refine x_aload (np := 1) (x := 3) (by decide +kernel) rfl (x_nc_le (by decide)) ?_
  refine x_const (np := 2) (x := 9223372039002259456) (a := 2147483648) (by decide +kernel) (by decide) (by decide) ?_
  refine x_aload (np := 3) (x := 0) (by decide +kernel) rfl (x_nc_le (by decide)) ?_
  refine x_iload (np := 4) (x := 1) (by decide +kernel) rfl la1 ?_
  refine x_iload (np := 5) (x := 2) (by decide +kernel) rfl la2 ?_
  refine x_cT (t := 6) (mj := 136) (n := 3) (rc := 11) (ml := 3) (cc := 2) (ss := 12) (nr := 2) (np := 8) (as := [x_r 0, iv_c a1, iv_c a2]) (rest := [iv_c 2147483648, x_r 97]) (lo1 := [x_r 0, iv_c a1, iv_c a2]) (by decide +kernel) (by decide) (by decide +kernel) (x_rb_of (by decide +kernel)) rfl rfl (x_wr (by decide) (x_wi la1 (x_wi la2 x_wn))) (x_wi (by decide) (x_wr (by decide) x_wn)) (by decide) rfl (c136_0 hJ  (by omega) (by omega)) (fun v1 h4 l2 q3 => ?_) (fun E6 h7 q5 => ?_)
  · obtain ⟨j8, f9, b10⟩ := q3
    have f11 := Fr.trans hF f9 (by decide)
    refine x_i2l (np := 9) (x := 0) (by decide +kernel) l2 ?_
    refine x_last (np := 10) (x := 0) (n := 1) (i := 0) (by decide +kernel) (by decide) (by decide +kernel) (by decide +kernel) (by omega) (by omega) (by decide) l2 ?_
    have j13 := jU (e := 0) (v := v1) 0 j8 rg_97_0_1_1 (by omega) (by omega) (by omega)
    have f15 := jF (e := 0) (v := v1) 0 f11 rg_97_0_1_1 (by omega) (by omega) (by decide)
    generalize e14 : x_up h4 97 0 v1 = h12 at j13 f15 ⊢
    refine x_goto (np := 13) (x := 21) (by decide +kernel) ?_
    refine x_const (np := 22) (x := 9223372039002259456) (a := 2147483648) (by decide +kernel) (by decide) (by decide) ?_
    refine x_retI (np := 23) (x := 0) (by decide +kernel) (by decide) (Or.inl (by decide +kernel)) ⟨_, rfl, (by decide), ?_⟩
    exact ⟨j13, f15, (by omega)⟩
  obtain ⟨j16, f17, e18⟩ := q5
  have f19 := Fr.trans hF f17 (by decide)
  rcases e18 with rfl | rfl
  · refine ⟨17, fun _ _ => rfl, ?_⟩
    refine x_astE (np := 19) (x := 4) (lo' := [x_r 0, iv_c a1, iv_c a2, x_r 97, 55340232221128654850]) (by decide +kernel) (Nat.le_of_ble_eq_true rfl) rfl ?_
    refine x_const (np := 20) (x := 9223372047592194050) (a := 2147483650) (by decide +kernel) (by decide) (by decide) ?_
    refine x_retI (np := 21) (x := 0) (by decide +kernel) (by decide) (Or.inl (by decide +kernel)) ⟨_, rfl, (by decide), ?_⟩
    exact ⟨j16, f19, (by omega)⟩
  · refine ⟨13, fun _ _ => rfl, ?_⟩
    refine x_astE (np := 15) (x := 4) (lo' := [x_r 0, iv_c a1, iv_c a2, x_r 97, 55340232221128654850]) (by decide +kernel) (Nat.le_of_ble_eq_true rfl) rfl ?_
    refine x_const (np := 16) (x := 9223372043297226753) (a := 2147483649) (by decide +kernel) (by decide) (by decide) ?_
    refine x_retI (np := 17) (x := 0) (by decide +kernel) (by decide) (Or.inl (by decide +kernel)) ⟨_, rfl, (by decide), ?_⟩
    exact ⟨j16, f19, (by omega)⟩
set_option maxHeartbeats 0 in
/-- LentNamesLaw.liars(LLentNames;I[J)I -/
theorem c305_0_97 {sc : Nat × Nat} {d a1 : Nat} {h : xh} (hJ : J h) (ba1 : 0 ≤ a1 ∧ a1 ≤ 4294967295) : X sc 305 (d + 5) (xI fun r h' => J h' ∧ Fr 70368744177664 h h' ∧ (2147483648 ≤ r ∧ r ≤ 2147483649)) 0 0 0 [x_r 0, iv_c a1, x_r 97, 147573952589676412928] [] h := by
  have la1 : a1 < 4294967296 := by omega
  have hF := Fr.refl 70368744177664 h
  refine x_aload (np := 1) (x := 2) (by decide +kernel) rfl (x_nc_le (by decide)) ?_
  refine x_const (np := 2) (x := 9223372039002259456) (a := 2147483648) (by decide +kernel) (by decide) (by decide) ?_
  refine x_aload (np := 3) (x := 0) (by decide +kernel) rfl (x_nc_le (by decide)) ?_
  refine x_iload (np := 4) (x := 1) (by decide +kernel) rfl la1 ?_
  refine x_cT (t := 6) (mj := 137) (n := 2) (rc := 11) (ml := 6) (cc := 1) (ss := 6) (nr := 2) (np := 7) (as := [x_r 0, iv_c a1]) (rest := [iv_c 2147483648, x_r 97]) (lo1 := [x_r 0, iv_c a1, 147573952589676412928, 147573952589676412928, 147573952589676412928, 147573952589676412928]) (by decide +kernel) (by decide) (by decide +kernel) (x_rb_of (by decide +kernel)) rfl rfl (x_wr (by decide) (x_wi la1 x_wn)) (x_wi (by decide) (x_wr (by decide) x_wn)) (by decide) rfl (c137_0 hJ  (by omega)) (fun v1 h4 l2 q3 => ?_) (fun E6 h7 q5 => ?_)
  · obtain ⟨j8, f9, b10⟩ := q3
    have f11 := Fr.trans hF f9 (by decide)
    refine x_i2l (np := 8) (x := 0) (by decide +kernel) l2 ?_
    refine x_last (np := 9) (x := 0) (n := 1) (i := 0) (by decide +kernel) (by decide) (by decide +kernel) (by decide +kernel) (by omega) (by omega) (by decide) l2 ?_
    have j13 := jU (e := 0) (v := v1) 0 j8 rg_97_0_1_1 (by omega) (by omega) (by omega)
    have f15 := jF (e := 0) (v := v1) 0 f11 rg_97_0_1_1 (by omega) (by omega) (by decide)
    generalize e14 : x_up h4 97 0 v1 = h12 at j13 f15 ⊢
    refine x_goto (np := 12) (x := 15) (by decide +kernel) ?_
    refine x_const (np := 16) (x := 9223372039002259456) (a := 2147483648) (by decide +kernel) (by decide) (by decide) ?_
    refine x_retI (np := 17) (x := 0) (by decide +kernel) (by decide) (Or.inl (by decide +kernel)) ⟨_, rfl, (by decide), ?_⟩
    exact ⟨j13, f15, (by omega)⟩
  obtain ⟨j16, f17, e18⟩ := q5
  have f19 := Fr.trans hF f17 (by decide)
  rcases e18 with rfl
  · refine ⟨12, fun _ _ => rfl, ?_⟩
    refine x_astE (np := 13) (x := 3) (lo' := [x_r 0, iv_c a1, x_r 97, 55340232221128654850]) (by decide +kernel) (Nat.le_of_ble_eq_true rfl) rfl ?_
    refine x_const (np := 14) (x := 9223372043297226753) (a := 2147483649) (by decide +kernel) (by decide) (by decide) ?_
    refine x_retI (np := 15) (x := 0) (by decide +kernel) (by decide) (Or.inl (by decide +kernel)) ⟨_, rfl, (by decide), ?_⟩
    exact ⟨j16, f19, (by omega)⟩
set_option maxHeartbeats 0 in
/-- LentNamesLaw.rich(LLentNames;I[J)I -/
theorem c306_0_97 {sc : Nat × Nat} {d a1 : Nat} {h : xh} (hJ : J h) (ba1 : 0 ≤ a1 ∧ a1 ≤ 4294967295) : X sc 306 (d + 4) (xI fun r h' => J h' ∧ Fr 70368744177664 h h' ∧ (2147483648 ≤ r ∧ r ≤ 2147483649)) 0 0 0 [x_r 0, iv_c a1, x_r 97, 147573952589676412928] [] h := by
  have la1 : a1 < 4294967296 := by omega
  have hF := Fr.refl 70368744177664 h
  refine x_aload (np := 1) (x := 2) (by decide +kernel) rfl (x_nc_le (by decide)) ?_
  refine x_const (np := 2) (x := 9223372039002259456) (a := 2147483648) (by decide +kernel) (by decide) (by decide) ?_
  refine x_aload (np := 3) (x := 0) (by decide +kernel) rfl (x_nc_le (by decide)) ?_
  refine x_iload (np := 4) (x := 1) (by decide +kernel) rfl la1 ?_
  refine x_cT (t := 6) (mj := 117) (n := 2) (rc := 11) (ml := 4) (cc := 1) (ss := 6) (nr := 2) (np := 7) (as := [x_r 0, iv_c a1]) (rest := [iv_c 2147483648, x_r 97]) (lo1 := [x_r 0, iv_c a1, 147573952589676412928, 147573952589676412928]) (by decide +kernel) (by decide) (by decide +kernel) (x_rb_of (by decide +kernel)) rfl rfl (x_wr (by decide) (x_wi la1 x_wn)) (x_wi (by decide) (x_wr (by decide) x_wn)) (by decide) rfl (c117_0 hJ  (by omega)) (fun v1 h4 l2 q3 => ?_) (fun E6 h7 q5 => ?_)
  · obtain ⟨j8, f9, b10⟩ := q3
    have f11 := Fr.trans hF f9 (by decide)
    refine x_i2l (np := 8) (x := 0) (by decide +kernel) l2 ?_
    refine x_last (np := 9) (x := 0) (n := 1) (i := 0) (by decide +kernel) (by decide) (by decide +kernel) (by decide +kernel) (by omega) (by omega) (by decide) l2 ?_
    have j13 := jU (e := 0) (v := v1) 0 j8 rg_97_0_1_1 (by omega) (by omega) (by omega)
    have f15 := jF (e := 0) (v := v1) 0 f11 rg_97_0_1_1 (by omega) (by omega) (by decide)
    generalize e14 : x_up h4 97 0 v1 = h12 at j13 f15 ⊢
    refine x_goto (np := 12) (x := 15) (by decide +kernel) ?_
    refine x_const (np := 16) (x := 9223372039002259456) (a := 2147483648) (by decide +kernel) (by decide) (by decide) ?_
    refine x_retI (np := 17) (x := 0) (by decide +kernel) (by decide) (Or.inl (by decide +kernel)) ⟨_, rfl, (by decide), ?_⟩
    exact ⟨j13, f15, (by omega)⟩
  obtain ⟨j16, f17, e18⟩ := q5
  have f19 := Fr.trans hF f17 (by decide)
  rcases e18 with rfl
  · refine ⟨12, fun _ _ => rfl, ?_⟩
    refine x_astE (np := 13) (x := 3) (lo' := [x_r 0, iv_c a1, x_r 97, 55340232221128654850]) (by decide +kernel) (Nat.le_of_ble_eq_true rfl) rfl ?_
    refine x_const (np := 14) (x := 9223372043297226753) (a := 2147483649) (by decide +kernel) (by decide) (by decide) ?_
    refine x_retI (np := 15) (x := 0) (by decide +kernel) (by decide) (Or.inl (by decide +kernel)) ⟨_, rfl, (by decide), ?_⟩
    exact ⟨j16, f19, (by omega)⟩
set_option maxHeartbeats 0 in
/-- LentNamesLaw.borne(LLentNames;II[J)I -/
theorem c307_0_97 {sc : Nat × Nat} {d a1 a2 : Nat} {h : xh} (hJ : J h) (ba1 : 0 ≤ a1 ∧ a1 ≤ 4294967295) (ba2 : 0 ≤ a2 ∧ a2 ≤ 4294967295) : X sc 307 (d + 2) (xI fun r h' => J h' ∧ Fr 70368744177664 h h' ∧ (2147483648 ≤ r ∧ r ≤ 2147483649)) 0 0 0 [x_r 0, iv_c a1, iv_c a2, x_r 97, 147573952589676412928] [] h := by
  have la1 : a1 < 4294967296 := by omega
  have la2 : a2 < 4294967296 := by omega
  have hF := Fr.refl 70368744177664 h
  refine x_aload (np := 1) (x := 3) (by decide +kernel) rfl (x_nc_le (by decide)) ?_
  refine x_const (np := 2) (x := 9223372039002259456) (a := 2147483648) (by decide +kernel) (by decide) (by decide) ?_
  refine x_aload (np := 3) (x := 0) (by decide +kernel) rfl (x_nc_le (by decide)) ?_
  refine x_iload (np := 4) (x := 1) (by decide +kernel) rfl la1 ?_
  refine x_iload (np := 5) (x := 2) (by decide +kernel) rfl la2 ?_
  refine x_cT (t := 6) (mj := 118) (n := 3) (rc := 11) (ml := 3) (cc := 2) (ss := 12) (nr := 2) (np := 8) (as := [x_r 0, iv_c a1, iv_c a2]) (rest := [iv_c 2147483648, x_r 97]) (lo1 := [x_r 0, iv_c a1, iv_c a2]) (by decide +kernel) (by decide) (by decide +kernel) (x_rb_of (by decide +kernel)) rfl rfl (x_wr (by decide) (x_wi la1 (x_wi la2 x_wn))) (x_wi (by decide) (x_wr (by decide) x_wn)) (by decide) rfl (c118_0 hJ  (by omega) (by omega)) (fun v1 h4 l2 q3 => ?_) (fun E6 h7 q5 => ?_)
  · obtain ⟨j8, f9, b10⟩ := q3
    have f11 := Fr.trans hF f9 (by decide)
    refine x_i2l (np := 9) (x := 0) (by decide +kernel) l2 ?_
    refine x_last (np := 10) (x := 0) (n := 1) (i := 0) (by decide +kernel) (by decide) (by decide +kernel) (by decide +kernel) (by omega) (by omega) (by decide) l2 ?_
    have j13 := jU (e := 0) (v := v1) 0 j8 rg_97_0_1_1 (by omega) (by omega) (by omega)
    have f15 := jF (e := 0) (v := v1) 0 f11 rg_97_0_1_1 (by omega) (by omega) (by decide)
    generalize e14 : x_up h4 97 0 v1 = h12 at j13 f15 ⊢
    refine x_goto (np := 13) (x := 17) (by decide +kernel) ?_
    refine x_const (np := 18) (x := 9223372039002259456) (a := 2147483648) (by decide +kernel) (by decide) (by decide) ?_
    refine x_retI (np := 19) (x := 0) (by decide +kernel) (by decide) (Or.inl (by decide +kernel)) ⟨_, rfl, (by decide), ?_⟩
    exact ⟨j13, f15, (by omega)⟩
  obtain ⟨j16, f17, e18⟩ := q5
  have f19 := Fr.trans hF f17 (by decide)
  rcases e18 with rfl
  · refine ⟨13, fun _ _ => rfl, ?_⟩
    refine x_astE (np := 15) (x := 4) (lo' := [x_r 0, iv_c a1, iv_c a2, x_r 97, 55340232221128654850]) (by decide +kernel) (Nat.le_of_ble_eq_true rfl) rfl ?_
    refine x_const (np := 16) (x := 9223372043297226753) (a := 2147483649) (by decide +kernel) (by decide) (by decide) ?_
    refine x_retI (np := 17) (x := 0) (by decide +kernel) (by decide) (Or.inl (by decide +kernel)) ⟨_, rfl, (by decide), ?_⟩
    exact ⟨j16, f19, (by omega)⟩
set_option maxHeartbeats 0 in
/-- LentNamesLaw.again(LLentNames;II[J)I -/
theorem c308_0_97 {sc : Nat × Nat} {d a1 a2 : Nat} {h : xh} (hJ : J h) (ba1 : 0 ≤ a1 ∧ a1 ≤ 4294967295) (ba2 : 0 ≤ a2 ∧ a2 ≤ 4294967295) : X sc 308 (d + 3) (xI fun r h' => J h' ∧ Fr 70368744177664 h h' ∧ (2147483648 ≤ r ∧ r ≤ 2147483649)) 0 0 0 [x_r 0, iv_c a1, iv_c a2, x_r 97, 147573952589676412928] [] h := by
  have la1 : a1 < 4294967296 := by omega
  have la2 : a2 < 4294967296 := by omega
  have hF := Fr.refl 70368744177664 h
  refine x_aload (np := 1) (x := 3) (by decide +kernel) rfl (x_nc_le (by decide)) ?_
  refine x_const (np := 2) (x := 9223372039002259456) (a := 2147483648) (by decide +kernel) (by decide) (by decide) ?_
  refine x_aload (np := 3) (x := 0) (by decide +kernel) rfl (x_nc_le (by decide)) ?_
  refine x_iload (np := 4) (x := 1) (by decide +kernel) rfl la1 ?_
  refine x_iload (np := 5) (x := 2) (by decide +kernel) rfl la2 ?_
  refine x_cT (t := 6) (mj := 119) (n := 3) (rc := 11) (ml := 4) (cc := 2) (ss := 12) (nr := 2) (np := 8) (as := [x_r 0, iv_c a1, iv_c a2]) (rest := [iv_c 2147483648, x_r 97]) (lo1 := [x_r 0, iv_c a1, iv_c a2, 147573952589676412928]) (by decide +kernel) (by decide) (by decide +kernel) (x_rb_of (by decide +kernel)) rfl rfl (x_wr (by decide) (x_wi la1 (x_wi la2 x_wn))) (x_wi (by decide) (x_wr (by decide) x_wn)) (by decide) rfl (c119_0 hJ  (by omega) (by omega)) (fun v1 h4 l2 q3 => ?_) (fun E6 h7 q5 => ?_)
  · obtain ⟨j8, f9, b10⟩ := q3
    have f11 := Fr.trans hF f9 (by decide)
    refine x_i2l (np := 9) (x := 0) (by decide +kernel) l2 ?_
    refine x_last (np := 10) (x := 0) (n := 1) (i := 0) (by decide +kernel) (by decide) (by decide +kernel) (by decide +kernel) (by omega) (by omega) (by decide) l2 ?_
    have j13 := jU (e := 0) (v := v1) 0 j8 rg_97_0_1_1 (by omega) (by omega) (by omega)
    have f15 := jF (e := 0) (v := v1) 0 f11 rg_97_0_1_1 (by omega) (by omega) (by decide)
    generalize e14 : x_up h4 97 0 v1 = h12 at j13 f15 ⊢
    refine x_goto (np := 13) (x := 17) (by decide +kernel) ?_
    refine x_const (np := 18) (x := 9223372039002259456) (a := 2147483648) (by decide +kernel) (by decide) (by decide) ?_
    refine x_retI (np := 19) (x := 0) (by decide +kernel) (by decide) (Or.inl (by decide +kernel)) ⟨_, rfl, (by decide), ?_⟩
    exact ⟨j13, f15, (by omega)⟩
  obtain ⟨j16, f17, e18⟩ := q5
  have f19 := Fr.trans hF f17 (by decide)
  rcases e18 with rfl
  · refine ⟨13, fun _ _ => rfl, ?_⟩
    refine x_astE (np := 15) (x := 4) (lo' := [x_r 0, iv_c a1, iv_c a2, x_r 97, 55340232221128654850]) (by decide +kernel) (Nat.le_of_ble_eq_true rfl) rfl ?_
    refine x_const (np := 16) (x := 9223372043297226753) (a := 2147483649) (by decide +kernel) (by decide) (by decide) ?_
    refine x_retI (np := 17) (x := 0) (by decide +kernel) (by decide) (Or.inl (by decide +kernel)) ⟨_, rfl, (by decide), ?_⟩
    exact ⟨j16, f19, (by omega)⟩
