/-! ===== methods ===== -/
set_option maxHeartbeats 0 in
/-- LentNames$Table.put(III)V -/
theorem c69_T3 {sc : Nat × Nat} {d ra0 a1 a2 a3 : Nat} {h : xh} (hJ : J h) (ta0 : tw ra0) (ba1 : 2147483648 ≤ a1 ∧ a1 ≤ 2147483657) (ba2 : 2147483648 ≤ a2 ∧ a2 ≤ 2147483652) (ba3 : 2147483648 ≤ a3 ∧ a3 ≤ 2147483648) : X sc 69 d (xV fun h' => J h' ∧ Fr 129 h h') 0 0 0 [x_r (ra0 + 3), iv_c a1, iv_c a2, iv_c a3, 147573952589676412928] [] h := by
  have la1 : a1 < 4294967296 := by omega
  have la2 : a2 < 4294967296 := by omega
  have la3 : a3 < 4294967296 := by omega
  have hF := Fr.refl 129 h
  refine x_iload (np := 1) (x := 1) (by decide +kernel) rfl la1 ?_
  refine x_ifz (k := 2) (tg := 28) (np := 4) (by decide +kernel) (by decide) la1 (fun q1 => ?_) (fun q2 => ?_)
  · have q1 : a1 < 2147483648 := q1
    exfalso; omega
  have q2 : ¬ (a1 < 2147483648) := q2
  refine x_iload (np := 5) (x := 1) (by decide +kernel) rfl la1 ?_
  refine x_aload (np := 6) (x := 0) (by decide +kernel) rfl (x_nc_le (tn_3 ta0)) ?_
  have b3 := jB (e := 2) 0 hJ (rg_T3_2_0_1 ta0) (by omega) (by omega)
  refine x_getC (np := 9) (x := 386) (f := 2) (q := (h (ra0 + 3) 2)) (by decide +kernel) (by decide) (tg_3_386_2_0 ta0) rfl (fun l4 => ?_)
  refine x_icmp (k := 3) (tg := 28) (np := 12) (by decide +kernel) (by decide) la1 l4 (fun q5 => ?_) (fun q6 => ?_)
  · have q5 : (h (ra0 + 3) 2) ≤ a1 := q5
    refine x_const (np := 29) (x := 9223372039002259456) (a := 2147483648) (by decide +kernel) (by decide) (by decide) ?_
    refine x_istore (np := 31) (x := 4) (lo' := [x_r (ra0 + 3), iv_c a1, iv_c a2, iv_c a3, iv_c 2147483648]) (by decide +kernel) (by decide) (Nat.le_of_ble_eq_true rfl) rfl ?_
    refine x_iload (np := 33) (x := 4) (by decide +kernel) rfl (by decide) ?_
    refine x_ifz (k := 0) (tg := 50) (np := 36) (by decide +kernel) (by decide) (by decide) (fun q7 => ?_) (fun q8 => ?_)
    · have q7 : 2147483648 = 2147483648 := q7
      refine x_retV (np := 51) (x := 0) (by decide +kernel) (by decide +kernel) ⟨rfl, ?_⟩
      exact ⟨hJ, hF⟩
    have q8 : ¬ (2147483648 = 2147483648) := q8
    exfalso; omega
  have q6 : ¬ ((h (ra0 + 3) 2) ≤ a1) := q6
  refine x_iload (np := 13) (x := 2) (by decide +kernel) rfl la2 ?_
  refine x_ifz (k := 2) (tg := 28) (np := 16) (by decide +kernel) (by decide) la2 (fun q9 => ?_) (fun q10 => ?_)
  · have q9 : a2 < 2147483648 := q9
    exfalso; omega
  have q10 : ¬ (a2 < 2147483648) := q10
  refine x_iload (np := 17) (x := 2) (by decide +kernel) rfl la2 ?_
  refine x_aload (np := 18) (x := 0) (by decide +kernel) rfl (x_nc_le (tn_3 ta0)) ?_
  have b11 := jB (e := 0) 0 hJ (rg_T3_0_0_1 ta0) (by omega) (by omega)
  have q12 : (h (ra0 + 3) 0) = 2147483652 := by omega
  refine x_getC (np := 21) (x := 384) (f := 0) (q := 2147483652) (by decide +kernel) (by decide) (tg_3_384_0_0 ta0) q12 (fun l13 => ?_)
  refine x_icmp (k := 3) (tg := 28) (np := 24) (by decide +kernel) (by decide) la2 (by decide) (fun q14 => ?_) (fun q15 => ?_)
  · have q14 : 2147483652 ≤ a2 := q14
    refine x_const (np := 29) (x := 9223372039002259456) (a := 2147483648) (by decide +kernel) (by decide) (by decide) ?_
    refine x_istore (np := 31) (x := 4) (lo' := [x_r (ra0 + 3), iv_c a1, iv_c a2, iv_c a3, iv_c 2147483648]) (by decide +kernel) (by decide) (Nat.le_of_ble_eq_true rfl) rfl ?_
    refine x_iload (np := 33) (x := 4) (by decide +kernel) rfl (by decide) ?_
    refine x_ifz (k := 0) (tg := 50) (np := 36) (by decide +kernel) (by decide) (by decide) (fun q16 => ?_) (fun q17 => ?_)
    · have q16 : 2147483648 = 2147483648 := q16
      refine x_retV (np := 51) (x := 0) (by decide +kernel) (by decide +kernel) ⟨rfl, ?_⟩
      exact ⟨hJ, hF⟩
    have q17 : ¬ (2147483648 = 2147483648) := q17
    exfalso; omega
  have q15 : ¬ (2147483652 ≤ a2) := q15
  refine x_const (np := 25) (x := 9223372043297226753) (a := 2147483649) (by decide +kernel) (by decide) (by decide) ?_
  refine x_goto (np := 28) (x := 29) (by decide +kernel) ?_
  refine x_istore (np := 31) (x := 4) (lo' := [x_r (ra0 + 3), iv_c a1, iv_c a2, iv_c a3, iv_c 2147483649]) (by decide +kernel) (by decide) (Nat.le_of_ble_eq_true rfl) rfl ?_
  refine x_iload (np := 33) (x := 4) (by decide +kernel) rfl (by decide) ?_
  refine x_ifz (k := 0) (tg := 50) (np := 36) (by decide +kernel) (by decide) (by decide) (fun q18 => ?_) (fun q19 => ?_)
  · have q18 : 2147483649 = 2147483648 := q18
    exfalso; omega
  have q19 : ¬ (2147483649 = 2147483648) := q19
  refine x_aload (np := 37) (x := 0) (by decide +kernel) rfl (x_nc_le (tn_3 ta0)) ?_
  have q20 : h (ra0 + 3) 1 = (ra0 + 4) := tf_3_1 hJ ta0
  refine x_getR (np := 40) (x := 385) (f := 1) (q := (ra0 + 4)) (by decide +kernel) (by decide) (tg_3_385_1_1 ta0) q20 ?_
  refine x_iload (np := 41) (x := 1) (by decide +kernel) rfl la1 ?_
  refine x_aload (np := 42) (x := 0) (by decide +kernel) rfl (x_nc_le (tn_3 ta0)) ?_
  refine x_getC (np := 45) (x := 384) (f := 0) (q := 2147483652) (by decide +kernel) (by decide) (tg_3_384_0_0 ta0) q12 (fun l21 => ?_)
  obtain ⟨u22, q23⟩ : ∃ z, a1 = 2147483648 + z := ⟨a1 - 2147483648, by omega⟩
  refine x_imul (np := 46) (x := 0) (i := u22) (j := 4) (v := (2147483648 + 4 * u22)) (by decide +kernel) (by omega) (by omega) (by omega) (by omega) la1 (by decide) ?_
  refine x_iload (np := 47) (x := 2) (by decide +kernel) rfl la2 ?_
  refine x_iadd (np := 48) (x := 0) (v := (4 * u22 + a2)) (by decide +kernel) (by omega) la2 (by omega) (by omega) ?_
  refine x_iload (np := 49) (x := 3) (by decide +kernel) rfl la3 ?_
  obtain ⟨u25, q26⟩ : ∃ z, a2 = 2147483648 + z := ⟨a2 - 2147483648, by omega⟩
  refine x_ast (np := 50) (x := 0) (kd := 1) (n := 40) (i := (4 * u22 + u25)) (by decide +kernel) (Or.inl rfl) (ta_4_40 ta0) (by omega) (by omega) (by decide) la3 (fun z => absurd z (by decide)) ?_
  have j28 := jUw (e := (4 * u22 + u25)) (v := a3) hJ (rw_T4 ta0) (by omega) (by omega)
  have f30 := jFw (e := (4 * u22 + u25)) (v := a3) hF (rw_T4 ta0) (by omega) (by decide)
  generalize e29 : x_up h (ra0 + 4) (4 * u22 + u25) a3 = h27 at j28 f30 ⊢
  refine x_retV (np := 51) (x := 0) (by decide +kernel) (by decide +kernel) ⟨rfl, ?_⟩
  exact ⟨j28, f30⟩
set_option maxHeartbeats 0 in
/-- LentNames$Table.addRow()I -/
theorem c67_T3 {sc : Nat × Nat} {d ra0 : Nat} {h : xh} (hJ : J h) (ta0 : tw ra0) (hr0 : (h (ra0 + 3) 2) + 1 ≤ 2147483658) : X sc 67 (d + 1) (xI fun r h' => J h' ∧ Fr 281474976710785 h h' ∧ (2147483648 ≤ r ∧ r ≤ 2147483657) ∧ (h' ra0 7 = h ra0 7) ∧ (h' ra0 8 = h ra0 8) ∧ (h' (ra0 + 1) 2 = h (ra0 + 1) 2) ∧ (h' (ra0 + 3) 2 = h (ra0 + 3) 2 + 1) ∧ (h' (ra0 + 5) 2 = h (ra0 + 5) 2) ∧ (h' (ra0 + 7) 2 = h (ra0 + 7) 2) ∧ (r + 1 = h' (ra0 + 3) 2) ∧ Ot ra0 h h') 0 0 0 [x_r (ra0 + 3), 147573952589676412928] [] h := by
  have hF := Fr.refl 281474976710785 h
  have b1 := jB (e := 2) 0 hJ (rg_T3_2_0_1 ta0) (by omega) (by omega)
  refine x_aload (np := 1) (x := 0) (by decide +kernel) rfl (x_nc_le (tn_3 ta0)) ?_
  refine x_nI (t := 6) (mj := 66) (n := 1) (rc := 7) (ml := 1) (nr := 0) (np := 4) (as := [x_r (ra0 + 3)]) (rest := []) (lo1 := [x_r (ra0 + 3)]) (by decide +kernel) (by decide) (by decide +kernel) (x_rb_of (tr_3_7 ta0)) rfl rfl (x_wr (tn_3 ta0) x_wn) x_wn (by decide) rfl ?_
  refine x_aload (np := 1) (x := 0) (by decide +kernel) rfl (x_nc_le (tn_3 ta0)) ?_
  refine x_getC (np := 4) (x := 386) (f := 2) (q := (h (ra0 + 3) 2)) (by decide +kernel) (by decide) (tg_3_386_2_0 ta0) rfl (fun l2 => ?_)
  refine x_const (np := 5) (x := 9223372043297226753) (a := 2147483649) (by decide +kernel) (by decide) (by decide) ?_
  refine x_iadd (np := 6) (x := 0) (v := (1 + (h (ra0 + 3) 2))) (by decide +kernel) l2 (by decide) (by omega) (by omega) ?_
  refine x_aload (np := 7) (x := 0) (by decide +kernel) rfl (x_nc_le (tn_3 ta0)) ?_
  have b3 := jB (e := 0) 0 hJ (rg_T3_0_0_1 ta0) (by omega) (by omega)
  have q4 : (h (ra0 + 3) 0) = 2147483652 := by omega
  refine x_getC (np := 10) (x := 384) (f := 0) (q := 2147483652) (by decide +kernel) (by decide) (tg_3_384_0_0 ta0) q4 (fun l5 => ?_)
  obtain ⟨u6, q7⟩ : ∃ z, (h (ra0 + 3) 2) = 2147483648 + z := ⟨(h (ra0 + 3) 2) - 2147483648, by omega⟩
  refine x_imul (np := 11) (x := 0) (i := (1 + u6)) (j := 4) (v := (2147483652 + 4 * u6)) (by decide +kernel) (by omega) (by omega) (by omega) (by omega) (by omega) (by decide) ?_
  refine x_aload (np := 12) (x := 0) (by decide +kernel) rfl (x_nc_le (tn_3 ta0)) ?_
  have q9 : h (ra0 + 3) 1 = (ra0 + 4) := tf_3_1 hJ ta0
  refine x_getR (np := 15) (x := 385) (f := 1) (q := (ra0 + 4)) (by decide +kernel) (by decide) (tg_3_385_1_1 ta0) q9 ?_
  refine x_alen (np := 16) (x := 0) (n := 40) (by decide +kernel) (tn_4 ta0) (tl_4 ta0).1 (tl_4 ta0).2 (by decide) ?_
  show X _ _ _ _ _ _ _ _ [iv_c 2147483688, iv_c (2147483652 + 4 * u6)] _
  refine x_icmp (k := 5) (tg := 23) (np := 19) (by decide +kernel) (by decide) (by omega) (by decide) (fun q10 => ?_) (fun q11 => ?_)
  · have q10 : (2147483652 + 4 * u6) ≤ 2147483688 := q10
    refine x_const (np := 24) (x := 9223372039002259456) (a := 2147483648) (by decide +kernel) (by decide) (by decide) ?_
    refine x_retI (np := 25) (x := 0) (by decide +kernel) (by decide) (Or.inr ⟨by decide +kernel, by omega, by omega⟩) ⟨_, rfl, (by decide), ?_⟩
    refine x_ifz (k := 0) (tg := 9) (np := 7) (by decide +kernel) (by decide) (by decide) (fun q12 => ?_) (fun q13 => ?_)
    · have q12 : 2147483648 = 2147483648 := q12
      refine x_aload (np := 10) (x := 0) (by decide +kernel) rfl (x_nc_le (tn_3 ta0)) ?_
      refine x_dup (np := 11) (x := 0) (by decide +kernel) (by have z := x_nc_le (k := (ra0 + 3)) (tn_3 ta0); unfold x_r; omega) ?_
      refine x_getC (np := 14) (x := 386) (f := 2) (q := (h (ra0 + 3) 2)) (by decide +kernel) (by decide) (tg_3_386_2_0 ta0) rfl (fun l14 => ?_)
      refine x_const (np := 15) (x := 9223372043297226753) (a := 2147483649) (by decide +kernel) (by decide) (by decide) ?_
      refine x_iadd (np := 16) (x := 0) (v := (1 + (h (ra0 + 3) 2))) (by decide +kernel) l2 (by decide) (by omega) (by omega) ?_
      refine x_putI (np := 19) (x := 386) (f := 2) (by decide +kernel) (tg_3_386_2_0 ta0) (by omega) (Or.inl (by decide)) ?_
      have j16 := jU (e := 2) (v := (1 + (h (ra0 + 3) 2))) 0 hJ (rg_T3_2_0_1 ta0) (by omega) (by omega) (by omega)
      have f18 := jF (e := 2) (v := (1 + (h (ra0 + 3) 2))) 0 hF (rg_T3_2_0_1 ta0) (by omega) (by omega) (by decide)
      generalize e17 : x_up h (ra0 + 3) 2 (1 + (h (ra0 + 3) 2)) = h15 at j16 f18 ⊢
      refine x_const (np := 20) (x := 9223372039002259456) (a := 2147483648) (by decide +kernel) (by decide) (by decide) ?_
      refine x_istore (np := 21) (x := 1) (lo' := [x_r (ra0 + 3), iv_c 2147483648]) (by decide +kernel) (by decide) (Nat.le_of_ble_eq_true rfl) rfl ?_
      have p111 : ∀ (n : Nat) (v106 : Nat) (h108 : xh), 4294967296 - v106 < n → (2147483648 ≤ v106 ∧ v106 ≤ 2147483652) → J h108 → Fr 129 h15 h108 → Ot ra0 h h108 → X sc 67 (d + 1) (xI fun r h' => J h' ∧ Fr 281474976710785 h h' ∧ (2147483648 ≤ r ∧ r ≤ 2147483657) ∧ (h' ra0 7 = h ra0 7) ∧ (h' ra0 8 = h ra0 8) ∧ (h' (ra0 + 1) 2 = h (ra0 + 1) 2) ∧ (h' (ra0 + 3) 2 = h (ra0 + 3) 2 + 1) ∧ (h' (ra0 + 5) 2 = h (ra0 + 5) 2) ∧ (h' (ra0 + 7) 2 = h (ra0 + 7) 2) ∧ (r + 1 = h' (ra0 + 3) 2) ∧ Ot ra0 h h') 0 0 21 [x_r (ra0 + 3), iv_c v106] [] h108 := by
        intro n
        induction n with
        | zero => intro v106 h108 q113; exact absurd q113 (Nat.not_lt_zero _)
        | succ n i114 =>
          intro v106 h108 q113 b107 j110 f109 m112
          have f115 := Fr.trans f18 f109 (by decide)
          refine x_iload (np := 22) (x := 1) (by decide +kernel) rfl (by omega) ?_
          refine x_aload (np := 23) (x := 0) (by decide +kernel) rfl (x_nc_le (tn_3 ta0)) ?_
          have b116 := jB (e := 0) 0 j110 (rg_T3_0_0_1 ta0) (by omega) (by omega)
          have q117 : (h108 (ra0 + 3) 0) = 2147483652 := by omega
          refine x_getC (np := 26) (x := 384) (f := 0) (q := 2147483652) (by decide +kernel) (by decide) (tg_3_384_0_0 ta0) q117 (fun l118 => ?_)
          refine x_icmp (k := 3) (tg := 47) (np := 29) (by decide +kernel) (by decide) (by omega) (by decide) (fun q119 => ?_) (fun q120 => ?_)
          · have q119 : 2147483652 ≤ v106 := q119
            refine x_aload (np := 48) (x := 0) (by decide +kernel) rfl (x_nc_le (tn_3 ta0)) ?_
            have q121 : h108 (ra0 + 3) 2 = h15 (ra0 + 3) 2 := jK 0 f109 (rg_T3_2_0_1 ta0) (by omega) (by omega) (by decide)
            have q122 : h15 (ra0 + 3) 2 = (1 + (h (ra0 + 3) 2)) := by rw [← e17]; exact x_up_at
            refine x_getC (np := 51) (x := 386) (f := 2) (q := (1 + (h (ra0 + 3) 2))) (by decide +kernel) (by decide) (tg_3_386_2_0 ta0) (q121.trans q122) (fun l123 => ?_)
            refine x_const (np := 52) (x := 9223372043297226753) (a := 2147483649) (by decide +kernel) (by decide) (by decide) ?_
            refine x_isub (np := 53) (x := 0) (v := (h (ra0 + 3) 2)) (by decide +kernel) (by omega) (by decide) (by omega) (by omega) ?_
            have b124 := jB (e := 7) 0 hJ (rg_T0_7_0_1 ta0) (by omega) (by omega)
            have q125 : h108 ra0 7 = h15 ra0 7 := jK 0 f109 (rg_T0_7_0_1 ta0) (by omega) (by omega) (by decide)
            have q126 : h15 ra0 7 = h ra0 7 := by rw [← e17]; exact x_up_k tof_0_3
            have q127 : h108 ra0 8 = h15 ra0 8 := jK 0 f109 (rg_T0_8_0_1 ta0) (by omega) (by omega) (by decide)
            have q128 : h15 ra0 8 = h ra0 8 := by rw [← e17]; exact x_up_k tof_0_3
            have b129 := jB (e := 2) 0 hJ (rg_T1_2_0_1 ta0) (by omega) (by omega)
            have q130 : h108 (ra0 + 1) 2 = h15 (ra0 + 1) 2 := jK 0 f109 (rg_T1_2_0_1 ta0) (by omega) (by omega) (by decide)
            have q131 : h15 (ra0 + 1) 2 = h (ra0 + 1) 2 := by rw [← e17]; exact x_up_k tof_1_3
            have q132 : h108 (ra0 + 3) 2 = h15 (ra0 + 3) 2 := jK 0 f109 (rg_T3_2_0_1 ta0) (by omega) (by omega) (by decide)
            have q133 : h15 (ra0 + 3) 2 = (1 + (h (ra0 + 3) 2)) := by rw [← e17]; exact x_up_at
            have b134 := jB (e := 2) 0 hJ (rg_T5_2_0_1 ta0) (by omega) (by omega)
            have q135 : h108 (ra0 + 5) 2 = h15 (ra0 + 5) 2 := jK 0 f109 (rg_T5_2_0_1 ta0) (by omega) (by omega) (by decide)
            have q136 : h15 (ra0 + 5) 2 = h (ra0 + 5) 2 := by rw [← e17]; exact x_up_k tof_5_3
            have b137 := jB (e := 2) 0 hJ (rg_T7_2_0_1 ta0) (by omega) (by omega)
            have q138 : h108 (ra0 + 7) 2 = h15 (ra0 + 7) 2 := jK 0 f109 (rg_T7_2_0_1 ta0) (by omega) (by omega) (by decide)
            have q139 : h15 (ra0 + 7) 2 = h (ra0 + 7) 2 := by rw [← e17]; exact x_up_k tof_7_3
            have q140 : h108 (ra0 + 3) 2 = h15 (ra0 + 3) 2 := jK 0 f109 (rg_T3_2_0_1 ta0) (by omega) (by omega) (by decide)
            have q141 : h15 (ra0 + 3) 2 = (1 + (h (ra0 + 3) 2)) := by rw [← e17]; exact x_up_at
            refine x_retI (np := 54) (x := 0) (by decide +kernel) l2 (Or.inl (by decide +kernel)) ⟨_, rfl, l2, ?_⟩
            exact ⟨j110, f115, (by omega), (by omega), (by omega), (by omega), (by omega), (by omega), (by omega), (by omega), m112⟩
          have q120 : ¬ (2147483652 ≤ v106) := q120
          refine x_aload (np := 30) (x := 0) (by decide +kernel) rfl (x_nc_le (tn_3 ta0)) ?_
          refine x_aload (np := 31) (x := 0) (by decide +kernel) rfl (x_nc_le (tn_3 ta0)) ?_
          have q142 : h108 (ra0 + 3) 2 = h15 (ra0 + 3) 2 := jK 0 f109 (rg_T3_2_0_1 ta0) (by omega) (by omega) (by decide)
          have q143 : h15 (ra0 + 3) 2 = (1 + (h (ra0 + 3) 2)) := by rw [← e17]; exact x_up_at
          refine x_getC (np := 34) (x := 386) (f := 2) (q := (1 + (h (ra0 + 3) 2))) (by decide +kernel) (by decide) (tg_3_386_2_0 ta0) (q142.trans q143) (fun l144 => ?_)
          refine x_const (np := 35) (x := 9223372043297226753) (a := 2147483649) (by decide +kernel) (by decide) (by decide) ?_
          refine x_isub (np := 36) (x := 0) (v := (h (ra0 + 3) 2)) (by decide +kernel) (by omega) (by decide) (by omega) (by omega) ?_
          refine x_iload (np := 37) (x := 1) (by decide +kernel) rfl (by omega) ?_
          refine x_const (np := 38) (x := 9223372039002259456) (a := 2147483648) (by decide +kernel) (by decide) (by decide) ?_
          refine x_cV (t := 6) (mj := 69) (n := 4) (rc := 7) (ml := 5) (nr := 0) (np := 41) (as := [x_r (ra0 + 3), iv_c (h (ra0 + 3) 2), iv_c v106, iv_c 2147483648]) (rest := []) (lo1 := [x_r (ra0 + 3), iv_c (h (ra0 + 3) 2), iv_c v106, iv_c 2147483648, 147573952589676412928]) (by decide +kernel) (by decide) (by decide +kernel) (x_rb_of (tr_3_7 ta0)) rfl rfl (x_wr (tn_3 ta0) (x_wi l2 (x_wi (by omega) (x_wi (by decide) x_wn)))) x_wn (by decide) rfl (c69_T3 j110 ta0 (by omega) (by omega) (by omega)) (fun h148 q147 => ?_)
          obtain ⟨j149, f150⟩ := q147
          have f153 := Fr.trans f115 f150 (by decide)
          have f154 := Fr.trans f109 f150 (by decide)
          refine x_iinc (np := 44) (i := 1) (j := 2147483649) (v := (1 + v106)) (lo' := [x_r (ra0 + 3), iv_c (1 + v106)]) (by decide +kernel) (by decide) (by decide) rfl (by omega) (by omega) (by omega) rfl ?_
          refine x_goto (np := 47) (x := 21) (by decide +kernel) ?_
          have m155 : Ot ra0 h h148 := Ot.fr m112 f150 (by decide)
          exact i114 (1 + v106) h148 (by omega) (by omega) j149 f154 m155
      have m156 : Ot ra0 h h15 := by rw [← e17]; exact Ot.up (o := 3) Ot.refl ta0 (by decide) rfl
      exact p111 _ 2147483648 h15 (Nat.lt_succ_self _) (by omega) j16 (Fr.refl _ _) m156
    have q13 : ¬ (2147483648 = 2147483648) := q13
    exfalso; omega
  have q11 : ¬ ((2147483652 + 4 * u6) ≤ 2147483688) := q11
  exfalso; omega
set_option maxHeartbeats 0 in
/-- LentNames$TownReader.readLetter()Z -/
theorem c98_61 {sc : Nat × Nat} {d  : Nat} {h : xh} {tB : Nat → Nat} {tN : Nat} (hJ : J h) (hr0 : (rv h 3) + 1 ≤ 2147483658) (hT : Tp tB tN h) : X sc 98 (d + 6) (xI fun r h' => J h' ∧ Fr 281474976710817 h h' ∧ (2147483648 ≤ r ∧ r ≤ 2147483649) ∧ (rv h' 0 = rv h 0) ∧ (rv h' 1 = rv h 1) ∧ (rv h' 2 = rv h 2) ∧ (r = 2147483649 → rv h' 3 = rv h 3 + 1) ∧ (rv h' 4 = rv h 4) ∧ (rv h' 5 = rv h 5) ∧ letter9 tB tN (rv h 0) (h 1 2) (rs r (h' 1 2)) ∧ Ot (h 61 1) h h') 0 0 0 [x_r 61, 147573952589676412928] [] h := by
  have hF := Fr.refl 281474976710817 h
  have t1 : tw (h 61 1) := hJ.2.2.2.2.1
  have b2 := jB (e := 2) 0 hJ (rg_T3_2_0_1 t1) (by omega) (by omega)
  have e3 : rv h 3 = (h ((h 61 1) + 3) 2) := (congrArg (fun z => svq h z 3) rfl).trans rfl
  refine x_aload (np := 1) (x := 0) (by decide +kernel) rfl (x_nc_le (by decide)) ?_
  refine x_getR (np := 4) (x := 577) (f := 1) (q := (h 61 1)) (by decide +kernel) (by decide) (by decide +kernel) rfl ?_
  have q4 : h (h 61 1) 1 = ((h 61 1) + 3) := tf_0_1 hJ t1
  refine x_getR (np := 7) (x := 513) (f := 1) (q := ((h 61 1) + 3)) (by decide +kernel) (by decide) (tg_0_513_1_1 t1) q4 ?_
  refine x_cI (t := 6) (mj := 67) (n := 1) (rc := 7) (ml := 2) (nr := 0) (np := 10) (as := [x_r ((h 61 1) + 3)]) (rest := []) (lo1 := [x_r ((h 61 1) + 3), 147573952589676412928]) (by decide +kernel) (by decide) (by decide +kernel) (x_rb_of (tr_3_7 t1)) rfl rfl (x_wr (tn_3 t1) x_wn) x_wn (by decide) rfl (c67_T3 hJ t1 (by omega)) (fun v5 h8 l6 q7 => ?_)
  obtain ⟨j9, f10, b11, c12, c13, c14, c15, c16, c17, c18, c19⟩ := q7
  have f20 := Fr.trans hF f10 (by decide)
  have b21 := jB (e := 7) 0 hJ (rg_T0_7_0_1 t1) (by omega) (by omega)
  have b22 := jB (e := 7) 0 j9 (rg_T0_7_0_1 t1) (by omega) (by omega)
  have b23 := jB (e := 2) 0 hJ (rg_T1_2_0_1 t1) (by omega) (by omega)
  have b24 := jB (e := 2) 0 j9 (rg_T1_2_0_1 t1) (by omega) (by omega)
  have b25 := jB (e := 2) 0 j9 (rg_T3_2_0_1 t1) (by omega) (by omega)
  have b26 := jB (e := 2) 0 hJ (rg_T5_2_0_1 t1) (by omega) (by omega)
  have b27 := jB (e := 2) 0 j9 (rg_T5_2_0_1 t1) (by omega) (by omega)
  have b28 := jB (e := 2) 0 hJ (rg_T7_2_0_1 t1) (by omega) (by omega)
  have b29 := jB (e := 2) 0 j9 (rg_T7_2_0_1 t1) (by omega) (by omega)
  refine x_istore (np := 11) (x := 1) (lo' := [x_r 61, iv_c v5]) (by decide +kernel) l6 (Nat.le_of_ble_eq_true rfl) rfl ?_
  refine x_aload (np := 12) (x := 0) (by decide +kernel) rfl (x_nc_le (by decide)) ?_
  have q30 : h8 61 1 = h 61 1 := f10 61 1 (by decide +kernel)
  refine x_getR (np := 15) (x := 577) (f := 1) (q := (h 61 1)) (by decide +kernel) (by decide) (by decide +kernel) q30 ?_
  have q31 : h8 (h 61 1) 1 = ((h 61 1) + 3) := tf_0_1 j9 t1
  refine x_getR (np := 18) (x := 513) (f := 1) (q := ((h 61 1) + 3)) (by decide +kernel) (by decide) (tg_0_513_1_1 t1) q31 ?_
  refine x_iload (np := 19) (x := 1) (by decide +kernel) rfl l6 ?_
  refine x_const (np := 20) (x := 9223372051887161347) (a := 2147483651) (by decide +kernel) (by decide) (by decide) ?_
  refine x_const (np := 21) (x := 9223372034707292159) (a := 2147483647) (by decide +kernel) (by decide) (by decide) ?_
  refine x_nV (t := 6) (mj := 69) (n := 4) (rc := 7) (ml := 5) (nr := 0) (np := 24) (as := [x_r ((h 61 1) + 3), iv_c v5, iv_c 2147483651, iv_c 2147483647]) (rest := []) (lo1 := [x_r ((h 61 1) + 3), iv_c v5, iv_c 2147483651, iv_c 2147483647, 147573952589676412928]) (by decide +kernel) (by decide) (by decide +kernel) (x_rb_of (tr_3_7 t1)) rfl rfl (x_wr (tn_3 t1) (x_wi l6 (x_wi (by decide) (x_wi (by decide) x_wn)))) x_wn (by decide) rfl ?_
  refine x_iload (np := 1) (x := 1) (by decide +kernel) rfl l6 ?_
  refine x_ifz (k := 2) (tg := 28) (np := 4) (by decide +kernel) (by decide) l6 (fun q32 => ?_) (fun q33 => ?_)
  · have q32 : v5 < 2147483648 := q32
    exfalso; omega
  have q33 : ¬ (v5 < 2147483648) := q33
  refine x_iload (np := 5) (x := 1) (by decide +kernel) rfl l6 ?_
  refine x_aload (np := 6) (x := 0) (by decide +kernel) rfl (x_nc_le (tn_3 t1)) ?_
  refine x_getC (np := 9) (x := 386) (f := 2) (q := (h8 ((h 61 1) + 3) 2)) (by decide +kernel) (by decide) (tg_3_386_2_0 t1) rfl (fun l34 => ?_)
  refine x_icmp (k := 3) (tg := 28) (np := 12) (by decide +kernel) (by decide) l6 l34 (fun q35 => ?_) (fun q36 => ?_)
  · have q35 : (h8 ((h 61 1) + 3) 2) ≤ v5 := q35
    exfalso; omega
  have q36 : ¬ ((h8 ((h 61 1) + 3) 2) ≤ v5) := q36
  refine x_iload (np := 13) (x := 2) (by decide +kernel) rfl (by decide) ?_
  refine x_ifz (k := 2) (tg := 28) (np := 16) (by decide +kernel) (by decide) (by decide) (fun q37 => ?_) (fun q38 => ?_)
  · have q37 : 2147483651 < 2147483648 := q37
    exfalso; omega
  have q38 : ¬ (2147483651 < 2147483648) := q38
  refine x_iload (np := 17) (x := 2) (by decide +kernel) rfl (by decide) ?_
  refine x_aload (np := 18) (x := 0) (by decide +kernel) rfl (x_nc_le (tn_3 t1)) ?_
  have b39 := jB (e := 0) 0 j9 (rg_T3_0_0_1 t1) (by omega) (by omega)
  have q40 : (h8 ((h 61 1) + 3) 0) = 2147483652 := by omega
  refine x_getC (np := 21) (x := 384) (f := 0) (q := 2147483652) (by decide +kernel) (by decide) (tg_3_384_0_0 t1) q40 (fun l41 => ?_)
  refine x_icmp (k := 3) (tg := 28) (np := 24) (by decide +kernel) (by decide) (by decide) (by decide) (fun q42 => ?_) (fun q43 => ?_)
  · have q42 : 2147483652 ≤ 2147483651 := q42
    exfalso; omega
  have q43 : ¬ (2147483652 ≤ 2147483651) := q43
  refine x_const (np := 25) (x := 9223372043297226753) (a := 2147483649) (by decide +kernel) (by decide) (by decide) ?_
  refine x_goto (np := 28) (x := 29) (by decide +kernel) ?_
  refine x_istore (np := 31) (x := 4) (lo' := [x_r ((h 61 1) + 3), iv_c v5, iv_c 2147483651, iv_c 2147483647, iv_c 2147483649]) (by decide +kernel) (by decide) (Nat.le_of_ble_eq_true rfl) rfl ?_
  refine x_iload (np := 33) (x := 4) (by decide +kernel) rfl (by decide) ?_
  refine x_ifz (k := 0) (tg := 50) (np := 36) (by decide +kernel) (by decide) (by decide) (fun q44 => ?_) (fun q45 => ?_)
  · have q44 : 2147483649 = 2147483648 := q44
    exfalso; omega
  have q45 : ¬ (2147483649 = 2147483648) := q45
  refine x_aload (np := 37) (x := 0) (by decide +kernel) rfl (x_nc_le (tn_3 t1)) ?_
  have q46 : h8 ((h 61 1) + 3) 1 = ((h 61 1) + 4) := tf_3_1 j9 t1
  refine x_getR (np := 40) (x := 385) (f := 1) (q := ((h 61 1) + 4)) (by decide +kernel) (by decide) (tg_3_385_1_1 t1) q46 ?_
  refine x_iload (np := 41) (x := 1) (by decide +kernel) rfl l6 ?_
  refine x_aload (np := 42) (x := 0) (by decide +kernel) rfl (x_nc_le (tn_3 t1)) ?_
  refine x_getC (np := 45) (x := 384) (f := 0) (q := 2147483652) (by decide +kernel) (by decide) (tg_3_384_0_0 t1) q40 (fun l47 => ?_)
  obtain ⟨u48, q49⟩ : ∃ z, v5 = 2147483648 + z := ⟨v5 - 2147483648, by omega⟩
  refine x_imul (np := 46) (x := 0) (i := u48) (j := 4) (v := (2147483648 + 4 * u48)) (by decide +kernel) (by omega) (by omega) (by omega) (by omega) l6 (by decide) ?_
  refine x_iload (np := 47) (x := 2) (by decide +kernel) rfl (by decide) ?_
  refine x_iadd (np := 48) (x := 0) (v := (2147483651 + 4 * u48)) (by decide +kernel) (by omega) (by decide) (by omega) (by omega) ?_
  refine x_iload (np := 49) (x := 3) (by decide +kernel) rfl (by decide) ?_
  refine x_ast (np := 50) (x := 0) (kd := 1) (n := 40) (i := (3 + 4 * u48)) (by decide +kernel) (Or.inl rfl) (ta_4_40 t1) (by omega) (by omega) (by decide) (by decide) (fun z => absurd z (by decide)) ?_
  have j52 := jU (e := (3 + 4 * u48)) (v := 2147483647) u48 j9 (rg_T4_3_4_10 t1) (by omega) (by omega) (by omega)
  have f54 := jF (e := (3 + 4 * u48)) (v := 2147483647) u48 f20 (rg_T4_3_4_10 t1) (by omega) (by omega) (by decide)
  generalize e53 : x_up h8 ((h 61 1) + 4) (3 + 4 * u48) 2147483647 = h51 at j52 f54 ⊢
  refine x_retV (np := 51) (x := 0) (by decide +kernel) (by decide +kernel) ⟨rfl, ?_⟩
  refine x_aload (np := 25) (x := 0) (by decide +kernel) rfl (x_nc_le (by decide)) ?_
  refine x_aload (np := 26) (x := 0) (by decide +kernel) rfl (x_nc_le (by decide)) ?_
  have q55 : h51 61 1 = h8 61 1 := by rw [← e53]; exact x_up_k (Ne.symm (tne_4_61 t1))
  have q56 : h8 61 1 = h 61 1 := f10 61 1 (by decide +kernel)
  refine x_getR (np := 29) (x := 577) (f := 1) (q := (h 61 1)) (by decide +kernel) (by decide) (by decide +kernel) (q55.trans q56) ?_
  have q57 : h51 (h 61 1) 1 = ((h 61 1) + 3) := tf_0_1 j52 t1
  refine x_getR (np := 32) (x := 513) (f := 1) (q := ((h 61 1) + 3)) (by decide +kernel) (by decide) (tg_0_513_1_1 t1) q57 ?_
  refine x_iload (np := 33) (x := 1) (by decide +kernel) rfl l6 ?_
  refine x_const (np := 34) (x := 9223372039002259456) (a := 2147483648) (by decide +kernel) (by decide) (by decide) ?_
  refine x_const (np := 35) (x := 9223372039002259456) (a := 2147483648) (by decide +kernel) (by decide) (by decide) ?_
  refine x_aload (np := 36) (x := 0) (by decide +kernel) rfl (x_nc_le (by decide)) ?_
  have q58 : h51 61 1 = h8 61 1 := by rw [← e53]; exact x_up_k (Ne.symm (tne_4_61 t1))
  have q59 : h8 61 1 = h 61 1 := f10 61 1 (by decide +kernel)
  refine x_getR (np := 39) (x := 577) (f := 1) (q := (h 61 1)) (by decide +kernel) (by decide) (by decide +kernel) (q58.trans q59) ?_
  have q60 : h51 (h 61 1) 7 = h8 (h 61 1) 7 := by rw [← e53]; exact x_up_k tof_0_4
  refine x_getC (np := 42) (x := 519) (f := 7) (q := (h8 (h 61 1) 7)) (by decide +kernel) (by decide) (tg_0_519_7_0 t1) q60 (fun l61 => ?_)
  refine x_const (np := 43) (x := 9223372043297226753) (a := 2147483649) (by decide +kernel) (by decide) (by decide) ?_
  obtain ⟨v62, q63⟩ : ∃ z, z + 2147483649 = (h8 (h 61 1) 7) + 2147483648 := ⟨(h8 (h 61 1) 7) + 2147483648 - 2147483649, by omega⟩
  refine x_isub (np := 44) (x := 0) (v := v62) (by decide +kernel) l61 (by decide) (by omega) (by omega) ?_
  refine x_nI (t := 6) (mj := 102) (n := 6) (rc := 10) (ml := 7) (nr := 0) (np := 47) (as := [x_r 61, x_r ((h 61 1) + 3), iv_c v5, iv_c 2147483648, iv_c 2147483648, iv_c v62]) (rest := []) (lo1 := [x_r 61, x_r ((h 61 1) + 3), iv_c v5, iv_c 2147483648, iv_c 2147483648, iv_c v62, 147573952589676412928]) (by decide +kernel) (by decide) (by decide +kernel) (x_rb_of (by decide +kernel)) rfl rfl (x_wr (by decide) (x_wr (tn_3 t1) (x_wi l6 (x_wi (by decide) (x_wi (by decide) (x_wi (by omega) x_wn)))))) x_wn (by decide) rfl ?_
  refine x_aload (np := 1) (x := 0) (by decide +kernel) rfl (x_nc_le (by decide)) ?_
  have q64 : h51 61 0 = 1 := by have z := jB (e := 0) 0 j52 rg_61_0_0_1 (by decide) (by decide); omega
  refine x_getR (np := 4) (x := 576) (f := 0) (q := 1) (by decide +kernel) (by decide) (by decide +kernel) q64 ?_
  refine x_iload (np := 6) (x := 4) (by decide +kernel) rfl (by decide) ?_
  refine x_iload (np := 8) (x := 5) (by decide +kernel) rfl (by omega) ?_
  have m69 := Tp.fr hT f10 (by decide) (by decide)
  have m68 : Tp tB tN h51 := by rw [← e53]; exact Tp.oth m69 (tne_4_2 t1) (fun z => absurd z.1 (tne_4_1 t1))
  refine x_cI (t := 6) (mj := 79) (n := 3) (rc := 8) (ml := 5) (nr := 0) (np := 11) (as := [x_r 1, iv_c 2147483648, iv_c v62]) (rest := []) (lo1 := [x_r 1, iv_c 2147483648, iv_c v62, 147573952589676412928, 147573952589676412928]) (by decide +kernel) (by decide) (by decide +kernel) (x_rb_of (by decide +kernel)) rfl rfl (x_wr (by decide) (x_wi (by decide) (x_wi (by omega) x_wn))) x_wn (by decide) rfl (c79_1_c0 j52   (by omega) m68) (fun v65 h70 l66 q67 => ?_)
  obtain ⟨j71, f72, b73, c74, c75, c76, c77⟩ := q67
  have f78 := Fr.trans f54 f72 (by decide)
  have q79 : h51 1 2 = h8 1 2 := by rw [← e53]; exact x_up_k (Ne.symm (tne_4_1 t1))
  have q80 : h8 1 2 = h 1 2 := jK 0 f10 rg_1_2_0_1 (by omega) (by omega) (by decide)
  have b81 := jB (e := 2) 0 hJ rg_1_2_0_1 (by omega) (by omega)
  have b82 := jB (e := 2) 0 j71 rg_1_2_0_1 (by omega) (by omega)
  have q83 : h51 1 2 = h8 1 2 := by rw [← e53]; exact x_up_k (Ne.symm (tne_4_1 t1))
  have q84 : h8 1 2 = h 1 2 := jK 0 f10 rg_1_2_0_1 (by omega) (by omega) (by decide)
  refine x_istore (np := 13) (x := 6) (lo' := [x_r 61, x_r ((h 61 1) + 3), iv_c v5, iv_c 2147483648, iv_c 2147483648, iv_c v62, iv_c v65]) (by decide +kernel) l66 (Nat.le_of_ble_eq_true rfl) rfl ?_
  refine x_iload (np := 15) (x := 6) (by decide +kernel) rfl l66 ?_
  refine x_const (np := 16) (x := 9223372034707292159) (a := 2147483647) (by decide +kernel) (by decide) (by decide) ?_
  refine x_icmp (k := 1) (tg := 21) (np := 19) (by decide +kernel) (by decide) l66 (by decide) (fun q85 => ?_) (fun q86 => ?_)
  · have q85 : v65 ≠ 2147483647 := q85
    have b87 := c75 (by omega)
    refine x_aload (np := 22) (x := 1) (by decide +kernel) rfl (x_nc_le (tn_3 t1)) ?_
    refine x_iload (np := 23) (x := 2) (by decide +kernel) rfl l6 ?_
    refine x_iload (np := 24) (x := 3) (by decide +kernel) rfl (by decide) ?_
    refine x_iload (np := 26) (x := 6) (by decide +kernel) rfl l66 ?_
    refine x_nV (t := 6) (mj := 69) (n := 4) (rc := 7) (ml := 5) (nr := 0) (np := 29) (as := [x_r ((h 61 1) + 3), iv_c v5, iv_c 2147483648, iv_c v65]) (rest := []) (lo1 := [x_r ((h 61 1) + 3), iv_c v5, iv_c 2147483648, iv_c v65, 147573952589676412928]) (by decide +kernel) (by decide) (by decide +kernel) (x_rb_of (tr_3_7 t1)) rfl rfl (x_wr (tn_3 t1) (x_wi l6 (x_wi (by decide) (x_wi l66 x_wn)))) x_wn (by decide) rfl ?_
    refine x_iload (np := 1) (x := 1) (by decide +kernel) rfl l6 ?_
    refine x_ifz (k := 2) (tg := 28) (np := 4) (by decide +kernel) (by decide) l6 (fun q88 => ?_) (fun q89 => ?_)
    · have q88 : v5 < 2147483648 := q88
      exfalso; omega
    have q89 : ¬ (v5 < 2147483648) := q89
    refine x_iload (np := 5) (x := 1) (by decide +kernel) rfl l6 ?_
    refine x_aload (np := 6) (x := 0) (by decide +kernel) rfl (x_nc_le (tn_3 t1)) ?_
    have q90 : h70 ((h 61 1) + 3) 2 = h51 ((h 61 1) + 3) 2 := jK 0 f72 (rg_T3_2_0_1 t1) (by omega) (by omega) (by decide)
    have q91 : h51 ((h 61 1) + 3) 2 = h8 ((h 61 1) + 3) 2 := by rw [← e53]; exact x_up_k tof_3_4
    refine x_getC (np := 9) (x := 386) (f := 2) (q := (h8 ((h 61 1) + 3) 2)) (by decide +kernel) (by decide) (tg_3_386_2_0 t1) (q90.trans q91) (fun l92 => ?_)
    refine x_icmp (k := 3) (tg := 28) (np := 12) (by decide +kernel) (by decide) l6 l34 (fun q93 => ?_) (fun q94 => ?_)
    · have q93 : (h8 ((h 61 1) + 3) 2) ≤ v5 := q93
      exfalso; omega
    have q94 : ¬ ((h8 ((h 61 1) + 3) 2) ≤ v5) := q94
    refine x_iload (np := 13) (x := 2) (by decide +kernel) rfl (by decide) ?_
    refine x_ifz (k := 2) (tg := 28) (np := 16) (by decide +kernel) (by decide) (by decide) (fun q95 => ?_) (fun q96 => ?_)
    · have q95 : 2147483648 < 2147483648 := q95
      exfalso; omega
    have q96 : ¬ (2147483648 < 2147483648) := q96
    refine x_iload (np := 17) (x := 2) (by decide +kernel) rfl (by decide) ?_
    refine x_aload (np := 18) (x := 0) (by decide +kernel) rfl (x_nc_le (tn_3 t1)) ?_
    have q97 : h70 ((h 61 1) + 3) 0 = h51 ((h 61 1) + 3) 0 := jK 0 f72 (rg_T3_0_0_1 t1) (by omega) (by omega) (by decide)
    have q98 : h51 ((h 61 1) + 3) 0 = h8 ((h 61 1) + 3) 0 := by rw [← e53]; exact x_up_k tof_3_4
    refine x_getC (np := 21) (x := 384) (f := 0) (q := 2147483652) (by decide +kernel) (by decide) (tg_3_384_0_0 t1) ((q97.trans q98).trans q40) (fun l99 => ?_)
    refine x_icmp (k := 3) (tg := 28) (np := 24) (by decide +kernel) (by decide) (by decide) (by decide) (fun q100 => ?_) (fun q101 => ?_)
    · have q100 : 2147483652 ≤ 2147483648 := q100
      exfalso; omega
    have q101 : ¬ (2147483652 ≤ 2147483648) := q101
    refine x_const (np := 25) (x := 9223372043297226753) (a := 2147483649) (by decide +kernel) (by decide) (by decide) ?_
    refine x_goto (np := 28) (x := 29) (by decide +kernel) ?_
    refine x_istore (np := 31) (x := 4) (lo' := [x_r ((h 61 1) + 3), iv_c v5, iv_c 2147483648, iv_c v65, iv_c 2147483649]) (by decide +kernel) (by decide) (Nat.le_of_ble_eq_true rfl) rfl ?_
    refine x_iload (np := 33) (x := 4) (by decide +kernel) rfl (by decide) ?_
    refine x_ifz (k := 0) (tg := 50) (np := 36) (by decide +kernel) (by decide) (by decide) (fun q102 => ?_) (fun q103 => ?_)
    · have q102 : 2147483649 = 2147483648 := q102
      exfalso; omega
    have q103 : ¬ (2147483649 = 2147483648) := q103
    refine x_aload (np := 37) (x := 0) (by decide +kernel) rfl (x_nc_le (tn_3 t1)) ?_
    have q104 : h70 ((h 61 1) + 3) 1 = ((h 61 1) + 4) := tf_3_1 j71 t1
    refine x_getR (np := 40) (x := 385) (f := 1) (q := ((h 61 1) + 4)) (by decide +kernel) (by decide) (tg_3_385_1_1 t1) q104 ?_
    refine x_iload (np := 41) (x := 1) (by decide +kernel) rfl l6 ?_
    refine x_aload (np := 42) (x := 0) (by decide +kernel) rfl (x_nc_le (tn_3 t1)) ?_
    have q105 : h70 ((h 61 1) + 3) 0 = h51 ((h 61 1) + 3) 0 := jK 0 f72 (rg_T3_0_0_1 t1) (by omega) (by omega) (by decide)
    have q106 : h51 ((h 61 1) + 3) 0 = h8 ((h 61 1) + 3) 0 := by rw [← e53]; exact x_up_k tof_3_4
    refine x_getC (np := 45) (x := 384) (f := 0) (q := 2147483652) (by decide +kernel) (by decide) (tg_3_384_0_0 t1) ((q105.trans q106).trans q40) (fun l107 => ?_)
    refine x_imul (np := 46) (x := 0) (i := u48) (j := 4) (v := (2147483648 + 4 * u48)) (by decide +kernel) (by omega) (by omega) (by omega) (by omega) l6 (by decide) ?_
    refine x_iload (np := 47) (x := 2) (by decide +kernel) rfl (by decide) ?_
    refine x_iadd (np := 48) (x := 0) (v := (2147483648 + 4 * u48)) (by decide +kernel) (by omega) (by decide) (by omega) (by omega) ?_
    refine x_iload (np := 49) (x := 3) (by decide +kernel) rfl l66 ?_
    refine x_ast (np := 50) (x := 0) (kd := 1) (n := 40) (i := (4 * u48)) (by decide +kernel) (Or.inl rfl) (ta_4_40 t1) (by omega) (by omega) (by decide) l66 (fun z => absurd z (by decide)) ?_
    have j110 := jU (e := (4 * u48)) (v := v65) u48 j71 (rg_T4_0_4_10 t1) (by omega) (by omega) (by omega)
    have f112 := jF (e := (4 * u48)) (v := v65) u48 f78 (rg_T4_0_4_10 t1) (by omega) (by omega) (by decide)
    generalize e111 : x_up h70 ((h 61 1) + 4) (4 * u48) v65 = h109 at j110 f112 ⊢
    refine x_retV (np := 51) (x := 0) (by decide +kernel) (by decide +kernel) ⟨rfl, ?_⟩
    refine x_const (np := 30) (x := 9223372043297226753) (a := 2147483649) (by decide +kernel) (by decide) (by decide) ?_
    refine x_retI (np := 31) (x := 0) (by decide +kernel) (by decide) (Or.inr ⟨by decide +kernel, by omega, by omega⟩) ⟨_, rfl, (by decide), ?_⟩
    refine x_ifz (k := 0) (tg := 127) (np := 50) (by decide +kernel) (by decide) (by decide) (fun q113 => ?_) (fun q114 => ?_)
    · have q113 : 2147483649 = 2147483648 := q113
      exfalso; omega
    have q114 : ¬ (2147483649 = 2147483648) := q114
    refine x_aload (np := 51) (x := 0) (by decide +kernel) rfl (x_nc_le (by decide)) ?_
    have q115 : h109 61 0 = 1 := by have z := jB (e := 0) 0 j110 rg_61_0_0_1 (by decide) (by decide); omega
    refine x_getR (np := 54) (x := 576) (f := 0) (q := 1) (by decide +kernel) (by decide) (by decide +kernel) q115 ?_
    refine x_ldcB (i := 2) (idx := 111) (tx := "day") (by rw [tb_y98]; exact List.mem_of_getElem? (i := 2) rfl) (by decide) (by rw [tb_b98]; decide +kernel) ?_
    have m120 := Tp.fr m68 f72 (by decide) (by decide)
    have m119 : Tp tB tN h109 := by rw [← e111]; exact Tp.oth m120 (tne_4_2 t1) (fun z => absurd z.1 (tne_4_1 t1))
    refine x_cI (t := 6) (mj := 78) (n := 2) (rc := 8) (ml := 2) (nr := 0) (np := 59) (as := [x_r 1, x_b (2 + 1)]) (rest := []) (lo1 := [x_r 1, x_b (2 + 1)]) (by decide +kernel) (by decide) (by decide +kernel) (x_rb_of (by decide +kernel)) rfl rfl (x_wr (by decide) (x_wB (by decide) x_wn)) x_wn (by decide) rfl (c78_1_S0 j110  (by decide) m119) (fun v116 h121 l117 q118 => ?_)
    obtain ⟨j122, f123, b124, c125, c126, c127⟩ := q118
    have f128 := Fr.trans f112 f123 (by decide)
    have q129 : h109 1 2 = h70 1 2 := by rw [← e111]; exact x_up_k (Ne.symm (tne_4_1 t1))
    have b130 := jB (e := 2) 0 j122 rg_1_2_0_1 (by omega) (by omega)
    have b131 : iv_tl 2 = 3 := by decide
    have q132 : h109 1 2 = h70 1 2 := by rw [← e111]; exact x_up_k (Ne.symm (tne_4_1 t1))
    refine x_ifz (k := 0) (tg := 127) (np := 62) (by decide +kernel) (by decide) l117 (fun q133 => ?_) (fun q134 => ?_)
    · have q133 : v116 = 2147483648 := q133
      have b135 := c126 (by omega)
      refine x_const (np := 128) (x := 9223372039002259456) (a := 2147483648) (by decide +kernel) (by decide) (by decide) ?_
      have e136 : rv h 0 = (h (h 61 1) 7) := (congrArg (fun z => svq h z 0) rfl).trans rfl
      have q137 : h121 61 1 = h109 61 1 := f123 61 1 (by decide +kernel)
      have q138 : h109 61 1 = h70 61 1 := by rw [← e111]; exact x_up_k (Ne.symm (tne_4_61 t1))
      have q139 : h70 61 1 = h51 61 1 := f72 61 1 (by decide +kernel)
      have q140 : h51 61 1 = h8 61 1 := by rw [← e53]; exact x_up_k (Ne.symm (tne_4_61 t1))
      have q141 : h8 61 1 = h 61 1 := f10 61 1 (by decide +kernel)
      have q142 : h121 (h 61 1) 7 = h109 (h 61 1) 7 := jK 0 f123 (rg_T0_7_0_1 t1) (by omega) (by omega) (by decide)
      have q143 : h109 (h 61 1) 7 = h70 (h 61 1) 7 := by rw [← e111]; exact x_up_k tof_0_4
      have q144 : h70 (h 61 1) 7 = h51 (h 61 1) 7 := jK 0 f72 (rg_T0_7_0_1 t1) (by omega) (by omega) (by decide)
      have q145 : h51 (h 61 1) 7 = h8 (h 61 1) 7 := by rw [← e53]; exact x_up_k tof_0_4
      have e146 : rv h121 0 = (h8 (h 61 1) 7) := (congrArg (fun z => svq h121 z 0) ((((q137.trans q138).trans q139).trans q140).trans q141)).trans (((q142.trans q143).trans q144).trans q145)
      have e147 : rv h 1 = (h (h 61 1) 8) := (congrArg (fun z => svq h z 1) rfl).trans rfl
      have q148 : h121 61 1 = h109 61 1 := f123 61 1 (by decide +kernel)
      have q149 : h109 61 1 = h70 61 1 := by rw [← e111]; exact x_up_k (Ne.symm (tne_4_61 t1))
      have q150 : h70 61 1 = h51 61 1 := f72 61 1 (by decide +kernel)
      have q151 : h51 61 1 = h8 61 1 := by rw [← e53]; exact x_up_k (Ne.symm (tne_4_61 t1))
      have q152 : h8 61 1 = h 61 1 := f10 61 1 (by decide +kernel)
      have q153 : h121 (h 61 1) 8 = h109 (h 61 1) 8 := jK 0 f123 (rg_T0_8_0_1 t1) (by omega) (by omega) (by decide)
      have q154 : h109 (h 61 1) 8 = h70 (h 61 1) 8 := by rw [← e111]; exact x_up_k tof_0_4
      have q155 : h70 (h 61 1) 8 = h51 (h 61 1) 8 := jK 0 f72 (rg_T0_8_0_1 t1) (by omega) (by omega) (by decide)
      have q156 : h51 (h 61 1) 8 = h8 (h 61 1) 8 := by rw [← e53]; exact x_up_k tof_0_4
      have e157 : rv h121 1 = (h8 (h 61 1) 8) := (congrArg (fun z => svq h121 z 1) ((((q148.trans q149).trans q150).trans q151).trans q152)).trans (((q153.trans q154).trans q155).trans q156)
      have e158 : rv h 2 = (h ((h 61 1) + 1) 2) := (congrArg (fun z => svq h z 2) rfl).trans rfl
      have q159 : h121 61 1 = h109 61 1 := f123 61 1 (by decide +kernel)
      have q160 : h109 61 1 = h70 61 1 := by rw [← e111]; exact x_up_k (Ne.symm (tne_4_61 t1))
      have q161 : h70 61 1 = h51 61 1 := f72 61 1 (by decide +kernel)
      have q162 : h51 61 1 = h8 61 1 := by rw [← e53]; exact x_up_k (Ne.symm (tne_4_61 t1))
      have q163 : h8 61 1 = h 61 1 := f10 61 1 (by decide +kernel)
      have q164 : h121 ((h 61 1) + 1) 2 = h109 ((h 61 1) + 1) 2 := jK 0 f123 (rg_T1_2_0_1 t1) (by omega) (by omega) (by decide)
      have q165 : h109 ((h 61 1) + 1) 2 = h70 ((h 61 1) + 1) 2 := by rw [← e111]; exact x_up_k tof_1_4
      have q166 : h70 ((h 61 1) + 1) 2 = h51 ((h 61 1) + 1) 2 := jK 0 f72 (rg_T1_2_0_1 t1) (by omega) (by omega) (by decide)
      have q167 : h51 ((h 61 1) + 1) 2 = h8 ((h 61 1) + 1) 2 := by rw [← e53]; exact x_up_k tof_1_4
      have e168 : rv h121 2 = (h8 ((h 61 1) + 1) 2) := (congrArg (fun z => svq h121 z 2) ((((q159.trans q160).trans q161).trans q162).trans q163)).trans (((q164.trans q165).trans q166).trans q167)
      have q169 : h121 61 1 = h109 61 1 := f123 61 1 (by decide +kernel)
      have q170 : h109 61 1 = h70 61 1 := by rw [← e111]; exact x_up_k (Ne.symm (tne_4_61 t1))
      have q171 : h70 61 1 = h51 61 1 := f72 61 1 (by decide +kernel)
      have q172 : h51 61 1 = h8 61 1 := by rw [← e53]; exact x_up_k (Ne.symm (tne_4_61 t1))
      have q173 : h8 61 1 = h 61 1 := f10 61 1 (by decide +kernel)
      have q174 : h121 ((h 61 1) + 3) 2 = h109 ((h 61 1) + 3) 2 := jK 0 f123 (rg_T3_2_0_1 t1) (by omega) (by omega) (by decide)
      have q175 : h109 ((h 61 1) + 3) 2 = h70 ((h 61 1) + 3) 2 := by rw [← e111]; exact x_up_k tof_3_4
      have q176 : h70 ((h 61 1) + 3) 2 = h51 ((h 61 1) + 3) 2 := jK 0 f72 (rg_T3_2_0_1 t1) (by omega) (by omega) (by decide)
      have q177 : h51 ((h 61 1) + 3) 2 = h8 ((h 61 1) + 3) 2 := by rw [← e53]; exact x_up_k tof_3_4
      have e178 : rv h121 3 = (h8 ((h 61 1) + 3) 2) := (congrArg (fun z => svq h121 z 3) ((((q169.trans q170).trans q171).trans q172).trans q173)).trans (((q174.trans q175).trans q176).trans q177)
      have e179 : rv h 4 = (h ((h 61 1) + 5) 2) := (congrArg (fun z => svq h z 4) rfl).trans rfl
      have q180 : h121 61 1 = h109 61 1 := f123 61 1 (by decide +kernel)
      have q181 : h109 61 1 = h70 61 1 := by rw [← e111]; exact x_up_k (Ne.symm (tne_4_61 t1))
      have q182 : h70 61 1 = h51 61 1 := f72 61 1 (by decide +kernel)
      have q183 : h51 61 1 = h8 61 1 := by rw [← e53]; exact x_up_k (Ne.symm (tne_4_61 t1))
      have q184 : h8 61 1 = h 61 1 := f10 61 1 (by decide +kernel)
      have q185 : h121 ((h 61 1) + 5) 2 = h109 ((h 61 1) + 5) 2 := jK 0 f123 (rg_T5_2_0_1 t1) (by omega) (by omega) (by decide)
      have q186 : h109 ((h 61 1) + 5) 2 = h70 ((h 61 1) + 5) 2 := by rw [← e111]; exact x_up_k tof_5_4
      have q187 : h70 ((h 61 1) + 5) 2 = h51 ((h 61 1) + 5) 2 := jK 0 f72 (rg_T5_2_0_1 t1) (by omega) (by omega) (by decide)
      have q188 : h51 ((h 61 1) + 5) 2 = h8 ((h 61 1) + 5) 2 := by rw [← e53]; exact x_up_k tof_5_4
      have e189 : rv h121 4 = (h8 ((h 61 1) + 5) 2) := (congrArg (fun z => svq h121 z 4) ((((q180.trans q181).trans q182).trans q183).trans q184)).trans (((q185.trans q186).trans q187).trans q188)
      have e190 : rv h 5 = (h ((h 61 1) + 7) 2) := (congrArg (fun z => svq h z 5) rfl).trans rfl
      have q191 : h121 61 1 = h109 61 1 := f123 61 1 (by decide +kernel)
      have q192 : h109 61 1 = h70 61 1 := by rw [← e111]; exact x_up_k (Ne.symm (tne_4_61 t1))
      have q193 : h70 61 1 = h51 61 1 := f72 61 1 (by decide +kernel)
      have q194 : h51 61 1 = h8 61 1 := by rw [← e53]; exact x_up_k (Ne.symm (tne_4_61 t1))
      have q195 : h8 61 1 = h 61 1 := f10 61 1 (by decide +kernel)
      have q196 : h121 ((h 61 1) + 7) 2 = h109 ((h 61 1) + 7) 2 := jK 0 f123 (rg_T7_2_0_1 t1) (by omega) (by omega) (by decide)
      have q197 : h109 ((h 61 1) + 7) 2 = h70 ((h 61 1) + 7) 2 := by rw [← e111]; exact x_up_k tof_7_4
      have q198 : h70 ((h 61 1) + 7) 2 = h51 ((h 61 1) + 7) 2 := jK 0 f72 (rg_T7_2_0_1 t1) (by omega) (by omega) (by decide)
      have q199 : h51 ((h 61 1) + 7) 2 = h8 ((h 61 1) + 7) 2 := by rw [← e53]; exact x_up_k tof_7_4
      have e200 : rv h121 5 = (h8 ((h 61 1) + 7) 2) := (congrArg (fun z => svq h121 z 5) ((((q191.trans q192).trans q193).trans q194).trans q195)).trans (((q196.trans q197).trans q198).trans q199)
      have q201 : h51 1 2 = h8 1 2 := by rw [← e53]; exact x_up_k (Ne.symm (tne_4_1 t1))
      have q202 : h8 1 2 = h 1 2 := jK 0 f10 rg_1_2_0_1 (by omega) (by omega) (by decide)
      have q203 : h109 1 2 = h70 1 2 := by rw [← e111]; exact x_up_k (Ne.symm (tne_4_1 t1))
      obtain ⟨w204, e205⟩ := Tk.no c127 (by omega)
      have m206 : Ot (h 61 1) h h8 := Ot.trans Ot.refl (c19)
      have m207 : Ot (h 61 1) h h51 := by rw [← e53]; exact Ot.up (o := 4) m206 t1 (by decide) rfl
      have m208 : Ot (h 61 1) h h70 := Ot.fr m207 f72 (by decide)
      have m209 : Ot (h 61 1) h h109 := by rw [← e111]; exact Ot.up (o := 4) m208 t1 (by decide) rfl
      have m210 : Ot (h 61 1) h h121 := Ot.fr m209 f123 (by decide)
      refine x_retI (np := 129) (x := 0) (by decide +kernel) (by decide) (Or.inr ⟨by decide +kernel, by omega, by omega⟩) ⟨_, rfl, (by decide), ?_⟩
      exact ⟨j122, f128, (by omega), (by omega), (by omega), (by omega), (fun z => by omega), (by omega), (by omega), (nm9.y c77 (by omega) (by omega) (show h51 1 2 = h 1 2 by omega) (by omega) rfl (wd9.f w204 (show h109 1 2 = h70 1 2 by omega) (by omega))), m210⟩
    have q134 : ¬ (v116 = 2147483648) := q134
    have b211 := c125 (by omega)
    refine x_aload (np := 63) (x := 0) (by decide +kernel) rfl (x_nc_le (by decide)) ?_
    refine x_aload (np := 64) (x := 0) (by decide +kernel) rfl (x_nc_le (by decide)) ?_
    have q212 : h121 61 1 = h109 61 1 := f123 61 1 (by decide +kernel)
    have q213 : h109 61 1 = h70 61 1 := by rw [← e111]; exact x_up_k (Ne.symm (tne_4_61 t1))
    have q214 : h70 61 1 = h51 61 1 := f72 61 1 (by decide +kernel)
    have q215 : h51 61 1 = h8 61 1 := by rw [← e53]; exact x_up_k (Ne.symm (tne_4_61 t1))
    have q216 : h8 61 1 = h 61 1 := f10 61 1 (by decide +kernel)
    refine x_getR (np := 67) (x := 577) (f := 1) (q := (h 61 1)) (by decide +kernel) (by decide) (by decide +kernel) ((((q212.trans q213).trans q214).trans q215).trans q216) ?_
    have q217 : h121 (h 61 1) 1 = ((h 61 1) + 3) := tf_0_1 j122 t1
    refine x_getR (np := 70) (x := 513) (f := 1) (q := ((h 61 1) + 3)) (by decide +kernel) (by decide) (tg_0_513_1_1 t1) q217 ?_
    refine x_iload (np := 71) (x := 1) (by decide +kernel) rfl l6 ?_
    refine x_const (np := 72) (x := 9223372043297226753) (a := 2147483649) (by decide +kernel) (by decide) (by decide) ?_
    refine x_const (np := 73) (x := 9223372039002259456) (a := 2147483648) (by decide +kernel) (by decide) (by decide) ?_
    refine x_const (np := 75) (x := 9223372086246899723) (a := 2147483659) (by decide +kernel) (by decide) (by decide) ?_
    refine x_nI (t := 6) (mj := 102) (n := 6) (rc := 10) (ml := 7) (nr := 0) (np := 78) (as := [x_r 61, x_r ((h 61 1) + 3), iv_c v5, iv_c 2147483649, iv_c 2147483648, iv_c 2147483659]) (rest := []) (lo1 := [x_r 61, x_r ((h 61 1) + 3), iv_c v5, iv_c 2147483649, iv_c 2147483648, iv_c 2147483659, 147573952589676412928]) (by decide +kernel) (by decide) (by decide +kernel) (x_rb_of (by decide +kernel)) rfl rfl (x_wr (by decide) (x_wr (tn_3 t1) (x_wi l6 (x_wi (by decide) (x_wi (by decide) (x_wi (by decide) x_wn)))))) x_wn (by decide) rfl ?_
    refine x_aload (np := 1) (x := 0) (by decide +kernel) rfl (x_nc_le (by decide)) ?_
    have q218 : h121 61 0 = 1 := by have z := jB (e := 0) 0 j122 rg_61_0_0_1 (by decide) (by decide); omega
    refine x_getR (np := 4) (x := 576) (f := 0) (q := 1) (by decide +kernel) (by decide) (by decide +kernel) q218 ?_
    refine x_iload (np := 6) (x := 4) (by decide +kernel) rfl (by decide) ?_
    refine x_iload (np := 8) (x := 5) (by decide +kernel) rfl (by decide) ?_
    have m222 := Tp.fr m119 f123 (by decide) (by decide)
    refine x_cI (t := 6) (mj := 79) (n := 3) (rc := 8) (ml := 5) (nr := 0) (np := 11) (as := [x_r 1, iv_c 2147483648, iv_c 2147483659]) (rest := []) (lo1 := [x_r 1, iv_c 2147483648, iv_c 2147483659, 147573952589676412928, 147573952589676412928]) (by decide +kernel) (by decide) (by decide +kernel) (x_rb_of (by decide +kernel)) rfl rfl (x_wr (by decide) (x_wi (by decide) (x_wi (by decide) x_wn))) x_wn (by decide) rfl (c79_1_c0 j122   (by omega) m222) (fun v219 h223 l220 q221 => ?_)
    obtain ⟨j224, f225, b226, c227, c228, c229, c230⟩ := q221
    have f231 := Fr.trans f128 f225 (by decide)
    have b232 := jB (e := 2) 0 j224 rg_1_2_0_1 (by omega) (by omega)
    refine x_istore (np := 13) (x := 6) (lo' := [x_r 61, x_r ((h 61 1) + 3), iv_c v5, iv_c 2147483649, iv_c 2147483648, iv_c 2147483659, iv_c v219]) (by decide +kernel) l220 (Nat.le_of_ble_eq_true rfl) rfl ?_
    refine x_iload (np := 15) (x := 6) (by decide +kernel) rfl l220 ?_
    refine x_const (np := 16) (x := 9223372034707292159) (a := 2147483647) (by decide +kernel) (by decide) (by decide) ?_
    refine x_icmp (k := 1) (tg := 21) (np := 19) (by decide +kernel) (by decide) l220 (by decide) (fun q233 => ?_) (fun q234 => ?_)
    · have q233 : v219 ≠ 2147483647 := q233
      have b235 := c228 (by omega)
      refine x_aload (np := 22) (x := 1) (by decide +kernel) rfl (x_nc_le (tn_3 t1)) ?_
      refine x_iload (np := 23) (x := 2) (by decide +kernel) rfl l6 ?_
      refine x_iload (np := 24) (x := 3) (by decide +kernel) rfl (by decide) ?_
      refine x_iload (np := 26) (x := 6) (by decide +kernel) rfl l220 ?_
      refine x_nV (t := 6) (mj := 69) (n := 4) (rc := 7) (ml := 5) (nr := 0) (np := 29) (as := [x_r ((h 61 1) + 3), iv_c v5, iv_c 2147483649, iv_c v219]) (rest := []) (lo1 := [x_r ((h 61 1) + 3), iv_c v5, iv_c 2147483649, iv_c v219, 147573952589676412928]) (by decide +kernel) (by decide) (by decide +kernel) (x_rb_of (tr_3_7 t1)) rfl rfl (x_wr (tn_3 t1) (x_wi l6 (x_wi (by decide) (x_wi l220 x_wn)))) x_wn (by decide) rfl ?_
      refine x_iload (np := 1) (x := 1) (by decide +kernel) rfl l6 ?_
      refine x_ifz (k := 2) (tg := 28) (np := 4) (by decide +kernel) (by decide) l6 (fun q236 => ?_) (fun q237 => ?_)
      · have q236 : v5 < 2147483648 := q236
        exfalso; omega
      have q237 : ¬ (v5 < 2147483648) := q237
      refine x_iload (np := 5) (x := 1) (by decide +kernel) rfl l6 ?_
      refine x_aload (np := 6) (x := 0) (by decide +kernel) rfl (x_nc_le (tn_3 t1)) ?_
      have q238 : h223 ((h 61 1) + 3) 2 = h121 ((h 61 1) + 3) 2 := jK 0 f225 (rg_T3_2_0_1 t1) (by omega) (by omega) (by decide)
      have q239 : h121 ((h 61 1) + 3) 2 = h109 ((h 61 1) + 3) 2 := jK 0 f123 (rg_T3_2_0_1 t1) (by omega) (by omega) (by decide)
      have q240 : h109 ((h 61 1) + 3) 2 = h70 ((h 61 1) + 3) 2 := by rw [← e111]; exact x_up_k tof_3_4
      have q241 : h70 ((h 61 1) + 3) 2 = h51 ((h 61 1) + 3) 2 := jK 0 f72 (rg_T3_2_0_1 t1) (by omega) (by omega) (by decide)
      have q242 : h51 ((h 61 1) + 3) 2 = h8 ((h 61 1) + 3) 2 := by rw [← e53]; exact x_up_k tof_3_4
      refine x_getC (np := 9) (x := 386) (f := 2) (q := (h8 ((h 61 1) + 3) 2)) (by decide +kernel) (by decide) (tg_3_386_2_0 t1) ((((q238.trans q239).trans q240).trans q241).trans q242) (fun l243 => ?_)
      refine x_icmp (k := 3) (tg := 28) (np := 12) (by decide +kernel) (by decide) l6 l34 (fun q244 => ?_) (fun q245 => ?_)
      · have q244 : (h8 ((h 61 1) + 3) 2) ≤ v5 := q244
        exfalso; omega
      have q245 : ¬ ((h8 ((h 61 1) + 3) 2) ≤ v5) := q245
      refine x_iload (np := 13) (x := 2) (by decide +kernel) rfl (by decide) ?_
      refine x_ifz (k := 2) (tg := 28) (np := 16) (by decide +kernel) (by decide) (by decide) (fun q246 => ?_) (fun q247 => ?_)
      · have q246 : 2147483649 < 2147483648 := q246
        exfalso; omega
      have q247 : ¬ (2147483649 < 2147483648) := q247
      refine x_iload (np := 17) (x := 2) (by decide +kernel) rfl (by decide) ?_
      refine x_aload (np := 18) (x := 0) (by decide +kernel) rfl (x_nc_le (tn_3 t1)) ?_
      have q248 : h223 ((h 61 1) + 3) 0 = h121 ((h 61 1) + 3) 0 := jK 0 f225 (rg_T3_0_0_1 t1) (by omega) (by omega) (by decide)
      have q249 : h121 ((h 61 1) + 3) 0 = h109 ((h 61 1) + 3) 0 := jK 0 f123 (rg_T3_0_0_1 t1) (by omega) (by omega) (by decide)
      have q250 : h109 ((h 61 1) + 3) 0 = h70 ((h 61 1) + 3) 0 := by rw [← e111]; exact x_up_k tof_3_4
      have q251 : h70 ((h 61 1) + 3) 0 = h51 ((h 61 1) + 3) 0 := jK 0 f72 (rg_T3_0_0_1 t1) (by omega) (by omega) (by decide)
      have q252 : h51 ((h 61 1) + 3) 0 = h8 ((h 61 1) + 3) 0 := by rw [← e53]; exact x_up_k tof_3_4
      refine x_getC (np := 21) (x := 384) (f := 0) (q := 2147483652) (by decide +kernel) (by decide) (tg_3_384_0_0 t1) (((((q248.trans q249).trans q250).trans q251).trans q252).trans q40) (fun l253 => ?_)
      refine x_icmp (k := 3) (tg := 28) (np := 24) (by decide +kernel) (by decide) (by decide) (by decide) (fun q254 => ?_) (fun q255 => ?_)
      · have q254 : 2147483652 ≤ 2147483649 := q254
        exfalso; omega
      have q255 : ¬ (2147483652 ≤ 2147483649) := q255
      refine x_const (np := 25) (x := 9223372043297226753) (a := 2147483649) (by decide +kernel) (by decide) (by decide) ?_
      refine x_goto (np := 28) (x := 29) (by decide +kernel) ?_
      refine x_istore (np := 31) (x := 4) (lo' := [x_r ((h 61 1) + 3), iv_c v5, iv_c 2147483649, iv_c v219, iv_c 2147483649]) (by decide +kernel) (by decide) (Nat.le_of_ble_eq_true rfl) rfl ?_
      refine x_iload (np := 33) (x := 4) (by decide +kernel) rfl (by decide) ?_
      refine x_ifz (k := 0) (tg := 50) (np := 36) (by decide +kernel) (by decide) (by decide) (fun q256 => ?_) (fun q257 => ?_)
      · have q256 : 2147483649 = 2147483648 := q256
        exfalso; omega
      have q257 : ¬ (2147483649 = 2147483648) := q257
      refine x_aload (np := 37) (x := 0) (by decide +kernel) rfl (x_nc_le (tn_3 t1)) ?_
      have q258 : h223 ((h 61 1) + 3) 1 = ((h 61 1) + 4) := tf_3_1 j224 t1
      refine x_getR (np := 40) (x := 385) (f := 1) (q := ((h 61 1) + 4)) (by decide +kernel) (by decide) (tg_3_385_1_1 t1) q258 ?_
      refine x_iload (np := 41) (x := 1) (by decide +kernel) rfl l6 ?_
      refine x_aload (np := 42) (x := 0) (by decide +kernel) rfl (x_nc_le (tn_3 t1)) ?_
      have q259 : h223 ((h 61 1) + 3) 0 = h121 ((h 61 1) + 3) 0 := jK 0 f225 (rg_T3_0_0_1 t1) (by omega) (by omega) (by decide)
      have q260 : h121 ((h 61 1) + 3) 0 = h109 ((h 61 1) + 3) 0 := jK 0 f123 (rg_T3_0_0_1 t1) (by omega) (by omega) (by decide)
      have q261 : h109 ((h 61 1) + 3) 0 = h70 ((h 61 1) + 3) 0 := by rw [← e111]; exact x_up_k tof_3_4
      have q262 : h70 ((h 61 1) + 3) 0 = h51 ((h 61 1) + 3) 0 := jK 0 f72 (rg_T3_0_0_1 t1) (by omega) (by omega) (by decide)
      have q263 : h51 ((h 61 1) + 3) 0 = h8 ((h 61 1) + 3) 0 := by rw [← e53]; exact x_up_k tof_3_4
      refine x_getC (np := 45) (x := 384) (f := 0) (q := 2147483652) (by decide +kernel) (by decide) (tg_3_384_0_0 t1) (((((q259.trans q260).trans q261).trans q262).trans q263).trans q40) (fun l264 => ?_)
      refine x_imul (np := 46) (x := 0) (i := u48) (j := 4) (v := (2147483648 + 4 * u48)) (by decide +kernel) (by omega) (by omega) (by omega) (by omega) l6 (by decide) ?_
      refine x_iload (np := 47) (x := 2) (by decide +kernel) rfl (by decide) ?_
      refine x_iadd (np := 48) (x := 0) (v := (2147483649 + 4 * u48)) (by decide +kernel) (by omega) (by decide) (by omega) (by omega) ?_
      refine x_iload (np := 49) (x := 3) (by decide +kernel) rfl l220 ?_
      refine x_ast (np := 50) (x := 0) (kd := 1) (n := 40) (i := (1 + 4 * u48)) (by decide +kernel) (Or.inl rfl) (ta_4_40 t1) (by omega) (by omega) (by decide) l220 (fun z => absurd z (by decide)) ?_
      have j267 := jU (e := (1 + 4 * u48)) (v := v219) u48 j224 (rg_T4_1_4_10 t1) (by omega) (by omega) (by omega)
      have f269 := jF (e := (1 + 4 * u48)) (v := v219) u48 f231 (rg_T4_1_4_10 t1) (by omega) (by omega) (by decide)
      generalize e268 : x_up h223 ((h 61 1) + 4) (1 + 4 * u48) v219 = h266 at j267 f269 ⊢
      refine x_retV (np := 51) (x := 0) (by decide +kernel) (by decide +kernel) ⟨rfl, ?_⟩
      refine x_const (np := 30) (x := 9223372043297226753) (a := 2147483649) (by decide +kernel) (by decide) (by decide) ?_
      refine x_retI (np := 31) (x := 0) (by decide +kernel) (by decide) (Or.inr ⟨by decide +kernel, by omega, by omega⟩) ⟨_, rfl, (by decide), ?_⟩
      refine x_ifz (k := 0) (tg := 127) (np := 81) (by decide +kernel) (by decide) (by decide) (fun q270 => ?_) (fun q271 => ?_)
      · have q270 : 2147483649 = 2147483648 := q270
        exfalso; omega
      have q271 : ¬ (2147483649 = 2147483648) := q271
      refine x_aload (np := 82) (x := 0) (by decide +kernel) rfl (x_nc_le (by decide)) ?_
      have q272 : h266 61 0 = 1 := by have z := jB (e := 0) 0 j267 rg_61_0_0_1 (by decide) (by decide); omega
      refine x_getR (np := 85) (x := 576) (f := 0) (q := 1) (by decide +kernel) (by decide) (by decide +kernel) q272 ?_
      refine x_ldcB (i := 7) (idx := 144) (tx := "read") (by rw [tb_y98]; exact List.mem_of_getElem? (i := 7) rfl) (by decide) (by rw [tb_b98]; decide +kernel) ?_
      have m277 := Tp.fr m222 f225 (by decide) (by decide)
      have m276 : Tp tB tN h266 := by rw [← e268]; exact Tp.oth m277 (tne_4_2 t1) (fun z => absurd z.1 (tne_4_1 t1))
      refine x_cI (t := 6) (mj := 78) (n := 2) (rc := 8) (ml := 2) (nr := 0) (np := 90) (as := [x_r 1, x_b (7 + 1)]) (rest := []) (lo1 := [x_r 1, x_b (7 + 1)]) (by decide +kernel) (by decide) (by decide +kernel) (x_rb_of (by decide +kernel)) rfl rfl (x_wr (by decide) (x_wB (by decide) x_wn)) x_wn (by decide) rfl (c78_1_S0 j267  (by decide) m276) (fun v273 h278 l274 q275 => ?_)
      obtain ⟨j279, f280, b281, c282, c283, c284⟩ := q275
      have f285 := Fr.trans f269 f280 (by decide)
      have q286 : h266 1 2 = h223 1 2 := by rw [← e268]; exact x_up_k (Ne.symm (tne_4_1 t1))
      have b287 := jB (e := 2) 0 j279 rg_1_2_0_1 (by omega) (by omega)
      have b288 : iv_tl 7 = 4 := by decide
      have q289 : h266 1 2 = h223 1 2 := by rw [← e268]; exact x_up_k (Ne.symm (tne_4_1 t1))
      refine x_ifz (k := 0) (tg := 127) (np := 93) (by decide +kernel) (by decide) l274 (fun q290 => ?_) (fun q291 => ?_)
      · have q290 : v273 = 2147483648 := q290
        have b292 := c283 (by omega)
        refine x_const (np := 128) (x := 9223372039002259456) (a := 2147483648) (by decide +kernel) (by decide) (by decide) ?_
        have e293 : rv h 0 = (h (h 61 1) 7) := (congrArg (fun z => svq h z 0) rfl).trans rfl
        have q294 : h278 61 1 = h266 61 1 := f280 61 1 (by decide +kernel)
        have q295 : h266 61 1 = h223 61 1 := by rw [← e268]; exact x_up_k (Ne.symm (tne_4_61 t1))
        have q296 : h223 61 1 = h121 61 1 := f225 61 1 (by decide +kernel)
        have q297 : h121 61 1 = h109 61 1 := f123 61 1 (by decide +kernel)
        have q298 : h109 61 1 = h70 61 1 := by rw [← e111]; exact x_up_k (Ne.symm (tne_4_61 t1))
        have q299 : h70 61 1 = h51 61 1 := f72 61 1 (by decide +kernel)
        have q300 : h51 61 1 = h8 61 1 := by rw [← e53]; exact x_up_k (Ne.symm (tne_4_61 t1))
        have q301 : h8 61 1 = h 61 1 := f10 61 1 (by decide +kernel)
        have q302 : h278 (h 61 1) 7 = h266 (h 61 1) 7 := jK 0 f280 (rg_T0_7_0_1 t1) (by omega) (by omega) (by decide)
        have q303 : h266 (h 61 1) 7 = h223 (h 61 1) 7 := by rw [← e268]; exact x_up_k tof_0_4
        have q304 : h223 (h 61 1) 7 = h121 (h 61 1) 7 := jK 0 f225 (rg_T0_7_0_1 t1) (by omega) (by omega) (by decide)
        have q305 : h121 (h 61 1) 7 = h109 (h 61 1) 7 := jK 0 f123 (rg_T0_7_0_1 t1) (by omega) (by omega) (by decide)
        have q306 : h109 (h 61 1) 7 = h70 (h 61 1) 7 := by rw [← e111]; exact x_up_k tof_0_4
        have q307 : h70 (h 61 1) 7 = h51 (h 61 1) 7 := jK 0 f72 (rg_T0_7_0_1 t1) (by omega) (by omega) (by decide)
        have q308 : h51 (h 61 1) 7 = h8 (h 61 1) 7 := by rw [← e53]; exact x_up_k tof_0_4
        have e309 : rv h278 0 = (h8 (h 61 1) 7) := (congrArg (fun z => svq h278 z 0) (((((((q294.trans q295).trans q296).trans q297).trans q298).trans q299).trans q300).trans q301)).trans ((((((q302.trans q303).trans q304).trans q305).trans q306).trans q307).trans q308)
        have e310 : rv h 1 = (h (h 61 1) 8) := (congrArg (fun z => svq h z 1) rfl).trans rfl
        have q311 : h278 61 1 = h266 61 1 := f280 61 1 (by decide +kernel)
        have q312 : h266 61 1 = h223 61 1 := by rw [← e268]; exact x_up_k (Ne.symm (tne_4_61 t1))
        have q313 : h223 61 1 = h121 61 1 := f225 61 1 (by decide +kernel)
        have q314 : h121 61 1 = h109 61 1 := f123 61 1 (by decide +kernel)
        have q315 : h109 61 1 = h70 61 1 := by rw [← e111]; exact x_up_k (Ne.symm (tne_4_61 t1))
        have q316 : h70 61 1 = h51 61 1 := f72 61 1 (by decide +kernel)
        have q317 : h51 61 1 = h8 61 1 := by rw [← e53]; exact x_up_k (Ne.symm (tne_4_61 t1))
        have q318 : h8 61 1 = h 61 1 := f10 61 1 (by decide +kernel)
        have q319 : h278 (h 61 1) 8 = h266 (h 61 1) 8 := jK 0 f280 (rg_T0_8_0_1 t1) (by omega) (by omega) (by decide)
        have q320 : h266 (h 61 1) 8 = h223 (h 61 1) 8 := by rw [← e268]; exact x_up_k tof_0_4
        have q321 : h223 (h 61 1) 8 = h121 (h 61 1) 8 := jK 0 f225 (rg_T0_8_0_1 t1) (by omega) (by omega) (by decide)
        have q322 : h121 (h 61 1) 8 = h109 (h 61 1) 8 := jK 0 f123 (rg_T0_8_0_1 t1) (by omega) (by omega) (by decide)
        have q323 : h109 (h 61 1) 8 = h70 (h 61 1) 8 := by rw [← e111]; exact x_up_k tof_0_4
        have q324 : h70 (h 61 1) 8 = h51 (h 61 1) 8 := jK 0 f72 (rg_T0_8_0_1 t1) (by omega) (by omega) (by decide)
        have q325 : h51 (h 61 1) 8 = h8 (h 61 1) 8 := by rw [← e53]; exact x_up_k tof_0_4
        have e326 : rv h278 1 = (h8 (h 61 1) 8) := (congrArg (fun z => svq h278 z 1) (((((((q311.trans q312).trans q313).trans q314).trans q315).trans q316).trans q317).trans q318)).trans ((((((q319.trans q320).trans q321).trans q322).trans q323).trans q324).trans q325)
        have e327 : rv h 2 = (h ((h 61 1) + 1) 2) := (congrArg (fun z => svq h z 2) rfl).trans rfl
        have q328 : h278 61 1 = h266 61 1 := f280 61 1 (by decide +kernel)
        have q329 : h266 61 1 = h223 61 1 := by rw [← e268]; exact x_up_k (Ne.symm (tne_4_61 t1))
        have q330 : h223 61 1 = h121 61 1 := f225 61 1 (by decide +kernel)
        have q331 : h121 61 1 = h109 61 1 := f123 61 1 (by decide +kernel)
        have q332 : h109 61 1 = h70 61 1 := by rw [← e111]; exact x_up_k (Ne.symm (tne_4_61 t1))
        have q333 : h70 61 1 = h51 61 1 := f72 61 1 (by decide +kernel)
        have q334 : h51 61 1 = h8 61 1 := by rw [← e53]; exact x_up_k (Ne.symm (tne_4_61 t1))
        have q335 : h8 61 1 = h 61 1 := f10 61 1 (by decide +kernel)
        have q336 : h278 ((h 61 1) + 1) 2 = h266 ((h 61 1) + 1) 2 := jK 0 f280 (rg_T1_2_0_1 t1) (by omega) (by omega) (by decide)
        have q337 : h266 ((h 61 1) + 1) 2 = h223 ((h 61 1) + 1) 2 := by rw [← e268]; exact x_up_k tof_1_4
        have q338 : h223 ((h 61 1) + 1) 2 = h121 ((h 61 1) + 1) 2 := jK 0 f225 (rg_T1_2_0_1 t1) (by omega) (by omega) (by decide)
        have q339 : h121 ((h 61 1) + 1) 2 = h109 ((h 61 1) + 1) 2 := jK 0 f123 (rg_T1_2_0_1 t1) (by omega) (by omega) (by decide)
        have q340 : h109 ((h 61 1) + 1) 2 = h70 ((h 61 1) + 1) 2 := by rw [← e111]; exact x_up_k tof_1_4
        have q341 : h70 ((h 61 1) + 1) 2 = h51 ((h 61 1) + 1) 2 := jK 0 f72 (rg_T1_2_0_1 t1) (by omega) (by omega) (by decide)
        have q342 : h51 ((h 61 1) + 1) 2 = h8 ((h 61 1) + 1) 2 := by rw [← e53]; exact x_up_k tof_1_4
        have e343 : rv h278 2 = (h8 ((h 61 1) + 1) 2) := (congrArg (fun z => svq h278 z 2) (((((((q328.trans q329).trans q330).trans q331).trans q332).trans q333).trans q334).trans q335)).trans ((((((q336.trans q337).trans q338).trans q339).trans q340).trans q341).trans q342)
        have q344 : h278 61 1 = h266 61 1 := f280 61 1 (by decide +kernel)
        have q345 : h266 61 1 = h223 61 1 := by rw [← e268]; exact x_up_k (Ne.symm (tne_4_61 t1))
        have q346 : h223 61 1 = h121 61 1 := f225 61 1 (by decide +kernel)
        have q347 : h121 61 1 = h109 61 1 := f123 61 1 (by decide +kernel)
        have q348 : h109 61 1 = h70 61 1 := by rw [← e111]; exact x_up_k (Ne.symm (tne_4_61 t1))
        have q349 : h70 61 1 = h51 61 1 := f72 61 1 (by decide +kernel)
        have q350 : h51 61 1 = h8 61 1 := by rw [← e53]; exact x_up_k (Ne.symm (tne_4_61 t1))
        have q351 : h8 61 1 = h 61 1 := f10 61 1 (by decide +kernel)
        have q352 : h278 ((h 61 1) + 3) 2 = h266 ((h 61 1) + 3) 2 := jK 0 f280 (rg_T3_2_0_1 t1) (by omega) (by omega) (by decide)
        have q353 : h266 ((h 61 1) + 3) 2 = h223 ((h 61 1) + 3) 2 := by rw [← e268]; exact x_up_k tof_3_4
        have q354 : h223 ((h 61 1) + 3) 2 = h121 ((h 61 1) + 3) 2 := jK 0 f225 (rg_T3_2_0_1 t1) (by omega) (by omega) (by decide)
        have q355 : h121 ((h 61 1) + 3) 2 = h109 ((h 61 1) + 3) 2 := jK 0 f123 (rg_T3_2_0_1 t1) (by omega) (by omega) (by decide)
        have q356 : h109 ((h 61 1) + 3) 2 = h70 ((h 61 1) + 3) 2 := by rw [← e111]; exact x_up_k tof_3_4
        have q357 : h70 ((h 61 1) + 3) 2 = h51 ((h 61 1) + 3) 2 := jK 0 f72 (rg_T3_2_0_1 t1) (by omega) (by omega) (by decide)
        have q358 : h51 ((h 61 1) + 3) 2 = h8 ((h 61 1) + 3) 2 := by rw [← e53]; exact x_up_k tof_3_4
        have e359 : rv h278 3 = (h8 ((h 61 1) + 3) 2) := (congrArg (fun z => svq h278 z 3) (((((((q344.trans q345).trans q346).trans q347).trans q348).trans q349).trans q350).trans q351)).trans ((((((q352.trans q353).trans q354).trans q355).trans q356).trans q357).trans q358)
        have e360 : rv h 4 = (h ((h 61 1) + 5) 2) := (congrArg (fun z => svq h z 4) rfl).trans rfl
        have q361 : h278 61 1 = h266 61 1 := f280 61 1 (by decide +kernel)
        have q362 : h266 61 1 = h223 61 1 := by rw [← e268]; exact x_up_k (Ne.symm (tne_4_61 t1))
        have q363 : h223 61 1 = h121 61 1 := f225 61 1 (by decide +kernel)
        have q364 : h121 61 1 = h109 61 1 := f123 61 1 (by decide +kernel)
        have q365 : h109 61 1 = h70 61 1 := by rw [← e111]; exact x_up_k (Ne.symm (tne_4_61 t1))
        have q366 : h70 61 1 = h51 61 1 := f72 61 1 (by decide +kernel)
        have q367 : h51 61 1 = h8 61 1 := by rw [← e53]; exact x_up_k (Ne.symm (tne_4_61 t1))
        have q368 : h8 61 1 = h 61 1 := f10 61 1 (by decide +kernel)
        have q369 : h278 ((h 61 1) + 5) 2 = h266 ((h 61 1) + 5) 2 := jK 0 f280 (rg_T5_2_0_1 t1) (by omega) (by omega) (by decide)
        have q370 : h266 ((h 61 1) + 5) 2 = h223 ((h 61 1) + 5) 2 := by rw [← e268]; exact x_up_k tof_5_4
        have q371 : h223 ((h 61 1) + 5) 2 = h121 ((h 61 1) + 5) 2 := jK 0 f225 (rg_T5_2_0_1 t1) (by omega) (by omega) (by decide)
        have q372 : h121 ((h 61 1) + 5) 2 = h109 ((h 61 1) + 5) 2 := jK 0 f123 (rg_T5_2_0_1 t1) (by omega) (by omega) (by decide)
        have q373 : h109 ((h 61 1) + 5) 2 = h70 ((h 61 1) + 5) 2 := by rw [← e111]; exact x_up_k tof_5_4
        have q374 : h70 ((h 61 1) + 5) 2 = h51 ((h 61 1) + 5) 2 := jK 0 f72 (rg_T5_2_0_1 t1) (by omega) (by omega) (by decide)
        have q375 : h51 ((h 61 1) + 5) 2 = h8 ((h 61 1) + 5) 2 := by rw [← e53]; exact x_up_k tof_5_4
        have e376 : rv h278 4 = (h8 ((h 61 1) + 5) 2) := (congrArg (fun z => svq h278 z 4) (((((((q361.trans q362).trans q363).trans q364).trans q365).trans q366).trans q367).trans q368)).trans ((((((q369.trans q370).trans q371).trans q372).trans q373).trans q374).trans q375)
        have e377 : rv h 5 = (h ((h 61 1) + 7) 2) := (congrArg (fun z => svq h z 5) rfl).trans rfl
        have q378 : h278 61 1 = h266 61 1 := f280 61 1 (by decide +kernel)
        have q379 : h266 61 1 = h223 61 1 := by rw [← e268]; exact x_up_k (Ne.symm (tne_4_61 t1))
        have q380 : h223 61 1 = h121 61 1 := f225 61 1 (by decide +kernel)
        have q381 : h121 61 1 = h109 61 1 := f123 61 1 (by decide +kernel)
        have q382 : h109 61 1 = h70 61 1 := by rw [← e111]; exact x_up_k (Ne.symm (tne_4_61 t1))
        have q383 : h70 61 1 = h51 61 1 := f72 61 1 (by decide +kernel)
        have q384 : h51 61 1 = h8 61 1 := by rw [← e53]; exact x_up_k (Ne.symm (tne_4_61 t1))
        have q385 : h8 61 1 = h 61 1 := f10 61 1 (by decide +kernel)
        have q386 : h278 ((h 61 1) + 7) 2 = h266 ((h 61 1) + 7) 2 := jK 0 f280 (rg_T7_2_0_1 t1) (by omega) (by omega) (by decide)
        have q387 : h266 ((h 61 1) + 7) 2 = h223 ((h 61 1) + 7) 2 := by rw [← e268]; exact x_up_k tof_7_4
        have q388 : h223 ((h 61 1) + 7) 2 = h121 ((h 61 1) + 7) 2 := jK 0 f225 (rg_T7_2_0_1 t1) (by omega) (by omega) (by decide)
        have q389 : h121 ((h 61 1) + 7) 2 = h109 ((h 61 1) + 7) 2 := jK 0 f123 (rg_T7_2_0_1 t1) (by omega) (by omega) (by decide)
        have q390 : h109 ((h 61 1) + 7) 2 = h70 ((h 61 1) + 7) 2 := by rw [← e111]; exact x_up_k tof_7_4
        have q391 : h70 ((h 61 1) + 7) 2 = h51 ((h 61 1) + 7) 2 := jK 0 f72 (rg_T7_2_0_1 t1) (by omega) (by omega) (by decide)
        have q392 : h51 ((h 61 1) + 7) 2 = h8 ((h 61 1) + 7) 2 := by rw [← e53]; exact x_up_k tof_7_4
        have e393 : rv h278 5 = (h8 ((h 61 1) + 7) 2) := (congrArg (fun z => svq h278 z 5) (((((((q378.trans q379).trans q380).trans q381).trans q382).trans q383).trans q384).trans q385)).trans ((((((q386.trans q387).trans q388).trans q389).trans q390).trans q391).trans q392)
        have q394 : h51 1 2 = h8 1 2 := by rw [← e53]; exact x_up_k (Ne.symm (tne_4_1 t1))
        have q395 : h8 1 2 = h 1 2 := jK 0 f10 rg_1_2_0_1 (by omega) (by omega) (by decide)
        have q396 : h109 1 2 = h70 1 2 := by rw [← e111]; exact x_up_k (Ne.symm (tne_4_1 t1))
        obtain ⟨w397, e398⟩ := Tk.yes c127 (by omega)
        have q399 : h266 1 2 = h223 1 2 := by rw [← e268]; exact x_up_k (Ne.symm (tne_4_1 t1))
        obtain ⟨w400, e401⟩ := Tk.no c284 (by omega)
        have m402 : Ot (h 61 1) h h8 := Ot.trans Ot.refl (c19)
        have m403 : Ot (h 61 1) h h51 := by rw [← e53]; exact Ot.up (o := 4) m402 t1 (by decide) rfl
        have m404 : Ot (h 61 1) h h70 := Ot.fr m403 f72 (by decide)
        have m405 : Ot (h 61 1) h h109 := by rw [← e111]; exact Ot.up (o := 4) m404 t1 (by decide) rfl
        have m406 : Ot (h 61 1) h h121 := Ot.fr m405 f123 (by decide)
        have m407 : Ot (h 61 1) h h223 := Ot.fr m406 f225 (by decide)
        have m408 : Ot (h 61 1) h h266 := by rw [← e268]; exact Ot.up (o := 4) m407 t1 (by decide) rfl
        have m409 : Ot (h 61 1) h h278 := Ot.fr m408 f280 (by decide)
        refine x_retI (np := 129) (x := 0) (by decide +kernel) (by decide) (Or.inr ⟨by decide +kernel, by omega, by omega⟩) ⟨_, rfl, (by decide), ?_⟩
        exact ⟨j279, f285, (by omega), (by omega), (by omega), (by omega), (fun z => by omega), (by omega), (by omega), (nm9.y c77 (by omega) (by omega) (show h51 1 2 = h 1 2 by omega) (by omega) rfl (wd9.y w397 (show h109 1 2 = h70 1 2 by omega) e398 rfl (nm9.y c230 (by omega) (by omega) rfl (by omega) rfl (wd9.f w400 (show h266 1 2 = h223 1 2 by omega) (by omega))))), m409⟩
      have q291 : ¬ (v273 = 2147483648) := q291
      have b410 := c282 (by omega)
      refine x_aload (np := 94) (x := 0) (by decide +kernel) rfl (x_nc_le (by decide)) ?_
      refine x_aload (np := 95) (x := 0) (by decide +kernel) rfl (x_nc_le (by decide)) ?_
      have q411 : h278 61 1 = h266 61 1 := f280 61 1 (by decide +kernel)
      have q412 : h266 61 1 = h223 61 1 := by rw [← e268]; exact x_up_k (Ne.symm (tne_4_61 t1))
      have q413 : h223 61 1 = h121 61 1 := f225 61 1 (by decide +kernel)
      have q414 : h121 61 1 = h109 61 1 := f123 61 1 (by decide +kernel)
      have q415 : h109 61 1 = h70 61 1 := by rw [← e111]; exact x_up_k (Ne.symm (tne_4_61 t1))
      have q416 : h70 61 1 = h51 61 1 := f72 61 1 (by decide +kernel)
      have q417 : h51 61 1 = h8 61 1 := by rw [← e53]; exact x_up_k (Ne.symm (tne_4_61 t1))
      have q418 : h8 61 1 = h 61 1 := f10 61 1 (by decide +kernel)
      refine x_getR (np := 98) (x := 577) (f := 1) (q := (h 61 1)) (by decide +kernel) (by decide) (by decide +kernel) (((((((q411.trans q412).trans q413).trans q414).trans q415).trans q416).trans q417).trans q418) ?_
      have q419 : h278 (h 61 1) 1 = ((h 61 1) + 3) := tf_0_1 j279 t1
      refine x_getR (np := 101) (x := 513) (f := 1) (q := ((h 61 1) + 3)) (by decide +kernel) (by decide) (tg_0_513_1_1 t1) q419 ?_
      refine x_iload (np := 102) (x := 1) (by decide +kernel) rfl l6 ?_
      refine x_const (np := 103) (x := 9223372047592194050) (a := 2147483650) (by decide +kernel) (by decide) (by decide) ?_
      refine x_aload (np := 104) (x := 0) (by decide +kernel) rfl (x_nc_le (by decide)) ?_
      have q420 : h278 61 1 = h266 61 1 := f280 61 1 (by decide +kernel)
      have q421 : h266 61 1 = h223 61 1 := by rw [← e268]; exact x_up_k (Ne.symm (tne_4_61 t1))
      have q422 : h223 61 1 = h121 61 1 := f225 61 1 (by decide +kernel)
      have q423 : h121 61 1 = h109 61 1 := f123 61 1 (by decide +kernel)
      have q424 : h109 61 1 = h70 61 1 := by rw [← e111]; exact x_up_k (Ne.symm (tne_4_61 t1))
      have q425 : h70 61 1 = h51 61 1 := f72 61 1 (by decide +kernel)
      have q426 : h51 61 1 = h8 61 1 := by rw [← e53]; exact x_up_k (Ne.symm (tne_4_61 t1))
      have q427 : h8 61 1 = h 61 1 := f10 61 1 (by decide +kernel)
      refine x_getR (np := 107) (x := 577) (f := 1) (q := (h 61 1)) (by decide +kernel) (by decide) (by decide +kernel) (((((((q420.trans q421).trans q422).trans q423).trans q424).trans q425).trans q426).trans q427) ?_
      have q428 : h278 (h 61 1) 1 = ((h 61 1) + 3) := tf_0_1 j279 t1
      refine x_getR (np := 110) (x := 513) (f := 1) (q := ((h 61 1) + 3)) (by decide +kernel) (by decide) (tg_0_513_1_1 t1) q428 ?_
      refine x_iload (np := 111) (x := 1) (by decide +kernel) rfl l6 ?_
      refine x_const (np := 112) (x := 9223372043297226753) (a := 2147483649) (by decide +kernel) (by decide) (by decide) ?_
      refine x_nI (t := 6) (mj := 68) (n := 3) (rc := 7) (ml := 4) (nr := 4) (np := 115) (as := [x_r ((h 61 1) + 3), iv_c v5, iv_c 2147483649]) (rest := [iv_c 2147483650, iv_c v5, x_r ((h 61 1) + 3), x_r 61]) (lo1 := [x_r ((h 61 1) + 3), iv_c v5, iv_c 2147483649, 147573952589676412928]) (by decide +kernel) (by decide) (by decide +kernel) (x_rb_of (tr_3_7 t1)) rfl rfl (x_wr (tn_3 t1) (x_wi l6 (x_wi (by decide) x_wn))) (x_wi (by decide) (x_wi l6 (x_wr (tn_3 t1) (x_wr (by decide) x_wn)))) (by decide) rfl ?_
      refine x_iload (np := 1) (x := 1) (by decide +kernel) rfl l6 ?_
      refine x_ifz (k := 2) (tg := 28) (np := 4) (by decide +kernel) (by decide) l6 (fun q436 => ?_) (fun q437 => ?_)
      · have q436 : v5 < 2147483648 := q436
        exfalso; omega
      have q437 : ¬ (v5 < 2147483648) := q437
      refine x_iload (np := 5) (x := 1) (by decide +kernel) rfl l6 ?_
      refine x_aload (np := 6) (x := 0) (by decide +kernel) rfl (x_nc_le (tn_3 t1)) ?_
      have q438 : h278 ((h 61 1) + 3) 2 = h266 ((h 61 1) + 3) 2 := jK 0 f280 (rg_T3_2_0_1 t1) (by omega) (by omega) (by decide)
      have q439 : h266 ((h 61 1) + 3) 2 = h223 ((h 61 1) + 3) 2 := by rw [← e268]; exact x_up_k tof_3_4
      have q440 : h223 ((h 61 1) + 3) 2 = h121 ((h 61 1) + 3) 2 := jK 0 f225 (rg_T3_2_0_1 t1) (by omega) (by omega) (by decide)
      have q441 : h121 ((h 61 1) + 3) 2 = h109 ((h 61 1) + 3) 2 := jK 0 f123 (rg_T3_2_0_1 t1) (by omega) (by omega) (by decide)
      have q442 : h109 ((h 61 1) + 3) 2 = h70 ((h 61 1) + 3) 2 := by rw [← e111]; exact x_up_k tof_3_4
      have q443 : h70 ((h 61 1) + 3) 2 = h51 ((h 61 1) + 3) 2 := jK 0 f72 (rg_T3_2_0_1 t1) (by omega) (by omega) (by decide)
      have q444 : h51 ((h 61 1) + 3) 2 = h8 ((h 61 1) + 3) 2 := by rw [← e53]; exact x_up_k tof_3_4
      refine x_getC (np := 9) (x := 386) (f := 2) (q := (h8 ((h 61 1) + 3) 2)) (by decide +kernel) (by decide) (tg_3_386_2_0 t1) ((((((q438.trans q439).trans q440).trans q441).trans q442).trans q443).trans q444) (fun l445 => ?_)
      refine x_icmp (k := 3) (tg := 28) (np := 12) (by decide +kernel) (by decide) l6 l34 (fun q446 => ?_) (fun q447 => ?_)
      · have q446 : (h8 ((h 61 1) + 3) 2) ≤ v5 := q446
        exfalso; omega
      have q447 : ¬ ((h8 ((h 61 1) + 3) 2) ≤ v5) := q447
      refine x_iload (np := 13) (x := 2) (by decide +kernel) rfl (by decide) ?_
      refine x_ifz (k := 2) (tg := 28) (np := 16) (by decide +kernel) (by decide) (by decide) (fun q448 => ?_) (fun q449 => ?_)
      · have q448 : 2147483649 < 2147483648 := q448
        exfalso; omega
      have q449 : ¬ (2147483649 < 2147483648) := q449
      refine x_iload (np := 17) (x := 2) (by decide +kernel) rfl (by decide) ?_
      refine x_aload (np := 18) (x := 0) (by decide +kernel) rfl (x_nc_le (tn_3 t1)) ?_
      have q450 : h278 ((h 61 1) + 3) 0 = h266 ((h 61 1) + 3) 0 := jK 0 f280 (rg_T3_0_0_1 t1) (by omega) (by omega) (by decide)
      have q451 : h266 ((h 61 1) + 3) 0 = h223 ((h 61 1) + 3) 0 := by rw [← e268]; exact x_up_k tof_3_4
      have q452 : h223 ((h 61 1) + 3) 0 = h121 ((h 61 1) + 3) 0 := jK 0 f225 (rg_T3_0_0_1 t1) (by omega) (by omega) (by decide)
      have q453 : h121 ((h 61 1) + 3) 0 = h109 ((h 61 1) + 3) 0 := jK 0 f123 (rg_T3_0_0_1 t1) (by omega) (by omega) (by decide)
      have q454 : h109 ((h 61 1) + 3) 0 = h70 ((h 61 1) + 3) 0 := by rw [← e111]; exact x_up_k tof_3_4
      have q455 : h70 ((h 61 1) + 3) 0 = h51 ((h 61 1) + 3) 0 := jK 0 f72 (rg_T3_0_0_1 t1) (by omega) (by omega) (by decide)
      have q456 : h51 ((h 61 1) + 3) 0 = h8 ((h 61 1) + 3) 0 := by rw [← e53]; exact x_up_k tof_3_4
      refine x_getC (np := 21) (x := 384) (f := 0) (q := 2147483652) (by decide +kernel) (by decide) (tg_3_384_0_0 t1) (((((((q450.trans q451).trans q452).trans q453).trans q454).trans q455).trans q456).trans q40) (fun l457 => ?_)
      refine x_icmp (k := 3) (tg := 28) (np := 24) (by decide +kernel) (by decide) (by decide) (by decide) (fun q458 => ?_) (fun q459 => ?_)
      · have q458 : 2147483652 ≤ 2147483649 := q458
        exfalso; omega
      have q459 : ¬ (2147483652 ≤ 2147483649) := q459
      refine x_const (np := 25) (x := 9223372043297226753) (a := 2147483649) (by decide +kernel) (by decide) (by decide) ?_
      refine x_goto (np := 28) (x := 29) (by decide +kernel) ?_
      refine x_istore (np := 30) (x := 3) (lo' := [x_r ((h 61 1) + 3), iv_c v5, iv_c 2147483649, iv_c 2147483649]) (by decide +kernel) (by decide) (Nat.le_of_ble_eq_true rfl) rfl ?_
      refine x_iload (np := 31) (x := 3) (by decide +kernel) rfl (by decide) ?_
      refine x_ifz (k := 0) (tg := 50) (np := 34) (by decide +kernel) (by decide) (by decide) (fun q460 => ?_) (fun q461 => ?_)
      · have q460 : 2147483649 = 2147483648 := q460
        exfalso; omega
      have q461 : ¬ (2147483649 = 2147483648) := q461
      refine x_aload (np := 35) (x := 0) (by decide +kernel) rfl (x_nc_le (tn_3 t1)) ?_
      have q462 : h278 ((h 61 1) + 3) 1 = ((h 61 1) + 4) := tf_3_1 j279 t1
      refine x_getR (np := 38) (x := 385) (f := 1) (q := ((h 61 1) + 4)) (by decide +kernel) (by decide) (tg_3_385_1_1 t1) q462 ?_
      refine x_iload (np := 39) (x := 1) (by decide +kernel) rfl l6 ?_
      refine x_aload (np := 40) (x := 0) (by decide +kernel) rfl (x_nc_le (tn_3 t1)) ?_
      have q463 : h278 ((h 61 1) + 3) 0 = h266 ((h 61 1) + 3) 0 := jK 0 f280 (rg_T3_0_0_1 t1) (by omega) (by omega) (by decide)
      have q464 : h266 ((h 61 1) + 3) 0 = h223 ((h 61 1) + 3) 0 := by rw [← e268]; exact x_up_k tof_3_4
      have q465 : h223 ((h 61 1) + 3) 0 = h121 ((h 61 1) + 3) 0 := jK 0 f225 (rg_T3_0_0_1 t1) (by omega) (by omega) (by decide)
      have q466 : h121 ((h 61 1) + 3) 0 = h109 ((h 61 1) + 3) 0 := jK 0 f123 (rg_T3_0_0_1 t1) (by omega) (by omega) (by decide)
      have q467 : h109 ((h 61 1) + 3) 0 = h70 ((h 61 1) + 3) 0 := by rw [← e111]; exact x_up_k tof_3_4
      have q468 : h70 ((h 61 1) + 3) 0 = h51 ((h 61 1) + 3) 0 := jK 0 f72 (rg_T3_0_0_1 t1) (by omega) (by omega) (by decide)
      have q469 : h51 ((h 61 1) + 3) 0 = h8 ((h 61 1) + 3) 0 := by rw [← e53]; exact x_up_k tof_3_4
      refine x_getC (np := 43) (x := 384) (f := 0) (q := 2147483652) (by decide +kernel) (by decide) (tg_3_384_0_0 t1) (((((((q463.trans q464).trans q465).trans q466).trans q467).trans q468).trans q469).trans q40) (fun l470 => ?_)
      refine x_imul (np := 44) (x := 0) (i := u48) (j := 4) (v := (2147483648 + 4 * u48)) (by decide +kernel) (by omega) (by omega) (by omega) (by omega) l6 (by decide) ?_
      refine x_iload (np := 45) (x := 2) (by decide +kernel) rfl (by decide) ?_
      refine x_iadd (np := 46) (x := 0) (v := (2147483649 + 4 * u48)) (by decide +kernel) (by omega) (by decide) (by omega) (by omega) ?_
      have q472 : h278 ((h 61 1) + 4) (1 + 4 * u48) = h266 ((h 61 1) + 4) (1 + 4 * u48) := jK u48 f280 (rg_T4_1_4_10 t1) (by omega) (by omega) (by decide)
      have q473 : h266 ((h 61 1) + 4) (1 + 4 * u48) = v219 := by rw [← e268]; exact x_up_at
      refine x_aldC (np := 47) (x := 0) (n := 40) (i := (1 + 4 * u48)) (q := v219) (by decide +kernel) (ta_4_40 t1) (by omega) (by omega) (by decide) (q472.trans q473) (fun l474 => ?_)
      refine x_goto (np := 50) (x := 51) (by decide +kernel) ?_
      refine x_retI (np := 52) (x := 0) (by decide +kernel) l220 (Or.inl (by decide +kernel)) ⟨_, rfl, l220, ?_⟩
      refine x_const (np := 117) (x := 9223372086246899723) (a := 2147483659) (by decide +kernel) (by decide) (by decide) ?_
      refine x_nI (t := 6) (mj := 102) (n := 6) (rc := 10) (ml := 7) (nr := 0) (np := 120) (as := [x_r 61, x_r ((h 61 1) + 3), iv_c v5, iv_c 2147483650, iv_c v219, iv_c 2147483659]) (rest := []) (lo1 := [x_r 61, x_r ((h 61 1) + 3), iv_c v5, iv_c 2147483650, iv_c v219, iv_c 2147483659, 147573952589676412928]) (by decide +kernel) (by decide) (by decide +kernel) (x_rb_of (by decide +kernel)) rfl rfl (x_wr (by decide) (x_wr (tn_3 t1) (x_wi l6 (x_wi (by decide) (x_wi l220 (x_wi (by decide) x_wn)))))) x_wn (by decide) rfl ?_
      refine x_aload (np := 1) (x := 0) (by decide +kernel) rfl (x_nc_le (by decide)) ?_
      have q475 : h278 61 0 = 1 := by have z := jB (e := 0) 0 j279 rg_61_0_0_1 (by decide) (by decide); omega
      refine x_getR (np := 4) (x := 576) (f := 0) (q := 1) (by decide +kernel) (by decide) (by decide +kernel) q475 ?_
      refine x_iload (np := 6) (x := 4) (by decide +kernel) rfl l220 ?_
      refine x_iload (np := 8) (x := 5) (by decide +kernel) rfl (by decide) ?_
      have m479 := Tp.fr m276 f280 (by decide) (by decide)
      refine x_cI (t := 6) (mj := 79) (n := 3) (rc := 8) (ml := 5) (nr := 0) (np := 11) (as := [x_r 1, iv_c v219, iv_c 2147483659]) (rest := []) (lo1 := [x_r 1, iv_c v219, iv_c 2147483659, 147573952589676412928, 147573952589676412928]) (by decide +kernel) (by decide) (by decide +kernel) (x_rb_of (by decide +kernel)) rfl rfl (x_wr (by decide) (x_wi l220 (x_wi (by decide) x_wn))) x_wn (by decide) rfl (c79_1 j279  (by omega) (by omega) m479) (fun v476 h480 l477 q478 => ?_)
      obtain ⟨j481, f482, b483, c484, c485, c486, c487⟩ := q478
      have f488 := Fr.trans f285 f482 (by decide)
      have b489 := jB (e := 2) 0 j481 rg_1_2_0_1 (by omega) (by omega)
      refine x_istore (np := 13) (x := 6) (lo' := [x_r 61, x_r ((h 61 1) + 3), iv_c v5, iv_c 2147483650, iv_c v219, iv_c 2147483659, iv_c v476]) (by decide +kernel) l477 (Nat.le_of_ble_eq_true rfl) rfl ?_
      refine x_iload (np := 15) (x := 6) (by decide +kernel) rfl l477 ?_
      refine x_const (np := 16) (x := 9223372034707292159) (a := 2147483647) (by decide +kernel) (by decide) (by decide) ?_
      refine x_icmp (k := 1) (tg := 21) (np := 19) (by decide +kernel) (by decide) l477 (by decide) (fun q490 => ?_) (fun q491 => ?_)
      · have q490 : v476 ≠ 2147483647 := q490
        have b492 := c485 (by omega)
        refine x_aload (np := 22) (x := 1) (by decide +kernel) rfl (x_nc_le (tn_3 t1)) ?_
        refine x_iload (np := 23) (x := 2) (by decide +kernel) rfl l6 ?_
        refine x_iload (np := 24) (x := 3) (by decide +kernel) rfl (by decide) ?_
        refine x_iload (np := 26) (x := 6) (by decide +kernel) rfl l477 ?_
        refine x_nV (t := 6) (mj := 69) (n := 4) (rc := 7) (ml := 5) (nr := 0) (np := 29) (as := [x_r ((h 61 1) + 3), iv_c v5, iv_c 2147483650, iv_c v476]) (rest := []) (lo1 := [x_r ((h 61 1) + 3), iv_c v5, iv_c 2147483650, iv_c v476, 147573952589676412928]) (by decide +kernel) (by decide) (by decide +kernel) (x_rb_of (tr_3_7 t1)) rfl rfl (x_wr (tn_3 t1) (x_wi l6 (x_wi (by decide) (x_wi l477 x_wn)))) x_wn (by decide) rfl ?_
        refine x_iload (np := 1) (x := 1) (by decide +kernel) rfl l6 ?_
        refine x_ifz (k := 2) (tg := 28) (np := 4) (by decide +kernel) (by decide) l6 (fun q493 => ?_) (fun q494 => ?_)
        · have q493 : v5 < 2147483648 := q493
          exfalso; omega
        have q494 : ¬ (v5 < 2147483648) := q494
        refine x_iload (np := 5) (x := 1) (by decide +kernel) rfl l6 ?_
        refine x_aload (np := 6) (x := 0) (by decide +kernel) rfl (x_nc_le (tn_3 t1)) ?_
        have q495 : h480 ((h 61 1) + 3) 2 = h278 ((h 61 1) + 3) 2 := jK 0 f482 (rg_T3_2_0_1 t1) (by omega) (by omega) (by decide)
        have q496 : h278 ((h 61 1) + 3) 2 = h266 ((h 61 1) + 3) 2 := jK 0 f280 (rg_T3_2_0_1 t1) (by omega) (by omega) (by decide)
        have q497 : h266 ((h 61 1) + 3) 2 = h223 ((h 61 1) + 3) 2 := by rw [← e268]; exact x_up_k tof_3_4
        have q498 : h223 ((h 61 1) + 3) 2 = h121 ((h 61 1) + 3) 2 := jK 0 f225 (rg_T3_2_0_1 t1) (by omega) (by omega) (by decide)
        have q499 : h121 ((h 61 1) + 3) 2 = h109 ((h 61 1) + 3) 2 := jK 0 f123 (rg_T3_2_0_1 t1) (by omega) (by omega) (by decide)
        have q500 : h109 ((h 61 1) + 3) 2 = h70 ((h 61 1) + 3) 2 := by rw [← e111]; exact x_up_k tof_3_4
        have q501 : h70 ((h 61 1) + 3) 2 = h51 ((h 61 1) + 3) 2 := jK 0 f72 (rg_T3_2_0_1 t1) (by omega) (by omega) (by decide)
        have q502 : h51 ((h 61 1) + 3) 2 = h8 ((h 61 1) + 3) 2 := by rw [← e53]; exact x_up_k tof_3_4
        refine x_getC (np := 9) (x := 386) (f := 2) (q := (h8 ((h 61 1) + 3) 2)) (by decide +kernel) (by decide) (tg_3_386_2_0 t1) (((((((q495.trans q496).trans q497).trans q498).trans q499).trans q500).trans q501).trans q502) (fun l503 => ?_)
        refine x_icmp (k := 3) (tg := 28) (np := 12) (by decide +kernel) (by decide) l6 l34 (fun q504 => ?_) (fun q505 => ?_)
        · have q504 : (h8 ((h 61 1) + 3) 2) ≤ v5 := q504
          exfalso; omega
        have q505 : ¬ ((h8 ((h 61 1) + 3) 2) ≤ v5) := q505
        refine x_iload (np := 13) (x := 2) (by decide +kernel) rfl (by decide) ?_
        refine x_ifz (k := 2) (tg := 28) (np := 16) (by decide +kernel) (by decide) (by decide) (fun q506 => ?_) (fun q507 => ?_)
        · have q506 : 2147483650 < 2147483648 := q506
          exfalso; omega
        have q507 : ¬ (2147483650 < 2147483648) := q507
        refine x_iload (np := 17) (x := 2) (by decide +kernel) rfl (by decide) ?_
        refine x_aload (np := 18) (x := 0) (by decide +kernel) rfl (x_nc_le (tn_3 t1)) ?_
        have q508 : h480 ((h 61 1) + 3) 0 = h278 ((h 61 1) + 3) 0 := jK 0 f482 (rg_T3_0_0_1 t1) (by omega) (by omega) (by decide)
        have q509 : h278 ((h 61 1) + 3) 0 = h266 ((h 61 1) + 3) 0 := jK 0 f280 (rg_T3_0_0_1 t1) (by omega) (by omega) (by decide)
        have q510 : h266 ((h 61 1) + 3) 0 = h223 ((h 61 1) + 3) 0 := by rw [← e268]; exact x_up_k tof_3_4
        have q511 : h223 ((h 61 1) + 3) 0 = h121 ((h 61 1) + 3) 0 := jK 0 f225 (rg_T3_0_0_1 t1) (by omega) (by omega) (by decide)
        have q512 : h121 ((h 61 1) + 3) 0 = h109 ((h 61 1) + 3) 0 := jK 0 f123 (rg_T3_0_0_1 t1) (by omega) (by omega) (by decide)
        have q513 : h109 ((h 61 1) + 3) 0 = h70 ((h 61 1) + 3) 0 := by rw [← e111]; exact x_up_k tof_3_4
        have q514 : h70 ((h 61 1) + 3) 0 = h51 ((h 61 1) + 3) 0 := jK 0 f72 (rg_T3_0_0_1 t1) (by omega) (by omega) (by decide)
        have q515 : h51 ((h 61 1) + 3) 0 = h8 ((h 61 1) + 3) 0 := by rw [← e53]; exact x_up_k tof_3_4
        refine x_getC (np := 21) (x := 384) (f := 0) (q := 2147483652) (by decide +kernel) (by decide) (tg_3_384_0_0 t1) ((((((((q508.trans q509).trans q510).trans q511).trans q512).trans q513).trans q514).trans q515).trans q40) (fun l516 => ?_)
        refine x_icmp (k := 3) (tg := 28) (np := 24) (by decide +kernel) (by decide) (by decide) (by decide) (fun q517 => ?_) (fun q518 => ?_)
        · have q517 : 2147483652 ≤ 2147483650 := q517
          exfalso; omega
        have q518 : ¬ (2147483652 ≤ 2147483650) := q518
        refine x_const (np := 25) (x := 9223372043297226753) (a := 2147483649) (by decide +kernel) (by decide) (by decide) ?_
        refine x_goto (np := 28) (x := 29) (by decide +kernel) ?_
        refine x_istore (np := 31) (x := 4) (lo' := [x_r ((h 61 1) + 3), iv_c v5, iv_c 2147483650, iv_c v476, iv_c 2147483649]) (by decide +kernel) (by decide) (Nat.le_of_ble_eq_true rfl) rfl ?_
        refine x_iload (np := 33) (x := 4) (by decide +kernel) rfl (by decide) ?_
        refine x_ifz (k := 0) (tg := 50) (np := 36) (by decide +kernel) (by decide) (by decide) (fun q519 => ?_) (fun q520 => ?_)
        · have q519 : 2147483649 = 2147483648 := q519
          exfalso; omega
        have q520 : ¬ (2147483649 = 2147483648) := q520
        refine x_aload (np := 37) (x := 0) (by decide +kernel) rfl (x_nc_le (tn_3 t1)) ?_
        have q521 : h480 ((h 61 1) + 3) 1 = ((h 61 1) + 4) := tf_3_1 j481 t1
        refine x_getR (np := 40) (x := 385) (f := 1) (q := ((h 61 1) + 4)) (by decide +kernel) (by decide) (tg_3_385_1_1 t1) q521 ?_
        refine x_iload (np := 41) (x := 1) (by decide +kernel) rfl l6 ?_
        refine x_aload (np := 42) (x := 0) (by decide +kernel) rfl (x_nc_le (tn_3 t1)) ?_
        have q522 : h480 ((h 61 1) + 3) 0 = h278 ((h 61 1) + 3) 0 := jK 0 f482 (rg_T3_0_0_1 t1) (by omega) (by omega) (by decide)
        have q523 : h278 ((h 61 1) + 3) 0 = h266 ((h 61 1) + 3) 0 := jK 0 f280 (rg_T3_0_0_1 t1) (by omega) (by omega) (by decide)
        have q524 : h266 ((h 61 1) + 3) 0 = h223 ((h 61 1) + 3) 0 := by rw [← e268]; exact x_up_k tof_3_4
        have q525 : h223 ((h 61 1) + 3) 0 = h121 ((h 61 1) + 3) 0 := jK 0 f225 (rg_T3_0_0_1 t1) (by omega) (by omega) (by decide)
        have q526 : h121 ((h 61 1) + 3) 0 = h109 ((h 61 1) + 3) 0 := jK 0 f123 (rg_T3_0_0_1 t1) (by omega) (by omega) (by decide)
        have q527 : h109 ((h 61 1) + 3) 0 = h70 ((h 61 1) + 3) 0 := by rw [← e111]; exact x_up_k tof_3_4
        have q528 : h70 ((h 61 1) + 3) 0 = h51 ((h 61 1) + 3) 0 := jK 0 f72 (rg_T3_0_0_1 t1) (by omega) (by omega) (by decide)
        have q529 : h51 ((h 61 1) + 3) 0 = h8 ((h 61 1) + 3) 0 := by rw [← e53]; exact x_up_k tof_3_4
        refine x_getC (np := 45) (x := 384) (f := 0) (q := 2147483652) (by decide +kernel) (by decide) (tg_3_384_0_0 t1) ((((((((q522.trans q523).trans q524).trans q525).trans q526).trans q527).trans q528).trans q529).trans q40) (fun l530 => ?_)
        refine x_imul (np := 46) (x := 0) (i := u48) (j := 4) (v := (2147483648 + 4 * u48)) (by decide +kernel) (by omega) (by omega) (by omega) (by omega) l6 (by decide) ?_
        refine x_iload (np := 47) (x := 2) (by decide +kernel) rfl (by decide) ?_
        refine x_iadd (np := 48) (x := 0) (v := (2147483650 + 4 * u48)) (by decide +kernel) (by omega) (by decide) (by omega) (by omega) ?_
        refine x_iload (np := 49) (x := 3) (by decide +kernel) rfl l477 ?_
        refine x_ast (np := 50) (x := 0) (kd := 1) (n := 40) (i := (2 + 4 * u48)) (by decide +kernel) (Or.inl rfl) (ta_4_40 t1) (by omega) (by omega) (by decide) l477 (fun z => absurd z (by decide)) ?_
        have j533 := jU (e := (2 + 4 * u48)) (v := v476) u48 j481 (rg_T4_2_4_10 t1) (by omega) (by omega) (by omega)
        have f535 := jF (e := (2 + 4 * u48)) (v := v476) u48 f488 (rg_T4_2_4_10 t1) (by omega) (by omega) (by decide)
        generalize e534 : x_up h480 ((h 61 1) + 4) (2 + 4 * u48) v476 = h532 at j533 f535 ⊢
        refine x_retV (np := 51) (x := 0) (by decide +kernel) (by decide +kernel) ⟨rfl, ?_⟩
        refine x_const (np := 30) (x := 9223372043297226753) (a := 2147483649) (by decide +kernel) (by decide) (by decide) ?_
        refine x_retI (np := 31) (x := 0) (by decide +kernel) (by decide) (Or.inr ⟨by decide +kernel, by omega, by omega⟩) ⟨_, rfl, (by decide), ?_⟩
        refine x_ifz (k := 0) (tg := 127) (np := 123) (by decide +kernel) (by decide) (by decide) (fun q536 => ?_) (fun q537 => ?_)
        · have q536 : 2147483649 = 2147483648 := q536
          exfalso; omega
        have q537 : ¬ (2147483649 = 2147483648) := q537
        refine x_const (np := 124) (x := 9223372043297226753) (a := 2147483649) (by decide +kernel) (by decide) (by decide) ?_
        refine x_goto (np := 127) (x := 128) (by decide +kernel) ?_
        have e538 : rv h 0 = (h (h 61 1) 7) := (congrArg (fun z => svq h z 0) rfl).trans rfl
        have q539 : h532 61 1 = h480 61 1 := by rw [← e534]; exact x_up_k (Ne.symm (tne_4_61 t1))
        have q540 : h480 61 1 = h278 61 1 := f482 61 1 (by decide +kernel)
        have q541 : h278 61 1 = h266 61 1 := f280 61 1 (by decide +kernel)
        have q542 : h266 61 1 = h223 61 1 := by rw [← e268]; exact x_up_k (Ne.symm (tne_4_61 t1))
        have q543 : h223 61 1 = h121 61 1 := f225 61 1 (by decide +kernel)
        have q544 : h121 61 1 = h109 61 1 := f123 61 1 (by decide +kernel)
        have q545 : h109 61 1 = h70 61 1 := by rw [← e111]; exact x_up_k (Ne.symm (tne_4_61 t1))
        have q546 : h70 61 1 = h51 61 1 := f72 61 1 (by decide +kernel)
        have q547 : h51 61 1 = h8 61 1 := by rw [← e53]; exact x_up_k (Ne.symm (tne_4_61 t1))
        have q548 : h8 61 1 = h 61 1 := f10 61 1 (by decide +kernel)
        have q549 : h532 (h 61 1) 7 = h480 (h 61 1) 7 := by rw [← e534]; exact x_up_k tof_0_4
        have q550 : h480 (h 61 1) 7 = h278 (h 61 1) 7 := jK 0 f482 (rg_T0_7_0_1 t1) (by omega) (by omega) (by decide)
        have q551 : h278 (h 61 1) 7 = h266 (h 61 1) 7 := jK 0 f280 (rg_T0_7_0_1 t1) (by omega) (by omega) (by decide)
        have q552 : h266 (h 61 1) 7 = h223 (h 61 1) 7 := by rw [← e268]; exact x_up_k tof_0_4
        have q553 : h223 (h 61 1) 7 = h121 (h 61 1) 7 := jK 0 f225 (rg_T0_7_0_1 t1) (by omega) (by omega) (by decide)
        have q554 : h121 (h 61 1) 7 = h109 (h 61 1) 7 := jK 0 f123 (rg_T0_7_0_1 t1) (by omega) (by omega) (by decide)
        have q555 : h109 (h 61 1) 7 = h70 (h 61 1) 7 := by rw [← e111]; exact x_up_k tof_0_4
        have q556 : h70 (h 61 1) 7 = h51 (h 61 1) 7 := jK 0 f72 (rg_T0_7_0_1 t1) (by omega) (by omega) (by decide)
        have q557 : h51 (h 61 1) 7 = h8 (h 61 1) 7 := by rw [← e53]; exact x_up_k tof_0_4
        have e558 : rv h532 0 = (h8 (h 61 1) 7) := (congrArg (fun z => svq h532 z 0) (((((((((q539.trans q540).trans q541).trans q542).trans q543).trans q544).trans q545).trans q546).trans q547).trans q548)).trans ((((((((q549.trans q550).trans q551).trans q552).trans q553).trans q554).trans q555).trans q556).trans q557)
        have e559 : rv h 1 = (h (h 61 1) 8) := (congrArg (fun z => svq h z 1) rfl).trans rfl
        have q560 : h532 61 1 = h480 61 1 := by rw [← e534]; exact x_up_k (Ne.symm (tne_4_61 t1))
        have q561 : h480 61 1 = h278 61 1 := f482 61 1 (by decide +kernel)
        have q562 : h278 61 1 = h266 61 1 := f280 61 1 (by decide +kernel)
        have q563 : h266 61 1 = h223 61 1 := by rw [← e268]; exact x_up_k (Ne.symm (tne_4_61 t1))
        have q564 : h223 61 1 = h121 61 1 := f225 61 1 (by decide +kernel)
        have q565 : h121 61 1 = h109 61 1 := f123 61 1 (by decide +kernel)
        have q566 : h109 61 1 = h70 61 1 := by rw [← e111]; exact x_up_k (Ne.symm (tne_4_61 t1))
        have q567 : h70 61 1 = h51 61 1 := f72 61 1 (by decide +kernel)
        have q568 : h51 61 1 = h8 61 1 := by rw [← e53]; exact x_up_k (Ne.symm (tne_4_61 t1))
        have q569 : h8 61 1 = h 61 1 := f10 61 1 (by decide +kernel)
        have q570 : h532 (h 61 1) 8 = h480 (h 61 1) 8 := by rw [← e534]; exact x_up_k tof_0_4
        have q571 : h480 (h 61 1) 8 = h278 (h 61 1) 8 := jK 0 f482 (rg_T0_8_0_1 t1) (by omega) (by omega) (by decide)
        have q572 : h278 (h 61 1) 8 = h266 (h 61 1) 8 := jK 0 f280 (rg_T0_8_0_1 t1) (by omega) (by omega) (by decide)
        have q573 : h266 (h 61 1) 8 = h223 (h 61 1) 8 := by rw [← e268]; exact x_up_k tof_0_4
        have q574 : h223 (h 61 1) 8 = h121 (h 61 1) 8 := jK 0 f225 (rg_T0_8_0_1 t1) (by omega) (by omega) (by decide)
        have q575 : h121 (h 61 1) 8 = h109 (h 61 1) 8 := jK 0 f123 (rg_T0_8_0_1 t1) (by omega) (by omega) (by decide)
        have q576 : h109 (h 61 1) 8 = h70 (h 61 1) 8 := by rw [← e111]; exact x_up_k tof_0_4
        have q577 : h70 (h 61 1) 8 = h51 (h 61 1) 8 := jK 0 f72 (rg_T0_8_0_1 t1) (by omega) (by omega) (by decide)
        have q578 : h51 (h 61 1) 8 = h8 (h 61 1) 8 := by rw [← e53]; exact x_up_k tof_0_4
        have e579 : rv h532 1 = (h8 (h 61 1) 8) := (congrArg (fun z => svq h532 z 1) (((((((((q560.trans q561).trans q562).trans q563).trans q564).trans q565).trans q566).trans q567).trans q568).trans q569)).trans ((((((((q570.trans q571).trans q572).trans q573).trans q574).trans q575).trans q576).trans q577).trans q578)
        have e580 : rv h 2 = (h ((h 61 1) + 1) 2) := (congrArg (fun z => svq h z 2) rfl).trans rfl
        have q581 : h532 61 1 = h480 61 1 := by rw [← e534]; exact x_up_k (Ne.symm (tne_4_61 t1))
        have q582 : h480 61 1 = h278 61 1 := f482 61 1 (by decide +kernel)
        have q583 : h278 61 1 = h266 61 1 := f280 61 1 (by decide +kernel)
        have q584 : h266 61 1 = h223 61 1 := by rw [← e268]; exact x_up_k (Ne.symm (tne_4_61 t1))
        have q585 : h223 61 1 = h121 61 1 := f225 61 1 (by decide +kernel)
        have q586 : h121 61 1 = h109 61 1 := f123 61 1 (by decide +kernel)
        have q587 : h109 61 1 = h70 61 1 := by rw [← e111]; exact x_up_k (Ne.symm (tne_4_61 t1))
        have q588 : h70 61 1 = h51 61 1 := f72 61 1 (by decide +kernel)
        have q589 : h51 61 1 = h8 61 1 := by rw [← e53]; exact x_up_k (Ne.symm (tne_4_61 t1))
        have q590 : h8 61 1 = h 61 1 := f10 61 1 (by decide +kernel)
        have q591 : h532 ((h 61 1) + 1) 2 = h480 ((h 61 1) + 1) 2 := by rw [← e534]; exact x_up_k tof_1_4
        have q592 : h480 ((h 61 1) + 1) 2 = h278 ((h 61 1) + 1) 2 := jK 0 f482 (rg_T1_2_0_1 t1) (by omega) (by omega) (by decide)
        have q593 : h278 ((h 61 1) + 1) 2 = h266 ((h 61 1) + 1) 2 := jK 0 f280 (rg_T1_2_0_1 t1) (by omega) (by omega) (by decide)
        have q594 : h266 ((h 61 1) + 1) 2 = h223 ((h 61 1) + 1) 2 := by rw [← e268]; exact x_up_k tof_1_4
        have q595 : h223 ((h 61 1) + 1) 2 = h121 ((h 61 1) + 1) 2 := jK 0 f225 (rg_T1_2_0_1 t1) (by omega) (by omega) (by decide)
        have q596 : h121 ((h 61 1) + 1) 2 = h109 ((h 61 1) + 1) 2 := jK 0 f123 (rg_T1_2_0_1 t1) (by omega) (by omega) (by decide)
        have q597 : h109 ((h 61 1) + 1) 2 = h70 ((h 61 1) + 1) 2 := by rw [← e111]; exact x_up_k tof_1_4
        have q598 : h70 ((h 61 1) + 1) 2 = h51 ((h 61 1) + 1) 2 := jK 0 f72 (rg_T1_2_0_1 t1) (by omega) (by omega) (by decide)
        have q599 : h51 ((h 61 1) + 1) 2 = h8 ((h 61 1) + 1) 2 := by rw [← e53]; exact x_up_k tof_1_4
        have e600 : rv h532 2 = (h8 ((h 61 1) + 1) 2) := (congrArg (fun z => svq h532 z 2) (((((((((q581.trans q582).trans q583).trans q584).trans q585).trans q586).trans q587).trans q588).trans q589).trans q590)).trans ((((((((q591.trans q592).trans q593).trans q594).trans q595).trans q596).trans q597).trans q598).trans q599)
        have q601 : h532 61 1 = h480 61 1 := by rw [← e534]; exact x_up_k (Ne.symm (tne_4_61 t1))
        have q602 : h480 61 1 = h278 61 1 := f482 61 1 (by decide +kernel)
        have q603 : h278 61 1 = h266 61 1 := f280 61 1 (by decide +kernel)
        have q604 : h266 61 1 = h223 61 1 := by rw [← e268]; exact x_up_k (Ne.symm (tne_4_61 t1))
        have q605 : h223 61 1 = h121 61 1 := f225 61 1 (by decide +kernel)
        have q606 : h121 61 1 = h109 61 1 := f123 61 1 (by decide +kernel)
        have q607 : h109 61 1 = h70 61 1 := by rw [← e111]; exact x_up_k (Ne.symm (tne_4_61 t1))
        have q608 : h70 61 1 = h51 61 1 := f72 61 1 (by decide +kernel)
        have q609 : h51 61 1 = h8 61 1 := by rw [← e53]; exact x_up_k (Ne.symm (tne_4_61 t1))
        have q610 : h8 61 1 = h 61 1 := f10 61 1 (by decide +kernel)
        have q611 : h532 ((h 61 1) + 3) 2 = h480 ((h 61 1) + 3) 2 := by rw [← e534]; exact x_up_k tof_3_4
        have q612 : h480 ((h 61 1) + 3) 2 = h278 ((h 61 1) + 3) 2 := jK 0 f482 (rg_T3_2_0_1 t1) (by omega) (by omega) (by decide)
        have q613 : h278 ((h 61 1) + 3) 2 = h266 ((h 61 1) + 3) 2 := jK 0 f280 (rg_T3_2_0_1 t1) (by omega) (by omega) (by decide)
        have q614 : h266 ((h 61 1) + 3) 2 = h223 ((h 61 1) + 3) 2 := by rw [← e268]; exact x_up_k tof_3_4
        have q615 : h223 ((h 61 1) + 3) 2 = h121 ((h 61 1) + 3) 2 := jK 0 f225 (rg_T3_2_0_1 t1) (by omega) (by omega) (by decide)
        have q616 : h121 ((h 61 1) + 3) 2 = h109 ((h 61 1) + 3) 2 := jK 0 f123 (rg_T3_2_0_1 t1) (by omega) (by omega) (by decide)
        have q617 : h109 ((h 61 1) + 3) 2 = h70 ((h 61 1) + 3) 2 := by rw [← e111]; exact x_up_k tof_3_4
        have q618 : h70 ((h 61 1) + 3) 2 = h51 ((h 61 1) + 3) 2 := jK 0 f72 (rg_T3_2_0_1 t1) (by omega) (by omega) (by decide)
        have q619 : h51 ((h 61 1) + 3) 2 = h8 ((h 61 1) + 3) 2 := by rw [← e53]; exact x_up_k tof_3_4
        have e620 : rv h532 3 = (h8 ((h 61 1) + 3) 2) := (congrArg (fun z => svq h532 z 3) (((((((((q601.trans q602).trans q603).trans q604).trans q605).trans q606).trans q607).trans q608).trans q609).trans q610)).trans ((((((((q611.trans q612).trans q613).trans q614).trans q615).trans q616).trans q617).trans q618).trans q619)
        have e621 : rv h 4 = (h ((h 61 1) + 5) 2) := (congrArg (fun z => svq h z 4) rfl).trans rfl
        have q622 : h532 61 1 = h480 61 1 := by rw [← e534]; exact x_up_k (Ne.symm (tne_4_61 t1))
        have q623 : h480 61 1 = h278 61 1 := f482 61 1 (by decide +kernel)
        have q624 : h278 61 1 = h266 61 1 := f280 61 1 (by decide +kernel)
        have q625 : h266 61 1 = h223 61 1 := by rw [← e268]; exact x_up_k (Ne.symm (tne_4_61 t1))
        have q626 : h223 61 1 = h121 61 1 := f225 61 1 (by decide +kernel)
        have q627 : h121 61 1 = h109 61 1 := f123 61 1 (by decide +kernel)
        have q628 : h109 61 1 = h70 61 1 := by rw [← e111]; exact x_up_k (Ne.symm (tne_4_61 t1))
        have q629 : h70 61 1 = h51 61 1 := f72 61 1 (by decide +kernel)
        have q630 : h51 61 1 = h8 61 1 := by rw [← e53]; exact x_up_k (Ne.symm (tne_4_61 t1))
        have q631 : h8 61 1 = h 61 1 := f10 61 1 (by decide +kernel)
        have q632 : h532 ((h 61 1) + 5) 2 = h480 ((h 61 1) + 5) 2 := by rw [← e534]; exact x_up_k tof_5_4
        have q633 : h480 ((h 61 1) + 5) 2 = h278 ((h 61 1) + 5) 2 := jK 0 f482 (rg_T5_2_0_1 t1) (by omega) (by omega) (by decide)
        have q634 : h278 ((h 61 1) + 5) 2 = h266 ((h 61 1) + 5) 2 := jK 0 f280 (rg_T5_2_0_1 t1) (by omega) (by omega) (by decide)
        have q635 : h266 ((h 61 1) + 5) 2 = h223 ((h 61 1) + 5) 2 := by rw [← e268]; exact x_up_k tof_5_4
        have q636 : h223 ((h 61 1) + 5) 2 = h121 ((h 61 1) + 5) 2 := jK 0 f225 (rg_T5_2_0_1 t1) (by omega) (by omega) (by decide)
        have q637 : h121 ((h 61 1) + 5) 2 = h109 ((h 61 1) + 5) 2 := jK 0 f123 (rg_T5_2_0_1 t1) (by omega) (by omega) (by decide)
        have q638 : h109 ((h 61 1) + 5) 2 = h70 ((h 61 1) + 5) 2 := by rw [← e111]; exact x_up_k tof_5_4
        have q639 : h70 ((h 61 1) + 5) 2 = h51 ((h 61 1) + 5) 2 := jK 0 f72 (rg_T5_2_0_1 t1) (by omega) (by omega) (by decide)
        have q640 : h51 ((h 61 1) + 5) 2 = h8 ((h 61 1) + 5) 2 := by rw [← e53]; exact x_up_k tof_5_4
        have e641 : rv h532 4 = (h8 ((h 61 1) + 5) 2) := (congrArg (fun z => svq h532 z 4) (((((((((q622.trans q623).trans q624).trans q625).trans q626).trans q627).trans q628).trans q629).trans q630).trans q631)).trans ((((((((q632.trans q633).trans q634).trans q635).trans q636).trans q637).trans q638).trans q639).trans q640)
        have e642 : rv h 5 = (h ((h 61 1) + 7) 2) := (congrArg (fun z => svq h z 5) rfl).trans rfl
        have q643 : h532 61 1 = h480 61 1 := by rw [← e534]; exact x_up_k (Ne.symm (tne_4_61 t1))
        have q644 : h480 61 1 = h278 61 1 := f482 61 1 (by decide +kernel)
        have q645 : h278 61 1 = h266 61 1 := f280 61 1 (by decide +kernel)
        have q646 : h266 61 1 = h223 61 1 := by rw [← e268]; exact x_up_k (Ne.symm (tne_4_61 t1))
        have q647 : h223 61 1 = h121 61 1 := f225 61 1 (by decide +kernel)
        have q648 : h121 61 1 = h109 61 1 := f123 61 1 (by decide +kernel)
        have q649 : h109 61 1 = h70 61 1 := by rw [← e111]; exact x_up_k (Ne.symm (tne_4_61 t1))
        have q650 : h70 61 1 = h51 61 1 := f72 61 1 (by decide +kernel)
        have q651 : h51 61 1 = h8 61 1 := by rw [← e53]; exact x_up_k (Ne.symm (tne_4_61 t1))
        have q652 : h8 61 1 = h 61 1 := f10 61 1 (by decide +kernel)
        have q653 : h532 ((h 61 1) + 7) 2 = h480 ((h 61 1) + 7) 2 := by rw [← e534]; exact x_up_k tof_7_4
        have q654 : h480 ((h 61 1) + 7) 2 = h278 ((h 61 1) + 7) 2 := jK 0 f482 (rg_T7_2_0_1 t1) (by omega) (by omega) (by decide)
        have q655 : h278 ((h 61 1) + 7) 2 = h266 ((h 61 1) + 7) 2 := jK 0 f280 (rg_T7_2_0_1 t1) (by omega) (by omega) (by decide)
        have q656 : h266 ((h 61 1) + 7) 2 = h223 ((h 61 1) + 7) 2 := by rw [← e268]; exact x_up_k tof_7_4
        have q657 : h223 ((h 61 1) + 7) 2 = h121 ((h 61 1) + 7) 2 := jK 0 f225 (rg_T7_2_0_1 t1) (by omega) (by omega) (by decide)
        have q658 : h121 ((h 61 1) + 7) 2 = h109 ((h 61 1) + 7) 2 := jK 0 f123 (rg_T7_2_0_1 t1) (by omega) (by omega) (by decide)
        have q659 : h109 ((h 61 1) + 7) 2 = h70 ((h 61 1) + 7) 2 := by rw [← e111]; exact x_up_k tof_7_4
        have q660 : h70 ((h 61 1) + 7) 2 = h51 ((h 61 1) + 7) 2 := jK 0 f72 (rg_T7_2_0_1 t1) (by omega) (by omega) (by decide)
        have q661 : h51 ((h 61 1) + 7) 2 = h8 ((h 61 1) + 7) 2 := by rw [← e53]; exact x_up_k tof_7_4
        have e662 : rv h532 5 = (h8 ((h 61 1) + 7) 2) := (congrArg (fun z => svq h532 z 5) (((((((((q643.trans q644).trans q645).trans q646).trans q647).trans q648).trans q649).trans q650).trans q651).trans q652)).trans ((((((((q653.trans q654).trans q655).trans q656).trans q657).trans q658).trans q659).trans q660).trans q661)
        have q663 : h51 1 2 = h8 1 2 := by rw [← e53]; exact x_up_k (Ne.symm (tne_4_1 t1))
        have q664 : h8 1 2 = h 1 2 := jK 0 f10 rg_1_2_0_1 (by omega) (by omega) (by decide)
        have q665 : h109 1 2 = h70 1 2 := by rw [← e111]; exact x_up_k (Ne.symm (tne_4_1 t1))
        obtain ⟨w666, e667⟩ := Tk.yes c127 (by omega)
        have q668 : h266 1 2 = h223 1 2 := by rw [← e268]; exact x_up_k (Ne.symm (tne_4_1 t1))
        obtain ⟨w669, e670⟩ := Tk.yes c284 (by omega)
        have q671 : h532 1 2 = h480 1 2 := by rw [← e534]; exact x_up_k (Ne.symm (tne_4_1 t1))
        have m672 : Ot (h 61 1) h h8 := Ot.trans Ot.refl (c19)
        have m673 : Ot (h 61 1) h h51 := by rw [← e53]; exact Ot.up (o := 4) m672 t1 (by decide) rfl
        have m674 : Ot (h 61 1) h h70 := Ot.fr m673 f72 (by decide)
        have m675 : Ot (h 61 1) h h109 := by rw [← e111]; exact Ot.up (o := 4) m674 t1 (by decide) rfl
        have m676 : Ot (h 61 1) h h121 := Ot.fr m675 f123 (by decide)
        have m677 : Ot (h 61 1) h h223 := Ot.fr m676 f225 (by decide)
        have m678 : Ot (h 61 1) h h266 := by rw [← e268]; exact Ot.up (o := 4) m677 t1 (by decide) rfl
        have m679 : Ot (h 61 1) h h278 := Ot.fr m678 f280 (by decide)
        have m680 : Ot (h 61 1) h h480 := Ot.fr m679 f482 (by decide)
        have m681 : Ot (h 61 1) h h532 := by rw [← e534]; exact Ot.up (o := 4) m680 t1 (by decide) rfl
        refine x_retI (np := 129) (x := 0) (by decide +kernel) (by decide) (Or.inr ⟨by decide +kernel, by omega, by omega⟩) ⟨_, rfl, (by decide), ?_⟩
        exact ⟨j533, f535, (by omega), (by omega), (by omega), (by omega), (fun z => by omega), (by omega), (by omega), (nm9.y c77 (by omega) (by omega) (show h51 1 2 = h 1 2 by omega) (by omega) rfl (wd9.y w666 (show h109 1 2 = h70 1 2 by omega) e667 rfl (nm9.y c230 (by omega) (by omega) rfl (by omega) rfl (wd9.y w669 (show h266 1 2 = h223 1 2 by omega) e670 rfl (nm9.y c487 (by omega) (by omega) rfl (by omega) rfl (fin9.mk (by omega) (show h480 1 2 = h532 1 2 by omega))))))), m681⟩
      have q491 : ¬ (v476 ≠ 2147483647) := q491
      have b682 := c486 (by omega)
      refine x_const (np := 20) (x := 9223372039002259456) (a := 2147483648) (by decide +kernel) (by decide) (by decide) ?_
      refine x_retI (np := 21) (x := 0) (by decide +kernel) (by decide) (Or.inr ⟨by decide +kernel, by omega, by omega⟩) ⟨_, rfl, (by decide), ?_⟩
      refine x_ifz (k := 0) (tg := 127) (np := 123) (by decide +kernel) (by decide) (by decide) (fun q683 => ?_) (fun q684 => ?_)
      · have q683 : 2147483648 = 2147483648 := q683
        refine x_const (np := 128) (x := 9223372039002259456) (a := 2147483648) (by decide +kernel) (by decide) (by decide) ?_
        have e685 : rv h 0 = (h (h 61 1) 7) := (congrArg (fun z => svq h z 0) rfl).trans rfl
        have q686 : h480 61 1 = h278 61 1 := f482 61 1 (by decide +kernel)
        have q687 : h278 61 1 = h266 61 1 := f280 61 1 (by decide +kernel)
        have q688 : h266 61 1 = h223 61 1 := by rw [← e268]; exact x_up_k (Ne.symm (tne_4_61 t1))
        have q689 : h223 61 1 = h121 61 1 := f225 61 1 (by decide +kernel)
        have q690 : h121 61 1 = h109 61 1 := f123 61 1 (by decide +kernel)
        have q691 : h109 61 1 = h70 61 1 := by rw [← e111]; exact x_up_k (Ne.symm (tne_4_61 t1))
        have q692 : h70 61 1 = h51 61 1 := f72 61 1 (by decide +kernel)
        have q693 : h51 61 1 = h8 61 1 := by rw [← e53]; exact x_up_k (Ne.symm (tne_4_61 t1))
        have q694 : h8 61 1 = h 61 1 := f10 61 1 (by decide +kernel)
        have q695 : h480 (h 61 1) 7 = h278 (h 61 1) 7 := jK 0 f482 (rg_T0_7_0_1 t1) (by omega) (by omega) (by decide)
        have q696 : h278 (h 61 1) 7 = h266 (h 61 1) 7 := jK 0 f280 (rg_T0_7_0_1 t1) (by omega) (by omega) (by decide)
        have q697 : h266 (h 61 1) 7 = h223 (h 61 1) 7 := by rw [← e268]; exact x_up_k tof_0_4
        have q698 : h223 (h 61 1) 7 = h121 (h 61 1) 7 := jK 0 f225 (rg_T0_7_0_1 t1) (by omega) (by omega) (by decide)
        have q699 : h121 (h 61 1) 7 = h109 (h 61 1) 7 := jK 0 f123 (rg_T0_7_0_1 t1) (by omega) (by omega) (by decide)
        have q700 : h109 (h 61 1) 7 = h70 (h 61 1) 7 := by rw [← e111]; exact x_up_k tof_0_4
        have q701 : h70 (h 61 1) 7 = h51 (h 61 1) 7 := jK 0 f72 (rg_T0_7_0_1 t1) (by omega) (by omega) (by decide)
        have q702 : h51 (h 61 1) 7 = h8 (h 61 1) 7 := by rw [← e53]; exact x_up_k tof_0_4
        have e703 : rv h480 0 = (h8 (h 61 1) 7) := (congrArg (fun z => svq h480 z 0) ((((((((q686.trans q687).trans q688).trans q689).trans q690).trans q691).trans q692).trans q693).trans q694)).trans (((((((q695.trans q696).trans q697).trans q698).trans q699).trans q700).trans q701).trans q702)
        have e704 : rv h 1 = (h (h 61 1) 8) := (congrArg (fun z => svq h z 1) rfl).trans rfl
        have q705 : h480 61 1 = h278 61 1 := f482 61 1 (by decide +kernel)
        have q706 : h278 61 1 = h266 61 1 := f280 61 1 (by decide +kernel)
        have q707 : h266 61 1 = h223 61 1 := by rw [← e268]; exact x_up_k (Ne.symm (tne_4_61 t1))
        have q708 : h223 61 1 = h121 61 1 := f225 61 1 (by decide +kernel)
        have q709 : h121 61 1 = h109 61 1 := f123 61 1 (by decide +kernel)
        have q710 : h109 61 1 = h70 61 1 := by rw [← e111]; exact x_up_k (Ne.symm (tne_4_61 t1))
        have q711 : h70 61 1 = h51 61 1 := f72 61 1 (by decide +kernel)
        have q712 : h51 61 1 = h8 61 1 := by rw [← e53]; exact x_up_k (Ne.symm (tne_4_61 t1))
        have q713 : h8 61 1 = h 61 1 := f10 61 1 (by decide +kernel)
        have q714 : h480 (h 61 1) 8 = h278 (h 61 1) 8 := jK 0 f482 (rg_T0_8_0_1 t1) (by omega) (by omega) (by decide)
        have q715 : h278 (h 61 1) 8 = h266 (h 61 1) 8 := jK 0 f280 (rg_T0_8_0_1 t1) (by omega) (by omega) (by decide)
        have q716 : h266 (h 61 1) 8 = h223 (h 61 1) 8 := by rw [← e268]; exact x_up_k tof_0_4
        have q717 : h223 (h 61 1) 8 = h121 (h 61 1) 8 := jK 0 f225 (rg_T0_8_0_1 t1) (by omega) (by omega) (by decide)
        have q718 : h121 (h 61 1) 8 = h109 (h 61 1) 8 := jK 0 f123 (rg_T0_8_0_1 t1) (by omega) (by omega) (by decide)
        have q719 : h109 (h 61 1) 8 = h70 (h 61 1) 8 := by rw [← e111]; exact x_up_k tof_0_4
        have q720 : h70 (h 61 1) 8 = h51 (h 61 1) 8 := jK 0 f72 (rg_T0_8_0_1 t1) (by omega) (by omega) (by decide)
        have q721 : h51 (h 61 1) 8 = h8 (h 61 1) 8 := by rw [← e53]; exact x_up_k tof_0_4
        have e722 : rv h480 1 = (h8 (h 61 1) 8) := (congrArg (fun z => svq h480 z 1) ((((((((q705.trans q706).trans q707).trans q708).trans q709).trans q710).trans q711).trans q712).trans q713)).trans (((((((q714.trans q715).trans q716).trans q717).trans q718).trans q719).trans q720).trans q721)
        have e723 : rv h 2 = (h ((h 61 1) + 1) 2) := (congrArg (fun z => svq h z 2) rfl).trans rfl
        have q724 : h480 61 1 = h278 61 1 := f482 61 1 (by decide +kernel)
        have q725 : h278 61 1 = h266 61 1 := f280 61 1 (by decide +kernel)
        have q726 : h266 61 1 = h223 61 1 := by rw [← e268]; exact x_up_k (Ne.symm (tne_4_61 t1))
        have q727 : h223 61 1 = h121 61 1 := f225 61 1 (by decide +kernel)
        have q728 : h121 61 1 = h109 61 1 := f123 61 1 (by decide +kernel)
        have q729 : h109 61 1 = h70 61 1 := by rw [← e111]; exact x_up_k (Ne.symm (tne_4_61 t1))
        have q730 : h70 61 1 = h51 61 1 := f72 61 1 (by decide +kernel)
        have q731 : h51 61 1 = h8 61 1 := by rw [← e53]; exact x_up_k (Ne.symm (tne_4_61 t1))
        have q732 : h8 61 1 = h 61 1 := f10 61 1 (by decide +kernel)
        have q733 : h480 ((h 61 1) + 1) 2 = h278 ((h 61 1) + 1) 2 := jK 0 f482 (rg_T1_2_0_1 t1) (by omega) (by omega) (by decide)
        have q734 : h278 ((h 61 1) + 1) 2 = h266 ((h 61 1) + 1) 2 := jK 0 f280 (rg_T1_2_0_1 t1) (by omega) (by omega) (by decide)
        have q735 : h266 ((h 61 1) + 1) 2 = h223 ((h 61 1) + 1) 2 := by rw [← e268]; exact x_up_k tof_1_4
        have q736 : h223 ((h 61 1) + 1) 2 = h121 ((h 61 1) + 1) 2 := jK 0 f225 (rg_T1_2_0_1 t1) (by omega) (by omega) (by decide)
        have q737 : h121 ((h 61 1) + 1) 2 = h109 ((h 61 1) + 1) 2 := jK 0 f123 (rg_T1_2_0_1 t1) (by omega) (by omega) (by decide)
        have q738 : h109 ((h 61 1) + 1) 2 = h70 ((h 61 1) + 1) 2 := by rw [← e111]; exact x_up_k tof_1_4
        have q739 : h70 ((h 61 1) + 1) 2 = h51 ((h 61 1) + 1) 2 := jK 0 f72 (rg_T1_2_0_1 t1) (by omega) (by omega) (by decide)
        have q740 : h51 ((h 61 1) + 1) 2 = h8 ((h 61 1) + 1) 2 := by rw [← e53]; exact x_up_k tof_1_4
        have e741 : rv h480 2 = (h8 ((h 61 1) + 1) 2) := (congrArg (fun z => svq h480 z 2) ((((((((q724.trans q725).trans q726).trans q727).trans q728).trans q729).trans q730).trans q731).trans q732)).trans (((((((q733.trans q734).trans q735).trans q736).trans q737).trans q738).trans q739).trans q740)
        have q742 : h480 61 1 = h278 61 1 := f482 61 1 (by decide +kernel)
        have q743 : h278 61 1 = h266 61 1 := f280 61 1 (by decide +kernel)
        have q744 : h266 61 1 = h223 61 1 := by rw [← e268]; exact x_up_k (Ne.symm (tne_4_61 t1))
        have q745 : h223 61 1 = h121 61 1 := f225 61 1 (by decide +kernel)
        have q746 : h121 61 1 = h109 61 1 := f123 61 1 (by decide +kernel)
        have q747 : h109 61 1 = h70 61 1 := by rw [← e111]; exact x_up_k (Ne.symm (tne_4_61 t1))
        have q748 : h70 61 1 = h51 61 1 := f72 61 1 (by decide +kernel)
        have q749 : h51 61 1 = h8 61 1 := by rw [← e53]; exact x_up_k (Ne.symm (tne_4_61 t1))
        have q750 : h8 61 1 = h 61 1 := f10 61 1 (by decide +kernel)
        have q751 : h480 ((h 61 1) + 3) 2 = h278 ((h 61 1) + 3) 2 := jK 0 f482 (rg_T3_2_0_1 t1) (by omega) (by omega) (by decide)
        have q752 : h278 ((h 61 1) + 3) 2 = h266 ((h 61 1) + 3) 2 := jK 0 f280 (rg_T3_2_0_1 t1) (by omega) (by omega) (by decide)
        have q753 : h266 ((h 61 1) + 3) 2 = h223 ((h 61 1) + 3) 2 := by rw [← e268]; exact x_up_k tof_3_4
        have q754 : h223 ((h 61 1) + 3) 2 = h121 ((h 61 1) + 3) 2 := jK 0 f225 (rg_T3_2_0_1 t1) (by omega) (by omega) (by decide)
        have q755 : h121 ((h 61 1) + 3) 2 = h109 ((h 61 1) + 3) 2 := jK 0 f123 (rg_T3_2_0_1 t1) (by omega) (by omega) (by decide)
        have q756 : h109 ((h 61 1) + 3) 2 = h70 ((h 61 1) + 3) 2 := by rw [← e111]; exact x_up_k tof_3_4
        have q757 : h70 ((h 61 1) + 3) 2 = h51 ((h 61 1) + 3) 2 := jK 0 f72 (rg_T3_2_0_1 t1) (by omega) (by omega) (by decide)
        have q758 : h51 ((h 61 1) + 3) 2 = h8 ((h 61 1) + 3) 2 := by rw [← e53]; exact x_up_k tof_3_4
        have e759 : rv h480 3 = (h8 ((h 61 1) + 3) 2) := (congrArg (fun z => svq h480 z 3) ((((((((q742.trans q743).trans q744).trans q745).trans q746).trans q747).trans q748).trans q749).trans q750)).trans (((((((q751.trans q752).trans q753).trans q754).trans q755).trans q756).trans q757).trans q758)
        have e760 : rv h 4 = (h ((h 61 1) + 5) 2) := (congrArg (fun z => svq h z 4) rfl).trans rfl
        have q761 : h480 61 1 = h278 61 1 := f482 61 1 (by decide +kernel)
        have q762 : h278 61 1 = h266 61 1 := f280 61 1 (by decide +kernel)
        have q763 : h266 61 1 = h223 61 1 := by rw [← e268]; exact x_up_k (Ne.symm (tne_4_61 t1))
        have q764 : h223 61 1 = h121 61 1 := f225 61 1 (by decide +kernel)
        have q765 : h121 61 1 = h109 61 1 := f123 61 1 (by decide +kernel)
        have q766 : h109 61 1 = h70 61 1 := by rw [← e111]; exact x_up_k (Ne.symm (tne_4_61 t1))
        have q767 : h70 61 1 = h51 61 1 := f72 61 1 (by decide +kernel)
        have q768 : h51 61 1 = h8 61 1 := by rw [← e53]; exact x_up_k (Ne.symm (tne_4_61 t1))
        have q769 : h8 61 1 = h 61 1 := f10 61 1 (by decide +kernel)
        have q770 : h480 ((h 61 1) + 5) 2 = h278 ((h 61 1) + 5) 2 := jK 0 f482 (rg_T5_2_0_1 t1) (by omega) (by omega) (by decide)
        have q771 : h278 ((h 61 1) + 5) 2 = h266 ((h 61 1) + 5) 2 := jK 0 f280 (rg_T5_2_0_1 t1) (by omega) (by omega) (by decide)
        have q772 : h266 ((h 61 1) + 5) 2 = h223 ((h 61 1) + 5) 2 := by rw [← e268]; exact x_up_k tof_5_4
        have q773 : h223 ((h 61 1) + 5) 2 = h121 ((h 61 1) + 5) 2 := jK 0 f225 (rg_T5_2_0_1 t1) (by omega) (by omega) (by decide)
        have q774 : h121 ((h 61 1) + 5) 2 = h109 ((h 61 1) + 5) 2 := jK 0 f123 (rg_T5_2_0_1 t1) (by omega) (by omega) (by decide)
        have q775 : h109 ((h 61 1) + 5) 2 = h70 ((h 61 1) + 5) 2 := by rw [← e111]; exact x_up_k tof_5_4
        have q776 : h70 ((h 61 1) + 5) 2 = h51 ((h 61 1) + 5) 2 := jK 0 f72 (rg_T5_2_0_1 t1) (by omega) (by omega) (by decide)
        have q777 : h51 ((h 61 1) + 5) 2 = h8 ((h 61 1) + 5) 2 := by rw [← e53]; exact x_up_k tof_5_4
        have e778 : rv h480 4 = (h8 ((h 61 1) + 5) 2) := (congrArg (fun z => svq h480 z 4) ((((((((q761.trans q762).trans q763).trans q764).trans q765).trans q766).trans q767).trans q768).trans q769)).trans (((((((q770.trans q771).trans q772).trans q773).trans q774).trans q775).trans q776).trans q777)
        have e779 : rv h 5 = (h ((h 61 1) + 7) 2) := (congrArg (fun z => svq h z 5) rfl).trans rfl
        have q780 : h480 61 1 = h278 61 1 := f482 61 1 (by decide +kernel)
        have q781 : h278 61 1 = h266 61 1 := f280 61 1 (by decide +kernel)
        have q782 : h266 61 1 = h223 61 1 := by rw [← e268]; exact x_up_k (Ne.symm (tne_4_61 t1))
        have q783 : h223 61 1 = h121 61 1 := f225 61 1 (by decide +kernel)
        have q784 : h121 61 1 = h109 61 1 := f123 61 1 (by decide +kernel)
        have q785 : h109 61 1 = h70 61 1 := by rw [← e111]; exact x_up_k (Ne.symm (tne_4_61 t1))
        have q786 : h70 61 1 = h51 61 1 := f72 61 1 (by decide +kernel)
        have q787 : h51 61 1 = h8 61 1 := by rw [← e53]; exact x_up_k (Ne.symm (tne_4_61 t1))
        have q788 : h8 61 1 = h 61 1 := f10 61 1 (by decide +kernel)
        have q789 : h480 ((h 61 1) + 7) 2 = h278 ((h 61 1) + 7) 2 := jK 0 f482 (rg_T7_2_0_1 t1) (by omega) (by omega) (by decide)
        have q790 : h278 ((h 61 1) + 7) 2 = h266 ((h 61 1) + 7) 2 := jK 0 f280 (rg_T7_2_0_1 t1) (by omega) (by omega) (by decide)
        have q791 : h266 ((h 61 1) + 7) 2 = h223 ((h 61 1) + 7) 2 := by rw [← e268]; exact x_up_k tof_7_4
        have q792 : h223 ((h 61 1) + 7) 2 = h121 ((h 61 1) + 7) 2 := jK 0 f225 (rg_T7_2_0_1 t1) (by omega) (by omega) (by decide)
        have q793 : h121 ((h 61 1) + 7) 2 = h109 ((h 61 1) + 7) 2 := jK 0 f123 (rg_T7_2_0_1 t1) (by omega) (by omega) (by decide)
        have q794 : h109 ((h 61 1) + 7) 2 = h70 ((h 61 1) + 7) 2 := by rw [← e111]; exact x_up_k tof_7_4
        have q795 : h70 ((h 61 1) + 7) 2 = h51 ((h 61 1) + 7) 2 := jK 0 f72 (rg_T7_2_0_1 t1) (by omega) (by omega) (by decide)
        have q796 : h51 ((h 61 1) + 7) 2 = h8 ((h 61 1) + 7) 2 := by rw [← e53]; exact x_up_k tof_7_4
        have e797 : rv h480 5 = (h8 ((h 61 1) + 7) 2) := (congrArg (fun z => svq h480 z 5) ((((((((q780.trans q781).trans q782).trans q783).trans q784).trans q785).trans q786).trans q787).trans q788)).trans (((((((q789.trans q790).trans q791).trans q792).trans q793).trans q794).trans q795).trans q796)
        have q798 : h51 1 2 = h8 1 2 := by rw [← e53]; exact x_up_k (Ne.symm (tne_4_1 t1))
        have q799 : h8 1 2 = h 1 2 := jK 0 f10 rg_1_2_0_1 (by omega) (by omega) (by decide)
        have q800 : h109 1 2 = h70 1 2 := by rw [← e111]; exact x_up_k (Ne.symm (tne_4_1 t1))
        obtain ⟨w801, e802⟩ := Tk.yes c127 (by omega)
        have q803 : h266 1 2 = h223 1 2 := by rw [← e268]; exact x_up_k (Ne.symm (tne_4_1 t1))
        obtain ⟨w804, e805⟩ := Tk.yes c284 (by omega)
        have m806 : Ot (h 61 1) h h8 := Ot.trans Ot.refl (c19)
        have m807 : Ot (h 61 1) h h51 := by rw [← e53]; exact Ot.up (o := 4) m806 t1 (by decide) rfl
        have m808 : Ot (h 61 1) h h70 := Ot.fr m807 f72 (by decide)
        have m809 : Ot (h 61 1) h h109 := by rw [← e111]; exact Ot.up (o := 4) m808 t1 (by decide) rfl
        have m810 : Ot (h 61 1) h h121 := Ot.fr m809 f123 (by decide)
        have m811 : Ot (h 61 1) h h223 := Ot.fr m810 f225 (by decide)
        have m812 : Ot (h 61 1) h h266 := by rw [← e268]; exact Ot.up (o := 4) m811 t1 (by decide) rfl
        have m813 : Ot (h 61 1) h h278 := Ot.fr m812 f280 (by decide)
        have m814 : Ot (h 61 1) h h480 := Ot.fr m813 f482 (by decide)
        refine x_retI (np := 129) (x := 0) (by decide +kernel) (by decide) (Or.inr ⟨by decide +kernel, by omega, by omega⟩) ⟨_, rfl, (by decide), ?_⟩
        exact ⟨j481, f488, (by omega), (by omega), (by omega), (by omega), (fun z => by omega), (by omega), (by omega), (nm9.y c77 (by omega) (by omega) (show h51 1 2 = h 1 2 by omega) (by omega) rfl (wd9.y w801 (show h109 1 2 = h70 1 2 by omega) e802 rfl (nm9.y c230 (by omega) (by omega) rfl (by omega) rfl (wd9.y w804 (show h266 1 2 = h223 1 2 by omega) e805 rfl (nm9.f c487 (by omega) (by omega) rfl (by omega) (by omega)))))), m814⟩
      have q684 : ¬ (2147483648 = 2147483648) := q684
      exfalso; omega
    have q234 : ¬ (v219 ≠ 2147483647) := q234
    have b815 := c229 (by omega)
    refine x_const (np := 20) (x := 9223372039002259456) (a := 2147483648) (by decide +kernel) (by decide) (by decide) ?_
    refine x_retI (np := 21) (x := 0) (by decide +kernel) (by decide) (Or.inr ⟨by decide +kernel, by omega, by omega⟩) ⟨_, rfl, (by decide), ?_⟩
    refine x_ifz (k := 0) (tg := 127) (np := 81) (by decide +kernel) (by decide) (by decide) (fun q816 => ?_) (fun q817 => ?_)
    · have q816 : 2147483648 = 2147483648 := q816
      refine x_const (np := 128) (x := 9223372039002259456) (a := 2147483648) (by decide +kernel) (by decide) (by decide) ?_
      have e818 : rv h 0 = (h (h 61 1) 7) := (congrArg (fun z => svq h z 0) rfl).trans rfl
      have q819 : h223 61 1 = h121 61 1 := f225 61 1 (by decide +kernel)
      have q820 : h121 61 1 = h109 61 1 := f123 61 1 (by decide +kernel)
      have q821 : h109 61 1 = h70 61 1 := by rw [← e111]; exact x_up_k (Ne.symm (tne_4_61 t1))
      have q822 : h70 61 1 = h51 61 1 := f72 61 1 (by decide +kernel)
      have q823 : h51 61 1 = h8 61 1 := by rw [← e53]; exact x_up_k (Ne.symm (tne_4_61 t1))
      have q824 : h8 61 1 = h 61 1 := f10 61 1 (by decide +kernel)
      have q825 : h223 (h 61 1) 7 = h121 (h 61 1) 7 := jK 0 f225 (rg_T0_7_0_1 t1) (by omega) (by omega) (by decide)
      have q826 : h121 (h 61 1) 7 = h109 (h 61 1) 7 := jK 0 f123 (rg_T0_7_0_1 t1) (by omega) (by omega) (by decide)
      have q827 : h109 (h 61 1) 7 = h70 (h 61 1) 7 := by rw [← e111]; exact x_up_k tof_0_4
      have q828 : h70 (h 61 1) 7 = h51 (h 61 1) 7 := jK 0 f72 (rg_T0_7_0_1 t1) (by omega) (by omega) (by decide)
      have q829 : h51 (h 61 1) 7 = h8 (h 61 1) 7 := by rw [← e53]; exact x_up_k tof_0_4
      have e830 : rv h223 0 = (h8 (h 61 1) 7) := (congrArg (fun z => svq h223 z 0) (((((q819.trans q820).trans q821).trans q822).trans q823).trans q824)).trans ((((q825.trans q826).trans q827).trans q828).trans q829)
      have e831 : rv h 1 = (h (h 61 1) 8) := (congrArg (fun z => svq h z 1) rfl).trans rfl
      have q832 : h223 61 1 = h121 61 1 := f225 61 1 (by decide +kernel)
      have q833 : h121 61 1 = h109 61 1 := f123 61 1 (by decide +kernel)
      have q834 : h109 61 1 = h70 61 1 := by rw [← e111]; exact x_up_k (Ne.symm (tne_4_61 t1))
      have q835 : h70 61 1 = h51 61 1 := f72 61 1 (by decide +kernel)
      have q836 : h51 61 1 = h8 61 1 := by rw [← e53]; exact x_up_k (Ne.symm (tne_4_61 t1))
      have q837 : h8 61 1 = h 61 1 := f10 61 1 (by decide +kernel)
      have q838 : h223 (h 61 1) 8 = h121 (h 61 1) 8 := jK 0 f225 (rg_T0_8_0_1 t1) (by omega) (by omega) (by decide)
      have q839 : h121 (h 61 1) 8 = h109 (h 61 1) 8 := jK 0 f123 (rg_T0_8_0_1 t1) (by omega) (by omega) (by decide)
      have q840 : h109 (h 61 1) 8 = h70 (h 61 1) 8 := by rw [← e111]; exact x_up_k tof_0_4
      have q841 : h70 (h 61 1) 8 = h51 (h 61 1) 8 := jK 0 f72 (rg_T0_8_0_1 t1) (by omega) (by omega) (by decide)
      have q842 : h51 (h 61 1) 8 = h8 (h 61 1) 8 := by rw [← e53]; exact x_up_k tof_0_4
      have e843 : rv h223 1 = (h8 (h 61 1) 8) := (congrArg (fun z => svq h223 z 1) (((((q832.trans q833).trans q834).trans q835).trans q836).trans q837)).trans ((((q838.trans q839).trans q840).trans q841).trans q842)
      have e844 : rv h 2 = (h ((h 61 1) + 1) 2) := (congrArg (fun z => svq h z 2) rfl).trans rfl
      have q845 : h223 61 1 = h121 61 1 := f225 61 1 (by decide +kernel)
      have q846 : h121 61 1 = h109 61 1 := f123 61 1 (by decide +kernel)
      have q847 : h109 61 1 = h70 61 1 := by rw [← e111]; exact x_up_k (Ne.symm (tne_4_61 t1))
      have q848 : h70 61 1 = h51 61 1 := f72 61 1 (by decide +kernel)
      have q849 : h51 61 1 = h8 61 1 := by rw [← e53]; exact x_up_k (Ne.symm (tne_4_61 t1))
      have q850 : h8 61 1 = h 61 1 := f10 61 1 (by decide +kernel)
      have q851 : h223 ((h 61 1) + 1) 2 = h121 ((h 61 1) + 1) 2 := jK 0 f225 (rg_T1_2_0_1 t1) (by omega) (by omega) (by decide)
      have q852 : h121 ((h 61 1) + 1) 2 = h109 ((h 61 1) + 1) 2 := jK 0 f123 (rg_T1_2_0_1 t1) (by omega) (by omega) (by decide)
      have q853 : h109 ((h 61 1) + 1) 2 = h70 ((h 61 1) + 1) 2 := by rw [← e111]; exact x_up_k tof_1_4
      have q854 : h70 ((h 61 1) + 1) 2 = h51 ((h 61 1) + 1) 2 := jK 0 f72 (rg_T1_2_0_1 t1) (by omega) (by omega) (by decide)
      have q855 : h51 ((h 61 1) + 1) 2 = h8 ((h 61 1) + 1) 2 := by rw [← e53]; exact x_up_k tof_1_4
      have e856 : rv h223 2 = (h8 ((h 61 1) + 1) 2) := (congrArg (fun z => svq h223 z 2) (((((q845.trans q846).trans q847).trans q848).trans q849).trans q850)).trans ((((q851.trans q852).trans q853).trans q854).trans q855)
      have q857 : h223 61 1 = h121 61 1 := f225 61 1 (by decide +kernel)
      have q858 : h121 61 1 = h109 61 1 := f123 61 1 (by decide +kernel)
      have q859 : h109 61 1 = h70 61 1 := by rw [← e111]; exact x_up_k (Ne.symm (tne_4_61 t1))
      have q860 : h70 61 1 = h51 61 1 := f72 61 1 (by decide +kernel)
      have q861 : h51 61 1 = h8 61 1 := by rw [← e53]; exact x_up_k (Ne.symm (tne_4_61 t1))
      have q862 : h8 61 1 = h 61 1 := f10 61 1 (by decide +kernel)
      have q863 : h223 ((h 61 1) + 3) 2 = h121 ((h 61 1) + 3) 2 := jK 0 f225 (rg_T3_2_0_1 t1) (by omega) (by omega) (by decide)
      have q864 : h121 ((h 61 1) + 3) 2 = h109 ((h 61 1) + 3) 2 := jK 0 f123 (rg_T3_2_0_1 t1) (by omega) (by omega) (by decide)
      have q865 : h109 ((h 61 1) + 3) 2 = h70 ((h 61 1) + 3) 2 := by rw [← e111]; exact x_up_k tof_3_4
      have q866 : h70 ((h 61 1) + 3) 2 = h51 ((h 61 1) + 3) 2 := jK 0 f72 (rg_T3_2_0_1 t1) (by omega) (by omega) (by decide)
      have q867 : h51 ((h 61 1) + 3) 2 = h8 ((h 61 1) + 3) 2 := by rw [← e53]; exact x_up_k tof_3_4
      have e868 : rv h223 3 = (h8 ((h 61 1) + 3) 2) := (congrArg (fun z => svq h223 z 3) (((((q857.trans q858).trans q859).trans q860).trans q861).trans q862)).trans ((((q863.trans q864).trans q865).trans q866).trans q867)
      have e869 : rv h 4 = (h ((h 61 1) + 5) 2) := (congrArg (fun z => svq h z 4) rfl).trans rfl
      have q870 : h223 61 1 = h121 61 1 := f225 61 1 (by decide +kernel)
      have q871 : h121 61 1 = h109 61 1 := f123 61 1 (by decide +kernel)
      have q872 : h109 61 1 = h70 61 1 := by rw [← e111]; exact x_up_k (Ne.symm (tne_4_61 t1))
      have q873 : h70 61 1 = h51 61 1 := f72 61 1 (by decide +kernel)
      have q874 : h51 61 1 = h8 61 1 := by rw [← e53]; exact x_up_k (Ne.symm (tne_4_61 t1))
      have q875 : h8 61 1 = h 61 1 := f10 61 1 (by decide +kernel)
      have q876 : h223 ((h 61 1) + 5) 2 = h121 ((h 61 1) + 5) 2 := jK 0 f225 (rg_T5_2_0_1 t1) (by omega) (by omega) (by decide)
      have q877 : h121 ((h 61 1) + 5) 2 = h109 ((h 61 1) + 5) 2 := jK 0 f123 (rg_T5_2_0_1 t1) (by omega) (by omega) (by decide)
      have q878 : h109 ((h 61 1) + 5) 2 = h70 ((h 61 1) + 5) 2 := by rw [← e111]; exact x_up_k tof_5_4
      have q879 : h70 ((h 61 1) + 5) 2 = h51 ((h 61 1) + 5) 2 := jK 0 f72 (rg_T5_2_0_1 t1) (by omega) (by omega) (by decide)
      have q880 : h51 ((h 61 1) + 5) 2 = h8 ((h 61 1) + 5) 2 := by rw [← e53]; exact x_up_k tof_5_4
      have e881 : rv h223 4 = (h8 ((h 61 1) + 5) 2) := (congrArg (fun z => svq h223 z 4) (((((q870.trans q871).trans q872).trans q873).trans q874).trans q875)).trans ((((q876.trans q877).trans q878).trans q879).trans q880)
      have e882 : rv h 5 = (h ((h 61 1) + 7) 2) := (congrArg (fun z => svq h z 5) rfl).trans rfl
      have q883 : h223 61 1 = h121 61 1 := f225 61 1 (by decide +kernel)
      have q884 : h121 61 1 = h109 61 1 := f123 61 1 (by decide +kernel)
      have q885 : h109 61 1 = h70 61 1 := by rw [← e111]; exact x_up_k (Ne.symm (tne_4_61 t1))
      have q886 : h70 61 1 = h51 61 1 := f72 61 1 (by decide +kernel)
      have q887 : h51 61 1 = h8 61 1 := by rw [← e53]; exact x_up_k (Ne.symm (tne_4_61 t1))
      have q888 : h8 61 1 = h 61 1 := f10 61 1 (by decide +kernel)
      have q889 : h223 ((h 61 1) + 7) 2 = h121 ((h 61 1) + 7) 2 := jK 0 f225 (rg_T7_2_0_1 t1) (by omega) (by omega) (by decide)
      have q890 : h121 ((h 61 1) + 7) 2 = h109 ((h 61 1) + 7) 2 := jK 0 f123 (rg_T7_2_0_1 t1) (by omega) (by omega) (by decide)
      have q891 : h109 ((h 61 1) + 7) 2 = h70 ((h 61 1) + 7) 2 := by rw [← e111]; exact x_up_k tof_7_4
      have q892 : h70 ((h 61 1) + 7) 2 = h51 ((h 61 1) + 7) 2 := jK 0 f72 (rg_T7_2_0_1 t1) (by omega) (by omega) (by decide)
      have q893 : h51 ((h 61 1) + 7) 2 = h8 ((h 61 1) + 7) 2 := by rw [← e53]; exact x_up_k tof_7_4
      have e894 : rv h223 5 = (h8 ((h 61 1) + 7) 2) := (congrArg (fun z => svq h223 z 5) (((((q883.trans q884).trans q885).trans q886).trans q887).trans q888)).trans ((((q889.trans q890).trans q891).trans q892).trans q893)
      have q895 : h51 1 2 = h8 1 2 := by rw [← e53]; exact x_up_k (Ne.symm (tne_4_1 t1))
      have q896 : h8 1 2 = h 1 2 := jK 0 f10 rg_1_2_0_1 (by omega) (by omega) (by decide)
      have q897 : h109 1 2 = h70 1 2 := by rw [← e111]; exact x_up_k (Ne.symm (tne_4_1 t1))
      obtain ⟨w898, e899⟩ := Tk.yes c127 (by omega)
      have m900 : Ot (h 61 1) h h8 := Ot.trans Ot.refl (c19)
      have m901 : Ot (h 61 1) h h51 := by rw [← e53]; exact Ot.up (o := 4) m900 t1 (by decide) rfl
      have m902 : Ot (h 61 1) h h70 := Ot.fr m901 f72 (by decide)
      have m903 : Ot (h 61 1) h h109 := by rw [← e111]; exact Ot.up (o := 4) m902 t1 (by decide) rfl
      have m904 : Ot (h 61 1) h h121 := Ot.fr m903 f123 (by decide)
      have m905 : Ot (h 61 1) h h223 := Ot.fr m904 f225 (by decide)
      refine x_retI (np := 129) (x := 0) (by decide +kernel) (by decide) (Or.inr ⟨by decide +kernel, by omega, by omega⟩) ⟨_, rfl, (by decide), ?_⟩
      exact ⟨j224, f231, (by omega), (by omega), (by omega), (by omega), (fun z => by omega), (by omega), (by omega), (nm9.y c77 (by omega) (by omega) (show h51 1 2 = h 1 2 by omega) (by omega) rfl (wd9.y w898 (show h109 1 2 = h70 1 2 by omega) e899 rfl (nm9.f c230 (by omega) (by omega) rfl (by omega) (by omega)))), m905⟩
    have q817 : ¬ (2147483648 = 2147483648) := q817
    exfalso; omega
  have q86 : ¬ (v65 ≠ 2147483647) := q86
  have b906 := c76 (by omega)
  refine x_const (np := 20) (x := 9223372039002259456) (a := 2147483648) (by decide +kernel) (by decide) (by decide) ?_
  refine x_retI (np := 21) (x := 0) (by decide +kernel) (by decide) (Or.inr ⟨by decide +kernel, by omega, by omega⟩) ⟨_, rfl, (by decide), ?_⟩
  refine x_ifz (k := 0) (tg := 127) (np := 50) (by decide +kernel) (by decide) (by decide) (fun q907 => ?_) (fun q908 => ?_)
  · have q907 : 2147483648 = 2147483648 := q907
    refine x_const (np := 128) (x := 9223372039002259456) (a := 2147483648) (by decide +kernel) (by decide) (by decide) ?_
    have e909 : rv h 0 = (h (h 61 1) 7) := (congrArg (fun z => svq h z 0) rfl).trans rfl
    have q910 : h70 61 1 = h51 61 1 := f72 61 1 (by decide +kernel)
    have q911 : h51 61 1 = h8 61 1 := by rw [← e53]; exact x_up_k (Ne.symm (tne_4_61 t1))
    have q912 : h8 61 1 = h 61 1 := f10 61 1 (by decide +kernel)
    have q913 : h70 (h 61 1) 7 = h51 (h 61 1) 7 := jK 0 f72 (rg_T0_7_0_1 t1) (by omega) (by omega) (by decide)
    have q914 : h51 (h 61 1) 7 = h8 (h 61 1) 7 := by rw [← e53]; exact x_up_k tof_0_4
    have e915 : rv h70 0 = (h8 (h 61 1) 7) := (congrArg (fun z => svq h70 z 0) ((q910.trans q911).trans q912)).trans (q913.trans q914)
    have e916 : rv h 1 = (h (h 61 1) 8) := (congrArg (fun z => svq h z 1) rfl).trans rfl
    have q917 : h70 61 1 = h51 61 1 := f72 61 1 (by decide +kernel)
    have q918 : h51 61 1 = h8 61 1 := by rw [← e53]; exact x_up_k (Ne.symm (tne_4_61 t1))
    have q919 : h8 61 1 = h 61 1 := f10 61 1 (by decide +kernel)
    have q920 : h70 (h 61 1) 8 = h51 (h 61 1) 8 := jK 0 f72 (rg_T0_8_0_1 t1) (by omega) (by omega) (by decide)
    have q921 : h51 (h 61 1) 8 = h8 (h 61 1) 8 := by rw [← e53]; exact x_up_k tof_0_4
    have e922 : rv h70 1 = (h8 (h 61 1) 8) := (congrArg (fun z => svq h70 z 1) ((q917.trans q918).trans q919)).trans (q920.trans q921)
    have e923 : rv h 2 = (h ((h 61 1) + 1) 2) := (congrArg (fun z => svq h z 2) rfl).trans rfl
    have q924 : h70 61 1 = h51 61 1 := f72 61 1 (by decide +kernel)
    have q925 : h51 61 1 = h8 61 1 := by rw [← e53]; exact x_up_k (Ne.symm (tne_4_61 t1))
    have q926 : h8 61 1 = h 61 1 := f10 61 1 (by decide +kernel)
    have q927 : h70 ((h 61 1) + 1) 2 = h51 ((h 61 1) + 1) 2 := jK 0 f72 (rg_T1_2_0_1 t1) (by omega) (by omega) (by decide)
    have q928 : h51 ((h 61 1) + 1) 2 = h8 ((h 61 1) + 1) 2 := by rw [← e53]; exact x_up_k tof_1_4
    have e929 : rv h70 2 = (h8 ((h 61 1) + 1) 2) := (congrArg (fun z => svq h70 z 2) ((q924.trans q925).trans q926)).trans (q927.trans q928)
    have q930 : h70 61 1 = h51 61 1 := f72 61 1 (by decide +kernel)
    have q931 : h51 61 1 = h8 61 1 := by rw [← e53]; exact x_up_k (Ne.symm (tne_4_61 t1))
    have q932 : h8 61 1 = h 61 1 := f10 61 1 (by decide +kernel)
    have q933 : h70 ((h 61 1) + 3) 2 = h51 ((h 61 1) + 3) 2 := jK 0 f72 (rg_T3_2_0_1 t1) (by omega) (by omega) (by decide)
    have q934 : h51 ((h 61 1) + 3) 2 = h8 ((h 61 1) + 3) 2 := by rw [← e53]; exact x_up_k tof_3_4
    have e935 : rv h70 3 = (h8 ((h 61 1) + 3) 2) := (congrArg (fun z => svq h70 z 3) ((q930.trans q931).trans q932)).trans (q933.trans q934)
    have e936 : rv h 4 = (h ((h 61 1) + 5) 2) := (congrArg (fun z => svq h z 4) rfl).trans rfl
    have q937 : h70 61 1 = h51 61 1 := f72 61 1 (by decide +kernel)
    have q938 : h51 61 1 = h8 61 1 := by rw [← e53]; exact x_up_k (Ne.symm (tne_4_61 t1))
    have q939 : h8 61 1 = h 61 1 := f10 61 1 (by decide +kernel)
    have q940 : h70 ((h 61 1) + 5) 2 = h51 ((h 61 1) + 5) 2 := jK 0 f72 (rg_T5_2_0_1 t1) (by omega) (by omega) (by decide)
    have q941 : h51 ((h 61 1) + 5) 2 = h8 ((h 61 1) + 5) 2 := by rw [← e53]; exact x_up_k tof_5_4
    have e942 : rv h70 4 = (h8 ((h 61 1) + 5) 2) := (congrArg (fun z => svq h70 z 4) ((q937.trans q938).trans q939)).trans (q940.trans q941)
    have e943 : rv h 5 = (h ((h 61 1) + 7) 2) := (congrArg (fun z => svq h z 5) rfl).trans rfl
    have q944 : h70 61 1 = h51 61 1 := f72 61 1 (by decide +kernel)
    have q945 : h51 61 1 = h8 61 1 := by rw [← e53]; exact x_up_k (Ne.symm (tne_4_61 t1))
    have q946 : h8 61 1 = h 61 1 := f10 61 1 (by decide +kernel)
    have q947 : h70 ((h 61 1) + 7) 2 = h51 ((h 61 1) + 7) 2 := jK 0 f72 (rg_T7_2_0_1 t1) (by omega) (by omega) (by decide)
    have q948 : h51 ((h 61 1) + 7) 2 = h8 ((h 61 1) + 7) 2 := by rw [← e53]; exact x_up_k tof_7_4
    have e949 : rv h70 5 = (h8 ((h 61 1) + 7) 2) := (congrArg (fun z => svq h70 z 5) ((q944.trans q945).trans q946)).trans (q947.trans q948)
    have q950 : h51 1 2 = h8 1 2 := by rw [← e53]; exact x_up_k (Ne.symm (tne_4_1 t1))
    have q951 : h8 1 2 = h 1 2 := jK 0 f10 rg_1_2_0_1 (by omega) (by omega) (by decide)
    have m952 : Ot (h 61 1) h h8 := Ot.trans Ot.refl (c19)
    have m953 : Ot (h 61 1) h h51 := by rw [← e53]; exact Ot.up (o := 4) m952 t1 (by decide) rfl
    have m954 : Ot (h 61 1) h h70 := Ot.fr m953 f72 (by decide)
    refine x_retI (np := 129) (x := 0) (by decide +kernel) (by decide) (Or.inr ⟨by decide +kernel, by omega, by omega⟩) ⟨_, rfl, (by decide), ?_⟩
    exact ⟨j71, f78, (by omega), (by omega), (by omega), (by omega), (fun z => by omega), (by omega), (by omega), (nm9.f c77 (by omega) (by omega) (show h51 1 2 = h 1 2 by omega) (by omega) (by omega)), m954⟩
  have q908 : ¬ (2147483648 = 2147483648) := q908
  exfalso; omega
set_option maxHeartbeats 0 in
/-- LentNames$Table.put(III)V -/
theorem c69_T1 {sc : Nat × Nat} {d ra0 a1 a2 a3 : Nat} {h : xh} (hJ : J h) (ta0 : tw ra0) (ba1 : 2147483648 ≤ a1 ∧ a1 ≤ 2147483667) (ba2 : 2147483648 ≤ a2 ∧ a2 ≤ 2147483654) (ba3 : 2147483648 ≤ a3 ∧ a3 ≤ 2147483648) : X sc 69 d (xV fun h' => J h' ∧ Fr 129 h h') 0 0 0 [x_r (ra0 + 1), iv_c a1, iv_c a2, iv_c a3, 147573952589676412928] [] h := by
  have la1 : a1 < 4294967296 := by omega
  have la2 : a2 < 4294967296 := by omega
  have la3 : a3 < 4294967296 := by omega
  have hF := Fr.refl 129 h
  refine x_iload (np := 1) (x := 1) (by decide +kernel) rfl la1 ?_
  refine x_ifz (k := 2) (tg := 28) (np := 4) (by decide +kernel) (by decide) la1 (fun q1 => ?_) (fun q2 => ?_)
  · have q1 : a1 < 2147483648 := q1
    exfalso; omega
  have q2 : ¬ (a1 < 2147483648) := q2
  refine x_iload (np := 5) (x := 1) (by decide +kernel) rfl la1 ?_
  refine x_aload (np := 6) (x := 0) (by decide +kernel) rfl (x_nc_le (tn_1 ta0)) ?_
  have b3 := jB (e := 2) 0 hJ (rg_T1_2_0_1 ta0) (by omega) (by omega)
  refine x_getC (np := 9) (x := 386) (f := 2) (q := (h (ra0 + 1) 2)) (by decide +kernel) (by decide) (tg_1_386_2_0 ta0) rfl (fun l4 => ?_)
  refine x_icmp (k := 3) (tg := 28) (np := 12) (by decide +kernel) (by decide) la1 l4 (fun q5 => ?_) (fun q6 => ?_)
  · have q5 : (h (ra0 + 1) 2) ≤ a1 := q5
    refine x_const (np := 29) (x := 9223372039002259456) (a := 2147483648) (by decide +kernel) (by decide) (by decide) ?_
    refine x_istore (np := 31) (x := 4) (lo' := [x_r (ra0 + 1), iv_c a1, iv_c a2, iv_c a3, iv_c 2147483648]) (by decide +kernel) (by decide) (Nat.le_of_ble_eq_true rfl) rfl ?_
    refine x_iload (np := 33) (x := 4) (by decide +kernel) rfl (by decide) ?_
    refine x_ifz (k := 0) (tg := 50) (np := 36) (by decide +kernel) (by decide) (by decide) (fun q7 => ?_) (fun q8 => ?_)
    · have q7 : 2147483648 = 2147483648 := q7
      refine x_retV (np := 51) (x := 0) (by decide +kernel) (by decide +kernel) ⟨rfl, ?_⟩
      exact ⟨hJ, hF⟩
    have q8 : ¬ (2147483648 = 2147483648) := q8
    exfalso; omega
  have q6 : ¬ ((h (ra0 + 1) 2) ≤ a1) := q6
  refine x_iload (np := 13) (x := 2) (by decide +kernel) rfl la2 ?_
  refine x_ifz (k := 2) (tg := 28) (np := 16) (by decide +kernel) (by decide) la2 (fun q9 => ?_) (fun q10 => ?_)
  · have q9 : a2 < 2147483648 := q9
    exfalso; omega
  have q10 : ¬ (a2 < 2147483648) := q10
  refine x_iload (np := 17) (x := 2) (by decide +kernel) rfl la2 ?_
  refine x_aload (np := 18) (x := 0) (by decide +kernel) rfl (x_nc_le (tn_1 ta0)) ?_
  have b11 := jB (e := 0) 0 hJ (rg_T1_0_0_1 ta0) (by omega) (by omega)
  have q12 : (h (ra0 + 1) 0) = 2147483655 := by omega
  refine x_getC (np := 21) (x := 384) (f := 0) (q := 2147483655) (by decide +kernel) (by decide) (tg_1_384_0_0 ta0) q12 (fun l13 => ?_)
  refine x_icmp (k := 3) (tg := 28) (np := 24) (by decide +kernel) (by decide) la2 (by decide) (fun q14 => ?_) (fun q15 => ?_)
  · have q14 : 2147483655 ≤ a2 := q14
    exfalso; omega
  have q15 : ¬ (2147483655 ≤ a2) := q15
  refine x_const (np := 25) (x := 9223372043297226753) (a := 2147483649) (by decide +kernel) (by decide) (by decide) ?_
  refine x_goto (np := 28) (x := 29) (by decide +kernel) ?_
  refine x_istore (np := 31) (x := 4) (lo' := [x_r (ra0 + 1), iv_c a1, iv_c a2, iv_c a3, iv_c 2147483649]) (by decide +kernel) (by decide) (Nat.le_of_ble_eq_true rfl) rfl ?_
  refine x_iload (np := 33) (x := 4) (by decide +kernel) rfl (by decide) ?_
  refine x_ifz (k := 0) (tg := 50) (np := 36) (by decide +kernel) (by decide) (by decide) (fun q16 => ?_) (fun q17 => ?_)
  · have q16 : 2147483649 = 2147483648 := q16
    exfalso; omega
  have q17 : ¬ (2147483649 = 2147483648) := q17
  refine x_aload (np := 37) (x := 0) (by decide +kernel) rfl (x_nc_le (tn_1 ta0)) ?_
  have q18 : h (ra0 + 1) 1 = (ra0 + 2) := tf_1_1 hJ ta0
  refine x_getR (np := 40) (x := 385) (f := 1) (q := (ra0 + 2)) (by decide +kernel) (by decide) (tg_1_385_1_1 ta0) q18 ?_
  refine x_iload (np := 41) (x := 1) (by decide +kernel) rfl la1 ?_
  refine x_aload (np := 42) (x := 0) (by decide +kernel) rfl (x_nc_le (tn_1 ta0)) ?_
  refine x_getC (np := 45) (x := 384) (f := 0) (q := 2147483655) (by decide +kernel) (by decide) (tg_1_384_0_0 ta0) q12 (fun l19 => ?_)
  obtain ⟨u20, q21⟩ : ∃ z, a1 = 2147483648 + z := ⟨a1 - 2147483648, by omega⟩
  refine x_imul (np := 46) (x := 0) (i := u20) (j := 7) (v := (2147483648 + 7 * u20)) (by decide +kernel) (by omega) (by omega) (by omega) (by omega) la1 (by decide) ?_
  refine x_iload (np := 47) (x := 2) (by decide +kernel) rfl la2 ?_
  refine x_iadd (np := 48) (x := 0) (v := (7 * u20 + a2)) (by decide +kernel) (by omega) la2 (by omega) (by omega) ?_
  refine x_iload (np := 49) (x := 3) (by decide +kernel) rfl la3 ?_
  obtain ⟨u23, q24⟩ : ∃ z, a2 = 2147483648 + z := ⟨a2 - 2147483648, by omega⟩
  refine x_ast (np := 50) (x := 0) (kd := 1) (n := 140) (i := (7 * u20 + u23)) (by decide +kernel) (Or.inl rfl) (ta_2_140 ta0) (by omega) (by omega) (by decide) la3 (fun z => absurd z (by decide)) ?_
  have j26 := jUw (e := (7 * u20 + u23)) (v := a3) hJ (rw_T2 ta0) (by omega) (by omega)
  have f28 := jFw (e := (7 * u20 + u23)) (v := a3) hF (rw_T2 ta0) (by omega) (by decide)
  generalize e27 : x_up h (ra0 + 2) (7 * u20 + u23) a3 = h25 at j26 f28 ⊢
  refine x_retV (np := 51) (x := 0) (by decide +kernel) (by decide +kernel) ⟨rfl, ?_⟩
  exact ⟨j26, f28⟩
set_option maxHeartbeats 0 in
/-- LentNames$Table.addRow()I -/
theorem c67_T1 {sc : Nat × Nat} {d ra0 : Nat} {h : xh} (hJ : J h) (ta0 : tw ra0) (hr0 : (h (ra0 + 1) 2) + 1 ≤ 2147483668) : X sc 67 (d + 1) (xI fun r h' => J h' ∧ Fr 281474976710785 h h' ∧ (2147483648 ≤ r ∧ r ≤ 2147483667) ∧ (h' ra0 7 = h ra0 7) ∧ (h' ra0 8 = h ra0 8) ∧ (h' (ra0 + 1) 2 = h (ra0 + 1) 2 + 1) ∧ (h' (ra0 + 3) 2 = h (ra0 + 3) 2) ∧ (h' (ra0 + 5) 2 = h (ra0 + 5) 2) ∧ (h' (ra0 + 7) 2 = h (ra0 + 7) 2) ∧ (r + 1 = h' (ra0 + 1) 2) ∧ Ot ra0 h h') 0 0 0 [x_r (ra0 + 1), 147573952589676412928] [] h := by
  have hF := Fr.refl 281474976710785 h
  have b1 := jB (e := 2) 0 hJ (rg_T1_2_0_1 ta0) (by omega) (by omega)
  refine x_aload (np := 1) (x := 0) (by decide +kernel) rfl (x_nc_le (tn_1 ta0)) ?_
  refine x_nI (t := 6) (mj := 66) (n := 1) (rc := 7) (ml := 1) (nr := 0) (np := 4) (as := [x_r (ra0 + 1)]) (rest := []) (lo1 := [x_r (ra0 + 1)]) (by decide +kernel) (by decide) (by decide +kernel) (x_rb_of (tr_1_7 ta0)) rfl rfl (x_wr (tn_1 ta0) x_wn) x_wn (by decide) rfl ?_
  refine x_aload (np := 1) (x := 0) (by decide +kernel) rfl (x_nc_le (tn_1 ta0)) ?_
  refine x_getC (np := 4) (x := 386) (f := 2) (q := (h (ra0 + 1) 2)) (by decide +kernel) (by decide) (tg_1_386_2_0 ta0) rfl (fun l2 => ?_)
  refine x_const (np := 5) (x := 9223372043297226753) (a := 2147483649) (by decide +kernel) (by decide) (by decide) ?_
  refine x_iadd (np := 6) (x := 0) (v := (1 + (h (ra0 + 1) 2))) (by decide +kernel) l2 (by decide) (by omega) (by omega) ?_
  refine x_aload (np := 7) (x := 0) (by decide +kernel) rfl (x_nc_le (tn_1 ta0)) ?_
  have b3 := jB (e := 0) 0 hJ (rg_T1_0_0_1 ta0) (by omega) (by omega)
  have q4 : (h (ra0 + 1) 0) = 2147483655 := by omega
  refine x_getC (np := 10) (x := 384) (f := 0) (q := 2147483655) (by decide +kernel) (by decide) (tg_1_384_0_0 ta0) q4 (fun l5 => ?_)
  obtain ⟨u6, q7⟩ : ∃ z, (h (ra0 + 1) 2) = 2147483648 + z := ⟨(h (ra0 + 1) 2) - 2147483648, by omega⟩
  refine x_imul (np := 11) (x := 0) (i := (1 + u6)) (j := 7) (v := (2147483655 + 7 * u6)) (by decide +kernel) (by omega) (by omega) (by omega) (by omega) (by omega) (by decide) ?_
  refine x_aload (np := 12) (x := 0) (by decide +kernel) rfl (x_nc_le (tn_1 ta0)) ?_
  have q9 : h (ra0 + 1) 1 = (ra0 + 2) := tf_1_1 hJ ta0
  refine x_getR (np := 15) (x := 385) (f := 1) (q := (ra0 + 2)) (by decide +kernel) (by decide) (tg_1_385_1_1 ta0) q9 ?_
  refine x_alen (np := 16) (x := 0) (n := 140) (by decide +kernel) (tn_2 ta0) (tl_2 ta0).1 (tl_2 ta0).2 (by decide) ?_
  show X _ _ _ _ _ _ _ _ [iv_c 2147483788, iv_c (2147483655 + 7 * u6)] _
  refine x_icmp (k := 5) (tg := 23) (np := 19) (by decide +kernel) (by decide) (by omega) (by decide) (fun q10 => ?_) (fun q11 => ?_)
  · have q10 : (2147483655 + 7 * u6) ≤ 2147483788 := q10
    refine x_const (np := 24) (x := 9223372039002259456) (a := 2147483648) (by decide +kernel) (by decide) (by decide) ?_
    refine x_retI (np := 25) (x := 0) (by decide +kernel) (by decide) (Or.inr ⟨by decide +kernel, by omega, by omega⟩) ⟨_, rfl, (by decide), ?_⟩
    refine x_ifz (k := 0) (tg := 9) (np := 7) (by decide +kernel) (by decide) (by decide) (fun q12 => ?_) (fun q13 => ?_)
    · have q12 : 2147483648 = 2147483648 := q12
      refine x_aload (np := 10) (x := 0) (by decide +kernel) rfl (x_nc_le (tn_1 ta0)) ?_
      refine x_dup (np := 11) (x := 0) (by decide +kernel) (by have z := x_nc_le (k := (ra0 + 1)) (tn_1 ta0); unfold x_r; omega) ?_
      refine x_getC (np := 14) (x := 386) (f := 2) (q := (h (ra0 + 1) 2)) (by decide +kernel) (by decide) (tg_1_386_2_0 ta0) rfl (fun l14 => ?_)
      refine x_const (np := 15) (x := 9223372043297226753) (a := 2147483649) (by decide +kernel) (by decide) (by decide) ?_
      refine x_iadd (np := 16) (x := 0) (v := (1 + (h (ra0 + 1) 2))) (by decide +kernel) l2 (by decide) (by omega) (by omega) ?_
      refine x_putI (np := 19) (x := 386) (f := 2) (by decide +kernel) (tg_1_386_2_0 ta0) (by omega) (Or.inl (by decide)) ?_
      have j16 := jU (e := 2) (v := (1 + (h (ra0 + 1) 2))) 0 hJ (rg_T1_2_0_1 ta0) (by omega) (by omega) (by omega)
      have f18 := jF (e := 2) (v := (1 + (h (ra0 + 1) 2))) 0 hF (rg_T1_2_0_1 ta0) (by omega) (by omega) (by decide)
      generalize e17 : x_up h (ra0 + 1) 2 (1 + (h (ra0 + 1) 2)) = h15 at j16 f18 ⊢
      refine x_const (np := 20) (x := 9223372039002259456) (a := 2147483648) (by decide +kernel) (by decide) (by decide) ?_
      refine x_istore (np := 21) (x := 1) (lo' := [x_r (ra0 + 1), iv_c 2147483648]) (by decide +kernel) (by decide) (Nat.le_of_ble_eq_true rfl) rfl ?_
      have p180 : ∀ (n : Nat) (v175 : Nat) (h177 : xh), 4294967296 - v175 < n → (2147483648 ≤ v175 ∧ v175 ≤ 2147483655) → J h177 → Fr 129 h15 h177 → Ot ra0 h h177 → X sc 67 (d + 1) (xI fun r h' => J h' ∧ Fr 281474976710785 h h' ∧ (2147483648 ≤ r ∧ r ≤ 2147483667) ∧ (h' ra0 7 = h ra0 7) ∧ (h' ra0 8 = h ra0 8) ∧ (h' (ra0 + 1) 2 = h (ra0 + 1) 2 + 1) ∧ (h' (ra0 + 3) 2 = h (ra0 + 3) 2) ∧ (h' (ra0 + 5) 2 = h (ra0 + 5) 2) ∧ (h' (ra0 + 7) 2 = h (ra0 + 7) 2) ∧ (r + 1 = h' (ra0 + 1) 2) ∧ Ot ra0 h h') 0 0 21 [x_r (ra0 + 1), iv_c v175] [] h177 := by
        intro n
        induction n with
        | zero => intro v175 h177 q182; exact absurd q182 (Nat.not_lt_zero _)
        | succ n i183 =>
          intro v175 h177 q182 b176 j179 f178 m181
          have f184 := Fr.trans f18 f178 (by decide)
          refine x_iload (np := 22) (x := 1) (by decide +kernel) rfl (by omega) ?_
          refine x_aload (np := 23) (x := 0) (by decide +kernel) rfl (x_nc_le (tn_1 ta0)) ?_
          have b185 := jB (e := 0) 0 j179 (rg_T1_0_0_1 ta0) (by omega) (by omega)
          have q186 : (h177 (ra0 + 1) 0) = 2147483655 := by omega
          refine x_getC (np := 26) (x := 384) (f := 0) (q := 2147483655) (by decide +kernel) (by decide) (tg_1_384_0_0 ta0) q186 (fun l187 => ?_)
          refine x_icmp (k := 3) (tg := 47) (np := 29) (by decide +kernel) (by decide) (by omega) (by decide) (fun q188 => ?_) (fun q189 => ?_)
          · have q188 : 2147483655 ≤ v175 := q188
            refine x_aload (np := 48) (x := 0) (by decide +kernel) rfl (x_nc_le (tn_1 ta0)) ?_
            have q190 : h177 (ra0 + 1) 2 = h15 (ra0 + 1) 2 := jK 0 f178 (rg_T1_2_0_1 ta0) (by omega) (by omega) (by decide)
            have q191 : h15 (ra0 + 1) 2 = (1 + (h (ra0 + 1) 2)) := by rw [← e17]; exact x_up_at
            refine x_getC (np := 51) (x := 386) (f := 2) (q := (1 + (h (ra0 + 1) 2))) (by decide +kernel) (by decide) (tg_1_386_2_0 ta0) (q190.trans q191) (fun l192 => ?_)
            refine x_const (np := 52) (x := 9223372043297226753) (a := 2147483649) (by decide +kernel) (by decide) (by decide) ?_
            refine x_isub (np := 53) (x := 0) (v := (h (ra0 + 1) 2)) (by decide +kernel) (by omega) (by decide) (by omega) (by omega) ?_
            have b193 := jB (e := 7) 0 hJ (rg_T0_7_0_1 ta0) (by omega) (by omega)
            have q194 : h177 ra0 7 = h15 ra0 7 := jK 0 f178 (rg_T0_7_0_1 ta0) (by omega) (by omega) (by decide)
            have q195 : h15 ra0 7 = h ra0 7 := by rw [← e17]; exact x_up_k tof_0_1
            have q196 : h177 ra0 8 = h15 ra0 8 := jK 0 f178 (rg_T0_8_0_1 ta0) (by omega) (by omega) (by decide)
            have q197 : h15 ra0 8 = h ra0 8 := by rw [← e17]; exact x_up_k tof_0_1
            have q198 : h177 (ra0 + 1) 2 = h15 (ra0 + 1) 2 := jK 0 f178 (rg_T1_2_0_1 ta0) (by omega) (by omega) (by decide)
            have q199 : h15 (ra0 + 1) 2 = (1 + (h (ra0 + 1) 2)) := by rw [← e17]; exact x_up_at
            have b200 := jB (e := 2) 0 hJ (rg_T3_2_0_1 ta0) (by omega) (by omega)
            have q201 : h177 (ra0 + 3) 2 = h15 (ra0 + 3) 2 := jK 0 f178 (rg_T3_2_0_1 ta0) (by omega) (by omega) (by decide)
            have q202 : h15 (ra0 + 3) 2 = h (ra0 + 3) 2 := by rw [← e17]; exact x_up_k tof_3_1
            have b203 := jB (e := 2) 0 hJ (rg_T5_2_0_1 ta0) (by omega) (by omega)
            have q204 : h177 (ra0 + 5) 2 = h15 (ra0 + 5) 2 := jK 0 f178 (rg_T5_2_0_1 ta0) (by omega) (by omega) (by decide)
            have q205 : h15 (ra0 + 5) 2 = h (ra0 + 5) 2 := by rw [← e17]; exact x_up_k tof_5_1
            have b206 := jB (e := 2) 0 hJ (rg_T7_2_0_1 ta0) (by omega) (by omega)
            have q207 : h177 (ra0 + 7) 2 = h15 (ra0 + 7) 2 := jK 0 f178 (rg_T7_2_0_1 ta0) (by omega) (by omega) (by decide)
            have q208 : h15 (ra0 + 7) 2 = h (ra0 + 7) 2 := by rw [← e17]; exact x_up_k tof_7_1
            have q209 : h177 (ra0 + 1) 2 = h15 (ra0 + 1) 2 := jK 0 f178 (rg_T1_2_0_1 ta0) (by omega) (by omega) (by decide)
            have q210 : h15 (ra0 + 1) 2 = (1 + (h (ra0 + 1) 2)) := by rw [← e17]; exact x_up_at
            refine x_retI (np := 54) (x := 0) (by decide +kernel) l2 (Or.inl (by decide +kernel)) ⟨_, rfl, l2, ?_⟩
            exact ⟨j179, f184, (by omega), (by omega), (by omega), (by omega), (by omega), (by omega), (by omega), (by omega), m181⟩
          have q189 : ¬ (2147483655 ≤ v175) := q189
          refine x_aload (np := 30) (x := 0) (by decide +kernel) rfl (x_nc_le (tn_1 ta0)) ?_
          refine x_aload (np := 31) (x := 0) (by decide +kernel) rfl (x_nc_le (tn_1 ta0)) ?_
          have q211 : h177 (ra0 + 1) 2 = h15 (ra0 + 1) 2 := jK 0 f178 (rg_T1_2_0_1 ta0) (by omega) (by omega) (by decide)
          have q212 : h15 (ra0 + 1) 2 = (1 + (h (ra0 + 1) 2)) := by rw [← e17]; exact x_up_at
          refine x_getC (np := 34) (x := 386) (f := 2) (q := (1 + (h (ra0 + 1) 2))) (by decide +kernel) (by decide) (tg_1_386_2_0 ta0) (q211.trans q212) (fun l213 => ?_)
          refine x_const (np := 35) (x := 9223372043297226753) (a := 2147483649) (by decide +kernel) (by decide) (by decide) ?_
          refine x_isub (np := 36) (x := 0) (v := (h (ra0 + 1) 2)) (by decide +kernel) (by omega) (by decide) (by omega) (by omega) ?_
          refine x_iload (np := 37) (x := 1) (by decide +kernel) rfl (by omega) ?_
          refine x_const (np := 38) (x := 9223372039002259456) (a := 2147483648) (by decide +kernel) (by decide) (by decide) ?_
          refine x_cV (t := 6) (mj := 69) (n := 4) (rc := 7) (ml := 5) (nr := 0) (np := 41) (as := [x_r (ra0 + 1), iv_c (h (ra0 + 1) 2), iv_c v175, iv_c 2147483648]) (rest := []) (lo1 := [x_r (ra0 + 1), iv_c (h (ra0 + 1) 2), iv_c v175, iv_c 2147483648, 147573952589676412928]) (by decide +kernel) (by decide) (by decide +kernel) (x_rb_of (tr_1_7 ta0)) rfl rfl (x_wr (tn_1 ta0) (x_wi l2 (x_wi (by omega) (x_wi (by decide) x_wn)))) x_wn (by decide) rfl (c69_T1 j179 ta0 (by omega) (by omega) (by omega)) (fun h217 q216 => ?_)
          obtain ⟨j218, f219⟩ := q216
          have f222 := Fr.trans f184 f219 (by decide)
          have f223 := Fr.trans f178 f219 (by decide)
          refine x_iinc (np := 44) (i := 1) (j := 2147483649) (v := (1 + v175)) (lo' := [x_r (ra0 + 1), iv_c (1 + v175)]) (by decide +kernel) (by decide) (by decide) rfl (by omega) (by omega) (by omega) rfl ?_
          refine x_goto (np := 47) (x := 21) (by decide +kernel) ?_
          have m224 : Ot ra0 h h217 := Ot.fr m181 f219 (by decide)
          exact i183 (1 + v175) h217 (by omega) (by omega) j218 f223 m224
      have m225 : Ot ra0 h h15 := by rw [← e17]; exact Ot.up (o := 1) Ot.refl ta0 (by decide) rfl
      exact p180 _ 2147483648 h15 (Nat.lt_succ_self _) (by omega) j16 (Fr.refl _ _) m225
    have q13 : ¬ (2147483648 = 2147483648) := q13
    exfalso; omega
  have q11 : ¬ ((2147483655 + 7 * u6) ≤ 2147483788) := q11
  exfalso; omega
set_option maxHeartbeats 0 in
/-- LentNames$Table.put(III)V -/
theorem c69_T1_c0 {sc : Nat × Nat} {d ra0 a1 a3 : Nat} {h : xh} (hJ : J h) (ta0 : tw ra0) (ba1 : 2147483648 ≤ a1 ∧ a1 ≤ 2147483667) (ba3 : 2147483648 ≤ a3 ∧ a3 ≤ 2147483653) : X sc 69 d (xV fun h' => J h' ∧ Fr 129 h h') 0 0 0 [x_r (ra0 + 1), iv_c a1, iv_c 2147483648, iv_c a3, 147573952589676412928] [] h := by
  have la1 : a1 < 4294967296 := by omega
  have la3 : a3 < 4294967296 := by omega
  have hF := Fr.refl 129 h
  refine x_iload (np := 1) (x := 1) (by decide +kernel) rfl la1 ?_
  refine x_ifz (k := 2) (tg := 28) (np := 4) (by decide +kernel) (by decide) la1 (fun q1 => ?_) (fun q2 => ?_)
  · have q1 : a1 < 2147483648 := q1
    exfalso; omega
  have q2 : ¬ (a1 < 2147483648) := q2
  refine x_iload (np := 5) (x := 1) (by decide +kernel) rfl la1 ?_
  refine x_aload (np := 6) (x := 0) (by decide +kernel) rfl (x_nc_le (tn_1 ta0)) ?_
  have b3 := jB (e := 2) 0 hJ (rg_T1_2_0_1 ta0) (by omega) (by omega)
  refine x_getC (np := 9) (x := 386) (f := 2) (q := (h (ra0 + 1) 2)) (by decide +kernel) (by decide) (tg_1_386_2_0 ta0) rfl (fun l4 => ?_)
  refine x_icmp (k := 3) (tg := 28) (np := 12) (by decide +kernel) (by decide) la1 l4 (fun q5 => ?_) (fun q6 => ?_)
  · have q5 : (h (ra0 + 1) 2) ≤ a1 := q5
    refine x_const (np := 29) (x := 9223372039002259456) (a := 2147483648) (by decide +kernel) (by decide) (by decide) ?_
    refine x_istore (np := 31) (x := 4) (lo' := [x_r (ra0 + 1), iv_c a1, iv_c 2147483648, iv_c a3, iv_c 2147483648]) (by decide +kernel) (by decide) (Nat.le_of_ble_eq_true rfl) rfl ?_
    refine x_iload (np := 33) (x := 4) (by decide +kernel) rfl (by decide) ?_
    refine x_ifz (k := 0) (tg := 50) (np := 36) (by decide +kernel) (by decide) (by decide) (fun q7 => ?_) (fun q8 => ?_)
    · have q7 : 2147483648 = 2147483648 := q7
      refine x_retV (np := 51) (x := 0) (by decide +kernel) (by decide +kernel) ⟨rfl, ?_⟩
      exact ⟨hJ, hF⟩
    have q8 : ¬ (2147483648 = 2147483648) := q8
    exfalso; omega
  have q6 : ¬ ((h (ra0 + 1) 2) ≤ a1) := q6
  refine x_iload (np := 13) (x := 2) (by decide +kernel) rfl (by decide) ?_
  refine x_ifz (k := 2) (tg := 28) (np := 16) (by decide +kernel) (by decide) (by decide) (fun q9 => ?_) (fun q10 => ?_)
  · have q9 : 2147483648 < 2147483648 := q9
    exfalso; omega
  have q10 : ¬ (2147483648 < 2147483648) := q10
  refine x_iload (np := 17) (x := 2) (by decide +kernel) rfl (by decide) ?_
  refine x_aload (np := 18) (x := 0) (by decide +kernel) rfl (x_nc_le (tn_1 ta0)) ?_
  have b11 := jB (e := 0) 0 hJ (rg_T1_0_0_1 ta0) (by omega) (by omega)
  have q12 : (h (ra0 + 1) 0) = 2147483655 := by omega
  refine x_getC (np := 21) (x := 384) (f := 0) (q := 2147483655) (by decide +kernel) (by decide) (tg_1_384_0_0 ta0) q12 (fun l13 => ?_)
  refine x_icmp (k := 3) (tg := 28) (np := 24) (by decide +kernel) (by decide) (by decide) (by decide) (fun q14 => ?_) (fun q15 => ?_)
  · have q14 : 2147483655 ≤ 2147483648 := q14
    exfalso; omega
  have q15 : ¬ (2147483655 ≤ 2147483648) := q15
  refine x_const (np := 25) (x := 9223372043297226753) (a := 2147483649) (by decide +kernel) (by decide) (by decide) ?_
  refine x_goto (np := 28) (x := 29) (by decide +kernel) ?_
  refine x_istore (np := 31) (x := 4) (lo' := [x_r (ra0 + 1), iv_c a1, iv_c 2147483648, iv_c a3, iv_c 2147483649]) (by decide +kernel) (by decide) (Nat.le_of_ble_eq_true rfl) rfl ?_
  refine x_iload (np := 33) (x := 4) (by decide +kernel) rfl (by decide) ?_
  refine x_ifz (k := 0) (tg := 50) (np := 36) (by decide +kernel) (by decide) (by decide) (fun q16 => ?_) (fun q17 => ?_)
  · have q16 : 2147483649 = 2147483648 := q16
    exfalso; omega
  have q17 : ¬ (2147483649 = 2147483648) := q17
  refine x_aload (np := 37) (x := 0) (by decide +kernel) rfl (x_nc_le (tn_1 ta0)) ?_
  have q18 : h (ra0 + 1) 1 = (ra0 + 2) := tf_1_1 hJ ta0
  refine x_getR (np := 40) (x := 385) (f := 1) (q := (ra0 + 2)) (by decide +kernel) (by decide) (tg_1_385_1_1 ta0) q18 ?_
  refine x_iload (np := 41) (x := 1) (by decide +kernel) rfl la1 ?_
  refine x_aload (np := 42) (x := 0) (by decide +kernel) rfl (x_nc_le (tn_1 ta0)) ?_
  refine x_getC (np := 45) (x := 384) (f := 0) (q := 2147483655) (by decide +kernel) (by decide) (tg_1_384_0_0 ta0) q12 (fun l19 => ?_)
  obtain ⟨u20, q21⟩ : ∃ z, a1 = 2147483648 + z := ⟨a1 - 2147483648, by omega⟩
  refine x_imul (np := 46) (x := 0) (i := u20) (j := 7) (v := (2147483648 + 7 * u20)) (by decide +kernel) (by omega) (by omega) (by omega) (by omega) la1 (by decide) ?_
  refine x_iload (np := 47) (x := 2) (by decide +kernel) rfl (by decide) ?_
  refine x_iadd (np := 48) (x := 0) (v := (2147483648 + 7 * u20)) (by decide +kernel) (by omega) (by decide) (by omega) (by omega) ?_
  refine x_iload (np := 49) (x := 3) (by decide +kernel) rfl la3 ?_
  refine x_ast (np := 50) (x := 0) (kd := 1) (n := 140) (i := (7 * u20)) (by decide +kernel) (Or.inl rfl) (ta_2_140 ta0) (by omega) (by omega) (by decide) la3 (fun z => absurd z (by decide)) ?_
  have j24 := jU (e := (7 * u20)) (v := a3) u20 hJ (rg_T2_0_7_20 ta0) (by omega) (by omega) (by omega)
  have f26 := jF (e := (7 * u20)) (v := a3) u20 hF (rg_T2_0_7_20 ta0) (by omega) (by omega) (by decide)
  generalize e25 : x_up h (ra0 + 2) (7 * u20) a3 = h23 at j24 f26 ⊢
  refine x_retV (np := 51) (x := 0) (by decide +kernel) (by decide +kernel) ⟨rfl, ?_⟩
  exact ⟨j24, f26⟩
set_option maxHeartbeats 0 in
/-- LentNames$Table.put(III)V -/
theorem c69_T1_c1 {sc : Nat × Nat} {d ra0 a1 a3 : Nat} {h : xh} (hJ : J h) (ta0 : tw ra0) (ba1 : 2147483648 ≤ a1 ∧ a1 ≤ 2147483667) (ba3 : 2147483648 ≤ a3 ∧ a3 ≤ 2147483653) : X sc 69 d (xV fun h' => J h' ∧ Fr 129 h h') 0 0 0 [x_r (ra0 + 1), iv_c a1, iv_c 2147483649, iv_c a3, 147573952589676412928] [] h := by
  have la1 : a1 < 4294967296 := by omega
  have la3 : a3 < 4294967296 := by omega
  have hF := Fr.refl 129 h
  refine x_iload (np := 1) (x := 1) (by decide +kernel) rfl la1 ?_
  refine x_ifz (k := 2) (tg := 28) (np := 4) (by decide +kernel) (by decide) la1 (fun q1 => ?_) (fun q2 => ?_)
  · have q1 : a1 < 2147483648 := q1
    exfalso; omega
  have q2 : ¬ (a1 < 2147483648) := q2
  refine x_iload (np := 5) (x := 1) (by decide +kernel) rfl la1 ?_
  refine x_aload (np := 6) (x := 0) (by decide +kernel) rfl (x_nc_le (tn_1 ta0)) ?_
  have b3 := jB (e := 2) 0 hJ (rg_T1_2_0_1 ta0) (by omega) (by omega)
  refine x_getC (np := 9) (x := 386) (f := 2) (q := (h (ra0 + 1) 2)) (by decide +kernel) (by decide) (tg_1_386_2_0 ta0) rfl (fun l4 => ?_)
  refine x_icmp (k := 3) (tg := 28) (np := 12) (by decide +kernel) (by decide) la1 l4 (fun q5 => ?_) (fun q6 => ?_)
  · have q5 : (h (ra0 + 1) 2) ≤ a1 := q5
    refine x_const (np := 29) (x := 9223372039002259456) (a := 2147483648) (by decide +kernel) (by decide) (by decide) ?_
    refine x_istore (np := 31) (x := 4) (lo' := [x_r (ra0 + 1), iv_c a1, iv_c 2147483649, iv_c a3, iv_c 2147483648]) (by decide +kernel) (by decide) (Nat.le_of_ble_eq_true rfl) rfl ?_
    refine x_iload (np := 33) (x := 4) (by decide +kernel) rfl (by decide) ?_
    refine x_ifz (k := 0) (tg := 50) (np := 36) (by decide +kernel) (by decide) (by decide) (fun q7 => ?_) (fun q8 => ?_)
    · have q7 : 2147483648 = 2147483648 := q7
      refine x_retV (np := 51) (x := 0) (by decide +kernel) (by decide +kernel) ⟨rfl, ?_⟩
      exact ⟨hJ, hF⟩
    have q8 : ¬ (2147483648 = 2147483648) := q8
    exfalso; omega
  have q6 : ¬ ((h (ra0 + 1) 2) ≤ a1) := q6
  refine x_iload (np := 13) (x := 2) (by decide +kernel) rfl (by decide) ?_
  refine x_ifz (k := 2) (tg := 28) (np := 16) (by decide +kernel) (by decide) (by decide) (fun q9 => ?_) (fun q10 => ?_)
  · have q9 : 2147483649 < 2147483648 := q9
    exfalso; omega
  have q10 : ¬ (2147483649 < 2147483648) := q10
  refine x_iload (np := 17) (x := 2) (by decide +kernel) rfl (by decide) ?_
  refine x_aload (np := 18) (x := 0) (by decide +kernel) rfl (x_nc_le (tn_1 ta0)) ?_
  have b11 := jB (e := 0) 0 hJ (rg_T1_0_0_1 ta0) (by omega) (by omega)
  have q12 : (h (ra0 + 1) 0) = 2147483655 := by omega
  refine x_getC (np := 21) (x := 384) (f := 0) (q := 2147483655) (by decide +kernel) (by decide) (tg_1_384_0_0 ta0) q12 (fun l13 => ?_)
  refine x_icmp (k := 3) (tg := 28) (np := 24) (by decide +kernel) (by decide) (by decide) (by decide) (fun q14 => ?_) (fun q15 => ?_)
  · have q14 : 2147483655 ≤ 2147483649 := q14
    exfalso; omega
  have q15 : ¬ (2147483655 ≤ 2147483649) := q15
  refine x_const (np := 25) (x := 9223372043297226753) (a := 2147483649) (by decide +kernel) (by decide) (by decide) ?_
  refine x_goto (np := 28) (x := 29) (by decide +kernel) ?_
  refine x_istore (np := 31) (x := 4) (lo' := [x_r (ra0 + 1), iv_c a1, iv_c 2147483649, iv_c a3, iv_c 2147483649]) (by decide +kernel) (by decide) (Nat.le_of_ble_eq_true rfl) rfl ?_
  refine x_iload (np := 33) (x := 4) (by decide +kernel) rfl (by decide) ?_
  refine x_ifz (k := 0) (tg := 50) (np := 36) (by decide +kernel) (by decide) (by decide) (fun q16 => ?_) (fun q17 => ?_)
  · have q16 : 2147483649 = 2147483648 := q16
    exfalso; omega
  have q17 : ¬ (2147483649 = 2147483648) := q17
  refine x_aload (np := 37) (x := 0) (by decide +kernel) rfl (x_nc_le (tn_1 ta0)) ?_
  have q18 : h (ra0 + 1) 1 = (ra0 + 2) := tf_1_1 hJ ta0
  refine x_getR (np := 40) (x := 385) (f := 1) (q := (ra0 + 2)) (by decide +kernel) (by decide) (tg_1_385_1_1 ta0) q18 ?_
  refine x_iload (np := 41) (x := 1) (by decide +kernel) rfl la1 ?_
  refine x_aload (np := 42) (x := 0) (by decide +kernel) rfl (x_nc_le (tn_1 ta0)) ?_
  refine x_getC (np := 45) (x := 384) (f := 0) (q := 2147483655) (by decide +kernel) (by decide) (tg_1_384_0_0 ta0) q12 (fun l19 => ?_)
  obtain ⟨u20, q21⟩ : ∃ z, a1 = 2147483648 + z := ⟨a1 - 2147483648, by omega⟩
  refine x_imul (np := 46) (x := 0) (i := u20) (j := 7) (v := (2147483648 + 7 * u20)) (by decide +kernel) (by omega) (by omega) (by omega) (by omega) la1 (by decide) ?_
  refine x_iload (np := 47) (x := 2) (by decide +kernel) rfl (by decide) ?_
  refine x_iadd (np := 48) (x := 0) (v := (2147483649 + 7 * u20)) (by decide +kernel) (by omega) (by decide) (by omega) (by omega) ?_
  refine x_iload (np := 49) (x := 3) (by decide +kernel) rfl la3 ?_
  refine x_ast (np := 50) (x := 0) (kd := 1) (n := 140) (i := (1 + 7 * u20)) (by decide +kernel) (Or.inl rfl) (ta_2_140 ta0) (by omega) (by omega) (by decide) la3 (fun z => absurd z (by decide)) ?_
  have j24 := jU (e := (1 + 7 * u20)) (v := a3) u20 hJ (rg_T2_1_7_20 ta0) (by omega) (by omega) (by omega)
  have f26 := jF (e := (1 + 7 * u20)) (v := a3) u20 hF (rg_T2_1_7_20 ta0) (by omega) (by omega) (by decide)
  generalize e25 : x_up h (ra0 + 2) (1 + 7 * u20) a3 = h23 at j24 f26 ⊢
  refine x_retV (np := 51) (x := 0) (by decide +kernel) (by decide +kernel) ⟨rfl, ?_⟩
  exact ⟨j24, f26⟩
set_option maxHeartbeats 0 in
/-- LentNames$Table.put(III)V -/
theorem c69_T1_c2 {sc : Nat × Nat} {d ra0 a1 a3 : Nat} {h : xh} (hJ : J h) (ta0 : tw ra0) (ba1 : 2147483648 ≤ a1 ∧ a1 ≤ 2147483667) (ba3 : 2147483648 ≤ a3 ∧ a3 ≤ 2147483659) : X sc 69 d (xV fun h' => J h' ∧ Fr 129 h h') 0 0 0 [x_r (ra0 + 1), iv_c a1, iv_c 2147483650, iv_c a3, 147573952589676412928] [] h := by
  have la1 : a1 < 4294967296 := by omega
  have la3 : a3 < 4294967296 := by omega
  have hF := Fr.refl 129 h
  refine x_iload (np := 1) (x := 1) (by decide +kernel) rfl la1 ?_
  refine x_ifz (k := 2) (tg := 28) (np := 4) (by decide +kernel) (by decide) la1 (fun q1 => ?_) (fun q2 => ?_)
  · have q1 : a1 < 2147483648 := q1
    exfalso; omega
  have q2 : ¬ (a1 < 2147483648) := q2
  refine x_iload (np := 5) (x := 1) (by decide +kernel) rfl la1 ?_
  refine x_aload (np := 6) (x := 0) (by decide +kernel) rfl (x_nc_le (tn_1 ta0)) ?_
  have b3 := jB (e := 2) 0 hJ (rg_T1_2_0_1 ta0) (by omega) (by omega)
  refine x_getC (np := 9) (x := 386) (f := 2) (q := (h (ra0 + 1) 2)) (by decide +kernel) (by decide) (tg_1_386_2_0 ta0) rfl (fun l4 => ?_)
  refine x_icmp (k := 3) (tg := 28) (np := 12) (by decide +kernel) (by decide) la1 l4 (fun q5 => ?_) (fun q6 => ?_)
  · have q5 : (h (ra0 + 1) 2) ≤ a1 := q5
    refine x_const (np := 29) (x := 9223372039002259456) (a := 2147483648) (by decide +kernel) (by decide) (by decide) ?_
    refine x_istore (np := 31) (x := 4) (lo' := [x_r (ra0 + 1), iv_c a1, iv_c 2147483650, iv_c a3, iv_c 2147483648]) (by decide +kernel) (by decide) (Nat.le_of_ble_eq_true rfl) rfl ?_
    refine x_iload (np := 33) (x := 4) (by decide +kernel) rfl (by decide) ?_
    refine x_ifz (k := 0) (tg := 50) (np := 36) (by decide +kernel) (by decide) (by decide) (fun q7 => ?_) (fun q8 => ?_)
    · have q7 : 2147483648 = 2147483648 := q7
      refine x_retV (np := 51) (x := 0) (by decide +kernel) (by decide +kernel) ⟨rfl, ?_⟩
      exact ⟨hJ, hF⟩
    have q8 : ¬ (2147483648 = 2147483648) := q8
    exfalso; omega
  have q6 : ¬ ((h (ra0 + 1) 2) ≤ a1) := q6
  refine x_iload (np := 13) (x := 2) (by decide +kernel) rfl (by decide) ?_
  refine x_ifz (k := 2) (tg := 28) (np := 16) (by decide +kernel) (by decide) (by decide) (fun q9 => ?_) (fun q10 => ?_)
  · have q9 : 2147483650 < 2147483648 := q9
    exfalso; omega
  have q10 : ¬ (2147483650 < 2147483648) := q10
  refine x_iload (np := 17) (x := 2) (by decide +kernel) rfl (by decide) ?_
  refine x_aload (np := 18) (x := 0) (by decide +kernel) rfl (x_nc_le (tn_1 ta0)) ?_
  have b11 := jB (e := 0) 0 hJ (rg_T1_0_0_1 ta0) (by omega) (by omega)
  have q12 : (h (ra0 + 1) 0) = 2147483655 := by omega
  refine x_getC (np := 21) (x := 384) (f := 0) (q := 2147483655) (by decide +kernel) (by decide) (tg_1_384_0_0 ta0) q12 (fun l13 => ?_)
  refine x_icmp (k := 3) (tg := 28) (np := 24) (by decide +kernel) (by decide) (by decide) (by decide) (fun q14 => ?_) (fun q15 => ?_)
  · have q14 : 2147483655 ≤ 2147483650 := q14
    exfalso; omega
  have q15 : ¬ (2147483655 ≤ 2147483650) := q15
  refine x_const (np := 25) (x := 9223372043297226753) (a := 2147483649) (by decide +kernel) (by decide) (by decide) ?_
  refine x_goto (np := 28) (x := 29) (by decide +kernel) ?_
  refine x_istore (np := 31) (x := 4) (lo' := [x_r (ra0 + 1), iv_c a1, iv_c 2147483650, iv_c a3, iv_c 2147483649]) (by decide +kernel) (by decide) (Nat.le_of_ble_eq_true rfl) rfl ?_
  refine x_iload (np := 33) (x := 4) (by decide +kernel) rfl (by decide) ?_
  refine x_ifz (k := 0) (tg := 50) (np := 36) (by decide +kernel) (by decide) (by decide) (fun q16 => ?_) (fun q17 => ?_)
  · have q16 : 2147483649 = 2147483648 := q16
    exfalso; omega
  have q17 : ¬ (2147483649 = 2147483648) := q17
  refine x_aload (np := 37) (x := 0) (by decide +kernel) rfl (x_nc_le (tn_1 ta0)) ?_
  have q18 : h (ra0 + 1) 1 = (ra0 + 2) := tf_1_1 hJ ta0
  refine x_getR (np := 40) (x := 385) (f := 1) (q := (ra0 + 2)) (by decide +kernel) (by decide) (tg_1_385_1_1 ta0) q18 ?_
  refine x_iload (np := 41) (x := 1) (by decide +kernel) rfl la1 ?_
  refine x_aload (np := 42) (x := 0) (by decide +kernel) rfl (x_nc_le (tn_1 ta0)) ?_
  refine x_getC (np := 45) (x := 384) (f := 0) (q := 2147483655) (by decide +kernel) (by decide) (tg_1_384_0_0 ta0) q12 (fun l19 => ?_)
  obtain ⟨u20, q21⟩ : ∃ z, a1 = 2147483648 + z := ⟨a1 - 2147483648, by omega⟩
  refine x_imul (np := 46) (x := 0) (i := u20) (j := 7) (v := (2147483648 + 7 * u20)) (by decide +kernel) (by omega) (by omega) (by omega) (by omega) la1 (by decide) ?_
  refine x_iload (np := 47) (x := 2) (by decide +kernel) rfl (by decide) ?_
  refine x_iadd (np := 48) (x := 0) (v := (2147483650 + 7 * u20)) (by decide +kernel) (by omega) (by decide) (by omega) (by omega) ?_
  refine x_iload (np := 49) (x := 3) (by decide +kernel) rfl la3 ?_
  refine x_ast (np := 50) (x := 0) (kd := 1) (n := 140) (i := (2 + 7 * u20)) (by decide +kernel) (Or.inl rfl) (ta_2_140 ta0) (by omega) (by omega) (by decide) la3 (fun z => absurd z (by decide)) ?_
  have j24 := jU (e := (2 + 7 * u20)) (v := a3) u20 hJ (rg_T2_2_7_20 ta0) (by omega) (by omega) (by omega)
  have f26 := jF (e := (2 + 7 * u20)) (v := a3) u20 hF (rg_T2_2_7_20 ta0) (by omega) (by omega) (by decide)
  generalize e25 : x_up h (ra0 + 2) (2 + 7 * u20) a3 = h23 at j24 f26 ⊢
  refine x_retV (np := 51) (x := 0) (by decide +kernel) (by decide +kernel) ⟨rfl, ?_⟩
  exact ⟨j24, f26⟩
set_option maxHeartbeats 0 in
/-- LentNames$Table.put(III)V -/
theorem c69_T1_c3 {sc : Nat × Nat} {d ra0 a1 a3 : Nat} {h : xh} (hJ : J h) (ta0 : tw ra0) (ba1 : 2147483648 ≤ a1 ∧ a1 ≤ 2147483667) (ba3 : 2147483648 ≤ a3 ∧ a3 ≤ 2147483660) : X sc 69 d (xV fun h' => J h' ∧ Fr 129 h h') 0 0 0 [x_r (ra0 + 1), iv_c a1, iv_c 2147483651, iv_c a3, 147573952589676412928] [] h := by
  have la1 : a1 < 4294967296 := by omega
  have la3 : a3 < 4294967296 := by omega
  have hF := Fr.refl 129 h
  refine x_iload (np := 1) (x := 1) (by decide +kernel) rfl la1 ?_
  refine x_ifz (k := 2) (tg := 28) (np := 4) (by decide +kernel) (by decide) la1 (fun q1 => ?_) (fun q2 => ?_)
  · have q1 : a1 < 2147483648 := q1
    exfalso; omega
  have q2 : ¬ (a1 < 2147483648) := q2
  refine x_iload (np := 5) (x := 1) (by decide +kernel) rfl la1 ?_
  refine x_aload (np := 6) (x := 0) (by decide +kernel) rfl (x_nc_le (tn_1 ta0)) ?_
  have b3 := jB (e := 2) 0 hJ (rg_T1_2_0_1 ta0) (by omega) (by omega)
  refine x_getC (np := 9) (x := 386) (f := 2) (q := (h (ra0 + 1) 2)) (by decide +kernel) (by decide) (tg_1_386_2_0 ta0) rfl (fun l4 => ?_)
  refine x_icmp (k := 3) (tg := 28) (np := 12) (by decide +kernel) (by decide) la1 l4 (fun q5 => ?_) (fun q6 => ?_)
  · have q5 : (h (ra0 + 1) 2) ≤ a1 := q5
    refine x_const (np := 29) (x := 9223372039002259456) (a := 2147483648) (by decide +kernel) (by decide) (by decide) ?_
    refine x_istore (np := 31) (x := 4) (lo' := [x_r (ra0 + 1), iv_c a1, iv_c 2147483651, iv_c a3, iv_c 2147483648]) (by decide +kernel) (by decide) (Nat.le_of_ble_eq_true rfl) rfl ?_
    refine x_iload (np := 33) (x := 4) (by decide +kernel) rfl (by decide) ?_
    refine x_ifz (k := 0) (tg := 50) (np := 36) (by decide +kernel) (by decide) (by decide) (fun q7 => ?_) (fun q8 => ?_)
    · have q7 : 2147483648 = 2147483648 := q7
      refine x_retV (np := 51) (x := 0) (by decide +kernel) (by decide +kernel) ⟨rfl, ?_⟩
      exact ⟨hJ, hF⟩
    have q8 : ¬ (2147483648 = 2147483648) := q8
    exfalso; omega
  have q6 : ¬ ((h (ra0 + 1) 2) ≤ a1) := q6
  refine x_iload (np := 13) (x := 2) (by decide +kernel) rfl (by decide) ?_
  refine x_ifz (k := 2) (tg := 28) (np := 16) (by decide +kernel) (by decide) (by decide) (fun q9 => ?_) (fun q10 => ?_)
  · have q9 : 2147483651 < 2147483648 := q9
    exfalso; omega
  have q10 : ¬ (2147483651 < 2147483648) := q10
  refine x_iload (np := 17) (x := 2) (by decide +kernel) rfl (by decide) ?_
  refine x_aload (np := 18) (x := 0) (by decide +kernel) rfl (x_nc_le (tn_1 ta0)) ?_
  have b11 := jB (e := 0) 0 hJ (rg_T1_0_0_1 ta0) (by omega) (by omega)
  have q12 : (h (ra0 + 1) 0) = 2147483655 := by omega
  refine x_getC (np := 21) (x := 384) (f := 0) (q := 2147483655) (by decide +kernel) (by decide) (tg_1_384_0_0 ta0) q12 (fun l13 => ?_)
  refine x_icmp (k := 3) (tg := 28) (np := 24) (by decide +kernel) (by decide) (by decide) (by decide) (fun q14 => ?_) (fun q15 => ?_)
  · have q14 : 2147483655 ≤ 2147483651 := q14
    exfalso; omega
  have q15 : ¬ (2147483655 ≤ 2147483651) := q15
  refine x_const (np := 25) (x := 9223372043297226753) (a := 2147483649) (by decide +kernel) (by decide) (by decide) ?_
  refine x_goto (np := 28) (x := 29) (by decide +kernel) ?_
  refine x_istore (np := 31) (x := 4) (lo' := [x_r (ra0 + 1), iv_c a1, iv_c 2147483651, iv_c a3, iv_c 2147483649]) (by decide +kernel) (by decide) (Nat.le_of_ble_eq_true rfl) rfl ?_
  refine x_iload (np := 33) (x := 4) (by decide +kernel) rfl (by decide) ?_
  refine x_ifz (k := 0) (tg := 50) (np := 36) (by decide +kernel) (by decide) (by decide) (fun q16 => ?_) (fun q17 => ?_)
  · have q16 : 2147483649 = 2147483648 := q16
    exfalso; omega
  have q17 : ¬ (2147483649 = 2147483648) := q17
  refine x_aload (np := 37) (x := 0) (by decide +kernel) rfl (x_nc_le (tn_1 ta0)) ?_
  have q18 : h (ra0 + 1) 1 = (ra0 + 2) := tf_1_1 hJ ta0
  refine x_getR (np := 40) (x := 385) (f := 1) (q := (ra0 + 2)) (by decide +kernel) (by decide) (tg_1_385_1_1 ta0) q18 ?_
  refine x_iload (np := 41) (x := 1) (by decide +kernel) rfl la1 ?_
  refine x_aload (np := 42) (x := 0) (by decide +kernel) rfl (x_nc_le (tn_1 ta0)) ?_
  refine x_getC (np := 45) (x := 384) (f := 0) (q := 2147483655) (by decide +kernel) (by decide) (tg_1_384_0_0 ta0) q12 (fun l19 => ?_)
  obtain ⟨u20, q21⟩ : ∃ z, a1 = 2147483648 + z := ⟨a1 - 2147483648, by omega⟩
  refine x_imul (np := 46) (x := 0) (i := u20) (j := 7) (v := (2147483648 + 7 * u20)) (by decide +kernel) (by omega) (by omega) (by omega) (by omega) la1 (by decide) ?_
  refine x_iload (np := 47) (x := 2) (by decide +kernel) rfl (by decide) ?_
  refine x_iadd (np := 48) (x := 0) (v := (2147483651 + 7 * u20)) (by decide +kernel) (by omega) (by decide) (by omega) (by omega) ?_
  refine x_iload (np := 49) (x := 3) (by decide +kernel) rfl la3 ?_
  refine x_ast (np := 50) (x := 0) (kd := 1) (n := 140) (i := (3 + 7 * u20)) (by decide +kernel) (Or.inl rfl) (ta_2_140 ta0) (by omega) (by omega) (by decide) la3 (fun z => absurd z (by decide)) ?_
  have j24 := jU (e := (3 + 7 * u20)) (v := a3) u20 hJ (rg_T2_3_7_20 ta0) (by omega) (by omega) (by omega)
  have f26 := jF (e := (3 + 7 * u20)) (v := a3) u20 hF (rg_T2_3_7_20 ta0) (by omega) (by omega) (by decide)
  generalize e25 : x_up h (ra0 + 2) (3 + 7 * u20) a3 = h23 at j24 f26 ⊢
  refine x_retV (np := 51) (x := 0) (by decide +kernel) (by decide +kernel) ⟨rfl, ?_⟩
  exact ⟨j24, f26⟩
set_option maxHeartbeats 0 in
/-- LentNames$Table.put(III)V -/
theorem c69_T1_c5 {sc : Nat × Nat} {d ra0 a1 a3 : Nat} {h : xh} (hJ : J h) (ta0 : tw ra0) (ba1 : 2147483648 ≤ a1 ∧ a1 ≤ 2147483667) (ba3 : 2147483648 ≤ a3 ∧ a3 ≤ 2147484769) : X sc 69 d (xV fun h' => J h' ∧ Fr 129 h h') 0 0 0 [x_r (ra0 + 1), iv_c a1, iv_c 2147483653, iv_c a3, 147573952589676412928] [] h := by
  have la1 : a1 < 4294967296 := by omega
  have la3 : a3 < 4294967296 := by omega
  have hF := Fr.refl 129 h
  refine x_iload (np := 1) (x := 1) (by decide +kernel) rfl la1 ?_
  refine x_ifz (k := 2) (tg := 28) (np := 4) (by decide +kernel) (by decide) la1 (fun q1 => ?_) (fun q2 => ?_)
  · have q1 : a1 < 2147483648 := q1
    exfalso; omega
  have q2 : ¬ (a1 < 2147483648) := q2
  refine x_iload (np := 5) (x := 1) (by decide +kernel) rfl la1 ?_
  refine x_aload (np := 6) (x := 0) (by decide +kernel) rfl (x_nc_le (tn_1 ta0)) ?_
  have b3 := jB (e := 2) 0 hJ (rg_T1_2_0_1 ta0) (by omega) (by omega)
  refine x_getC (np := 9) (x := 386) (f := 2) (q := (h (ra0 + 1) 2)) (by decide +kernel) (by decide) (tg_1_386_2_0 ta0) rfl (fun l4 => ?_)
  refine x_icmp (k := 3) (tg := 28) (np := 12) (by decide +kernel) (by decide) la1 l4 (fun q5 => ?_) (fun q6 => ?_)
  · have q5 : (h (ra0 + 1) 2) ≤ a1 := q5
    refine x_const (np := 29) (x := 9223372039002259456) (a := 2147483648) (by decide +kernel) (by decide) (by decide) ?_
    refine x_istore (np := 31) (x := 4) (lo' := [x_r (ra0 + 1), iv_c a1, iv_c 2147483653, iv_c a3, iv_c 2147483648]) (by decide +kernel) (by decide) (Nat.le_of_ble_eq_true rfl) rfl ?_
    refine x_iload (np := 33) (x := 4) (by decide +kernel) rfl (by decide) ?_
    refine x_ifz (k := 0) (tg := 50) (np := 36) (by decide +kernel) (by decide) (by decide) (fun q7 => ?_) (fun q8 => ?_)
    · have q7 : 2147483648 = 2147483648 := q7
      refine x_retV (np := 51) (x := 0) (by decide +kernel) (by decide +kernel) ⟨rfl, ?_⟩
      exact ⟨hJ, hF⟩
    have q8 : ¬ (2147483648 = 2147483648) := q8
    exfalso; omega
  have q6 : ¬ ((h (ra0 + 1) 2) ≤ a1) := q6
  refine x_iload (np := 13) (x := 2) (by decide +kernel) rfl (by decide) ?_
  refine x_ifz (k := 2) (tg := 28) (np := 16) (by decide +kernel) (by decide) (by decide) (fun q9 => ?_) (fun q10 => ?_)
  · have q9 : 2147483653 < 2147483648 := q9
    exfalso; omega
  have q10 : ¬ (2147483653 < 2147483648) := q10
  refine x_iload (np := 17) (x := 2) (by decide +kernel) rfl (by decide) ?_
  refine x_aload (np := 18) (x := 0) (by decide +kernel) rfl (x_nc_le (tn_1 ta0)) ?_
  have b11 := jB (e := 0) 0 hJ (rg_T1_0_0_1 ta0) (by omega) (by omega)
  have q12 : (h (ra0 + 1) 0) = 2147483655 := by omega
  refine x_getC (np := 21) (x := 384) (f := 0) (q := 2147483655) (by decide +kernel) (by decide) (tg_1_384_0_0 ta0) q12 (fun l13 => ?_)
  refine x_icmp (k := 3) (tg := 28) (np := 24) (by decide +kernel) (by decide) (by decide) (by decide) (fun q14 => ?_) (fun q15 => ?_)
  · have q14 : 2147483655 ≤ 2147483653 := q14
    exfalso; omega
  have q15 : ¬ (2147483655 ≤ 2147483653) := q15
  refine x_const (np := 25) (x := 9223372043297226753) (a := 2147483649) (by decide +kernel) (by decide) (by decide) ?_
  refine x_goto (np := 28) (x := 29) (by decide +kernel) ?_
  refine x_istore (np := 31) (x := 4) (lo' := [x_r (ra0 + 1), iv_c a1, iv_c 2147483653, iv_c a3, iv_c 2147483649]) (by decide +kernel) (by decide) (Nat.le_of_ble_eq_true rfl) rfl ?_
  refine x_iload (np := 33) (x := 4) (by decide +kernel) rfl (by decide) ?_
  refine x_ifz (k := 0) (tg := 50) (np := 36) (by decide +kernel) (by decide) (by decide) (fun q16 => ?_) (fun q17 => ?_)
  · have q16 : 2147483649 = 2147483648 := q16
    exfalso; omega
  have q17 : ¬ (2147483649 = 2147483648) := q17
  refine x_aload (np := 37) (x := 0) (by decide +kernel) rfl (x_nc_le (tn_1 ta0)) ?_
  have q18 : h (ra0 + 1) 1 = (ra0 + 2) := tf_1_1 hJ ta0
  refine x_getR (np := 40) (x := 385) (f := 1) (q := (ra0 + 2)) (by decide +kernel) (by decide) (tg_1_385_1_1 ta0) q18 ?_
  refine x_iload (np := 41) (x := 1) (by decide +kernel) rfl la1 ?_
  refine x_aload (np := 42) (x := 0) (by decide +kernel) rfl (x_nc_le (tn_1 ta0)) ?_
  refine x_getC (np := 45) (x := 384) (f := 0) (q := 2147483655) (by decide +kernel) (by decide) (tg_1_384_0_0 ta0) q12 (fun l19 => ?_)
  obtain ⟨u20, q21⟩ : ∃ z, a1 = 2147483648 + z := ⟨a1 - 2147483648, by omega⟩
  refine x_imul (np := 46) (x := 0) (i := u20) (j := 7) (v := (2147483648 + 7 * u20)) (by decide +kernel) (by omega) (by omega) (by omega) (by omega) la1 (by decide) ?_
  refine x_iload (np := 47) (x := 2) (by decide +kernel) rfl (by decide) ?_
  refine x_iadd (np := 48) (x := 0) (v := (2147483653 + 7 * u20)) (by decide +kernel) (by omega) (by decide) (by omega) (by omega) ?_
  refine x_iload (np := 49) (x := 3) (by decide +kernel) rfl la3 ?_
  refine x_ast (np := 50) (x := 0) (kd := 1) (n := 140) (i := (5 + 7 * u20)) (by decide +kernel) (Or.inl rfl) (ta_2_140 ta0) (by omega) (by omega) (by decide) la3 (fun z => absurd z (by decide)) ?_
  have j24 := jU (e := (5 + 7 * u20)) (v := a3) u20 hJ (rg_T2_5_7_20 ta0) (by omega) (by omega) (by omega)
  have f26 := jF (e := (5 + 7 * u20)) (v := a3) u20 hF (rg_T2_5_7_20 ta0) (by omega) (by omega) (by decide)
  generalize e25 : x_up h (ra0 + 2) (5 + 7 * u20) a3 = h23 at j24 f26 ⊢
  refine x_retV (np := 51) (x := 0) (by decide +kernel) (by decide +kernel) ⟨rfl, ?_⟩
  exact ⟨j24, f26⟩
