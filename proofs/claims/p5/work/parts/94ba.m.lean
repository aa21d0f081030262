/-! ===== methods ===== -/
set_option maxHeartbeats 0 in
/-- LentNames$Table.put(III)V -/
theorem c69_T3 {sc : Nat × Nat} {d ra0 a1 a2 a3 : Nat} {h : xh} (hJ : J h) (ta0 : tw ra0) (ba1 : 2147483648 ≤ a1 ∧ a1 ≤ 2147483657) (ba2 : 2147483648 ≤ a2 ∧ a2 ≤ 2147483652) (ba3 : 2147483648 ≤ a3 ∧ a3 ≤ 2147483648) : X sc 69 d (xV fun h' => J h' ∧ Fr 129 h h') 0 0 0 [x_r (ra0 + 3), iv_c a1, iv_c a2, iv_c a3, 147573952589676412928] [] h := by
  have la1 : a1 < 4294967296 := by first | decide | omega
  have la2 : a2 < 4294967296 := by first | decide | omega
  have la3 : a3 < 4294967296 := by first | decide | omega
  have hF := Fr.refl 129 h
  refine x_iload (np := 1) (x := 1) (by decide +kernel) rfl la1 ?_
  refine x_ifz (k := 2) (tg := 28) (np := 4) (by decide +kernel) (by decide) la1 (fun q1 => ?_) (fun q2 => ?_)
  · have q1 : a1 < 2147483648 := q1
    exfalso; omega
  have q2 : ¬ (a1 < 2147483648) := q2
  refine x_iload (np := 5) (x := 1) (by decide +kernel) rfl la1 ?_
  refine x_aload (np := 6) (x := 0) (by decide +kernel) rfl (x_nc_le (tn_3 ta0)) ?_
  have b3 := jB (e := 2) 0 hJ (rg_T3_2_0_1 ta0) (by first | decide | omega) (by first | decide | omega)
  refine x_getC (np := 9) (x := 386) (f := 2) (q := (h (ra0 + 3) 2)) (by decide +kernel) (by decide) (tg_3_386_2_0 ta0) rfl (fun l4 => ?_)
  refine x_icmp (k := 3) (tg := 28) (np := 12) (by decide +kernel) (by decide) la1 l4 (fun q5 => ?_) (fun q6 => ?_)
  · have q5 : (h (ra0 + 3) 2) ≤ a1 := q5
    refine x_const (np := 29) (x := 9223372039002259456) (a := 2147483648) (by decide +kernel) (by decide) (by decide) ?_
    refine x_istore (np := 31) (x := 4) (lo' := [x_r (ra0 + 3), iv_c a1, iv_c a2, iv_c a3, iv_c 2147483648]) (by decide +kernel) (by decide) (Nat.le_of_ble_eq_true rfl) rfl ?_
    refine x_iload (np := 33) (x := 4) (by decide +kernel) rfl (by decide) ?_
    refine x_ifz (k := 0) (tg := 50) (np := 36) (by decide +kernel) (by decide) (by decide) (fun q7 => ?_) (fun q8 => ?_)
    · have q7 : 2147483648 = 2147483648 := q7
      refine x_retV (np := 51) (x := 0) (by decide +kernel) (by decide +kernel) ⟨rfl, ?_⟩
      exact ⟨hJ, hF⟩
    have q8 : ¬ (2147483648 = 2147483648) := q8
    exfalso; omega
  have q6 : ¬ ((h (ra0 + 3) 2) ≤ a1) := q6
  refine x_iload (np := 13) (x := 2) (by decide +kernel) rfl la2 ?_
  refine x_ifz (k := 2) (tg := 28) (np := 16) (by decide +kernel) (by decide) la2 (fun q9 => ?_) (fun q10 => ?_)
  · have q9 : a2 < 2147483648 := q9
    exfalso; omega
  have q10 : ¬ (a2 < 2147483648) := q10
  refine x_iload (np := 17) (x := 2) (by decide +kernel) rfl la2 ?_
  refine x_aload (np := 18) (x := 0) (by decide +kernel) rfl (x_nc_le (tn_3 ta0)) ?_
  have b11 := jB (e := 0) 0 hJ (rg_T3_0_0_1 ta0) (by first | decide | omega) (by first | decide | omega)
  have q12 : (h (ra0 + 3) 0) = 2147483652 := by first | decide | omega
  refine x_getC (np := 21) (x := 384) (f := 0) (q := 2147483652) (by decide +kernel) (by decide) (tg_3_384_0_0 ta0) q12 (fun l13 => ?_)
  refine x_icmp (k := 3) (tg := 28) (np := 24) (by decide +kernel) (by decide) la2 (by decide) (fun q14 => ?_) (fun q15 => ?_)
  · have q14 : 2147483652 ≤ a2 := q14
    refine x_const (np := 29) (x := 9223372039002259456) (a := 2147483648) (by decide +kernel) (by decide) (by decide) ?_
    refine x_istore (np := 31) (x := 4) (lo' := [x_r (ra0 + 3), iv_c a1, iv_c a2, iv_c a3, iv_c 2147483648]) (by decide +kernel) (by decide) (Nat.le_of_ble_eq_true rfl) rfl ?_
    refine x_iload (np := 33) (x := 4) (by decide +kernel) rfl (by decide) ?_
    refine x_ifz (k := 0) (tg := 50) (np := 36) (by decide +kernel) (by decide) (by decide) (fun q16 => ?_) (fun q17 => ?_)
    · have q16 : 2147483648 = 2147483648 := q16
      refine x_retV (np := 51) (x := 0) (by decide +kernel) (by decide +kernel) ⟨rfl, ?_⟩
      exact ⟨hJ, hF⟩
    have q17 : ¬ (2147483648 = 2147483648) := q17
    exfalso; omega
  have q15 : ¬ (2147483652 ≤ a2) := q15
  refine x_const (np := 25) (x := 9223372043297226753) (a := 2147483649) (by decide +kernel) (by decide) (by decide) ?_
  refine x_goto (np := 28) (x := 29) (by decide +kernel) ?_
  refine x_istore (np := 31) (x := 4) (lo' := [x_r (ra0 + 3), iv_c a1, iv_c a2, iv_c a3, iv_c 2147483649]) (by decide +kernel) (by decide) (Nat.le_of_ble_eq_true rfl) rfl ?_
  refine x_iload (np := 33) (x := 4) (by decide +kernel) rfl (by decide) ?_
  refine x_ifz (k := 0) (tg := 50) (np := 36) (by decide +kernel) (by decide) (by decide) (fun q18 => ?_) (fun q19 => ?_)
  · have q18 : 2147483649 = 2147483648 := q18
    exfalso; omega
  have q19 : ¬ (2147483649 = 2147483648) := q19
  refine x_aload (np := 37) (x := 0) (by decide +kernel) rfl (x_nc_le (tn_3 ta0)) ?_
  have q20 : h (ra0 + 3) 1 = (ra0 + 4) := tf_3_1 hJ ta0
  refine x_getR (np := 40) (x := 385) (f := 1) (q := (ra0 + 4)) (by decide +kernel) (by decide) (tg_3_385_1_1 ta0) q20 ?_
  refine x_iload (np := 41) (x := 1) (by decide +kernel) rfl la1 ?_
  refine x_aload (np := 42) (x := 0) (by decide +kernel) rfl (x_nc_le (tn_3 ta0)) ?_
  refine x_getC (np := 45) (x := 384) (f := 0) (q := 2147483652) (by decide +kernel) (by decide) (tg_3_384_0_0 ta0) q12 (fun l21 => ?_)
  obtain ⟨u22, q23⟩ : ∃ z, a1 = 2147483648 + z := ⟨a1 - 2147483648, by first | decide | omega⟩
  refine x_imul (np := 46) (x := 0) (i := u22) (j := 4) (v := (2147483648 + 4 * u22)) (by decide +kernel) (by first | decide | omega) (by first | decide | omega) (by first | decide | omega) (by first | decide | omega) la1 (by decide) ?_
  refine x_iload (np := 47) (x := 2) (by decide +kernel) rfl la2 ?_
  refine x_iadd (np := 48) (x := 0) (v := (4 * u22 + a2)) (by decide +kernel) (by first | decide | omega) la2 (by first | decide | omega) (by first | decide | omega) ?_
  refine x_iload (np := 49) (x := 3) (by decide +kernel) rfl la3 ?_
  obtain ⟨u25, q26⟩ : ∃ z, a2 = 2147483648 + z := ⟨a2 - 2147483648, by first | decide | omega⟩
  refine x_ast (np := 50) (x := 0) (kd := 1) (n := 40) (i := (4 * u22 + u25)) (by decide +kernel) (Or.inl rfl) (ta_4_40 ta0) (by first | decide | omega) (by first | decide | omega) (by decide) la3 (fun z => absurd z (by decide)) ?_
  have j28 := jUw (e := (4 * u22 + u25)) (v := a3) hJ (rw_T4 ta0) (by first | decide | omega) (by first | decide | omega)
  have f30 := jFw (e := (4 * u22 + u25)) (v := a3) hF (rw_T4 ta0) (by first | decide | omega) (by decide)
  generalize e29 : x_up h (ra0 + 4) (4 * u22 + u25) a3 = h27 at j28 f30 ⊢
  refine x_retV (np := 51) (x := 0) (by decide +kernel) (by decide +kernel) ⟨rfl, ?_⟩
  exact ⟨j28, f30⟩
set_option maxHeartbeats 0 in
/-- LentNames$Table.addRow()I -/
theorem c67_T3 {sc : Nat × Nat} {d ra0 : Nat} {h : xh} (hJ : J h) (ta0 : tw ra0) (hr0 : (h (ra0 + 3) 2) + 1 ≤ 2147483658) : X sc 67 (d + 1) (xI fun r h' => J h' ∧ Fr 281474976710785 h h' ∧ (2147483648 ≤ r ∧ r ≤ 2147483657) ∧ (h' ra0 7 = h ra0 7) ∧ (h' ra0 8 = h ra0 8) ∧ (h' (ra0 + 1) 2 = h (ra0 + 1) 2) ∧ (h' (ra0 + 3) 2 = h (ra0 + 3) 2 + 1) ∧ (h' (ra0 + 5) 2 = h (ra0 + 5) 2) ∧ (h' (ra0 + 7) 2 = h (ra0 + 7) 2) ∧ (r + 1 = h' (ra0 + 3) 2) ∧ Ot ra0 h h') 0 0 0 [x_r (ra0 + 3), 147573952589676412928] [] h := by
  have hF := Fr.refl 281474976710785 h
  have b1 := jB (e := 2) 0 hJ (rg_T3_2_0_1 ta0) (by first | decide | omega) (by first | decide | omega)
  refine x_aload (np := 1) (x := 0) (by decide +kernel) rfl (x_nc_le (tn_3 ta0)) ?_
  refine x_nI (t := 6) (mj := 66) (n := 1) (rc := 7) (ml := 1) (nr := 0) (np := 4) (as := [x_r (ra0 + 3)]) (rest := []) (lo1 := [x_r (ra0 + 3)]) (by decide +kernel) (by decide) (by decide +kernel) (x_rb_of (tr_3_7 ta0)) rfl rfl (x_wr (tn_3 ta0) x_wn) x_wn (by decide) rfl ?_
  refine x_aload (np := 1) (x := 0) (by decide +kernel) rfl (x_nc_le (tn_3 ta0)) ?_
  refine x_getC (np := 4) (x := 386) (f := 2) (q := (h (ra0 + 3) 2)) (by decide +kernel) (by decide) (tg_3_386_2_0 ta0) rfl (fun l2 => ?_)
  refine x_const (np := 5) (x := 9223372043297226753) (a := 2147483649) (by decide +kernel) (by decide) (by decide) ?_
  refine x_iadd (np := 6) (x := 0) (v := (1 + (h (ra0 + 3) 2))) (by decide +kernel) l2 (by decide) (by first | decide | omega) (by first | decide | omega) ?_
  refine x_aload (np := 7) (x := 0) (by decide +kernel) rfl (x_nc_le (tn_3 ta0)) ?_
  have b3 := jB (e := 0) 0 hJ (rg_T3_0_0_1 ta0) (by first | decide | omega) (by first | decide | omega)
  have q4 : (h (ra0 + 3) 0) = 2147483652 := by first | decide | omega
  refine x_getC (np := 10) (x := 384) (f := 0) (q := 2147483652) (by decide +kernel) (by decide) (tg_3_384_0_0 ta0) q4 (fun l5 => ?_)
  obtain ⟨u6, q7⟩ : ∃ z, (h (ra0 + 3) 2) = 2147483648 + z := ⟨(h (ra0 + 3) 2) - 2147483648, by first | decide | omega⟩
  refine x_imul (np := 11) (x := 0) (i := (1 + u6)) (j := 4) (v := (2147483652 + 4 * u6)) (by decide +kernel) (by first | decide | omega) (by first | decide | omega) (by first | decide | omega) (by first | decide | omega) (by first | decide | omega) (by decide) ?_
  refine x_aload (np := 12) (x := 0) (by decide +kernel) rfl (x_nc_le (tn_3 ta0)) ?_
  have q9 : h (ra0 + 3) 1 = (ra0 + 4) := tf_3_1 hJ ta0
  refine x_getR (np := 15) (x := 385) (f := 1) (q := (ra0 + 4)) (by decide +kernel) (by decide) (tg_3_385_1_1 ta0) q9 ?_
  refine x_alen (np := 16) (x := 0) (n := 40) (by decide +kernel) (tn_4 ta0) (tl_4 ta0).1 (tl_4 ta0).2 (by decide) ?_
  show X _ _ _ _ _ _ _ _ [iv_c 2147483688, iv_c (2147483652 + 4 * u6)] _
  refine x_icmp (k := 5) (tg := 23) (np := 19) (by decide +kernel) (by decide) (by first | decide | omega) (by decide) (fun q10 => ?_) (fun q11 => ?_)
  · have q10 : (2147483652 + 4 * u6) ≤ 2147483688 := q10
    refine x_const (np := 24) (x := 9223372039002259456) (a := 2147483648) (by decide +kernel) (by decide) (by decide) ?_
    refine x_retI (np := 25) (x := 0) (by decide +kernel) (by decide) (Or.inr ⟨by decide +kernel, by first | decide | omega, by first | decide | omega⟩) ⟨_, rfl, (by decide), ?_⟩
    refine x_ifz (k := 0) (tg := 9) (np := 7) (by decide +kernel) (by decide) (by decide) (fun q12 => ?_) (fun q13 => ?_)
    · have q12 : 2147483648 = 2147483648 := q12
      refine x_aload (np := 10) (x := 0) (by decide +kernel) rfl (x_nc_le (tn_3 ta0)) ?_
      refine x_dup (np := 11) (x := 0) (by decide +kernel) (by have z := x_nc_le (k := (ra0 + 3)) (tn_3 ta0); unfold x_r; omega) ?_
      refine x_getC (np := 14) (x := 386) (f := 2) (q := (h (ra0 + 3) 2)) (by decide +kernel) (by decide) (tg_3_386_2_0 ta0) rfl (fun l14 => ?_)
      refine x_const (np := 15) (x := 9223372043297226753) (a := 2147483649) (by decide +kernel) (by decide) (by decide) ?_
      refine x_iadd (np := 16) (x := 0) (v := (1 + (h (ra0 + 3) 2))) (by decide +kernel) l2 (by decide) (by first | decide | omega) (by first | decide | omega) ?_
      refine x_putI (np := 19) (x := 386) (f := 2) (by decide +kernel) (tg_3_386_2_0 ta0) (by first | decide | omega) (Or.inl (by decide)) ?_
      have j16 := jU (e := 2) (v := (1 + (h (ra0 + 3) 2))) 0 hJ (rg_T3_2_0_1 ta0) (by first | decide | omega) (by first | decide | omega) (by first | decide | omega)
      have f18 := jF (e := 2) (v := (1 + (h (ra0 + 3) 2))) 0 hF (rg_T3_2_0_1 ta0) (by first | decide | omega) (by first | decide | omega) (by decide)
      generalize e17 : x_up h (ra0 + 3) 2 (1 + (h (ra0 + 3) 2)) = h15 at j16 f18 ⊢
      refine x_const (np := 20) (x := 9223372039002259456) (a := 2147483648) (by decide +kernel) (by decide) (by decide) ?_
      refine x_istore (np := 21) (x := 1) (lo' := [x_r (ra0 + 3), iv_c 2147483648]) (by decide +kernel) (by decide) (Nat.le_of_ble_eq_true rfl) rfl ?_
      have p111 : ∀ (n : Nat) (v106 : Nat) (h108 : xh), 4294967296 - v106 < n → (2147483648 ≤ v106 ∧ v106 ≤ 2147483652) → J h108 → Fr 129 h15 h108 → Ot ra0 h h108 → X sc 67 (d + 1) (xI fun r h' => J h' ∧ Fr 281474976710785 h h' ∧ (2147483648 ≤ r ∧ r ≤ 2147483657) ∧ (h' ra0 7 = h ra0 7) ∧ (h' ra0 8 = h ra0 8) ∧ (h' (ra0 + 1) 2 = h (ra0 + 1) 2) ∧ (h' (ra0 + 3) 2 = h (ra0 + 3) 2 + 1) ∧ (h' (ra0 + 5) 2 = h (ra0 + 5) 2) ∧ (h' (ra0 + 7) 2 = h (ra0 + 7) 2) ∧ (r + 1 = h' (ra0 + 3) 2) ∧ Ot ra0 h h') 0 0 21 [x_r (ra0 + 3), iv_c v106] [] h108 := by
        intro n
        induction n with
        | zero => intro v106 h108 q113; exact absurd q113 (Nat.not_lt_zero _)
        | succ n i114 =>
          intro v106 h108 q113 b107 j110 f109 m112
          have f115 := Fr.trans f18 f109 (by decide)
          refine x_iload (np := 22) (x := 1) (by decide +kernel) rfl (by first | decide | omega) ?_
          refine x_aload (np := 23) (x := 0) (by decide +kernel) rfl (x_nc_le (tn_3 ta0)) ?_
          have b116 := jB (e := 0) 0 j110 (rg_T3_0_0_1 ta0) (by first | decide | omega) (by first | decide | omega)
          have q117 : (h108 (ra0 + 3) 0) = 2147483652 := by first | decide | omega
          refine x_getC (np := 26) (x := 384) (f := 0) (q := 2147483652) (by decide +kernel) (by decide) (tg_3_384_0_0 ta0) q117 (fun l118 => ?_)
          refine x_icmp (k := 3) (tg := 47) (np := 29) (by decide +kernel) (by decide) (by first | decide | omega) (by decide) (fun q119 => ?_) (fun q120 => ?_)
          · have q119 : 2147483652 ≤ v106 := q119
            refine x_aload (np := 48) (x := 0) (by decide +kernel) rfl (x_nc_le (tn_3 ta0)) ?_
            have q121 : h108 (ra0 + 3) 2 = h15 (ra0 + 3) 2 := jK 0 f109 (rg_T3_2_0_1 ta0) (by first | decide | omega) (by first | decide | omega) (by decide)
            have q122 : h15 (ra0 + 3) 2 = (1 + (h (ra0 + 3) 2)) := by rw [← e17]; exact x_up_at
            refine x_getC (np := 51) (x := 386) (f := 2) (q := (1 + (h (ra0 + 3) 2))) (by decide +kernel) (by decide) (tg_3_386_2_0 ta0) (q121.trans q122) (fun l123 => ?_)
            refine x_const (np := 52) (x := 9223372043297226753) (a := 2147483649) (by decide +kernel) (by decide) (by decide) ?_
            refine x_isub (np := 53) (x := 0) (v := (h (ra0 + 3) 2)) (by decide +kernel) (by first | decide | omega) (by decide) (by first | decide | omega) (by first | decide | omega) ?_
            have b124 := jB (e := 7) 0 hJ (rg_T0_7_0_1 ta0) (by first | decide | omega) (by first | decide | omega)
            have q125 : h108 ra0 7 = h15 ra0 7 := jK 0 f109 (rg_T0_7_0_1 ta0) (by first | decide | omega) (by first | decide | omega) (by decide)
            have q126 : h15 ra0 7 = h ra0 7 := by rw [← e17]; exact x_up_k tof_0_3
            have q127 : h108 ra0 8 = h15 ra0 8 := jK 0 f109 (rg_T0_8_0_1 ta0) (by first | decide | omega) (by first | decide | omega) (by decide)
            have q128 : h15 ra0 8 = h ra0 8 := by rw [← e17]; exact x_up_k tof_0_3
            have b129 := jB (e := 2) 0 hJ (rg_T1_2_0_1 ta0) (by first | decide | omega) (by first | decide | omega)
            have q130 : h108 (ra0 + 1) 2 = h15 (ra0 + 1) 2 := jK 0 f109 (rg_T1_2_0_1 ta0) (by first | decide | omega) (by first | decide | omega) (by decide)
            have q131 : h15 (ra0 + 1) 2 = h (ra0 + 1) 2 := by rw [← e17]; exact x_up_k tof_1_3
            have q132 : h108 (ra0 + 3) 2 = h15 (ra0 + 3) 2 := jK 0 f109 (rg_T3_2_0_1 ta0) (by first | decide | omega) (by first | decide | omega) (by decide)
            have q133 : h15 (ra0 + 3) 2 = (1 + (h (ra0 + 3) 2)) := by rw [← e17]; exact x_up_at
            have b134 := jB (e := 2) 0 hJ (rg_T5_2_0_1 ta0) (by first | decide | omega) (by first | decide | omega)
            have q135 : h108 (ra0 + 5) 2 = h15 (ra0 + 5) 2 := jK 0 f109 (rg_T5_2_0_1 ta0) (by first | decide | omega) (by first | decide | omega) (by decide)
            have q136 : h15 (ra0 + 5) 2 = h (ra0 + 5) 2 := by rw [← e17]; exact x_up_k tof_5_3
            have b137 := jB (e := 2) 0 hJ (rg_T7_2_0_1 ta0) (by first | decide | omega) (by first | decide | omega)
            have q138 : h108 (ra0 + 7) 2 = h15 (ra0 + 7) 2 := jK 0 f109 (rg_T7_2_0_1 ta0) (by first | decide | omega) (by first | decide | omega) (by decide)
            have q139 : h15 (ra0 + 7) 2 = h (ra0 + 7) 2 := by rw [← e17]; exact x_up_k tof_7_3
            have q140 : h108 (ra0 + 3) 2 = h15 (ra0 + 3) 2 := jK 0 f109 (rg_T3_2_0_1 ta0) (by first | decide | omega) (by first | decide | omega) (by decide)
            have q141 : h15 (ra0 + 3) 2 = (1 + (h (ra0 + 3) 2)) := by rw [← e17]; exact x_up_at
            refine x_retI (np := 54) (x := 0) (by decide +kernel) l2 (Or.inl (by decide +kernel)) ⟨_, rfl, l2, ?_⟩
            exact ⟨j110, f115, (by first | decide | omega), (by first | decide | omega), (by first | decide | omega), (by first | decide | omega), (by first | decide | omega), (by first | decide | omega), (by first | decide | omega), (by first | decide | omega), m112⟩
          have q120 : ¬ (2147483652 ≤ v106) := q120
          refine x_aload (np := 30) (x := 0) (by decide +kernel) rfl (x_nc_le (tn_3 ta0)) ?_
          refine x_aload (np := 31) (x := 0) (by decide +kernel) rfl (x_nc_le (tn_3 ta0)) ?_
          have q142 : h108 (ra0 + 3) 2 = h15 (ra0 + 3) 2 := jK 0 f109 (rg_T3_2_0_1 ta0) (by first | decide | omega) (by first | decide | omega) (by decide)
          have q143 : h15 (ra0 + 3) 2 = (1 + (h (ra0 + 3) 2)) := by rw [← e17]; exact x_up_at
          refine x_getC (np := 34) (x := 386) (f := 2) (q := (1 + (h (ra0 + 3) 2))) (by decide +kernel) (by decide) (tg_3_386_2_0 ta0) (q142.trans q143) (fun l144 => ?_)
          refine x_const (np := 35) (x := 9223372043297226753) (a := 2147483649) (by decide +kernel) (by decide) (by decide) ?_
          refine x_isub (np := 36) (x := 0) (v := (h (ra0 + 3) 2)) (by decide +kernel) (by first | decide | omega) (by decide) (by first | decide | omega) (by first | decide | omega) ?_
          refine x_iload (np := 37) (x := 1) (by decide +kernel) rfl (by first | decide | omega) ?_
          refine x_const (np := 38) (x := 9223372039002259456) (a := 2147483648) (by decide +kernel) (by decide) (by decide) ?_
          refine x_cV (t := 6) (mj := 69) (n := 4) (rc := 7) (ml := 5) (nr := 0) (np := 41) (as := [x_r (ra0 + 3), iv_c (h (ra0 + 3) 2), iv_c v106, iv_c 2147483648]) (rest := []) (lo1 := [x_r (ra0 + 3), iv_c (h (ra0 + 3) 2), iv_c v106, iv_c 2147483648, 147573952589676412928]) (by decide +kernel) (by decide) (by decide +kernel) (x_rb_of (tr_3_7 ta0)) rfl rfl (x_wr (tn_3 ta0) (x_wi l2 (x_wi (by first | decide | omega) (x_wi (by decide) x_wn)))) x_wn (by decide) rfl (c69_T3 j110 ta0 (by first | decide | omega) (by first | decide | omega) (by first | decide | omega)) (fun h148 q147 => ?_)
          obtain ⟨j149, f150⟩ := q147
          have f153 := Fr.trans f115 f150 (by decide)
          have f154 := Fr.trans f109 f150 (by decide)
          refine x_iinc (np := 44) (i := 1) (j := 2147483649) (v := (1 + v106)) (lo' := [x_r (ra0 + 3), iv_c (1 + v106)]) (by decide +kernel) (by decide) (by decide) rfl (by first | decide | omega) (by first | decide | omega) (by first | decide | omega) rfl ?_
          refine x_goto (np := 47) (x := 21) (by decide +kernel) ?_
          have m155 : Ot ra0 h h148 := Ot.fr m112 f150 (by decide)
          exact i114 (1 + v106) h148 (by first | decide | omega) (by first | decide | omega) j149 f154 m155
      have m156 : Ot ra0 h h15 := by rw [← e17]; exact Ot.up (o := 3) Ot.refl ta0 (by decide) rfl
      exact p111 _ 2147483648 h15 (Nat.lt_succ_self _) (by first | decide | omega) j16 (Fr.refl _ _) m156
    have q13 : ¬ (2147483648 = 2147483648) := q13
    exfalso; omega
  have q11 : ¬ ((2147483652 + 4 * u6) ≤ 2147483688) := q11
  exfalso; omega
set_option maxHeartbeats 0 in
/-- LentNames$TownReader.readLetter()Z -/
theorem c98_61 {sc : Nat × Nat} {d  : Nat} {h : xh} {tB : Nat → Nat} {tN : Nat} (hJ : J h) (hr0 : (rv h 3) + 1 ≤ 2147483658) (hT : Tp tB tN h) : X sc 98 (d + 6) (xI fun r h' => J h' ∧ Fr 281474976710817 h h' ∧ (2147483648 ≤ r ∧ r ≤ 2147483649) ∧ (rv h' 0 = rv h 0) ∧ (rv h' 1 = rv h 1) ∧ (rv h' 2 = rv h 2) ∧ (r = 2147483649 → rv h' 3 = rv h 3 + 1) ∧ (rv h' 4 = rv h 4) ∧ (rv h' 5 = rv h 5) ∧ letter9 tB tN (rv h 0) (h 1 2) (rs r (h' 1 2)) ∧ Ot (h 61 1) h h' ∧ (r = 2147483648 → letterF tB tN (rv h 0) (h 1 2) (h' 1 2))) 0 0 0 [x_r 61, 147573952589676412928] [] h := by
  have hF := Fr.refl 281474976710817 h
  have t1 : tw (h 61 1) := hJ.2.2.2.2.1
  have b2 := jB (e := 2) 0 hJ (rg_T3_2_0_1 t1) (by first | decide | omega) (by first | decide | omega)
  have e3 : rv h 3 = (h ((h 61 1) + 3) 2) := (congrArg (fun z => svq h z 3) rfl).trans rfl
  refine x_aload (np := 1) (x := 0) (by decide +kernel) rfl (x_nc_le (by decide)) ?_
  refine x_getR (np := 4) (x := 577) (f := 1) (q := (h 61 1)) (by decide +kernel) (by decide) (by decide +kernel) rfl ?_
  have q4 : h (h 61 1) 1 = ((h 61 1) + 3) := tf_0_1 hJ t1
  refine x_getR (np := 7) (x := 513) (f := 1) (q := ((h 61 1) + 3)) (by decide +kernel) (by decide) (tg_0_513_1_1 t1) q4 ?_
  refine x_cI (t := 6) (mj := 67) (n := 1) (rc := 7) (ml := 2) (nr := 0) (np := 10) (as := [x_r ((h 61 1) + 3)]) (rest := []) (lo1 := [x_r ((h 61 1) + 3), 147573952589676412928]) (by decide +kernel) (by decide) (by decide +kernel) (x_rb_of (tr_3_7 t1)) rfl rfl (x_wr (tn_3 t1) x_wn) x_wn (by decide) rfl (c67_T3 hJ t1 (by first | decide | omega)) (fun v5 h8 l6 q7 => ?_)
  obtain ⟨j9, f10, b11, c12, c13, c14, c15, c16, c17, c18, c19⟩ := q7
  have f20 := Fr.trans hF f10 (by decide)
  have b21 := jB (e := 7) 0 hJ (rg_T0_7_0_1 t1) (by first | decide | omega) (by first | decide | omega)
  have b22 := jB (e := 7) 0 j9 (rg_T0_7_0_1 t1) (by first | decide | omega) (by first | decide | omega)
  have b23 := jB (e := 2) 0 hJ (rg_T1_2_0_1 t1) (by first | decide | omega) (by first | decide | omega)
  have b24 := jB (e := 2) 0 j9 (rg_T1_2_0_1 t1) (by first | decide | omega) (by first | decide | omega)
  have b25 := jB (e := 2) 0 j9 (rg_T3_2_0_1 t1) (by first | decide | omega) (by first | decide | omega)
  have b26 := jB (e := 2) 0 hJ (rg_T5_2_0_1 t1) (by first | decide | omega) (by first | decide | omega)
  have b27 := jB (e := 2) 0 j9 (rg_T5_2_0_1 t1) (by first | decide | omega) (by first | decide | omega)
  have b28 := jB (e := 2) 0 hJ (rg_T7_2_0_1 t1) (by first | decide | omega) (by first | decide | omega)
  have b29 := jB (e := 2) 0 j9 (rg_T7_2_0_1 t1) (by first | decide | omega) (by first | decide | omega)
  refine x_istore (np := 11) (x := 1) (lo' := [x_r 61, iv_c v5]) (by decide +kernel) l6 (Nat.le_of_ble_eq_true rfl) rfl ?_
  refine x_aload (np := 12) (x := 0) (by decide +kernel) rfl (x_nc_le (by decide)) ?_
  have q30 : h8 61 1 = h 61 1 := f10 61 1 (by decide +kernel)
  refine x_getR (np := 15) (x := 577) (f := 1) (q := (h 61 1)) (by decide +kernel) (by decide) (by decide +kernel) q30 ?_
  have q31 : h8 (h 61 1) 1 = ((h 61 1) + 3) := tf_0_1 j9 t1
  refine x_getR (np := 18) (x := 513) (f := 1) (q := ((h 61 1) + 3)) (by decide +kernel) (by decide) (tg_0_513_1_1 t1) q31 ?_
  refine x_iload (np := 19) (x := 1) (by decide +kernel) rfl l6 ?_
  refine x_const (np := 20) (x := 9223372051887161347) (a := 2147483651) (by decide +kernel) (by decide) (by decide) ?_
  refine x_const (np := 21) (x := 9223372034707292159) (a := 2147483647) (by decide +kernel) (by decide) (by decide) ?_
  refine x_nV (t := 6) (mj := 69) (n := 4) (rc := 7) (ml := 5) (nr := 0) (np := 24) (as := [x_r ((h 61 1) + 3), iv_c v5, iv_c 2147483651, iv_c 2147483647]) (rest := []) (lo1 := [x_r ((h 61 1) + 3), iv_c v5, iv_c 2147483651, iv_c 2147483647, 147573952589676412928]) (by decide +kernel) (by decide) (by decide +kernel) (x_rb_of (tr_3_7 t1)) rfl rfl (x_wr (tn_3 t1) (x_wi l6 (x_wi (by decide) (x_wi (by decide) x_wn)))) x_wn (by decide) rfl ?_
  refine x_iload (np := 1) (x := 1) (by decide +kernel) rfl l6 ?_
  refine x_ifz (k := 2) (tg := 28) (np := 4) (by decide +kernel) (by decide) l6 (fun q32 => ?_) (fun q33 => ?_)
  · have q32 : v5 < 2147483648 := q32
    exfalso; omega
  have q33 : ¬ (v5 < 2147483648) := q33
  refine x_iload (np := 5) (x := 1) (by decide +kernel) rfl l6 ?_
  refine x_aload (np := 6) (x := 0) (by decide +kernel) rfl (x_nc_le (tn_3 t1)) ?_
  refine x_getC (np := 9) (x := 386) (f := 2) (q := (h8 ((h 61 1) + 3) 2)) (by decide +kernel) (by decide) (tg_3_386_2_0 t1) rfl (fun l34 => ?_)
  refine x_icmp (k := 3) (tg := 28) (np := 12) (by decide +kernel) (by decide) l6 l34 (fun q35 => ?_) (fun q36 => ?_)
  · have q35 : (h8 ((h 61 1) + 3) 2) ≤ v5 := q35
    exfalso; omega
  have q36 : ¬ ((h8 ((h 61 1) + 3) 2) ≤ v5) := q36
  refine x_iload (np := 13) (x := 2) (by decide +kernel) rfl (by decide) ?_
  refine x_ifz (k := 2) (tg := 28) (np := 16) (by decide +kernel) (by decide) (by decide) (fun q37 => ?_) (fun q38 => ?_)
  · have q37 : 2147483651 < 2147483648 := q37
    exfalso; omega
  have q38 : ¬ (2147483651 < 2147483648) := q38
  refine x_iload (np := 17) (x := 2) (by decide +kernel) rfl (by decide) ?_
  refine x_aload (np := 18) (x := 0) (by decide +kernel) rfl (x_nc_le (tn_3 t1)) ?_
  have b39 := jB (e := 0) 0 j9 (rg_T3_0_0_1 t1) (by first | decide | omega) (by first | decide | omega)
  have q40 : (h8 ((h 61 1) + 3) 0) = 2147483652 := by first | decide | omega
  refine x_getC (np := 21) (x := 384) (f := 0) (q := 2147483652) (by decide +kernel) (by decide) (tg_3_384_0_0 t1) q40 (fun l41 => ?_)
  refine x_icmp (k := 3) (tg := 28) (np := 24) (by decide +kernel) (by decide) (by decide) (by decide) (fun q42 => ?_) (fun q43 => ?_)
  · have q42 : 2147483652 ≤ 2147483651 := q42
    exfalso; omega
  have q43 : ¬ (2147483652 ≤ 2147483651) := q43
  refine x_const (np := 25) (x := 9223372043297226753) (a := 2147483649) (by decide +kernel) (by decide) (by decide) ?_
  refine x_goto (np := 28) (x := 29) (by decide +kernel) ?_
  refine x_istore (np := 31) (x := 4) (lo' := [x_r ((h 61 1) + 3), iv_c v5, iv_c 2147483651, iv_c 2147483647, iv_c 2147483649]) (by decide +kernel) (by decide) (Nat.le_of_ble_eq_true rfl) rfl ?_
  refine x_iload (np := 33) (x := 4) (by decide +kernel) rfl (by decide) ?_
  refine x_ifz (k := 0) (tg := 50) (np := 36) (by decide +kernel) (by decide) (by decide) (fun q44 => ?_) (fun q45 => ?_)
  · have q44 : 2147483649 = 2147483648 := q44
    exfalso; omega
  have q45 : ¬ (2147483649 = 2147483648) := q45
  refine x_aload (np := 37) (x := 0) (by decide +kernel) rfl (x_nc_le (tn_3 t1)) ?_
  have q46 : h8 ((h 61 1) + 3) 1 = ((h 61 1) + 4) := tf_3_1 j9 t1
  refine x_getR (np := 40) (x := 385) (f := 1) (q := ((h 61 1) + 4)) (by decide +kernel) (by decide) (tg_3_385_1_1 t1) q46 ?_
  refine x_iload (np := 41) (x := 1) (by decide +kernel) rfl l6 ?_
  refine x_aload (np := 42) (x := 0) (by decide +kernel) rfl (x_nc_le (tn_3 t1)) ?_
  refine x_getC (np := 45) (x := 384) (f := 0) (q := 2147483652) (by decide +kernel) (by decide) (tg_3_384_0_0 t1) q40 (fun l47 => ?_)
  obtain ⟨u48, q49⟩ : ∃ z, v5 = 2147483648 + z := ⟨v5 - 2147483648, by first | decide | omega⟩
  refine x_imul (np := 46) (x := 0) (i := u48) (j := 4) (v := (2147483648 + 4 * u48)) (by decide +kernel) (by first | decide | omega) (by first | decide | omega) (by first | decide | omega) (by first | decide | omega) l6 (by decide) ?_
  refine x_iload (np := 47) (x := 2) (by decide +kernel) rfl (by decide) ?_
  refine x_iadd (np := 48) (x := 0) (v := (2147483651 + 4 * u48)) (by decide +kernel) (by first | decide | omega) (by decide) (by first | decide | omega) (by first | decide | omega) ?_
  refine x_iload (np := 49) (x := 3) (by decide +kernel) rfl (by decide) ?_
  refine x_ast (np := 50) (x := 0) (kd := 1) (n := 40) (i := (3 + 4 * u48)) (by decide +kernel) (Or.inl rfl) (ta_4_40 t1) (by first | decide | omega) (by first | decide | omega) (by decide) (by decide) (fun z => absurd z (by decide)) ?_
  have j52 := jU (e := (3 + 4 * u48)) (v := 2147483647) u48 j9 (rg_T4_3_4_10 t1) (by first | decide | omega) (by first | decide | omega) (by first | decide | omega)
  have f54 := jF (e := (3 + 4 * u48)) (v := 2147483647) u48 f20 (rg_T4_3_4_10 t1) (by first | decide | omega) (by first | decide | omega) (by decide)
  generalize e53 : x_up h8 ((h 61 1) + 4) (3 + 4 * u48) 2147483647 = h51 at j52 f54 ⊢
  refine x_retV (np := 51) (x := 0) (by decide +kernel) (by decide +kernel) ⟨rfl, ?_⟩
  refine x_aload (np := 25) (x := 0) (by decide +kernel) rfl (x_nc_le (by decide)) ?_
  refine x_aload (np := 26) (x := 0) (by decide +kernel) rfl (x_nc_le (by decide)) ?_
  have q55 : h51 61 1 = h8 61 1 := by rw [← e53]; exact x_up_k (Ne.symm (tne_4_61 t1))
  have q56 : h8 61 1 = h 61 1 := f10 61 1 (by decide +kernel)
  refine x_getR (np := 29) (x := 577) (f := 1) (q := (h 61 1)) (by decide +kernel) (by decide) (by decide +kernel) (q55.trans q56) ?_
  have q57 : h51 (h 61 1) 1 = ((h 61 1) + 3) := tf_0_1 j52 t1
  refine x_getR (np := 32) (x := 513) (f := 1) (q := ((h 61 1) + 3)) (by decide +kernel) (by decide) (tg_0_513_1_1 t1) q57 ?_
  refine x_iload (np := 33) (x := 1) (by decide +kernel) rfl l6 ?_
  refine x_const (np := 34) (x := 9223372039002259456) (a := 2147483648) (by decide +kernel) (by decide) (by decide) ?_
  refine x_const (np := 35) (x := 9223372039002259456) (a := 2147483648) (by decide +kernel) (by decide) (by decide) ?_
  refine x_aload (np := 36) (x := 0) (by decide +kernel) rfl (x_nc_le (by decide)) ?_
  have q58 : h51 61 1 = h8 61 1 := by rw [← e53]; exact x_up_k (Ne.symm (tne_4_61 t1))
  have q59 : h8 61 1 = h 61 1 := f10 61 1 (by decide +kernel)
  refine x_getR (np := 39) (x := 577) (f := 1) (q := (h 61 1)) (by decide +kernel) (by decide) (by decide +kernel) (q58.trans q59) ?_
  have q60 : h51 (h 61 1) 7 = h8 (h 61 1) 7 := by rw [← e53]; exact x_up_k tof_0_4
  refine x_getC (np := 42) (x := 519) (f := 7) (q := (h8 (h 61 1) 7)) (by decide +kernel) (by decide) (tg_0_519_7_0 t1) q60 (fun l61 => ?_)
  refine x_const (np := 43) (x := 9223372043297226753) (a := 2147483649) (by decide +kernel) (by decide) (by decide) ?_
  obtain ⟨v62, q63⟩ : ∃ z, z + 2147483649 = (h8 (h 61 1) 7) + 2147483648 := ⟨(h8 (h 61 1) 7) + 2147483648 - 2147483649, by first | decide | omega⟩
  refine x_isub (np := 44) (x := 0) (v := v62) (by decide +kernel) l61 (by decide) (by first | decide | omega) (by first | decide | omega) ?_
  refine x_nI (t := 6) (mj := 102) (n := 6) (rc := 10) (ml := 7) (nr := 0) (np := 47) (as := [x_r 61, x_r ((h 61 1) + 3), iv_c v5, iv_c 2147483648, iv_c 2147483648, iv_c v62]) (rest := []) (lo1 := [x_r 61, x_r ((h 61 1) + 3), iv_c v5, iv_c 2147483648, iv_c 2147483648, iv_c v62, 147573952589676412928]) (by decide +kernel) (by decide) (by decide +kernel) (x_rb_of (by decide +kernel)) rfl rfl (x_wr (by decide) (x_wr (tn_3 t1) (x_wi l6 (x_wi (by decide) (x_wi (by decide) (x_wi (by first | decide | omega) x_wn)))))) x_wn (by decide) rfl ?_
  refine x_aload (np := 1) (x := 0) (by decide +kernel) rfl (x_nc_le (by decide)) ?_
  have q64 : h51 61 0 = 1 := by have z := jB (e := 0) 0 j52 rg_61_0_0_1 (by decide) (by decide); omega
  refine x_getR (np := 4) (x := 576) (f := 0) (q := 1) (by decide +kernel) (by decide) (by decide +kernel) q64 ?_
  refine x_iload (np := 6) (x := 4) (by decide +kernel) rfl (by decide) ?_
  refine x_iload (np := 8) (x := 5) (by decide +kernel) rfl (by first | decide | omega) ?_
  have m69 := Tp.fr hT f10 (by decide) (by decide)
  have m68 : Tp tB tN h51 := by rw [← e53]; exact Tp.oth m69 (tne_4_2 t1) (fun z => absurd z.1 (tne_4_1 t1))
  refine x_cI (t := 6) (mj := 79) (n := 3) (rc := 8) (ml := 5) (nr := 0) (np := 11) (as := [x_r 1, iv_c 2147483648, iv_c v62]) (rest := []) (lo1 := [x_r 1, iv_c 2147483648, iv_c v62, 147573952589676412928, 147573952589676412928]) (by decide +kernel) (by decide) (by decide +kernel) (x_rb_of (by decide +kernel)) rfl rfl (x_wr (by decide) (x_wi (by decide) (x_wi (by first | decide | omega) x_wn))) x_wn (by decide) rfl (c79_1_c0 j52   (by first | decide | omega) m68) (fun v65 h70 l66 q67 => ?_)
  obtain ⟨j71, f72, b73, c74, c75, c76, c77⟩ := q67
  have f78 := Fr.trans f54 f72 (by decide)
  have q79 : h51 1 2 = h8 1 2 := by rw [← e53]; exact x_up_k (Ne.symm (tne_4_1 t1))
  have q80 : h8 1 2 = h 1 2 := jK 0 f10 rg_1_2_0_1 (by first | decide | omega) (by first | decide | omega) (by decide)
  have b81 := jB (e := 2) 0 hJ rg_1_2_0_1 (by first | decide | omega) (by first | decide | omega)
  have b82 := jB (e := 2) 0 j71 rg_1_2_0_1 (by first | decide | omega) (by first | decide | omega)
  have q83 : h51 1 2 = h8 1 2 := by rw [← e53]; exact x_up_k (Ne.symm (tne_4_1 t1))
  have q84 : h8 1 2 = h 1 2 := jK 0 f10 rg_1_2_0_1 (by first | decide | omega) (by first | decide | omega) (by decide)
  refine x_istore (np := 13) (x := 6) (lo' := [x_r 61, x_r ((h 61 1) + 3), iv_c v5, iv_c 2147483648, iv_c 2147483648, iv_c v62, iv_c v65]) (by decide +kernel) l66 (Nat.le_of_ble_eq_true rfl) rfl ?_
  refine x_iload (np := 15) (x := 6) (by decide +kernel) rfl l66 ?_
  refine x_const (np := 16) (x := 9223372034707292159) (a := 2147483647) (by decide +kernel) (by decide) (by decide) ?_
  refine x_icmp (k := 1) (tg := 21) (np := 19) (by decide +kernel) (by decide) l66 (by decide) (fun q85 => ?_) (fun q86 => ?_)
  · have q85 : v65 ≠ 2147483647 := q85
    have b87 := c75 (by first | decide | omega)
    refine x_aload (np := 22) (x := 1) (by decide +kernel) rfl (x_nc_le (tn_3 t1)) ?_
    refine x_iload (np := 23) (x := 2) (by decide +kernel) rfl l6 ?_
    refine x_iload (np := 24) (x := 3) (by decide +kernel) rfl (by decide) ?_
    refine x_iload (np := 26) (x := 6) (by decide +kernel) rfl l66 ?_
    refine x_nV (t := 6) (mj := 69) (n := 4) (rc := 7) (ml := 5) (nr := 0) (np := 29) (as := [x_r ((h 61 1) + 3), iv_c v5, iv_c 2147483648, iv_c v65]) (rest := []) (lo1 := [x_r ((h 61 1) + 3), iv_c v5, iv_c 2147483648, iv_c v65, 147573952589676412928]) (by decide +kernel) (by decide) (by decide +kernel) (x_rb_of (tr_3_7 t1)) rfl rfl (x_wr (tn_3 t1) (x_wi l6 (x_wi (by decide) (x_wi l66 x_wn)))) x_wn (by decide) rfl ?_
    refine x_iload (np := 1) (x := 1) (by decide +kernel) rfl l6 ?_
    refine x_ifz (k := 2) (tg := 28) (np := 4) (by decide +kernel) (by decide) l6 (fun q88 => ?_) (fun q89 => ?_)
    · have q88 : v5 < 2147483648 := q88
      exfalso; omega
    have q89 : ¬ (v5 < 2147483648) := q89
    refine x_iload (np := 5) (x := 1) (by decide +kernel) rfl l6 ?_
    refine x_aload (np := 6) (x := 0) (by decide +kernel) rfl (x_nc_le (tn_3 t1)) ?_
    have q90 : h70 ((h 61 1) + 3) 2 = h51 ((h 61 1) + 3) 2 := jK 0 f72 (rg_T3_2_0_1 t1) (by first | decide | omega) (by first | decide | omega) (by decide)
    have q91 : h51 ((h 61 1) + 3) 2 = h8 ((h 61 1) + 3) 2 := by rw [← e53]; exact x_up_k tof_3_4
    refine x_getC (np := 9) (x := 386) (f := 2) (q := (h8 ((h 61 1) + 3) 2)) (by decide +kernel) (by decide) (tg_3_386_2_0 t1) (q90.trans q91) (fun l92 => ?_)
    refine x_icmp (k := 3) (tg := 28) (np := 12) (by decide +kernel) (by decide) l6 l34 (fun q93 => ?_) (fun q94 => ?_)
    · have q93 : (h8 ((h 61 1) + 3) 2) ≤ v5 := q93
      exfalso; omega
    have q94 : ¬ ((h8 ((h 61 1) + 3) 2) ≤ v5) := q94
    refine x_iload (np := 13) (x := 2) (by decide +kernel) rfl (by decide) ?_
    refine x_ifz (k := 2) (tg := 28) (np := 16) (by decide +kernel) (by decide) (by decide) (fun q95 => ?_) (fun q96 => ?_)
    · have q95 : 2147483648 < 2147483648 := q95
      exfalso; omega
    have q96 : ¬ (2147483648 < 2147483648) := q96
    refine x_iload (np := 17) (x := 2) (by decide +kernel) rfl (by decide) ?_
    refine x_aload (np := 18) (x := 0) (by decide +kernel) rfl (x_nc_le (tn_3 t1)) ?_
    have q97 : h70 ((h 61 1) + 3) 0 = h51 ((h 61 1) + 3) 0 := jK 0 f72 (rg_T3_0_0_1 t1) (by first | decide | omega) (by first | decide | omega) (by decide)
    have q98 : h51 ((h 61 1) + 3) 0 = h8 ((h 61 1) + 3) 0 := by rw [← e53]; exact x_up_k tof_3_4
    refine x_getC (np := 21) (x := 384) (f := 0) (q := 2147483652) (by decide +kernel) (by decide) (tg_3_384_0_0 t1) ((q97.trans q98).trans q40) (fun l99 => ?_)
    refine x_icmp (k := 3) (tg := 28) (np := 24) (by decide +kernel) (by decide) (by decide) (by decide) (fun q100 => ?_) (fun q101 => ?_)
    · have q100 : 2147483652 ≤ 2147483648 := q100
      exfalso; omega
    have q101 : ¬ (2147483652 ≤ 2147483648) := q101
    refine x_const (np := 25) (x := 9223372043297226753) (a := 2147483649) (by decide +kernel) (by decide) (by decide) ?_
    refine x_goto (np := 28) (x := 29) (by decide +kernel) ?_
    refine x_istore (np := 31) (x := 4) (lo' := [x_r ((h 61 1) + 3), iv_c v5, iv_c 2147483648, iv_c v65, iv_c 2147483649]) (by decide +kernel) (by decide) (Nat.le_of_ble_eq_true rfl) rfl ?_
    refine x_iload (np := 33) (x := 4) (by decide +kernel) rfl (by decide) ?_
    refine x_ifz (k := 0) (tg := 50) (np := 36) (by decide +kernel) (by decide) (by decide) (fun q102 => ?_) (fun q103 => ?_)
    · have q102 : 2147483649 = 2147483648 := q102
      exfalso; omega
    have q103 : ¬ (2147483649 = 2147483648) := q103
    refine x_aload (np := 37) (x := 0) (by decide +kernel) rfl (x_nc_le (tn_3 t1)) ?_
    have q104 : h70 ((h 61 1) + 3) 1 = ((h 61 1) + 4) := tf_3_1 j71 t1
    refine x_getR (np := 40) (x := 385) (f := 1) (q := ((h 61 1) + 4)) (by decide +kernel) (by decide) (tg_3_385_1_1 t1) q104 ?_
    refine x_iload (np := 41) (x := 1) (by decide +kernel) rfl l6 ?_
    refine x_aload (np := 42) (x := 0) (by decide +kernel) rfl (x_nc_le (tn_3 t1)) ?_
    have q105 : h70 ((h 61 1) + 3) 0 = h51 ((h 61 1) + 3) 0 := jK 0 f72 (rg_T3_0_0_1 t1) (by first | decide | omega) (by first | decide | omega) (by decide)
    have q106 : h51 ((h 61 1) + 3) 0 = h8 ((h 61 1) + 3) 0 := by rw [← e53]; exact x_up_k tof_3_4
    refine x_getC (np := 45) (x := 384) (f := 0) (q := 2147483652) (by decide +kernel) (by decide) (tg_3_384_0_0 t1) ((q105.trans q106).trans q40) (fun l107 => ?_)
    refine x_imul (np := 46) (x := 0) (i := u48) (j := 4) (v := (2147483648 + 4 * u48)) (by decide +kernel) (by first | decide | omega) (by first | decide | omega) (by first | decide | omega) (by first | decide | omega) l6 (by decide) ?_
    refine x_iload (np := 47) (x := 2) (by decide +kernel) rfl (by decide) ?_
    refine x_iadd (np := 48) (x := 0) (v := (2147483648 + 4 * u48)) (by decide +kernel) (by first | decide | omega) (by decide) (by first | decide | omega) (by first | decide | omega) ?_
    refine x_iload (np := 49) (x := 3) (by decide +kernel) rfl l66 ?_
    refine x_ast (np := 50) (x := 0) (kd := 1) (n := 40) (i := (4 * u48)) (by decide +kernel) (Or.inl rfl) (ta_4_40 t1) (by first | decide | omega) (by first | decide | omega) (by decide) l66 (fun z => absurd z (by decide)) ?_
    have j110 := jU (e := (4 * u48)) (v := v65) u48 j71 (rg_T4_0_4_10 t1) (by first | decide | omega) (by first | decide | omega) (by first | decide | omega)
    have f112 := jF (e := (4 * u48)) (v := v65) u48 f78 (rg_T4_0_4_10 t1) (by first | decide | omega) (by first | decide | omega) (by decide)
    generalize e111 : x_up h70 ((h 61 1) + 4) (4 * u48) v65 = h109 at j110 f112 ⊢
    refine x_retV (np := 51) (x := 0) (by decide +kernel) (by decide +kernel) ⟨rfl, ?_⟩
    refine x_const (np := 30) (x := 9223372043297226753) (a := 2147483649) (by decide +kernel) (by decide) (by decide) ?_
    refine x_retI (np := 31) (x := 0) (by decide +kernel) (by decide) (Or.inr ⟨by decide +kernel, by first | decide | omega, by first | decide | omega⟩) ⟨_, rfl, (by decide), ?_⟩
    refine x_ifz (k := 0) (tg := 127) (np := 50) (by decide +kernel) (by decide) (by decide) (fun q113 => ?_) (fun q114 => ?_)
    · have q113 : 2147483649 = 2147483648 := q113
      exfalso; omega
    have q114 : ¬ (2147483649 = 2147483648) := q114
    refine x_aload (np := 51) (x := 0) (by decide +kernel) rfl (x_nc_le (by decide)) ?_
    have q115 : h109 61 0 = 1 := by have z := jB (e := 0) 0 j110 rg_61_0_0_1 (by decide) (by decide); omega
    refine x_getR (np := 54) (x := 576) (f := 0) (q := 1) (by decide +kernel) (by decide) (by decide +kernel) q115 ?_
    refine x_ldcB (i := 2) (idx := 111) (tx := "day") (by rw [tb_y98]; exact List.mem_of_getElem? (i := 2) rfl) (by decide) (by rw [tb_b98]; decide +kernel) ?_
    have m120 := Tp.fr m68 f72 (by decide) (by decide)
    have m119 : Tp tB tN h109 := by rw [← e111]; exact Tp.oth m120 (tne_4_2 t1) (fun z => absurd z.1 (tne_4_1 t1))
    refine x_cI (t := 6) (mj := 78) (n := 2) (rc := 8) (ml := 2) (nr := 0) (np := 59) (as := [x_r 1, x_b (2 + 1)]) (rest := []) (lo1 := [x_r 1, x_b (2 + 1)]) (by decide +kernel) (by decide) (by decide +kernel) (x_rb_of (by decide +kernel)) rfl rfl (x_wr (by decide) (x_wB (by decide) x_wn)) x_wn (by decide) rfl (c78_1_S0 j110  (by decide) m119) (fun v116 h121 l117 q118 => ?_)
    obtain ⟨j122, f123, b124, c125, c126, c127⟩ := q118
    have f128 := Fr.trans f112 f123 (by decide)
    have q129 : h109 1 2 = h70 1 2 := by rw [← e111]; exact x_up_k (Ne.symm (tne_4_1 t1))
    have b130 := jB (e := 2) 0 j122 rg_1_2_0_1 (by first | decide | omega) (by first | decide | omega)
    have b131 : iv_tl 2 = 3 := by decide
    have q132 : h109 1 2 = h70 1 2 := by rw [← e111]; exact x_up_k (Ne.symm (tne_4_1 t1))
    refine x_ifz (k := 0) (tg := 127) (np := 62) (by decide +kernel) (by decide) l117 (fun q133 => ?_) (fun q134 => ?_)
    · have q133 : v116 = 2147483648 := q133
      have b135 := c126 (by first | decide | omega)
      refine x_const (np := 128) (x := 9223372039002259456) (a := 2147483648) (by decide +kernel) (by decide) (by decide) ?_
      have e136 : rv h 0 = (h (h 61 1) 7) := (congrArg (fun z => svq h z 0) rfl).trans rfl
      have q137 : h121 61 1 = h109 61 1 := f123 61 1 (by decide +kernel)
      have q138 : h109 61 1 = h70 61 1 := by rw [← e111]; exact x_up_k (Ne.symm (tne_4_61 t1))
      have q139 : h70 61 1 = h51 61 1 := f72 61 1 (by decide +kernel)
      have q140 : h51 61 1 = h8 61 1 := by rw [← e53]; exact x_up_k (Ne.symm (tne_4_61 t1))
      have q141 : h8 61 1 = h 61 1 := f10 61 1 (by decide +kernel)
      have q142 : h121 (h 61 1) 7 = h109 (h 61 1) 7 := jK 0 f123 (rg_T0_7_0_1 t1) (by first | decide | omega) (by first | decide | omega) (by decide)
      have q143 : h109 (h 61 1) 7 = h70 (h 61 1) 7 := by rw [← e111]; exact x_up_k tof_0_4
      have q144 : h70 (h 61 1) 7 = h51 (h 61 1) 7 := jK 0 f72 (rg_T0_7_0_1 t1) (by first | decide | omega) (by first | decide | omega) (by decide)
      have q145 : h51 (h 61 1) 7 = h8 (h 61 1) 7 := by rw [← e53]; exact x_up_k tof_0_4
      have e146 : rv h121 0 = (h8 (h 61 1) 7) := (congrArg (fun z => svq h121 z 0) ((((q137.trans q138).trans q139).trans q140).trans q141)).trans (((q142.trans q143).trans q144).trans q145)
      have e147 : rv h 1 = (h (h 61 1) 8) := (congrArg (fun z => svq h z 1) rfl).trans rfl
      have q148 : h121 61 1 = h109 61 1 := f123 61 1 (by decide +kernel)
      have q149 : h109 61 1 = h70 61 1 := by rw [← e111]; exact x_up_k (Ne.symm (tne_4_61 t1))
      have q150 : h70 61 1 = h51 61 1 := f72 61 1 (by decide +kernel)
      have q151 : h51 61 1 = h8 61 1 := by rw [← e53]; exact x_up_k (Ne.symm (tne_4_61 t1))
      have q152 : h8 61 1 = h 61 1 := f10 61 1 (by decide +kernel)
      have q153 : h121 (h 61 1) 8 = h109 (h 61 1) 8 := jK 0 f123 (rg_T0_8_0_1 t1) (by first | decide | omega) (by first | decide | omega) (by decide)
      have q154 : h109 (h 61 1) 8 = h70 (h 61 1) 8 := by rw [← e111]; exact x_up_k tof_0_4
      have q155 : h70 (h 61 1) 8 = h51 (h 61 1) 8 := jK 0 f72 (rg_T0_8_0_1 t1) (by first | decide | omega) (by first | decide | omega) (by decide)
      have q156 : h51 (h 61 1) 8 = h8 (h 61 1) 8 := by rw [← e53]; exact x_up_k tof_0_4
      have e157 : rv h121 1 = (h8 (h 61 1) 8) := (congrArg (fun z => svq h121 z 1) ((((q148.trans q149).trans q150).trans q151).trans q152)).trans (((q153.trans q154).trans q155).trans q156)
      have e158 : rv h 2 = (h ((h 61 1) + 1) 2) := (congrArg (fun z => svq h z 2) rfl).trans rfl
      have q159 : h121 61 1 = h109 61 1 := f123 61 1 (by decide +kernel)
      have q160 : h109 61 1 = h70 61 1 := by rw [← e111]; exact x_up_k (Ne.symm (tne_4_61 t1))
      have q161 : h70 61 1 = h51 61 1 := f72 61 1 (by decide +kernel)
      have q162 : h51 61 1 = h8 61 1 := by rw [← e53]; exact x_up_k (Ne.symm (tne_4_61 t1))
      have q163 : h8 61 1 = h 61 1 := f10 61 1 (by decide +kernel)
      have q164 : h121 ((h 61 1) + 1) 2 = h109 ((h 61 1) + 1) 2 := jK 0 f123 (rg_T1_2_0_1 t1) (by first | decide | omega) (by first | decide | omega) (by decide)
      have q165 : h109 ((h 61 1) + 1) 2 = h70 ((h 61 1) + 1) 2 := by rw [← e111]; exact x_up_k tof_1_4
      have q166 : h70 ((h 61 1) + 1) 2 = h51 ((h 61 1) + 1) 2 := jK 0 f72 (rg_T1_2_0_1 t1) (by first | decide | omega) (by first | decide | omega) (by decide)
      have q167 : h51 ((h 61 1) + 1) 2 = h8 ((h 61 1) + 1) 2 := by rw [← e53]; exact x_up_k tof_1_4
      have e168 : rv h121 2 = (h8 ((h 61 1) + 1) 2) := (congrArg (fun z => svq h121 z 2) ((((q159.trans q160).trans q161).trans q162).trans q163)).trans (((q164.trans q165).trans q166).trans q167)
      have q169 : h121 61 1 = h109 61 1 := f123 61 1 (by decide +kernel)
      have q170 : h109 61 1 = h70 61 1 := by rw [← e111]; exact x_up_k (Ne.symm (tne_4_61 t1))
      have q171 : h70 61 1 = h51 61 1 := f72 61 1 (by decide +kernel)
      have q172 : h51 61 1 = h8 61 1 := by rw [← e53]; exact x_up_k (Ne.symm (tne_4_61 t1))
      have q173 : h8 61 1 = h 61 1 := f10 61 1 (by decide +kernel)
      have q174 : h121 ((h 61 1) + 3) 2 = h109 ((h 61 1) + 3) 2 := jK 0 f123 (rg_T3_2_0_1 t1) (by first | decide | omega) (by first | decide | omega) (by decide)
      have q175 : h109 ((h 61 1) + 3) 2 = h70 ((h 61 1) + 3) 2 := by rw [← e111]; exact x_up_k tof_3_4
      have q176 : h70 ((h 61 1) + 3) 2 = h51 ((h 61 1) + 3) 2 := jK 0 f72 (rg_T3_2_0_1 t1) (by first | decide | omega) (by first | decide | omega) (by decide)
      have q177 : h51 ((h 61 1) + 3) 2 = h8 ((h 61 1) + 3) 2 := by rw [← e53]; exact x_up_k tof_3_4
      have e178 : rv h121 3 = (h8 ((h 61 1) + 3) 2) := (congrArg (fun z => svq h121 z 3) ((((q169.trans q170).trans q171).trans q172).trans q173)).trans (((q174.trans q175).trans q176).trans q177)
      have e179 : rv h 4 = (h ((h 61 1) + 5) 2) := (congrArg (fun z => svq h z 4) rfl).trans rfl
      have q180 : h121 61 1 = h109 61 1 := f123 61 1 (by decide +kernel)
      have q181 : h109 61 1 = h70 61 1 := by rw [← e111]; exact x_up_k (Ne.symm (tne_4_61 t1))
      have q182 : h70 61 1 = h51 61 1 := f72 61 1 (by decide +kernel)
      have q183 : h51 61 1 = h8 61 1 := by rw [← e53]; exact x_up_k (Ne.symm (tne_4_61 t1))
      have q184 : h8 61 1 = h 61 1 := f10 61 1 (by decide +kernel)
      have q185 : h121 ((h 61 1) + 5) 2 = h109 ((h 61 1) + 5) 2 := jK 0 f123 (rg_T5_2_0_1 t1) (by first | decide | omega) (by first | decide | omega) (by decide)
      have q186 : h109 ((h 61 1) + 5) 2 = h70 ((h 61 1) + 5) 2 := by rw [← e111]; exact x_up_k tof_5_4
      have q187 : h70 ((h 61 1) + 5) 2 = h51 ((h 61 1) + 5) 2 := jK 0 f72 (rg_T5_2_0_1 t1) (by first | decide | omega) (by first | decide | omega) (by decide)
      have q188 : h51 ((h 61 1) + 5) 2 = h8 ((h 61 1) + 5) 2 := by rw [← e53]; exact x_up_k tof_5_4
      have e189 : rv h121 4 = (h8 ((h 61 1) + 5) 2) := (congrArg (fun z => svq h121 z 4) ((((q180.trans q181).trans q182).trans q183).trans q184)).trans (((q185.trans q186).trans q187).trans q188)
      have e190 : rv h 5 = (h ((h 61 1) + 7) 2) := (congrArg (fun z => svq h z 5) rfl).trans rfl
      have q191 : h121 61 1 = h109 61 1 := f123 61 1 (by decide +kernel)
      have q192 : h109 61 1 = h70 61 1 := by rw [← e111]; exact x_up_k (Ne.symm (tne_4_61 t1))
      have q193 : h70 61 1 = h51 61 1 := f72 61 1 (by decide +kernel)
      have q194 : h51 61 1 = h8 61 1 := by rw [← e53]; exact x_up_k (Ne.symm (tne_4_61 t1))
      have q195 : h8 61 1 = h 61 1 := f10 61 1 (by decide +kernel)
      have q196 : h121 ((h 61 1) + 7) 2 = h109 ((h 61 1) + 7) 2 := jK 0 f123 (rg_T7_2_0_1 t1) (by first | decide | omega) (by first | decide | omega) (by decide)
      have q197 : h109 ((h 61 1) + 7) 2 = h70 ((h 61 1) + 7) 2 := by rw [← e111]; exact x_up_k tof_7_4
      have q198 : h70 ((h 61 1) + 7) 2 = h51 ((h 61 1) + 7) 2 := jK 0 f72 (rg_T7_2_0_1 t1) (by first | decide | omega) (by first | decide | omega) (by decide)
      have q199 : h51 ((h 61 1) + 7) 2 = h8 ((h 61 1) + 7) 2 := by rw [← e53]; exact x_up_k tof_7_4
      have e200 : rv h121 5 = (h8 ((h 61 1) + 7) 2) := (congrArg (fun z => svq h121 z 5) ((((q191.trans q192).trans q193).trans q194).trans q195)).trans (((q196.trans q197).trans q198).trans q199)
      have q201 : h51 1 2 = h8 1 2 := by rw [← e53]; exact x_up_k (Ne.symm (tne_4_1 t1))
      have q202 : h8 1 2 = h 1 2 := jK 0 f10 rg_1_2_0_1 (by first | decide | omega) (by first | decide | omega) (by decide)
      have q203 : h109 1 2 = h70 1 2 := by rw [← e111]; exact x_up_k (Ne.symm (tne_4_1 t1))
      obtain ⟨w204, e205⟩ := Tk.no c127 (by first | decide | omega)
      have m206 : Ot (h 61 1) h h8 := Ot.trans Ot.refl (c19)
      have m207 : Ot (h 61 1) h h51 := by rw [← e53]; exact Ot.up (o := 4) m206 t1 (by decide) rfl
      have m208 : Ot (h 61 1) h h70 := Ot.fr m207 f72 (by decide)
      have m209 : Ot (h 61 1) h h109 := by rw [← e111]; exact Ot.up (o := 4) m208 t1 (by decide) rfl
      have m210 : Ot (h 61 1) h h121 := Ot.fr m209 f123 (by decide)
      have q211 : h51 1 2 = h8 1 2 := by rw [← e53]; exact x_up_k (Ne.symm (tne_4_1 t1))
      have q212 : h8 1 2 = h 1 2 := jK 0 f10 rg_1_2_0_1 (by first | decide | omega) (by first | decide | omega) (by decide)
      have q213 : h109 1 2 = h70 1 2 := by rw [← e111]; exact x_up_k (Ne.symm (tne_4_1 t1))
      obtain ⟨w214, e215⟩ := Tk.no c127 (by first | decide | omega)
      have q216 : h109 1 2 = h70 1 2 := by rw [← e111]; exact x_up_k (Ne.symm (tne_4_1 t1))
      refine x_retI (np := 129) (x := 0) (by decide +kernel) (by decide) (Or.inr ⟨by decide +kernel, by first | decide | omega, by first | decide | omega⟩) ⟨_, rfl, (by decide), ?_⟩
      exact ⟨j122, f128, (by first | decide | omega), (by first | decide | omega), (by first | decide | omega), (by first | decide | omega), (fun z => by first | decide | omega), (by first | decide | omega), (by first | decide | omega), (nm9.y c77 (by first | decide | omega) (by first | decide | omega) (show h51 1 2 = h 1 2 by first | decide | omega) (by first | decide | omega) rfl (wd9.f w204 (show h109 1 2 = h70 1 2 by first | decide | omega) (by first | decide | omega))), m210, (fun _ => (mF.y c77 (by first | decide | omega) (by first | decide | omega) (show h51 1 2 = h 1 2 by first | decide | omega) (by first | decide | omega) rfl (wF.no w214 (show h109 1 2 = h70 1 2 by first | decide | omega) (show h121 1 2 = h109 1 2 by first | decide | omega))))⟩
    have q134 : ¬ (v116 = 2147483648) := q134
    have b217 := c125 (by first | decide | omega)
    refine x_aload (np := 63) (x := 0) (by decide +kernel) rfl (x_nc_le (by decide)) ?_
    refine x_aload (np := 64) (x := 0) (by decide +kernel) rfl (x_nc_le (by decide)) ?_
    have q218 : h121 61 1 = h109 61 1 := f123 61 1 (by decide +kernel)
    have q219 : h109 61 1 = h70 61 1 := by rw [← e111]; exact x_up_k (Ne.symm (tne_4_61 t1))
    have q220 : h70 61 1 = h51 61 1 := f72 61 1 (by decide +kernel)
    have q221 : h51 61 1 = h8 61 1 := by rw [← e53]; exact x_up_k (Ne.symm (tne_4_61 t1))
    have q222 : h8 61 1 = h 61 1 := f10 61 1 (by decide +kernel)
    refine x_getR (np := 67) (x := 577) (f := 1) (q := (h 61 1)) (by decide +kernel) (by decide) (by decide +kernel) ((((q218.trans q219).trans q220).trans q221).trans q222) ?_
    have q223 : h121 (h 61 1) 1 = ((h 61 1) + 3) := tf_0_1 j122 t1
    refine x_getR (np := 70) (x := 513) (f := 1) (q := ((h 61 1) + 3)) (by decide +kernel) (by decide) (tg_0_513_1_1 t1) q223 ?_
    refine x_iload (np := 71) (x := 1) (by decide +kernel) rfl l6 ?_
    refine x_const (np := 72) (x := 9223372043297226753) (a := 2147483649) (by decide +kernel) (by decide) (by decide) ?_
    refine x_const (np := 73) (x := 9223372039002259456) (a := 2147483648) (by decide +kernel) (by decide) (by decide) ?_
    refine x_const (np := 75) (x := 9223372086246899723) (a := 2147483659) (by decide +kernel) (by decide) (by decide) ?_
    refine x_nI (t := 6) (mj := 102) (n := 6) (rc := 10) (ml := 7) (nr := 0) (np := 78) (as := [x_r 61, x_r ((h 61 1) + 3), iv_c v5, iv_c 2147483649, iv_c 2147483648, iv_c 2147483659]) (rest := []) (lo1 := [x_r 61, x_r ((h 61 1) + 3), iv_c v5, iv_c 2147483649, iv_c 2147483648, iv_c 2147483659, 147573952589676412928]) (by decide +kernel) (by decide) (by decide +kernel) (x_rb_of (by decide +kernel)) rfl rfl (x_wr (by decide) (x_wr (tn_3 t1) (x_wi l6 (x_wi (by decide) (x_wi (by decide) (x_wi (by decide) x_wn)))))) x_wn (by decide) rfl ?_
    refine x_aload (np := 1) (x := 0) (by decide +kernel) rfl (x_nc_le (by decide)) ?_
    have q224 : h121 61 0 = 1 := by have z := jB (e := 0) 0 j122 rg_61_0_0_1 (by decide) (by decide); omega
    refine x_getR (np := 4) (x := 576) (f := 0) (q := 1) (by decide +kernel) (by decide) (by decide +kernel) q224 ?_
    refine x_iload (np := 6) (x := 4) (by decide +kernel) rfl (by decide) ?_
    refine x_iload (np := 8) (x := 5) (by decide +kernel) rfl (by decide) ?_
    have m228 := Tp.fr m119 f123 (by decide) (by decide)
    refine x_cI (t := 6) (mj := 79) (n := 3) (rc := 8) (ml := 5) (nr := 0) (np := 11) (as := [x_r 1, iv_c 2147483648, iv_c 2147483659]) (rest := []) (lo1 := [x_r 1, iv_c 2147483648, iv_c 2147483659, 147573952589676412928, 147573952589676412928]) (by decide +kernel) (by decide) (by decide +kernel) (x_rb_of (by decide +kernel)) rfl rfl (x_wr (by decide) (x_wi (by decide) (x_wi (by decide) x_wn))) x_wn (by decide) rfl (c79_1_c0 j122   (by first | decide | omega) m228) (fun v225 h229 l226 q227 => ?_)
    obtain ⟨j230, f231, b232, c233, c234, c235, c236⟩ := q227
    have f237 := Fr.trans f128 f231 (by decide)
    have b238 := jB (e := 2) 0 j230 rg_1_2_0_1 (by first | decide | omega) (by first | decide | omega)
    refine x_istore (np := 13) (x := 6) (lo' := [x_r 61, x_r ((h 61 1) + 3), iv_c v5, iv_c 2147483649, iv_c 2147483648, iv_c 2147483659, iv_c v225]) (by decide +kernel) l226 (Nat.le_of_ble_eq_true rfl) rfl ?_
    refine x_iload (np := 15) (x := 6) (by decide +kernel) rfl l226 ?_
    refine x_const (np := 16) (x := 9223372034707292159) (a := 2147483647) (by decide +kernel) (by decide) (by decide) ?_
    refine x_icmp (k := 1) (tg := 21) (np := 19) (by decide +kernel) (by decide) l226 (by decide) (fun q239 => ?_) (fun q240 => ?_)
    · have q239 : v225 ≠ 2147483647 := q239
      have b241 := c234 (by first | decide | omega)
      refine x_aload (np := 22) (x := 1) (by decide +kernel) rfl (x_nc_le (tn_3 t1)) ?_
      refine x_iload (np := 23) (x := 2) (by decide +kernel) rfl l6 ?_
      refine x_iload (np := 24) (x := 3) (by decide +kernel) rfl (by decide) ?_
      refine x_iload (np := 26) (x := 6) (by decide +kernel) rfl l226 ?_
      refine x_nV (t := 6) (mj := 69) (n := 4) (rc := 7) (ml := 5) (nr := 0) (np := 29) (as := [x_r ((h 61 1) + 3), iv_c v5, iv_c 2147483649, iv_c v225]) (rest := []) (lo1 := [x_r ((h 61 1) + 3), iv_c v5, iv_c 2147483649, iv_c v225, 147573952589676412928]) (by decide +kernel) (by decide) (by decide +kernel) (x_rb_of (tr_3_7 t1)) rfl rfl (x_wr (tn_3 t1) (x_wi l6 (x_wi (by decide) (x_wi l226 x_wn)))) x_wn (by decide) rfl ?_
      refine x_iload (np := 1) (x := 1) (by decide +kernel) rfl l6 ?_
      refine x_ifz (k := 2) (tg := 28) (np := 4) (by decide +kernel) (by decide) l6 (fun q242 => ?_) (fun q243 => ?_)
      · have q242 : v5 < 2147483648 := q242
        exfalso; omega
      have q243 : ¬ (v5 < 2147483648) := q243
      refine x_iload (np := 5) (x := 1) (by decide +kernel) rfl l6 ?_
      refine x_aload (np := 6) (x := 0) (by decide +kernel) rfl (x_nc_le (tn_3 t1)) ?_
      have q244 : h229 ((h 61 1) + 3) 2 = h121 ((h 61 1) + 3) 2 := jK 0 f231 (rg_T3_2_0_1 t1) (by first | decide | omega) (by first | decide | omega) (by decide)
      have q245 : h121 ((h 61 1) + 3) 2 = h109 ((h 61 1) + 3) 2 := jK 0 f123 (rg_T3_2_0_1 t1) (by first | decide | omega) (by first | decide | omega) (by decide)
      have q246 : h109 ((h 61 1) + 3) 2 = h70 ((h 61 1) + 3) 2 := by rw [← e111]; exact x_up_k tof_3_4
      have q247 : h70 ((h 61 1) + 3) 2 = h51 ((h 61 1) + 3) 2 := jK 0 f72 (rg_T3_2_0_1 t1) (by first | decide | omega) (by first | decide | omega) (by decide)
      have q248 : h51 ((h 61 1) + 3) 2 = h8 ((h 61 1) + 3) 2 := by rw [← e53]; exact x_up_k tof_3_4
      refine x_getC (np := 9) (x := 386) (f := 2) (q := (h8 ((h 61 1) + 3) 2)) (by decide +kernel) (by decide) (tg_3_386_2_0 t1) ((((q244.trans q245).trans q246).trans q247).trans q248) (fun l249 => ?_)
      refine x_icmp (k := 3) (tg := 28) (np := 12) (by decide +kernel) (by decide) l6 l34 (fun q250 => ?_) (fun q251 => ?_)
      · have q250 : (h8 ((h 61 1) + 3) 2) ≤ v5 := q250
        exfalso; omega
      have q251 : ¬ ((h8 ((h 61 1) + 3) 2) ≤ v5) := q251
      refine x_iload (np := 13) (x := 2) (by decide +kernel) rfl (by decide) ?_
      refine x_ifz (k := 2) (tg := 28) (np := 16) (by decide +kernel) (by decide) (by decide) (fun q252 => ?_) (fun q253 => ?_)
      · have q252 : 2147483649 < 2147483648 := q252
        exfalso; omega
      have q253 : ¬ (2147483649 < 2147483648) := q253
      refine x_iload (np := 17) (x := 2) (by decide +kernel) rfl (by decide) ?_
      refine x_aload (np := 18) (x := 0) (by decide +kernel) rfl (x_nc_le (tn_3 t1)) ?_
      have q254 : h229 ((h 61 1) + 3) 0 = h121 ((h 61 1) + 3) 0 := jK 0 f231 (rg_T3_0_0_1 t1) (by first | decide | omega) (by first | decide | omega) (by decide)
      have q255 : h121 ((h 61 1) + 3) 0 = h109 ((h 61 1) + 3) 0 := jK 0 f123 (rg_T3_0_0_1 t1) (by first | decide | omega) (by first | decide | omega) (by decide)
      have q256 : h109 ((h 61 1) + 3) 0 = h70 ((h 61 1) + 3) 0 := by rw [← e111]; exact x_up_k tof_3_4
      have q257 : h70 ((h 61 1) + 3) 0 = h51 ((h 61 1) + 3) 0 := jK 0 f72 (rg_T3_0_0_1 t1) (by first | decide | omega) (by first | decide | omega) (by decide)
      have q258 : h51 ((h 61 1) + 3) 0 = h8 ((h 61 1) + 3) 0 := by rw [← e53]; exact x_up_k tof_3_4
      refine x_getC (np := 21) (x := 384) (f := 0) (q := 2147483652) (by decide +kernel) (by decide) (tg_3_384_0_0 t1) (((((q254.trans q255).trans q256).trans q257).trans q258).trans q40) (fun l259 => ?_)
      refine x_icmp (k := 3) (tg := 28) (np := 24) (by decide +kernel) (by decide) (by decide) (by decide) (fun q260 => ?_) (fun q261 => ?_)
      · have q260 : 2147483652 ≤ 2147483649 := q260
        exfalso; omega
      have q261 : ¬ (2147483652 ≤ 2147483649) := q261
      refine x_const (np := 25) (x := 9223372043297226753) (a := 2147483649) (by decide +kernel) (by decide) (by decide) ?_
      refine x_goto (np := 28) (x := 29) (by decide +kernel) ?_
      refine x_istore (np := 31) (x := 4) (lo' := [x_r ((h 61 1) + 3), iv_c v5, iv_c 2147483649, iv_c v225, iv_c 2147483649]) (by decide +kernel) (by decide) (Nat.le_of_ble_eq_true rfl) rfl ?_
      refine x_iload (np := 33) (x := 4) (by decide +kernel) rfl (by decide) ?_
      refine x_ifz (k := 0) (tg := 50) (np := 36) (by decide +kernel) (by decide) (by decide) (fun q262 => ?_) (fun q263 => ?_)
      · have q262 : 2147483649 = 2147483648 := q262
        exfalso; omega
      have q263 : ¬ (2147483649 = 2147483648) := q263
      refine x_aload (np := 37) (x := 0) (by decide +kernel) rfl (x_nc_le (tn_3 t1)) ?_
      have q264 : h229 ((h 61 1) + 3) 1 = ((h 61 1) + 4) := tf_3_1 j230 t1
      refine x_getR (np := 40) (x := 385) (f := 1) (q := ((h 61 1) + 4)) (by decide +kernel) (by decide) (tg_3_385_1_1 t1) q264 ?_
      refine x_iload (np := 41) (x := 1) (by decide +kernel) rfl l6 ?_
      refine x_aload (np := 42) (x := 0) (by decide +kernel) rfl (x_nc_le (tn_3 t1)) ?_
      have q265 : h229 ((h 61 1) + 3) 0 = h121 ((h 61 1) + 3) 0 := jK 0 f231 (rg_T3_0_0_1 t1) (by first | decide | omega) (by first | decide | omega) (by decide)
      have q266 : h121 ((h 61 1) + 3) 0 = h109 ((h 61 1) + 3) 0 := jK 0 f123 (rg_T3_0_0_1 t1) (by first | decide | omega) (by first | decide | omega) (by decide)
      have q267 : h109 ((h 61 1) + 3) 0 = h70 ((h 61 1) + 3) 0 := by rw [← e111]; exact x_up_k tof_3_4
      have q268 : h70 ((h 61 1) + 3) 0 = h51 ((h 61 1) + 3) 0 := jK 0 f72 (rg_T3_0_0_1 t1) (by first | decide | omega) (by first | decide | omega) (by decide)
      have q269 : h51 ((h 61 1) + 3) 0 = h8 ((h 61 1) + 3) 0 := by rw [← e53]; exact x_up_k tof_3_4
      refine x_getC (np := 45) (x := 384) (f := 0) (q := 2147483652) (by decide +kernel) (by decide) (tg_3_384_0_0 t1) (((((q265.trans q266).trans q267).trans q268).trans q269).trans q40) (fun l270 => ?_)
      refine x_imul (np := 46) (x := 0) (i := u48) (j := 4) (v := (2147483648 + 4 * u48)) (by decide +kernel) (by first | decide | omega) (by first | decide | omega) (by first | decide | omega) (by first | decide | omega) l6 (by decide) ?_
      refine x_iload (np := 47) (x := 2) (by decide +kernel) rfl (by decide) ?_
      refine x_iadd (np := 48) (x := 0) (v := (2147483649 + 4 * u48)) (by decide +kernel) (by first | decide | omega) (by decide) (by first | decide | omega) (by first | decide | omega) ?_
      refine x_iload (np := 49) (x := 3) (by decide +kernel) rfl l226 ?_
      refine x_ast (np := 50) (x := 0) (kd := 1) (n := 40) (i := (1 + 4 * u48)) (by decide +kernel) (Or.inl rfl) (ta_4_40 t1) (by first | decide | omega) (by first | decide | omega) (by decide) l226 (fun z => absurd z (by decide)) ?_
      have j273 := jU (e := (1 + 4 * u48)) (v := v225) u48 j230 (rg_T4_1_4_10 t1) (by first | decide | omega) (by first | decide | omega) (by first | decide | omega)
      have f275 := jF (e := (1 + 4 * u48)) (v := v225) u48 f237 (rg_T4_1_4_10 t1) (by first | decide | omega) (by first | decide | omega) (by decide)
      generalize e274 : x_up h229 ((h 61 1) + 4) (1 + 4 * u48) v225 = h272 at j273 f275 ⊢
      refine x_retV (np := 51) (x := 0) (by decide +kernel) (by decide +kernel) ⟨rfl, ?_⟩
      refine x_const (np := 30) (x := 9223372043297226753) (a := 2147483649) (by decide +kernel) (by decide) (by decide) ?_
      refine x_retI (np := 31) (x := 0) (by decide +kernel) (by decide) (Or.inr ⟨by decide +kernel, by first | decide | omega, by first | decide | omega⟩) ⟨_, rfl, (by decide), ?_⟩
      refine x_ifz (k := 0) (tg := 127) (np := 81) (by decide +kernel) (by decide) (by decide) (fun q276 => ?_) (fun q277 => ?_)
      · have q276 : 2147483649 = 2147483648 := q276
        exfalso; omega
      have q277 : ¬ (2147483649 = 2147483648) := q277
      refine x_aload (np := 82) (x := 0) (by decide +kernel) rfl (x_nc_le (by decide)) ?_
      have q278 : h272 61 0 = 1 := by have z := jB (e := 0) 0 j273 rg_61_0_0_1 (by decide) (by decide); omega
      refine x_getR (np := 85) (x := 576) (f := 0) (q := 1) (by decide +kernel) (by decide) (by decide +kernel) q278 ?_
      refine x_ldcB (i := 7) (idx := 144) (tx := "read") (by rw [tb_y98]; exact List.mem_of_getElem? (i := 7) rfl) (by decide) (by rw [tb_b98]; decide +kernel) ?_
      have m283 := Tp.fr m228 f231 (by decide) (by decide)
      have m282 : Tp tB tN h272 := by rw [← e274]; exact Tp.oth m283 (tne_4_2 t1) (fun z => absurd z.1 (tne_4_1 t1))
      refine x_cI (t := 6) (mj := 78) (n := 2) (rc := 8) (ml := 2) (nr := 0) (np := 90) (as := [x_r 1, x_b (7 + 1)]) (rest := []) (lo1 := [x_r 1, x_b (7 + 1)]) (by decide +kernel) (by decide) (by decide +kernel) (x_rb_of (by decide +kernel)) rfl rfl (x_wr (by decide) (x_wB (by decide) x_wn)) x_wn (by decide) rfl (c78_1_S0 j273  (by decide) m282) (fun v279 h284 l280 q281 => ?_)
      obtain ⟨j285, f286, b287, c288, c289, c290⟩ := q281
      have f291 := Fr.trans f275 f286 (by decide)
      have q292 : h272 1 2 = h229 1 2 := by rw [← e274]; exact x_up_k (Ne.symm (tne_4_1 t1))
      have b293 := jB (e := 2) 0 j285 rg_1_2_0_1 (by first | decide | omega) (by first | decide | omega)
      have b294 : iv_tl 7 = 4 := by decide
      have q295 : h272 1 2 = h229 1 2 := by rw [← e274]; exact x_up_k (Ne.symm (tne_4_1 t1))
      refine x_ifz (k := 0) (tg := 127) (np := 93) (by decide +kernel) (by decide) l280 (fun q296 => ?_) (fun q297 => ?_)
      · have q296 : v279 = 2147483648 := q296
        have b298 := c289 (by first | decide | omega)
        refine x_const (np := 128) (x := 9223372039002259456) (a := 2147483648) (by decide +kernel) (by decide) (by decide) ?_
        have e299 : rv h 0 = (h (h 61 1) 7) := (congrArg (fun z => svq h z 0) rfl).trans rfl
        have q300 : h284 61 1 = h272 61 1 := f286 61 1 (by decide +kernel)
        have q301 : h272 61 1 = h229 61 1 := by rw [← e274]; exact x_up_k (Ne.symm (tne_4_61 t1))
        have q302 : h229 61 1 = h121 61 1 := f231 61 1 (by decide +kernel)
        have q303 : h121 61 1 = h109 61 1 := f123 61 1 (by decide +kernel)
        have q304 : h109 61 1 = h70 61 1 := by rw [← e111]; exact x_up_k (Ne.symm (tne_4_61 t1))
        have q305 : h70 61 1 = h51 61 1 := f72 61 1 (by decide +kernel)
        have q306 : h51 61 1 = h8 61 1 := by rw [← e53]; exact x_up_k (Ne.symm (tne_4_61 t1))
        have q307 : h8 61 1 = h 61 1 := f10 61 1 (by decide +kernel)
        have q308 : h284 (h 61 1) 7 = h272 (h 61 1) 7 := jK 0 f286 (rg_T0_7_0_1 t1) (by first | decide | omega) (by first | decide | omega) (by decide)
        have q309 : h272 (h 61 1) 7 = h229 (h 61 1) 7 := by rw [← e274]; exact x_up_k tof_0_4
        have q310 : h229 (h 61 1) 7 = h121 (h 61 1) 7 := jK 0 f231 (rg_T0_7_0_1 t1) (by first | decide | omega) (by first | decide | omega) (by decide)
        have q311 : h121 (h 61 1) 7 = h109 (h 61 1) 7 := jK 0 f123 (rg_T0_7_0_1 t1) (by first | decide | omega) (by first | decide | omega) (by decide)
        have q312 : h109 (h 61 1) 7 = h70 (h 61 1) 7 := by rw [← e111]; exact x_up_k tof_0_4
        have q313 : h70 (h 61 1) 7 = h51 (h 61 1) 7 := jK 0 f72 (rg_T0_7_0_1 t1) (by first | decide | omega) (by first | decide | omega) (by decide)
        have q314 : h51 (h 61 1) 7 = h8 (h 61 1) 7 := by rw [← e53]; exact x_up_k tof_0_4
        have e315 : rv h284 0 = (h8 (h 61 1) 7) := (congrArg (fun z => svq h284 z 0) (((((((q300.trans q301).trans q302).trans q303).trans q304).trans q305).trans q306).trans q307)).trans ((((((q308.trans q309).trans q310).trans q311).trans q312).trans q313).trans q314)
        have e316 : rv h 1 = (h (h 61 1) 8) := (congrArg (fun z => svq h z 1) rfl).trans rfl
        have q317 : h284 61 1 = h272 61 1 := f286 61 1 (by decide +kernel)
        have q318 : h272 61 1 = h229 61 1 := by rw [← e274]; exact x_up_k (Ne.symm (tne_4_61 t1))
        have q319 : h229 61 1 = h121 61 1 := f231 61 1 (by decide +kernel)
        have q320 : h121 61 1 = h109 61 1 := f123 61 1 (by decide +kernel)
        have q321 : h109 61 1 = h70 61 1 := by rw [← e111]; exact x_up_k (Ne.symm (tne_4_61 t1))
        have q322 : h70 61 1 = h51 61 1 := f72 61 1 (by decide +kernel)
        have q323 : h51 61 1 = h8 61 1 := by rw [← e53]; exact x_up_k (Ne.symm (tne_4_61 t1))
        have q324 : h8 61 1 = h 61 1 := f10 61 1 (by decide +kernel)
        have q325 : h284 (h 61 1) 8 = h272 (h 61 1) 8 := jK 0 f286 (rg_T0_8_0_1 t1) (by first | decide | omega) (by first | decide | omega) (by decide)
        have q326 : h272 (h 61 1) 8 = h229 (h 61 1) 8 := by rw [← e274]; exact x_up_k tof_0_4
        have q327 : h229 (h 61 1) 8 = h121 (h 61 1) 8 := jK 0 f231 (rg_T0_8_0_1 t1) (by first | decide | omega) (by first | decide | omega) (by decide)
        have q328 : h121 (h 61 1) 8 = h109 (h 61 1) 8 := jK 0 f123 (rg_T0_8_0_1 t1) (by first | decide | omega) (by first | decide | omega) (by decide)
        have q329 : h109 (h 61 1) 8 = h70 (h 61 1) 8 := by rw [← e111]; exact x_up_k tof_0_4
        have q330 : h70 (h 61 1) 8 = h51 (h 61 1) 8 := jK 0 f72 (rg_T0_8_0_1 t1) (by first | decide | omega) (by first | decide | omega) (by decide)
        have q331 : h51 (h 61 1) 8 = h8 (h 61 1) 8 := by rw [← e53]; exact x_up_k tof_0_4
        have e332 : rv h284 1 = (h8 (h 61 1) 8) := (congrArg (fun z => svq h284 z 1) (((((((q317.trans q318).trans q319).trans q320).trans q321).trans q322).trans q323).trans q324)).trans ((((((q325.trans q326).trans q327).trans q328).trans q329).trans q330).trans q331)
        have e333 : rv h 2 = (h ((h 61 1) + 1) 2) := (congrArg (fun z => svq h z 2) rfl).trans rfl
        have q334 : h284 61 1 = h272 61 1 := f286 61 1 (by decide +kernel)
        have q335 : h272 61 1 = h229 61 1 := by rw [← e274]; exact x_up_k (Ne.symm (tne_4_61 t1))
        have q336 : h229 61 1 = h121 61 1 := f231 61 1 (by decide +kernel)
        have q337 : h121 61 1 = h109 61 1 := f123 61 1 (by decide +kernel)
        have q338 : h109 61 1 = h70 61 1 := by rw [← e111]; exact x_up_k (Ne.symm (tne_4_61 t1))
        have q339 : h70 61 1 = h51 61 1 := f72 61 1 (by decide +kernel)
        have q340 : h51 61 1 = h8 61 1 := by rw [← e53]; exact x_up_k (Ne.symm (tne_4_61 t1))
        have q341 : h8 61 1 = h 61 1 := f10 61 1 (by decide +kernel)
        have q342 : h284 ((h 61 1) + 1) 2 = h272 ((h 61 1) + 1) 2 := jK 0 f286 (rg_T1_2_0_1 t1) (by first | decide | omega) (by first | decide | omega) (by decide)
        have q343 : h272 ((h 61 1) + 1) 2 = h229 ((h 61 1) + 1) 2 := by rw [← e274]; exact x_up_k tof_1_4
        have q344 : h229 ((h 61 1) + 1) 2 = h121 ((h 61 1) + 1) 2 := jK 0 f231 (rg_T1_2_0_1 t1) (by first | decide | omega) (by first | decide | omega) (by decide)
        have q345 : h121 ((h 61 1) + 1) 2 = h109 ((h 61 1) + 1) 2 := jK 0 f123 (rg_T1_2_0_1 t1) (by first | decide | omega) (by first | decide | omega) (by decide)
        have q346 : h109 ((h 61 1) + 1) 2 = h70 ((h 61 1) + 1) 2 := by rw [← e111]; exact x_up_k tof_1_4
        have q347 : h70 ((h 61 1) + 1) 2 = h51 ((h 61 1) + 1) 2 := jK 0 f72 (rg_T1_2_0_1 t1) (by first | decide | omega) (by first | decide | omega) (by decide)
        have q348 : h51 ((h 61 1) + 1) 2 = h8 ((h 61 1) + 1) 2 := by rw [← e53]; exact x_up_k tof_1_4
        have e349 : rv h284 2 = (h8 ((h 61 1) + 1) 2) := (congrArg (fun z => svq h284 z 2) (((((((q334.trans q335).trans q336).trans q337).trans q338).trans q339).trans q340).trans q341)).trans ((((((q342.trans q343).trans q344).trans q345).trans q346).trans q347).trans q348)
        have q350 : h284 61 1 = h272 61 1 := f286 61 1 (by decide +kernel)
        have q351 : h272 61 1 = h229 61 1 := by rw [← e274]; exact x_up_k (Ne.symm (tne_4_61 t1))
        have q352 : h229 61 1 = h121 61 1 := f231 61 1 (by decide +kernel)
        have q353 : h121 61 1 = h109 61 1 := f123 61 1 (by decide +kernel)
        have q354 : h109 61 1 = h70 61 1 := by rw [← e111]; exact x_up_k (Ne.symm (tne_4_61 t1))
        have q355 : h70 61 1 = h51 61 1 := f72 61 1 (by decide +kernel)
        have q356 : h51 61 1 = h8 61 1 := by rw [← e53]; exact x_up_k (Ne.symm (tne_4_61 t1))
        have q357 : h8 61 1 = h 61 1 := f10 61 1 (by decide +kernel)
        have q358 : h284 ((h 61 1) + 3) 2 = h272 ((h 61 1) + 3) 2 := jK 0 f286 (rg_T3_2_0_1 t1) (by first | decide | omega) (by first | decide | omega) (by decide)
        have q359 : h272 ((h 61 1) + 3) 2 = h229 ((h 61 1) + 3) 2 := by rw [← e274]; exact x_up_k tof_3_4
        have q360 : h229 ((h 61 1) + 3) 2 = h121 ((h 61 1) + 3) 2 := jK 0 f231 (rg_T3_2_0_1 t1) (by first | decide | omega) (by first | decide | omega) (by decide)
        have q361 : h121 ((h 61 1) + 3) 2 = h109 ((h 61 1) + 3) 2 := jK 0 f123 (rg_T3_2_0_1 t1) (by first | decide | omega) (by first | decide | omega) (by decide)
        have q362 : h109 ((h 61 1) + 3) 2 = h70 ((h 61 1) + 3) 2 := by rw [← e111]; exact x_up_k tof_3_4
        have q363 : h70 ((h 61 1) + 3) 2 = h51 ((h 61 1) + 3) 2 := jK 0 f72 (rg_T3_2_0_1 t1) (by first | decide | omega) (by first | decide | omega) (by decide)
        have q364 : h51 ((h 61 1) + 3) 2 = h8 ((h 61 1) + 3) 2 := by rw [← e53]; exact x_up_k tof_3_4
        have e365 : rv h284 3 = (h8 ((h 61 1) + 3) 2) := (congrArg (fun z => svq h284 z 3) (((((((q350.trans q351).trans q352).trans q353).trans q354).trans q355).trans q356).trans q357)).trans ((((((q358.trans q359).trans q360).trans q361).trans q362).trans q363).trans q364)
        have e366 : rv h 4 = (h ((h 61 1) + 5) 2) := (congrArg (fun z => svq h z 4) rfl).trans rfl
        have q367 : h284 61 1 = h272 61 1 := f286 61 1 (by decide +kernel)
        have q368 : h272 61 1 = h229 61 1 := by rw [← e274]; exact x_up_k (Ne.symm (tne_4_61 t1))
        have q369 : h229 61 1 = h121 61 1 := f231 61 1 (by decide +kernel)
        have q370 : h121 61 1 = h109 61 1 := f123 61 1 (by decide +kernel)
        have q371 : h109 61 1 = h70 61 1 := by rw [← e111]; exact x_up_k (Ne.symm (tne_4_61 t1))
        have q372 : h70 61 1 = h51 61 1 := f72 61 1 (by decide +kernel)
        have q373 : h51 61 1 = h8 61 1 := by rw [← e53]; exact x_up_k (Ne.symm (tne_4_61 t1))
        have q374 : h8 61 1 = h 61 1 := f10 61 1 (by decide +kernel)
        have q375 : h284 ((h 61 1) + 5) 2 = h272 ((h 61 1) + 5) 2 := jK 0 f286 (rg_T5_2_0_1 t1) (by first | decide | omega) (by first | decide | omega) (by decide)
        have q376 : h272 ((h 61 1) + 5) 2 = h229 ((h 61 1) + 5) 2 := by rw [← e274]; exact x_up_k tof_5_4
        have q377 : h229 ((h 61 1) + 5) 2 = h121 ((h 61 1) + 5) 2 := jK 0 f231 (rg_T5_2_0_1 t1) (by first | decide | omega) (by first | decide | omega) (by decide)
        have q378 : h121 ((h 61 1) + 5) 2 = h109 ((h 61 1) + 5) 2 := jK 0 f123 (rg_T5_2_0_1 t1) (by first | decide | omega) (by first | decide | omega) (by decide)
        have q379 : h109 ((h 61 1) + 5) 2 = h70 ((h 61 1) + 5) 2 := by rw [← e111]; exact x_up_k tof_5_4
        have q380 : h70 ((h 61 1) + 5) 2 = h51 ((h 61 1) + 5) 2 := jK 0 f72 (rg_T5_2_0_1 t1) (by first | decide | omega) (by first | decide | omega) (by decide)
        have q381 : h51 ((h 61 1) + 5) 2 = h8 ((h 61 1) + 5) 2 := by rw [← e53]; exact x_up_k tof_5_4
        have e382 : rv h284 4 = (h8 ((h 61 1) + 5) 2) := (congrArg (fun z => svq h284 z 4) (((((((q367.trans q368).trans q369).trans q370).trans q371).trans q372).trans q373).trans q374)).trans ((((((q375.trans q376).trans q377).trans q378).trans q379).trans q380).trans q381)
        have e383 : rv h 5 = (h ((h 61 1) + 7) 2) := (congrArg (fun z => svq h z 5) rfl).trans rfl
        have q384 : h284 61 1 = h272 61 1 := f286 61 1 (by decide +kernel)
        have q385 : h272 61 1 = h229 61 1 := by rw [← e274]; exact x_up_k (Ne.symm (tne_4_61 t1))
        have q386 : h229 61 1 = h121 61 1 := f231 61 1 (by decide +kernel)
        have q387 : h121 61 1 = h109 61 1 := f123 61 1 (by decide +kernel)
        have q388 : h109 61 1 = h70 61 1 := by rw [← e111]; exact x_up_k (Ne.symm (tne_4_61 t1))
        have q389 : h70 61 1 = h51 61 1 := f72 61 1 (by decide +kernel)
        have q390 : h51 61 1 = h8 61 1 := by rw [← e53]; exact x_up_k (Ne.symm (tne_4_61 t1))
        have q391 : h8 61 1 = h 61 1 := f10 61 1 (by decide +kernel)
        have q392 : h284 ((h 61 1) + 7) 2 = h272 ((h 61 1) + 7) 2 := jK 0 f286 (rg_T7_2_0_1 t1) (by first | decide | omega) (by first | decide | omega) (by decide)
        have q393 : h272 ((h 61 1) + 7) 2 = h229 ((h 61 1) + 7) 2 := by rw [← e274]; exact x_up_k tof_7_4
        have q394 : h229 ((h 61 1) + 7) 2 = h121 ((h 61 1) + 7) 2 := jK 0 f231 (rg_T7_2_0_1 t1) (by first | decide | omega) (by first | decide | omega) (by decide)
        have q395 : h121 ((h 61 1) + 7) 2 = h109 ((h 61 1) + 7) 2 := jK 0 f123 (rg_T7_2_0_1 t1) (by first | decide | omega) (by first | decide | omega) (by decide)
        have q396 : h109 ((h 61 1) + 7) 2 = h70 ((h 61 1) + 7) 2 := by rw [← e111]; exact x_up_k tof_7_4
        have q397 : h70 ((h 61 1) + 7) 2 = h51 ((h 61 1) + 7) 2 := jK 0 f72 (rg_T7_2_0_1 t1) (by first | decide | omega) (by first | decide | omega) (by decide)
        have q398 : h51 ((h 61 1) + 7) 2 = h8 ((h 61 1) + 7) 2 := by rw [← e53]; exact x_up_k tof_7_4
        have e399 : rv h284 5 = (h8 ((h 61 1) + 7) 2) := (congrArg (fun z => svq h284 z 5) (((((((q384.trans q385).trans q386).trans q387).trans q388).trans q389).trans q390).trans q391)).trans ((((((q392.trans q393).trans q394).trans q395).trans q396).trans q397).trans q398)
        have q400 : h51 1 2 = h8 1 2 := by rw [← e53]; exact x_up_k (Ne.symm (tne_4_1 t1))
        have q401 : h8 1 2 = h 1 2 := jK 0 f10 rg_1_2_0_1 (by first | decide | omega) (by first | decide | omega) (by decide)
        have q402 : h109 1 2 = h70 1 2 := by rw [← e111]; exact x_up_k (Ne.symm (tne_4_1 t1))
        obtain ⟨w403, e404⟩ := Tk.yes c127 (by first | decide | omega)
        have q405 : h272 1 2 = h229 1 2 := by rw [← e274]; exact x_up_k (Ne.symm (tne_4_1 t1))
        obtain ⟨w406, e407⟩ := Tk.no c290 (by first | decide | omega)
        have m408 : Ot (h 61 1) h h8 := Ot.trans Ot.refl (c19)
        have m409 : Ot (h 61 1) h h51 := by rw [← e53]; exact Ot.up (o := 4) m408 t1 (by decide) rfl
        have m410 : Ot (h 61 1) h h70 := Ot.fr m409 f72 (by decide)
        have m411 : Ot (h 61 1) h h109 := by rw [← e111]; exact Ot.up (o := 4) m410 t1 (by decide) rfl
        have m412 : Ot (h 61 1) h h121 := Ot.fr m411 f123 (by decide)
        have m413 : Ot (h 61 1) h h229 := Ot.fr m412 f231 (by decide)
        have m414 : Ot (h 61 1) h h272 := by rw [← e274]; exact Ot.up (o := 4) m413 t1 (by decide) rfl
        have m415 : Ot (h 61 1) h h284 := Ot.fr m414 f286 (by decide)
        have q416 : h51 1 2 = h8 1 2 := by rw [← e53]; exact x_up_k (Ne.symm (tne_4_1 t1))
        have q417 : h8 1 2 = h 1 2 := jK 0 f10 rg_1_2_0_1 (by first | decide | omega) (by first | decide | omega) (by decide)
        have q418 : h109 1 2 = h70 1 2 := by rw [← e111]; exact x_up_k (Ne.symm (tne_4_1 t1))
        obtain ⟨w419, e420⟩ := Tk.yes c127 (by first | decide | omega)
        have q421 : h272 1 2 = h229 1 2 := by rw [← e274]; exact x_up_k (Ne.symm (tne_4_1 t1))
        obtain ⟨w422, e423⟩ := Tk.no c290 (by first | decide | omega)
        have q424 : h272 1 2 = h229 1 2 := by rw [← e274]; exact x_up_k (Ne.symm (tne_4_1 t1))
        refine x_retI (np := 129) (x := 0) (by decide +kernel) (by decide) (Or.inr ⟨by decide +kernel, by first | decide | omega, by first | decide | omega⟩) ⟨_, rfl, (by decide), ?_⟩
        exact ⟨j285, f291, (by first | decide | omega), (by first | decide | omega), (by first | decide | omega), (by first | decide | omega), (fun z => by first | decide | omega), (by first | decide | omega), (by first | decide | omega), (nm9.y c77 (by first | decide | omega) (by first | decide | omega) (show h51 1 2 = h 1 2 by first | decide | omega) (by first | decide | omega) rfl (wd9.y w403 (show h109 1 2 = h70 1 2 by first | decide | omega) e404 rfl (nm9.y c236 (by first | decide | omega) (by first | decide | omega) rfl (by first | decide | omega) rfl (wd9.f w406 (show h272 1 2 = h229 1 2 by first | decide | omega) (by first | decide | omega))))), m415, (fun _ => (mF.y c77 (by first | decide | omega) (by first | decide | omega) (show h51 1 2 = h 1 2 by first | decide | omega) (by first | decide | omega) rfl (wF.y w419 (show h109 1 2 = h70 1 2 by first | decide | omega) e420 rfl (mF.y c236 (by first | decide | omega) (by first | decide | omega) rfl (by first | decide | omega) rfl (wF.no w422 (show h272 1 2 = h229 1 2 by first | decide | omega) (show h284 1 2 = h272 1 2 by first | decide | omega))))))⟩
      have q297 : ¬ (v279 = 2147483648) := q297
      have b425 := c288 (by first | decide | omega)
      refine x_aload (np := 94) (x := 0) (by decide +kernel) rfl (x_nc_le (by decide)) ?_
      refine x_aload (np := 95) (x := 0) (by decide +kernel) rfl (x_nc_le (by decide)) ?_
      have q426 : h284 61 1 = h272 61 1 := f286 61 1 (by decide +kernel)
      have q427 : h272 61 1 = h229 61 1 := by rw [← e274]; exact x_up_k (Ne.symm (tne_4_61 t1))
      have q428 : h229 61 1 = h121 61 1 := f231 61 1 (by decide +kernel)
      have q429 : h121 61 1 = h109 61 1 := f123 61 1 (by decide +kernel)
      have q430 : h109 61 1 = h70 61 1 := by rw [← e111]; exact x_up_k (Ne.symm (tne_4_61 t1))
      have q431 : h70 61 1 = h51 61 1 := f72 61 1 (by decide +kernel)
      have q432 : h51 61 1 = h8 61 1 := by rw [← e53]; exact x_up_k (Ne.symm (tne_4_61 t1))
      have q433 : h8 61 1 = h 61 1 := f10 61 1 (by decide +kernel)
      refine x_getR (np := 98) (x := 577) (f := 1) (q := (h 61 1)) (by decide +kernel) (by decide) (by decide +kernel) (((((((q426.trans q427).trans q428).trans q429).trans q430).trans q431).trans q432).trans q433) ?_
      have q434 : h284 (h 61 1) 1 = ((h 61 1) + 3) := tf_0_1 j285 t1
      refine x_getR (np := 101) (x := 513) (f := 1) (q := ((h 61 1) + 3)) (by decide +kernel) (by decide) (tg_0_513_1_1 t1) q434 ?_
      refine x_iload (np := 102) (x := 1) (by decide +kernel) rfl l6 ?_
      refine x_const (np := 103) (x := 9223372047592194050) (a := 2147483650) (by decide +kernel) (by decide) (by decide) ?_
      refine x_aload (np := 104) (x := 0) (by decide +kernel) rfl (x_nc_le (by decide)) ?_
      have q435 : h284 61 1 = h272 61 1 := f286 61 1 (by decide +kernel)
      have q436 : h272 61 1 = h229 61 1 := by rw [← e274]; exact x_up_k (Ne.symm (tne_4_61 t1))
      have q437 : h229 61 1 = h121 61 1 := f231 61 1 (by decide +kernel)
      have q438 : h121 61 1 = h109 61 1 := f123 61 1 (by decide +kernel)
      have q439 : h109 61 1 = h70 61 1 := by rw [← e111]; exact x_up_k (Ne.symm (tne_4_61 t1))
      have q440 : h70 61 1 = h51 61 1 := f72 61 1 (by decide +kernel)
      have q441 : h51 61 1 = h8 61 1 := by rw [← e53]; exact x_up_k (Ne.symm (tne_4_61 t1))
      have q442 : h8 61 1 = h 61 1 := f10 61 1 (by decide +kernel)
      refine x_getR (np := 107) (x := 577) (f := 1) (q := (h 61 1)) (by decide +kernel) (by decide) (by decide +kernel) (((((((q435.trans q436).trans q437).trans q438).trans q439).trans q440).trans q441).trans q442) ?_
      have q443 : h284 (h 61 1) 1 = ((h 61 1) + 3) := tf_0_1 j285 t1
      refine x_getR (np := 110) (x := 513) (f := 1) (q := ((h 61 1) + 3)) (by decide +kernel) (by decide) (tg_0_513_1_1 t1) q443 ?_
      refine x_iload (np := 111) (x := 1) (by decide +kernel) rfl l6 ?_
      refine x_const (np := 112) (x := 9223372043297226753) (a := 2147483649) (by decide +kernel) (by decide) (by decide) ?_
      refine x_nI (t := 6) (mj := 68) (n := 3) (rc := 7) (ml := 4) (nr := 4) (np := 115) (as := [x_r ((h 61 1) + 3), iv_c v5, iv_c 2147483649]) (rest := [iv_c 2147483650, iv_c v5, x_r ((h 61 1) + 3), x_r 61]) (lo1 := [x_r ((h 61 1) + 3), iv_c v5, iv_c 2147483649, 147573952589676412928]) (by decide +kernel) (by decide) (by decide +kernel) (x_rb_of (tr_3_7 t1)) rfl rfl (x_wr (tn_3 t1) (x_wi l6 (x_wi (by decide) x_wn))) (x_wi (by decide) (x_wi l6 (x_wr (tn_3 t1) (x_wr (by decide) x_wn)))) (by decide) rfl ?_
      refine x_iload (np := 1) (x := 1) (by decide +kernel) rfl l6 ?_
      refine x_ifz (k := 2) (tg := 28) (np := 4) (by decide +kernel) (by decide) l6 (fun q451 => ?_) (fun q452 => ?_)
      · have q451 : v5 < 2147483648 := q451
        exfalso; omega
      have q452 : ¬ (v5 < 2147483648) := q452
      refine x_iload (np := 5) (x := 1) (by decide +kernel) rfl l6 ?_
      refine x_aload (np := 6) (x := 0) (by decide +kernel) rfl (x_nc_le (tn_3 t1)) ?_
      have q453 : h284 ((h 61 1) + 3) 2 = h272 ((h 61 1) + 3) 2 := jK 0 f286 (rg_T3_2_0_1 t1) (by first | decide | omega) (by first | decide | omega) (by decide)
      have q454 : h272 ((h 61 1) + 3) 2 = h229 ((h 61 1) + 3) 2 := by rw [← e274]; exact x_up_k tof_3_4
      have q455 : h229 ((h 61 1) + 3) 2 = h121 ((h 61 1) + 3) 2 := jK 0 f231 (rg_T3_2_0_1 t1) (by first | decide | omega) (by first | decide | omega) (by decide)
      have q456 : h121 ((h 61 1) + 3) 2 = h109 ((h 61 1) + 3) 2 := jK 0 f123 (rg_T3_2_0_1 t1) (by first | decide | omega) (by first | decide | omega) (by decide)
      have q457 : h109 ((h 61 1) + 3) 2 = h70 ((h 61 1) + 3) 2 := by rw [← e111]; exact x_up_k tof_3_4
      have q458 : h70 ((h 61 1) + 3) 2 = h51 ((h 61 1) + 3) 2 := jK 0 f72 (rg_T3_2_0_1 t1) (by first | decide | omega) (by first | decide | omega) (by decide)
      have q459 : h51 ((h 61 1) + 3) 2 = h8 ((h 61 1) + 3) 2 := by rw [← e53]; exact x_up_k tof_3_4
      refine x_getC (np := 9) (x := 386) (f := 2) (q := (h8 ((h 61 1) + 3) 2)) (by decide +kernel) (by decide) (tg_3_386_2_0 t1) ((((((q453.trans q454).trans q455).trans q456).trans q457).trans q458).trans q459) (fun l460 => ?_)
      refine x_icmp (k := 3) (tg := 28) (np := 12) (by decide +kernel) (by decide) l6 l34 (fun q461 => ?_) (fun q462 => ?_)
      · have q461 : (h8 ((h 61 1) + 3) 2) ≤ v5 := q461
        exfalso; omega
      have q462 : ¬ ((h8 ((h 61 1) + 3) 2) ≤ v5) := q462
      refine x_iload (np := 13) (x := 2) (by decide +kernel) rfl (by decide) ?_
      refine x_ifz (k := 2) (tg := 28) (np := 16) (by decide +kernel) (by decide) (by decide) (fun q463 => ?_) (fun q464 => ?_)
      · have q463 : 2147483649 < 2147483648 := q463
        exfalso; omega
      have q464 : ¬ (2147483649 < 2147483648) := q464
      refine x_iload (np := 17) (x := 2) (by decide +kernel) rfl (by decide) ?_
      refine x_aload (np := 18) (x := 0) (by decide +kernel) rfl (x_nc_le (tn_3 t1)) ?_
      have q465 : h284 ((h 61 1) + 3) 0 = h272 ((h 61 1) + 3) 0 := jK 0 f286 (rg_T3_0_0_1 t1) (by first | decide | omega) (by first | decide | omega) (by decide)
      have q466 : h272 ((h 61 1) + 3) 0 = h229 ((h 61 1) + 3) 0 := by rw [← e274]; exact x_up_k tof_3_4
      have q467 : h229 ((h 61 1) + 3) 0 = h121 ((h 61 1) + 3) 0 := jK 0 f231 (rg_T3_0_0_1 t1) (by first | decide | omega) (by first | decide | omega) (by decide)
      have q468 : h121 ((h 61 1) + 3) 0 = h109 ((h 61 1) + 3) 0 := jK 0 f123 (rg_T3_0_0_1 t1) (by first | decide | omega) (by first | decide | omega) (by decide)
      have q469 : h109 ((h 61 1) + 3) 0 = h70 ((h 61 1) + 3) 0 := by rw [← e111]; exact x_up_k tof_3_4
      have q470 : h70 ((h 61 1) + 3) 0 = h51 ((h 61 1) + 3) 0 := jK 0 f72 (rg_T3_0_0_1 t1) (by first | decide | omega) (by first | decide | omega) (by decide)
      have q471 : h51 ((h 61 1) + 3) 0 = h8 ((h 61 1) + 3) 0 := by rw [← e53]; exact x_up_k tof_3_4
      refine x_getC (np := 21) (x := 384) (f := 0) (q := 2147483652) (by decide +kernel) (by decide) (tg_3_384_0_0 t1) (((((((q465.trans q466).trans q467).trans q468).trans q469).trans q470).trans q471).trans q40) (fun l472 => ?_)
      refine x_icmp (k := 3) (tg := 28) (np := 24) (by decide +kernel) (by decide) (by decide) (by decide) (fun q473 => ?_) (fun q474 => ?_)
      · have q473 : 2147483652 ≤ 2147483649 := q473
        exfalso; omega
      have q474 : ¬ (2147483652 ≤ 2147483649) := q474
      refine x_const (np := 25) (x := 9223372043297226753) (a := 2147483649) (by decide +kernel) (by decide) (by decide) ?_
      refine x_goto (np := 28) (x := 29) (by decide +kernel) ?_
      refine x_istore (np := 30) (x := 3) (lo' := [x_r ((h 61 1) + 3), iv_c v5, iv_c 2147483649, iv_c 2147483649]) (by decide +kernel) (by decide) (Nat.le_of_ble_eq_true rfl) rfl ?_
      refine x_iload (np := 31) (x := 3) (by decide +kernel) rfl (by decide) ?_
      refine x_ifz (k := 0) (tg := 50) (np := 34) (by decide +kernel) (by decide) (by decide) (fun q475 => ?_) (fun q476 => ?_)
      · have q475 : 2147483649 = 2147483648 := q475
        exfalso; omega
      have q476 : ¬ (2147483649 = 2147483648) := q476
      refine x_aload (np := 35) (x := 0) (by decide +kernel) rfl (x_nc_le (tn_3 t1)) ?_
      have q477 : h284 ((h 61 1) + 3) 1 = ((h 61 1) + 4) := tf_3_1 j285 t1
      refine x_getR (np := 38) (x := 385) (f := 1) (q := ((h 61 1) + 4)) (by decide +kernel) (by decide) (tg_3_385_1_1 t1) q477 ?_
      refine x_iload (np := 39) (x := 1) (by decide +kernel) rfl l6 ?_
      refine x_aload (np := 40) (x := 0) (by decide +kernel) rfl (x_nc_le (tn_3 t1)) ?_
      have q478 : h284 ((h 61 1) + 3) 0 = h272 ((h 61 1) + 3) 0 := jK 0 f286 (rg_T3_0_0_1 t1) (by first | decide | omega) (by first | decide | omega) (by decide)
      have q479 : h272 ((h 61 1) + 3) 0 = h229 ((h 61 1) + 3) 0 := by rw [← e274]; exact x_up_k tof_3_4
      have q480 : h229 ((h 61 1) + 3) 0 = h121 ((h 61 1) + 3) 0 := jK 0 f231 (rg_T3_0_0_1 t1) (by first | decide | omega) (by first | decide | omega) (by decide)
      have q481 : h121 ((h 61 1) + 3) 0 = h109 ((h 61 1) + 3) 0 := jK 0 f123 (rg_T3_0_0_1 t1) (by first | decide | omega) (by first | decide | omega) (by decide)
      have q482 : h109 ((h 61 1) + 3) 0 = h70 ((h 61 1) + 3) 0 := by rw [← e111]; exact x_up_k tof_3_4
      have q483 : h70 ((h 61 1) + 3) 0 = h51 ((h 61 1) + 3) 0 := jK 0 f72 (rg_T3_0_0_1 t1) (by first | decide | omega) (by first | decide | omega) (by decide)
      have q484 : h51 ((h 61 1) + 3) 0 = h8 ((h 61 1) + 3) 0 := by rw [← e53]; exact x_up_k tof_3_4
      refine x_getC (np := 43) (x := 384) (f := 0) (q := 2147483652) (by decide +kernel) (by decide) (tg_3_384_0_0 t1) (((((((q478.trans q479).trans q480).trans q481).trans q482).trans q483).trans q484).trans q40) (fun l485 => ?_)
      refine x_imul (np := 44) (x := 0) (i := u48) (j := 4) (v := (2147483648 + 4 * u48)) (by decide +kernel) (by first | decide | omega) (by first | decide | omega) (by first | decide | omega) (by first | decide | omega) l6 (by decide) ?_
      refine x_iload (np := 45) (x := 2) (by decide +kernel) rfl (by decide) ?_
      refine x_iadd (np := 46) (x := 0) (v := (2147483649 + 4 * u48)) (by decide +kernel) (by first | decide | omega) (by decide) (by first | decide | omega) (by first | decide | omega) ?_
      have q487 : h284 ((h 61 1) + 4) (1 + 4 * u48) = h272 ((h 61 1) + 4) (1 + 4 * u48) := jK u48 f286 (rg_T4_1_4_10 t1) (by first | decide | omega) (by first | decide | omega) (by decide)
      have q488 : h272 ((h 61 1) + 4) (1 + 4 * u48) = v225 := by rw [← e274]; exact x_up_at
      refine x_aldC (np := 47) (x := 0) (n := 40) (i := (1 + 4 * u48)) (q := v225) (by decide +kernel) (ta_4_40 t1) (by first | decide | omega) (by first | decide | omega) (by decide) (q487.trans q488) (fun l489 => ?_)
      refine x_goto (np := 50) (x := 51) (by decide +kernel) ?_
      refine x_retI (np := 52) (x := 0) (by decide +kernel) l226 (Or.inl (by decide +kernel)) ⟨_, rfl, l226, ?_⟩
      refine x_const (np := 117) (x := 9223372086246899723) (a := 2147483659) (by decide +kernel) (by decide) (by decide) ?_
      refine x_nI (t := 6) (mj := 102) (n := 6) (rc := 10) (ml := 7) (nr := 0) (np := 120) (as := [x_r 61, x_r ((h 61 1) + 3), iv_c v5, iv_c 2147483650, iv_c v225, iv_c 2147483659]) (rest := []) (lo1 := [x_r 61, x_r ((h 61 1) + 3), iv_c v5, iv_c 2147483650, iv_c v225, iv_c 2147483659, 147573952589676412928]) (by decide +kernel) (by decide) (by decide +kernel) (x_rb_of (by decide +kernel)) rfl rfl (x_wr (by decide) (x_wr (tn_3 t1) (x_wi l6 (x_wi (by decide) (x_wi l226 (x_wi (by decide) x_wn)))))) x_wn (by decide) rfl ?_
      refine x_aload (np := 1) (x := 0) (by decide +kernel) rfl (x_nc_le (by decide)) ?_
      have q490 : h284 61 0 = 1 := by have z := jB (e := 0) 0 j285 rg_61_0_0_1 (by decide) (by decide); omega
      refine x_getR (np := 4) (x := 576) (f := 0) (q := 1) (by decide +kernel) (by decide) (by decide +kernel) q490 ?_
      refine x_iload (np := 6) (x := 4) (by decide +kernel) rfl l226 ?_
      refine x_iload (np := 8) (x := 5) (by decide +kernel) rfl (by decide) ?_
      have m494 := Tp.fr m282 f286 (by decide) (by decide)
      refine x_cI (t := 6) (mj := 79) (n := 3) (rc := 8) (ml := 5) (nr := 0) (np := 11) (as := [x_r 1, iv_c v225, iv_c 2147483659]) (rest := []) (lo1 := [x_r 1, iv_c v225, iv_c 2147483659, 147573952589676412928, 147573952589676412928]) (by decide +kernel) (by decide) (by decide +kernel) (x_rb_of (by decide +kernel)) rfl rfl (x_wr (by decide) (x_wi l226 (x_wi (by decide) x_wn))) x_wn (by decide) rfl (c79_1 j285  (by first | decide | omega) (by first | decide | omega) m494) (fun v491 h495 l492 q493 => ?_)
      obtain ⟨j496, f497, b498, c499, c500, c501, c502⟩ := q493
      have f503 := Fr.trans f291 f497 (by decide)
      have b504 := jB (e := 2) 0 j496 rg_1_2_0_1 (by first | decide | omega) (by first | decide | omega)
      refine x_istore (np := 13) (x := 6) (lo' := [x_r 61, x_r ((h 61 1) + 3), iv_c v5, iv_c 2147483650, iv_c v225, iv_c 2147483659, iv_c v491]) (by decide +kernel) l492 (Nat.le_of_ble_eq_true rfl) rfl ?_
      refine x_iload (np := 15) (x := 6) (by decide +kernel) rfl l492 ?_
      refine x_const (np := 16) (x := 9223372034707292159) (a := 2147483647) (by decide +kernel) (by decide) (by decide) ?_
      refine x_icmp (k := 1) (tg := 21) (np := 19) (by decide +kernel) (by decide) l492 (by decide) (fun q505 => ?_) (fun q506 => ?_)
      · have q505 : v491 ≠ 2147483647 := q505
        have b507 := c500 (by first | decide | omega)
        refine x_aload (np := 22) (x := 1) (by decide +kernel) rfl (x_nc_le (tn_3 t1)) ?_
        refine x_iload (np := 23) (x := 2) (by decide +kernel) rfl l6 ?_
        refine x_iload (np := 24) (x := 3) (by decide +kernel) rfl (by decide) ?_
        refine x_iload (np := 26) (x := 6) (by decide +kernel) rfl l492 ?_
        refine x_nV (t := 6) (mj := 69) (n := 4) (rc := 7) (ml := 5) (nr := 0) (np := 29) (as := [x_r ((h 61 1) + 3), iv_c v5, iv_c 2147483650, iv_c v491]) (rest := []) (lo1 := [x_r ((h 61 1) + 3), iv_c v5, iv_c 2147483650, iv_c v491, 147573952589676412928]) (by decide +kernel) (by decide) (by decide +kernel) (x_rb_of (tr_3_7 t1)) rfl rfl (x_wr (tn_3 t1) (x_wi l6 (x_wi (by decide) (x_wi l492 x_wn)))) x_wn (by decide) rfl ?_
        refine x_iload (np := 1) (x := 1) (by decide +kernel) rfl l6 ?_
        refine x_ifz (k := 2) (tg := 28) (np := 4) (by decide +kernel) (by decide) l6 (fun q508 => ?_) (fun q509 => ?_)
        · have q508 : v5 < 2147483648 := q508
          exfalso; omega
        have q509 : ¬ (v5 < 2147483648) := q509
        refine x_iload (np := 5) (x := 1) (by decide +kernel) rfl l6 ?_
        refine x_aload (np := 6) (x := 0) (by decide +kernel) rfl (x_nc_le (tn_3 t1)) ?_
        have q510 : h495 ((h 61 1) + 3) 2 = h284 ((h 61 1) + 3) 2 := jK 0 f497 (rg_T3_2_0_1 t1) (by first | decide | omega) (by first | decide | omega) (by decide)
        have q511 : h284 ((h 61 1) + 3) 2 = h272 ((h 61 1) + 3) 2 := jK 0 f286 (rg_T3_2_0_1 t1) (by first | decide | omega) (by first | decide | omega) (by decide)
        have q512 : h272 ((h 61 1) + 3) 2 = h229 ((h 61 1) + 3) 2 := by rw [← e274]; exact x_up_k tof_3_4
        have q513 : h229 ((h 61 1) + 3) 2 = h121 ((h 61 1) + 3) 2 := jK 0 f231 (rg_T3_2_0_1 t1) (by first | decide | omega) (by first | decide | omega) (by decide)
        have q514 : h121 ((h 61 1) + 3) 2 = h109 ((h 61 1) + 3) 2 := jK 0 f123 (rg_T3_2_0_1 t1) (by first | decide | omega) (by first | decide | omega) (by decide)
        have q515 : h109 ((h 61 1) + 3) 2 = h70 ((h 61 1) + 3) 2 := by rw [← e111]; exact x_up_k tof_3_4
        have q516 : h70 ((h 61 1) + 3) 2 = h51 ((h 61 1) + 3) 2 := jK 0 f72 (rg_T3_2_0_1 t1) (by first | decide | omega) (by first | decide | omega) (by decide)
        have q517 : h51 ((h 61 1) + 3) 2 = h8 ((h 61 1) + 3) 2 := by rw [← e53]; exact x_up_k tof_3_4
        refine x_getC (np := 9) (x := 386) (f := 2) (q := (h8 ((h 61 1) + 3) 2)) (by decide +kernel) (by decide) (tg_3_386_2_0 t1) (((((((q510.trans q511).trans q512).trans q513).trans q514).trans q515).trans q516).trans q517) (fun l518 => ?_)
        refine x_icmp (k := 3) (tg := 28) (np := 12) (by decide +kernel) (by decide) l6 l34 (fun q519 => ?_) (fun q520 => ?_)
        · have q519 : (h8 ((h 61 1) + 3) 2) ≤ v5 := q519
          exfalso; omega
        have q520 : ¬ ((h8 ((h 61 1) + 3) 2) ≤ v5) := q520
        refine x_iload (np := 13) (x := 2) (by decide +kernel) rfl (by decide) ?_
        refine x_ifz (k := 2) (tg := 28) (np := 16) (by decide +kernel) (by decide) (by decide) (fun q521 => ?_) (fun q522 => ?_)
        · have q521 : 2147483650 < 2147483648 := q521
          exfalso; omega
        have q522 : ¬ (2147483650 < 2147483648) := q522
        refine x_iload (np := 17) (x := 2) (by decide +kernel) rfl (by decide) ?_
        refine x_aload (np := 18) (x := 0) (by decide +kernel) rfl (x_nc_le (tn_3 t1)) ?_
        have q523 : h495 ((h 61 1) + 3) 0 = h284 ((h 61 1) + 3) 0 := jK 0 f497 (rg_T3_0_0_1 t1) (by first | decide | omega) (by first | decide | omega) (by decide)
        have q524 : h284 ((h 61 1) + 3) 0 = h272 ((h 61 1) + 3) 0 := jK 0 f286 (rg_T3_0_0_1 t1) (by first | decide | omega) (by first | decide | omega) (by decide)
        have q525 : h272 ((h 61 1) + 3) 0 = h229 ((h 61 1) + 3) 0 := by rw [← e274]; exact x_up_k tof_3_4
        have q526 : h229 ((h 61 1) + 3) 0 = h121 ((h 61 1) + 3) 0 := jK 0 f231 (rg_T3_0_0_1 t1) (by first | decide | omega) (by first | decide | omega) (by decide)
        have q527 : h121 ((h 61 1) + 3) 0 = h109 ((h 61 1) + 3) 0 := jK 0 f123 (rg_T3_0_0_1 t1) (by first | decide | omega) (by first | decide | omega) (by decide)
        have q528 : h109 ((h 61 1) + 3) 0 = h70 ((h 61 1) + 3) 0 := by rw [← e111]; exact x_up_k tof_3_4
        have q529 : h70 ((h 61 1) + 3) 0 = h51 ((h 61 1) + 3) 0 := jK 0 f72 (rg_T3_0_0_1 t1) (by first | decide | omega) (by first | decide | omega) (by decide)
        have q530 : h51 ((h 61 1) + 3) 0 = h8 ((h 61 1) + 3) 0 := by rw [← e53]; exact x_up_k tof_3_4
        refine x_getC (np := 21) (x := 384) (f := 0) (q := 2147483652) (by decide +kernel) (by decide) (tg_3_384_0_0 t1) ((((((((q523.trans q524).trans q525).trans q526).trans q527).trans q528).trans q529).trans q530).trans q40) (fun l531 => ?_)
        refine x_icmp (k := 3) (tg := 28) (np := 24) (by decide +kernel) (by decide) (by decide) (by decide) (fun q532 => ?_) (fun q533 => ?_)
        · have q532 : 2147483652 ≤ 2147483650 := q532
          exfalso; omega
        have q533 : ¬ (2147483652 ≤ 2147483650) := q533
        refine x_const (np := 25) (x := 9223372043297226753) (a := 2147483649) (by decide +kernel) (by decide) (by decide) ?_
        refine x_goto (np := 28) (x := 29) (by decide +kernel) ?_
        refine x_istore (np := 31) (x := 4) (lo' := [x_r ((h 61 1) + 3), iv_c v5, iv_c 2147483650, iv_c v491, iv_c 2147483649]) (by decide +kernel) (by decide) (Nat.le_of_ble_eq_true rfl) rfl ?_
        refine x_iload (np := 33) (x := 4) (by decide +kernel) rfl (by decide) ?_
        refine x_ifz (k := 0) (tg := 50) (np := 36) (by decide +kernel) (by decide) (by decide) (fun q534 => ?_) (fun q535 => ?_)
        · have q534 : 2147483649 = 2147483648 := q534
          exfalso; omega
        have q535 : ¬ (2147483649 = 2147483648) := q535
        refine x_aload (np := 37) (x := 0) (by decide +kernel) rfl (x_nc_le (tn_3 t1)) ?_
        have q536 : h495 ((h 61 1) + 3) 1 = ((h 61 1) + 4) := tf_3_1 j496 t1
        refine x_getR (np := 40) (x := 385) (f := 1) (q := ((h 61 1) + 4)) (by decide +kernel) (by decide) (tg_3_385_1_1 t1) q536 ?_
        refine x_iload (np := 41) (x := 1) (by decide +kernel) rfl l6 ?_
        refine x_aload (np := 42) (x := 0) (by decide +kernel) rfl (x_nc_le (tn_3 t1)) ?_
        have q537 : h495 ((h 61 1) + 3) 0 = h284 ((h 61 1) + 3) 0 := jK 0 f497 (rg_T3_0_0_1 t1) (by first | decide | omega) (by first | decide | omega) (by decide)
        have q538 : h284 ((h 61 1) + 3) 0 = h272 ((h 61 1) + 3) 0 := jK 0 f286 (rg_T3_0_0_1 t1) (by first | decide | omega) (by first | decide | omega) (by decide)
        have q539 : h272 ((h 61 1) + 3) 0 = h229 ((h 61 1) + 3) 0 := by rw [← e274]; exact x_up_k tof_3_4
        have q540 : h229 ((h 61 1) + 3) 0 = h121 ((h 61 1) + 3) 0 := jK 0 f231 (rg_T3_0_0_1 t1) (by first | decide | omega) (by first | decide | omega) (by decide)
        have q541 : h121 ((h 61 1) + 3) 0 = h109 ((h 61 1) + 3) 0 := jK 0 f123 (rg_T3_0_0_1 t1) (by first | decide | omega) (by first | decide | omega) (by decide)
        have q542 : h109 ((h 61 1) + 3) 0 = h70 ((h 61 1) + 3) 0 := by rw [← e111]; exact x_up_k tof_3_4
        have q543 : h70 ((h 61 1) + 3) 0 = h51 ((h 61 1) + 3) 0 := jK 0 f72 (rg_T3_0_0_1 t1) (by first | decide | omega) (by first | decide | omega) (by decide)
        have q544 : h51 ((h 61 1) + 3) 0 = h8 ((h 61 1) + 3) 0 := by rw [← e53]; exact x_up_k tof_3_4
        refine x_getC (np := 45) (x := 384) (f := 0) (q := 2147483652) (by decide +kernel) (by decide) (tg_3_384_0_0 t1) ((((((((q537.trans q538).trans q539).trans q540).trans q541).trans q542).trans q543).trans q544).trans q40) (fun l545 => ?_)
        refine x_imul (np := 46) (x := 0) (i := u48) (j := 4) (v := (2147483648 + 4 * u48)) (by decide +kernel) (by first | decide | omega) (by first | decide | omega) (by first | decide | omega) (by first | decide | omega) l6 (by decide) ?_
        refine x_iload (np := 47) (x := 2) (by decide +kernel) rfl (by decide) ?_
        refine x_iadd (np := 48) (x := 0) (v := (2147483650 + 4 * u48)) (by decide +kernel) (by first | decide | omega) (by decide) (by first | decide | omega) (by first | decide | omega) ?_
        refine x_iload (np := 49) (x := 3) (by decide +kernel) rfl l492 ?_
        refine x_ast (np := 50) (x := 0) (kd := 1) (n := 40) (i := (2 + 4 * u48)) (by decide +kernel) (Or.inl rfl) (ta_4_40 t1) (by first | decide | omega) (by first | decide | omega) (by decide) l492 (fun z => absurd z (by decide)) ?_
        have j548 := jU (e := (2 + 4 * u48)) (v := v491) u48 j496 (rg_T4_2_4_10 t1) (by first | decide | omega) (by first | decide | omega) (by first | decide | omega)
        have f550 := jF (e := (2 + 4 * u48)) (v := v491) u48 f503 (rg_T4_2_4_10 t1) (by first | decide | omega) (by first | decide | omega) (by decide)
        generalize e549 : x_up h495 ((h 61 1) + 4) (2 + 4 * u48) v491 = h547 at j548 f550 ⊢
        refine x_retV (np := 51) (x := 0) (by decide +kernel) (by decide +kernel) ⟨rfl, ?_⟩
        refine x_const (np := 30) (x := 9223372043297226753) (a := 2147483649) (by decide +kernel) (by decide) (by decide) ?_
        refine x_retI (np := 31) (x := 0) (by decide +kernel) (by decide) (Or.inr ⟨by decide +kernel, by first | decide | omega, by first | decide | omega⟩) ⟨_, rfl, (by decide), ?_⟩
        refine x_ifz (k := 0) (tg := 127) (np := 123) (by decide +kernel) (by decide) (by decide) (fun q551 => ?_) (fun q552 => ?_)
        · have q551 : 2147483649 = 2147483648 := q551
          exfalso; omega
        have q552 : ¬ (2147483649 = 2147483648) := q552
        refine x_const (np := 124) (x := 9223372043297226753) (a := 2147483649) (by decide +kernel) (by decide) (by decide) ?_
        refine x_goto (np := 127) (x := 128) (by decide +kernel) ?_
        have e553 : rv h 0 = (h (h 61 1) 7) := (congrArg (fun z => svq h z 0) rfl).trans rfl
        have q554 : h547 61 1 = h495 61 1 := by rw [← e549]; exact x_up_k (Ne.symm (tne_4_61 t1))
        have q555 : h495 61 1 = h284 61 1 := f497 61 1 (by decide +kernel)
        have q556 : h284 61 1 = h272 61 1 := f286 61 1 (by decide +kernel)
        have q557 : h272 61 1 = h229 61 1 := by rw [← e274]; exact x_up_k (Ne.symm (tne_4_61 t1))
        have q558 : h229 61 1 = h121 61 1 := f231 61 1 (by decide +kernel)
        have q559 : h121 61 1 = h109 61 1 := f123 61 1 (by decide +kernel)
        have q560 : h109 61 1 = h70 61 1 := by rw [← e111]; exact x_up_k (Ne.symm (tne_4_61 t1))
        have q561 : h70 61 1 = h51 61 1 := f72 61 1 (by decide +kernel)
        have q562 : h51 61 1 = h8 61 1 := by rw [← e53]; exact x_up_k (Ne.symm (tne_4_61 t1))
        have q563 : h8 61 1 = h 61 1 := f10 61 1 (by decide +kernel)
        have q564 : h547 (h 61 1) 7 = h495 (h 61 1) 7 := by rw [← e549]; exact x_up_k tof_0_4
        have q565 : h495 (h 61 1) 7 = h284 (h 61 1) 7 := jK 0 f497 (rg_T0_7_0_1 t1) (by first | decide | omega) (by first | decide | omega) (by decide)
        have q566 : h284 (h 61 1) 7 = h272 (h 61 1) 7 := jK 0 f286 (rg_T0_7_0_1 t1) (by first | decide | omega) (by first | decide | omega) (by decide)
        have q567 : h272 (h 61 1) 7 = h229 (h 61 1) 7 := by rw [← e274]; exact x_up_k tof_0_4
        have q568 : h229 (h 61 1) 7 = h121 (h 61 1) 7 := jK 0 f231 (rg_T0_7_0_1 t1) (by first | decide | omega) (by first | decide | omega) (by decide)
        have q569 : h121 (h 61 1) 7 = h109 (h 61 1) 7 := jK 0 f123 (rg_T0_7_0_1 t1) (by first | decide | omega) (by first | decide | omega) (by decide)
        have q570 : h109 (h 61 1) 7 = h70 (h 61 1) 7 := by rw [← e111]; exact x_up_k tof_0_4
        have q571 : h70 (h 61 1) 7 = h51 (h 61 1) 7 := jK 0 f72 (rg_T0_7_0_1 t1) (by first | decide | omega) (by first | decide | omega) (by decide)
        have q572 : h51 (h 61 1) 7 = h8 (h 61 1) 7 := by rw [← e53]; exact x_up_k tof_0_4
        have e573 : rv h547 0 = (h8 (h 61 1) 7) := (congrArg (fun z => svq h547 z 0) (((((((((q554.trans q555).trans q556).trans q557).trans q558).trans q559).trans q560).trans q561).trans q562).trans q563)).trans ((((((((q564.trans q565).trans q566).trans q567).trans q568).trans q569).trans q570).trans q571).trans q572)
        have e574 : rv h 1 = (h (h 61 1) 8) := (congrArg (fun z => svq h z 1) rfl).trans rfl
        have q575 : h547 61 1 = h495 61 1 := by rw [← e549]; exact x_up_k (Ne.symm (tne_4_61 t1))
        have q576 : h495 61 1 = h284 61 1 := f497 61 1 (by decide +kernel)
        have q577 : h284 61 1 = h272 61 1 := f286 61 1 (by decide +kernel)
        have q578 : h272 61 1 = h229 61 1 := by rw [← e274]; exact x_up_k (Ne.symm (tne_4_61 t1))
        have q579 : h229 61 1 = h121 61 1 := f231 61 1 (by decide +kernel)
        have q580 : h121 61 1 = h109 61 1 := f123 61 1 (by decide +kernel)
        have q581 : h109 61 1 = h70 61 1 := by rw [← e111]; exact x_up_k (Ne.symm (tne_4_61 t1))
        have q582 : h70 61 1 = h51 61 1 := f72 61 1 (by decide +kernel)
        have q583 : h51 61 1 = h8 61 1 := by rw [← e53]; exact x_up_k (Ne.symm (tne_4_61 t1))
        have q584 : h8 61 1 = h 61 1 := f10 61 1 (by decide +kernel)
        have q585 : h547 (h 61 1) 8 = h495 (h 61 1) 8 := by rw [← e549]; exact x_up_k tof_0_4
        have q586 : h495 (h 61 1) 8 = h284 (h 61 1) 8 := jK 0 f497 (rg_T0_8_0_1 t1) (by first | decide | omega) (by first | decide | omega) (by decide)
        have q587 : h284 (h 61 1) 8 = h272 (h 61 1) 8 := jK 0 f286 (rg_T0_8_0_1 t1) (by first | decide | omega) (by first | decide | omega) (by decide)
        have q588 : h272 (h 61 1) 8 = h229 (h 61 1) 8 := by rw [← e274]; exact x_up_k tof_0_4
        have q589 : h229 (h 61 1) 8 = h121 (h 61 1) 8 := jK 0 f231 (rg_T0_8_0_1 t1) (by first | decide | omega) (by first | decide | omega) (by decide)
        have q590 : h121 (h 61 1) 8 = h109 (h 61 1) 8 := jK 0 f123 (rg_T0_8_0_1 t1) (by first | decide | omega) (by first | decide | omega) (by decide)
        have q591 : h109 (h 61 1) 8 = h70 (h 61 1) 8 := by rw [← e111]; exact x_up_k tof_0_4
        have q592 : h70 (h 61 1) 8 = h51 (h 61 1) 8 := jK 0 f72 (rg_T0_8_0_1 t1) (by first | decide | omega) (by first | decide | omega) (by decide)
        have q593 : h51 (h 61 1) 8 = h8 (h 61 1) 8 := by rw [← e53]; exact x_up_k tof_0_4
        have e594 : rv h547 1 = (h8 (h 61 1) 8) := (congrArg (fun z => svq h547 z 1) (((((((((q575.trans q576).trans q577).trans q578).trans q579).trans q580).trans q581).trans q582).trans q583).trans q584)).trans ((((((((q585.trans q586).trans q587).trans q588).trans q589).trans q590).trans q591).trans q592).trans q593)
        have e595 : rv h 2 = (h ((h 61 1) + 1) 2) := (congrArg (fun z => svq h z 2) rfl).trans rfl
        have q596 : h547 61 1 = h495 61 1 := by rw [← e549]; exact x_up_k (Ne.symm (tne_4_61 t1))
        have q597 : h495 61 1 = h284 61 1 := f497 61 1 (by decide +kernel)
        have q598 : h284 61 1 = h272 61 1 := f286 61 1 (by decide +kernel)
        have q599 : h272 61 1 = h229 61 1 := by rw [← e274]; exact x_up_k (Ne.symm (tne_4_61 t1))
        have q600 : h229 61 1 = h121 61 1 := f231 61 1 (by decide +kernel)
        have q601 : h121 61 1 = h109 61 1 := f123 61 1 (by decide +kernel)
        have q602 : h109 61 1 = h70 61 1 := by rw [← e111]; exact x_up_k (Ne.symm (tne_4_61 t1))
        have q603 : h70 61 1 = h51 61 1 := f72 61 1 (by decide +kernel)
        have q604 : h51 61 1 = h8 61 1 := by rw [← e53]; exact x_up_k (Ne.symm (tne_4_61 t1))
        have q605 : h8 61 1 = h 61 1 := f10 61 1 (by decide +kernel)
        have q606 : h547 ((h 61 1) + 1) 2 = h495 ((h 61 1) + 1) 2 := by rw [← e549]; exact x_up_k tof_1_4
        have q607 : h495 ((h 61 1) + 1) 2 = h284 ((h 61 1) + 1) 2 := jK 0 f497 (rg_T1_2_0_1 t1) (by first | decide | omega) (by first | decide | omega) (by decide)
        have q608 : h284 ((h 61 1) + 1) 2 = h272 ((h 61 1) + 1) 2 := jK 0 f286 (rg_T1_2_0_1 t1) (by first | decide | omega) (by first | decide | omega) (by decide)
        have q609 : h272 ((h 61 1) + 1) 2 = h229 ((h 61 1) + 1) 2 := by rw [← e274]; exact x_up_k tof_1_4
        have q610 : h229 ((h 61 1) + 1) 2 = h121 ((h 61 1) + 1) 2 := jK 0 f231 (rg_T1_2_0_1 t1) (by first | decide | omega) (by first | decide | omega) (by decide)
        have q611 : h121 ((h 61 1) + 1) 2 = h109 ((h 61 1) + 1) 2 := jK 0 f123 (rg_T1_2_0_1 t1) (by first | decide | omega) (by first | decide | omega) (by decide)
        have q612 : h109 ((h 61 1) + 1) 2 = h70 ((h 61 1) + 1) 2 := by rw [← e111]; exact x_up_k tof_1_4
        have q613 : h70 ((h 61 1) + 1) 2 = h51 ((h 61 1) + 1) 2 := jK 0 f72 (rg_T1_2_0_1 t1) (by first | decide | omega) (by first | decide | omega) (by decide)
        have q614 : h51 ((h 61 1) + 1) 2 = h8 ((h 61 1) + 1) 2 := by rw [← e53]; exact x_up_k tof_1_4
        have e615 : rv h547 2 = (h8 ((h 61 1) + 1) 2) := (congrArg (fun z => svq h547 z 2) (((((((((q596.trans q597).trans q598).trans q599).trans q600).trans q601).trans q602).trans q603).trans q604).trans q605)).trans ((((((((q606.trans q607).trans q608).trans q609).trans q610).trans q611).trans q612).trans q613).trans q614)
        have q616 : h547 61 1 = h495 61 1 := by rw [← e549]; exact x_up_k (Ne.symm (tne_4_61 t1))
        have q617 : h495 61 1 = h284 61 1 := f497 61 1 (by decide +kernel)
        have q618 : h284 61 1 = h272 61 1 := f286 61 1 (by decide +kernel)
        have q619 : h272 61 1 = h229 61 1 := by rw [← e274]; exact x_up_k (Ne.symm (tne_4_61 t1))
        have q620 : h229 61 1 = h121 61 1 := f231 61 1 (by decide +kernel)
        have q621 : h121 61 1 = h109 61 1 := f123 61 1 (by decide +kernel)
        have q622 : h109 61 1 = h70 61 1 := by rw [← e111]; exact x_up_k (Ne.symm (tne_4_61 t1))
        have q623 : h70 61 1 = h51 61 1 := f72 61 1 (by decide +kernel)
        have q624 : h51 61 1 = h8 61 1 := by rw [← e53]; exact x_up_k (Ne.symm (tne_4_61 t1))
        have q625 : h8 61 1 = h 61 1 := f10 61 1 (by decide +kernel)
        have q626 : h547 ((h 61 1) + 3) 2 = h495 ((h 61 1) + 3) 2 := by rw [← e549]; exact x_up_k tof_3_4
        have q627 : h495 ((h 61 1) + 3) 2 = h284 ((h 61 1) + 3) 2 := jK 0 f497 (rg_T3_2_0_1 t1) (by first | decide | omega) (by first | decide | omega) (by decide)
        have q628 : h284 ((h 61 1) + 3) 2 = h272 ((h 61 1) + 3) 2 := jK 0 f286 (rg_T3_2_0_1 t1) (by first | decide | omega) (by first | decide | omega) (by decide)
        have q629 : h272 ((h 61 1) + 3) 2 = h229 ((h 61 1) + 3) 2 := by rw [← e274]; exact x_up_k tof_3_4
        have q630 : h229 ((h 61 1) + 3) 2 = h121 ((h 61 1) + 3) 2 := jK 0 f231 (rg_T3_2_0_1 t1) (by first | decide | omega) (by first | decide | omega) (by decide)
        have q631 : h121 ((h 61 1) + 3) 2 = h109 ((h 61 1) + 3) 2 := jK 0 f123 (rg_T3_2_0_1 t1) (by first | decide | omega) (by first | decide | omega) (by decide)
        have q632 : h109 ((h 61 1) + 3) 2 = h70 ((h 61 1) + 3) 2 := by rw [← e111]; exact x_up_k tof_3_4
        have q633 : h70 ((h 61 1) + 3) 2 = h51 ((h 61 1) + 3) 2 := jK 0 f72 (rg_T3_2_0_1 t1) (by first | decide | omega) (by first | decide | omega) (by decide)
        have q634 : h51 ((h 61 1) + 3) 2 = h8 ((h 61 1) + 3) 2 := by rw [← e53]; exact x_up_k tof_3_4
        have e635 : rv h547 3 = (h8 ((h 61 1) + 3) 2) := (congrArg (fun z => svq h547 z 3) (((((((((q616.trans q617).trans q618).trans q619).trans q620).trans q621).trans q622).trans q623).trans q624).trans q625)).trans ((((((((q626.trans q627).trans q628).trans q629).trans q630).trans q631).trans q632).trans q633).trans q634)
        have e636 : rv h 4 = (h ((h 61 1) + 5) 2) := (congrArg (fun z => svq h z 4) rfl).trans rfl
        have q637 : h547 61 1 = h495 61 1 := by rw [← e549]; exact x_up_k (Ne.symm (tne_4_61 t1))
        have q638 : h495 61 1 = h284 61 1 := f497 61 1 (by decide +kernel)
        have q639 : h284 61 1 = h272 61 1 := f286 61 1 (by decide +kernel)
        have q640 : h272 61 1 = h229 61 1 := by rw [← e274]; exact x_up_k (Ne.symm (tne_4_61 t1))
        have q641 : h229 61 1 = h121 61 1 := f231 61 1 (by decide +kernel)
        have q642 : h121 61 1 = h109 61 1 := f123 61 1 (by decide +kernel)
        have q643 : h109 61 1 = h70 61 1 := by rw [← e111]; exact x_up_k (Ne.symm (tne_4_61 t1))
        have q644 : h70 61 1 = h51 61 1 := f72 61 1 (by decide +kernel)
        have q645 : h51 61 1 = h8 61 1 := by rw [← e53]; exact x_up_k (Ne.symm (tne_4_61 t1))
        have q646 : h8 61 1 = h 61 1 := f10 61 1 (by decide +kernel)
        have q647 : h547 ((h 61 1) + 5) 2 = h495 ((h 61 1) + 5) 2 := by rw [← e549]; exact x_up_k tof_5_4
        have q648 : h495 ((h 61 1) + 5) 2 = h284 ((h 61 1) + 5) 2 := jK 0 f497 (rg_T5_2_0_1 t1) (by first | decide | omega) (by first | decide | omega) (by decide)
        have q649 : h284 ((h 61 1) + 5) 2 = h272 ((h 61 1) + 5) 2 := jK 0 f286 (rg_T5_2_0_1 t1) (by first | decide | omega) (by first | decide | omega) (by decide)
        have q650 : h272 ((h 61 1) + 5) 2 = h229 ((h 61 1) + 5) 2 := by rw [← e274]; exact x_up_k tof_5_4
        have q651 : h229 ((h 61 1) + 5) 2 = h121 ((h 61 1) + 5) 2 := jK 0 f231 (rg_T5_2_0_1 t1) (by first | decide | omega) (by first | decide | omega) (by decide)
        have q652 : h121 ((h 61 1) + 5) 2 = h109 ((h 61 1) + 5) 2 := jK 0 f123 (rg_T5_2_0_1 t1) (by first | decide | omega) (by first | decide | omega) (by decide)
        have q653 : h109 ((h 61 1) + 5) 2 = h70 ((h 61 1) + 5) 2 := by rw [← e111]; exact x_up_k tof_5_4
        have q654 : h70 ((h 61 1) + 5) 2 = h51 ((h 61 1) + 5) 2 := jK 0 f72 (rg_T5_2_0_1 t1) (by first | decide | omega) (by first | decide | omega) (by decide)
        have q655 : h51 ((h 61 1) + 5) 2 = h8 ((h 61 1) + 5) 2 := by rw [← e53]; exact x_up_k tof_5_4
        have e656 : rv h547 4 = (h8 ((h 61 1) + 5) 2) := (congrArg (fun z => svq h547 z 4) (((((((((q637.trans q638).trans q639).trans q640).trans q641).trans q642).trans q643).trans q644).trans q645).trans q646)).trans ((((((((q647.trans q648).trans q649).trans q650).trans q651).trans q652).trans q653).trans q654).trans q655)
        have e657 : rv h 5 = (h ((h 61 1) + 7) 2) := (congrArg (fun z => svq h z 5) rfl).trans rfl
        have q658 : h547 61 1 = h495 61 1 := by rw [← e549]; exact x_up_k (Ne.symm (tne_4_61 t1))
        have q659 : h495 61 1 = h284 61 1 := f497 61 1 (by decide +kernel)
        have q660 : h284 61 1 = h272 61 1 := f286 61 1 (by decide +kernel)
        have q661 : h272 61 1 = h229 61 1 := by rw [← e274]; exact x_up_k (Ne.symm (tne_4_61 t1))
        have q662 : h229 61 1 = h121 61 1 := f231 61 1 (by decide +kernel)
        have q663 : h121 61 1 = h109 61 1 := f123 61 1 (by decide +kernel)
        have q664 : h109 61 1 = h70 61 1 := by rw [← e111]; exact x_up_k (Ne.symm (tne_4_61 t1))
        have q665 : h70 61 1 = h51 61 1 := f72 61 1 (by decide +kernel)
        have q666 : h51 61 1 = h8 61 1 := by rw [← e53]; exact x_up_k (Ne.symm (tne_4_61 t1))
        have q667 : h8 61 1 = h 61 1 := f10 61 1 (by decide +kernel)
        have q668 : h547 ((h 61 1) + 7) 2 = h495 ((h 61 1) + 7) 2 := by rw [← e549]; exact x_up_k tof_7_4
        have q669 : h495 ((h 61 1) + 7) 2 = h284 ((h 61 1) + 7) 2 := jK 0 f497 (rg_T7_2_0_1 t1) (by first | decide | omega) (by first | decide | omega) (by decide)
        have q670 : h284 ((h 61 1) + 7) 2 = h272 ((h 61 1) + 7) 2 := jK 0 f286 (rg_T7_2_0_1 t1) (by first | decide | omega) (by first | decide | omega) (by decide)
        have q671 : h272 ((h 61 1) + 7) 2 = h229 ((h 61 1) + 7) 2 := by rw [← e274]; exact x_up_k tof_7_4
        have q672 : h229 ((h 61 1) + 7) 2 = h121 ((h 61 1) + 7) 2 := jK 0 f231 (rg_T7_2_0_1 t1) (by first | decide | omega) (by first | decide | omega) (by decide)
        have q673 : h121 ((h 61 1) + 7) 2 = h109 ((h 61 1) + 7) 2 := jK 0 f123 (rg_T7_2_0_1 t1) (by first | decide | omega) (by first | decide | omega) (by decide)
        have q674 : h109 ((h 61 1) + 7) 2 = h70 ((h 61 1) + 7) 2 := by rw [← e111]; exact x_up_k tof_7_4
        have q675 : h70 ((h 61 1) + 7) 2 = h51 ((h 61 1) + 7) 2 := jK 0 f72 (rg_T7_2_0_1 t1) (by first | decide | omega) (by first | decide | omega) (by decide)
        have q676 : h51 ((h 61 1) + 7) 2 = h8 ((h 61 1) + 7) 2 := by rw [← e53]; exact x_up_k tof_7_4
        have e677 : rv h547 5 = (h8 ((h 61 1) + 7) 2) := (congrArg (fun z => svq h547 z 5) (((((((((q658.trans q659).trans q660).trans q661).trans q662).trans q663).trans q664).trans q665).trans q666).trans q667)).trans ((((((((q668.trans q669).trans q670).trans q671).trans q672).trans q673).trans q674).trans q675).trans q676)
        have q678 : h51 1 2 = h8 1 2 := by rw [← e53]; exact x_up_k (Ne.symm (tne_4_1 t1))
        have q679 : h8 1 2 = h 1 2 := jK 0 f10 rg_1_2_0_1 (by first | decide | omega) (by first | decide | omega) (by decide)
        have q680 : h109 1 2 = h70 1 2 := by rw [← e111]; exact x_up_k (Ne.symm (tne_4_1 t1))
        obtain ⟨w681, e682⟩ := Tk.yes c127 (by first | decide | omega)
        have q683 : h272 1 2 = h229 1 2 := by rw [← e274]; exact x_up_k (Ne.symm (tne_4_1 t1))
        obtain ⟨w684, e685⟩ := Tk.yes c290 (by first | decide | omega)
        have q686 : h547 1 2 = h495 1 2 := by rw [← e549]; exact x_up_k (Ne.symm (tne_4_1 t1))
        have m687 : Ot (h 61 1) h h8 := Ot.trans Ot.refl (c19)
        have m688 : Ot (h 61 1) h h51 := by rw [← e53]; exact Ot.up (o := 4) m687 t1 (by decide) rfl
        have m689 : Ot (h 61 1) h h70 := Ot.fr m688 f72 (by decide)
        have m690 : Ot (h 61 1) h h109 := by rw [← e111]; exact Ot.up (o := 4) m689 t1 (by decide) rfl
        have m691 : Ot (h 61 1) h h121 := Ot.fr m690 f123 (by decide)
        have m692 : Ot (h 61 1) h h229 := Ot.fr m691 f231 (by decide)
        have m693 : Ot (h 61 1) h h272 := by rw [← e274]; exact Ot.up (o := 4) m692 t1 (by decide) rfl
        have m694 : Ot (h 61 1) h h284 := Ot.fr m693 f286 (by decide)
        have m695 : Ot (h 61 1) h h495 := Ot.fr m694 f497 (by decide)
        have m696 : Ot (h 61 1) h h547 := by rw [← e549]; exact Ot.up (o := 4) m695 t1 (by decide) rfl
        refine x_retI (np := 129) (x := 0) (by decide +kernel) (by decide) (Or.inr ⟨by decide +kernel, by first | decide | omega, by first | decide | omega⟩) ⟨_, rfl, (by decide), ?_⟩
        exact ⟨j548, f550, (by first | decide | omega), (by first | decide | omega), (by first | decide | omega), (by first | decide | omega), (fun z => by first | decide | omega), (by first | decide | omega), (by first | decide | omega), (nm9.y c77 (by first | decide | omega) (by first | decide | omega) (show h51 1 2 = h 1 2 by first | decide | omega) (by first | decide | omega) rfl (wd9.y w681 (show h109 1 2 = h70 1 2 by first | decide | omega) e682 rfl (nm9.y c236 (by first | decide | omega) (by first | decide | omega) rfl (by first | decide | omega) rfl (wd9.y w684 (show h272 1 2 = h229 1 2 by first | decide | omega) e685 rfl (nm9.y c502 (by first | decide | omega) (by first | decide | omega) rfl (by first | decide | omega) rfl (fin9.mk (by first | decide | omega) (show h495 1 2 = h547 1 2 by first | decide | omega))))))), m696, (fun z => absurd z (by first | decide | omega))⟩
      have q506 : ¬ (v491 ≠ 2147483647) := q506
      have b697 := c501 (by first | decide | omega)
      refine x_const (np := 20) (x := 9223372039002259456) (a := 2147483648) (by decide +kernel) (by decide) (by decide) ?_
      refine x_retI (np := 21) (x := 0) (by decide +kernel) (by decide) (Or.inr ⟨by decide +kernel, by first | decide | omega, by first | decide | omega⟩) ⟨_, rfl, (by decide), ?_⟩
      refine x_ifz (k := 0) (tg := 127) (np := 123) (by decide +kernel) (by decide) (by decide) (fun q698 => ?_) (fun q699 => ?_)
      · have q698 : 2147483648 = 2147483648 := q698
        refine x_const (np := 128) (x := 9223372039002259456) (a := 2147483648) (by decide +kernel) (by decide) (by decide) ?_
        have e700 : rv h 0 = (h (h 61 1) 7) := (congrArg (fun z => svq h z 0) rfl).trans rfl
        have q701 : h495 61 1 = h284 61 1 := f497 61 1 (by decide +kernel)
        have q702 : h284 61 1 = h272 61 1 := f286 61 1 (by decide +kernel)
        have q703 : h272 61 1 = h229 61 1 := by rw [← e274]; exact x_up_k (Ne.symm (tne_4_61 t1))
        have q704 : h229 61 1 = h121 61 1 := f231 61 1 (by decide +kernel)
        have q705 : h121 61 1 = h109 61 1 := f123 61 1 (by decide +kernel)
        have q706 : h109 61 1 = h70 61 1 := by rw [← e111]; exact x_up_k (Ne.symm (tne_4_61 t1))
        have q707 : h70 61 1 = h51 61 1 := f72 61 1 (by decide +kernel)
        have q708 : h51 61 1 = h8 61 1 := by rw [← e53]; exact x_up_k (Ne.symm (tne_4_61 t1))
        have q709 : h8 61 1 = h 61 1 := f10 61 1 (by decide +kernel)
        have q710 : h495 (h 61 1) 7 = h284 (h 61 1) 7 := jK 0 f497 (rg_T0_7_0_1 t1) (by first | decide | omega) (by first | decide | omega) (by decide)
        have q711 : h284 (h 61 1) 7 = h272 (h 61 1) 7 := jK 0 f286 (rg_T0_7_0_1 t1) (by first | decide | omega) (by first | decide | omega) (by decide)
        have q712 : h272 (h 61 1) 7 = h229 (h 61 1) 7 := by rw [← e274]; exact x_up_k tof_0_4
        have q713 : h229 (h 61 1) 7 = h121 (h 61 1) 7 := jK 0 f231 (rg_T0_7_0_1 t1) (by first | decide | omega) (by first | decide | omega) (by decide)
        have q714 : h121 (h 61 1) 7 = h109 (h 61 1) 7 := jK 0 f123 (rg_T0_7_0_1 t1) (by first | decide | omega) (by first | decide | omega) (by decide)
        have q715 : h109 (h 61 1) 7 = h70 (h 61 1) 7 := by rw [← e111]; exact x_up_k tof_0_4
        have q716 : h70 (h 61 1) 7 = h51 (h 61 1) 7 := jK 0 f72 (rg_T0_7_0_1 t1) (by first | decide | omega) (by first | decide | omega) (by decide)
        have q717 : h51 (h 61 1) 7 = h8 (h 61 1) 7 := by rw [← e53]; exact x_up_k tof_0_4
        have e718 : rv h495 0 = (h8 (h 61 1) 7) := (congrArg (fun z => svq h495 z 0) ((((((((q701.trans q702).trans q703).trans q704).trans q705).trans q706).trans q707).trans q708).trans q709)).trans (((((((q710.trans q711).trans q712).trans q713).trans q714).trans q715).trans q716).trans q717)
        have e719 : rv h 1 = (h (h 61 1) 8) := (congrArg (fun z => svq h z 1) rfl).trans rfl
        have q720 : h495 61 1 = h284 61 1 := f497 61 1 (by decide +kernel)
        have q721 : h284 61 1 = h272 61 1 := f286 61 1 (by decide +kernel)
        have q722 : h272 61 1 = h229 61 1 := by rw [← e274]; exact x_up_k (Ne.symm (tne_4_61 t1))
        have q723 : h229 61 1 = h121 61 1 := f231 61 1 (by decide +kernel)
        have q724 : h121 61 1 = h109 61 1 := f123 61 1 (by decide +kernel)
        have q725 : h109 61 1 = h70 61 1 := by rw [← e111]; exact x_up_k (Ne.symm (tne_4_61 t1))
        have q726 : h70 61 1 = h51 61 1 := f72 61 1 (by decide +kernel)
        have q727 : h51 61 1 = h8 61 1 := by rw [← e53]; exact x_up_k (Ne.symm (tne_4_61 t1))
        have q728 : h8 61 1 = h 61 1 := f10 61 1 (by decide +kernel)
        have q729 : h495 (h 61 1) 8 = h284 (h 61 1) 8 := jK 0 f497 (rg_T0_8_0_1 t1) (by first | decide | omega) (by first | decide | omega) (by decide)
        have q730 : h284 (h 61 1) 8 = h272 (h 61 1) 8 := jK 0 f286 (rg_T0_8_0_1 t1) (by first | decide | omega) (by first | decide | omega) (by decide)
        have q731 : h272 (h 61 1) 8 = h229 (h 61 1) 8 := by rw [← e274]; exact x_up_k tof_0_4
        have q732 : h229 (h 61 1) 8 = h121 (h 61 1) 8 := jK 0 f231 (rg_T0_8_0_1 t1) (by first | decide | omega) (by first | decide | omega) (by decide)
        have q733 : h121 (h 61 1) 8 = h109 (h 61 1) 8 := jK 0 f123 (rg_T0_8_0_1 t1) (by first | decide | omega) (by first | decide | omega) (by decide)
        have q734 : h109 (h 61 1) 8 = h70 (h 61 1) 8 := by rw [← e111]; exact x_up_k tof_0_4
        have q735 : h70 (h 61 1) 8 = h51 (h 61 1) 8 := jK 0 f72 (rg_T0_8_0_1 t1) (by first | decide | omega) (by first | decide | omega) (by decide)
        have q736 : h51 (h 61 1) 8 = h8 (h 61 1) 8 := by rw [← e53]; exact x_up_k tof_0_4
        have e737 : rv h495 1 = (h8 (h 61 1) 8) := (congrArg (fun z => svq h495 z 1) ((((((((q720.trans q721).trans q722).trans q723).trans q724).trans q725).trans q726).trans q727).trans q728)).trans (((((((q729.trans q730).trans q731).trans q732).trans q733).trans q734).trans q735).trans q736)
        have e738 : rv h 2 = (h ((h 61 1) + 1) 2) := (congrArg (fun z => svq h z 2) rfl).trans rfl
        have q739 : h495 61 1 = h284 61 1 := f497 61 1 (by decide +kernel)
        have q740 : h284 61 1 = h272 61 1 := f286 61 1 (by decide +kernel)
        have q741 : h272 61 1 = h229 61 1 := by rw [← e274]; exact x_up_k (Ne.symm (tne_4_61 t1))
        have q742 : h229 61 1 = h121 61 1 := f231 61 1 (by decide +kernel)
        have q743 : h121 61 1 = h109 61 1 := f123 61 1 (by decide +kernel)
        have q744 : h109 61 1 = h70 61 1 := by rw [← e111]; exact x_up_k (Ne.symm (tne_4_61 t1))
        have q745 : h70 61 1 = h51 61 1 := f72 61 1 (by decide +kernel)
        have q746 : h51 61 1 = h8 61 1 := by rw [← e53]; exact x_up_k (Ne.symm (tne_4_61 t1))
        have q747 : h8 61 1 = h 61 1 := f10 61 1 (by decide +kernel)
        have q748 : h495 ((h 61 1) + 1) 2 = h284 ((h 61 1) + 1) 2 := jK 0 f497 (rg_T1_2_0_1 t1) (by first | decide | omega) (by first | decide | omega) (by decide)
        have q749 : h284 ((h 61 1) + 1) 2 = h272 ((h 61 1) + 1) 2 := jK 0 f286 (rg_T1_2_0_1 t1) (by first | decide | omega) (by first | decide | omega) (by decide)
        have q750 : h272 ((h 61 1) + 1) 2 = h229 ((h 61 1) + 1) 2 := by rw [← e274]; exact x_up_k tof_1_4
        have q751 : h229 ((h 61 1) + 1) 2 = h121 ((h 61 1) + 1) 2 := jK 0 f231 (rg_T1_2_0_1 t1) (by first | decide | omega) (by first | decide | omega) (by decide)
        have q752 : h121 ((h 61 1) + 1) 2 = h109 ((h 61 1) + 1) 2 := jK 0 f123 (rg_T1_2_0_1 t1) (by first | decide | omega) (by first | decide | omega) (by decide)
        have q753 : h109 ((h 61 1) + 1) 2 = h70 ((h 61 1) + 1) 2 := by rw [← e111]; exact x_up_k tof_1_4
        have q754 : h70 ((h 61 1) + 1) 2 = h51 ((h 61 1) + 1) 2 := jK 0 f72 (rg_T1_2_0_1 t1) (by first | decide | omega) (by first | decide | omega) (by decide)
        have q755 : h51 ((h 61 1) + 1) 2 = h8 ((h 61 1) + 1) 2 := by rw [← e53]; exact x_up_k tof_1_4
        have e756 : rv h495 2 = (h8 ((h 61 1) + 1) 2) := (congrArg (fun z => svq h495 z 2) ((((((((q739.trans q740).trans q741).trans q742).trans q743).trans q744).trans q745).trans q746).trans q747)).trans (((((((q748.trans q749).trans q750).trans q751).trans q752).trans q753).trans q754).trans q755)
        have q757 : h495 61 1 = h284 61 1 := f497 61 1 (by decide +kernel)
        have q758 : h284 61 1 = h272 61 1 := f286 61 1 (by decide +kernel)
        have q759 : h272 61 1 = h229 61 1 := by rw [← e274]; exact x_up_k (Ne.symm (tne_4_61 t1))
        have q760 : h229 61 1 = h121 61 1 := f231 61 1 (by decide +kernel)
        have q761 : h121 61 1 = h109 61 1 := f123 61 1 (by decide +kernel)
        have q762 : h109 61 1 = h70 61 1 := by rw [← e111]; exact x_up_k (Ne.symm (tne_4_61 t1))
        have q763 : h70 61 1 = h51 61 1 := f72 61 1 (by decide +kernel)
        have q764 : h51 61 1 = h8 61 1 := by rw [← e53]; exact x_up_k (Ne.symm (tne_4_61 t1))
        have q765 : h8 61 1 = h 61 1 := f10 61 1 (by decide +kernel)
        have q766 : h495 ((h 61 1) + 3) 2 = h284 ((h 61 1) + 3) 2 := jK 0 f497 (rg_T3_2_0_1 t1) (by first | decide | omega) (by first | decide | omega) (by decide)
        have q767 : h284 ((h 61 1) + 3) 2 = h272 ((h 61 1) + 3) 2 := jK 0 f286 (rg_T3_2_0_1 t1) (by first | decide | omega) (by first | decide | omega) (by decide)
        have q768 : h272 ((h 61 1) + 3) 2 = h229 ((h 61 1) + 3) 2 := by rw [← e274]; exact x_up_k tof_3_4
        have q769 : h229 ((h 61 1) + 3) 2 = h121 ((h 61 1) + 3) 2 := jK 0 f231 (rg_T3_2_0_1 t1) (by first | decide | omega) (by first | decide | omega) (by decide)
        have q770 : h121 ((h 61 1) + 3) 2 = h109 ((h 61 1) + 3) 2 := jK 0 f123 (rg_T3_2_0_1 t1) (by first | decide | omega) (by first | decide | omega) (by decide)
        have q771 : h109 ((h 61 1) + 3) 2 = h70 ((h 61 1) + 3) 2 := by rw [← e111]; exact x_up_k tof_3_4
        have q772 : h70 ((h 61 1) + 3) 2 = h51 ((h 61 1) + 3) 2 := jK 0 f72 (rg_T3_2_0_1 t1) (by first | decide | omega) (by first | decide | omega) (by decide)
        have q773 : h51 ((h 61 1) + 3) 2 = h8 ((h 61 1) + 3) 2 := by rw [← e53]; exact x_up_k tof_3_4
        have e774 : rv h495 3 = (h8 ((h 61 1) + 3) 2) := (congrArg (fun z => svq h495 z 3) ((((((((q757.trans q758).trans q759).trans q760).trans q761).trans q762).trans q763).trans q764).trans q765)).trans (((((((q766.trans q767).trans q768).trans q769).trans q770).trans q771).trans q772).trans q773)
        have e775 : rv h 4 = (h ((h 61 1) + 5) 2) := (congrArg (fun z => svq h z 4) rfl).trans rfl
        have q776 : h495 61 1 = h284 61 1 := f497 61 1 (by decide +kernel)
        have q777 : h284 61 1 = h272 61 1 := f286 61 1 (by decide +kernel)
        have q778 : h272 61 1 = h229 61 1 := by rw [← e274]; exact x_up_k (Ne.symm (tne_4_61 t1))
        have q779 : h229 61 1 = h121 61 1 := f231 61 1 (by decide +kernel)
        have q780 : h121 61 1 = h109 61 1 := f123 61 1 (by decide +kernel)
        have q781 : h109 61 1 = h70 61 1 := by rw [← e111]; exact x_up_k (Ne.symm (tne_4_61 t1))
        have q782 : h70 61 1 = h51 61 1 := f72 61 1 (by decide +kernel)
        have q783 : h51 61 1 = h8 61 1 := by rw [← e53]; exact x_up_k (Ne.symm (tne_4_61 t1))
        have q784 : h8 61 1 = h 61 1 := f10 61 1 (by decide +kernel)
        have q785 : h495 ((h 61 1) + 5) 2 = h284 ((h 61 1) + 5) 2 := jK 0 f497 (rg_T5_2_0_1 t1) (by first | decide | omega) (by first | decide | omega) (by decide)
        have q786 : h284 ((h 61 1) + 5) 2 = h272 ((h 61 1) + 5) 2 := jK 0 f286 (rg_T5_2_0_1 t1) (by first | decide | omega) (by first | decide | omega) (by decide)
        have q787 : h272 ((h 61 1) + 5) 2 = h229 ((h 61 1) + 5) 2 := by rw [← e274]; exact x_up_k tof_5_4
        have q788 : h229 ((h 61 1) + 5) 2 = h121 ((h 61 1) + 5) 2 := jK 0 f231 (rg_T5_2_0_1 t1) (by first | decide | omega) (by first | decide | omega) (by decide)
        have q789 : h121 ((h 61 1) + 5) 2 = h109 ((h 61 1) + 5) 2 := jK 0 f123 (rg_T5_2_0_1 t1) (by first | decide | omega) (by first | decide | omega) (by decide)
        have q790 : h109 ((h 61 1) + 5) 2 = h70 ((h 61 1) + 5) 2 := by rw [← e111]; exact x_up_k tof_5_4
        have q791 : h70 ((h 61 1) + 5) 2 = h51 ((h 61 1) + 5) 2 := jK 0 f72 (rg_T5_2_0_1 t1) (by first | decide | omega) (by first | decide | omega) (by decide)
        have q792 : h51 ((h 61 1) + 5) 2 = h8 ((h 61 1) + 5) 2 := by rw [← e53]; exact x_up_k tof_5_4
        have e793 : rv h495 4 = (h8 ((h 61 1) + 5) 2) := (congrArg (fun z => svq h495 z 4) ((((((((q776.trans q777).trans q778).trans q779).trans q780).trans q781).trans q782).trans q783).trans q784)).trans (((((((q785.trans q786).trans q787).trans q788).trans q789).trans q790).trans q791).trans q792)
        have e794 : rv h 5 = (h ((h 61 1) + 7) 2) := (congrArg (fun z => svq h z 5) rfl).trans rfl
        have q795 : h495 61 1 = h284 61 1 := f497 61 1 (by decide +kernel)
        have q796 : h284 61 1 = h272 61 1 := f286 61 1 (by decide +kernel)
        have q797 : h272 61 1 = h229 61 1 := by rw [← e274]; exact x_up_k (Ne.symm (tne_4_61 t1))
        have q798 : h229 61 1 = h121 61 1 := f231 61 1 (by decide +kernel)
        have q799 : h121 61 1 = h109 61 1 := f123 61 1 (by decide +kernel)
        have q800 : h109 61 1 = h70 61 1 := by rw [← e111]; exact x_up_k (Ne.symm (tne_4_61 t1))
        have q801 : h70 61 1 = h51 61 1 := f72 61 1 (by decide +kernel)
        have q802 : h51 61 1 = h8 61 1 := by rw [← e53]; exact x_up_k (Ne.symm (tne_4_61 t1))
        have q803 : h8 61 1 = h 61 1 := f10 61 1 (by decide +kernel)
        have q804 : h495 ((h 61 1) + 7) 2 = h284 ((h 61 1) + 7) 2 := jK 0 f497 (rg_T7_2_0_1 t1) (by first | decide | omega) (by first | decide | omega) (by decide)
        have q805 : h284 ((h 61 1) + 7) 2 = h272 ((h 61 1) + 7) 2 := jK 0 f286 (rg_T7_2_0_1 t1) (by first | decide | omega) (by first | decide | omega) (by decide)
        have q806 : h272 ((h 61 1) + 7) 2 = h229 ((h 61 1) + 7) 2 := by rw [← e274]; exact x_up_k tof_7_4
        have q807 : h229 ((h 61 1) + 7) 2 = h121 ((h 61 1) + 7) 2 := jK 0 f231 (rg_T7_2_0_1 t1) (by first | decide | omega) (by first | decide | omega) (by decide)
        have q808 : h121 ((h 61 1) + 7) 2 = h109 ((h 61 1) + 7) 2 := jK 0 f123 (rg_T7_2_0_1 t1) (by first | decide | omega) (by first | decide | omega) (by decide)
        have q809 : h109 ((h 61 1) + 7) 2 = h70 ((h 61 1) + 7) 2 := by rw [← e111]; exact x_up_k tof_7_4
        have q810 : h70 ((h 61 1) + 7) 2 = h51 ((h 61 1) + 7) 2 := jK 0 f72 (rg_T7_2_0_1 t1) (by first | decide | omega) (by first | decide | omega) (by decide)
        have q811 : h51 ((h 61 1) + 7) 2 = h8 ((h 61 1) + 7) 2 := by rw [← e53]; exact x_up_k tof_7_4
        have e812 : rv h495 5 = (h8 ((h 61 1) + 7) 2) := (congrArg (fun z => svq h495 z 5) ((((((((q795.trans q796).trans q797).trans q798).trans q799).trans q800).trans q801).trans q802).trans q803)).trans (((((((q804.trans q805).trans q806).trans q807).trans q808).trans q809).trans q810).trans q811)
        have q813 : h51 1 2 = h8 1 2 := by rw [← e53]; exact x_up_k (Ne.symm (tne_4_1 t1))
        have q814 : h8 1 2 = h 1 2 := jK 0 f10 rg_1_2_0_1 (by first | decide | omega) (by first | decide | omega) (by decide)
        have q815 : h109 1 2 = h70 1 2 := by rw [← e111]; exact x_up_k (Ne.symm (tne_4_1 t1))
        obtain ⟨w816, e817⟩ := Tk.yes c127 (by first | decide | omega)
        have q818 : h272 1 2 = h229 1 2 := by rw [← e274]; exact x_up_k (Ne.symm (tne_4_1 t1))
        obtain ⟨w819, e820⟩ := Tk.yes c290 (by first | decide | omega)
        have m821 : Ot (h 61 1) h h8 := Ot.trans Ot.refl (c19)
        have m822 : Ot (h 61 1) h h51 := by rw [← e53]; exact Ot.up (o := 4) m821 t1 (by decide) rfl
        have m823 : Ot (h 61 1) h h70 := Ot.fr m822 f72 (by decide)
        have m824 : Ot (h 61 1) h h109 := by rw [← e111]; exact Ot.up (o := 4) m823 t1 (by decide) rfl
        have m825 : Ot (h 61 1) h h121 := Ot.fr m824 f123 (by decide)
        have m826 : Ot (h 61 1) h h229 := Ot.fr m825 f231 (by decide)
        have m827 : Ot (h 61 1) h h272 := by rw [← e274]; exact Ot.up (o := 4) m826 t1 (by decide) rfl
        have m828 : Ot (h 61 1) h h284 := Ot.fr m827 f286 (by decide)
        have m829 : Ot (h 61 1) h h495 := Ot.fr m828 f497 (by decide)
        have q830 : h51 1 2 = h8 1 2 := by rw [← e53]; exact x_up_k (Ne.symm (tne_4_1 t1))
        have q831 : h8 1 2 = h 1 2 := jK 0 f10 rg_1_2_0_1 (by first | decide | omega) (by first | decide | omega) (by decide)
        have q832 : h109 1 2 = h70 1 2 := by rw [← e111]; exact x_up_k (Ne.symm (tne_4_1 t1))
        obtain ⟨w833, e834⟩ := Tk.yes c127 (by first | decide | omega)
        have q835 : h272 1 2 = h229 1 2 := by rw [← e274]; exact x_up_k (Ne.symm (tne_4_1 t1))
        obtain ⟨w836, e837⟩ := Tk.yes c290 (by first | decide | omega)
        refine x_retI (np := 129) (x := 0) (by decide +kernel) (by decide) (Or.inr ⟨by decide +kernel, by first | decide | omega, by first | decide | omega⟩) ⟨_, rfl, (by decide), ?_⟩
        exact ⟨j496, f503, (by first | decide | omega), (by first | decide | omega), (by first | decide | omega), (by first | decide | omega), (fun z => by first | decide | omega), (by first | decide | omega), (by first | decide | omega), (nm9.y c77 (by first | decide | omega) (by first | decide | omega) (show h51 1 2 = h 1 2 by first | decide | omega) (by first | decide | omega) rfl (wd9.y w816 (show h109 1 2 = h70 1 2 by first | decide | omega) e817 rfl (nm9.y c236 (by first | decide | omega) (by first | decide | omega) rfl (by first | decide | omega) rfl (wd9.y w819 (show h272 1 2 = h229 1 2 by first | decide | omega) e820 rfl (nm9.f c502 (by first | decide | omega) (by first | decide | omega) rfl (by first | decide | omega) (by first | decide | omega)))))), m829, (fun _ => (mF.y c77 (by first | decide | omega) (by first | decide | omega) (show h51 1 2 = h 1 2 by first | decide | omega) (by first | decide | omega) rfl (wF.y w833 (show h109 1 2 = h70 1 2 by first | decide | omega) e834 rfl (mF.y c236 (by first | decide | omega) (by first | decide | omega) rfl (by first | decide | omega) rfl (wF.y w836 (show h272 1 2 = h229 1 2 by first | decide | omega) e837 rfl (mF.no c502 (by first | decide | omega) (by first | decide | omega) rfl (by first | decide | omega) (show h495 1 2 = h284 1 2 by first | decide | omega)))))))⟩
      have q699 : ¬ (2147483648 = 2147483648) := q699
      exfalso; omega
    have q240 : ¬ (v225 ≠ 2147483647) := q240
    have b838 := c235 (by first | decide | omega)
    refine x_const (np := 20) (x := 9223372039002259456) (a := 2147483648) (by decide +kernel) (by decide) (by decide) ?_
    refine x_retI (np := 21) (x := 0) (by decide +kernel) (by decide) (Or.inr ⟨by decide +kernel, by first | decide | omega, by first | decide | omega⟩) ⟨_, rfl, (by decide), ?_⟩
    refine x_ifz (k := 0) (tg := 127) (np := 81) (by decide +kernel) (by decide) (by decide) (fun q839 => ?_) (fun q840 => ?_)
    · have q839 : 2147483648 = 2147483648 := q839
      refine x_const (np := 128) (x := 9223372039002259456) (a := 2147483648) (by decide +kernel) (by decide) (by decide) ?_
      have e841 : rv h 0 = (h (h 61 1) 7) := (congrArg (fun z => svq h z 0) rfl).trans rfl
      have q842 : h229 61 1 = h121 61 1 := f231 61 1 (by decide +kernel)
      have q843 : h121 61 1 = h109 61 1 := f123 61 1 (by decide +kernel)
      have q844 : h109 61 1 = h70 61 1 := by rw [← e111]; exact x_up_k (Ne.symm (tne_4_61 t1))
      have q845 : h70 61 1 = h51 61 1 := f72 61 1 (by decide +kernel)
      have q846 : h51 61 1 = h8 61 1 := by rw [← e53]; exact x_up_k (Ne.symm (tne_4_61 t1))
      have q847 : h8 61 1 = h 61 1 := f10 61 1 (by decide +kernel)
      have q848 : h229 (h 61 1) 7 = h121 (h 61 1) 7 := jK 0 f231 (rg_T0_7_0_1 t1) (by first | decide | omega) (by first | decide | omega) (by decide)
      have q849 : h121 (h 61 1) 7 = h109 (h 61 1) 7 := jK 0 f123 (rg_T0_7_0_1 t1) (by first | decide | omega) (by first | decide | omega) (by decide)
      have q850 : h109 (h 61 1) 7 = h70 (h 61 1) 7 := by rw [← e111]; exact x_up_k tof_0_4
      have q851 : h70 (h 61 1) 7 = h51 (h 61 1) 7 := jK 0 f72 (rg_T0_7_0_1 t1) (by first | decide | omega) (by first | decide | omega) (by decide)
      have q852 : h51 (h 61 1) 7 = h8 (h 61 1) 7 := by rw [← e53]; exact x_up_k tof_0_4
      have e853 : rv h229 0 = (h8 (h 61 1) 7) := (congrArg (fun z => svq h229 z 0) (((((q842.trans q843).trans q844).trans q845).trans q846).trans q847)).trans ((((q848.trans q849).trans q850).trans q851).trans q852)
      have e854 : rv h 1 = (h (h 61 1) 8) := (congrArg (fun z => svq h z 1) rfl).trans rfl
      have q855 : h229 61 1 = h121 61 1 := f231 61 1 (by decide +kernel)
      have q856 : h121 61 1 = h109 61 1 := f123 61 1 (by decide +kernel)
      have q857 : h109 61 1 = h70 61 1 := by rw [← e111]; exact x_up_k (Ne.symm (tne_4_61 t1))
      have q858 : h70 61 1 = h51 61 1 := f72 61 1 (by decide +kernel)
      have q859 : h51 61 1 = h8 61 1 := by rw [← e53]; exact x_up_k (Ne.symm (tne_4_61 t1))
      have q860 : h8 61 1 = h 61 1 := f10 61 1 (by decide +kernel)
      have q861 : h229 (h 61 1) 8 = h121 (h 61 1) 8 := jK 0 f231 (rg_T0_8_0_1 t1) (by first | decide | omega) (by first | decide | omega) (by decide)
      have q862 : h121 (h 61 1) 8 = h109 (h 61 1) 8 := jK 0 f123 (rg_T0_8_0_1 t1) (by first | decide | omega) (by first | decide | omega) (by decide)
      have q863 : h109 (h 61 1) 8 = h70 (h 61 1) 8 := by rw [← e111]; exact x_up_k tof_0_4
      have q864 : h70 (h 61 1) 8 = h51 (h 61 1) 8 := jK 0 f72 (rg_T0_8_0_1 t1) (by first | decide | omega) (by first | decide | omega) (by decide)
      have q865 : h51 (h 61 1) 8 = h8 (h 61 1) 8 := by rw [← e53]; exact x_up_k tof_0_4
      have e866 : rv h229 1 = (h8 (h 61 1) 8) := (congrArg (fun z => svq h229 z 1) (((((q855.trans q856).trans q857).trans q858).trans q859).trans q860)).trans ((((q861.trans q862).trans q863).trans q864).trans q865)
      have e867 : rv h 2 = (h ((h 61 1) + 1) 2) := (congrArg (fun z => svq h z 2) rfl).trans rfl
      have q868 : h229 61 1 = h121 61 1 := f231 61 1 (by decide +kernel)
      have q869 : h121 61 1 = h109 61 1 := f123 61 1 (by decide +kernel)
      have q870 : h109 61 1 = h70 61 1 := by rw [← e111]; exact x_up_k (Ne.symm (tne_4_61 t1))
      have q871 : h70 61 1 = h51 61 1 := f72 61 1 (by decide +kernel)
      have q872 : h51 61 1 = h8 61 1 := by rw [← e53]; exact x_up_k (Ne.symm (tne_4_61 t1))
      have q873 : h8 61 1 = h 61 1 := f10 61 1 (by decide +kernel)
      have q874 : h229 ((h 61 1) + 1) 2 = h121 ((h 61 1) + 1) 2 := jK 0 f231 (rg_T1_2_0_1 t1) (by first | decide | omega) (by first | decide | omega) (by decide)
      have q875 : h121 ((h 61 1) + 1) 2 = h109 ((h 61 1) + 1) 2 := jK 0 f123 (rg_T1_2_0_1 t1) (by first | decide | omega) (by first | decide | omega) (by decide)
      have q876 : h109 ((h 61 1) + 1) 2 = h70 ((h 61 1) + 1) 2 := by rw [← e111]; exact x_up_k tof_1_4
      have q877 : h70 ((h 61 1) + 1) 2 = h51 ((h 61 1) + 1) 2 := jK 0 f72 (rg_T1_2_0_1 t1) (by first | decide | omega) (by first | decide | omega) (by decide)
      have q878 : h51 ((h 61 1) + 1) 2 = h8 ((h 61 1) + 1) 2 := by rw [← e53]; exact x_up_k tof_1_4
      have e879 : rv h229 2 = (h8 ((h 61 1) + 1) 2) := (congrArg (fun z => svq h229 z 2) (((((q868.trans q869).trans q870).trans q871).trans q872).trans q873)).trans ((((q874.trans q875).trans q876).trans q877).trans q878)
      have q880 : h229 61 1 = h121 61 1 := f231 61 1 (by decide +kernel)
      have q881 : h121 61 1 = h109 61 1 := f123 61 1 (by decide +kernel)
      have q882 : h109 61 1 = h70 61 1 := by rw [← e111]; exact x_up_k (Ne.symm (tne_4_61 t1))
      have q883 : h70 61 1 = h51 61 1 := f72 61 1 (by decide +kernel)
      have q884 : h51 61 1 = h8 61 1 := by rw [← e53]; exact x_up_k (Ne.symm (tne_4_61 t1))
      have q885 : h8 61 1 = h 61 1 := f10 61 1 (by decide +kernel)
      have q886 : h229 ((h 61 1) + 3) 2 = h121 ((h 61 1) + 3) 2 := jK 0 f231 (rg_T3_2_0_1 t1) (by first | decide | omega) (by first | decide | omega) (by decide)
      have q887 : h121 ((h 61 1) + 3) 2 = h109 ((h 61 1) + 3) 2 := jK 0 f123 (rg_T3_2_0_1 t1) (by first | decide | omega) (by first | decide | omega) (by decide)
      have q888 : h109 ((h 61 1) + 3) 2 = h70 ((h 61 1) + 3) 2 := by rw [← e111]; exact x_up_k tof_3_4
      have q889 : h70 ((h 61 1) + 3) 2 = h51 ((h 61 1) + 3) 2 := jK 0 f72 (rg_T3_2_0_1 t1) (by first | decide | omega) (by first | decide | omega) (by decide)
      have q890 : h51 ((h 61 1) + 3) 2 = h8 ((h 61 1) + 3) 2 := by rw [← e53]; exact x_up_k tof_3_4
      have e891 : rv h229 3 = (h8 ((h 61 1) + 3) 2) := (congrArg (fun z => svq h229 z 3) (((((q880.trans q881).trans q882).trans q883).trans q884).trans q885)).trans ((((q886.trans q887).trans q888).trans q889).trans q890)
      have e892 : rv h 4 = (h ((h 61 1) + 5) 2) := (congrArg (fun z => svq h z 4) rfl).trans rfl
      have q893 : h229 61 1 = h121 61 1 := f231 61 1 (by decide +kernel)
      have q894 : h121 61 1 = h109 61 1 := f123 61 1 (by decide +kernel)
      have q895 : h109 61 1 = h70 61 1 := by rw [← e111]; exact x_up_k (Ne.symm (tne_4_61 t1))
      have q896 : h70 61 1 = h51 61 1 := f72 61 1 (by decide +kernel)
      have q897 : h51 61 1 = h8 61 1 := by rw [← e53]; exact x_up_k (Ne.symm (tne_4_61 t1))
      have q898 : h8 61 1 = h 61 1 := f10 61 1 (by decide +kernel)
      have q899 : h229 ((h 61 1) + 5) 2 = h121 ((h 61 1) + 5) 2 := jK 0 f231 (rg_T5_2_0_1 t1) (by first | decide | omega) (by first | decide | omega) (by decide)
      have q900 : h121 ((h 61 1) + 5) 2 = h109 ((h 61 1) + 5) 2 := jK 0 f123 (rg_T5_2_0_1 t1) (by first | decide | omega) (by first | decide | omega) (by decide)
      have q901 : h109 ((h 61 1) + 5) 2 = h70 ((h 61 1) + 5) 2 := by rw [← e111]; exact x_up_k tof_5_4
      have q902 : h70 ((h 61 1) + 5) 2 = h51 ((h 61 1) + 5) 2 := jK 0 f72 (rg_T5_2_0_1 t1) (by first | decide | omega) (by first | decide | omega) (by decide)
      have q903 : h51 ((h 61 1) + 5) 2 = h8 ((h 61 1) + 5) 2 := by rw [← e53]; exact x_up_k tof_5_4
      have e904 : rv h229 4 = (h8 ((h 61 1) + 5) 2) := (congrArg (fun z => svq h229 z 4) (((((q893.trans q894).trans q895).trans q896).trans q897).trans q898)).trans ((((q899.trans q900).trans q901).trans q902).trans q903)
      have e905 : rv h 5 = (h ((h 61 1) + 7) 2) := (congrArg (fun z => svq h z 5) rfl).trans rfl
      have q906 : h229 61 1 = h121 61 1 := f231 61 1 (by decide +kernel)
      have q907 : h121 61 1 = h109 61 1 := f123 61 1 (by decide +kernel)
      have q908 : h109 61 1 = h70 61 1 := by rw [← e111]; exact x_up_k (Ne.symm (tne_4_61 t1))
      have q909 : h70 61 1 = h51 61 1 := f72 61 1 (by decide +kernel)
      have q910 : h51 61 1 = h8 61 1 := by rw [← e53]; exact x_up_k (Ne.symm (tne_4_61 t1))
      have q911 : h8 61 1 = h 61 1 := f10 61 1 (by decide +kernel)
      have q912 : h229 ((h 61 1) + 7) 2 = h121 ((h 61 1) + 7) 2 := jK 0 f231 (rg_T7_2_0_1 t1) (by first | decide | omega) (by first | decide | omega) (by decide)
      have q913 : h121 ((h 61 1) + 7) 2 = h109 ((h 61 1) + 7) 2 := jK 0 f123 (rg_T7_2_0_1 t1) (by first | decide | omega) (by first | decide | omega) (by decide)
      have q914 : h109 ((h 61 1) + 7) 2 = h70 ((h 61 1) + 7) 2 := by rw [← e111]; exact x_up_k tof_7_4
      have q915 : h70 ((h 61 1) + 7) 2 = h51 ((h 61 1) + 7) 2 := jK 0 f72 (rg_T7_2_0_1 t1) (by first | decide | omega) (by first | decide | omega) (by decide)
      have q916 : h51 ((h 61 1) + 7) 2 = h8 ((h 61 1) + 7) 2 := by rw [← e53]; exact x_up_k tof_7_4
      have e917 : rv h229 5 = (h8 ((h 61 1) + 7) 2) := (congrArg (fun z => svq h229 z 5) (((((q906.trans q907).trans q908).trans q909).trans q910).trans q911)).trans ((((q912.trans q913).trans q914).trans q915).trans q916)
      have q918 : h51 1 2 = h8 1 2 := by rw [← e53]; exact x_up_k (Ne.symm (tne_4_1 t1))
      have q919 : h8 1 2 = h 1 2 := jK 0 f10 rg_1_2_0_1 (by first | decide | omega) (by first | decide | omega) (by decide)
      have q920 : h109 1 2 = h70 1 2 := by rw [← e111]; exact x_up_k (Ne.symm (tne_4_1 t1))
      obtain ⟨w921, e922⟩ := Tk.yes c127 (by first | decide | omega)
      have m923 : Ot (h 61 1) h h8 := Ot.trans Ot.refl (c19)
      have m924 : Ot (h 61 1) h h51 := by rw [← e53]; exact Ot.up (o := 4) m923 t1 (by decide) rfl
      have m925 : Ot (h 61 1) h h70 := Ot.fr m924 f72 (by decide)
      have m926 : Ot (h 61 1) h h109 := by rw [← e111]; exact Ot.up (o := 4) m925 t1 (by decide) rfl
      have m927 : Ot (h 61 1) h h121 := Ot.fr m926 f123 (by decide)
      have m928 : Ot (h 61 1) h h229 := Ot.fr m927 f231 (by decide)
      have q929 : h51 1 2 = h8 1 2 := by rw [← e53]; exact x_up_k (Ne.symm (tne_4_1 t1))
      have q930 : h8 1 2 = h 1 2 := jK 0 f10 rg_1_2_0_1 (by first | decide | omega) (by first | decide | omega) (by decide)
      have q931 : h109 1 2 = h70 1 2 := by rw [← e111]; exact x_up_k (Ne.symm (tne_4_1 t1))
      obtain ⟨w932, e933⟩ := Tk.yes c127 (by first | decide | omega)
      refine x_retI (np := 129) (x := 0) (by decide +kernel) (by decide) (Or.inr ⟨by decide +kernel, by first | decide | omega, by first | decide | omega⟩) ⟨_, rfl, (by decide), ?_⟩
      exact ⟨j230, f237, (by first | decide | omega), (by first | decide | omega), (by first | decide | omega), (by first | decide | omega), (fun z => by first | decide | omega), (by first | decide | omega), (by first | decide | omega), (nm9.y c77 (by first | decide | omega) (by first | decide | omega) (show h51 1 2 = h 1 2 by first | decide | omega) (by first | decide | omega) rfl (wd9.y w921 (show h109 1 2 = h70 1 2 by first | decide | omega) e922 rfl (nm9.f c236 (by first | decide | omega) (by first | decide | omega) rfl (by first | decide | omega) (by first | decide | omega)))), m928, (fun _ => (mF.y c77 (by first | decide | omega) (by first | decide | omega) (show h51 1 2 = h 1 2 by first | decide | omega) (by first | decide | omega) rfl (wF.y w932 (show h109 1 2 = h70 1 2 by first | decide | omega) e933 rfl (mF.no c236 (by first | decide | omega) (by first | decide | omega) rfl (by first | decide | omega) (show h229 1 2 = h121 1 2 by first | decide | omega)))))⟩
    have q840 : ¬ (2147483648 = 2147483648) := q840
    exfalso; omega
  have q86 : ¬ (v65 ≠ 2147483647) := q86
  have b934 := c76 (by first | decide | omega)
  refine x_const (np := 20) (x := 9223372039002259456) (a := 2147483648) (by decide +kernel) (by decide) (by decide) ?_
  refine x_retI (np := 21) (x := 0) (by decide +kernel) (by decide) (Or.inr ⟨by decide +kernel, by first | decide | omega, by first | decide | omega⟩) ⟨_, rfl, (by decide), ?_⟩
  refine x_ifz (k := 0) (tg := 127) (np := 50) (by decide +kernel) (by decide) (by decide) (fun q935 => ?_) (fun q936 => ?_)
  · have q935 : 2147483648 = 2147483648 := q935
    refine x_const (np := 128) (x := 9223372039002259456) (a := 2147483648) (by decide +kernel) (by decide) (by decide) ?_
    have e937 : rv h 0 = (h (h 61 1) 7) := (congrArg (fun z => svq h z 0) rfl).trans rfl
    have q938 : h70 61 1 = h51 61 1 := f72 61 1 (by decide +kernel)
    have q939 : h51 61 1 = h8 61 1 := by rw [← e53]; exact x_up_k (Ne.symm (tne_4_61 t1))
    have q940 : h8 61 1 = h 61 1 := f10 61 1 (by decide +kernel)
    have q941 : h70 (h 61 1) 7 = h51 (h 61 1) 7 := jK 0 f72 (rg_T0_7_0_1 t1) (by first | decide | omega) (by first | decide | omega) (by decide)
    have q942 : h51 (h 61 1) 7 = h8 (h 61 1) 7 := by rw [← e53]; exact x_up_k tof_0_4
    have e943 : rv h70 0 = (h8 (h 61 1) 7) := (congrArg (fun z => svq h70 z 0) ((q938.trans q939).trans q940)).trans (q941.trans q942)
    have e944 : rv h 1 = (h (h 61 1) 8) := (congrArg (fun z => svq h z 1) rfl).trans rfl
    have q945 : h70 61 1 = h51 61 1 := f72 61 1 (by decide +kernel)
    have q946 : h51 61 1 = h8 61 1 := by rw [← e53]; exact x_up_k (Ne.symm (tne_4_61 t1))
    have q947 : h8 61 1 = h 61 1 := f10 61 1 (by decide +kernel)
    have q948 : h70 (h 61 1) 8 = h51 (h 61 1) 8 := jK 0 f72 (rg_T0_8_0_1 t1) (by first | decide | omega) (by first | decide | omega) (by decide)
    have q949 : h51 (h 61 1) 8 = h8 (h 61 1) 8 := by rw [← e53]; exact x_up_k tof_0_4
    have e950 : rv h70 1 = (h8 (h 61 1) 8) := (congrArg (fun z => svq h70 z 1) ((q945.trans q946).trans q947)).trans (q948.trans q949)
    have e951 : rv h 2 = (h ((h 61 1) + 1) 2) := (congrArg (fun z => svq h z 2) rfl).trans rfl
    have q952 : h70 61 1 = h51 61 1 := f72 61 1 (by decide +kernel)
    have q953 : h51 61 1 = h8 61 1 := by rw [← e53]; exact x_up_k (Ne.symm (tne_4_61 t1))
    have q954 : h8 61 1 = h 61 1 := f10 61 1 (by decide +kernel)
    have q955 : h70 ((h 61 1) + 1) 2 = h51 ((h 61 1) + 1) 2 := jK 0 f72 (rg_T1_2_0_1 t1) (by first | decide | omega) (by first | decide | omega) (by decide)
    have q956 : h51 ((h 61 1) + 1) 2 = h8 ((h 61 1) + 1) 2 := by rw [← e53]; exact x_up_k tof_1_4
    have e957 : rv h70 2 = (h8 ((h 61 1) + 1) 2) := (congrArg (fun z => svq h70 z 2) ((q952.trans q953).trans q954)).trans (q955.trans q956)
    have q958 : h70 61 1 = h51 61 1 := f72 61 1 (by decide +kernel)
    have q959 : h51 61 1 = h8 61 1 := by rw [← e53]; exact x_up_k (Ne.symm (tne_4_61 t1))
    have q960 : h8 61 1 = h 61 1 := f10 61 1 (by decide +kernel)
    have q961 : h70 ((h 61 1) + 3) 2 = h51 ((h 61 1) + 3) 2 := jK 0 f72 (rg_T3_2_0_1 t1) (by first | decide | omega) (by first | decide | omega) (by decide)
    have q962 : h51 ((h 61 1) + 3) 2 = h8 ((h 61 1) + 3) 2 := by rw [← e53]; exact x_up_k tof_3_4
    have e963 : rv h70 3 = (h8 ((h 61 1) + 3) 2) := (congrArg (fun z => svq h70 z 3) ((q958.trans q959).trans q960)).trans (q961.trans q962)
    have e964 : rv h 4 = (h ((h 61 1) + 5) 2) := (congrArg (fun z => svq h z 4) rfl).trans rfl
    have q965 : h70 61 1 = h51 61 1 := f72 61 1 (by decide +kernel)
    have q966 : h51 61 1 = h8 61 1 := by rw [← e53]; exact x_up_k (Ne.symm (tne_4_61 t1))
    have q967 : h8 61 1 = h 61 1 := f10 61 1 (by decide +kernel)
    have q968 : h70 ((h 61 1) + 5) 2 = h51 ((h 61 1) + 5) 2 := jK 0 f72 (rg_T5_2_0_1 t1) (by first | decide | omega) (by first | decide | omega) (by decide)
    have q969 : h51 ((h 61 1) + 5) 2 = h8 ((h 61 1) + 5) 2 := by rw [← e53]; exact x_up_k tof_5_4
    have e970 : rv h70 4 = (h8 ((h 61 1) + 5) 2) := (congrArg (fun z => svq h70 z 4) ((q965.trans q966).trans q967)).trans (q968.trans q969)
    have e971 : rv h 5 = (h ((h 61 1) + 7) 2) := (congrArg (fun z => svq h z 5) rfl).trans rfl
    have q972 : h70 61 1 = h51 61 1 := f72 61 1 (by decide +kernel)
    have q973 : h51 61 1 = h8 61 1 := by rw [← e53]; exact x_up_k (Ne.symm (tne_4_61 t1))
    have q974 : h8 61 1 = h 61 1 := f10 61 1 (by decide +kernel)
    have q975 : h70 ((h 61 1) + 7) 2 = h51 ((h 61 1) + 7) 2 := jK 0 f72 (rg_T7_2_0_1 t1) (by first | decide | omega) (by first | decide | omega) (by decide)
    have q976 : h51 ((h 61 1) + 7) 2 = h8 ((h 61 1) + 7) 2 := by rw [← e53]; exact x_up_k tof_7_4
    have e977 : rv h70 5 = (h8 ((h 61 1) + 7) 2) := (congrArg (fun z => svq h70 z 5) ((q972.trans q973).trans q974)).trans (q975.trans q976)
    have q978 : h51 1 2 = h8 1 2 := by rw [← e53]; exact x_up_k (Ne.symm (tne_4_1 t1))
    have q979 : h8 1 2 = h 1 2 := jK 0 f10 rg_1_2_0_1 (by first | decide | omega) (by first | decide | omega) (by decide)
    have m980 : Ot (h 61 1) h h8 := Ot.trans Ot.refl (c19)
    have m981 : Ot (h 61 1) h h51 := by rw [← e53]; exact Ot.up (o := 4) m980 t1 (by decide) rfl
    have m982 : Ot (h 61 1) h h70 := Ot.fr m981 f72 (by decide)
    have q983 : h51 1 2 = h8 1 2 := by rw [← e53]; exact x_up_k (Ne.symm (tne_4_1 t1))
    have q984 : h8 1 2 = h 1 2 := jK 0 f10 rg_1_2_0_1 (by first | decide | omega) (by first | decide | omega) (by decide)
    have q985 : h51 1 2 = h8 1 2 := by rw [← e53]; exact x_up_k (Ne.symm (tne_4_1 t1))
    have q986 : h8 1 2 = h 1 2 := jK 0 f10 rg_1_2_0_1 (by first | decide | omega) (by first | decide | omega) (by decide)
    refine x_retI (np := 129) (x := 0) (by decide +kernel) (by decide) (Or.inr ⟨by decide +kernel, by first | decide | omega, by first | decide | omega⟩) ⟨_, rfl, (by decide), ?_⟩
    exact ⟨j71, f78, (by first | decide | omega), (by first | decide | omega), (by first | decide | omega), (by first | decide | omega), (fun z => by first | decide | omega), (by first | decide | omega), (by first | decide | omega), (nm9.f c77 (by first | decide | omega) (by first | decide | omega) (show h51 1 2 = h 1 2 by first | decide | omega) (by first | decide | omega) (by first | decide | omega)), m982, (fun _ => (mF.no c77 (by first | decide | omega) (by first | decide | omega) (show h51 1 2 = h 1 2 by first | decide | omega) (by first | decide | omega) (show h70 1 2 = h51 1 2 by first | decide | omega)))⟩
  have q936 : ¬ (2147483648 = 2147483648) := q936
  exfalso; omega
set_option maxHeartbeats 0 in
/-- LentNames$Table.put(III)V -/
theorem c69_T1 {sc : Nat × Nat} {d ra0 a1 a2 a3 : Nat} {h : xh} (hJ : J h) (ta0 : tw ra0) (ba1 : 2147483648 ≤ a1 ∧ a1 ≤ 2147483667) (ba2 : 2147483648 ≤ a2 ∧ a2 ≤ 2147483654) (ba3 : 2147483648 ≤ a3 ∧ a3 ≤ 2147483648) : X sc 69 d (xV fun h' => J h' ∧ Fr 129 h h') 0 0 0 [x_r (ra0 + 1), iv_c a1, iv_c a2, iv_c a3, 147573952589676412928] [] h := by
  have la1 : a1 < 4294967296 := by first | decide | omega
  have la2 : a2 < 4294967296 := by first | decide | omega
  have la3 : a3 < 4294967296 := by first | decide | omega
  have hF := Fr.refl 129 h
  refine x_iload (np := 1) (x := 1) (by decide +kernel) rfl la1 ?_
  refine x_ifz (k := 2) (tg := 28) (np := 4) (by decide +kernel) (by decide) la1 (fun q1 => ?_) (fun q2 => ?_)
  · have q1 : a1 < 2147483648 := q1
    exfalso; omega
  have q2 : ¬ (a1 < 2147483648) := q2
  refine x_iload (np := 5) (x := 1) (by decide +kernel) rfl la1 ?_
  refine x_aload (np := 6) (x := 0) (by decide +kernel) rfl (x_nc_le (tn_1 ta0)) ?_
  have b3 := jB (e := 2) 0 hJ (rg_T1_2_0_1 ta0) (by first | decide | omega) (by first | decide | omega)
  refine x_getC (np := 9) (x := 386) (f := 2) (q := (h (ra0 + 1) 2)) (by decide +kernel) (by decide) (tg_1_386_2_0 ta0) rfl (fun l4 => ?_)
  refine x_icmp (k := 3) (tg := 28) (np := 12) (by decide +kernel) (by decide) la1 l4 (fun q5 => ?_) (fun q6 => ?_)
  · have q5 : (h (ra0 + 1) 2) ≤ a1 := q5
    refine x_const (np := 29) (x := 9223372039002259456) (a := 2147483648) (by decide +kernel) (by decide) (by decide) ?_
    refine x_istore (np := 31) (x := 4) (lo' := [x_r (ra0 + 1), iv_c a1, iv_c a2, iv_c a3, iv_c 2147483648]) (by decide +kernel) (by decide) (Nat.le_of_ble_eq_true rfl) rfl ?_
    refine x_iload (np := 33) (x := 4) (by decide +kernel) rfl (by decide) ?_
    refine x_ifz (k := 0) (tg := 50) (np := 36) (by decide +kernel) (by decide) (by decide) (fun q7 => ?_) (fun q8 => ?_)
    · have q7 : 2147483648 = 2147483648 := q7
      refine x_retV (np := 51) (x := 0) (by decide +kernel) (by decide +kernel) ⟨rfl, ?_⟩
      exact ⟨hJ, hF⟩
    have q8 : ¬ (2147483648 = 2147483648) := q8
    exfalso; omega
  have q6 : ¬ ((h (ra0 + 1) 2) ≤ a1) := q6
  refine x_iload (np := 13) (x := 2) (by decide +kernel) rfl la2 ?_
  refine x_ifz (k := 2) (tg := 28) (np := 16) (by decide +kernel) (by decide) la2 (fun q9 => ?_) (fun q10 => ?_)
  · have q9 : a2 < 2147483648 := q9
    exfalso; omega
  have q10 : ¬ (a2 < 2147483648) := q10
  refine x_iload (np := 17) (x := 2) (by decide +kernel) rfl la2 ?_
  refine x_aload (np := 18) (x := 0) (by decide +kernel) rfl (x_nc_le (tn_1 ta0)) ?_
  have b11 := jB (e := 0) 0 hJ (rg_T1_0_0_1 ta0) (by first | decide | omega) (by first | decide | omega)
  have q12 : (h (ra0 + 1) 0) = 2147483655 := by first | decide | omega
  refine x_getC (np := 21) (x := 384) (f := 0) (q := 2147483655) (by decide +kernel) (by decide) (tg_1_384_0_0 ta0) q12 (fun l13 => ?_)
  refine x_icmp (k := 3) (tg := 28) (np := 24) (by decide +kernel) (by decide) la2 (by decide) (fun q14 => ?_) (fun q15 => ?_)
  · have q14 : 2147483655 ≤ a2 := q14
    exfalso; omega
  have q15 : ¬ (2147483655 ≤ a2) := q15
  refine x_const (np := 25) (x := 9223372043297226753) (a := 2147483649) (by decide +kernel) (by decide) (by decide) ?_
  refine x_goto (np := 28) (x := 29) (by decide +kernel) ?_
  refine x_istore (np := 31) (x := 4) (lo' := [x_r (ra0 + 1), iv_c a1, iv_c a2, iv_c a3, iv_c 2147483649]) (by decide +kernel) (by decide) (Nat.le_of_ble_eq_true rfl) rfl ?_
  refine x_iload (np := 33) (x := 4) (by decide +kernel) rfl (by decide) ?_
  refine x_ifz (k := 0) (tg := 50) (np := 36) (by decide +kernel) (by decide) (by decide) (fun q16 => ?_) (fun q17 => ?_)
  · have q16 : 2147483649 = 2147483648 := q16
    exfalso; omega
  have q17 : ¬ (2147483649 = 2147483648) := q17
  refine x_aload (np := 37) (x := 0) (by decide +kernel) rfl (x_nc_le (tn_1 ta0)) ?_
  have q18 : h (ra0 + 1) 1 = (ra0 + 2) := tf_1_1 hJ ta0
  refine x_getR (np := 40) (x := 385) (f := 1) (q := (ra0 + 2)) (by decide +kernel) (by decide) (tg_1_385_1_1 ta0) q18 ?_
  refine x_iload (np := 41) (x := 1) (by decide +kernel) rfl la1 ?_
  refine x_aload (np := 42) (x := 0) (by decide +kernel) rfl (x_nc_le (tn_1 ta0)) ?_
  refine x_getC (np := 45) (x := 384) (f := 0) (q := 2147483655) (by decide +kernel) (by decide) (tg_1_384_0_0 ta0) q12 (fun l19 => ?_)
  obtain ⟨u20, q21⟩ : ∃ z, a1 = 2147483648 + z := ⟨a1 - 2147483648, by first | decide | omega⟩
  refine x_imul (np := 46) (x := 0) (i := u20) (j := 7) (v := (2147483648 + 7 * u20)) (by decide +kernel) (by first | decide | omega) (by first | decide | omega) (by first | decide | omega) (by first | decide | omega) la1 (by decide) ?_
  refine x_iload (np := 47) (x := 2) (by decide +kernel) rfl la2 ?_
  refine x_iadd (np := 48) (x := 0) (v := (7 * u20 + a2)) (by decide +kernel) (by first | decide | omega) la2 (by first | decide | omega) (by first | decide | omega) ?_
  refine x_iload (np := 49) (x := 3) (by decide +kernel) rfl la3 ?_
  obtain ⟨u23, q24⟩ : ∃ z, a2 = 2147483648 + z := ⟨a2 - 2147483648, by first | decide | omega⟩
  refine x_ast (np := 50) (x := 0) (kd := 1) (n := 140) (i := (7 * u20 + u23)) (by decide +kernel) (Or.inl rfl) (ta_2_140 ta0) (by first | decide | omega) (by first | decide | omega) (by decide) la3 (fun z => absurd z (by decide)) ?_
  have j26 := jUw (e := (7 * u20 + u23)) (v := a3) hJ (rw_T2 ta0) (by first | decide | omega) (by first | decide | omega)
  have f28 := jFw (e := (7 * u20 + u23)) (v := a3) hF (rw_T2 ta0) (by first | decide | omega) (by decide)
  generalize e27 : x_up h (ra0 + 2) (7 * u20 + u23) a3 = h25 at j26 f28 ⊢
  refine x_retV (np := 51) (x := 0) (by decide +kernel) (by decide +kernel) ⟨rfl, ?_⟩
  exact ⟨j26, f28⟩
set_option maxHeartbeats 0 in
/-- LentNames$Table.addRow()I -/
theorem c67_T1 {sc : Nat × Nat} {d ra0 : Nat} {h : xh} (hJ : J h) (ta0 : tw ra0) (hr0 : (h (ra0 + 1) 2) + 1 ≤ 2147483668) : X sc 67 (d + 1) (xI fun r h' => J h' ∧ Fr 281474976710785 h h' ∧ (2147483648 ≤ r ∧ r ≤ 2147483667) ∧ (h' ra0 7 = h ra0 7) ∧ (h' ra0 8 = h ra0 8) ∧ (h' (ra0 + 1) 2 = h (ra0 + 1) 2 + 1) ∧ (h' (ra0 + 3) 2 = h (ra0 + 3) 2) ∧ (h' (ra0 + 5) 2 = h (ra0 + 5) 2) ∧ (h' (ra0 + 7) 2 = h (ra0 + 7) 2) ∧ (r + 1 = h' (ra0 + 1) 2) ∧ Ot ra0 h h') 0 0 0 [x_r (ra0 + 1), 147573952589676412928] [] h := by
  have hF := Fr.refl 281474976710785 h
  have b1 := jB (e := 2) 0 hJ (rg_T1_2_0_1 ta0) (by first | decide | omega) (by first | decide | omega)
  refine x_aload (np := 1) (x := 0) (by decide +kernel) rfl (x_nc_le (tn_1 ta0)) ?_
  refine x_nI (t := 6) (mj := 66) (n := 1) (rc := 7) (ml := 1) (nr := 0) (np := 4) (as := [x_r (ra0 + 1)]) (rest := []) (lo1 := [x_r (ra0 + 1)]) (by decide +kernel) (by decide) (by decide +kernel) (x_rb_of (tr_1_7 ta0)) rfl rfl (x_wr (tn_1 ta0) x_wn) x_wn (by decide) rfl ?_
  refine x_aload (np := 1) (x := 0) (by decide +kernel) rfl (x_nc_le (tn_1 ta0)) ?_
  refine x_getC (np := 4) (x := 386) (f := 2) (q := (h (ra0 + 1) 2)) (by decide +kernel) (by decide) (tg_1_386_2_0 ta0) rfl (fun l2 => ?_)
  refine x_const (np := 5) (x := 9223372043297226753) (a := 2147483649) (by decide +kernel) (by decide) (by decide) ?_
  refine x_iadd (np := 6) (x := 0) (v := (1 + (h (ra0 + 1) 2))) (by decide +kernel) l2 (by decide) (by first | decide | omega) (by first | decide | omega) ?_
  refine x_aload (np := 7) (x := 0) (by decide +kernel) rfl (x_nc_le (tn_1 ta0)) ?_
  have b3 := jB (e := 0) 0 hJ (rg_T1_0_0_1 ta0) (by first | decide | omega) (by first | decide | omega)
  have q4 : (h (ra0 + 1) 0) = 2147483655 := by first | decide | omega
  refine x_getC (np := 10) (x := 384) (f := 0) (q := 2147483655) (by decide +kernel) (by decide) (tg_1_384_0_0 ta0) q4 (fun l5 => ?_)
  obtain ⟨u6, q7⟩ : ∃ z, (h (ra0 + 1) 2) = 2147483648 + z := ⟨(h (ra0 + 1) 2) - 2147483648, by first | decide | omega⟩
  refine x_imul (np := 11) (x := 0) (i := (1 + u6)) (j := 7) (v := (2147483655 + 7 * u6)) (by decide +kernel) (by first | decide | omega) (by first | decide | omega) (by first | decide | omega) (by first | decide | omega) (by first | decide | omega) (by decide) ?_
  refine x_aload (np := 12) (x := 0) (by decide +kernel) rfl (x_nc_le (tn_1 ta0)) ?_
  have q9 : h (ra0 + 1) 1 = (ra0 + 2) := tf_1_1 hJ ta0
  refine x_getR (np := 15) (x := 385) (f := 1) (q := (ra0 + 2)) (by decide +kernel) (by decide) (tg_1_385_1_1 ta0) q9 ?_
  refine x_alen (np := 16) (x := 0) (n := 140) (by decide +kernel) (tn_2 ta0) (tl_2 ta0).1 (tl_2 ta0).2 (by decide) ?_
  show X _ _ _ _ _ _ _ _ [iv_c 2147483788, iv_c (2147483655 + 7 * u6)] _
  refine x_icmp (k := 5) (tg := 23) (np := 19) (by decide +kernel) (by decide) (by first | decide | omega) (by decide) (fun q10 => ?_) (fun q11 => ?_)
  · have q10 : (2147483655 + 7 * u6) ≤ 2147483788 := q10
    refine x_const (np := 24) (x := 9223372039002259456) (a := 2147483648) (by decide +kernel) (by decide) (by decide) ?_
    refine x_retI (np := 25) (x := 0) (by decide +kernel) (by decide) (Or.inr ⟨by decide +kernel, by first | decide | omega, by first | decide | omega⟩) ⟨_, rfl, (by decide), ?_⟩
    refine x_ifz (k := 0) (tg := 9) (np := 7) (by decide +kernel) (by decide) (by decide) (fun q12 => ?_) (fun q13 => ?_)
    · have q12 : 2147483648 = 2147483648 := q12
      refine x_aload (np := 10) (x := 0) (by decide +kernel) rfl (x_nc_le (tn_1 ta0)) ?_
      refine x_dup (np := 11) (x := 0) (by decide +kernel) (by have z := x_nc_le (k := (ra0 + 1)) (tn_1 ta0); unfold x_r; omega) ?_
      refine x_getC (np := 14) (x := 386) (f := 2) (q := (h (ra0 + 1) 2)) (by decide +kernel) (by decide) (tg_1_386_2_0 ta0) rfl (fun l14 => ?_)
      refine x_const (np := 15) (x := 9223372043297226753) (a := 2147483649) (by decide +kernel) (by decide) (by decide) ?_
      refine x_iadd (np := 16) (x := 0) (v := (1 + (h (ra0 + 1) 2))) (by decide +kernel) l2 (by decide) (by first | decide | omega) (by first | decide | omega) ?_
      refine x_putI (np := 19) (x := 386) (f := 2) (by decide +kernel) (tg_1_386_2_0 ta0) (by first | decide | omega) (Or.inl (by decide)) ?_
      have j16 := jU (e := 2) (v := (1 + (h (ra0 + 1) 2))) 0 hJ (rg_T1_2_0_1 ta0) (by first | decide | omega) (by first | decide | omega) (by first | decide | omega)
      have f18 := jF (e := 2) (v := (1 + (h (ra0 + 1) 2))) 0 hF (rg_T1_2_0_1 ta0) (by first | decide | omega) (by first | decide | omega) (by decide)
      generalize e17 : x_up h (ra0 + 1) 2 (1 + (h (ra0 + 1) 2)) = h15 at j16 f18 ⊢
      refine x_const (np := 20) (x := 9223372039002259456) (a := 2147483648) (by decide +kernel) (by decide) (by decide) ?_
      refine x_istore (np := 21) (x := 1) (lo' := [x_r (ra0 + 1), iv_c 2147483648]) (by decide +kernel) (by decide) (Nat.le_of_ble_eq_true rfl) rfl ?_
      have p180 : ∀ (n : Nat) (v175 : Nat) (h177 : xh), 4294967296 - v175 < n → (2147483648 ≤ v175 ∧ v175 ≤ 2147483655) → J h177 → Fr 129 h15 h177 → Ot ra0 h h177 → X sc 67 (d + 1) (xI fun r h' => J h' ∧ Fr 281474976710785 h h' ∧ (2147483648 ≤ r ∧ r ≤ 2147483667) ∧ (h' ra0 7 = h ra0 7) ∧ (h' ra0 8 = h ra0 8) ∧ (h' (ra0 + 1) 2 = h (ra0 + 1) 2 + 1) ∧ (h' (ra0 + 3) 2 = h (ra0 + 3) 2) ∧ (h' (ra0 + 5) 2 = h (ra0 + 5) 2) ∧ (h' (ra0 + 7) 2 = h (ra0 + 7) 2) ∧ (r + 1 = h' (ra0 + 1) 2) ∧ Ot ra0 h h') 0 0 21 [x_r (ra0 + 1), iv_c v175] [] h177 := by
        intro n
        induction n with
        | zero => intro v175 h177 q182; exact absurd q182 (Nat.not_lt_zero _)
        | succ n i183 =>
          intro v175 h177 q182 b176 j179 f178 m181
          have f184 := Fr.trans f18 f178 (by decide)
          refine x_iload (np := 22) (x := 1) (by decide +kernel) rfl (by first | decide | omega) ?_
          refine x_aload (np := 23) (x := 0) (by decide +kernel) rfl (x_nc_le (tn_1 ta0)) ?_
          have b185 := jB (e := 0) 0 j179 (rg_T1_0_0_1 ta0) (by first | decide | omega) (by first | decide | omega)
          have q186 : (h177 (ra0 + 1) 0) = 2147483655 := by first | decide | omega
          refine x_getC (np := 26) (x := 384) (f := 0) (q := 2147483655) (by decide +kernel) (by decide) (tg_1_384_0_0 ta0) q186 (fun l187 => ?_)
          refine x_icmp (k := 3) (tg := 47) (np := 29) (by decide +kernel) (by decide) (by first | decide | omega) (by decide) (fun q188 => ?_) (fun q189 => ?_)
          · have q188 : 2147483655 ≤ v175 := q188
            refine x_aload (np := 48) (x := 0) (by decide +kernel) rfl (x_nc_le (tn_1 ta0)) ?_
            have q190 : h177 (ra0 + 1) 2 = h15 (ra0 + 1) 2 := jK 0 f178 (rg_T1_2_0_1 ta0) (by first | decide | omega) (by first | decide | omega) (by decide)
            have q191 : h15 (ra0 + 1) 2 = (1 + (h (ra0 + 1) 2)) := by rw [← e17]; exact x_up_at
            refine x_getC (np := 51) (x := 386) (f := 2) (q := (1 + (h (ra0 + 1) 2))) (by decide +kernel) (by decide) (tg_1_386_2_0 ta0) (q190.trans q191) (fun l192 => ?_)
            refine x_const (np := 52) (x := 9223372043297226753) (a := 2147483649) (by decide +kernel) (by decide) (by decide) ?_
            refine x_isub (np := 53) (x := 0) (v := (h (ra0 + 1) 2)) (by decide +kernel) (by first | decide | omega) (by decide) (by first | decide | omega) (by first | decide | omega) ?_
            have b193 := jB (e := 7) 0 hJ (rg_T0_7_0_1 ta0) (by first | decide | omega) (by first | decide | omega)
            have q194 : h177 ra0 7 = h15 ra0 7 := jK 0 f178 (rg_T0_7_0_1 ta0) (by first | decide | omega) (by first | decide | omega) (by decide)
            have q195 : h15 ra0 7 = h ra0 7 := by rw [← e17]; exact x_up_k tof_0_1
            have q196 : h177 ra0 8 = h15 ra0 8 := jK 0 f178 (rg_T0_8_0_1 ta0) (by first | decide | omega) (by first | decide | omega) (by decide)
            have q197 : h15 ra0 8 = h ra0 8 := by rw [← e17]; exact x_up_k tof_0_1
            have q198 : h177 (ra0 + 1) 2 = h15 (ra0 + 1) 2 := jK 0 f178 (rg_T1_2_0_1 ta0) (by first | decide | omega) (by first | decide | omega) (by decide)
            have q199 : h15 (ra0 + 1) 2 = (1 + (h (ra0 + 1) 2)) := by rw [← e17]; exact x_up_at
            have b200 := jB (e := 2) 0 hJ (rg_T3_2_0_1 ta0) (by first | decide | omega) (by first | decide | omega)
            have q201 : h177 (ra0 + 3) 2 = h15 (ra0 + 3) 2 := jK 0 f178 (rg_T3_2_0_1 ta0) (by first | decide | omega) (by first | decide | omega) (by decide)
            have q202 : h15 (ra0 + 3) 2 = h (ra0 + 3) 2 := by rw [← e17]; exact x_up_k tof_3_1
            have b203 := jB (e := 2) 0 hJ (rg_T5_2_0_1 ta0) (by first | decide | omega) (by first | decide | omega)
            have q204 : h177 (ra0 + 5) 2 = h15 (ra0 + 5) 2 := jK 0 f178 (rg_T5_2_0_1 ta0) (by first | decide | omega) (by first | decide | omega) (by decide)
            have q205 : h15 (ra0 + 5) 2 = h (ra0 + 5) 2 := by rw [← e17]; exact x_up_k tof_5_1
            have b206 := jB (e := 2) 0 hJ (rg_T7_2_0_1 ta0) (by first | decide | omega) (by first | decide | omega)
            have q207 : h177 (ra0 + 7) 2 = h15 (ra0 + 7) 2 := jK 0 f178 (rg_T7_2_0_1 ta0) (by first | decide | omega) (by first | decide | omega) (by decide)
            have q208 : h15 (ra0 + 7) 2 = h (ra0 + 7) 2 := by rw [← e17]; exact x_up_k tof_7_1
            have q209 : h177 (ra0 + 1) 2 = h15 (ra0 + 1) 2 := jK 0 f178 (rg_T1_2_0_1 ta0) (by first | decide | omega) (by first | decide | omega) (by decide)
            have q210 : h15 (ra0 + 1) 2 = (1 + (h (ra0 + 1) 2)) := by rw [← e17]; exact x_up_at
            refine x_retI (np := 54) (x := 0) (by decide +kernel) l2 (Or.inl (by decide +kernel)) ⟨_, rfl, l2, ?_⟩
            exact ⟨j179, f184, (by first | decide | omega), (by first | decide | omega), (by first | decide | omega), (by first | decide | omega), (by first | decide | omega), (by first | decide | omega), (by first | decide | omega), (by first | decide | omega), m181⟩
          have q189 : ¬ (2147483655 ≤ v175) := q189
          refine x_aload (np := 30) (x := 0) (by decide +kernel) rfl (x_nc_le (tn_1 ta0)) ?_
          refine x_aload (np := 31) (x := 0) (by decide +kernel) rfl (x_nc_le (tn_1 ta0)) ?_
          have q211 : h177 (ra0 + 1) 2 = h15 (ra0 + 1) 2 := jK 0 f178 (rg_T1_2_0_1 ta0) (by first | decide | omega) (by first | decide | omega) (by decide)
          have q212 : h15 (ra0 + 1) 2 = (1 + (h (ra0 + 1) 2)) := by rw [← e17]; exact x_up_at
          refine x_getC (np := 34) (x := 386) (f := 2) (q := (1 + (h (ra0 + 1) 2))) (by decide +kernel) (by decide) (tg_1_386_2_0 ta0) (q211.trans q212) (fun l213 => ?_)
          refine x_const (np := 35) (x := 9223372043297226753) (a := 2147483649) (by decide +kernel) (by decide) (by decide) ?_
          refine x_isub (np := 36) (x := 0) (v := (h (ra0 + 1) 2)) (by decide +kernel) (by first | decide | omega) (by decide) (by first | decide | omega) (by first | decide | omega) ?_
          refine x_iload (np := 37) (x := 1) (by decide +kernel) rfl (by first | decide | omega) ?_
          refine x_const (np := 38) (x := 9223372039002259456) (a := 2147483648) (by decide +kernel) (by decide) (by decide) ?_
          refine x_cV (t := 6) (mj := 69) (n := 4) (rc := 7) (ml := 5) (nr := 0) (np := 41) (as := [x_r (ra0 + 1), iv_c (h (ra0 + 1) 2), iv_c v175, iv_c 2147483648]) (rest := []) (lo1 := [x_r (ra0 + 1), iv_c (h (ra0 + 1) 2), iv_c v175, iv_c 2147483648, 147573952589676412928]) (by decide +kernel) (by decide) (by decide +kernel) (x_rb_of (tr_1_7 ta0)) rfl rfl (x_wr (tn_1 ta0) (x_wi l2 (x_wi (by first | decide | omega) (x_wi (by decide) x_wn)))) x_wn (by decide) rfl (c69_T1 j179 ta0 (by first | decide | omega) (by first | decide | omega) (by first | decide | omega)) (fun h217 q216 => ?_)
          obtain ⟨j218, f219⟩ := q216
          have f222 := Fr.trans f184 f219 (by decide)
          have f223 := Fr.trans f178 f219 (by decide)
          refine x_iinc (np := 44) (i := 1) (j := 2147483649) (v := (1 + v175)) (lo' := [x_r (ra0 + 1), iv_c (1 + v175)]) (by decide +kernel) (by decide) (by decide) rfl (by first | decide | omega) (by first | decide | omega) (by first | decide | omega) rfl ?_
          refine x_goto (np := 47) (x := 21) (by decide +kernel) ?_
          have m224 : Ot ra0 h h217 := Ot.fr m181 f219 (by decide)
          exact i183 (1 + v175) h217 (by first | decide | omega) (by first | decide | omega) j218 f223 m224
      have m225 : Ot ra0 h h15 := by rw [← e17]; exact Ot.up (o := 1) Ot.refl ta0 (by decide) rfl
      exact p180 _ 2147483648 h15 (Nat.lt_succ_self _) (by first | decide | omega) j16 (Fr.refl _ _) m225
    have q13 : ¬ (2147483648 = 2147483648) := q13
    exfalso; omega
  have q11 : ¬ ((2147483655 + 7 * u6) ≤ 2147483788) := q11
  exfalso; omega
set_option maxHeartbeats 0 in
/-- LentNames$Table.put(III)V -/
theorem c69_T1_c0 {sc : Nat × Nat} {d ra0 a1 a3 : Nat} {h : xh} (hJ : J h) (ta0 : tw ra0) (ba1 : 2147483648 ≤ a1 ∧ a1 ≤ 2147483667) (ba3 : 2147483648 ≤ a3 ∧ a3 ≤ 2147483653) : X sc 69 d (xV fun h' => J h' ∧ Fr 129 h h') 0 0 0 [x_r (ra0 + 1), iv_c a1, iv_c 2147483648, iv_c a3, 147573952589676412928] [] h := by
  have la1 : a1 < 4294967296 := by first | decide | omega
  have la3 : a3 < 4294967296 := by first | decide | omega
  have hF := Fr.refl 129 h
  refine x_iload (np := 1) (x := 1) (by decide +kernel) rfl la1 ?_
  refine x_ifz (k := 2) (tg := 28) (np := 4) (by decide +kernel) (by decide) la1 (fun q1 => ?_) (fun q2 => ?_)
  · have q1 : a1 < 2147483648 := q1
    exfalso; omega
  have q2 : ¬ (a1 < 2147483648) := q2
  refine x_iload (np := 5) (x := 1) (by decide +kernel) rfl la1 ?_
  refine x_aload (np := 6) (x := 0) (by decide +kernel) rfl (x_nc_le (tn_1 ta0)) ?_
  have b3 := jB (e := 2) 0 hJ (rg_T1_2_0_1 ta0) (by first | decide | omega) (by first | decide | omega)
  refine x_getC (np := 9) (x := 386) (f := 2) (q := (h (ra0 + 1) 2)) (by decide +kernel) (by decide) (tg_1_386_2_0 ta0) rfl (fun l4 => ?_)
  refine x_icmp (k := 3) (tg := 28) (np := 12) (by decide +kernel) (by decide) la1 l4 (fun q5 => ?_) (fun q6 => ?_)
  · have q5 : (h (ra0 + 1) 2) ≤ a1 := q5
    refine x_const (np := 29) (x := 9223372039002259456) (a := 2147483648) (by decide +kernel) (by decide) (by decide) ?_
    refine x_istore (np := 31) (x := 4) (lo' := [x_r (ra0 + 1), iv_c a1, iv_c 2147483648, iv_c a3, iv_c 2147483648]) (by decide +kernel) (by decide) (Nat.le_of_ble_eq_true rfl) rfl ?_
    refine x_iload (np := 33) (x := 4) (by decide +kernel) rfl (by decide) ?_
    refine x_ifz (k := 0) (tg := 50) (np := 36) (by decide +kernel) (by decide) (by decide) (fun q7 => ?_) (fun q8 => ?_)
    · have q7 : 2147483648 = 2147483648 := q7
      refine x_retV (np := 51) (x := 0) (by decide +kernel) (by decide +kernel) ⟨rfl, ?_⟩
      exact ⟨hJ, hF⟩
    have q8 : ¬ (2147483648 = 2147483648) := q8
    exfalso; omega
  have q6 : ¬ ((h (ra0 + 1) 2) ≤ a1) := q6
  refine x_iload (np := 13) (x := 2) (by decide +kernel) rfl (by decide) ?_
  refine x_ifz (k := 2) (tg := 28) (np := 16) (by decide +kernel) (by decide) (by decide) (fun q9 => ?_) (fun q10 => ?_)
  · have q9 : 2147483648 < 2147483648 := q9
    exfalso; omega
  have q10 : ¬ (2147483648 < 2147483648) := q10
  refine x_iload (np := 17) (x := 2) (by decide +kernel) rfl (by decide) ?_
  refine x_aload (np := 18) (x := 0) (by decide +kernel) rfl (x_nc_le (tn_1 ta0)) ?_
  have b11 := jB (e := 0) 0 hJ (rg_T1_0_0_1 ta0) (by first | decide | omega) (by first | decide | omega)
  have q12 : (h (ra0 + 1) 0) = 2147483655 := by first | decide | omega
  refine x_getC (np := 21) (x := 384) (f := 0) (q := 2147483655) (by decide +kernel) (by decide) (tg_1_384_0_0 ta0) q12 (fun l13 => ?_)
  refine x_icmp (k := 3) (tg := 28) (np := 24) (by decide +kernel) (by decide) (by decide) (by decide) (fun q14 => ?_) (fun q15 => ?_)
  · have q14 : 2147483655 ≤ 2147483648 := q14
    exfalso; omega
  have q15 : ¬ (2147483655 ≤ 2147483648) := q15
  refine x_const (np := 25) (x := 9223372043297226753) (a := 2147483649) (by decide +kernel) (by decide) (by decide) ?_
  refine x_goto (np := 28) (x := 29) (by decide +kernel) ?_
  refine x_istore (np := 31) (x := 4) (lo' := [x_r (ra0 + 1), iv_c a1, iv_c 2147483648, iv_c a3, iv_c 2147483649]) (by decide +kernel) (by decide) (Nat.le_of_ble_eq_true rfl) rfl ?_
  refine x_iload (np := 33) (x := 4) (by decide +kernel) rfl (by decide) ?_
  refine x_ifz (k := 0) (tg := 50) (np := 36) (by decide +kernel) (by decide) (by decide) (fun q16 => ?_) (fun q17 => ?_)
  · have q16 : 2147483649 = 2147483648 := q16
    exfalso; omega
  have q17 : ¬ (2147483649 = 2147483648) := q17
  refine x_aload (np := 37) (x := 0) (by decide +kernel) rfl (x_nc_le (tn_1 ta0)) ?_
  have q18 : h (ra0 + 1) 1 = (ra0 + 2) := tf_1_1 hJ ta0
  refine x_getR (np := 40) (x := 385) (f := 1) (q := (ra0 + 2)) (by decide +kernel) (by decide) (tg_1_385_1_1 ta0) q18 ?_
  refine x_iload (np := 41) (x := 1) (by decide +kernel) rfl la1 ?_
  refine x_aload (np := 42) (x := 0) (by decide +kernel) rfl (x_nc_le (tn_1 ta0)) ?_
  refine x_getC (np := 45) (x := 384) (f := 0) (q := 2147483655) (by decide +kernel) (by decide) (tg_1_384_0_0 ta0) q12 (fun l19 => ?_)
  obtain ⟨u20, q21⟩ : ∃ z, a1 = 2147483648 + z := ⟨a1 - 2147483648, by first | decide | omega⟩
  refine x_imul (np := 46) (x := 0) (i := u20) (j := 7) (v := (2147483648 + 7 * u20)) (by decide +kernel) (by first | decide | omega) (by first | decide | omega) (by first | decide | omega) (by first | decide | omega) la1 (by decide) ?_
  refine x_iload (np := 47) (x := 2) (by decide +kernel) rfl (by decide) ?_
  refine x_iadd (np := 48) (x := 0) (v := (2147483648 + 7 * u20)) (by decide +kernel) (by first | decide | omega) (by decide) (by first | decide | omega) (by first | decide | omega) ?_
  refine x_iload (np := 49) (x := 3) (by decide +kernel) rfl la3 ?_
  refine x_ast (np := 50) (x := 0) (kd := 1) (n := 140) (i := (7 * u20)) (by decide +kernel) (Or.inl rfl) (ta_2_140 ta0) (by first | decide | omega) (by first | decide | omega) (by decide) la3 (fun z => absurd z (by decide)) ?_
  have j24 := jU (e := (7 * u20)) (v := a3) u20 hJ (rg_T2_0_7_20 ta0) (by first | decide | omega) (by first | decide | omega) (by first | decide | omega)
  have f26 := jF (e := (7 * u20)) (v := a3) u20 hF (rg_T2_0_7_20 ta0) (by first | decide | omega) (by first | decide | omega) (by decide)
  generalize e25 : x_up h (ra0 + 2) (7 * u20) a3 = h23 at j24 f26 ⊢
  refine x_retV (np := 51) (x := 0) (by decide +kernel) (by decide +kernel) ⟨rfl, ?_⟩
  exact ⟨j24, f26⟩
set_option maxHeartbeats 0 in
/-- LentNames$Table.put(III)V -/
theorem c69_T1_c1 {sc : Nat × Nat} {d ra0 a1 a3 : Nat} {h : xh} (hJ : J h) (ta0 : tw ra0) (ba1 : 2147483648 ≤ a1 ∧ a1 ≤ 2147483667) (ba3 : 2147483648 ≤ a3 ∧ a3 ≤ 2147483653) : X sc 69 d (xV fun h' => J h' ∧ Fr 129 h h') 0 0 0 [x_r (ra0 + 1), iv_c a1, iv_c 2147483649, iv_c a3, 147573952589676412928] [] h := by
  have la1 : a1 < 4294967296 := by first | decide | omega
  have la3 : a3 < 4294967296 := by first | decide | omega
  have hF := Fr.refl 129 h
  refine x_iload (np := 1) (x := 1) (by decide +kernel) rfl la1 ?_
  refine x_ifz (k := 2) (tg := 28) (np := 4) (by decide +kernel) (by decide) la1 (fun q1 => ?_) (fun q2 => ?_)
  · have q1 : a1 < 2147483648 := q1
    exfalso; omega
  have q2 : ¬ (a1 < 2147483648) := q2
  refine x_iload (np := 5) (x := 1) (by decide +kernel) rfl la1 ?_
  refine x_aload (np := 6) (x := 0) (by decide +kernel) rfl (x_nc_le (tn_1 ta0)) ?_
  have b3 := jB (e := 2) 0 hJ (rg_T1_2_0_1 ta0) (by first | decide | omega) (by first | decide | omega)
  refine x_getC (np := 9) (x := 386) (f := 2) (q := (h (ra0 + 1) 2)) (by decide +kernel) (by decide) (tg_1_386_2_0 ta0) rfl (fun l4 => ?_)
  refine x_icmp (k := 3) (tg := 28) (np := 12) (by decide +kernel) (by decide) la1 l4 (fun q5 => ?_) (fun q6 => ?_)
  · have q5 : (h (ra0 + 1) 2) ≤ a1 := q5
    refine x_const (np := 29) (x := 9223372039002259456) (a := 2147483648) (by decide +kernel) (by decide) (by decide) ?_
    refine x_istore (np := 31) (x := 4) (lo' := [x_r (ra0 + 1), iv_c a1, iv_c 2147483649, iv_c a3, iv_c 2147483648]) (by decide +kernel) (by decide) (Nat.le_of_ble_eq_true rfl) rfl ?_
    refine x_iload (np := 33) (x := 4) (by decide +kernel) rfl (by decide) ?_
    refine x_ifz (k := 0) (tg := 50) (np := 36) (by decide +kernel) (by decide) (by decide) (fun q7 => ?_) (fun q8 => ?_)
    · have q7 : 2147483648 = 2147483648 := q7
      refine x_retV (np := 51) (x := 0) (by decide +kernel) (by decide +kernel) ⟨rfl, ?_⟩
      exact ⟨hJ, hF⟩
    have q8 : ¬ (2147483648 = 2147483648) := q8
    exfalso; omega
  have q6 : ¬ ((h (ra0 + 1) 2) ≤ a1) := q6
  refine x_iload (np := 13) (x := 2) (by decide +kernel) rfl (by decide) ?_
  refine x_ifz (k := 2) (tg := 28) (np := 16) (by decide +kernel) (by decide) (by decide) (fun q9 => ?_) (fun q10 => ?_)
  · have q9 : 2147483649 < 2147483648 := q9
    exfalso; omega
  have q10 : ¬ (2147483649 < 2147483648) := q10
  refine x_iload (np := 17) (x := 2) (by decide +kernel) rfl (by decide) ?_
  refine x_aload (np := 18) (x := 0) (by decide +kernel) rfl (x_nc_le (tn_1 ta0)) ?_
  have b11 := jB (e := 0) 0 hJ (rg_T1_0_0_1 ta0) (by first | decide | omega) (by first | decide | omega)
  have q12 : (h (ra0 + 1) 0) = 2147483655 := by first | decide | omega
  refine x_getC (np := 21) (x := 384) (f := 0) (q := 2147483655) (by decide +kernel) (by decide) (tg_1_384_0_0 ta0) q12 (fun l13 => ?_)
  refine x_icmp (k := 3) (tg := 28) (np := 24) (by decide +kernel) (by decide) (by decide) (by decide) (fun q14 => ?_) (fun q15 => ?_)
  · have q14 : 2147483655 ≤ 2147483649 := q14
    exfalso; omega
  have q15 : ¬ (2147483655 ≤ 2147483649) := q15
  refine x_const (np := 25) (x := 9223372043297226753) (a := 2147483649) (by decide +kernel) (by decide) (by decide) ?_
  refine x_goto (np := 28) (x := 29) (by decide +kernel) ?_
  refine x_istore (np := 31) (x := 4) (lo' := [x_r (ra0 + 1), iv_c a1, iv_c 2147483649, iv_c a3, iv_c 2147483649]) (by decide +kernel) (by decide) (Nat.le_of_ble_eq_true rfl) rfl ?_
  refine x_iload (np := 33) (x := 4) (by decide +kernel) rfl (by decide) ?_
  refine x_ifz (k := 0) (tg := 50) (np := 36) (by decide +kernel) (by decide) (by decide) (fun q16 => ?_) (fun q17 => ?_)
  · have q16 : 2147483649 = 2147483648 := q16
    exfalso; omega
  have q17 : ¬ (2147483649 = 2147483648) := q17
  refine x_aload (np := 37) (x := 0) (by decide +kernel) rfl (x_nc_le (tn_1 ta0)) ?_
  have q18 : h (ra0 + 1) 1 = (ra0 + 2) := tf_1_1 hJ ta0
  refine x_getR (np := 40) (x := 385) (f := 1) (q := (ra0 + 2)) (by decide +kernel) (by decide) (tg_1_385_1_1 ta0) q18 ?_
  refine x_iload (np := 41) (x := 1) (by decide +kernel) rfl la1 ?_
  refine x_aload (np := 42) (x := 0) (by decide +kernel) rfl (x_nc_le (tn_1 ta0)) ?_
  refine x_getC (np := 45) (x := 384) (f := 0) (q := 2147483655) (by decide +kernel) (by decide) (tg_1_384_0_0 ta0) q12 (fun l19 => ?_)
  obtain ⟨u20, q21⟩ : ∃ z, a1 = 2147483648 + z := ⟨a1 - 2147483648, by first | decide | omega⟩
  refine x_imul (np := 46) (x := 0) (i := u20) (j := 7) (v := (2147483648 + 7 * u20)) (by decide +kernel) (by first | decide | omega) (by first | decide | omega) (by first | decide | omega) (by first | decide | omega) la1 (by decide) ?_
  refine x_iload (np := 47) (x := 2) (by decide +kernel) rfl (by decide) ?_
  refine x_iadd (np := 48) (x := 0) (v := (2147483649 + 7 * u20)) (by decide +kernel) (by first | decide | omega) (by decide) (by first | decide | omega) (by first | decide | omega) ?_
  refine x_iload (np := 49) (x := 3) (by decide +kernel) rfl la3 ?_
  refine x_ast (np := 50) (x := 0) (kd := 1) (n := 140) (i := (1 + 7 * u20)) (by decide +kernel) (Or.inl rfl) (ta_2_140 ta0) (by first | decide | omega) (by first | decide | omega) (by decide) la3 (fun z => absurd z (by decide)) ?_
  have j24 := jU (e := (1 + 7 * u20)) (v := a3) u20 hJ (rg_T2_1_7_20 ta0) (by first | decide | omega) (by first | decide | omega) (by first | decide | omega)
  have f26 := jF (e := (1 + 7 * u20)) (v := a3) u20 hF (rg_T2_1_7_20 ta0) (by first | decide | omega) (by first | decide | omega) (by decide)
  generalize e25 : x_up h (ra0 + 2) (1 + 7 * u20) a3 = h23 at j24 f26 ⊢
  refine x_retV (np := 51) (x := 0) (by decide +kernel) (by decide +kernel) ⟨rfl, ?_⟩
  exact ⟨j24, f26⟩
set_option maxHeartbeats 0 in
/-- LentNames$Table.put(III)V -/
theorem c69_T1_c2 {sc : Nat × Nat} {d ra0 a1 a3 : Nat} {h : xh} (hJ : J h) (ta0 : tw ra0) (ba1 : 2147483648 ≤ a1 ∧ a1 ≤ 2147483667) (ba3 : 2147483648 ≤ a3 ∧ a3 ≤ 2147483659) : X sc 69 d (xV fun h' => J h' ∧ Fr 129 h h') 0 0 0 [x_r (ra0 + 1), iv_c a1, iv_c 2147483650, iv_c a3, 147573952589676412928] [] h := by
  have la1 : a1 < 4294967296 := by first | decide | omega
  have la3 : a3 < 4294967296 := by first | decide | omega
  have hF := Fr.refl 129 h
  refine x_iload (np := 1) (x := 1) (by decide +kernel) rfl la1 ?_
  refine x_ifz (k := 2) (tg := 28) (np := 4) (by decide +kernel) (by decide) la1 (fun q1 => ?_) (fun q2 => ?_)
  · have q1 : a1 < 2147483648 := q1
    exfalso; omega
  have q2 : ¬ (a1 < 2147483648) := q2
  refine x_iload (np := 5) (x := 1) (by decide +kernel) rfl la1 ?_
  refine x_aload (np := 6) (x := 0) (by decide +kernel) rfl (x_nc_le (tn_1 ta0)) ?_
  have b3 := jB (e := 2) 0 hJ (rg_T1_2_0_1 ta0) (by first | decide | omega) (by first | decide | omega)
  refine x_getC (np := 9) (x := 386) (f := 2) (q := (h (ra0 + 1) 2)) (by decide +kernel) (by decide) (tg_1_386_2_0 ta0) rfl (fun l4 => ?_)
  refine x_icmp (k := 3) (tg := 28) (np := 12) (by decide +kernel) (by decide) la1 l4 (fun q5 => ?_) (fun q6 => ?_)
  · have q5 : (h (ra0 + 1) 2) ≤ a1 := q5
    refine x_const (np := 29) (x := 9223372039002259456) (a := 2147483648) (by decide +kernel) (by decide) (by decide) ?_
    refine x_istore (np := 31) (x := 4) (lo' := [x_r (ra0 + 1), iv_c a1, iv_c 2147483650, iv_c a3, iv_c 2147483648]) (by decide +kernel) (by decide) (Nat.le_of_ble_eq_true rfl) rfl ?_
    refine x_iload (np := 33) (x := 4) (by decide +kernel) rfl (by decide) ?_
    refine x_ifz (k := 0) (tg := 50) (np := 36) (by decide +kernel) (by decide) (by decide) (fun q7 => ?_) (fun q8 => ?_)
    · have q7 : 2147483648 = 2147483648 := q7
      refine x_retV (np := 51) (x := 0) (by decide +kernel) (by decide +kernel) ⟨rfl, ?_⟩
      exact ⟨hJ, hF⟩
    have q8 : ¬ (2147483648 = 2147483648) := q8
    exfalso; omega
  have q6 : ¬ ((h (ra0 + 1) 2) ≤ a1) := q6
  refine x_iload (np := 13) (x := 2) (by decide +kernel) rfl (by decide) ?_
  refine x_ifz (k := 2) (tg := 28) (np := 16) (by decide +kernel) (by decide) (by decide) (fun q9 => ?_) (fun q10 => ?_)
  · have q9 : 2147483650 < 2147483648 := q9
    exfalso; omega
  have q10 : ¬ (2147483650 < 2147483648) := q10
  refine x_iload (np := 17) (x := 2) (by decide +kernel) rfl (by decide) ?_
  refine x_aload (np := 18) (x := 0) (by decide +kernel) rfl (x_nc_le (tn_1 ta0)) ?_
  have b11 := jB (e := 0) 0 hJ (rg_T1_0_0_1 ta0) (by first | decide | omega) (by first | decide | omega)
  have q12 : (h (ra0 + 1) 0) = 2147483655 := by first | decide | omega
  refine x_getC (np := 21) (x := 384) (f := 0) (q := 2147483655) (by decide +kernel) (by decide) (tg_1_384_0_0 ta0) q12 (fun l13 => ?_)
  refine x_icmp (k := 3) (tg := 28) (np := 24) (by decide +kernel) (by decide) (by decide) (by decide) (fun q14 => ?_) (fun q15 => ?_)
  · have q14 : 2147483655 ≤ 2147483650 := q14
    exfalso; omega
  have q15 : ¬ (2147483655 ≤ 2147483650) := q15
  refine x_const (np := 25) (x := 9223372043297226753) (a := 2147483649) (by decide +kernel) (by decide) (by decide) ?_
  refine x_goto (np := 28) (x := 29) (by decide +kernel) ?_
  refine x_istore (np := 31) (x := 4) (lo' := [x_r (ra0 + 1), iv_c a1, iv_c 2147483650, iv_c a3, iv_c 2147483649]) (by decide +kernel) (by decide) (Nat.le_of_ble_eq_true rfl) rfl ?_
  refine x_iload (np := 33) (x := 4) (by decide +kernel) rfl (by decide) ?_
  refine x_ifz (k := 0) (tg := 50) (np := 36) (by decide +kernel) (by decide) (by decide) (fun q16 => ?_) (fun q17 => ?_)
  · have q16 : 2147483649 = 2147483648 := q16
    exfalso; omega
  have q17 : ¬ (2147483649 = 2147483648) := q17
  refine x_aload (np := 37) (x := 0) (by decide +kernel) rfl (x_nc_le (tn_1 ta0)) ?_
  have q18 : h (ra0 + 1) 1 = (ra0 + 2) := tf_1_1 hJ ta0
  refine x_getR (np := 40) (x := 385) (f := 1) (q := (ra0 + 2)) (by decide +kernel) (by decide) (tg_1_385_1_1 ta0) q18 ?_
  refine x_iload (np := 41) (x := 1) (by decide +kernel) rfl la1 ?_
  refine x_aload (np := 42) (x := 0) (by decide +kernel) rfl (x_nc_le (tn_1 ta0)) ?_
  refine x_getC (np := 45) (x := 384) (f := 0) (q := 2147483655) (by decide +kernel) (by decide) (tg_1_384_0_0 ta0) q12 (fun l19 => ?_)
  obtain ⟨u20, q21⟩ : ∃ z, a1 = 2147483648 + z := ⟨a1 - 2147483648, by first | decide | omega⟩
  refine x_imul (np := 46) (x := 0) (i := u20) (j := 7) (v := (2147483648 + 7 * u20)) (by decide +kernel) (by first | decide | omega) (by first | decide | omega) (by first | decide | omega) (by first | decide | omega) la1 (by decide) ?_
  refine x_iload (np := 47) (x := 2) (by decide +kernel) rfl (by decide) ?_
  refine x_iadd (np := 48) (x := 0) (v := (2147483650 + 7 * u20)) (by decide +kernel) (by first | decide | omega) (by decide) (by first | decide | omega) (by first | decide | omega) ?_
  refine x_iload (np := 49) (x := 3) (by decide +kernel) rfl la3 ?_
  refine x_ast (np := 50) (x := 0) (kd := 1) (n := 140) (i := (2 + 7 * u20)) (by decide +kernel) (Or.inl rfl) (ta_2_140 ta0) (by first | decide | omega) (by first | decide | omega) (by decide) la3 (fun z => absurd z (by decide)) ?_
  have j24 := jU (e := (2 + 7 * u20)) (v := a3) u20 hJ (rg_T2_2_7_20 ta0) (by first | decide | omega) (by first | decide | omega) (by first | decide | omega)
  have f26 := jF (e := (2 + 7 * u20)) (v := a3) u20 hF (rg_T2_2_7_20 ta0) (by first | decide | omega) (by first | decide | omega) (by decide)
  generalize e25 : x_up h (ra0 + 2) (2 + 7 * u20) a3 = h23 at j24 f26 ⊢
  refine x_retV (np := 51) (x := 0) (by decide +kernel) (by decide +kernel) ⟨rfl, ?_⟩
  exact ⟨j24, f26⟩
set_option maxHeartbeats 0 in
/-- LentNames$Table.put(III)V -/
theorem c69_T1_c3 {sc : Nat × Nat} {d ra0 a1 a3 : Nat} {h : xh} (hJ : J h) (ta0 : tw ra0) (ba1 : 2147483648 ≤ a1 ∧ a1 ≤ 2147483667) (ba3 : 2147483648 ≤ a3 ∧ a3 ≤ 2147483660) : X sc 69 d (xV fun h' => J h' ∧ Fr 129 h h') 0 0 0 [x_r (ra0 + 1), iv_c a1, iv_c 2147483651, iv_c a3, 147573952589676412928] [] h := by
  have la1 : a1 < 4294967296 := by first | decide | omega
  have la3 : a3 < 4294967296 := by first | decide | omega
  have hF := Fr.refl 129 h
  refine x_iload (np := 1) (x := 1) (by decide +kernel) rfl la1 ?_
  refine x_ifz (k := 2) (tg := 28) (np := 4) (by decide +kernel) (by decide) la1 (fun q1 => ?_) (fun q2 => ?_)
  · have q1 : a1 < 2147483648 := q1
    exfalso; omega
  have q2 : ¬ (a1 < 2147483648) := q2
  refine x_iload (np := 5) (x := 1) (by decide +kernel) rfl la1 ?_
  refine x_aload (np := 6) (x := 0) (by decide +kernel) rfl (x_nc_le (tn_1 ta0)) ?_
  have b3 := jB (e := 2) 0 hJ (rg_T1_2_0_1 ta0) (by first | decide | omega) (by first | decide | omega)
  refine x_getC (np := 9) (x := 386) (f := 2) (q := (h (ra0 + 1) 2)) (by decide +kernel) (by decide) (tg_1_386_2_0 ta0) rfl (fun l4 => ?_)
  refine x_icmp (k := 3) (tg := 28) (np := 12) (by decide +kernel) (by decide) la1 l4 (fun q5 => ?_) (fun q6 => ?_)
  · have q5 : (h (ra0 + 1) 2) ≤ a1 := q5
    refine x_const (np := 29) (x := 9223372039002259456) (a := 2147483648) (by decide +kernel) (by decide) (by decide) ?_
    refine x_istore (np := 31) (x := 4) (lo' := [x_r (ra0 + 1), iv_c a1, iv_c 2147483651, iv_c a3, iv_c 2147483648]) (by decide +kernel) (by decide) (Nat.le_of_ble_eq_true rfl) rfl ?_
    refine x_iload (np := 33) (x := 4) (by decide +kernel) rfl (by decide) ?_
    refine x_ifz (k := 0) (tg := 50) (np := 36) (by decide +kernel) (by decide) (by decide) (fun q7 => ?_) (fun q8 => ?_)
    · have q7 : 2147483648 = 2147483648 := q7
      refine x_retV (np := 51) (x := 0) (by decide +kernel) (by decide +kernel) ⟨rfl, ?_⟩
      exact ⟨hJ, hF⟩
    have q8 : ¬ (2147483648 = 2147483648) := q8
    exfalso; omega
  have q6 : ¬ ((h (ra0 + 1) 2) ≤ a1) := q6
  refine x_iload (np := 13) (x := 2) (by decide +kernel) rfl (by decide) ?_
  refine x_ifz (k := 2) (tg := 28) (np := 16) (by decide +kernel) (by decide) (by decide) (fun q9 => ?_) (fun q10 => ?_)
  · have q9 : 2147483651 < 2147483648 := q9
    exfalso; omega
  have q10 : ¬ (2147483651 < 2147483648) := q10
  refine x_iload (np := 17) (x := 2) (by decide +kernel) rfl (by decide) ?_
  refine x_aload (np := 18) (x := 0) (by decide +kernel) rfl (x_nc_le (tn_1 ta0)) ?_
  have b11 := jB (e := 0) 0 hJ (rg_T1_0_0_1 ta0) (by first | decide | omega) (by first | decide | omega)
  have q12 : (h (ra0 + 1) 0) = 2147483655 := by first | decide | omega
  refine x_getC (np := 21) (x := 384) (f := 0) (q := 2147483655) (by decide +kernel) (by decide) (tg_1_384_0_0 ta0) q12 (fun l13 => ?_)
  refine x_icmp (k := 3) (tg := 28) (np := 24) (by decide +kernel) (by decide) (by decide) (by decide) (fun q14 => ?_) (fun q15 => ?_)
  · have q14 : 2147483655 ≤ 2147483651 := q14
    exfalso; omega
  have q15 : ¬ (2147483655 ≤ 2147483651) := q15
  refine x_const (np := 25) (x := 9223372043297226753) (a := 2147483649) (by decide +kernel) (by decide) (by decide) ?_
  refine x_goto (np := 28) (x := 29) (by decide +kernel) ?_
  refine x_istore (np := 31) (x := 4) (lo' := [x_r (ra0 + 1), iv_c a1, iv_c 2147483651, iv_c a3, iv_c 2147483649]) (by decide +kernel) (by decide) (Nat.le_of_ble_eq_true rfl) rfl ?_
  refine x_iload (np := 33) (x := 4) (by decide +kernel) rfl (by decide) ?_
  refine x_ifz (k := 0) (tg := 50) (np := 36) (by decide +kernel) (by decide) (by decide) (fun q16 => ?_) (fun q17 => ?_)
  · have q16 : 2147483649 = 2147483648 := q16
    exfalso; omega
  have q17 : ¬ (2147483649 = 2147483648) := q17
  refine x_aload (np := 37) (x := 0) (by decide +kernel) rfl (x_nc_le (tn_1 ta0)) ?_
  have q18 : h (ra0 + 1) 1 = (ra0 + 2) := tf_1_1 hJ ta0
  refine x_getR (np := 40) (x := 385) (f := 1) (q := (ra0 + 2)) (by decide +kernel) (by decide) (tg_1_385_1_1 ta0) q18 ?_
  refine x_iload (np := 41) (x := 1) (by decide +kernel) rfl la1 ?_
  refine x_aload (np := 42) (x := 0) (by decide +kernel) rfl (x_nc_le (tn_1 ta0)) ?_
  refine x_getC (np := 45) (x := 384) (f := 0) (q := 2147483655) (by decide +kernel) (by decide) (tg_1_384_0_0 ta0) q12 (fun l19 => ?_)
  obtain ⟨u20, q21⟩ : ∃ z, a1 = 2147483648 + z := ⟨a1 - 2147483648, by first | decide | omega⟩
  refine x_imul (np := 46) (x := 0) (i := u20) (j := 7) (v := (2147483648 + 7 * u20)) (by decide +kernel) (by first | decide | omega) (by first | decide | omega) (by first | decide | omega) (by first | decide | omega) la1 (by decide) ?_
  refine x_iload (np := 47) (x := 2) (by decide +kernel) rfl (by decide) ?_
  refine x_iadd (np := 48) (x := 0) (v := (2147483651 + 7 * u20)) (by decide +kernel) (by first | decide | omega) (by decide) (by first | decide | omega) (by first | decide | omega) ?_
  refine x_iload (np := 49) (x := 3) (by decide +kernel) rfl la3 ?_
  refine x_ast (np := 50) (x := 0) (kd := 1) (n := 140) (i := (3 + 7 * u20)) (by decide +kernel) (Or.inl rfl) (ta_2_140 ta0) (by first | decide | omega) (by first | decide | omega) (by decide) la3 (fun z => absurd z (by decide)) ?_
  have j24 := jU (e := (3 + 7 * u20)) (v := a3) u20 hJ (rg_T2_3_7_20 ta0) (by first | decide | omega) (by first | decide | omega) (by first | decide | omega)
  have f26 := jF (e := (3 + 7 * u20)) (v := a3) u20 hF (rg_T2_3_7_20 ta0) (by first | decide | omega) (by first | decide | omega) (by decide)
  generalize e25 : x_up h (ra0 + 2) (3 + 7 * u20) a3 = h23 at j24 f26 ⊢
  refine x_retV (np := 51) (x := 0) (by decide +kernel) (by decide +kernel) ⟨rfl, ?_⟩
  exact ⟨j24, f26⟩
set_option maxHeartbeats 0 in
/-- LentNames$Table.put(III)V -/
theorem c69_T1_c5 {sc : Nat × Nat} {d ra0 a1 a3 : Nat} {h : xh} (hJ : J h) (ta0 : tw ra0) (ba1 : 2147483648 ≤ a1 ∧ a1 ≤ 2147483667) (ba3 : 2147483648 ≤ a3 ∧ a3 ≤ 2147484769) : X sc 69 d (xV fun h' => J h' ∧ Fr 129 h h') 0 0 0 [x_r (ra0 + 1), iv_c a1, iv_c 2147483653, iv_c a3, 147573952589676412928] [] h := by
  have la1 : a1 < 4294967296 := by first | decide | omega
  have la3 : a3 < 4294967296 := by first | decide | omega
  have hF := Fr.refl 129 h
  refine x_iload (np := 1) (x := 1) (by decide +kernel) rfl la1 ?_
  refine x_ifz (k := 2) (tg := 28) (np := 4) (by decide +kernel) (by decide) la1 (fun q1 => ?_) (fun q2 => ?_)
  · have q1 : a1 < 2147483648 := q1
    exfalso; omega
  have q2 : ¬ (a1 < 2147483648) := q2
  refine x_iload (np := 5) (x := 1) (by decide +kernel) rfl la1 ?_
  refine x_aload (np := 6) (x := 0) (by decide +kernel) rfl (x_nc_le (tn_1 ta0)) ?_
  have b3 := jB (e := 2) 0 hJ (rg_T1_2_0_1 ta0) (by first | decide | omega) (by first | decide | omega)
  refine x_getC (np := 9) (x := 386) (f := 2) (q := (h (ra0 + 1) 2)) (by decide +kernel) (by decide) (tg_1_386_2_0 ta0) rfl (fun l4 => ?_)
  refine x_icmp (k := 3) (tg := 28) (np := 12) (by decide +kernel) (by decide) la1 l4 (fun q5 => ?_) (fun q6 => ?_)
  · have q5 : (h (ra0 + 1) 2) ≤ a1 := q5
    refine x_const (np := 29) (x := 9223372039002259456) (a := 2147483648) (by decide +kernel) (by decide) (by decide) ?_
    refine x_istore (np := 31) (x := 4) (lo' := [x_r (ra0 + 1), iv_c a1, iv_c 2147483653, iv_c a3, iv_c 2147483648]) (by decide +kernel) (by decide) (Nat.le_of_ble_eq_true rfl) rfl ?_
    refine x_iload (np := 33) (x := 4) (by decide +kernel) rfl (by decide) ?_
    refine x_ifz (k := 0) (tg := 50) (np := 36) (by decide +kernel) (by decide) (by decide) (fun q7 => ?_) (fun q8 => ?_)
    · have q7 : 2147483648 = 2147483648 := q7
      refine x_retV (np := 51) (x := 0) (by decide +kernel) (by decide +kernel) ⟨rfl, ?_⟩
      exact ⟨hJ, hF⟩
    have q8 : ¬ (2147483648 = 2147483648) := q8
    exfalso; omega
  have q6 : ¬ ((h (ra0 + 1) 2) ≤ a1) := q6
  refine x_iload (np := 13) (x := 2) (by decide +kernel) rfl (by decide) ?_
  refine x_ifz (k := 2) (tg := 28) (np := 16) (by decide +kernel) (by decide) (by decide) (fun q9 => ?_) (fun q10 => ?_)
  · have q9 : 2147483653 < 2147483648 := q9
    exfalso; omega
  have q10 : ¬ (2147483653 < 2147483648) := q10
  refine x_iload (np := 17) (x := 2) (by decide +kernel) rfl (by decide) ?_
  refine x_aload (np := 18) (x := 0) (by decide +kernel) rfl (x_nc_le (tn_1 ta0)) ?_
  have b11 := jB (e := 0) 0 hJ (rg_T1_0_0_1 ta0) (by first | decide | omega) (by first | decide | omega)
  have q12 : (h (ra0 + 1) 0) = 2147483655 := by first | decide | omega
  refine x_getC (np := 21) (x := 384) (f := 0) (q := 2147483655) (by decide +kernel) (by decide) (tg_1_384_0_0 ta0) q12 (fun l13 => ?_)
  refine x_icmp (k := 3) (tg := 28) (np := 24) (by decide +kernel) (by decide) (by decide) (by decide) (fun q14 => ?_) (fun q15 => ?_)
  · have q14 : 2147483655 ≤ 2147483653 := q14
    exfalso; omega
  have q15 : ¬ (2147483655 ≤ 2147483653) := q15
  refine x_const (np := 25) (x := 9223372043297226753) (a := 2147483649) (by decide +kernel) (by decide) (by decide) ?_
  refine x_goto (np := 28) (x := 29) (by decide +kernel) ?_
  refine x_istore (np := 31) (x := 4) (lo' := [x_r (ra0 + 1), iv_c a1, iv_c 2147483653, iv_c a3, iv_c 2147483649]) (by decide +kernel) (by decide) (Nat.le_of_ble_eq_true rfl) rfl ?_
  refine x_iload (np := 33) (x := 4) (by decide +kernel) rfl (by decide) ?_
  refine x_ifz (k := 0) (tg := 50) (np := 36) (by decide +kernel) (by decide) (by decide) (fun q16 => ?_) (fun q17 => ?_)
  · have q16 : 2147483649 = 2147483648 := q16
    exfalso; omega
  have q17 : ¬ (2147483649 = 2147483648) := q17
  refine x_aload (np := 37) (x := 0) (by decide +kernel) rfl (x_nc_le (tn_1 ta0)) ?_
  have q18 : h (ra0 + 1) 1 = (ra0 + 2) := tf_1_1 hJ ta0
  refine x_getR (np := 40) (x := 385) (f := 1) (q := (ra0 + 2)) (by decide +kernel) (by decide) (tg_1_385_1_1 ta0) q18 ?_
  refine x_iload (np := 41) (x := 1) (by decide +kernel) rfl la1 ?_
  refine x_aload (np := 42) (x := 0) (by decide +kernel) rfl (x_nc_le (tn_1 ta0)) ?_
  refine x_getC (np := 45) (x := 384) (f := 0) (q := 2147483655) (by decide +kernel) (by decide) (tg_1_384_0_0 ta0) q12 (fun l19 => ?_)
  obtain ⟨u20, q21⟩ : ∃ z, a1 = 2147483648 + z := ⟨a1 - 2147483648, by first | decide | omega⟩
  refine x_imul (np := 46) (x := 0) (i := u20) (j := 7) (v := (2147483648 + 7 * u20)) (by decide +kernel) (by first | decide | omega) (by first | decide | omega) (by first | decide | omega) (by first | decide | omega) la1 (by decide) ?_
  refine x_iload (np := 47) (x := 2) (by decide +kernel) rfl (by decide) ?_
  refine x_iadd (np := 48) (x := 0) (v := (2147483653 + 7 * u20)) (by decide +kernel) (by first | decide | omega) (by decide) (by first | decide | omega) (by first | decide | omega) ?_
  refine x_iload (np := 49) (x := 3) (by decide +kernel) rfl la3 ?_
  refine x_ast (np := 50) (x := 0) (kd := 1) (n := 140) (i := (5 + 7 * u20)) (by decide +kernel) (Or.inl rfl) (ta_2_140 ta0) (by first | decide | omega) (by first | decide | omega) (by decide) la3 (fun z => absurd z (by decide)) ?_
  have j24 := jU (e := (5 + 7 * u20)) (v := a3) u20 hJ (rg_T2_5_7_20 ta0) (by first | decide | omega) (by first | decide | omega) (by first | decide | omega)
  have f26 := jF (e := (5 + 7 * u20)) (v := a3) u20 hF (rg_T2_5_7_20 ta0) (by first | decide | omega) (by first | decide | omega) (by decide)
  generalize e25 : x_up h (ra0 + 2) (5 + 7 * u20) a3 = h23 at j24 f26 ⊢
  refine x_retV (np := 51) (x := 0) (by decide +kernel) (by decide +kernel) ⟨rfl, ?_⟩
  exact ⟨j24, f26⟩
