/-! ===== methods ===== -/
set_option maxHeartbeats 0 in
/-- LentNames$Table.put(III)V -/
theorem c69_T5 {sc : Nat × Nat} {d ra0 a1 a2 a3 : Nat} {h : xh} (hJ : J h) (ta0 : tw ra0) (ba1 : 2147483648 ≤ a1 ∧ a1 ≤ 2147483657) (ba2 : 2147483648 ≤ a2 ∧ a2 ≤ 2147483652) (ba3 : 2147483648 ≤ a3 ∧ a3 ≤ 2147483648) : X sc 69 d (xV fun h' => J h' ∧ Fr 129 h h') 0 0 0 [x_r (ra0 + 5), iv_c a1, iv_c a2, iv_c a3, 147573952589676412928] [] h := by
  have la1 : a1 < 4294967296 := by first | decide | omega
  have la2 : a2 < 4294967296 := by first | decide | omega
  have la3 : a3 < 4294967296 := by first | decide | omega
  have hF := Fr.refl 129 h
  refine x_iload (np := 1) (x := 1) (by decide +kernel) rfl la1 ?_
  refine x_ifz (k := 2) (tg := 28) (np := 4) (by decide +kernel) (by decide) la1 (fun q1 => ?_) (fun q2 => ?_)
  · have q1 : a1 < 2147483648 := q1
    exfalso; omega
  have q2 : ¬ (a1 < 2147483648) := q2
  refine x_iload (np := 5) (x := 1) (by decide +kernel) rfl la1 ?_
  refine x_aload (np := 6) (x := 0) (by decide +kernel) rfl (x_nc_le (tn_5 ta0)) ?_
  have b3 := jB (e := 2) 0 hJ (rg_T5_2_0_1 ta0) (by first | decide | omega) (by first | decide | omega)
  refine x_getC (np := 9) (x := 386) (f := 2) (q := (h (ra0 + 5) 2)) (by decide +kernel) (by decide) (tg_5_386_2_0 ta0) rfl (fun l4 => ?_)
  refine x_icmp (k := 3) (tg := 28) (np := 12) (by decide +kernel) (by decide) la1 l4 (fun q5 => ?_) (fun q6 => ?_)
  · have q5 : (h (ra0 + 5) 2) ≤ a1 := q5
    refine x_const (np := 29) (x := 9223372039002259456) (a := 2147483648) (by decide +kernel) (by decide) (by decide) ?_
    refine x_istore (np := 31) (x := 4) (lo' := [x_r (ra0 + 5), iv_c a1, iv_c a2, iv_c a3, iv_c 2147483648]) (by decide +kernel) (by decide) (Nat.le_of_ble_eq_true rfl) rfl ?_
    refine x_iload (np := 33) (x := 4) (by decide +kernel) rfl (by decide) ?_
    refine x_ifz (k := 0) (tg := 50) (np := 36) (by decide +kernel) (by decide) (by decide) (fun q7 => ?_) (fun q8 => ?_)
    · have q7 : 2147483648 = 2147483648 := q7
      refine x_retV (np := 51) (x := 0) (by decide +kernel) (by decide +kernel) ⟨rfl, ?_⟩
      exact ⟨hJ, hF⟩
    have q8 : ¬ (2147483648 = 2147483648) := q8
    exfalso; omega
  have q6 : ¬ ((h (ra0 + 5) 2) ≤ a1) := q6
  refine x_iload (np := 13) (x := 2) (by decide +kernel) rfl la2 ?_
  refine x_ifz (k := 2) (tg := 28) (np := 16) (by decide +kernel) (by decide) la2 (fun q9 => ?_) (fun q10 => ?_)
  · have q9 : a2 < 2147483648 := q9
    exfalso; omega
  have q10 : ¬ (a2 < 2147483648) := q10
  refine x_iload (np := 17) (x := 2) (by decide +kernel) rfl la2 ?_
  refine x_aload (np := 18) (x := 0) (by decide +kernel) rfl (x_nc_le (tn_5 ta0)) ?_
  have b11 := jB (e := 0) 0 hJ (rg_T5_0_0_1 ta0) (by first | decide | omega) (by first | decide | omega)
  have q12 : (h (ra0 + 5) 0) = 2147483652 := by first | decide | omega
  refine x_getC (np := 21) (x := 384) (f := 0) (q := 2147483652) (by decide +kernel) (by decide) (tg_5_384_0_0 ta0) q12 (fun l13 => ?_)
  refine x_icmp (k := 3) (tg := 28) (np := 24) (by decide +kernel) (by decide) la2 (by decide) (fun q14 => ?_) (fun q15 => ?_)
  · have q14 : 2147483652 ≤ a2 := q14
    refine x_const (np := 29) (x := 9223372039002259456) (a := 2147483648) (by decide +kernel) (by decide) (by decide) ?_
    refine x_istore (np := 31) (x := 4) (lo' := [x_r (ra0 + 5), iv_c a1, iv_c a2, iv_c a3, iv_c 2147483648]) (by decide +kernel) (by decide) (Nat.le_of_ble_eq_true rfl) rfl ?_
    refine x_iload (np := 33) (x := 4) (by decide +kernel) rfl (by decide) ?_
    refine x_ifz (k := 0) (tg := 50) (np := 36) (by decide +kernel) (by decide) (by decide) (fun q16 => ?_) (fun q17 => ?_)
    · have q16 : 2147483648 = 2147483648 := q16
      refine x_retV (np := 51) (x := 0) (by decide +kernel) (by decide +kernel) ⟨rfl, ?_⟩
      exact ⟨hJ, hF⟩
    have q17 : ¬ (2147483648 = 2147483648) := q17
    exfalso; omega
  have q15 : ¬ (2147483652 ≤ a2) := q15
  refine x_const (np := 25) (x := 9223372043297226753) (a := 2147483649) (by decide +kernel) (by decide) (by decide) ?_
  refine x_goto (np := 28) (x := 29) (by decide +kernel) ?_
  refine x_istore (np := 31) (x := 4) (lo' := [x_r (ra0 + 5), iv_c a1, iv_c a2, iv_c a3, iv_c 2147483649]) (by decide +kernel) (by decide) (Nat.le_of_ble_eq_true rfl) rfl ?_
  refine x_iload (np := 33) (x := 4) (by decide +kernel) rfl (by decide) ?_
  refine x_ifz (k := 0) (tg := 50) (np := 36) (by decide +kernel) (by decide) (by decide) (fun q18 => ?_) (fun q19 => ?_)
  · have q18 : 2147483649 = 2147483648 := q18
    exfalso; omega
  have q19 : ¬ (2147483649 = 2147483648) := q19
  refine x_aload (np := 37) (x := 0) (by decide +kernel) rfl (x_nc_le (tn_5 ta0)) ?_
  have q20 : h (ra0 + 5) 1 = (ra0 + 6) := tf_5_1 hJ ta0
  refine x_getR (np := 40) (x := 385) (f := 1) (q := (ra0 + 6)) (by decide +kernel) (by decide) (tg_5_385_1_1 ta0) q20 ?_
  refine x_iload (np := 41) (x := 1) (by decide +kernel) rfl la1 ?_
  refine x_aload (np := 42) (x := 0) (by decide +kernel) rfl (x_nc_le (tn_5 ta0)) ?_
  refine x_getC (np := 45) (x := 384) (f := 0) (q := 2147483652) (by decide +kernel) (by decide) (tg_5_384_0_0 ta0) q12 (fun l21 => ?_)
  obtain ⟨u22, q23⟩ : ∃ z, a1 = 2147483648 + z := ⟨a1 - 2147483648, by first | decide | omega⟩
  refine x_imul (np := 46) (x := 0) (i := u22) (j := 4) (v := (2147483648 + 4 * u22)) (by decide +kernel) (by first | decide | omega) (by first | decide | omega) (by first | decide | omega) (by first | decide | omega) la1 (by decide) ?_
  refine x_iload (np := 47) (x := 2) (by decide +kernel) rfl la2 ?_
  refine x_iadd (np := 48) (x := 0) (v := (4 * u22 + a2)) (by decide +kernel) (by first | decide | omega) la2 (by first | decide | omega) (by first | decide | omega) ?_
  refine x_iload (np := 49) (x := 3) (by decide +kernel) rfl la3 ?_
  obtain ⟨u25, q26⟩ : ∃ z, a2 = 2147483648 + z := ⟨a2 - 2147483648, by first | decide | omega⟩
  refine x_ast (np := 50) (x := 0) (kd := 1) (n := 40) (i := (4 * u22 + u25)) (by decide +kernel) (Or.inl rfl) (ta_6_40 ta0) (by first | decide | omega) (by first | decide | omega) (by decide) la3 (fun z => absurd z (by decide)) ?_
  have j28 := jU (e := (4 * u22 + u25)) (v := a3) (4 * u22 + u25) hJ (rg_T6_0_1_40 ta0) (by first | decide | omega) (by first | decide | omega) (by first | decide | omega)
  have f30 := jF (e := (4 * u22 + u25)) (v := a3) (4 * u22 + u25) hF (rg_T6_0_1_40 ta0) (by first | decide | omega) (by first | decide | omega) (by decide)
  generalize e29 : x_up h (ra0 + 6) (4 * u22 + u25) a3 = h27 at j28 f30 ⊢
  refine x_retV (np := 51) (x := 0) (by decide +kernel) (by decide +kernel) ⟨rfl, ?_⟩
  exact ⟨j28, f30⟩
set_option maxHeartbeats 0 in
/-- LentNames$Table.addRow()I -/
theorem c67_T5 {sc : Nat × Nat} {d ra0 : Nat} {h : xh} (hJ : J h) (ta0 : tw ra0) (hr0 : (h (ra0 + 5) 2) + 1 ≤ 2147483658) : X sc 67 (d + 1) (xI fun r h' => J h' ∧ Fr 281474976710785 h h' ∧ (2147483648 ≤ r ∧ r ≤ 2147483657) ∧ (h' ra0 7 = h ra0 7) ∧ (h' ra0 8 = h ra0 8) ∧ (h' (ra0 + 1) 2 = h (ra0 + 1) 2) ∧ (h' (ra0 + 3) 2 = h (ra0 + 3) 2) ∧ (h' (ra0 + 5) 2 = h (ra0 + 5) 2 + 1) ∧ (h' (ra0 + 7) 2 = h (ra0 + 7) 2) ∧ (r + 1 = h' (ra0 + 5) 2) ∧ Ot ra0 h h') 0 0 0 [x_r (ra0 + 5), 147573952589676412928] [] h := by
  have hF := Fr.refl 281474976710785 h
  have b1 := jB (e := 2) 0 hJ (rg_T5_2_0_1 ta0) (by first | decide | omega) (by first | decide | omega)
  refine x_aload (np := 1) (x := 0) (by decide +kernel) rfl (x_nc_le (tn_5 ta0)) ?_
  refine x_nI (t := 6) (mj := 66) (n := 1) (rc := 7) (ml := 1) (nr := 0) (np := 4) (as := [x_r (ra0 + 5)]) (rest := []) (lo1 := [x_r (ra0 + 5)]) (by decide +kernel) (by decide) (by decide +kernel) (x_rb_of (tr_5_7 ta0)) rfl rfl (x_wr (tn_5 ta0) x_wn) x_wn (by decide) rfl ?_
  refine x_aload (np := 1) (x := 0) (by decide +kernel) rfl (x_nc_le (tn_5 ta0)) ?_
  refine x_getC (np := 4) (x := 386) (f := 2) (q := (h (ra0 + 5) 2)) (by decide +kernel) (by decide) (tg_5_386_2_0 ta0) rfl (fun l2 => ?_)
  refine x_const (np := 5) (x := 9223372043297226753) (a := 2147483649) (by decide +kernel) (by decide) (by decide) ?_
  refine x_iadd (np := 6) (x := 0) (v := (1 + (h (ra0 + 5) 2))) (by decide +kernel) l2 (by decide) (by first | decide | omega) (by first | decide | omega) ?_
  refine x_aload (np := 7) (x := 0) (by decide +kernel) rfl (x_nc_le (tn_5 ta0)) ?_
  have b3 := jB (e := 0) 0 hJ (rg_T5_0_0_1 ta0) (by first | decide | omega) (by first | decide | omega)
  have q4 : (h (ra0 + 5) 0) = 2147483652 := by first | decide | omega
  refine x_getC (np := 10) (x := 384) (f := 0) (q := 2147483652) (by decide +kernel) (by decide) (tg_5_384_0_0 ta0) q4 (fun l5 => ?_)
  obtain ⟨u6, q7⟩ : ∃ z, (h (ra0 + 5) 2) = 2147483648 + z := ⟨(h (ra0 + 5) 2) - 2147483648, by first | decide | omega⟩
  refine x_imul (np := 11) (x := 0) (i := (1 + u6)) (j := 4) (v := (2147483652 + 4 * u6)) (by decide +kernel) (by first | decide | omega) (by first | decide | omega) (by first | decide | omega) (by first | decide | omega) (by first | decide | omega) (by decide) ?_
  refine x_aload (np := 12) (x := 0) (by decide +kernel) rfl (x_nc_le (tn_5 ta0)) ?_
  have q9 : h (ra0 + 5) 1 = (ra0 + 6) := tf_5_1 hJ ta0
  refine x_getR (np := 15) (x := 385) (f := 1) (q := (ra0 + 6)) (by decide +kernel) (by decide) (tg_5_385_1_1 ta0) q9 ?_
  refine x_alen (np := 16) (x := 0) (n := 40) (by decide +kernel) (tn_6 ta0) (tl_6 ta0).1 (tl_6 ta0).2 (by decide) ?_
  show X _ _ _ _ _ _ _ _ [iv_c 2147483688, iv_c (2147483652 + 4 * u6)] _
  refine x_icmp (k := 5) (tg := 23) (np := 19) (by decide +kernel) (by decide) (by first | decide | omega) (by decide) (fun q10 => ?_) (fun q11 => ?_)
  · have q10 : (2147483652 + 4 * u6) ≤ 2147483688 := q10
    refine x_const (np := 24) (x := 9223372039002259456) (a := 2147483648) (by decide +kernel) (by decide) (by decide) ?_
    refine x_retI (np := 25) (x := 0) (by decide +kernel) (by decide) (Or.inr ⟨by decide +kernel, by first | decide | omega, by first | decide | omega⟩) ⟨_, rfl, (by decide), ?_⟩
    refine x_ifz (k := 0) (tg := 9) (np := 7) (by decide +kernel) (by decide) (by decide) (fun q12 => ?_) (fun q13 => ?_)
    · have q12 : 2147483648 = 2147483648 := q12
      refine x_aload (np := 10) (x := 0) (by decide +kernel) rfl (x_nc_le (tn_5 ta0)) ?_
      refine x_dup (np := 11) (x := 0) (by decide +kernel) (by have z := x_nc_le (k := (ra0 + 5)) (tn_5 ta0); unfold x_r; omega) ?_
      refine x_getC (np := 14) (x := 386) (f := 2) (q := (h (ra0 + 5) 2)) (by decide +kernel) (by decide) (tg_5_386_2_0 ta0) rfl (fun l14 => ?_)
      refine x_const (np := 15) (x := 9223372043297226753) (a := 2147483649) (by decide +kernel) (by decide) (by decide) ?_
      refine x_iadd (np := 16) (x := 0) (v := (1 + (h (ra0 + 5) 2))) (by decide +kernel) l2 (by decide) (by first | decide | omega) (by first | decide | omega) ?_
      refine x_putI (np := 19) (x := 386) (f := 2) (by decide +kernel) (tg_5_386_2_0 ta0) (by first | decide | omega) (Or.inl (by decide)) ?_
      have j16 := jU (e := 2) (v := (1 + (h (ra0 + 5) 2))) 0 hJ (rg_T5_2_0_1 ta0) (by first | decide | omega) (by first | decide | omega) (by first | decide | omega)
      have f18 := jF (e := 2) (v := (1 + (h (ra0 + 5) 2))) 0 hF (rg_T5_2_0_1 ta0) (by first | decide | omega) (by first | decide | omega) (by decide)
      generalize e17 : x_up h (ra0 + 5) 2 (1 + (h (ra0 + 5) 2)) = h15 at j16 f18 ⊢
      refine x_const (np := 20) (x := 9223372039002259456) (a := 2147483648) (by decide +kernel) (by decide) (by decide) ?_
      refine x_istore (np := 21) (x := 1) (lo' := [x_r (ra0 + 5), iv_c 2147483648]) (by decide +kernel) (by decide) (Nat.le_of_ble_eq_true rfl) rfl ?_
      have p111 : ∀ (n : Nat) (v106 : Nat) (h108 : xh), 4294967296 - v106 < n → (2147483648 ≤ v106 ∧ v106 ≤ 2147483652) → J h108 → Fr 129 h15 h108 → Ot ra0 h h108 → X sc 67 (d + 1) (xI fun r h' => J h' ∧ Fr 281474976710785 h h' ∧ (2147483648 ≤ r ∧ r ≤ 2147483657) ∧ (h' ra0 7 = h ra0 7) ∧ (h' ra0 8 = h ra0 8) ∧ (h' (ra0 + 1) 2 = h (ra0 + 1) 2) ∧ (h' (ra0 + 3) 2 = h (ra0 + 3) 2) ∧ (h' (ra0 + 5) 2 = h (ra0 + 5) 2 + 1) ∧ (h' (ra0 + 7) 2 = h (ra0 + 7) 2) ∧ (r + 1 = h' (ra0 + 5) 2) ∧ Ot ra0 h h') 0 0 21 [x_r (ra0 + 5), iv_c v106] [] h108 := by
        intro n
        induction n with
        | zero => intro v106 h108 q113; exact absurd q113 (Nat.not_lt_zero _)
        | succ n i114 =>
          intro v106 h108 q113 b107 j110 f109 m112
          have f115 := Fr.trans f18 f109 (by decide)
          refine x_iload (np := 22) (x := 1) (by decide +kernel) rfl (by first | decide | omega) ?_
          refine x_aload (np := 23) (x := 0) (by decide +kernel) rfl (x_nc_le (tn_5 ta0)) ?_
          have b116 := jB (e := 0) 0 j110 (rg_T5_0_0_1 ta0) (by first | decide | omega) (by first | decide | omega)
          have q117 : (h108 (ra0 + 5) 0) = 2147483652 := by first | decide | omega
          refine x_getC (np := 26) (x := 384) (f := 0) (q := 2147483652) (by decide +kernel) (by decide) (tg_5_384_0_0 ta0) q117 (fun l118 => ?_)
          refine x_icmp (k := 3) (tg := 47) (np := 29) (by decide +kernel) (by decide) (by first | decide | omega) (by decide) (fun q119 => ?_) (fun q120 => ?_)
          · have q119 : 2147483652 ≤ v106 := q119
            refine x_aload (np := 48) (x := 0) (by decide +kernel) rfl (x_nc_le (tn_5 ta0)) ?_
            have q121 : h108 (ra0 + 5) 2 = h15 (ra0 + 5) 2 := jK 0 f109 (rg_T5_2_0_1 ta0) (by first | decide | omega) (by first | decide | omega) (by decide)
            have q122 : h15 (ra0 + 5) 2 = (1 + (h (ra0 + 5) 2)) := by rw [← e17]; exact x_up_at
            refine x_getC (np := 51) (x := 386) (f := 2) (q := (1 + (h (ra0 + 5) 2))) (by decide +kernel) (by decide) (tg_5_386_2_0 ta0) (q121.trans q122) (fun l123 => ?_)
            refine x_const (np := 52) (x := 9223372043297226753) (a := 2147483649) (by decide +kernel) (by decide) (by decide) ?_
            refine x_isub (np := 53) (x := 0) (v := (h (ra0 + 5) 2)) (by decide +kernel) (by first | decide | omega) (by decide) (by first | decide | omega) (by first | decide | omega) ?_
            have b124 := jB (e := 7) 0 hJ (rg_T0_7_0_1 ta0) (by first | decide | omega) (by first | decide | omega)
            have q125 : h108 ra0 7 = h15 ra0 7 := jK 0 f109 (rg_T0_7_0_1 ta0) (by first | decide | omega) (by first | decide | omega) (by decide)
            have q126 : h15 ra0 7 = h ra0 7 := by rw [← e17]; exact x_up_k tof_0_5
            have q127 : h108 ra0 8 = h15 ra0 8 := jK 0 f109 (rg_T0_8_0_1 ta0) (by first | decide | omega) (by first | decide | omega) (by decide)
            have q128 : h15 ra0 8 = h ra0 8 := by rw [← e17]; exact x_up_k tof_0_5
            have b129 := jB (e := 2) 0 hJ (rg_T1_2_0_1 ta0) (by first | decide | omega) (by first | decide | omega)
            have q130 : h108 (ra0 + 1) 2 = h15 (ra0 + 1) 2 := jK 0 f109 (rg_T1_2_0_1 ta0) (by first | decide | omega) (by first | decide | omega) (by decide)
            have q131 : h15 (ra0 + 1) 2 = h (ra0 + 1) 2 := by rw [← e17]; exact x_up_k tof_1_5
            have b132 := jB (e := 2) 0 hJ (rg_T3_2_0_1 ta0) (by first | decide | omega) (by first | decide | omega)
            have q133 : h108 (ra0 + 3) 2 = h15 (ra0 + 3) 2 := jK 0 f109 (rg_T3_2_0_1 ta0) (by first | decide | omega) (by first | decide | omega) (by decide)
            have q134 : h15 (ra0 + 3) 2 = h (ra0 + 3) 2 := by rw [← e17]; exact x_up_k tof_3_5
            have q135 : h108 (ra0 + 5) 2 = h15 (ra0 + 5) 2 := jK 0 f109 (rg_T5_2_0_1 ta0) (by first | decide | omega) (by first | decide | omega) (by decide)
            have q136 : h15 (ra0 + 5) 2 = (1 + (h (ra0 + 5) 2)) := by rw [← e17]; exact x_up_at
            have b137 := jB (e := 2) 0 hJ (rg_T7_2_0_1 ta0) (by first | decide | omega) (by first | decide | omega)
            have q138 : h108 (ra0 + 7) 2 = h15 (ra0 + 7) 2 := jK 0 f109 (rg_T7_2_0_1 ta0) (by first | decide | omega) (by first | decide | omega) (by decide)
            have q139 : h15 (ra0 + 7) 2 = h (ra0 + 7) 2 := by rw [← e17]; exact x_up_k tof_7_5
            have q140 : h108 (ra0 + 5) 2 = h15 (ra0 + 5) 2 := jK 0 f109 (rg_T5_2_0_1 ta0) (by first | decide | omega) (by first | decide | omega) (by decide)
            have q141 : h15 (ra0 + 5) 2 = (1 + (h (ra0 + 5) 2)) := by rw [← e17]; exact x_up_at
            refine x_retI (np := 54) (x := 0) (by decide +kernel) l2 (Or.inl (by decide +kernel)) ⟨_, rfl, l2, ?_⟩
            exact ⟨j110, f115, (by first | decide | omega), (by first | decide | omega), (by first | decide | omega), (by first | decide | omega), (by first | decide | omega), (by first | decide | omega), (by first | decide | omega), (by first | decide | omega), m112⟩
          have q120 : ¬ (2147483652 ≤ v106) := q120
          refine x_aload (np := 30) (x := 0) (by decide +kernel) rfl (x_nc_le (tn_5 ta0)) ?_
          refine x_aload (np := 31) (x := 0) (by decide +kernel) rfl (x_nc_le (tn_5 ta0)) ?_
          have q142 : h108 (ra0 + 5) 2 = h15 (ra0 + 5) 2 := jK 0 f109 (rg_T5_2_0_1 ta0) (by first | decide | omega) (by first | decide | omega) (by decide)
          have q143 : h15 (ra0 + 5) 2 = (1 + (h (ra0 + 5) 2)) := by rw [← e17]; exact x_up_at
          refine x_getC (np := 34) (x := 386) (f := 2) (q := (1 + (h (ra0 + 5) 2))) (by decide +kernel) (by decide) (tg_5_386_2_0 ta0) (q142.trans q143) (fun l144 => ?_)
          refine x_const (np := 35) (x := 9223372043297226753) (a := 2147483649) (by decide +kernel) (by decide) (by decide) ?_
          refine x_isub (np := 36) (x := 0) (v := (h (ra0 + 5) 2)) (by decide +kernel) (by first | decide | omega) (by decide) (by first | decide | omega) (by first | decide | omega) ?_
          refine x_iload (np := 37) (x := 1) (by decide +kernel) rfl (by first | decide | omega) ?_
          refine x_const (np := 38) (x := 9223372039002259456) (a := 2147483648) (by decide +kernel) (by decide) (by decide) ?_
          refine x_cV (t := 6) (mj := 69) (n := 4) (rc := 7) (ml := 5) (nr := 0) (np := 41) (as := [x_r (ra0 + 5), iv_c (h (ra0 + 5) 2), iv_c v106, iv_c 2147483648]) (rest := []) (lo1 := [x_r (ra0 + 5), iv_c (h (ra0 + 5) 2), iv_c v106, iv_c 2147483648, 147573952589676412928]) (by decide +kernel) (by decide) (by decide +kernel) (x_rb_of (tr_5_7 ta0)) rfl rfl (x_wr (tn_5 ta0) (x_wi l2 (x_wi (by first | decide | omega) (x_wi (by decide) x_wn)))) x_wn (by decide) rfl (c69_T5 j110 ta0 (by first | decide | omega) (by first | decide | omega) (by first | decide | omega)) (fun h148 q147 => ?_)
          obtain ⟨j149, f150⟩ := q147
          have f153 := Fr.trans f115 f150 (by decide)
          have f154 := Fr.trans f109 f150 (by decide)
          refine x_iinc (np := 44) (i := 1) (j := 2147483649) (v := (1 + v106)) (lo' := [x_r (ra0 + 5), iv_c (1 + v106)]) (by decide +kernel) (by decide) (by decide) rfl (by first | decide | omega) (by first | decide | omega) (by first | decide | omega) rfl ?_
          refine x_goto (np := 47) (x := 21) (by decide +kernel) ?_
          have m155 : Ot ra0 h h148 := Ot.fr m112 f150 (by decide)
          exact i114 (1 + v106) h148 (by first | decide | omega) (by first | decide | omega) j149 f154 m155
      have m156 : Ot ra0 h h15 := by rw [← e17]; exact Ot.up (o := 5) Ot.refl ta0 (by decide) rfl
      exact p111 _ 2147483648 h15 (Nat.lt_succ_self _) (by first | decide | omega) j16 (Fr.refl _ _) m156
    have q13 : ¬ (2147483648 = 2147483648) := q13
    exfalso; omega
  have q11 : ¬ ((2147483652 + 4 * u6) ≤ 2147483688) := q11
  exfalso; omega
set_option maxHeartbeats 0 in
/-- LentNames$Table.put(III)V -/
theorem c69_T5_c1 {sc : Nat × Nat} {d ra0 a1 a3 : Nat} {h : xh} (hJ : J h) (ta0 : tw ra0) (ba1 : 2147483648 ≤ a1 ∧ a1 ≤ 2147483657) (ba3 : 2147483648 ≤ a3 ∧ a3 ≤ 2147483653) : X sc 69 d (xV fun h' => J h' ∧ Fr 129 h h') 0 0 0 [x_r (ra0 + 5), iv_c a1, iv_c 2147483649, iv_c a3, 147573952589676412928] [] h := by
  have la1 : a1 < 4294967296 := by first | decide | omega
  have la3 : a3 < 4294967296 := by first | decide | omega
  have hF := Fr.refl 129 h
  refine x_iload (np := 1) (x := 1) (by decide +kernel) rfl la1 ?_
  refine x_ifz (k := 2) (tg := 28) (np := 4) (by decide +kernel) (by decide) la1 (fun q1 => ?_) (fun q2 => ?_)
  · have q1 : a1 < 2147483648 := q1
    exfalso; omega
  have q2 : ¬ (a1 < 2147483648) := q2
  refine x_iload (np := 5) (x := 1) (by decide +kernel) rfl la1 ?_
  refine x_aload (np := 6) (x := 0) (by decide +kernel) rfl (x_nc_le (tn_5 ta0)) ?_
  have b3 := jB (e := 2) 0 hJ (rg_T5_2_0_1 ta0) (by first | decide | omega) (by first | decide | omega)
  refine x_getC (np := 9) (x := 386) (f := 2) (q := (h (ra0 + 5) 2)) (by decide +kernel) (by decide) (tg_5_386_2_0 ta0) rfl (fun l4 => ?_)
  refine x_icmp (k := 3) (tg := 28) (np := 12) (by decide +kernel) (by decide) la1 l4 (fun q5 => ?_) (fun q6 => ?_)
  · have q5 : (h (ra0 + 5) 2) ≤ a1 := q5
    refine x_const (np := 29) (x := 9223372039002259456) (a := 2147483648) (by decide +kernel) (by decide) (by decide) ?_
    refine x_istore (np := 31) (x := 4) (lo' := [x_r (ra0 + 5), iv_c a1, iv_c 2147483649, iv_c a3, iv_c 2147483648]) (by decide +kernel) (by decide) (Nat.le_of_ble_eq_true rfl) rfl ?_
    refine x_iload (np := 33) (x := 4) (by decide +kernel) rfl (by decide) ?_
    refine x_ifz (k := 0) (tg := 50) (np := 36) (by decide +kernel) (by decide) (by decide) (fun q7 => ?_) (fun q8 => ?_)
    · have q7 : 2147483648 = 2147483648 := q7
      refine x_retV (np := 51) (x := 0) (by decide +kernel) (by decide +kernel) ⟨rfl, ?_⟩
      exact ⟨hJ, hF⟩
    have q8 : ¬ (2147483648 = 2147483648) := q8
    exfalso; omega
  have q6 : ¬ ((h (ra0 + 5) 2) ≤ a1) := q6
  refine x_iload (np := 13) (x := 2) (by decide +kernel) rfl (by decide) ?_
  refine x_ifz (k := 2) (tg := 28) (np := 16) (by decide +kernel) (by decide) (by decide) (fun q9 => ?_) (fun q10 => ?_)
  · have q9 : 2147483649 < 2147483648 := q9
    exfalso; omega
  have q10 : ¬ (2147483649 < 2147483648) := q10
  refine x_iload (np := 17) (x := 2) (by decide +kernel) rfl (by decide) ?_
  refine x_aload (np := 18) (x := 0) (by decide +kernel) rfl (x_nc_le (tn_5 ta0)) ?_
  have b11 := jB (e := 0) 0 hJ (rg_T5_0_0_1 ta0) (by first | decide | omega) (by first | decide | omega)
  have q12 : (h (ra0 + 5) 0) = 2147483652 := by first | decide | omega
  refine x_getC (np := 21) (x := 384) (f := 0) (q := 2147483652) (by decide +kernel) (by decide) (tg_5_384_0_0 ta0) q12 (fun l13 => ?_)
  refine x_icmp (k := 3) (tg := 28) (np := 24) (by decide +kernel) (by decide) (by decide) (by decide) (fun q14 => ?_) (fun q15 => ?_)
  · have q14 : 2147483652 ≤ 2147483649 := q14
    exfalso; omega
  have q15 : ¬ (2147483652 ≤ 2147483649) := q15
  refine x_const (np := 25) (x := 9223372043297226753) (a := 2147483649) (by decide +kernel) (by decide) (by decide) ?_
  refine x_goto (np := 28) (x := 29) (by decide +kernel) ?_
  refine x_istore (np := 31) (x := 4) (lo' := [x_r (ra0 + 5), iv_c a1, iv_c 2147483649, iv_c a3, iv_c 2147483649]) (by decide +kernel) (by decide) (Nat.le_of_ble_eq_true rfl) rfl ?_
  refine x_iload (np := 33) (x := 4) (by decide +kernel) rfl (by decide) ?_
  refine x_ifz (k := 0) (tg := 50) (np := 36) (by decide +kernel) (by decide) (by decide) (fun q16 => ?_) (fun q17 => ?_)
  · have q16 : 2147483649 = 2147483648 := q16
    exfalso; omega
  have q17 : ¬ (2147483649 = 2147483648) := q17
  refine x_aload (np := 37) (x := 0) (by decide +kernel) rfl (x_nc_le (tn_5 ta0)) ?_
  have q18 : h (ra0 + 5) 1 = (ra0 + 6) := tf_5_1 hJ ta0
  refine x_getR (np := 40) (x := 385) (f := 1) (q := (ra0 + 6)) (by decide +kernel) (by decide) (tg_5_385_1_1 ta0) q18 ?_
  refine x_iload (np := 41) (x := 1) (by decide +kernel) rfl la1 ?_
  refine x_aload (np := 42) (x := 0) (by decide +kernel) rfl (x_nc_le (tn_5 ta0)) ?_
  refine x_getC (np := 45) (x := 384) (f := 0) (q := 2147483652) (by decide +kernel) (by decide) (tg_5_384_0_0 ta0) q12 (fun l19 => ?_)
  obtain ⟨u20, q21⟩ : ∃ z, a1 = 2147483648 + z := ⟨a1 - 2147483648, by first | decide | omega⟩
  refine x_imul (np := 46) (x := 0) (i := u20) (j := 4) (v := (2147483648 + 4 * u20)) (by decide +kernel) (by first | decide | omega) (by first | decide | omega) (by first | decide | omega) (by first | decide | omega) la1 (by decide) ?_
  refine x_iload (np := 47) (x := 2) (by decide +kernel) rfl (by decide) ?_
  refine x_iadd (np := 48) (x := 0) (v := (2147483649 + 4 * u20)) (by decide +kernel) (by first | decide | omega) (by decide) (by first | decide | omega) (by first | decide | omega) ?_
  refine x_iload (np := 49) (x := 3) (by decide +kernel) rfl la3 ?_
  refine x_ast (np := 50) (x := 0) (kd := 1) (n := 40) (i := (1 + 4 * u20)) (by decide +kernel) (Or.inl rfl) (ta_6_40 ta0) (by first | decide | omega) (by first | decide | omega) (by decide) la3 (fun z => absurd z (by decide)) ?_
  have j24 := jU (e := (1 + 4 * u20)) (v := a3) (1 + 4 * u20) hJ (rg_T6_0_1_40 ta0) (by first | decide | omega) (by first | decide | omega) (by first | decide | omega)
  have f26 := jF (e := (1 + 4 * u20)) (v := a3) (1 + 4 * u20) hF (rg_T6_0_1_40 ta0) (by first | decide | omega) (by first | decide | omega) (by decide)
  generalize e25 : x_up h (ra0 + 6) (1 + 4 * u20) a3 = h23 at j24 f26 ⊢
  refine x_retV (np := 51) (x := 0) (by decide +kernel) (by decide +kernel) ⟨rfl, ?_⟩
  exact ⟨j24, f26⟩
set_option maxHeartbeats 0 in
/-- LentNames$Table.put(III)V -/
theorem c69_T5_c2 {sc : Nat × Nat} {d ra0 a1 a3 : Nat} {h : xh} (hJ : J h) (ta0 : tw ra0) (ba1 : 2147483648 ≤ a1 ∧ a1 ≤ 2147483657) (ba3 : 2147483648 ≤ a3 ∧ a3 ≤ 2147483659) : X sc 69 d (xV fun h' => J h' ∧ Fr 129 h h') 0 0 0 [x_r (ra0 + 5), iv_c a1, iv_c 2147483650, iv_c a3, 147573952589676412928] [] h := by
  have la1 : a1 < 4294967296 := by first | decide | omega
  have la3 : a3 < 4294967296 := by first | decide | omega
  have hF := Fr.refl 129 h
  refine x_iload (np := 1) (x := 1) (by decide +kernel) rfl la1 ?_
  refine x_ifz (k := 2) (tg := 28) (np := 4) (by decide +kernel) (by decide) la1 (fun q1 => ?_) (fun q2 => ?_)
  · have q1 : a1 < 2147483648 := q1
    exfalso; omega
  have q2 : ¬ (a1 < 2147483648) := q2
  refine x_iload (np := 5) (x := 1) (by decide +kernel) rfl la1 ?_
  refine x_aload (np := 6) (x := 0) (by decide +kernel) rfl (x_nc_le (tn_5 ta0)) ?_
  have b3 := jB (e := 2) 0 hJ (rg_T5_2_0_1 ta0) (by first | decide | omega) (by first | decide | omega)
  refine x_getC (np := 9) (x := 386) (f := 2) (q := (h (ra0 + 5) 2)) (by decide +kernel) (by decide) (tg_5_386_2_0 ta0) rfl (fun l4 => ?_)
  refine x_icmp (k := 3) (tg := 28) (np := 12) (by decide +kernel) (by decide) la1 l4 (fun q5 => ?_) (fun q6 => ?_)
  · have q5 : (h (ra0 + 5) 2) ≤ a1 := q5
    refine x_const (np := 29) (x := 9223372039002259456) (a := 2147483648) (by decide +kernel) (by decide) (by decide) ?_
    refine x_istore (np := 31) (x := 4) (lo' := [x_r (ra0 + 5), iv_c a1, iv_c 2147483650, iv_c a3, iv_c 2147483648]) (by decide +kernel) (by decide) (Nat.le_of_ble_eq_true rfl) rfl ?_
    refine x_iload (np := 33) (x := 4) (by decide +kernel) rfl (by decide) ?_
    refine x_ifz (k := 0) (tg := 50) (np := 36) (by decide +kernel) (by decide) (by decide) (fun q7 => ?_) (fun q8 => ?_)
    · have q7 : 2147483648 = 2147483648 := q7
      refine x_retV (np := 51) (x := 0) (by decide +kernel) (by decide +kernel) ⟨rfl, ?_⟩
      exact ⟨hJ, hF⟩
    have q8 : ¬ (2147483648 = 2147483648) := q8
    exfalso; omega
  have q6 : ¬ ((h (ra0 + 5) 2) ≤ a1) := q6
  refine x_iload (np := 13) (x := 2) (by decide +kernel) rfl (by decide) ?_
  refine x_ifz (k := 2) (tg := 28) (np := 16) (by decide +kernel) (by decide) (by decide) (fun q9 => ?_) (fun q10 => ?_)
  · have q9 : 2147483650 < 2147483648 := q9
    exfalso; omega
  have q10 : ¬ (2147483650 < 2147483648) := q10
  refine x_iload (np := 17) (x := 2) (by decide +kernel) rfl (by decide) ?_
  refine x_aload (np := 18) (x := 0) (by decide +kernel) rfl (x_nc_le (tn_5 ta0)) ?_
  have b11 := jB (e := 0) 0 hJ (rg_T5_0_0_1 ta0) (by first | decide | omega) (by first | decide | omega)
  have q12 : (h (ra0 + 5) 0) = 2147483652 := by first | decide | omega
  refine x_getC (np := 21) (x := 384) (f := 0) (q := 2147483652) (by decide +kernel) (by decide) (tg_5_384_0_0 ta0) q12 (fun l13 => ?_)
  refine x_icmp (k := 3) (tg := 28) (np := 24) (by decide +kernel) (by decide) (by decide) (by decide) (fun q14 => ?_) (fun q15 => ?_)
  · have q14 : 2147483652 ≤ 2147483650 := q14
    exfalso; omega
  have q15 : ¬ (2147483652 ≤ 2147483650) := q15
  refine x_const (np := 25) (x := 9223372043297226753) (a := 2147483649) (by decide +kernel) (by decide) (by decide) ?_
  refine x_goto (np := 28) (x := 29) (by decide +kernel) ?_
  refine x_istore (np := 31) (x := 4) (lo' := [x_r (ra0 + 5), iv_c a1, iv_c 2147483650, iv_c a3, iv_c 2147483649]) (by decide +kernel) (by decide) (Nat.le_of_ble_eq_true rfl) rfl ?_
  refine x_iload (np := 33) (x := 4) (by decide +kernel) rfl (by decide) ?_
  refine x_ifz (k := 0) (tg := 50) (np := 36) (by decide +kernel) (by decide) (by decide) (fun q16 => ?_) (fun q17 => ?_)
  · have q16 : 2147483649 = 2147483648 := q16
    exfalso; omega
  have q17 : ¬ (2147483649 = 2147483648) := q17
  refine x_aload (np := 37) (x := 0) (by decide +kernel) rfl (x_nc_le (tn_5 ta0)) ?_
  have q18 : h (ra0 + 5) 1 = (ra0 + 6) := tf_5_1 hJ ta0
  refine x_getR (np := 40) (x := 385) (f := 1) (q := (ra0 + 6)) (by decide +kernel) (by decide) (tg_5_385_1_1 ta0) q18 ?_
  refine x_iload (np := 41) (x := 1) (by decide +kernel) rfl la1 ?_
  refine x_aload (np := 42) (x := 0) (by decide +kernel) rfl (x_nc_le (tn_5 ta0)) ?_
  refine x_getC (np := 45) (x := 384) (f := 0) (q := 2147483652) (by decide +kernel) (by decide) (tg_5_384_0_0 ta0) q12 (fun l19 => ?_)
  obtain ⟨u20, q21⟩ : ∃ z, a1 = 2147483648 + z := ⟨a1 - 2147483648, by first | decide | omega⟩
  refine x_imul (np := 46) (x := 0) (i := u20) (j := 4) (v := (2147483648 + 4 * u20)) (by decide +kernel) (by first | decide | omega) (by first | decide | omega) (by first | decide | omega) (by first | decide | omega) la1 (by decide) ?_
  refine x_iload (np := 47) (x := 2) (by decide +kernel) rfl (by decide) ?_
  refine x_iadd (np := 48) (x := 0) (v := (2147483650 + 4 * u20)) (by decide +kernel) (by first | decide | omega) (by decide) (by first | decide | omega) (by first | decide | omega) ?_
  refine x_iload (np := 49) (x := 3) (by decide +kernel) rfl la3 ?_
  refine x_ast (np := 50) (x := 0) (kd := 1) (n := 40) (i := (2 + 4 * u20)) (by decide +kernel) (Or.inl rfl) (ta_6_40 ta0) (by first | decide | omega) (by first | decide | omega) (by decide) la3 (fun z => absurd z (by decide)) ?_
  have j24 := jU (e := (2 + 4 * u20)) (v := a3) (2 + 4 * u20) hJ (rg_T6_0_1_40 ta0) (by first | decide | omega) (by first | decide | omega) (by first | decide | omega)
  have f26 := jF (e := (2 + 4 * u20)) (v := a3) (2 + 4 * u20) hF (rg_T6_0_1_40 ta0) (by first | decide | omega) (by first | decide | omega) (by decide)
  generalize e25 : x_up h (ra0 + 6) (2 + 4 * u20) a3 = h23 at j24 f26 ⊢
  refine x_retV (np := 51) (x := 0) (by decide +kernel) (by decide +kernel) ⟨rfl, ?_⟩
  exact ⟨j24, f26⟩
set_option maxHeartbeats 0 in
/-- LentNames$Table.put(III)V -/
theorem c69_T5_c3 {sc : Nat × Nat} {d ra0 a1 a3 : Nat} {h : xh} (hJ : J h) (ta0 : tw ra0) (ba1 : 2147483648 ≤ a1 ∧ a1 ≤ 2147483657) (ba3 : 2147483648 ≤ a3 ∧ a3 ≤ 2147484769) : X sc 69 d (xV fun h' => J h' ∧ Fr 129 h h') 0 0 0 [x_r (ra0 + 5), iv_c a1, iv_c 2147483651, iv_c a3, 147573952589676412928] [] h := by
  have la1 : a1 < 4294967296 := by first | decide | omega
  have la3 : a3 < 4294967296 := by first | decide | omega
  have hF := Fr.refl 129 h
  refine x_iload (np := 1) (x := 1) (by decide +kernel) rfl la1 ?_
  refine x_ifz (k := 2) (tg := 28) (np := 4) (by decide +kernel) (by decide) la1 (fun q1 => ?_) (fun q2 => ?_)
  · have q1 : a1 < 2147483648 := q1
    exfalso; omega
  have q2 : ¬ (a1 < 2147483648) := q2
  refine x_iload (np := 5) (x := 1) (by decide +kernel) rfl la1 ?_
  refine x_aload (np := 6) (x := 0) (by decide +kernel) rfl (x_nc_le (tn_5 ta0)) ?_
  have b3 := jB (e := 2) 0 hJ (rg_T5_2_0_1 ta0) (by first | decide | omega) (by first | decide | omega)
  refine x_getC (np := 9) (x := 386) (f := 2) (q := (h (ra0 + 5) 2)) (by decide +kernel) (by decide) (tg_5_386_2_0 ta0) rfl (fun l4 => ?_)
  refine x_icmp (k := 3) (tg := 28) (np := 12) (by decide +kernel) (by decide) la1 l4 (fun q5 => ?_) (fun q6 => ?_)
  · have q5 : (h (ra0 + 5) 2) ≤ a1 := q5
    refine x_const (np := 29) (x := 9223372039002259456) (a := 2147483648) (by decide +kernel) (by decide) (by decide) ?_
    refine x_istore (np := 31) (x := 4) (lo' := [x_r (ra0 + 5), iv_c a1, iv_c 2147483651, iv_c a3, iv_c 2147483648]) (by decide +kernel) (by decide) (Nat.le_of_ble_eq_true rfl) rfl ?_
    refine x_iload (np := 33) (x := 4) (by decide +kernel) rfl (by decide) ?_
    refine x_ifz (k := 0) (tg := 50) (np := 36) (by decide +kernel) (by decide) (by decide) (fun q7 => ?_) (fun q8 => ?_)
    · have q7 : 2147483648 = 2147483648 := q7
      refine x_retV (np := 51) (x := 0) (by decide +kernel) (by decide +kernel) ⟨rfl, ?_⟩
      exact ⟨hJ, hF⟩
    have q8 : ¬ (2147483648 = 2147483648) := q8
    exfalso; omega
  have q6 : ¬ ((h (ra0 + 5) 2) ≤ a1) := q6
  refine x_iload (np := 13) (x := 2) (by decide +kernel) rfl (by decide) ?_
  refine x_ifz (k := 2) (tg := 28) (np := 16) (by decide +kernel) (by decide) (by decide) (fun q9 => ?_) (fun q10 => ?_)
  · have q9 : 2147483651 < 2147483648 := q9
    exfalso; omega
  have q10 : ¬ (2147483651 < 2147483648) := q10
  refine x_iload (np := 17) (x := 2) (by decide +kernel) rfl (by decide) ?_
  refine x_aload (np := 18) (x := 0) (by decide +kernel) rfl (x_nc_le (tn_5 ta0)) ?_
  have b11 := jB (e := 0) 0 hJ (rg_T5_0_0_1 ta0) (by first | decide | omega) (by first | decide | omega)
  have q12 : (h (ra0 + 5) 0) = 2147483652 := by first | decide | omega
  refine x_getC (np := 21) (x := 384) (f := 0) (q := 2147483652) (by decide +kernel) (by decide) (tg_5_384_0_0 ta0) q12 (fun l13 => ?_)
  refine x_icmp (k := 3) (tg := 28) (np := 24) (by decide +kernel) (by decide) (by decide) (by decide) (fun q14 => ?_) (fun q15 => ?_)
  · have q14 : 2147483652 ≤ 2147483651 := q14
    exfalso; omega
  have q15 : ¬ (2147483652 ≤ 2147483651) := q15
  refine x_const (np := 25) (x := 9223372043297226753) (a := 2147483649) (by decide +kernel) (by decide) (by decide) ?_
  refine x_goto (np := 28) (x := 29) (by decide +kernel) ?_
  refine x_istore (np := 31) (x := 4) (lo' := [x_r (ra0 + 5), iv_c a1, iv_c 2147483651, iv_c a3, iv_c 2147483649]) (by decide +kernel) (by decide) (Nat.le_of_ble_eq_true rfl) rfl ?_
  refine x_iload (np := 33) (x := 4) (by decide +kernel) rfl (by decide) ?_
  refine x_ifz (k := 0) (tg := 50) (np := 36) (by decide +kernel) (by decide) (by decide) (fun q16 => ?_) (fun q17 => ?_)
  · have q16 : 2147483649 = 2147483648 := q16
    exfalso; omega
  have q17 : ¬ (2147483649 = 2147483648) := q17
  refine x_aload (np := 37) (x := 0) (by decide +kernel) rfl (x_nc_le (tn_5 ta0)) ?_
  have q18 : h (ra0 + 5) 1 = (ra0 + 6) := tf_5_1 hJ ta0
  refine x_getR (np := 40) (x := 385) (f := 1) (q := (ra0 + 6)) (by decide +kernel) (by decide) (tg_5_385_1_1 ta0) q18 ?_
  refine x_iload (np := 41) (x := 1) (by decide +kernel) rfl la1 ?_
  refine x_aload (np := 42) (x := 0) (by decide +kernel) rfl (x_nc_le (tn_5 ta0)) ?_
  refine x_getC (np := 45) (x := 384) (f := 0) (q := 2147483652) (by decide +kernel) (by decide) (tg_5_384_0_0 ta0) q12 (fun l19 => ?_)
  obtain ⟨u20, q21⟩ : ∃ z, a1 = 2147483648 + z := ⟨a1 - 2147483648, by first | decide | omega⟩
  refine x_imul (np := 46) (x := 0) (i := u20) (j := 4) (v := (2147483648 + 4 * u20)) (by decide +kernel) (by first | decide | omega) (by first | decide | omega) (by first | decide | omega) (by first | decide | omega) la1 (by decide) ?_
  refine x_iload (np := 47) (x := 2) (by decide +kernel) rfl (by decide) ?_
  refine x_iadd (np := 48) (x := 0) (v := (2147483651 + 4 * u20)) (by decide +kernel) (by first | decide | omega) (by decide) (by first | decide | omega) (by first | decide | omega) ?_
  refine x_iload (np := 49) (x := 3) (by decide +kernel) rfl la3 ?_
  refine x_ast (np := 50) (x := 0) (kd := 1) (n := 40) (i := (3 + 4 * u20)) (by decide +kernel) (Or.inl rfl) (ta_6_40 ta0) (by first | decide | omega) (by first | decide | omega) (by decide) la3 (fun z => absurd z (by decide)) ?_
  have j24 := jU (e := (3 + 4 * u20)) (v := a3) (3 + 4 * u20) hJ (rg_T6_0_1_40 ta0) (by first | decide | omega) (by first | decide | omega) (by first | decide | omega)
  have f26 := jF (e := (3 + 4 * u20)) (v := a3) (3 + 4 * u20) hF (rg_T6_0_1_40 ta0) (by first | decide | omega) (by first | decide | omega) (by decide)
  generalize e25 : x_up h (ra0 + 6) (3 + 4 * u20) a3 = h23 at j24 f26 ⊢
  refine x_retV (np := 51) (x := 0) (by decide +kernel) (by decide +kernel) ⟨rfl, ?_⟩
  exact ⟨j24, f26⟩
set_option maxHeartbeats 0 in
/-- LentNames$Table.put(III)V -/
theorem c69_T5_c0 {sc : Nat × Nat} {d ra0 a1 a3 : Nat} {h : xh} (hJ : J h) (ta0 : tw ra0) (ba1 : 2147483648 ≤ a1 ∧ a1 ≤ 2147483657) (ba3 : 2147483649 ≤ a3 ∧ a3 ≤ 2147483649) : X sc 69 d (xV fun h' => J h' ∧ Fr 129 h h') 0 0 0 [x_r (ra0 + 5), iv_c a1, iv_c 2147483648, iv_c a3, 147573952589676412928] [] h := by
  have la1 : a1 < 4294967296 := by first | decide | omega
  have la3 : a3 < 4294967296 := by first | decide | omega
  have hF := Fr.refl 129 h
  refine x_iload (np := 1) (x := 1) (by decide +kernel) rfl la1 ?_
  refine x_ifz (k := 2) (tg := 28) (np := 4) (by decide +kernel) (by decide) la1 (fun q1 => ?_) (fun q2 => ?_)
  · have q1 : a1 < 2147483648 := q1
    exfalso; omega
  have q2 : ¬ (a1 < 2147483648) := q2
  refine x_iload (np := 5) (x := 1) (by decide +kernel) rfl la1 ?_
  refine x_aload (np := 6) (x := 0) (by decide +kernel) rfl (x_nc_le (tn_5 ta0)) ?_
  have b3 := jB (e := 2) 0 hJ (rg_T5_2_0_1 ta0) (by first | decide | omega) (by first | decide | omega)
  refine x_getC (np := 9) (x := 386) (f := 2) (q := (h (ra0 + 5) 2)) (by decide +kernel) (by decide) (tg_5_386_2_0 ta0) rfl (fun l4 => ?_)
  refine x_icmp (k := 3) (tg := 28) (np := 12) (by decide +kernel) (by decide) la1 l4 (fun q5 => ?_) (fun q6 => ?_)
  · have q5 : (h (ra0 + 5) 2) ≤ a1 := q5
    refine x_const (np := 29) (x := 9223372039002259456) (a := 2147483648) (by decide +kernel) (by decide) (by decide) ?_
    refine x_istore (np := 31) (x := 4) (lo' := [x_r (ra0 + 5), iv_c a1, iv_c 2147483648, iv_c a3, iv_c 2147483648]) (by decide +kernel) (by decide) (Nat.le_of_ble_eq_true rfl) rfl ?_
    refine x_iload (np := 33) (x := 4) (by decide +kernel) rfl (by decide) ?_
    refine x_ifz (k := 0) (tg := 50) (np := 36) (by decide +kernel) (by decide) (by decide) (fun q7 => ?_) (fun q8 => ?_)
    · have q7 : 2147483648 = 2147483648 := q7
      refine x_retV (np := 51) (x := 0) (by decide +kernel) (by decide +kernel) ⟨rfl, ?_⟩
      exact ⟨hJ, hF⟩
    have q8 : ¬ (2147483648 = 2147483648) := q8
    exfalso; omega
  have q6 : ¬ ((h (ra0 + 5) 2) ≤ a1) := q6
  refine x_iload (np := 13) (x := 2) (by decide +kernel) rfl (by decide) ?_
  refine x_ifz (k := 2) (tg := 28) (np := 16) (by decide +kernel) (by decide) (by decide) (fun q9 => ?_) (fun q10 => ?_)
  · have q9 : 2147483648 < 2147483648 := q9
    exfalso; omega
  have q10 : ¬ (2147483648 < 2147483648) := q10
  refine x_iload (np := 17) (x := 2) (by decide +kernel) rfl (by decide) ?_
  refine x_aload (np := 18) (x := 0) (by decide +kernel) rfl (x_nc_le (tn_5 ta0)) ?_
  have b11 := jB (e := 0) 0 hJ (rg_T5_0_0_1 ta0) (by first | decide | omega) (by first | decide | omega)
  have q12 : (h (ra0 + 5) 0) = 2147483652 := by first | decide | omega
  refine x_getC (np := 21) (x := 384) (f := 0) (q := 2147483652) (by decide +kernel) (by decide) (tg_5_384_0_0 ta0) q12 (fun l13 => ?_)
  refine x_icmp (k := 3) (tg := 28) (np := 24) (by decide +kernel) (by decide) (by decide) (by decide) (fun q14 => ?_) (fun q15 => ?_)
  · have q14 : 2147483652 ≤ 2147483648 := q14
    exfalso; omega
  have q15 : ¬ (2147483652 ≤ 2147483648) := q15
  refine x_const (np := 25) (x := 9223372043297226753) (a := 2147483649) (by decide +kernel) (by decide) (by decide) ?_
  refine x_goto (np := 28) (x := 29) (by decide +kernel) ?_
  refine x_istore (np := 31) (x := 4) (lo' := [x_r (ra0 + 5), iv_c a1, iv_c 2147483648, iv_c a3, iv_c 2147483649]) (by decide +kernel) (by decide) (Nat.le_of_ble_eq_true rfl) rfl ?_
  refine x_iload (np := 33) (x := 4) (by decide +kernel) rfl (by decide) ?_
  refine x_ifz (k := 0) (tg := 50) (np := 36) (by decide +kernel) (by decide) (by decide) (fun q16 => ?_) (fun q17 => ?_)
  · have q16 : 2147483649 = 2147483648 := q16
    exfalso; omega
  have q17 : ¬ (2147483649 = 2147483648) := q17
  refine x_aload (np := 37) (x := 0) (by decide +kernel) rfl (x_nc_le (tn_5 ta0)) ?_
  have q18 : h (ra0 + 5) 1 = (ra0 + 6) := tf_5_1 hJ ta0
  refine x_getR (np := 40) (x := 385) (f := 1) (q := (ra0 + 6)) (by decide +kernel) (by decide) (tg_5_385_1_1 ta0) q18 ?_
  refine x_iload (np := 41) (x := 1) (by decide +kernel) rfl la1 ?_
  refine x_aload (np := 42) (x := 0) (by decide +kernel) rfl (x_nc_le (tn_5 ta0)) ?_
  refine x_getC (np := 45) (x := 384) (f := 0) (q := 2147483652) (by decide +kernel) (by decide) (tg_5_384_0_0 ta0) q12 (fun l19 => ?_)
  obtain ⟨u20, q21⟩ : ∃ z, a1 = 2147483648 + z := ⟨a1 - 2147483648, by first | decide | omega⟩
  refine x_imul (np := 46) (x := 0) (i := u20) (j := 4) (v := (2147483648 + 4 * u20)) (by decide +kernel) (by first | decide | omega) (by first | decide | omega) (by first | decide | omega) (by first | decide | omega) la1 (by decide) ?_
  refine x_iload (np := 47) (x := 2) (by decide +kernel) rfl (by decide) ?_
  refine x_iadd (np := 48) (x := 0) (v := (2147483648 + 4 * u20)) (by decide +kernel) (by first | decide | omega) (by decide) (by first | decide | omega) (by first | decide | omega) ?_
  refine x_iload (np := 49) (x := 3) (by decide +kernel) rfl la3 ?_
  refine x_ast (np := 50) (x := 0) (kd := 1) (n := 40) (i := (4 * u20)) (by decide +kernel) (Or.inl rfl) (ta_6_40 ta0) (by first | decide | omega) (by first | decide | omega) (by decide) la3 (fun z => absurd z (by decide)) ?_
  have j24 := jU (e := (4 * u20)) (v := a3) (4 * u20) hJ (rg_T6_0_1_40 ta0) (by first | decide | omega) (by first | decide | omega) (by first | decide | omega)
  have f26 := jF (e := (4 * u20)) (v := a3) (4 * u20) hF (rg_T6_0_1_40 ta0) (by first | decide | omega) (by first | decide | omega) (by decide)
  generalize e25 : x_up h (ra0 + 6) (4 * u20) a3 = h23 at j24 f26 ⊢
  refine x_retV (np := 51) (x := 0) (by decide +kernel) (by decide +kernel) ⟨rfl, ?_⟩
  exact ⟨j24, f26⟩
set_option maxHeartbeats 0 in
/-- LentNames$TownReader.readDebt()Z -/
theorem c99_61 {sc : Nat × Nat} {d  : Nat} {h : xh} {tB : Nat → Nat} {tN : Nat} (hJ : J h) (hr0 : (rv h 4) + 1 ≤ 2147483658) (hT : Tp tB tN h) : X sc 99 (d + 6) (xI fun r h' => J h' ∧ Fr 281474976710817 h h' ∧ (2147483648 ≤ r ∧ r ≤ 2147483649) ∧ (rv h' 0 = rv h 0) ∧ (rv h' 1 = rv h 1) ∧ (rv h' 2 = rv h 2) ∧ (rv h' 3 = rv h 3) ∧ (r = 2147483649 → rv h' 4 = rv h 4 + 1) ∧ (rv h' 5 = rv h 5) ∧ debt9 tB tN (rv h 0) (h 1 2) (rs r (h' 1 2)) ∧ Ot (h 61 1) h h' ∧ (r = 2147483648 → debtF tB tN (rv h 0) (h 1 2) (h' 1 2))) 0 0 0 [x_r 61, 147573952589676412928, 147573952589676412928] [] h := by
  have hF := Fr.refl 281474976710817 h
  have t1 : tw (h 61 1) := hJ.2.2.2.2.1
  have b2 := jB (e := 2) 0 hJ (rg_T5_2_0_1 t1) (by first | decide | omega) (by first | decide | omega)
  have e3 : rv h 4 = (h ((h 61 1) + 5) 2) := (congrArg (fun z => svq h z 4) rfl).trans rfl
  refine x_aload (np := 1) (x := 0) (by decide +kernel) rfl (x_nc_le (by decide)) ?_
  refine x_getR (np := 4) (x := 577) (f := 1) (q := (h 61 1)) (by decide +kernel) (by decide) (by decide +kernel) rfl ?_
  have q4 : h (h 61 1) 2 = ((h 61 1) + 5) := tf_0_2 hJ t1
  refine x_getR (np := 7) (x := 514) (f := 2) (q := ((h 61 1) + 5)) (by decide +kernel) (by decide) (tg_0_514_2_1 t1) q4 ?_
  refine x_cI (t := 6) (mj := 67) (n := 1) (rc := 7) (ml := 2) (nr := 0) (np := 10) (as := [x_r ((h 61 1) + 5)]) (rest := []) (lo1 := [x_r ((h 61 1) + 5), 147573952589676412928]) (by decide +kernel) (by decide) (by decide +kernel) (x_rb_of (tr_5_7 t1)) rfl rfl (x_wr (tn_5 t1) x_wn) x_wn (by decide) rfl (c67_T5 hJ t1 (by first | decide | omega)) (fun v5 h8 l6 q7 => ?_)
  obtain ⟨j9, f10, b11, c12, c13, c14, c15, c16, c17, c18, c19⟩ := q7
  have f20 := Fr.trans hF f10 (by decide)
  have b21 := jB (e := 7) 0 hJ (rg_T0_7_0_1 t1) (by first | decide | omega) (by first | decide | omega)
  have b22 := jB (e := 7) 0 j9 (rg_T0_7_0_1 t1) (by first | decide | omega) (by first | decide | omega)
  have b23 := jB (e := 2) 0 hJ (rg_T1_2_0_1 t1) (by first | decide | omega) (by first | decide | omega)
  have b24 := jB (e := 2) 0 j9 (rg_T1_2_0_1 t1) (by first | decide | omega) (by first | decide | omega)
  have b25 := jB (e := 2) 0 hJ (rg_T3_2_0_1 t1) (by first | decide | omega) (by first | decide | omega)
  have b26 := jB (e := 2) 0 j9 (rg_T3_2_0_1 t1) (by first | decide | omega) (by first | decide | omega)
  have b27 := jB (e := 2) 0 j9 (rg_T5_2_0_1 t1) (by first | decide | omega) (by first | decide | omega)
  have b28 := jB (e := 2) 0 hJ (rg_T7_2_0_1 t1) (by first | decide | omega) (by first | decide | omega)
  have b29 := jB (e := 2) 0 j9 (rg_T7_2_0_1 t1) (by first | decide | omega) (by first | decide | omega)
  refine x_istore (np := 11) (x := 1) (lo' := [x_r 61, iv_c v5, 147573952589676412928]) (by decide +kernel) l6 (Nat.le_of_ble_eq_true rfl) rfl ?_
  refine x_aload (np := 12) (x := 0) (by decide +kernel) rfl (x_nc_le (by decide)) ?_
  have q30 : h8 61 0 = 1 := by have z := jB (e := 0) 0 j9 rg_61_0_0_1 (by decide) (by decide); omega
  refine x_getR (np := 15) (x := 576) (f := 0) (q := 1) (by decide +kernel) (by decide) (by decide +kernel) q30 ?_
  refine x_ldcB (i := 9) (idx := 149) (tx := "body") (by rw [tb_y99]; exact List.mem_of_getElem? (i := 9) rfl) (by decide) (by rw [tb_b99]; decide +kernel) ?_
  have m34 := Tp.fr hT f10 (by decide) (by decide)
  refine x_cI (t := 6) (mj := 78) (n := 2) (rc := 8) (ml := 2) (nr := 0) (np := 20) (as := [x_r 1, x_b (9 + 1)]) (rest := []) (lo1 := [x_r 1, x_b (9 + 1)]) (by decide +kernel) (by decide) (by decide +kernel) (x_rb_of (by decide +kernel)) rfl rfl (x_wr (by decide) (x_wB (by decide) x_wn)) x_wn (by decide) rfl (c78_1_S0 j9  (by decide) m34) (fun v31 h35 l32 q33 => ?_)
  obtain ⟨j36, f37, b38, c39, c40, c41⟩ := q33
  have f42 := Fr.trans f20 f37 (by decide)
  have q43 : h8 1 2 = h 1 2 := jK 0 f10 rg_1_2_0_1 (by first | decide | omega) (by first | decide | omega) (by decide)
  have b44 := jB (e := 2) 0 hJ rg_1_2_0_1 (by first | decide | omega) (by first | decide | omega)
  have b45 := jB (e := 2) 0 j36 rg_1_2_0_1 (by first | decide | omega) (by first | decide | omega)
  have b46 : iv_tl 9 = 4 := by decide
  have q47 : h8 1 2 = h 1 2 := jK 0 f10 rg_1_2_0_1 (by first | decide | omega) (by first | decide | omega) (by decide)
  refine x_ifz (k := 0) (tg := 39) (np := 23) (by decide +kernel) (by decide) l32 (fun q48 => ?_) (fun q49 => ?_)
  · have q48 : v31 = 2147483648 := q48
    have b50 := c40 (by first | decide | omega)
    refine x_aload (np := 40) (x := 0) (by decide +kernel) rfl (x_nc_le (by decide)) ?_
    have q51 : h35 61 0 = 1 := by have z := jB (e := 0) 0 j36 rg_61_0_0_1 (by decide) (by decide); omega
    refine x_getR (np := 43) (x := 576) (f := 0) (q := 1) (by decide +kernel) (by decide) (by decide +kernel) q51 ?_
    refine x_ldcB (i := 10) (idx := 151) (tx := "name") (by rw [tb_y99]; exact List.mem_of_getElem? (i := 10) rfl) (by decide) (by rw [tb_b99]; decide +kernel) ?_
    have m55 := Tp.fr m34 f37 (by decide) (by decide)
    refine x_cI (t := 6) (mj := 78) (n := 2) (rc := 8) (ml := 2) (nr := 0) (np := 48) (as := [x_r 1, x_b (10 + 1)]) (rest := []) (lo1 := [x_r 1, x_b (10 + 1)]) (by decide +kernel) (by decide) (by decide +kernel) (x_rb_of (by decide +kernel)) rfl rfl (x_wr (by decide) (x_wB (by decide) x_wn)) x_wn (by decide) rfl (c78_1_S0 j36  (by decide) m55) (fun v52 h56 l53 q54 => ?_)
    obtain ⟨j57, f58, b59, c60, c61, c62⟩ := q54
    have f63 := Fr.trans f42 f58 (by decide)
    have b64 := jB (e := 2) 0 j57 rg_1_2_0_1 (by first | decide | omega) (by first | decide | omega)
    have b65 : iv_tl 10 = 4 := by decide
    refine x_ifz (k := 1) (tg := 53) (np := 51) (by decide +kernel) (by decide) l53 (fun q66 => ?_) (fun q67 => ?_)
    · have q66 : v52 ≠ 2147483648 := q66
      have b68 := c60 (by first | decide | omega)
      refine x_aload (np := 54) (x := 0) (by decide +kernel) rfl (x_nc_le (by decide)) ?_
      refine x_aload (np := 55) (x := 0) (by decide +kernel) rfl (x_nc_le (by decide)) ?_
      have q69 : h56 61 1 = h35 61 1 := f58 61 1 (by decide +kernel)
      have q70 : h35 61 1 = h8 61 1 := f37 61 1 (by decide +kernel)
      have q71 : h8 61 1 = h 61 1 := f10 61 1 (by decide +kernel)
      refine x_getR (np := 58) (x := 577) (f := 1) (q := (h 61 1)) (by decide +kernel) (by decide) (by decide +kernel) ((q69.trans q70).trans q71) ?_
      have q72 : h56 (h 61 1) 2 = ((h 61 1) + 5) := tf_0_2 j57 t1
      refine x_getR (np := 61) (x := 514) (f := 2) (q := ((h 61 1) + 5)) (by decide +kernel) (by decide) (tg_0_514_2_1 t1) q72 ?_
      refine x_iload (np := 62) (x := 1) (by decide +kernel) rfl l6 ?_
      refine x_const (np := 63) (x := 9223372043297226753) (a := 2147483649) (by decide +kernel) (by decide) (by decide) ?_
      refine x_const (np := 64) (x := 9223372039002259456) (a := 2147483648) (by decide +kernel) (by decide) (by decide) ?_
      refine x_aload (np := 65) (x := 0) (by decide +kernel) rfl (x_nc_le (by decide)) ?_
      have q73 : h56 61 1 = h35 61 1 := f58 61 1 (by decide +kernel)
      have q74 : h35 61 1 = h8 61 1 := f37 61 1 (by decide +kernel)
      have q75 : h8 61 1 = h 61 1 := f10 61 1 (by decide +kernel)
      refine x_getR (np := 68) (x := 577) (f := 1) (q := (h 61 1)) (by decide +kernel) (by decide) (by decide +kernel) ((q73.trans q74).trans q75) ?_
      have q76 : h56 (h 61 1) 7 = h35 (h 61 1) 7 := jK 0 f58 (rg_T0_7_0_1 t1) (by first | decide | omega) (by first | decide | omega) (by decide)
      have q77 : h35 (h 61 1) 7 = h8 (h 61 1) 7 := jK 0 f37 (rg_T0_7_0_1 t1) (by first | decide | omega) (by first | decide | omega) (by decide)
      refine x_getC (np := 71) (x := 519) (f := 7) (q := (h8 (h 61 1) 7)) (by decide +kernel) (by decide) (tg_0_519_7_0 t1) (q76.trans q77) (fun l78 => ?_)
      refine x_const (np := 72) (x := 9223372043297226753) (a := 2147483649) (by decide +kernel) (by decide) (by decide) ?_
      obtain ⟨v79, q80⟩ : ∃ z, z + 2147483649 = (h8 (h 61 1) 7) + 2147483648 := ⟨(h8 (h 61 1) 7) + 2147483648 - 2147483649, by first | decide | omega⟩
      refine x_isub (np := 73) (x := 0) (v := v79) (by decide +kernel) l78 (by decide) (by first | decide | omega) (by first | decide | omega) ?_
      refine x_nI (t := 6) (mj := 102) (n := 6) (rc := 10) (ml := 7) (nr := 0) (np := 76) (as := [x_r 61, x_r ((h 61 1) + 5), iv_c v5, iv_c 2147483649, iv_c 2147483648, iv_c v79]) (rest := []) (lo1 := [x_r 61, x_r ((h 61 1) + 5), iv_c v5, iv_c 2147483649, iv_c 2147483648, iv_c v79, 147573952589676412928]) (by decide +kernel) (by decide) (by decide +kernel) (x_rb_of (by decide +kernel)) rfl rfl (x_wr (by decide) (x_wr (tn_5 t1) (x_wi l6 (x_wi (by decide) (x_wi (by decide) (x_wi (by first | decide | omega) x_wn)))))) x_wn (by decide) rfl ?_
      refine x_aload (np := 1) (x := 0) (by decide +kernel) rfl (x_nc_le (by decide)) ?_
      have q81 : h56 61 0 = 1 := by have z := jB (e := 0) 0 j57 rg_61_0_0_1 (by decide) (by decide); omega
      refine x_getR (np := 4) (x := 576) (f := 0) (q := 1) (by decide +kernel) (by decide) (by decide +kernel) q81 ?_
      refine x_iload (np := 6) (x := 4) (by decide +kernel) rfl (by decide) ?_
      refine x_iload (np := 8) (x := 5) (by decide +kernel) rfl (by first | decide | omega) ?_
      have m85 := Tp.fr m55 f58 (by decide) (by decide)
      refine x_cI (t := 6) (mj := 79) (n := 3) (rc := 8) (ml := 5) (nr := 0) (np := 11) (as := [x_r 1, iv_c 2147483648, iv_c v79]) (rest := []) (lo1 := [x_r 1, iv_c 2147483648, iv_c v79, 147573952589676412928, 147573952589676412928]) (by decide +kernel) (by decide) (by decide +kernel) (x_rb_of (by decide +kernel)) rfl rfl (x_wr (by decide) (x_wi (by decide) (x_wi (by first | decide | omega) x_wn))) x_wn (by decide) rfl (c79_1_c0 j57   (by first | decide | omega) m85) (fun v82 h86 l83 q84 => ?_)
      obtain ⟨j87, f88, b89, c90, c91, c92, c93⟩ := q84
      have f94 := Fr.trans f63 f88 (by decide)
      have b95 := jB (e := 2) 0 j87 rg_1_2_0_1 (by first | decide | omega) (by first | decide | omega)
      refine x_istore (np := 13) (x := 6) (lo' := [x_r 61, x_r ((h 61 1) + 5), iv_c v5, iv_c 2147483649, iv_c 2147483648, iv_c v79, iv_c v82]) (by decide +kernel) l83 (Nat.le_of_ble_eq_true rfl) rfl ?_
      refine x_iload (np := 15) (x := 6) (by decide +kernel) rfl l83 ?_
      refine x_const (np := 16) (x := 9223372034707292159) (a := 2147483647) (by decide +kernel) (by decide) (by decide) ?_
      refine x_icmp (k := 1) (tg := 21) (np := 19) (by decide +kernel) (by decide) l83 (by decide) (fun q96 => ?_) (fun q97 => ?_)
      · have q96 : v82 ≠ 2147483647 := q96
        have b98 := c91 (by first | decide | omega)
        refine x_aload (np := 22) (x := 1) (by decide +kernel) rfl (x_nc_le (tn_5 t1)) ?_
        refine x_iload (np := 23) (x := 2) (by decide +kernel) rfl l6 ?_
        refine x_iload (np := 24) (x := 3) (by decide +kernel) rfl (by decide) ?_
        refine x_iload (np := 26) (x := 6) (by decide +kernel) rfl l83 ?_
        refine x_cV (t := 6) (mj := 69) (n := 4) (rc := 7) (ml := 5) (nr := 0) (np := 29) (as := [x_r ((h 61 1) + 5), iv_c v5, iv_c 2147483649, iv_c v82]) (rest := []) (lo1 := [x_r ((h 61 1) + 5), iv_c v5, iv_c 2147483649, iv_c v82, 147573952589676412928]) (by decide +kernel) (by decide) (by decide +kernel) (x_rb_of (tr_5_7 t1)) rfl rfl (x_wr (tn_5 t1) (x_wi l6 (x_wi (by decide) (x_wi l83 x_wn)))) x_wn (by decide) rfl (c69_T5_c1 j87 t1 (by first | decide | omega)  (by first | decide | omega)) (fun h102 q101 => ?_)
        obtain ⟨j103, f104⟩ := q101
        have f107 := Fr.trans f94 f104 (by decide)
        refine x_const (np := 30) (x := 9223372043297226753) (a := 2147483649) (by decide +kernel) (by decide) (by decide) ?_
        refine x_retI (np := 31) (x := 0) (by decide +kernel) (by decide) (Or.inr ⟨by decide +kernel, by first | decide | omega, by first | decide | omega⟩) ⟨_, rfl, (by decide), ?_⟩
        refine x_ifz (k := 0) (tg := 91) (np := 79) (by decide +kernel) (by decide) (by decide) (fun q108 => ?_) (fun q109 => ?_)
        · have q108 : 2147483649 = 2147483648 := q108
          exfalso; omega
        have q109 : ¬ (2147483649 = 2147483648) := q109
        refine x_aload (np := 80) (x := 0) (by decide +kernel) rfl (x_nc_le (by decide)) ?_
        have q110 : h102 61 0 = 1 := by have z := jB (e := 0) 0 j103 rg_61_0_0_1 (by decide) (by decide); omega
        refine x_getR (np := 83) (x := 576) (f := 0) (q := 1) (by decide +kernel) (by decide) (by decide +kernel) q110 ?_
        refine x_ldcB (i := 2) (idx := 111) (tx := "day") (by rw [tb_y99]; exact List.mem_of_getElem? (i := 2) rfl) (by decide) (by rw [tb_b99]; decide +kernel) ?_
        have m115 := Tp.fr m85 f88 (by decide) (by decide)
        have m114 := Tp.fr m115 f104 (by decide) (by decide)
        refine x_cI (t := 6) (mj := 78) (n := 2) (rc := 8) (ml := 2) (nr := 0) (np := 88) (as := [x_r 1, x_b (2 + 1)]) (rest := []) (lo1 := [x_r 1, x_b (2 + 1)]) (by decide +kernel) (by decide) (by decide +kernel) (x_rb_of (by decide +kernel)) rfl rfl (x_wr (by decide) (x_wB (by decide) x_wn)) x_wn (by decide) rfl (c78_1_S0 j103  (by decide) m114) (fun v111 h116 l112 q113 => ?_)
        obtain ⟨j117, f118, b119, c120, c121, c122⟩ := q113
        have f123 := Fr.trans f107 f118 (by decide)
        have q124 : h102 1 2 = h86 1 2 := jK 0 f104 rg_1_2_0_1 (by first | decide | omega) (by first | decide | omega) (by decide)
        have b125 := jB (e := 2) 0 j117 rg_1_2_0_1 (by first | decide | omega) (by first | decide | omega)
        have b126 : iv_tl 2 = 3 := by decide
        have q127 : h102 1 2 = h86 1 2 := jK 0 f104 rg_1_2_0_1 (by first | decide | omega) (by first | decide | omega) (by decide)
        refine x_ifz (k := 1) (tg := 93) (np := 91) (by decide +kernel) (by decide) l112 (fun q128 => ?_) (fun q129 => ?_)
        · have q128 : v111 ≠ 2147483648 := q128
          have b130 := c120 (by first | decide | omega)
          refine x_aload (np := 94) (x := 0) (by decide +kernel) rfl (x_nc_le (by decide)) ?_
          have q131 : h116 61 0 = 1 := by have z := jB (e := 0) 0 j117 rg_61_0_0_1 (by decide) (by decide); omega
          refine x_getR (np := 97) (x := 576) (f := 0) (q := 1) (by decide +kernel) (by decide) (by decide +kernel) q131 ?_
          refine x_const (np := 98) (x := 9223372039002259456) (a := 2147483648) (by decide +kernel) (by decide) (by decide) ?_
          refine x_const (np := 100) (x := 9223372086246899723) (a := 2147483659) (by decide +kernel) (by decide) (by decide) ?_
          have m135 := Tp.fr m114 f118 (by decide) (by decide)
          refine x_cI (t := 6) (mj := 79) (n := 3) (rc := 8) (ml := 5) (nr := 0) (np := 103) (as := [x_r 1, iv_c 2147483648, iv_c 2147483659]) (rest := []) (lo1 := [x_r 1, iv_c 2147483648, iv_c 2147483659, 147573952589676412928, 147573952589676412928]) (by decide +kernel) (by decide) (by decide +kernel) (x_rb_of (by decide +kernel)) rfl rfl (x_wr (by decide) (x_wi (by decide) (x_wi (by decide) x_wn))) x_wn (by decide) rfl (c79_1_c0 j117   (by first | decide | omega) m135) (fun v132 h136 l133 q134 => ?_)
          obtain ⟨j137, f138, b139, c140, c141, c142, c143⟩ := q134
          have f144 := Fr.trans f123 f138 (by decide)
          have b145 := jB (e := 2) 0 j137 rg_1_2_0_1 (by first | decide | omega) (by first | decide | omega)
          refine x_istore (np := 104) (x := 2) (lo' := [x_r 61, iv_c v5, iv_c v132]) (by decide +kernel) l133 (Nat.le_of_ble_eq_true rfl) rfl ?_
          refine x_iload (np := 105) (x := 2) (by decide +kernel) rfl l133 ?_
          refine x_const (np := 106) (x := 9223372034707292159) (a := 2147483647) (by decide +kernel) (by decide) (by decide) ?_
          refine x_icmp (k := 0) (tg := 176) (np := 109) (by decide +kernel) (by decide) l133 (by decide) (fun q146 => ?_) (fun q147 => ?_)
          · have q146 : v132 = 2147483647 := q146
            have b148 := c142 (by first | decide | omega)
            refine x_const (np := 177) (x := 9223372039002259456) (a := 2147483648) (by decide +kernel) (by decide) (by decide) ?_
            have e149 : rv h 0 = (h (h 61 1) 7) := (congrArg (fun z => svq h z 0) rfl).trans rfl
            have q150 : h136 61 1 = h116 61 1 := f138 61 1 (by decide +kernel)
            have q151 : h116 61 1 = h102 61 1 := f118 61 1 (by decide +kernel)
            have q152 : h102 61 1 = h86 61 1 := f104 61 1 (by decide +kernel)
            have q153 : h86 61 1 = h56 61 1 := f88 61 1 (by decide +kernel)
            have q154 : h56 61 1 = h35 61 1 := f58 61 1 (by decide +kernel)
            have q155 : h35 61 1 = h8 61 1 := f37 61 1 (by decide +kernel)
            have q156 : h8 61 1 = h 61 1 := f10 61 1 (by decide +kernel)
            have q157 : h136 (h 61 1) 7 = h116 (h 61 1) 7 := jK 0 f138 (rg_T0_7_0_1 t1) (by first | decide | omega) (by first | decide | omega) (by decide)
            have q158 : h116 (h 61 1) 7 = h102 (h 61 1) 7 := jK 0 f118 (rg_T0_7_0_1 t1) (by first | decide | omega) (by first | decide | omega) (by decide)
            have q159 : h102 (h 61 1) 7 = h86 (h 61 1) 7 := jK 0 f104 (rg_T0_7_0_1 t1) (by first | decide | omega) (by first | decide | omega) (by decide)
            have q160 : h86 (h 61 1) 7 = h56 (h 61 1) 7 := jK 0 f88 (rg_T0_7_0_1 t1) (by first | decide | omega) (by first | decide | omega) (by decide)
            have q161 : h56 (h 61 1) 7 = h35 (h 61 1) 7 := jK 0 f58 (rg_T0_7_0_1 t1) (by first | decide | omega) (by first | decide | omega) (by decide)
            have q162 : h35 (h 61 1) 7 = h8 (h 61 1) 7 := jK 0 f37 (rg_T0_7_0_1 t1) (by first | decide | omega) (by first | decide | omega) (by decide)
            have e163 : rv h136 0 = (h8 (h 61 1) 7) := (congrArg (fun z => svq h136 z 0) ((((((q150.trans q151).trans q152).trans q153).trans q154).trans q155).trans q156)).trans (((((q157.trans q158).trans q159).trans q160).trans q161).trans q162)
            have e164 : rv h 1 = (h (h 61 1) 8) := (congrArg (fun z => svq h z 1) rfl).trans rfl
            have q165 : h136 61 1 = h116 61 1 := f138 61 1 (by decide +kernel)
            have q166 : h116 61 1 = h102 61 1 := f118 61 1 (by decide +kernel)
            have q167 : h102 61 1 = h86 61 1 := f104 61 1 (by decide +kernel)
            have q168 : h86 61 1 = h56 61 1 := f88 61 1 (by decide +kernel)
            have q169 : h56 61 1 = h35 61 1 := f58 61 1 (by decide +kernel)
            have q170 : h35 61 1 = h8 61 1 := f37 61 1 (by decide +kernel)
            have q171 : h8 61 1 = h 61 1 := f10 61 1 (by decide +kernel)
            have q172 : h136 (h 61 1) 8 = h116 (h 61 1) 8 := jK 0 f138 (rg_T0_8_0_1 t1) (by first | decide | omega) (by first | decide | omega) (by decide)
            have q173 : h116 (h 61 1) 8 = h102 (h 61 1) 8 := jK 0 f118 (rg_T0_8_0_1 t1) (by first | decide | omega) (by first | decide | omega) (by decide)
            have q174 : h102 (h 61 1) 8 = h86 (h 61 1) 8 := jK 0 f104 (rg_T0_8_0_1 t1) (by first | decide | omega) (by first | decide | omega) (by decide)
            have q175 : h86 (h 61 1) 8 = h56 (h 61 1) 8 := jK 0 f88 (rg_T0_8_0_1 t1) (by first | decide | omega) (by first | decide | omega) (by decide)
            have q176 : h56 (h 61 1) 8 = h35 (h 61 1) 8 := jK 0 f58 (rg_T0_8_0_1 t1) (by first | decide | omega) (by first | decide | omega) (by decide)
            have q177 : h35 (h 61 1) 8 = h8 (h 61 1) 8 := jK 0 f37 (rg_T0_8_0_1 t1) (by first | decide | omega) (by first | decide | omega) (by decide)
            have e178 : rv h136 1 = (h8 (h 61 1) 8) := (congrArg (fun z => svq h136 z 1) ((((((q165.trans q166).trans q167).trans q168).trans q169).trans q170).trans q171)).trans (((((q172.trans q173).trans q174).trans q175).trans q176).trans q177)
            have e179 : rv h 2 = (h ((h 61 1) + 1) 2) := (congrArg (fun z => svq h z 2) rfl).trans rfl
            have q180 : h136 61 1 = h116 61 1 := f138 61 1 (by decide +kernel)
            have q181 : h116 61 1 = h102 61 1 := f118 61 1 (by decide +kernel)
            have q182 : h102 61 1 = h86 61 1 := f104 61 1 (by decide +kernel)
            have q183 : h86 61 1 = h56 61 1 := f88 61 1 (by decide +kernel)
            have q184 : h56 61 1 = h35 61 1 := f58 61 1 (by decide +kernel)
            have q185 : h35 61 1 = h8 61 1 := f37 61 1 (by decide +kernel)
            have q186 : h8 61 1 = h 61 1 := f10 61 1 (by decide +kernel)
            have q187 : h136 ((h 61 1) + 1) 2 = h116 ((h 61 1) + 1) 2 := jK 0 f138 (rg_T1_2_0_1 t1) (by first | decide | omega) (by first | decide | omega) (by decide)
            have q188 : h116 ((h 61 1) + 1) 2 = h102 ((h 61 1) + 1) 2 := jK 0 f118 (rg_T1_2_0_1 t1) (by first | decide | omega) (by first | decide | omega) (by decide)
            have q189 : h102 ((h 61 1) + 1) 2 = h86 ((h 61 1) + 1) 2 := jK 0 f104 (rg_T1_2_0_1 t1) (by first | decide | omega) (by first | decide | omega) (by decide)
            have q190 : h86 ((h 61 1) + 1) 2 = h56 ((h 61 1) + 1) 2 := jK 0 f88 (rg_T1_2_0_1 t1) (by first | decide | omega) (by first | decide | omega) (by decide)
            have q191 : h56 ((h 61 1) + 1) 2 = h35 ((h 61 1) + 1) 2 := jK 0 f58 (rg_T1_2_0_1 t1) (by first | decide | omega) (by first | decide | omega) (by decide)
            have q192 : h35 ((h 61 1) + 1) 2 = h8 ((h 61 1) + 1) 2 := jK 0 f37 (rg_T1_2_0_1 t1) (by first | decide | omega) (by first | decide | omega) (by decide)
            have e193 : rv h136 2 = (h8 ((h 61 1) + 1) 2) := (congrArg (fun z => svq h136 z 2) ((((((q180.trans q181).trans q182).trans q183).trans q184).trans q185).trans q186)).trans (((((q187.trans q188).trans q189).trans q190).trans q191).trans q192)
            have e194 : rv h 3 = (h ((h 61 1) + 3) 2) := (congrArg (fun z => svq h z 3) rfl).trans rfl
            have q195 : h136 61 1 = h116 61 1 := f138 61 1 (by decide +kernel)
            have q196 : h116 61 1 = h102 61 1 := f118 61 1 (by decide +kernel)
            have q197 : h102 61 1 = h86 61 1 := f104 61 1 (by decide +kernel)
            have q198 : h86 61 1 = h56 61 1 := f88 61 1 (by decide +kernel)
            have q199 : h56 61 1 = h35 61 1 := f58 61 1 (by decide +kernel)
            have q200 : h35 61 1 = h8 61 1 := f37 61 1 (by decide +kernel)
            have q201 : h8 61 1 = h 61 1 := f10 61 1 (by decide +kernel)
            have q202 : h136 ((h 61 1) + 3) 2 = h116 ((h 61 1) + 3) 2 := jK 0 f138 (rg_T3_2_0_1 t1) (by first | decide | omega) (by first | decide | omega) (by decide)
            have q203 : h116 ((h 61 1) + 3) 2 = h102 ((h 61 1) + 3) 2 := jK 0 f118 (rg_T3_2_0_1 t1) (by first | decide | omega) (by first | decide | omega) (by decide)
            have q204 : h102 ((h 61 1) + 3) 2 = h86 ((h 61 1) + 3) 2 := jK 0 f104 (rg_T3_2_0_1 t1) (by first | decide | omega) (by first | decide | omega) (by decide)
            have q205 : h86 ((h 61 1) + 3) 2 = h56 ((h 61 1) + 3) 2 := jK 0 f88 (rg_T3_2_0_1 t1) (by first | decide | omega) (by first | decide | omega) (by decide)
            have q206 : h56 ((h 61 1) + 3) 2 = h35 ((h 61 1) + 3) 2 := jK 0 f58 (rg_T3_2_0_1 t1) (by first | decide | omega) (by first | decide | omega) (by decide)
            have q207 : h35 ((h 61 1) + 3) 2 = h8 ((h 61 1) + 3) 2 := jK 0 f37 (rg_T3_2_0_1 t1) (by first | decide | omega) (by first | decide | omega) (by decide)
            have e208 : rv h136 3 = (h8 ((h 61 1) + 3) 2) := (congrArg (fun z => svq h136 z 3) ((((((q195.trans q196).trans q197).trans q198).trans q199).trans q200).trans q201)).trans (((((q202.trans q203).trans q204).trans q205).trans q206).trans q207)
            have q209 : h136 61 1 = h116 61 1 := f138 61 1 (by decide +kernel)
            have q210 : h116 61 1 = h102 61 1 := f118 61 1 (by decide +kernel)
            have q211 : h102 61 1 = h86 61 1 := f104 61 1 (by decide +kernel)
            have q212 : h86 61 1 = h56 61 1 := f88 61 1 (by decide +kernel)
            have q213 : h56 61 1 = h35 61 1 := f58 61 1 (by decide +kernel)
            have q214 : h35 61 1 = h8 61 1 := f37 61 1 (by decide +kernel)
            have q215 : h8 61 1 = h 61 1 := f10 61 1 (by decide +kernel)
            have q216 : h136 ((h 61 1) + 5) 2 = h116 ((h 61 1) + 5) 2 := jK 0 f138 (rg_T5_2_0_1 t1) (by first | decide | omega) (by first | decide | omega) (by decide)
            have q217 : h116 ((h 61 1) + 5) 2 = h102 ((h 61 1) + 5) 2 := jK 0 f118 (rg_T5_2_0_1 t1) (by first | decide | omega) (by first | decide | omega) (by decide)
            have q218 : h102 ((h 61 1) + 5) 2 = h86 ((h 61 1) + 5) 2 := jK 0 f104 (rg_T5_2_0_1 t1) (by first | decide | omega) (by first | decide | omega) (by decide)
            have q219 : h86 ((h 61 1) + 5) 2 = h56 ((h 61 1) + 5) 2 := jK 0 f88 (rg_T5_2_0_1 t1) (by first | decide | omega) (by first | decide | omega) (by decide)
            have q220 : h56 ((h 61 1) + 5) 2 = h35 ((h 61 1) + 5) 2 := jK 0 f58 (rg_T5_2_0_1 t1) (by first | decide | omega) (by first | decide | omega) (by decide)
            have q221 : h35 ((h 61 1) + 5) 2 = h8 ((h 61 1) + 5) 2 := jK 0 f37 (rg_T5_2_0_1 t1) (by first | decide | omega) (by first | decide | omega) (by decide)
            have e222 : rv h136 4 = (h8 ((h 61 1) + 5) 2) := (congrArg (fun z => svq h136 z 4) ((((((q209.trans q210).trans q211).trans q212).trans q213).trans q214).trans q215)).trans (((((q216.trans q217).trans q218).trans q219).trans q220).trans q221)
            have e223 : rv h 5 = (h ((h 61 1) + 7) 2) := (congrArg (fun z => svq h z 5) rfl).trans rfl
            have q224 : h136 61 1 = h116 61 1 := f138 61 1 (by decide +kernel)
            have q225 : h116 61 1 = h102 61 1 := f118 61 1 (by decide +kernel)
            have q226 : h102 61 1 = h86 61 1 := f104 61 1 (by decide +kernel)
            have q227 : h86 61 1 = h56 61 1 := f88 61 1 (by decide +kernel)
            have q228 : h56 61 1 = h35 61 1 := f58 61 1 (by decide +kernel)
            have q229 : h35 61 1 = h8 61 1 := f37 61 1 (by decide +kernel)
            have q230 : h8 61 1 = h 61 1 := f10 61 1 (by decide +kernel)
            have q231 : h136 ((h 61 1) + 7) 2 = h116 ((h 61 1) + 7) 2 := jK 0 f138 (rg_T7_2_0_1 t1) (by first | decide | omega) (by first | decide | omega) (by decide)
            have q232 : h116 ((h 61 1) + 7) 2 = h102 ((h 61 1) + 7) 2 := jK 0 f118 (rg_T7_2_0_1 t1) (by first | decide | omega) (by first | decide | omega) (by decide)
            have q233 : h102 ((h 61 1) + 7) 2 = h86 ((h 61 1) + 7) 2 := jK 0 f104 (rg_T7_2_0_1 t1) (by first | decide | omega) (by first | decide | omega) (by decide)
            have q234 : h86 ((h 61 1) + 7) 2 = h56 ((h 61 1) + 7) 2 := jK 0 f88 (rg_T7_2_0_1 t1) (by first | decide | omega) (by first | decide | omega) (by decide)
            have q235 : h56 ((h 61 1) + 7) 2 = h35 ((h 61 1) + 7) 2 := jK 0 f58 (rg_T7_2_0_1 t1) (by first | decide | omega) (by first | decide | omega) (by decide)
            have q236 : h35 ((h 61 1) + 7) 2 = h8 ((h 61 1) + 7) 2 := jK 0 f37 (rg_T7_2_0_1 t1) (by first | decide | omega) (by first | decide | omega) (by decide)
            have e237 : rv h136 5 = (h8 ((h 61 1) + 7) 2) := (congrArg (fun z => svq h136 z 5) ((((((q224.trans q225).trans q226).trans q227).trans q228).trans q229).trans q230)).trans (((((q231.trans q232).trans q233).trans q234).trans q235).trans q236)
            have q238 : h8 1 2 = h 1 2 := jK 0 f10 rg_1_2_0_1 (by first | decide | omega) (by first | decide | omega) (by decide)
            obtain ⟨w239, e240⟩ := Tk.no c41 (by first | decide | omega)
            obtain ⟨w241, e242⟩ := Tk.yes c62 (by first | decide | omega)
            have q243 : h102 1 2 = h86 1 2 := jK 0 f104 rg_1_2_0_1 (by first | decide | omega) (by first | decide | omega) (by decide)
            obtain ⟨w244, e245⟩ := Tk.yes c122 (by first | decide | omega)
            have m246 : Ot (h 61 1) h h8 := Ot.trans Ot.refl (c19)
            have m247 : Ot (h 61 1) h h35 := Ot.fr m246 f37 (by decide)
            have m248 : Ot (h 61 1) h h56 := Ot.fr m247 f58 (by decide)
            have m249 : Ot (h 61 1) h h86 := Ot.fr m248 f88 (by decide)
            have m250 : Ot (h 61 1) h h102 := Ot.fr m249 f104 (by decide)
            have m251 : Ot (h 61 1) h h116 := Ot.fr m250 f118 (by decide)
            have m252 : Ot (h 61 1) h h136 := Ot.fr m251 f138 (by decide)
            have q253 : h8 1 2 = h 1 2 := jK 0 f10 rg_1_2_0_1 (by first | decide | omega) (by first | decide | omega) (by decide)
            obtain ⟨w254, e255⟩ := Tk.no c41 (by first | decide | omega)
            obtain ⟨w256, e257⟩ := Tk.yes c62 (by first | decide | omega)
            have q258 : h102 1 2 = h86 1 2 := jK 0 f104 rg_1_2_0_1 (by first | decide | omega) (by first | decide | omega) (by decide)
            obtain ⟨w259, e260⟩ := Tk.yes c122 (by first | decide | omega)
            refine x_retI (np := 178) (x := 0) (by decide +kernel) (by decide) (Or.inr ⟨by decide +kernel, by first | decide | omega, by first | decide | omega⟩) ⟨_, rfl, (by decide), ?_⟩
            exact ⟨j137, f144, (by first | decide | omega), (by first | decide | omega), (by first | decide | omega), (by first | decide | omega), (by first | decide | omega), (fun z => by first | decide | omega), (by first | decide | omega), (or9.f w239 (show h8 1 2 = h 1 2 by first | decide | omega) (show h35 1 2 = h 1 2 by first | decide | omega) (wd9.y w241 rfl e242 rfl (nm9.y c93 (by first | decide | omega) (by first | decide | omega) rfl (by first | decide | omega) rfl (wd9.y w244 (show h102 1 2 = h86 1 2 by first | decide | omega) e245 rfl (nm9.f c143 (by first | decide | omega) (by first | decide | omega) rfl (by first | decide | omega) (by first | decide | omega)))))), m252, (fun _ => (oF.no w254 (show h8 1 2 = h 1 2 by first | decide | omega) (show h35 1 2 = h 1 2 by first | decide | omega) (wF.y w256 rfl e257 rfl (mF.y c93 (by first | decide | omega) (by first | decide | omega) rfl (by first | decide | omega) rfl (wF.y w259 (show h102 1 2 = h86 1 2 by first | decide | omega) e260 rfl (mF.no c143 (by first | decide | omega) (by first | decide | omega) rfl (by first | decide | omega) (show h136 1 2 = h116 1 2 by first | decide | omega)))))))⟩
          have q147 : ¬ (v132 = 2147483647) := q147
          have b261 := c141 (by first | decide | omega)
          refine x_aload (np := 110) (x := 0) (by decide +kernel) rfl (x_nc_le (by decide)) ?_
          have q262 : h136 61 0 = 1 := by have z := jB (e := 0) 0 j137 rg_61_0_0_1 (by decide) (by decide); omega
          refine x_getR (np := 113) (x := 576) (f := 0) (q := 1) (by decide +kernel) (by decide) (by decide +kernel) q262 ?_
          refine x_ldcB (i := 11) (idx := 153) (tx := "judged") (by rw [tb_y99]; exact List.mem_of_getElem? (i := 11) rfl) (by decide) (by rw [tb_b99]; decide +kernel) ?_
          have m266 := Tp.fr m135 f138 (by decide) (by decide)
          refine x_cI (t := 6) (mj := 78) (n := 2) (rc := 8) (ml := 2) (nr := 0) (np := 118) (as := [x_r 1, x_b (11 + 1)]) (rest := []) (lo1 := [x_r 1, x_b (11 + 1)]) (by decide +kernel) (by decide) (by decide +kernel) (x_rb_of (by decide +kernel)) rfl rfl (x_wr (by decide) (x_wB (by decide) x_wn)) x_wn (by decide) rfl (c78_1_S0 j137  (by decide) m266) (fun v263 h267 l264 q265 => ?_)
          obtain ⟨j268, f269, b270, c271, c272, c273⟩ := q265
          have f274 := Fr.trans f144 f269 (by decide)
          have b275 := jB (e := 2) 0 j268 rg_1_2_0_1 (by first | decide | omega) (by first | decide | omega)
          have b276 : iv_tl 11 = 6 := by decide
          refine x_ifz (k := 0) (tg := 176) (np := 121) (by decide +kernel) (by decide) l264 (fun q277 => ?_) (fun q278 => ?_)
          · have q277 : v263 = 2147483648 := q277
            have b279 := c272 (by first | decide | omega)
            refine x_const (np := 177) (x := 9223372039002259456) (a := 2147483648) (by decide +kernel) (by decide) (by decide) ?_
            have e280 : rv h 0 = (h (h 61 1) 7) := (congrArg (fun z => svq h z 0) rfl).trans rfl
            have q281 : h267 61 1 = h136 61 1 := f269 61 1 (by decide +kernel)
            have q282 : h136 61 1 = h116 61 1 := f138 61 1 (by decide +kernel)
            have q283 : h116 61 1 = h102 61 1 := f118 61 1 (by decide +kernel)
            have q284 : h102 61 1 = h86 61 1 := f104 61 1 (by decide +kernel)
            have q285 : h86 61 1 = h56 61 1 := f88 61 1 (by decide +kernel)
            have q286 : h56 61 1 = h35 61 1 := f58 61 1 (by decide +kernel)
            have q287 : h35 61 1 = h8 61 1 := f37 61 1 (by decide +kernel)
            have q288 : h8 61 1 = h 61 1 := f10 61 1 (by decide +kernel)
            have q289 : h267 (h 61 1) 7 = h136 (h 61 1) 7 := jK 0 f269 (rg_T0_7_0_1 t1) (by first | decide | omega) (by first | decide | omega) (by decide)
            have q290 : h136 (h 61 1) 7 = h116 (h 61 1) 7 := jK 0 f138 (rg_T0_7_0_1 t1) (by first | decide | omega) (by first | decide | omega) (by decide)
            have q291 : h116 (h 61 1) 7 = h102 (h 61 1) 7 := jK 0 f118 (rg_T0_7_0_1 t1) (by first | decide | omega) (by first | decide | omega) (by decide)
            have q292 : h102 (h 61 1) 7 = h86 (h 61 1) 7 := jK 0 f104 (rg_T0_7_0_1 t1) (by first | decide | omega) (by first | decide | omega) (by decide)
            have q293 : h86 (h 61 1) 7 = h56 (h 61 1) 7 := jK 0 f88 (rg_T0_7_0_1 t1) (by first | decide | omega) (by first | decide | omega) (by decide)
            have q294 : h56 (h 61 1) 7 = h35 (h 61 1) 7 := jK 0 f58 (rg_T0_7_0_1 t1) (by first | decide | omega) (by first | decide | omega) (by decide)
            have q295 : h35 (h 61 1) 7 = h8 (h 61 1) 7 := jK 0 f37 (rg_T0_7_0_1 t1) (by first | decide | omega) (by first | decide | omega) (by decide)
            have e296 : rv h267 0 = (h8 (h 61 1) 7) := (congrArg (fun z => svq h267 z 0) (((((((q281.trans q282).trans q283).trans q284).trans q285).trans q286).trans q287).trans q288)).trans ((((((q289.trans q290).trans q291).trans q292).trans q293).trans q294).trans q295)
            have e297 : rv h 1 = (h (h 61 1) 8) := (congrArg (fun z => svq h z 1) rfl).trans rfl
            have q298 : h267 61 1 = h136 61 1 := f269 61 1 (by decide +kernel)
            have q299 : h136 61 1 = h116 61 1 := f138 61 1 (by decide +kernel)
            have q300 : h116 61 1 = h102 61 1 := f118 61 1 (by decide +kernel)
            have q301 : h102 61 1 = h86 61 1 := f104 61 1 (by decide +kernel)
            have q302 : h86 61 1 = h56 61 1 := f88 61 1 (by decide +kernel)
            have q303 : h56 61 1 = h35 61 1 := f58 61 1 (by decide +kernel)
            have q304 : h35 61 1 = h8 61 1 := f37 61 1 (by decide +kernel)
            have q305 : h8 61 1 = h 61 1 := f10 61 1 (by decide +kernel)
            have q306 : h267 (h 61 1) 8 = h136 (h 61 1) 8 := jK 0 f269 (rg_T0_8_0_1 t1) (by first | decide | omega) (by first | decide | omega) (by decide)
            have q307 : h136 (h 61 1) 8 = h116 (h 61 1) 8 := jK 0 f138 (rg_T0_8_0_1 t1) (by first | decide | omega) (by first | decide | omega) (by decide)
            have q308 : h116 (h 61 1) 8 = h102 (h 61 1) 8 := jK 0 f118 (rg_T0_8_0_1 t1) (by first | decide | omega) (by first | decide | omega) (by decide)
            have q309 : h102 (h 61 1) 8 = h86 (h 61 1) 8 := jK 0 f104 (rg_T0_8_0_1 t1) (by first | decide | omega) (by first | decide | omega) (by decide)
            have q310 : h86 (h 61 1) 8 = h56 (h 61 1) 8 := jK 0 f88 (rg_T0_8_0_1 t1) (by first | decide | omega) (by first | decide | omega) (by decide)
            have q311 : h56 (h 61 1) 8 = h35 (h 61 1) 8 := jK 0 f58 (rg_T0_8_0_1 t1) (by first | decide | omega) (by first | decide | omega) (by decide)
            have q312 : h35 (h 61 1) 8 = h8 (h 61 1) 8 := jK 0 f37 (rg_T0_8_0_1 t1) (by first | decide | omega) (by first | decide | omega) (by decide)
            have e313 : rv h267 1 = (h8 (h 61 1) 8) := (congrArg (fun z => svq h267 z 1) (((((((q298.trans q299).trans q300).trans q301).trans q302).trans q303).trans q304).trans q305)).trans ((((((q306.trans q307).trans q308).trans q309).trans q310).trans q311).trans q312)
            have e314 : rv h 2 = (h ((h 61 1) + 1) 2) := (congrArg (fun z => svq h z 2) rfl).trans rfl
            have q315 : h267 61 1 = h136 61 1 := f269 61 1 (by decide +kernel)
            have q316 : h136 61 1 = h116 61 1 := f138 61 1 (by decide +kernel)
            have q317 : h116 61 1 = h102 61 1 := f118 61 1 (by decide +kernel)
            have q318 : h102 61 1 = h86 61 1 := f104 61 1 (by decide +kernel)
            have q319 : h86 61 1 = h56 61 1 := f88 61 1 (by decide +kernel)
            have q320 : h56 61 1 = h35 61 1 := f58 61 1 (by decide +kernel)
            have q321 : h35 61 1 = h8 61 1 := f37 61 1 (by decide +kernel)
            have q322 : h8 61 1 = h 61 1 := f10 61 1 (by decide +kernel)
            have q323 : h267 ((h 61 1) + 1) 2 = h136 ((h 61 1) + 1) 2 := jK 0 f269 (rg_T1_2_0_1 t1) (by first | decide | omega) (by first | decide | omega) (by decide)
            have q324 : h136 ((h 61 1) + 1) 2 = h116 ((h 61 1) + 1) 2 := jK 0 f138 (rg_T1_2_0_1 t1) (by first | decide | omega) (by first | decide | omega) (by decide)
            have q325 : h116 ((h 61 1) + 1) 2 = h102 ((h 61 1) + 1) 2 := jK 0 f118 (rg_T1_2_0_1 t1) (by first | decide | omega) (by first | decide | omega) (by decide)
            have q326 : h102 ((h 61 1) + 1) 2 = h86 ((h 61 1) + 1) 2 := jK 0 f104 (rg_T1_2_0_1 t1) (by first | decide | omega) (by first | decide | omega) (by decide)
            have q327 : h86 ((h 61 1) + 1) 2 = h56 ((h 61 1) + 1) 2 := jK 0 f88 (rg_T1_2_0_1 t1) (by first | decide | omega) (by first | decide | omega) (by decide)
            have q328 : h56 ((h 61 1) + 1) 2 = h35 ((h 61 1) + 1) 2 := jK 0 f58 (rg_T1_2_0_1 t1) (by first | decide | omega) (by first | decide | omega) (by decide)
            have q329 : h35 ((h 61 1) + 1) 2 = h8 ((h 61 1) + 1) 2 := jK 0 f37 (rg_T1_2_0_1 t1) (by first | decide | omega) (by first | decide | omega) (by decide)
            have e330 : rv h267 2 = (h8 ((h 61 1) + 1) 2) := (congrArg (fun z => svq h267 z 2) (((((((q315.trans q316).trans q317).trans q318).trans q319).trans q320).trans q321).trans q322)).trans ((((((q323.trans q324).trans q325).trans q326).trans q327).trans q328).trans q329)
            have e331 : rv h 3 = (h ((h 61 1) + 3) 2) := (congrArg (fun z => svq h z 3) rfl).trans rfl
            have q332 : h267 61 1 = h136 61 1 := f269 61 1 (by decide +kernel)
            have q333 : h136 61 1 = h116 61 1 := f138 61 1 (by decide +kernel)
            have q334 : h116 61 1 = h102 61 1 := f118 61 1 (by decide +kernel)
            have q335 : h102 61 1 = h86 61 1 := f104 61 1 (by decide +kernel)
            have q336 : h86 61 1 = h56 61 1 := f88 61 1 (by decide +kernel)
            have q337 : h56 61 1 = h35 61 1 := f58 61 1 (by decide +kernel)
            have q338 : h35 61 1 = h8 61 1 := f37 61 1 (by decide +kernel)
            have q339 : h8 61 1 = h 61 1 := f10 61 1 (by decide +kernel)
            have q340 : h267 ((h 61 1) + 3) 2 = h136 ((h 61 1) + 3) 2 := jK 0 f269 (rg_T3_2_0_1 t1) (by first | decide | omega) (by first | decide | omega) (by decide)
            have q341 : h136 ((h 61 1) + 3) 2 = h116 ((h 61 1) + 3) 2 := jK 0 f138 (rg_T3_2_0_1 t1) (by first | decide | omega) (by first | decide | omega) (by decide)
            have q342 : h116 ((h 61 1) + 3) 2 = h102 ((h 61 1) + 3) 2 := jK 0 f118 (rg_T3_2_0_1 t1) (by first | decide | omega) (by first | decide | omega) (by decide)
            have q343 : h102 ((h 61 1) + 3) 2 = h86 ((h 61 1) + 3) 2 := jK 0 f104 (rg_T3_2_0_1 t1) (by first | decide | omega) (by first | decide | omega) (by decide)
            have q344 : h86 ((h 61 1) + 3) 2 = h56 ((h 61 1) + 3) 2 := jK 0 f88 (rg_T3_2_0_1 t1) (by first | decide | omega) (by first | decide | omega) (by decide)
            have q345 : h56 ((h 61 1) + 3) 2 = h35 ((h 61 1) + 3) 2 := jK 0 f58 (rg_T3_2_0_1 t1) (by first | decide | omega) (by first | decide | omega) (by decide)
            have q346 : h35 ((h 61 1) + 3) 2 = h8 ((h 61 1) + 3) 2 := jK 0 f37 (rg_T3_2_0_1 t1) (by first | decide | omega) (by first | decide | omega) (by decide)
            have e347 : rv h267 3 = (h8 ((h 61 1) + 3) 2) := (congrArg (fun z => svq h267 z 3) (((((((q332.trans q333).trans q334).trans q335).trans q336).trans q337).trans q338).trans q339)).trans ((((((q340.trans q341).trans q342).trans q343).trans q344).trans q345).trans q346)
            have q348 : h267 61 1 = h136 61 1 := f269 61 1 (by decide +kernel)
            have q349 : h136 61 1 = h116 61 1 := f138 61 1 (by decide +kernel)
            have q350 : h116 61 1 = h102 61 1 := f118 61 1 (by decide +kernel)
            have q351 : h102 61 1 = h86 61 1 := f104 61 1 (by decide +kernel)
            have q352 : h86 61 1 = h56 61 1 := f88 61 1 (by decide +kernel)
            have q353 : h56 61 1 = h35 61 1 := f58 61 1 (by decide +kernel)
            have q354 : h35 61 1 = h8 61 1 := f37 61 1 (by decide +kernel)
            have q355 : h8 61 1 = h 61 1 := f10 61 1 (by decide +kernel)
            have q356 : h267 ((h 61 1) + 5) 2 = h136 ((h 61 1) + 5) 2 := jK 0 f269 (rg_T5_2_0_1 t1) (by first | decide | omega) (by first | decide | omega) (by decide)
            have q357 : h136 ((h 61 1) + 5) 2 = h116 ((h 61 1) + 5) 2 := jK 0 f138 (rg_T5_2_0_1 t1) (by first | decide | omega) (by first | decide | omega) (by decide)
            have q358 : h116 ((h 61 1) + 5) 2 = h102 ((h 61 1) + 5) 2 := jK 0 f118 (rg_T5_2_0_1 t1) (by first | decide | omega) (by first | decide | omega) (by decide)
            have q359 : h102 ((h 61 1) + 5) 2 = h86 ((h 61 1) + 5) 2 := jK 0 f104 (rg_T5_2_0_1 t1) (by first | decide | omega) (by first | decide | omega) (by decide)
            have q360 : h86 ((h 61 1) + 5) 2 = h56 ((h 61 1) + 5) 2 := jK 0 f88 (rg_T5_2_0_1 t1) (by first | decide | omega) (by first | decide | omega) (by decide)
            have q361 : h56 ((h 61 1) + 5) 2 = h35 ((h 61 1) + 5) 2 := jK 0 f58 (rg_T5_2_0_1 t1) (by first | decide | omega) (by first | decide | omega) (by decide)
            have q362 : h35 ((h 61 1) + 5) 2 = h8 ((h 61 1) + 5) 2 := jK 0 f37 (rg_T5_2_0_1 t1) (by first | decide | omega) (by first | decide | omega) (by decide)
            have e363 : rv h267 4 = (h8 ((h 61 1) + 5) 2) := (congrArg (fun z => svq h267 z 4) (((((((q348.trans q349).trans q350).trans q351).trans q352).trans q353).trans q354).trans q355)).trans ((((((q356.trans q357).trans q358).trans q359).trans q360).trans q361).trans q362)
            have e364 : rv h 5 = (h ((h 61 1) + 7) 2) := (congrArg (fun z => svq h z 5) rfl).trans rfl
            have q365 : h267 61 1 = h136 61 1 := f269 61 1 (by decide +kernel)
            have q366 : h136 61 1 = h116 61 1 := f138 61 1 (by decide +kernel)
            have q367 : h116 61 1 = h102 61 1 := f118 61 1 (by decide +kernel)
            have q368 : h102 61 1 = h86 61 1 := f104 61 1 (by decide +kernel)
            have q369 : h86 61 1 = h56 61 1 := f88 61 1 (by decide +kernel)
            have q370 : h56 61 1 = h35 61 1 := f58 61 1 (by decide +kernel)
            have q371 : h35 61 1 = h8 61 1 := f37 61 1 (by decide +kernel)
            have q372 : h8 61 1 = h 61 1 := f10 61 1 (by decide +kernel)
            have q373 : h267 ((h 61 1) + 7) 2 = h136 ((h 61 1) + 7) 2 := jK 0 f269 (rg_T7_2_0_1 t1) (by first | decide | omega) (by first | decide | omega) (by decide)
            have q374 : h136 ((h 61 1) + 7) 2 = h116 ((h 61 1) + 7) 2 := jK 0 f138 (rg_T7_2_0_1 t1) (by first | decide | omega) (by first | decide | omega) (by decide)
            have q375 : h116 ((h 61 1) + 7) 2 = h102 ((h 61 1) + 7) 2 := jK 0 f118 (rg_T7_2_0_1 t1) (by first | decide | omega) (by first | decide | omega) (by decide)
            have q376 : h102 ((h 61 1) + 7) 2 = h86 ((h 61 1) + 7) 2 := jK 0 f104 (rg_T7_2_0_1 t1) (by first | decide | omega) (by first | decide | omega) (by decide)
            have q377 : h86 ((h 61 1) + 7) 2 = h56 ((h 61 1) + 7) 2 := jK 0 f88 (rg_T7_2_0_1 t1) (by first | decide | omega) (by first | decide | omega) (by decide)
            have q378 : h56 ((h 61 1) + 7) 2 = h35 ((h 61 1) + 7) 2 := jK 0 f58 (rg_T7_2_0_1 t1) (by first | decide | omega) (by first | decide | omega) (by decide)
            have q379 : h35 ((h 61 1) + 7) 2 = h8 ((h 61 1) + 7) 2 := jK 0 f37 (rg_T7_2_0_1 t1) (by first | decide | omega) (by first | decide | omega) (by decide)
            have e380 : rv h267 5 = (h8 ((h 61 1) + 7) 2) := (congrArg (fun z => svq h267 z 5) (((((((q365.trans q366).trans q367).trans q368).trans q369).trans q370).trans q371).trans q372)).trans ((((((q373.trans q374).trans q375).trans q376).trans q377).trans q378).trans q379)
            have q381 : h8 1 2 = h 1 2 := jK 0 f10 rg_1_2_0_1 (by first | decide | omega) (by first | decide | omega) (by decide)
            obtain ⟨w382, e383⟩ := Tk.no c41 (by first | decide | omega)
            obtain ⟨w384, e385⟩ := Tk.yes c62 (by first | decide | omega)
            have q386 : h102 1 2 = h86 1 2 := jK 0 f104 rg_1_2_0_1 (by first | decide | omega) (by first | decide | omega) (by decide)
            obtain ⟨w387, e388⟩ := Tk.yes c122 (by first | decide | omega)
            obtain ⟨w389, e390⟩ := Tk.no c273 (by first | decide | omega)
            have m391 : Ot (h 61 1) h h8 := Ot.trans Ot.refl (c19)
            have m392 : Ot (h 61 1) h h35 := Ot.fr m391 f37 (by decide)
            have m393 : Ot (h 61 1) h h56 := Ot.fr m392 f58 (by decide)
            have m394 : Ot (h 61 1) h h86 := Ot.fr m393 f88 (by decide)
            have m395 : Ot (h 61 1) h h102 := Ot.fr m394 f104 (by decide)
            have m396 : Ot (h 61 1) h h116 := Ot.fr m395 f118 (by decide)
            have m397 : Ot (h 61 1) h h136 := Ot.fr m396 f138 (by decide)
            have m398 : Ot (h 61 1) h h267 := Ot.fr m397 f269 (by decide)
            have q399 : h8 1 2 = h 1 2 := jK 0 f10 rg_1_2_0_1 (by first | decide | omega) (by first | decide | omega) (by decide)
            obtain ⟨w400, e401⟩ := Tk.no c41 (by first | decide | omega)
            obtain ⟨w402, e403⟩ := Tk.yes c62 (by first | decide | omega)
            have q404 : h102 1 2 = h86 1 2 := jK 0 f104 rg_1_2_0_1 (by first | decide | omega) (by first | decide | omega) (by decide)
            obtain ⟨w405, e406⟩ := Tk.yes c122 (by first | decide | omega)
            obtain ⟨w407, e408⟩ := Tk.no c273 (by first | decide | omega)
            refine x_retI (np := 178) (x := 0) (by decide +kernel) (by decide) (Or.inr ⟨by decide +kernel, by first | decide | omega, by first | decide | omega⟩) ⟨_, rfl, (by decide), ?_⟩
            exact ⟨j268, f274, (by first | decide | omega), (by first | decide | omega), (by first | decide | omega), (by first | decide | omega), (by first | decide | omega), (fun z => by first | decide | omega), (by first | decide | omega), (or9.f w382 (show h8 1 2 = h 1 2 by first | decide | omega) (show h35 1 2 = h 1 2 by first | decide | omega) (wd9.y w384 rfl e385 rfl (nm9.y c93 (by first | decide | omega) (by first | decide | omega) rfl (by first | decide | omega) rfl (wd9.y w387 (show h102 1 2 = h86 1 2 by first | decide | omega) e388 rfl (nm9.y c143 (by first | decide | omega) (by first | decide | omega) rfl (by first | decide | omega) rfl (wd9.f w389 rfl (by first | decide | omega))))))), m398, (fun _ => (oF.no w400 (show h8 1 2 = h 1 2 by first | decide | omega) (show h35 1 2 = h 1 2 by first | decide | omega) (wF.y w402 rfl e403 rfl (mF.y c93 (by first | decide | omega) (by first | decide | omega) rfl (by first | decide | omega) rfl (wF.y w405 (show h102 1 2 = h86 1 2 by first | decide | omega) e406 rfl (mF.y c143 (by first | decide | omega) (by first | decide | omega) rfl (by first | decide | omega) rfl (wF.no w407 rfl (show h267 1 2 = h136 1 2 by first | decide | omega))))))))⟩
          have q278 : ¬ (v263 = 2147483648) := q278
          have b409 := c271 (by first | decide | omega)
          refine x_aload (np := 122) (x := 0) (by decide +kernel) rfl (x_nc_le (by decide)) ?_
          refine x_aload (np := 123) (x := 0) (by decide +kernel) rfl (x_nc_le (by decide)) ?_
          have q410 : h267 61 1 = h136 61 1 := f269 61 1 (by decide +kernel)
          have q411 : h136 61 1 = h116 61 1 := f138 61 1 (by decide +kernel)
          have q412 : h116 61 1 = h102 61 1 := f118 61 1 (by decide +kernel)
          have q413 : h102 61 1 = h86 61 1 := f104 61 1 (by decide +kernel)
          have q414 : h86 61 1 = h56 61 1 := f88 61 1 (by decide +kernel)
          have q415 : h56 61 1 = h35 61 1 := f58 61 1 (by decide +kernel)
          have q416 : h35 61 1 = h8 61 1 := f37 61 1 (by decide +kernel)
          have q417 : h8 61 1 = h 61 1 := f10 61 1 (by decide +kernel)
          refine x_getR (np := 126) (x := 577) (f := 1) (q := (h 61 1)) (by decide +kernel) (by decide) (by decide +kernel) (((((((q410.trans q411).trans q412).trans q413).trans q414).trans q415).trans q416).trans q417) ?_
          have q418 : h267 (h 61 1) 2 = ((h 61 1) + 5) := tf_0_2 j268 t1
          refine x_getR (np := 129) (x := 514) (f := 2) (q := ((h 61 1) + 5)) (by decide +kernel) (by decide) (tg_0_514_2_1 t1) q418 ?_
          refine x_iload (np := 130) (x := 1) (by decide +kernel) rfl l6 ?_
          refine x_const (np := 131) (x := 9223372047592194050) (a := 2147483650) (by decide +kernel) (by decide) (by decide) ?_
          refine x_iload (np := 132) (x := 2) (by decide +kernel) rfl l133 ?_
          refine x_const (np := 134) (x := 9223372086246899723) (a := 2147483659) (by decide +kernel) (by decide) (by decide) ?_
          refine x_nI (t := 6) (mj := 102) (n := 6) (rc := 10) (ml := 7) (nr := 0) (np := 137) (as := [x_r 61, x_r ((h 61 1) + 5), iv_c v5, iv_c 2147483650, iv_c v132, iv_c 2147483659]) (rest := []) (lo1 := [x_r 61, x_r ((h 61 1) + 5), iv_c v5, iv_c 2147483650, iv_c v132, iv_c 2147483659, 147573952589676412928]) (by decide +kernel) (by decide) (by decide +kernel) (x_rb_of (by decide +kernel)) rfl rfl (x_wr (by decide) (x_wr (tn_5 t1) (x_wi l6 (x_wi (by decide) (x_wi l133 (x_wi (by decide) x_wn)))))) x_wn (by decide) rfl ?_
          refine x_aload (np := 1) (x := 0) (by decide +kernel) rfl (x_nc_le (by decide)) ?_
          have q419 : h267 61 0 = 1 := by have z := jB (e := 0) 0 j268 rg_61_0_0_1 (by decide) (by decide); omega
          refine x_getR (np := 4) (x := 576) (f := 0) (q := 1) (by decide +kernel) (by decide) (by decide +kernel) q419 ?_
          refine x_iload (np := 6) (x := 4) (by decide +kernel) rfl l133 ?_
          refine x_iload (np := 8) (x := 5) (by decide +kernel) rfl (by decide) ?_
          have m423 := Tp.fr m266 f269 (by decide) (by decide)
          refine x_cI (t := 6) (mj := 79) (n := 3) (rc := 8) (ml := 5) (nr := 0) (np := 11) (as := [x_r 1, iv_c v132, iv_c 2147483659]) (rest := []) (lo1 := [x_r 1, iv_c v132, iv_c 2147483659, 147573952589676412928, 147573952589676412928]) (by decide +kernel) (by decide) (by decide +kernel) (x_rb_of (by decide +kernel)) rfl rfl (x_wr (by decide) (x_wi l133 (x_wi (by decide) x_wn))) x_wn (by decide) rfl (c79_1 j268  (by first | decide | omega) (by first | decide | omega) m423) (fun v420 h424 l421 q422 => ?_)
          obtain ⟨j425, f426, b427, c428, c429, c430, c431⟩ := q422
          have f432 := Fr.trans f274 f426 (by decide)
          have b433 := jB (e := 2) 0 j425 rg_1_2_0_1 (by first | decide | omega) (by first | decide | omega)
          refine x_istore (np := 13) (x := 6) (lo' := [x_r 61, x_r ((h 61 1) + 5), iv_c v5, iv_c 2147483650, iv_c v132, iv_c 2147483659, iv_c v420]) (by decide +kernel) l421 (Nat.le_of_ble_eq_true rfl) rfl ?_
          refine x_iload (np := 15) (x := 6) (by decide +kernel) rfl l421 ?_
          refine x_const (np := 16) (x := 9223372034707292159) (a := 2147483647) (by decide +kernel) (by decide) (by decide) ?_
          refine x_icmp (k := 1) (tg := 21) (np := 19) (by decide +kernel) (by decide) l421 (by decide) (fun q434 => ?_) (fun q435 => ?_)
          · have q434 : v420 ≠ 2147483647 := q434
            have b436 := c429 (by first | decide | omega)
            refine x_aload (np := 22) (x := 1) (by decide +kernel) rfl (x_nc_le (tn_5 t1)) ?_
            refine x_iload (np := 23) (x := 2) (by decide +kernel) rfl l6 ?_
            refine x_iload (np := 24) (x := 3) (by decide +kernel) rfl (by decide) ?_
            refine x_iload (np := 26) (x := 6) (by decide +kernel) rfl l421 ?_
            refine x_cV (t := 6) (mj := 69) (n := 4) (rc := 7) (ml := 5) (nr := 0) (np := 29) (as := [x_r ((h 61 1) + 5), iv_c v5, iv_c 2147483650, iv_c v420]) (rest := []) (lo1 := [x_r ((h 61 1) + 5), iv_c v5, iv_c 2147483650, iv_c v420, 147573952589676412928]) (by decide +kernel) (by decide) (by decide +kernel) (x_rb_of (tr_5_7 t1)) rfl rfl (x_wr (tn_5 t1) (x_wi l6 (x_wi (by decide) (x_wi l421 x_wn)))) x_wn (by decide) rfl (c69_T5_c2 j425 t1 (by first | decide | omega)  (by first | decide | omega)) (fun h440 q439 => ?_)
            obtain ⟨j441, f442⟩ := q439
            have f445 := Fr.trans f432 f442 (by decide)
            refine x_const (np := 30) (x := 9223372043297226753) (a := 2147483649) (by decide +kernel) (by decide) (by decide) ?_
            refine x_retI (np := 31) (x := 0) (by decide +kernel) (by decide) (Or.inr ⟨by decide +kernel, by first | decide | omega, by first | decide | omega⟩) ⟨_, rfl, (by decide), ?_⟩
            refine x_ifz (k := 0) (tg := 176) (np := 140) (by decide +kernel) (by decide) (by decide) (fun q446 => ?_) (fun q447 => ?_)
            · have q446 : 2147483649 = 2147483648 := q446
              exfalso; omega
            have q447 : ¬ (2147483649 = 2147483648) := q447
            refine x_aload (np := 141) (x := 0) (by decide +kernel) rfl (x_nc_le (by decide)) ?_
            have q448 : h440 61 0 = 1 := by have z := jB (e := 0) 0 j441 rg_61_0_0_1 (by decide) (by decide); omega
            refine x_getR (np := 144) (x := 576) (f := 0) (q := 1) (by decide +kernel) (by decide) (by decide +kernel) q448 ?_
            refine x_ldcB (i := 12) (idx := 155) (tx := "of") (by rw [tb_y99]; exact List.mem_of_getElem? (i := 12) rfl) (by decide) (by rw [tb_b99]; decide +kernel) ?_
            have m453 := Tp.fr m423 f426 (by decide) (by decide)
            have m452 := Tp.fr m453 f442 (by decide) (by decide)
            refine x_cI (t := 6) (mj := 78) (n := 2) (rc := 8) (ml := 2) (nr := 0) (np := 149) (as := [x_r 1, x_b (12 + 1)]) (rest := []) (lo1 := [x_r 1, x_b (12 + 1)]) (by decide +kernel) (by decide) (by decide +kernel) (x_rb_of (by decide +kernel)) rfl rfl (x_wr (by decide) (x_wB (by decide) x_wn)) x_wn (by decide) rfl (c78_1_S0 j441  (by decide) m452) (fun v449 h454 l450 q451 => ?_)
            obtain ⟨j455, f456, b457, c458, c459, c460⟩ := q451
            have f461 := Fr.trans f445 f456 (by decide)
            have q462 : h440 1 2 = h424 1 2 := jK 0 f442 rg_1_2_0_1 (by first | decide | omega) (by first | decide | omega) (by decide)
            have b463 := jB (e := 2) 0 j455 rg_1_2_0_1 (by first | decide | omega) (by first | decide | omega)
            have b464 : iv_tl 12 = 2 := by decide
            have q465 : h440 1 2 = h424 1 2 := jK 0 f442 rg_1_2_0_1 (by first | decide | omega) (by first | decide | omega) (by decide)
            refine x_ifz (k := 0) (tg := 176) (np := 152) (by decide +kernel) (by decide) l450 (fun q466 => ?_) (fun q467 => ?_)
            · have q466 : v449 = 2147483648 := q466
              have b468 := c459 (by first | decide | omega)
              refine x_const (np := 177) (x := 9223372039002259456) (a := 2147483648) (by decide +kernel) (by decide) (by decide) ?_
              have e469 : rv h 0 = (h (h 61 1) 7) := (congrArg (fun z => svq h z 0) rfl).trans rfl
              have q470 : h454 61 1 = h440 61 1 := f456 61 1 (by decide +kernel)
              have q471 : h440 61 1 = h424 61 1 := f442 61 1 (by decide +kernel)
              have q472 : h424 61 1 = h267 61 1 := f426 61 1 (by decide +kernel)
              have q473 : h267 61 1 = h136 61 1 := f269 61 1 (by decide +kernel)
              have q474 : h136 61 1 = h116 61 1 := f138 61 1 (by decide +kernel)
              have q475 : h116 61 1 = h102 61 1 := f118 61 1 (by decide +kernel)
              have q476 : h102 61 1 = h86 61 1 := f104 61 1 (by decide +kernel)
              have q477 : h86 61 1 = h56 61 1 := f88 61 1 (by decide +kernel)
              have q478 : h56 61 1 = h35 61 1 := f58 61 1 (by decide +kernel)
              have q479 : h35 61 1 = h8 61 1 := f37 61 1 (by decide +kernel)
              have q480 : h8 61 1 = h 61 1 := f10 61 1 (by decide +kernel)
              have q481 : h454 (h 61 1) 7 = h440 (h 61 1) 7 := jK 0 f456 (rg_T0_7_0_1 t1) (by first | decide | omega) (by first | decide | omega) (by decide)
              have q482 : h440 (h 61 1) 7 = h424 (h 61 1) 7 := jK 0 f442 (rg_T0_7_0_1 t1) (by first | decide | omega) (by first | decide | omega) (by decide)
              have q483 : h424 (h 61 1) 7 = h267 (h 61 1) 7 := jK 0 f426 (rg_T0_7_0_1 t1) (by first | decide | omega) (by first | decide | omega) (by decide)
              have q484 : h267 (h 61 1) 7 = h136 (h 61 1) 7 := jK 0 f269 (rg_T0_7_0_1 t1) (by first | decide | omega) (by first | decide | omega) (by decide)
              have q485 : h136 (h 61 1) 7 = h116 (h 61 1) 7 := jK 0 f138 (rg_T0_7_0_1 t1) (by first | decide | omega) (by first | decide | omega) (by decide)
              have q486 : h116 (h 61 1) 7 = h102 (h 61 1) 7 := jK 0 f118 (rg_T0_7_0_1 t1) (by first | decide | omega) (by first | decide | omega) (by decide)
              have q487 : h102 (h 61 1) 7 = h86 (h 61 1) 7 := jK 0 f104 (rg_T0_7_0_1 t1) (by first | decide | omega) (by first | decide | omega) (by decide)
              have q488 : h86 (h 61 1) 7 = h56 (h 61 1) 7 := jK 0 f88 (rg_T0_7_0_1 t1) (by first | decide | omega) (by first | decide | omega) (by decide)
              have q489 : h56 (h 61 1) 7 = h35 (h 61 1) 7 := jK 0 f58 (rg_T0_7_0_1 t1) (by first | decide | omega) (by first | decide | omega) (by decide)
              have q490 : h35 (h 61 1) 7 = h8 (h 61 1) 7 := jK 0 f37 (rg_T0_7_0_1 t1) (by first | decide | omega) (by first | decide | omega) (by decide)
              have e491 : rv h454 0 = (h8 (h 61 1) 7) := (congrArg (fun z => svq h454 z 0) ((((((((((q470.trans q471).trans q472).trans q473).trans q474).trans q475).trans q476).trans q477).trans q478).trans q479).trans q480)).trans (((((((((q481.trans q482).trans q483).trans q484).trans q485).trans q486).trans q487).trans q488).trans q489).trans q490)
              have e492 : rv h 1 = (h (h 61 1) 8) := (congrArg (fun z => svq h z 1) rfl).trans rfl
              have q493 : h454 61 1 = h440 61 1 := f456 61 1 (by decide +kernel)
              have q494 : h440 61 1 = h424 61 1 := f442 61 1 (by decide +kernel)
              have q495 : h424 61 1 = h267 61 1 := f426 61 1 (by decide +kernel)
              have q496 : h267 61 1 = h136 61 1 := f269 61 1 (by decide +kernel)
              have q497 : h136 61 1 = h116 61 1 := f138 61 1 (by decide +kernel)
              have q498 : h116 61 1 = h102 61 1 := f118 61 1 (by decide +kernel)
              have q499 : h102 61 1 = h86 61 1 := f104 61 1 (by decide +kernel)
              have q500 : h86 61 1 = h56 61 1 := f88 61 1 (by decide +kernel)
              have q501 : h56 61 1 = h35 61 1 := f58 61 1 (by decide +kernel)
              have q502 : h35 61 1 = h8 61 1 := f37 61 1 (by decide +kernel)
              have q503 : h8 61 1 = h 61 1 := f10 61 1 (by decide +kernel)
              have q504 : h454 (h 61 1) 8 = h440 (h 61 1) 8 := jK 0 f456 (rg_T0_8_0_1 t1) (by first | decide | omega) (by first | decide | omega) (by decide)
              have q505 : h440 (h 61 1) 8 = h424 (h 61 1) 8 := jK 0 f442 (rg_T0_8_0_1 t1) (by first | decide | omega) (by first | decide | omega) (by decide)
              have q506 : h424 (h 61 1) 8 = h267 (h 61 1) 8 := jK 0 f426 (rg_T0_8_0_1 t1) (by first | decide | omega) (by first | decide | omega) (by decide)
              have q507 : h267 (h 61 1) 8 = h136 (h 61 1) 8 := jK 0 f269 (rg_T0_8_0_1 t1) (by first | decide | omega) (by first | decide | omega) (by decide)
              have q508 : h136 (h 61 1) 8 = h116 (h 61 1) 8 := jK 0 f138 (rg_T0_8_0_1 t1) (by first | decide | omega) (by first | decide | omega) (by decide)
              have q509 : h116 (h 61 1) 8 = h102 (h 61 1) 8 := jK 0 f118 (rg_T0_8_0_1 t1) (by first | decide | omega) (by first | decide | omega) (by decide)
              have q510 : h102 (h 61 1) 8 = h86 (h 61 1) 8 := jK 0 f104 (rg_T0_8_0_1 t1) (by first | decide | omega) (by first | decide | omega) (by decide)
              have q511 : h86 (h 61 1) 8 = h56 (h 61 1) 8 := jK 0 f88 (rg_T0_8_0_1 t1) (by first | decide | omega) (by first | decide | omega) (by decide)
              have q512 : h56 (h 61 1) 8 = h35 (h 61 1) 8 := jK 0 f58 (rg_T0_8_0_1 t1) (by first | decide | omega) (by first | decide | omega) (by decide)
              have q513 : h35 (h 61 1) 8 = h8 (h 61 1) 8 := jK 0 f37 (rg_T0_8_0_1 t1) (by first | decide | omega) (by first | decide | omega) (by decide)
              have e514 : rv h454 1 = (h8 (h 61 1) 8) := (congrArg (fun z => svq h454 z 1) ((((((((((q493.trans q494).trans q495).trans q496).trans q497).trans q498).trans q499).trans q500).trans q501).trans q502).trans q503)).trans (((((((((q504.trans q505).trans q506).trans q507).trans q508).trans q509).trans q510).trans q511).trans q512).trans q513)
              have e515 : rv h 2 = (h ((h 61 1) + 1) 2) := (congrArg (fun z => svq h z 2) rfl).trans rfl
              have q516 : h454 61 1 = h440 61 1 := f456 61 1 (by decide +kernel)
              have q517 : h440 61 1 = h424 61 1 := f442 61 1 (by decide +kernel)
              have q518 : h424 61 1 = h267 61 1 := f426 61 1 (by decide +kernel)
              have q519 : h267 61 1 = h136 61 1 := f269 61 1 (by decide +kernel)
              have q520 : h136 61 1 = h116 61 1 := f138 61 1 (by decide +kernel)
              have q521 : h116 61 1 = h102 61 1 := f118 61 1 (by decide +kernel)
              have q522 : h102 61 1 = h86 61 1 := f104 61 1 (by decide +kernel)
              have q523 : h86 61 1 = h56 61 1 := f88 61 1 (by decide +kernel)
              have q524 : h56 61 1 = h35 61 1 := f58 61 1 (by decide +kernel)
              have q525 : h35 61 1 = h8 61 1 := f37 61 1 (by decide +kernel)
              have q526 : h8 61 1 = h 61 1 := f10 61 1 (by decide +kernel)
              have q527 : h454 ((h 61 1) + 1) 2 = h440 ((h 61 1) + 1) 2 := jK 0 f456 (rg_T1_2_0_1 t1) (by first | decide | omega) (by first | decide | omega) (by decide)
              have q528 : h440 ((h 61 1) + 1) 2 = h424 ((h 61 1) + 1) 2 := jK 0 f442 (rg_T1_2_0_1 t1) (by first | decide | omega) (by first | decide | omega) (by decide)
              have q529 : h424 ((h 61 1) + 1) 2 = h267 ((h 61 1) + 1) 2 := jK 0 f426 (rg_T1_2_0_1 t1) (by first | decide | omega) (by first | decide | omega) (by decide)
              have q530 : h267 ((h 61 1) + 1) 2 = h136 ((h 61 1) + 1) 2 := jK 0 f269 (rg_T1_2_0_1 t1) (by first | decide | omega) (by first | decide | omega) (by decide)
              have q531 : h136 ((h 61 1) + 1) 2 = h116 ((h 61 1) + 1) 2 := jK 0 f138 (rg_T1_2_0_1 t1) (by first | decide | omega) (by first | decide | omega) (by decide)
              have q532 : h116 ((h 61 1) + 1) 2 = h102 ((h 61 1) + 1) 2 := jK 0 f118 (rg_T1_2_0_1 t1) (by first | decide | omega) (by first | decide | omega) (by decide)
              have q533 : h102 ((h 61 1) + 1) 2 = h86 ((h 61 1) + 1) 2 := jK 0 f104 (rg_T1_2_0_1 t1) (by first | decide | omega) (by first | decide | omega) (by decide)
              have q534 : h86 ((h 61 1) + 1) 2 = h56 ((h 61 1) + 1) 2 := jK 0 f88 (rg_T1_2_0_1 t1) (by first | decide | omega) (by first | decide | omega) (by decide)
              have q535 : h56 ((h 61 1) + 1) 2 = h35 ((h 61 1) + 1) 2 := jK 0 f58 (rg_T1_2_0_1 t1) (by first | decide | omega) (by first | decide | omega) (by decide)
              have q536 : h35 ((h 61 1) + 1) 2 = h8 ((h 61 1) + 1) 2 := jK 0 f37 (rg_T1_2_0_1 t1) (by first | decide | omega) (by first | decide | omega) (by decide)
              have e537 : rv h454 2 = (h8 ((h 61 1) + 1) 2) := (congrArg (fun z => svq h454 z 2) ((((((((((q516.trans q517).trans q518).trans q519).trans q520).trans q521).trans q522).trans q523).trans q524).trans q525).trans q526)).trans (((((((((q527.trans q528).trans q529).trans q530).trans q531).trans q532).trans q533).trans q534).trans q535).trans q536)
              have e538 : rv h 3 = (h ((h 61 1) + 3) 2) := (congrArg (fun z => svq h z 3) rfl).trans rfl
              have q539 : h454 61 1 = h440 61 1 := f456 61 1 (by decide +kernel)
              have q540 : h440 61 1 = h424 61 1 := f442 61 1 (by decide +kernel)
              have q541 : h424 61 1 = h267 61 1 := f426 61 1 (by decide +kernel)
              have q542 : h267 61 1 = h136 61 1 := f269 61 1 (by decide +kernel)
              have q543 : h136 61 1 = h116 61 1 := f138 61 1 (by decide +kernel)
              have q544 : h116 61 1 = h102 61 1 := f118 61 1 (by decide +kernel)
              have q545 : h102 61 1 = h86 61 1 := f104 61 1 (by decide +kernel)
              have q546 : h86 61 1 = h56 61 1 := f88 61 1 (by decide +kernel)
              have q547 : h56 61 1 = h35 61 1 := f58 61 1 (by decide +kernel)
              have q548 : h35 61 1 = h8 61 1 := f37 61 1 (by decide +kernel)
              have q549 : h8 61 1 = h 61 1 := f10 61 1 (by decide +kernel)
              have q550 : h454 ((h 61 1) + 3) 2 = h440 ((h 61 1) + 3) 2 := jK 0 f456 (rg_T3_2_0_1 t1) (by first | decide | omega) (by first | decide | omega) (by decide)
              have q551 : h440 ((h 61 1) + 3) 2 = h424 ((h 61 1) + 3) 2 := jK 0 f442 (rg_T3_2_0_1 t1) (by first | decide | omega) (by first | decide | omega) (by decide)
              have q552 : h424 ((h 61 1) + 3) 2 = h267 ((h 61 1) + 3) 2 := jK 0 f426 (rg_T3_2_0_1 t1) (by first | decide | omega) (by first | decide | omega) (by decide)
              have q553 : h267 ((h 61 1) + 3) 2 = h136 ((h 61 1) + 3) 2 := jK 0 f269 (rg_T3_2_0_1 t1) (by first | decide | omega) (by first | decide | omega) (by decide)
              have q554 : h136 ((h 61 1) + 3) 2 = h116 ((h 61 1) + 3) 2 := jK 0 f138 (rg_T3_2_0_1 t1) (by first | decide | omega) (by first | decide | omega) (by decide)
              have q555 : h116 ((h 61 1) + 3) 2 = h102 ((h 61 1) + 3) 2 := jK 0 f118 (rg_T3_2_0_1 t1) (by first | decide | omega) (by first | decide | omega) (by decide)
              have q556 : h102 ((h 61 1) + 3) 2 = h86 ((h 61 1) + 3) 2 := jK 0 f104 (rg_T3_2_0_1 t1) (by first | decide | omega) (by first | decide | omega) (by decide)
              have q557 : h86 ((h 61 1) + 3) 2 = h56 ((h 61 1) + 3) 2 := jK 0 f88 (rg_T3_2_0_1 t1) (by first | decide | omega) (by first | decide | omega) (by decide)
              have q558 : h56 ((h 61 1) + 3) 2 = h35 ((h 61 1) + 3) 2 := jK 0 f58 (rg_T3_2_0_1 t1) (by first | decide | omega) (by first | decide | omega) (by decide)
              have q559 : h35 ((h 61 1) + 3) 2 = h8 ((h 61 1) + 3) 2 := jK 0 f37 (rg_T3_2_0_1 t1) (by first | decide | omega) (by first | decide | omega) (by decide)
              have e560 : rv h454 3 = (h8 ((h 61 1) + 3) 2) := (congrArg (fun z => svq h454 z 3) ((((((((((q539.trans q540).trans q541).trans q542).trans q543).trans q544).trans q545).trans q546).trans q547).trans q548).trans q549)).trans (((((((((q550.trans q551).trans q552).trans q553).trans q554).trans q555).trans q556).trans q557).trans q558).trans q559)
              have q561 : h454 61 1 = h440 61 1 := f456 61 1 (by decide +kernel)
              have q562 : h440 61 1 = h424 61 1 := f442 61 1 (by decide +kernel)
              have q563 : h424 61 1 = h267 61 1 := f426 61 1 (by decide +kernel)
              have q564 : h267 61 1 = h136 61 1 := f269 61 1 (by decide +kernel)
              have q565 : h136 61 1 = h116 61 1 := f138 61 1 (by decide +kernel)
              have q566 : h116 61 1 = h102 61 1 := f118 61 1 (by decide +kernel)
              have q567 : h102 61 1 = h86 61 1 := f104 61 1 (by decide +kernel)
              have q568 : h86 61 1 = h56 61 1 := f88 61 1 (by decide +kernel)
              have q569 : h56 61 1 = h35 61 1 := f58 61 1 (by decide +kernel)
              have q570 : h35 61 1 = h8 61 1 := f37 61 1 (by decide +kernel)
              have q571 : h8 61 1 = h 61 1 := f10 61 1 (by decide +kernel)
              have q572 : h454 ((h 61 1) + 5) 2 = h440 ((h 61 1) + 5) 2 := jK 0 f456 (rg_T5_2_0_1 t1) (by first | decide | omega) (by first | decide | omega) (by decide)
              have q573 : h440 ((h 61 1) + 5) 2 = h424 ((h 61 1) + 5) 2 := jK 0 f442 (rg_T5_2_0_1 t1) (by first | decide | omega) (by first | decide | omega) (by decide)
              have q574 : h424 ((h 61 1) + 5) 2 = h267 ((h 61 1) + 5) 2 := jK 0 f426 (rg_T5_2_0_1 t1) (by first | decide | omega) (by first | decide | omega) (by decide)
              have q575 : h267 ((h 61 1) + 5) 2 = h136 ((h 61 1) + 5) 2 := jK 0 f269 (rg_T5_2_0_1 t1) (by first | decide | omega) (by first | decide | omega) (by decide)
              have q576 : h136 ((h 61 1) + 5) 2 = h116 ((h 61 1) + 5) 2 := jK 0 f138 (rg_T5_2_0_1 t1) (by first | decide | omega) (by first | decide | omega) (by decide)
              have q577 : h116 ((h 61 1) + 5) 2 = h102 ((h 61 1) + 5) 2 := jK 0 f118 (rg_T5_2_0_1 t1) (by first | decide | omega) (by first | decide | omega) (by decide)
              have q578 : h102 ((h 61 1) + 5) 2 = h86 ((h 61 1) + 5) 2 := jK 0 f104 (rg_T5_2_0_1 t1) (by first | decide | omega) (by first | decide | omega) (by decide)
              have q579 : h86 ((h 61 1) + 5) 2 = h56 ((h 61 1) + 5) 2 := jK 0 f88 (rg_T5_2_0_1 t1) (by first | decide | omega) (by first | decide | omega) (by decide)
              have q580 : h56 ((h 61 1) + 5) 2 = h35 ((h 61 1) + 5) 2 := jK 0 f58 (rg_T5_2_0_1 t1) (by first | decide | omega) (by first | decide | omega) (by decide)
              have q581 : h35 ((h 61 1) + 5) 2 = h8 ((h 61 1) + 5) 2 := jK 0 f37 (rg_T5_2_0_1 t1) (by first | decide | omega) (by first | decide | omega) (by decide)
              have e582 : rv h454 4 = (h8 ((h 61 1) + 5) 2) := (congrArg (fun z => svq h454 z 4) ((((((((((q561.trans q562).trans q563).trans q564).trans q565).trans q566).trans q567).trans q568).trans q569).trans q570).trans q571)).trans (((((((((q572.trans q573).trans q574).trans q575).trans q576).trans q577).trans q578).trans q579).trans q580).trans q581)
              have e583 : rv h 5 = (h ((h 61 1) + 7) 2) := (congrArg (fun z => svq h z 5) rfl).trans rfl
              have q584 : h454 61 1 = h440 61 1 := f456 61 1 (by decide +kernel)
              have q585 : h440 61 1 = h424 61 1 := f442 61 1 (by decide +kernel)
              have q586 : h424 61 1 = h267 61 1 := f426 61 1 (by decide +kernel)
              have q587 : h267 61 1 = h136 61 1 := f269 61 1 (by decide +kernel)
              have q588 : h136 61 1 = h116 61 1 := f138 61 1 (by decide +kernel)
              have q589 : h116 61 1 = h102 61 1 := f118 61 1 (by decide +kernel)
              have q590 : h102 61 1 = h86 61 1 := f104 61 1 (by decide +kernel)
              have q591 : h86 61 1 = h56 61 1 := f88 61 1 (by decide +kernel)
              have q592 : h56 61 1 = h35 61 1 := f58 61 1 (by decide +kernel)
              have q593 : h35 61 1 = h8 61 1 := f37 61 1 (by decide +kernel)
              have q594 : h8 61 1 = h 61 1 := f10 61 1 (by decide +kernel)
              have q595 : h454 ((h 61 1) + 7) 2 = h440 ((h 61 1) + 7) 2 := jK 0 f456 (rg_T7_2_0_1 t1) (by first | decide | omega) (by first | decide | omega) (by decide)
              have q596 : h440 ((h 61 1) + 7) 2 = h424 ((h 61 1) + 7) 2 := jK 0 f442 (rg_T7_2_0_1 t1) (by first | decide | omega) (by first | decide | omega) (by decide)
              have q597 : h424 ((h 61 1) + 7) 2 = h267 ((h 61 1) + 7) 2 := jK 0 f426 (rg_T7_2_0_1 t1) (by first | decide | omega) (by first | decide | omega) (by decide)
              have q598 : h267 ((h 61 1) + 7) 2 = h136 ((h 61 1) + 7) 2 := jK 0 f269 (rg_T7_2_0_1 t1) (by first | decide | omega) (by first | decide | omega) (by decide)
              have q599 : h136 ((h 61 1) + 7) 2 = h116 ((h 61 1) + 7) 2 := jK 0 f138 (rg_T7_2_0_1 t1) (by first | decide | omega) (by first | decide | omega) (by decide)
              have q600 : h116 ((h 61 1) + 7) 2 = h102 ((h 61 1) + 7) 2 := jK 0 f118 (rg_T7_2_0_1 t1) (by first | decide | omega) (by first | decide | omega) (by decide)
              have q601 : h102 ((h 61 1) + 7) 2 = h86 ((h 61 1) + 7) 2 := jK 0 f104 (rg_T7_2_0_1 t1) (by first | decide | omega) (by first | decide | omega) (by decide)
              have q602 : h86 ((h 61 1) + 7) 2 = h56 ((h 61 1) + 7) 2 := jK 0 f88 (rg_T7_2_0_1 t1) (by first | decide | omega) (by first | decide | omega) (by decide)
              have q603 : h56 ((h 61 1) + 7) 2 = h35 ((h 61 1) + 7) 2 := jK 0 f58 (rg_T7_2_0_1 t1) (by first | decide | omega) (by first | decide | omega) (by decide)
              have q604 : h35 ((h 61 1) + 7) 2 = h8 ((h 61 1) + 7) 2 := jK 0 f37 (rg_T7_2_0_1 t1) (by first | decide | omega) (by first | decide | omega) (by decide)
              have e605 : rv h454 5 = (h8 ((h 61 1) + 7) 2) := (congrArg (fun z => svq h454 z 5) ((((((((((q584.trans q585).trans q586).trans q587).trans q588).trans q589).trans q590).trans q591).trans q592).trans q593).trans q594)).trans (((((((((q595.trans q596).trans q597).trans q598).trans q599).trans q600).trans q601).trans q602).trans q603).trans q604)
              have q606 : h8 1 2 = h 1 2 := jK 0 f10 rg_1_2_0_1 (by first | decide | omega) (by first | decide | omega) (by decide)
              obtain ⟨w607, e608⟩ := Tk.no c41 (by first | decide | omega)
              obtain ⟨w609, e610⟩ := Tk.yes c62 (by first | decide | omega)
              have q611 : h102 1 2 = h86 1 2 := jK 0 f104 rg_1_2_0_1 (by first | decide | omega) (by first | decide | omega) (by decide)
              obtain ⟨w612, e613⟩ := Tk.yes c122 (by first | decide | omega)
              obtain ⟨w614, e615⟩ := Tk.yes c273 (by first | decide | omega)
              have q616 : h440 1 2 = h424 1 2 := jK 0 f442 rg_1_2_0_1 (by first | decide | omega) (by first | decide | omega) (by decide)
              obtain ⟨w617, e618⟩ := Tk.no c460 (by first | decide | omega)
              have m619 : Ot (h 61 1) h h8 := Ot.trans Ot.refl (c19)
              have m620 : Ot (h 61 1) h h35 := Ot.fr m619 f37 (by decide)
              have m621 : Ot (h 61 1) h h56 := Ot.fr m620 f58 (by decide)
              have m622 : Ot (h 61 1) h h86 := Ot.fr m621 f88 (by decide)
              have m623 : Ot (h 61 1) h h102 := Ot.fr m622 f104 (by decide)
              have m624 : Ot (h 61 1) h h116 := Ot.fr m623 f118 (by decide)
              have m625 : Ot (h 61 1) h h136 := Ot.fr m624 f138 (by decide)
              have m626 : Ot (h 61 1) h h267 := Ot.fr m625 f269 (by decide)
              have m627 : Ot (h 61 1) h h424 := Ot.fr m626 f426 (by decide)
              have m628 : Ot (h 61 1) h h440 := Ot.fr m627 f442 (by decide)
              have m629 : Ot (h 61 1) h h454 := Ot.fr m628 f456 (by decide)
              have q630 : h8 1 2 = h 1 2 := jK 0 f10 rg_1_2_0_1 (by first | decide | omega) (by first | decide | omega) (by decide)
              obtain ⟨w631, e632⟩ := Tk.no c41 (by first | decide | omega)
              obtain ⟨w633, e634⟩ := Tk.yes c62 (by first | decide | omega)
              have q635 : h102 1 2 = h86 1 2 := jK 0 f104 rg_1_2_0_1 (by first | decide | omega) (by first | decide | omega) (by decide)
              obtain ⟨w636, e637⟩ := Tk.yes c122 (by first | decide | omega)
              obtain ⟨w638, e639⟩ := Tk.yes c273 (by first | decide | omega)
              have q640 : h440 1 2 = h424 1 2 := jK 0 f442 rg_1_2_0_1 (by first | decide | omega) (by first | decide | omega) (by decide)
              obtain ⟨w641, e642⟩ := Tk.no c460 (by first | decide | omega)
              have q643 : h440 1 2 = h424 1 2 := jK 0 f442 rg_1_2_0_1 (by first | decide | omega) (by first | decide | omega) (by decide)
              refine x_retI (np := 178) (x := 0) (by decide +kernel) (by decide) (Or.inr ⟨by decide +kernel, by first | decide | omega, by first | decide | omega⟩) ⟨_, rfl, (by decide), ?_⟩
              exact ⟨j455, f461, (by first | decide | omega), (by first | decide | omega), (by first | decide | omega), (by first | decide | omega), (by first | decide | omega), (fun z => by first | decide | omega), (by first | decide | omega), (or9.f w607 (show h8 1 2 = h 1 2 by first | decide | omega) (show h35 1 2 = h 1 2 by first | decide | omega) (wd9.y w609 rfl e610 rfl (nm9.y c93 (by first | decide | omega) (by first | decide | omega) rfl (by first | decide | omega) rfl (wd9.y w612 (show h102 1 2 = h86 1 2 by first | decide | omega) e613 rfl (nm9.y c143 (by first | decide | omega) (by first | decide | omega) rfl (by first | decide | omega) rfl (wd9.y w614 rfl e615 rfl (nm9.y c431 (by first | decide | omega) (by first | decide | omega) rfl (by first | decide | omega) rfl (wd9.f w617 (show h440 1 2 = h424 1 2 by first | decide | omega) (by first | decide | omega))))))))), m629, (fun _ => (oF.no w631 (show h8 1 2 = h 1 2 by first | decide | omega) (show h35 1 2 = h 1 2 by first | decide | omega) (wF.y w633 rfl e634 rfl (mF.y c93 (by first | decide | omega) (by first | decide | omega) rfl (by first | decide | omega) rfl (wF.y w636 (show h102 1 2 = h86 1 2 by first | decide | omega) e637 rfl (mF.y c143 (by first | decide | omega) (by first | decide | omega) rfl (by first | decide | omega) rfl (wF.y w638 rfl e639 rfl (mF.y c431 (by first | decide | omega) (by first | decide | omega) rfl (by first | decide | omega) rfl (wF.no w641 (show h440 1 2 = h424 1 2 by first | decide | omega) (show h454 1 2 = h440 1 2 by first | decide | omega))))))))))⟩
            have q467 : ¬ (v449 = 2147483648) := q467
            have b644 := c458 (by first | decide | omega)
            refine x_aload (np := 153) (x := 0) (by decide +kernel) rfl (x_nc_le (by decide)) ?_
            refine x_aload (np := 154) (x := 0) (by decide +kernel) rfl (x_nc_le (by decide)) ?_
            have q645 : h454 61 1 = h440 61 1 := f456 61 1 (by decide +kernel)
            have q646 : h440 61 1 = h424 61 1 := f442 61 1 (by decide +kernel)
            have q647 : h424 61 1 = h267 61 1 := f426 61 1 (by decide +kernel)
            have q648 : h267 61 1 = h136 61 1 := f269 61 1 (by decide +kernel)
            have q649 : h136 61 1 = h116 61 1 := f138 61 1 (by decide +kernel)
            have q650 : h116 61 1 = h102 61 1 := f118 61 1 (by decide +kernel)
            have q651 : h102 61 1 = h86 61 1 := f104 61 1 (by decide +kernel)
            have q652 : h86 61 1 = h56 61 1 := f88 61 1 (by decide +kernel)
            have q653 : h56 61 1 = h35 61 1 := f58 61 1 (by decide +kernel)
            have q654 : h35 61 1 = h8 61 1 := f37 61 1 (by decide +kernel)
            have q655 : h8 61 1 = h 61 1 := f10 61 1 (by decide +kernel)
            refine x_getR (np := 157) (x := 577) (f := 1) (q := (h 61 1)) (by decide +kernel) (by decide) (by decide +kernel) ((((((((((q645.trans q646).trans q647).trans q648).trans q649).trans q650).trans q651).trans q652).trans q653).trans q654).trans q655) ?_
            have q656 : h454 (h 61 1) 2 = ((h 61 1) + 5) := tf_0_2 j455 t1
            refine x_getR (np := 160) (x := 514) (f := 2) (q := ((h 61 1) + 5)) (by decide +kernel) (by decide) (tg_0_514_2_1 t1) q656 ?_
            refine x_iload (np := 161) (x := 1) (by decide +kernel) rfl l6 ?_
            refine x_const (np := 162) (x := 9223372051887161347) (a := 2147483651) (by decide +kernel) (by decide) (by decide) ?_
            refine x_const (np := 163) (x := 9223372039002259456) (a := 2147483648) (by decide +kernel) (by decide) (by decide) ?_
            refine x_const (np := 166) (x := 9223376329674589159) (a := 2147484647) (by decide +kernel) (by decide) (by decide) ?_
            refine x_nI (t := 6) (mj := 102) (n := 6) (rc := 10) (ml := 7) (nr := 0) (np := 169) (as := [x_r 61, x_r ((h 61 1) + 5), iv_c v5, iv_c 2147483651, iv_c 2147483648, iv_c 2147484647]) (rest := []) (lo1 := [x_r 61, x_r ((h 61 1) + 5), iv_c v5, iv_c 2147483651, iv_c 2147483648, iv_c 2147484647, 147573952589676412928]) (by decide +kernel) (by decide) (by decide +kernel) (x_rb_of (by decide +kernel)) rfl rfl (x_wr (by decide) (x_wr (tn_5 t1) (x_wi l6 (x_wi (by decide) (x_wi (by decide) (x_wi (by decide) x_wn)))))) x_wn (by decide) rfl ?_
            refine x_aload (np := 1) (x := 0) (by decide +kernel) rfl (x_nc_le (by decide)) ?_
            have q657 : h454 61 0 = 1 := by have z := jB (e := 0) 0 j455 rg_61_0_0_1 (by decide) (by decide); omega
            refine x_getR (np := 4) (x := 576) (f := 0) (q := 1) (by decide +kernel) (by decide) (by decide +kernel) q657 ?_
            refine x_iload (np := 6) (x := 4) (by decide +kernel) rfl (by decide) ?_
            refine x_iload (np := 8) (x := 5) (by decide +kernel) rfl (by decide) ?_
            have m661 := Tp.fr m452 f456 (by decide) (by decide)
            refine x_cI (t := 6) (mj := 79) (n := 3) (rc := 8) (ml := 5) (nr := 0) (np := 11) (as := [x_r 1, iv_c 2147483648, iv_c 2147484647]) (rest := []) (lo1 := [x_r 1, iv_c 2147483648, iv_c 2147484647, 147573952589676412928, 147573952589676412928]) (by decide +kernel) (by decide) (by decide +kernel) (x_rb_of (by decide +kernel)) rfl rfl (x_wr (by decide) (x_wi (by decide) (x_wi (by decide) x_wn))) x_wn (by decide) rfl (c79_1_c0 j455   (by first | decide | omega) m661) (fun v658 h662 l659 q660 => ?_)
            obtain ⟨j663, f664, b665, c666, c667, c668, c669⟩ := q660
            have f670 := Fr.trans f461 f664 (by decide)
            have b671 := jB (e := 2) 0 j663 rg_1_2_0_1 (by first | decide | omega) (by first | decide | omega)
            refine x_istore (np := 13) (x := 6) (lo' := [x_r 61, x_r ((h 61 1) + 5), iv_c v5, iv_c 2147483651, iv_c 2147483648, iv_c 2147484647, iv_c v658]) (by decide +kernel) l659 (Nat.le_of_ble_eq_true rfl) rfl ?_
            refine x_iload (np := 15) (x := 6) (by decide +kernel) rfl l659 ?_
            refine x_const (np := 16) (x := 9223372034707292159) (a := 2147483647) (by decide +kernel) (by decide) (by decide) ?_
            refine x_icmp (k := 1) (tg := 21) (np := 19) (by decide +kernel) (by decide) l659 (by decide) (fun q672 => ?_) (fun q673 => ?_)
            · have q672 : v658 ≠ 2147483647 := q672
              have b674 := c667 (by first | decide | omega)
              refine x_aload (np := 22) (x := 1) (by decide +kernel) rfl (x_nc_le (tn_5 t1)) ?_
              refine x_iload (np := 23) (x := 2) (by decide +kernel) rfl l6 ?_
              refine x_iload (np := 24) (x := 3) (by decide +kernel) rfl (by decide) ?_
              refine x_iload (np := 26) (x := 6) (by decide +kernel) rfl l659 ?_
              refine x_cV (t := 6) (mj := 69) (n := 4) (rc := 7) (ml := 5) (nr := 0) (np := 29) (as := [x_r ((h 61 1) + 5), iv_c v5, iv_c 2147483651, iv_c v658]) (rest := []) (lo1 := [x_r ((h 61 1) + 5), iv_c v5, iv_c 2147483651, iv_c v658, 147573952589676412928]) (by decide +kernel) (by decide) (by decide +kernel) (x_rb_of (tr_5_7 t1)) rfl rfl (x_wr (tn_5 t1) (x_wi l6 (x_wi (by decide) (x_wi l659 x_wn)))) x_wn (by decide) rfl (c69_T5_c3 j663 t1 (by first | decide | omega)  (by first | decide | omega)) (fun h678 q677 => ?_)
              obtain ⟨j679, f680⟩ := q677
              have f683 := Fr.trans f670 f680 (by decide)
              refine x_const (np := 30) (x := 9223372043297226753) (a := 2147483649) (by decide +kernel) (by decide) (by decide) ?_
              refine x_retI (np := 31) (x := 0) (by decide +kernel) (by decide) (Or.inr ⟨by decide +kernel, by first | decide | omega, by first | decide | omega⟩) ⟨_, rfl, (by decide), ?_⟩
              refine x_ifz (k := 0) (tg := 176) (np := 172) (by decide +kernel) (by decide) (by decide) (fun q684 => ?_) (fun q685 => ?_)
              · have q684 : 2147483649 = 2147483648 := q684
                exfalso; omega
              have q685 : ¬ (2147483649 = 2147483648) := q685
              refine x_const (np := 173) (x := 9223372043297226753) (a := 2147483649) (by decide +kernel) (by decide) (by decide) ?_
              refine x_goto (np := 176) (x := 177) (by decide +kernel) ?_
              have e686 : rv h 0 = (h (h 61 1) 7) := (congrArg (fun z => svq h z 0) rfl).trans rfl
              have q687 : h678 61 1 = h662 61 1 := f680 61 1 (by decide +kernel)
              have q688 : h662 61 1 = h454 61 1 := f664 61 1 (by decide +kernel)
              have q689 : h454 61 1 = h440 61 1 := f456 61 1 (by decide +kernel)
              have q690 : h440 61 1 = h424 61 1 := f442 61 1 (by decide +kernel)
              have q691 : h424 61 1 = h267 61 1 := f426 61 1 (by decide +kernel)
              have q692 : h267 61 1 = h136 61 1 := f269 61 1 (by decide +kernel)
              have q693 : h136 61 1 = h116 61 1 := f138 61 1 (by decide +kernel)
              have q694 : h116 61 1 = h102 61 1 := f118 61 1 (by decide +kernel)
              have q695 : h102 61 1 = h86 61 1 := f104 61 1 (by decide +kernel)
              have q696 : h86 61 1 = h56 61 1 := f88 61 1 (by decide +kernel)
              have q697 : h56 61 1 = h35 61 1 := f58 61 1 (by decide +kernel)
              have q698 : h35 61 1 = h8 61 1 := f37 61 1 (by decide +kernel)
              have q699 : h8 61 1 = h 61 1 := f10 61 1 (by decide +kernel)
              have q700 : h678 (h 61 1) 7 = h662 (h 61 1) 7 := jK 0 f680 (rg_T0_7_0_1 t1) (by first | decide | omega) (by first | decide | omega) (by decide)
              have q701 : h662 (h 61 1) 7 = h454 (h 61 1) 7 := jK 0 f664 (rg_T0_7_0_1 t1) (by first | decide | omega) (by first | decide | omega) (by decide)
              have q702 : h454 (h 61 1) 7 = h440 (h 61 1) 7 := jK 0 f456 (rg_T0_7_0_1 t1) (by first | decide | omega) (by first | decide | omega) (by decide)
              have q703 : h440 (h 61 1) 7 = h424 (h 61 1) 7 := jK 0 f442 (rg_T0_7_0_1 t1) (by first | decide | omega) (by first | decide | omega) (by decide)
              have q704 : h424 (h 61 1) 7 = h267 (h 61 1) 7 := jK 0 f426 (rg_T0_7_0_1 t1) (by first | decide | omega) (by first | decide | omega) (by decide)
              have q705 : h267 (h 61 1) 7 = h136 (h 61 1) 7 := jK 0 f269 (rg_T0_7_0_1 t1) (by first | decide | omega) (by first | decide | omega) (by decide)
              have q706 : h136 (h 61 1) 7 = h116 (h 61 1) 7 := jK 0 f138 (rg_T0_7_0_1 t1) (by first | decide | omega) (by first | decide | omega) (by decide)
              have q707 : h116 (h 61 1) 7 = h102 (h 61 1) 7 := jK 0 f118 (rg_T0_7_0_1 t1) (by first | decide | omega) (by first | decide | omega) (by decide)
              have q708 : h102 (h 61 1) 7 = h86 (h 61 1) 7 := jK 0 f104 (rg_T0_7_0_1 t1) (by first | decide | omega) (by first | decide | omega) (by decide)
              have q709 : h86 (h 61 1) 7 = h56 (h 61 1) 7 := jK 0 f88 (rg_T0_7_0_1 t1) (by first | decide | omega) (by first | decide | omega) (by decide)
              have q710 : h56 (h 61 1) 7 = h35 (h 61 1) 7 := jK 0 f58 (rg_T0_7_0_1 t1) (by first | decide | omega) (by first | decide | omega) (by decide)
              have q711 : h35 (h 61 1) 7 = h8 (h 61 1) 7 := jK 0 f37 (rg_T0_7_0_1 t1) (by first | decide | omega) (by first | decide | omega) (by decide)
              have e712 : rv h678 0 = (h8 (h 61 1) 7) := (congrArg (fun z => svq h678 z 0) ((((((((((((q687.trans q688).trans q689).trans q690).trans q691).trans q692).trans q693).trans q694).trans q695).trans q696).trans q697).trans q698).trans q699)).trans (((((((((((q700.trans q701).trans q702).trans q703).trans q704).trans q705).trans q706).trans q707).trans q708).trans q709).trans q710).trans q711)
              have e713 : rv h 1 = (h (h 61 1) 8) := (congrArg (fun z => svq h z 1) rfl).trans rfl
              have q714 : h678 61 1 = h662 61 1 := f680 61 1 (by decide +kernel)
              have q715 : h662 61 1 = h454 61 1 := f664 61 1 (by decide +kernel)
              have q716 : h454 61 1 = h440 61 1 := f456 61 1 (by decide +kernel)
              have q717 : h440 61 1 = h424 61 1 := f442 61 1 (by decide +kernel)
              have q718 : h424 61 1 = h267 61 1 := f426 61 1 (by decide +kernel)
              have q719 : h267 61 1 = h136 61 1 := f269 61 1 (by decide +kernel)
              have q720 : h136 61 1 = h116 61 1 := f138 61 1 (by decide +kernel)
              have q721 : h116 61 1 = h102 61 1 := f118 61 1 (by decide +kernel)
              have q722 : h102 61 1 = h86 61 1 := f104 61 1 (by decide +kernel)
              have q723 : h86 61 1 = h56 61 1 := f88 61 1 (by decide +kernel)
              have q724 : h56 61 1 = h35 61 1 := f58 61 1 (by decide +kernel)
              have q725 : h35 61 1 = h8 61 1 := f37 61 1 (by decide +kernel)
              have q726 : h8 61 1 = h 61 1 := f10 61 1 (by decide +kernel)
              have q727 : h678 (h 61 1) 8 = h662 (h 61 1) 8 := jK 0 f680 (rg_T0_8_0_1 t1) (by first | decide | omega) (by first | decide | omega) (by decide)
              have q728 : h662 (h 61 1) 8 = h454 (h 61 1) 8 := jK 0 f664 (rg_T0_8_0_1 t1) (by first | decide | omega) (by first | decide | omega) (by decide)
              have q729 : h454 (h 61 1) 8 = h440 (h 61 1) 8 := jK 0 f456 (rg_T0_8_0_1 t1) (by first | decide | omega) (by first | decide | omega) (by decide)
              have q730 : h440 (h 61 1) 8 = h424 (h 61 1) 8 := jK 0 f442 (rg_T0_8_0_1 t1) (by first | decide | omega) (by first | decide | omega) (by decide)
              have q731 : h424 (h 61 1) 8 = h267 (h 61 1) 8 := jK 0 f426 (rg_T0_8_0_1 t1) (by first | decide | omega) (by first | decide | omega) (by decide)
              have q732 : h267 (h 61 1) 8 = h136 (h 61 1) 8 := jK 0 f269 (rg_T0_8_0_1 t1) (by first | decide | omega) (by first | decide | omega) (by decide)
              have q733 : h136 (h 61 1) 8 = h116 (h 61 1) 8 := jK 0 f138 (rg_T0_8_0_1 t1) (by first | decide | omega) (by first | decide | omega) (by decide)
              have q734 : h116 (h 61 1) 8 = h102 (h 61 1) 8 := jK 0 f118 (rg_T0_8_0_1 t1) (by first | decide | omega) (by first | decide | omega) (by decide)
              have q735 : h102 (h 61 1) 8 = h86 (h 61 1) 8 := jK 0 f104 (rg_T0_8_0_1 t1) (by first | decide | omega) (by first | decide | omega) (by decide)
              have q736 : h86 (h 61 1) 8 = h56 (h 61 1) 8 := jK 0 f88 (rg_T0_8_0_1 t1) (by first | decide | omega) (by first | decide | omega) (by decide)
              have q737 : h56 (h 61 1) 8 = h35 (h 61 1) 8 := jK 0 f58 (rg_T0_8_0_1 t1) (by first | decide | omega) (by first | decide | omega) (by decide)
              have q738 : h35 (h 61 1) 8 = h8 (h 61 1) 8 := jK 0 f37 (rg_T0_8_0_1 t1) (by first | decide | omega) (by first | decide | omega) (by decide)
              have e739 : rv h678 1 = (h8 (h 61 1) 8) := (congrArg (fun z => svq h678 z 1) ((((((((((((q714.trans q715).trans q716).trans q717).trans q718).trans q719).trans q720).trans q721).trans q722).trans q723).trans q724).trans q725).trans q726)).trans (((((((((((q727.trans q728).trans q729).trans q730).trans q731).trans q732).trans q733).trans q734).trans q735).trans q736).trans q737).trans q738)
              have e740 : rv h 2 = (h ((h 61 1) + 1) 2) := (congrArg (fun z => svq h z 2) rfl).trans rfl
              have q741 : h678 61 1 = h662 61 1 := f680 61 1 (by decide +kernel)
              have q742 : h662 61 1 = h454 61 1 := f664 61 1 (by decide +kernel)
              have q743 : h454 61 1 = h440 61 1 := f456 61 1 (by decide +kernel)
              have q744 : h440 61 1 = h424 61 1 := f442 61 1 (by decide +kernel)
              have q745 : h424 61 1 = h267 61 1 := f426 61 1 (by decide +kernel)
              have q746 : h267 61 1 = h136 61 1 := f269 61 1 (by decide +kernel)
              have q747 : h136 61 1 = h116 61 1 := f138 61 1 (by decide +kernel)
              have q748 : h116 61 1 = h102 61 1 := f118 61 1 (by decide +kernel)
              have q749 : h102 61 1 = h86 61 1 := f104 61 1 (by decide +kernel)
              have q750 : h86 61 1 = h56 61 1 := f88 61 1 (by decide +kernel)
              have q751 : h56 61 1 = h35 61 1 := f58 61 1 (by decide +kernel)
              have q752 : h35 61 1 = h8 61 1 := f37 61 1 (by decide +kernel)
              have q753 : h8 61 1 = h 61 1 := f10 61 1 (by decide +kernel)
              have q754 : h678 ((h 61 1) + 1) 2 = h662 ((h 61 1) + 1) 2 := jK 0 f680 (rg_T1_2_0_1 t1) (by first | decide | omega) (by first | decide | omega) (by decide)
              have q755 : h662 ((h 61 1) + 1) 2 = h454 ((h 61 1) + 1) 2 := jK 0 f664 (rg_T1_2_0_1 t1) (by first | decide | omega) (by first | decide | omega) (by decide)
              have q756 : h454 ((h 61 1) + 1) 2 = h440 ((h 61 1) + 1) 2 := jK 0 f456 (rg_T1_2_0_1 t1) (by first | decide | omega) (by first | decide | omega) (by decide)
              have q757 : h440 ((h 61 1) + 1) 2 = h424 ((h 61 1) + 1) 2 := jK 0 f442 (rg_T1_2_0_1 t1) (by first | decide | omega) (by first | decide | omega) (by decide)
              have q758 : h424 ((h 61 1) + 1) 2 = h267 ((h 61 1) + 1) 2 := jK 0 f426 (rg_T1_2_0_1 t1) (by first | decide | omega) (by first | decide | omega) (by decide)
              have q759 : h267 ((h 61 1) + 1) 2 = h136 ((h 61 1) + 1) 2 := jK 0 f269 (rg_T1_2_0_1 t1) (by first | decide | omega) (by first | decide | omega) (by decide)
              have q760 : h136 ((h 61 1) + 1) 2 = h116 ((h 61 1) + 1) 2 := jK 0 f138 (rg_T1_2_0_1 t1) (by first | decide | omega) (by first | decide | omega) (by decide)
              have q761 : h116 ((h 61 1) + 1) 2 = h102 ((h 61 1) + 1) 2 := jK 0 f118 (rg_T1_2_0_1 t1) (by first | decide | omega) (by first | decide | omega) (by decide)
              have q762 : h102 ((h 61 1) + 1) 2 = h86 ((h 61 1) + 1) 2 := jK 0 f104 (rg_T1_2_0_1 t1) (by first | decide | omega) (by first | decide | omega) (by decide)
              have q763 : h86 ((h 61 1) + 1) 2 = h56 ((h 61 1) + 1) 2 := jK 0 f88 (rg_T1_2_0_1 t1) (by first | decide | omega) (by first | decide | omega) (by decide)
              have q764 : h56 ((h 61 1) + 1) 2 = h35 ((h 61 1) + 1) 2 := jK 0 f58 (rg_T1_2_0_1 t1) (by first | decide | omega) (by first | decide | omega) (by decide)
              have q765 : h35 ((h 61 1) + 1) 2 = h8 ((h 61 1) + 1) 2 := jK 0 f37 (rg_T1_2_0_1 t1) (by first | decide | omega) (by first | decide | omega) (by decide)
              have e766 : rv h678 2 = (h8 ((h 61 1) + 1) 2) := (congrArg (fun z => svq h678 z 2) ((((((((((((q741.trans q742).trans q743).trans q744).trans q745).trans q746).trans q747).trans q748).trans q749).trans q750).trans q751).trans q752).trans q753)).trans (((((((((((q754.trans q755).trans q756).trans q757).trans q758).trans q759).trans q760).trans q761).trans q762).trans q763).trans q764).trans q765)
              have e767 : rv h 3 = (h ((h 61 1) + 3) 2) := (congrArg (fun z => svq h z 3) rfl).trans rfl
              have q768 : h678 61 1 = h662 61 1 := f680 61 1 (by decide +kernel)
              have q769 : h662 61 1 = h454 61 1 := f664 61 1 (by decide +kernel)
              have q770 : h454 61 1 = h440 61 1 := f456 61 1 (by decide +kernel)
              have q771 : h440 61 1 = h424 61 1 := f442 61 1 (by decide +kernel)
              have q772 : h424 61 1 = h267 61 1 := f426 61 1 (by decide +kernel)
              have q773 : h267 61 1 = h136 61 1 := f269 61 1 (by decide +kernel)
              have q774 : h136 61 1 = h116 61 1 := f138 61 1 (by decide +kernel)
              have q775 : h116 61 1 = h102 61 1 := f118 61 1 (by decide +kernel)
              have q776 : h102 61 1 = h86 61 1 := f104 61 1 (by decide +kernel)
              have q777 : h86 61 1 = h56 61 1 := f88 61 1 (by decide +kernel)
              have q778 : h56 61 1 = h35 61 1 := f58 61 1 (by decide +kernel)
              have q779 : h35 61 1 = h8 61 1 := f37 61 1 (by decide +kernel)
              have q780 : h8 61 1 = h 61 1 := f10 61 1 (by decide +kernel)
              have q781 : h678 ((h 61 1) + 3) 2 = h662 ((h 61 1) + 3) 2 := jK 0 f680 (rg_T3_2_0_1 t1) (by first | decide | omega) (by first | decide | omega) (by decide)
              have q782 : h662 ((h 61 1) + 3) 2 = h454 ((h 61 1) + 3) 2 := jK 0 f664 (rg_T3_2_0_1 t1) (by first | decide | omega) (by first | decide | omega) (by decide)
              have q783 : h454 ((h 61 1) + 3) 2 = h440 ((h 61 1) + 3) 2 := jK 0 f456 (rg_T3_2_0_1 t1) (by first | decide | omega) (by first | decide | omega) (by decide)
              have q784 : h440 ((h 61 1) + 3) 2 = h424 ((h 61 1) + 3) 2 := jK 0 f442 (rg_T3_2_0_1 t1) (by first | decide | omega) (by first | decide | omega) (by decide)
              have q785 : h424 ((h 61 1) + 3) 2 = h267 ((h 61 1) + 3) 2 := jK 0 f426 (rg_T3_2_0_1 t1) (by first | decide | omega) (by first | decide | omega) (by decide)
              have q786 : h267 ((h 61 1) + 3) 2 = h136 ((h 61 1) + 3) 2 := jK 0 f269 (rg_T3_2_0_1 t1) (by first | decide | omega) (by first | decide | omega) (by decide)
              have q787 : h136 ((h 61 1) + 3) 2 = h116 ((h 61 1) + 3) 2 := jK 0 f138 (rg_T3_2_0_1 t1) (by first | decide | omega) (by first | decide | omega) (by decide)
              have q788 : h116 ((h 61 1) + 3) 2 = h102 ((h 61 1) + 3) 2 := jK 0 f118 (rg_T3_2_0_1 t1) (by first | decide | omega) (by first | decide | omega) (by decide)
              have q789 : h102 ((h 61 1) + 3) 2 = h86 ((h 61 1) + 3) 2 := jK 0 f104 (rg_T3_2_0_1 t1) (by first | decide | omega) (by first | decide | omega) (by decide)
              have q790 : h86 ((h 61 1) + 3) 2 = h56 ((h 61 1) + 3) 2 := jK 0 f88 (rg_T3_2_0_1 t1) (by first | decide | omega) (by first | decide | omega) (by decide)
              have q791 : h56 ((h 61 1) + 3) 2 = h35 ((h 61 1) + 3) 2 := jK 0 f58 (rg_T3_2_0_1 t1) (by first | decide | omega) (by first | decide | omega) (by decide)
              have q792 : h35 ((h 61 1) + 3) 2 = h8 ((h 61 1) + 3) 2 := jK 0 f37 (rg_T3_2_0_1 t1) (by first | decide | omega) (by first | decide | omega) (by decide)
              have e793 : rv h678 3 = (h8 ((h 61 1) + 3) 2) := (congrArg (fun z => svq h678 z 3) ((((((((((((q768.trans q769).trans q770).trans q771).trans q772).trans q773).trans q774).trans q775).trans q776).trans q777).trans q778).trans q779).trans q780)).trans (((((((((((q781.trans q782).trans q783).trans q784).trans q785).trans q786).trans q787).trans q788).trans q789).trans q790).trans q791).trans q792)
              have q794 : h678 61 1 = h662 61 1 := f680 61 1 (by decide +kernel)
              have q795 : h662 61 1 = h454 61 1 := f664 61 1 (by decide +kernel)
              have q796 : h454 61 1 = h440 61 1 := f456 61 1 (by decide +kernel)
              have q797 : h440 61 1 = h424 61 1 := f442 61 1 (by decide +kernel)
              have q798 : h424 61 1 = h267 61 1 := f426 61 1 (by decide +kernel)
              have q799 : h267 61 1 = h136 61 1 := f269 61 1 (by decide +kernel)
              have q800 : h136 61 1 = h116 61 1 := f138 61 1 (by decide +kernel)
              have q801 : h116 61 1 = h102 61 1 := f118 61 1 (by decide +kernel)
              have q802 : h102 61 1 = h86 61 1 := f104 61 1 (by decide +kernel)
              have q803 : h86 61 1 = h56 61 1 := f88 61 1 (by decide +kernel)
              have q804 : h56 61 1 = h35 61 1 := f58 61 1 (by decide +kernel)
              have q805 : h35 61 1 = h8 61 1 := f37 61 1 (by decide +kernel)
              have q806 : h8 61 1 = h 61 1 := f10 61 1 (by decide +kernel)
              have q807 : h678 ((h 61 1) + 5) 2 = h662 ((h 61 1) + 5) 2 := jK 0 f680 (rg_T5_2_0_1 t1) (by first | decide | omega) (by first | decide | omega) (by decide)
              have q808 : h662 ((h 61 1) + 5) 2 = h454 ((h 61 1) + 5) 2 := jK 0 f664 (rg_T5_2_0_1 t1) (by first | decide | omega) (by first | decide | omega) (by decide)
              have q809 : h454 ((h 61 1) + 5) 2 = h440 ((h 61 1) + 5) 2 := jK 0 f456 (rg_T5_2_0_1 t1) (by first | decide | omega) (by first | decide | omega) (by decide)
              have q810 : h440 ((h 61 1) + 5) 2 = h424 ((h 61 1) + 5) 2 := jK 0 f442 (rg_T5_2_0_1 t1) (by first | decide | omega) (by first | decide | omega) (by decide)
              have q811 : h424 ((h 61 1) + 5) 2 = h267 ((h 61 1) + 5) 2 := jK 0 f426 (rg_T5_2_0_1 t1) (by first | decide | omega) (by first | decide | omega) (by decide)
              have q812 : h267 ((h 61 1) + 5) 2 = h136 ((h 61 1) + 5) 2 := jK 0 f269 (rg_T5_2_0_1 t1) (by first | decide | omega) (by first | decide | omega) (by decide)
              have q813 : h136 ((h 61 1) + 5) 2 = h116 ((h 61 1) + 5) 2 := jK 0 f138 (rg_T5_2_0_1 t1) (by first | decide | omega) (by first | decide | omega) (by decide)
              have q814 : h116 ((h 61 1) + 5) 2 = h102 ((h 61 1) + 5) 2 := jK 0 f118 (rg_T5_2_0_1 t1) (by first | decide | omega) (by first | decide | omega) (by decide)
              have q815 : h102 ((h 61 1) + 5) 2 = h86 ((h 61 1) + 5) 2 := jK 0 f104 (rg_T5_2_0_1 t1) (by first | decide | omega) (by first | decide | omega) (by decide)
              have q816 : h86 ((h 61 1) + 5) 2 = h56 ((h 61 1) + 5) 2 := jK 0 f88 (rg_T5_2_0_1 t1) (by first | decide | omega) (by first | decide | omega) (by decide)
              have q817 : h56 ((h 61 1) + 5) 2 = h35 ((h 61 1) + 5) 2 := jK 0 f58 (rg_T5_2_0_1 t1) (by first | decide | omega) (by first | decide | omega) (by decide)
              have q818 : h35 ((h 61 1) + 5) 2 = h8 ((h 61 1) + 5) 2 := jK 0 f37 (rg_T5_2_0_1 t1) (by first | decide | omega) (by first | decide | omega) (by decide)
              have e819 : rv h678 4 = (h8 ((h 61 1) + 5) 2) := (congrArg (fun z => svq h678 z 4) ((((((((((((q794.trans q795).trans q796).trans q797).trans q798).trans q799).trans q800).trans q801).trans q802).trans q803).trans q804).trans q805).trans q806)).trans (((((((((((q807.trans q808).trans q809).trans q810).trans q811).trans q812).trans q813).trans q814).trans q815).trans q816).trans q817).trans q818)
              have e820 : rv h 5 = (h ((h 61 1) + 7) 2) := (congrArg (fun z => svq h z 5) rfl).trans rfl
              have q821 : h678 61 1 = h662 61 1 := f680 61 1 (by decide +kernel)
              have q822 : h662 61 1 = h454 61 1 := f664 61 1 (by decide +kernel)
              have q823 : h454 61 1 = h440 61 1 := f456 61 1 (by decide +kernel)
              have q824 : h440 61 1 = h424 61 1 := f442 61 1 (by decide +kernel)
              have q825 : h424 61 1 = h267 61 1 := f426 61 1 (by decide +kernel)
              have q826 : h267 61 1 = h136 61 1 := f269 61 1 (by decide +kernel)
              have q827 : h136 61 1 = h116 61 1 := f138 61 1 (by decide +kernel)
              have q828 : h116 61 1 = h102 61 1 := f118 61 1 (by decide +kernel)
              have q829 : h102 61 1 = h86 61 1 := f104 61 1 (by decide +kernel)
              have q830 : h86 61 1 = h56 61 1 := f88 61 1 (by decide +kernel)
              have q831 : h56 61 1 = h35 61 1 := f58 61 1 (by decide +kernel)
              have q832 : h35 61 1 = h8 61 1 := f37 61 1 (by decide +kernel)
              have q833 : h8 61 1 = h 61 1 := f10 61 1 (by decide +kernel)
              have q834 : h678 ((h 61 1) + 7) 2 = h662 ((h 61 1) + 7) 2 := jK 0 f680 (rg_T7_2_0_1 t1) (by first | decide | omega) (by first | decide | omega) (by decide)
              have q835 : h662 ((h 61 1) + 7) 2 = h454 ((h 61 1) + 7) 2 := jK 0 f664 (rg_T7_2_0_1 t1) (by first | decide | omega) (by first | decide | omega) (by decide)
              have q836 : h454 ((h 61 1) + 7) 2 = h440 ((h 61 1) + 7) 2 := jK 0 f456 (rg_T7_2_0_1 t1) (by first | decide | omega) (by first | decide | omega) (by decide)
              have q837 : h440 ((h 61 1) + 7) 2 = h424 ((h 61 1) + 7) 2 := jK 0 f442 (rg_T7_2_0_1 t1) (by first | decide | omega) (by first | decide | omega) (by decide)
              have q838 : h424 ((h 61 1) + 7) 2 = h267 ((h 61 1) + 7) 2 := jK 0 f426 (rg_T7_2_0_1 t1) (by first | decide | omega) (by first | decide | omega) (by decide)
              have q839 : h267 ((h 61 1) + 7) 2 = h136 ((h 61 1) + 7) 2 := jK 0 f269 (rg_T7_2_0_1 t1) (by first | decide | omega) (by first | decide | omega) (by decide)
              have q840 : h136 ((h 61 1) + 7) 2 = h116 ((h 61 1) + 7) 2 := jK 0 f138 (rg_T7_2_0_1 t1) (by first | decide | omega) (by first | decide | omega) (by decide)
              have q841 : h116 ((h 61 1) + 7) 2 = h102 ((h 61 1) + 7) 2 := jK 0 f118 (rg_T7_2_0_1 t1) (by first | decide | omega) (by first | decide | omega) (by decide)
              have q842 : h102 ((h 61 1) + 7) 2 = h86 ((h 61 1) + 7) 2 := jK 0 f104 (rg_T7_2_0_1 t1) (by first | decide | omega) (by first | decide | omega) (by decide)
              have q843 : h86 ((h 61 1) + 7) 2 = h56 ((h 61 1) + 7) 2 := jK 0 f88 (rg_T7_2_0_1 t1) (by first | decide | omega) (by first | decide | omega) (by decide)
              have q844 : h56 ((h 61 1) + 7) 2 = h35 ((h 61 1) + 7) 2 := jK 0 f58 (rg_T7_2_0_1 t1) (by first | decide | omega) (by first | decide | omega) (by decide)
              have q845 : h35 ((h 61 1) + 7) 2 = h8 ((h 61 1) + 7) 2 := jK 0 f37 (rg_T7_2_0_1 t1) (by first | decide | omega) (by first | decide | omega) (by decide)
              have e846 : rv h678 5 = (h8 ((h 61 1) + 7) 2) := (congrArg (fun z => svq h678 z 5) ((((((((((((q821.trans q822).trans q823).trans q824).trans q825).trans q826).trans q827).trans q828).trans q829).trans q830).trans q831).trans q832).trans q833)).trans (((((((((((q834.trans q835).trans q836).trans q837).trans q838).trans q839).trans q840).trans q841).trans q842).trans q843).trans q844).trans q845)
              have q847 : h8 1 2 = h 1 2 := jK 0 f10 rg_1_2_0_1 (by first | decide | omega) (by first | decide | omega) (by decide)
              obtain ⟨w848, e849⟩ := Tk.no c41 (by first | decide | omega)
              obtain ⟨w850, e851⟩ := Tk.yes c62 (by first | decide | omega)
              have q852 : h102 1 2 = h86 1 2 := jK 0 f104 rg_1_2_0_1 (by first | decide | omega) (by first | decide | omega) (by decide)
              obtain ⟨w853, e854⟩ := Tk.yes c122 (by first | decide | omega)
              obtain ⟨w855, e856⟩ := Tk.yes c273 (by first | decide | omega)
              have q857 : h440 1 2 = h424 1 2 := jK 0 f442 rg_1_2_0_1 (by first | decide | omega) (by first | decide | omega) (by decide)
              obtain ⟨w858, e859⟩ := Tk.yes c460 (by first | decide | omega)
              have q860 : h678 1 2 = h662 1 2 := jK 0 f680 rg_1_2_0_1 (by first | decide | omega) (by first | decide | omega) (by decide)
              have m861 : Ot (h 61 1) h h8 := Ot.trans Ot.refl (c19)
              have m862 : Ot (h 61 1) h h35 := Ot.fr m861 f37 (by decide)
              have m863 : Ot (h 61 1) h h56 := Ot.fr m862 f58 (by decide)
              have m864 : Ot (h 61 1) h h86 := Ot.fr m863 f88 (by decide)
              have m865 : Ot (h 61 1) h h102 := Ot.fr m864 f104 (by decide)
              have m866 : Ot (h 61 1) h h116 := Ot.fr m865 f118 (by decide)
              have m867 : Ot (h 61 1) h h136 := Ot.fr m866 f138 (by decide)
              have m868 : Ot (h 61 1) h h267 := Ot.fr m867 f269 (by decide)
              have m869 : Ot (h 61 1) h h424 := Ot.fr m868 f426 (by decide)
              have m870 : Ot (h 61 1) h h440 := Ot.fr m869 f442 (by decide)
              have m871 : Ot (h 61 1) h h454 := Ot.fr m870 f456 (by decide)
              have m872 : Ot (h 61 1) h h662 := Ot.fr m871 f664 (by decide)
              have m873 : Ot (h 61 1) h h678 := Ot.fr m872 f680 (by decide)
              refine x_retI (np := 178) (x := 0) (by decide +kernel) (by decide) (Or.inr ⟨by decide +kernel, by first | decide | omega, by first | decide | omega⟩) ⟨_, rfl, (by decide), ?_⟩
              exact ⟨j679, f683, (by first | decide | omega), (by first | decide | omega), (by first | decide | omega), (by first | decide | omega), (by first | decide | omega), (fun z => by first | decide | omega), (by first | decide | omega), (or9.f w848 (show h8 1 2 = h 1 2 by first | decide | omega) (show h35 1 2 = h 1 2 by first | decide | omega) (wd9.y w850 rfl e851 rfl (nm9.y c93 (by first | decide | omega) (by first | decide | omega) rfl (by first | decide | omega) rfl (wd9.y w853 (show h102 1 2 = h86 1 2 by first | decide | omega) e854 rfl (nm9.y c143 (by first | decide | omega) (by first | decide | omega) rfl (by first | decide | omega) rfl (wd9.y w855 rfl e856 rfl (nm9.y c431 (by first | decide | omega) (by first | decide | omega) rfl (by first | decide | omega) rfl (wd9.y w858 (show h440 1 2 = h424 1 2 by first | decide | omega) e859 rfl (nm9.y c669 (by first | decide | omega) (by first | decide | omega) rfl (by first | decide | omega) rfl (fin9.mk (by first | decide | omega) (show h662 1 2 = h678 1 2 by first | decide | omega))))))))))), m873, (fun z => absurd z (by first | decide | omega))⟩
            have q673 : ¬ (v658 ≠ 2147483647) := q673
            have b874 := c668 (by first | decide | omega)
            refine x_const (np := 20) (x := 9223372039002259456) (a := 2147483648) (by decide +kernel) (by decide) (by decide) ?_
            refine x_retI (np := 21) (x := 0) (by decide +kernel) (by decide) (Or.inr ⟨by decide +kernel, by first | decide | omega, by first | decide | omega⟩) ⟨_, rfl, (by decide), ?_⟩
            refine x_ifz (k := 0) (tg := 176) (np := 172) (by decide +kernel) (by decide) (by decide) (fun q875 => ?_) (fun q876 => ?_)
            · have q875 : 2147483648 = 2147483648 := q875
              refine x_const (np := 177) (x := 9223372039002259456) (a := 2147483648) (by decide +kernel) (by decide) (by decide) ?_
              have e877 : rv h 0 = (h (h 61 1) 7) := (congrArg (fun z => svq h z 0) rfl).trans rfl
              have q878 : h662 61 1 = h454 61 1 := f664 61 1 (by decide +kernel)
              have q879 : h454 61 1 = h440 61 1 := f456 61 1 (by decide +kernel)
              have q880 : h440 61 1 = h424 61 1 := f442 61 1 (by decide +kernel)
              have q881 : h424 61 1 = h267 61 1 := f426 61 1 (by decide +kernel)
              have q882 : h267 61 1 = h136 61 1 := f269 61 1 (by decide +kernel)
              have q883 : h136 61 1 = h116 61 1 := f138 61 1 (by decide +kernel)
              have q884 : h116 61 1 = h102 61 1 := f118 61 1 (by decide +kernel)
              have q885 : h102 61 1 = h86 61 1 := f104 61 1 (by decide +kernel)
              have q886 : h86 61 1 = h56 61 1 := f88 61 1 (by decide +kernel)
              have q887 : h56 61 1 = h35 61 1 := f58 61 1 (by decide +kernel)
              have q888 : h35 61 1 = h8 61 1 := f37 61 1 (by decide +kernel)
              have q889 : h8 61 1 = h 61 1 := f10 61 1 (by decide +kernel)
              have q890 : h662 (h 61 1) 7 = h454 (h 61 1) 7 := jK 0 f664 (rg_T0_7_0_1 t1) (by first | decide | omega) (by first | decide | omega) (by decide)
              have q891 : h454 (h 61 1) 7 = h440 (h 61 1) 7 := jK 0 f456 (rg_T0_7_0_1 t1) (by first | decide | omega) (by first | decide | omega) (by decide)
              have q892 : h440 (h 61 1) 7 = h424 (h 61 1) 7 := jK 0 f442 (rg_T0_7_0_1 t1) (by first | decide | omega) (by first | decide | omega) (by decide)
              have q893 : h424 (h 61 1) 7 = h267 (h 61 1) 7 := jK 0 f426 (rg_T0_7_0_1 t1) (by first | decide | omega) (by first | decide | omega) (by decide)
              have q894 : h267 (h 61 1) 7 = h136 (h 61 1) 7 := jK 0 f269 (rg_T0_7_0_1 t1) (by first | decide | omega) (by first | decide | omega) (by decide)
              have q895 : h136 (h 61 1) 7 = h116 (h 61 1) 7 := jK 0 f138 (rg_T0_7_0_1 t1) (by first | decide | omega) (by first | decide | omega) (by decide)
              have q896 : h116 (h 61 1) 7 = h102 (h 61 1) 7 := jK 0 f118 (rg_T0_7_0_1 t1) (by first | decide | omega) (by first | decide | omega) (by decide)
              have q897 : h102 (h 61 1) 7 = h86 (h 61 1) 7 := jK 0 f104 (rg_T0_7_0_1 t1) (by first | decide | omega) (by first | decide | omega) (by decide)
              have q898 : h86 (h 61 1) 7 = h56 (h 61 1) 7 := jK 0 f88 (rg_T0_7_0_1 t1) (by first | decide | omega) (by first | decide | omega) (by decide)
              have q899 : h56 (h 61 1) 7 = h35 (h 61 1) 7 := jK 0 f58 (rg_T0_7_0_1 t1) (by first | decide | omega) (by first | decide | omega) (by decide)
              have q900 : h35 (h 61 1) 7 = h8 (h 61 1) 7 := jK 0 f37 (rg_T0_7_0_1 t1) (by first | decide | omega) (by first | decide | omega) (by decide)
              have e901 : rv h662 0 = (h8 (h 61 1) 7) := (congrArg (fun z => svq h662 z 0) (((((((((((q878.trans q879).trans q880).trans q881).trans q882).trans q883).trans q884).trans q885).trans q886).trans q887).trans q888).trans q889)).trans ((((((((((q890.trans q891).trans q892).trans q893).trans q894).trans q895).trans q896).trans q897).trans q898).trans q899).trans q900)
              have e902 : rv h 1 = (h (h 61 1) 8) := (congrArg (fun z => svq h z 1) rfl).trans rfl
              have q903 : h662 61 1 = h454 61 1 := f664 61 1 (by decide +kernel)
              have q904 : h454 61 1 = h440 61 1 := f456 61 1 (by decide +kernel)
              have q905 : h440 61 1 = h424 61 1 := f442 61 1 (by decide +kernel)
              have q906 : h424 61 1 = h267 61 1 := f426 61 1 (by decide +kernel)
              have q907 : h267 61 1 = h136 61 1 := f269 61 1 (by decide +kernel)
              have q908 : h136 61 1 = h116 61 1 := f138 61 1 (by decide +kernel)
              have q909 : h116 61 1 = h102 61 1 := f118 61 1 (by decide +kernel)
              have q910 : h102 61 1 = h86 61 1 := f104 61 1 (by decide +kernel)
              have q911 : h86 61 1 = h56 61 1 := f88 61 1 (by decide +kernel)
              have q912 : h56 61 1 = h35 61 1 := f58 61 1 (by decide +kernel)
              have q913 : h35 61 1 = h8 61 1 := f37 61 1 (by decide +kernel)
              have q914 : h8 61 1 = h 61 1 := f10 61 1 (by decide +kernel)
              have q915 : h662 (h 61 1) 8 = h454 (h 61 1) 8 := jK 0 f664 (rg_T0_8_0_1 t1) (by first | decide | omega) (by first | decide | omega) (by decide)
              have q916 : h454 (h 61 1) 8 = h440 (h 61 1) 8 := jK 0 f456 (rg_T0_8_0_1 t1) (by first | decide | omega) (by first | decide | omega) (by decide)
              have q917 : h440 (h 61 1) 8 = h424 (h 61 1) 8 := jK 0 f442 (rg_T0_8_0_1 t1) (by first | decide | omega) (by first | decide | omega) (by decide)
              have q918 : h424 (h 61 1) 8 = h267 (h 61 1) 8 := jK 0 f426 (rg_T0_8_0_1 t1) (by first | decide | omega) (by first | decide | omega) (by decide)
              have q919 : h267 (h 61 1) 8 = h136 (h 61 1) 8 := jK 0 f269 (rg_T0_8_0_1 t1) (by first | decide | omega) (by first | decide | omega) (by decide)
              have q920 : h136 (h 61 1) 8 = h116 (h 61 1) 8 := jK 0 f138 (rg_T0_8_0_1 t1) (by first | decide | omega) (by first | decide | omega) (by decide)
              have q921 : h116 (h 61 1) 8 = h102 (h 61 1) 8 := jK 0 f118 (rg_T0_8_0_1 t1) (by first | decide | omega) (by first | decide | omega) (by decide)
              have q922 : h102 (h 61 1) 8 = h86 (h 61 1) 8 := jK 0 f104 (rg_T0_8_0_1 t1) (by first | decide | omega) (by first | decide | omega) (by decide)
              have q923 : h86 (h 61 1) 8 = h56 (h 61 1) 8 := jK 0 f88 (rg_T0_8_0_1 t1) (by first | decide | omega) (by first | decide | omega) (by decide)
              have q924 : h56 (h 61 1) 8 = h35 (h 61 1) 8 := jK 0 f58 (rg_T0_8_0_1 t1) (by first | decide | omega) (by first | decide | omega) (by decide)
              have q925 : h35 (h 61 1) 8 = h8 (h 61 1) 8 := jK 0 f37 (rg_T0_8_0_1 t1) (by first | decide | omega) (by first | decide | omega) (by decide)
              have e926 : rv h662 1 = (h8 (h 61 1) 8) := (congrArg (fun z => svq h662 z 1) (((((((((((q903.trans q904).trans q905).trans q906).trans q907).trans q908).trans q909).trans q910).trans q911).trans q912).trans q913).trans q914)).trans ((((((((((q915.trans q916).trans q917).trans q918).trans q919).trans q920).trans q921).trans q922).trans q923).trans q924).trans q925)
              have e927 : rv h 2 = (h ((h 61 1) + 1) 2) := (congrArg (fun z => svq h z 2) rfl).trans rfl
              have q928 : h662 61 1 = h454 61 1 := f664 61 1 (by decide +kernel)
              have q929 : h454 61 1 = h440 61 1 := f456 61 1 (by decide +kernel)
              have q930 : h440 61 1 = h424 61 1 := f442 61 1 (by decide +kernel)
              have q931 : h424 61 1 = h267 61 1 := f426 61 1 (by decide +kernel)
              have q932 : h267 61 1 = h136 61 1 := f269 61 1 (by decide +kernel)
              have q933 : h136 61 1 = h116 61 1 := f138 61 1 (by decide +kernel)
              have q934 : h116 61 1 = h102 61 1 := f118 61 1 (by decide +kernel)
              have q935 : h102 61 1 = h86 61 1 := f104 61 1 (by decide +kernel)
              have q936 : h86 61 1 = h56 61 1 := f88 61 1 (by decide +kernel)
              have q937 : h56 61 1 = h35 61 1 := f58 61 1 (by decide +kernel)
              have q938 : h35 61 1 = h8 61 1 := f37 61 1 (by decide +kernel)
              have q939 : h8 61 1 = h 61 1 := f10 61 1 (by decide +kernel)
              have q940 : h662 ((h 61 1) + 1) 2 = h454 ((h 61 1) + 1) 2 := jK 0 f664 (rg_T1_2_0_1 t1) (by first | decide | omega) (by first | decide | omega) (by decide)
              have q941 : h454 ((h 61 1) + 1) 2 = h440 ((h 61 1) + 1) 2 := jK 0 f456 (rg_T1_2_0_1 t1) (by first | decide | omega) (by first | decide | omega) (by decide)
              have q942 : h440 ((h 61 1) + 1) 2 = h424 ((h 61 1) + 1) 2 := jK 0 f442 (rg_T1_2_0_1 t1) (by first | decide | omega) (by first | decide | omega) (by decide)
              have q943 : h424 ((h 61 1) + 1) 2 = h267 ((h 61 1) + 1) 2 := jK 0 f426 (rg_T1_2_0_1 t1) (by first | decide | omega) (by first | decide | omega) (by decide)
              have q944 : h267 ((h 61 1) + 1) 2 = h136 ((h 61 1) + 1) 2 := jK 0 f269 (rg_T1_2_0_1 t1) (by first | decide | omega) (by first | decide | omega) (by decide)
              have q945 : h136 ((h 61 1) + 1) 2 = h116 ((h 61 1) + 1) 2 := jK 0 f138 (rg_T1_2_0_1 t1) (by first | decide | omega) (by first | decide | omega) (by decide)
              have q946 : h116 ((h 61 1) + 1) 2 = h102 ((h 61 1) + 1) 2 := jK 0 f118 (rg_T1_2_0_1 t1) (by first | decide | omega) (by first | decide | omega) (by decide)
              have q947 : h102 ((h 61 1) + 1) 2 = h86 ((h 61 1) + 1) 2 := jK 0 f104 (rg_T1_2_0_1 t1) (by first | decide | omega) (by first | decide | omega) (by decide)
              have q948 : h86 ((h 61 1) + 1) 2 = h56 ((h 61 1) + 1) 2 := jK 0 f88 (rg_T1_2_0_1 t1) (by first | decide | omega) (by first | decide | omega) (by decide)
              have q949 : h56 ((h 61 1) + 1) 2 = h35 ((h 61 1) + 1) 2 := jK 0 f58 (rg_T1_2_0_1 t1) (by first | decide | omega) (by first | decide | omega) (by decide)
              have q950 : h35 ((h 61 1) + 1) 2 = h8 ((h 61 1) + 1) 2 := jK 0 f37 (rg_T1_2_0_1 t1) (by first | decide | omega) (by first | decide | omega) (by decide)
              have e951 : rv h662 2 = (h8 ((h 61 1) + 1) 2) := (congrArg (fun z => svq h662 z 2) (((((((((((q928.trans q929).trans q930).trans q931).trans q932).trans q933).trans q934).trans q935).trans q936).trans q937).trans q938).trans q939)).trans ((((((((((q940.trans q941).trans q942).trans q943).trans q944).trans q945).trans q946).trans q947).trans q948).trans q949).trans q950)
              have e952 : rv h 3 = (h ((h 61 1) + 3) 2) := (congrArg (fun z => svq h z 3) rfl).trans rfl
              have q953 : h662 61 1 = h454 61 1 := f664 61 1 (by decide +kernel)
              have q954 : h454 61 1 = h440 61 1 := f456 61 1 (by decide +kernel)
              have q955 : h440 61 1 = h424 61 1 := f442 61 1 (by decide +kernel)
              have q956 : h424 61 1 = h267 61 1 := f426 61 1 (by decide +kernel)
              have q957 : h267 61 1 = h136 61 1 := f269 61 1 (by decide +kernel)
              have q958 : h136 61 1 = h116 61 1 := f138 61 1 (by decide +kernel)
              have q959 : h116 61 1 = h102 61 1 := f118 61 1 (by decide +kernel)
              have q960 : h102 61 1 = h86 61 1 := f104 61 1 (by decide +kernel)
              have q961 : h86 61 1 = h56 61 1 := f88 61 1 (by decide +kernel)
              have q962 : h56 61 1 = h35 61 1 := f58 61 1 (by decide +kernel)
              have q963 : h35 61 1 = h8 61 1 := f37 61 1 (by decide +kernel)
              have q964 : h8 61 1 = h 61 1 := f10 61 1 (by decide +kernel)
              have q965 : h662 ((h 61 1) + 3) 2 = h454 ((h 61 1) + 3) 2 := jK 0 f664 (rg_T3_2_0_1 t1) (by first | decide | omega) (by first | decide | omega) (by decide)
              have q966 : h454 ((h 61 1) + 3) 2 = h440 ((h 61 1) + 3) 2 := jK 0 f456 (rg_T3_2_0_1 t1) (by first | decide | omega) (by first | decide | omega) (by decide)
              have q967 : h440 ((h 61 1) + 3) 2 = h424 ((h 61 1) + 3) 2 := jK 0 f442 (rg_T3_2_0_1 t1) (by first | decide | omega) (by first | decide | omega) (by decide)
              have q968 : h424 ((h 61 1) + 3) 2 = h267 ((h 61 1) + 3) 2 := jK 0 f426 (rg_T3_2_0_1 t1) (by first | decide | omega) (by first | decide | omega) (by decide)
              have q969 : h267 ((h 61 1) + 3) 2 = h136 ((h 61 1) + 3) 2 := jK 0 f269 (rg_T3_2_0_1 t1) (by first | decide | omega) (by first | decide | omega) (by decide)
              have q970 : h136 ((h 61 1) + 3) 2 = h116 ((h 61 1) + 3) 2 := jK 0 f138 (rg_T3_2_0_1 t1) (by first | decide | omega) (by first | decide | omega) (by decide)
              have q971 : h116 ((h 61 1) + 3) 2 = h102 ((h 61 1) + 3) 2 := jK 0 f118 (rg_T3_2_0_1 t1) (by first | decide | omega) (by first | decide | omega) (by decide)
              have q972 : h102 ((h 61 1) + 3) 2 = h86 ((h 61 1) + 3) 2 := jK 0 f104 (rg_T3_2_0_1 t1) (by first | decide | omega) (by first | decide | omega) (by decide)
              have q973 : h86 ((h 61 1) + 3) 2 = h56 ((h 61 1) + 3) 2 := jK 0 f88 (rg_T3_2_0_1 t1) (by first | decide | omega) (by first | decide | omega) (by decide)
              have q974 : h56 ((h 61 1) + 3) 2 = h35 ((h 61 1) + 3) 2 := jK 0 f58 (rg_T3_2_0_1 t1) (by first | decide | omega) (by first | decide | omega) (by decide)
              have q975 : h35 ((h 61 1) + 3) 2 = h8 ((h 61 1) + 3) 2 := jK 0 f37 (rg_T3_2_0_1 t1) (by first | decide | omega) (by first | decide | omega) (by decide)
              have e976 : rv h662 3 = (h8 ((h 61 1) + 3) 2) := (congrArg (fun z => svq h662 z 3) (((((((((((q953.trans q954).trans q955).trans q956).trans q957).trans q958).trans q959).trans q960).trans q961).trans q962).trans q963).trans q964)).trans ((((((((((q965.trans q966).trans q967).trans q968).trans q969).trans q970).trans q971).trans q972).trans q973).trans q974).trans q975)
              have q977 : h662 61 1 = h454 61 1 := f664 61 1 (by decide +kernel)
              have q978 : h454 61 1 = h440 61 1 := f456 61 1 (by decide +kernel)
              have q979 : h440 61 1 = h424 61 1 := f442 61 1 (by decide +kernel)
              have q980 : h424 61 1 = h267 61 1 := f426 61 1 (by decide +kernel)
              have q981 : h267 61 1 = h136 61 1 := f269 61 1 (by decide +kernel)
              have q982 : h136 61 1 = h116 61 1 := f138 61 1 (by decide +kernel)
              have q983 : h116 61 1 = h102 61 1 := f118 61 1 (by decide +kernel)
              have q984 : h102 61 1 = h86 61 1 := f104 61 1 (by decide +kernel)
              have q985 : h86 61 1 = h56 61 1 := f88 61 1 (by decide +kernel)
              have q986 : h56 61 1 = h35 61 1 := f58 61 1 (by decide +kernel)
              have q987 : h35 61 1 = h8 61 1 := f37 61 1 (by decide +kernel)
              have q988 : h8 61 1 = h 61 1 := f10 61 1 (by decide +kernel)
              have q989 : h662 ((h 61 1) + 5) 2 = h454 ((h 61 1) + 5) 2 := jK 0 f664 (rg_T5_2_0_1 t1) (by first | decide | omega) (by first | decide | omega) (by decide)
              have q990 : h454 ((h 61 1) + 5) 2 = h440 ((h 61 1) + 5) 2 := jK 0 f456 (rg_T5_2_0_1 t1) (by first | decide | omega) (by first | decide | omega) (by decide)
              have q991 : h440 ((h 61 1) + 5) 2 = h424 ((h 61 1) + 5) 2 := jK 0 f442 (rg_T5_2_0_1 t1) (by first | decide | omega) (by first | decide | omega) (by decide)
              have q992 : h424 ((h 61 1) + 5) 2 = h267 ((h 61 1) + 5) 2 := jK 0 f426 (rg_T5_2_0_1 t1) (by first | decide | omega) (by first | decide | omega) (by decide)
              have q993 : h267 ((h 61 1) + 5) 2 = h136 ((h 61 1) + 5) 2 := jK 0 f269 (rg_T5_2_0_1 t1) (by first | decide | omega) (by first | decide | omega) (by decide)
              have q994 : h136 ((h 61 1) + 5) 2 = h116 ((h 61 1) + 5) 2 := jK 0 f138 (rg_T5_2_0_1 t1) (by first | decide | omega) (by first | decide | omega) (by decide)
              have q995 : h116 ((h 61 1) + 5) 2 = h102 ((h 61 1) + 5) 2 := jK 0 f118 (rg_T5_2_0_1 t1) (by first | decide | omega) (by first | decide | omega) (by decide)
              have q996 : h102 ((h 61 1) + 5) 2 = h86 ((h 61 1) + 5) 2 := jK 0 f104 (rg_T5_2_0_1 t1) (by first | decide | omega) (by first | decide | omega) (by decide)
              have q997 : h86 ((h 61 1) + 5) 2 = h56 ((h 61 1) + 5) 2 := jK 0 f88 (rg_T5_2_0_1 t1) (by first | decide | omega) (by first | decide | omega) (by decide)
              have q998 : h56 ((h 61 1) + 5) 2 = h35 ((h 61 1) + 5) 2 := jK 0 f58 (rg_T5_2_0_1 t1) (by first | decide | omega) (by first | decide | omega) (by decide)
              have q999 : h35 ((h 61 1) + 5) 2 = h8 ((h 61 1) + 5) 2 := jK 0 f37 (rg_T5_2_0_1 t1) (by first | decide | omega) (by first | decide | omega) (by decide)
              have e1000 : rv h662 4 = (h8 ((h 61 1) + 5) 2) := (congrArg (fun z => svq h662 z 4) (((((((((((q977.trans q978).trans q979).trans q980).trans q981).trans q982).trans q983).trans q984).trans q985).trans q986).trans q987).trans q988)).trans ((((((((((q989.trans q990).trans q991).trans q992).trans q993).trans q994).trans q995).trans q996).trans q997).trans q998).trans q999)
              have e1001 : rv h 5 = (h ((h 61 1) + 7) 2) := (congrArg (fun z => svq h z 5) rfl).trans rfl
              have q1002 : h662 61 1 = h454 61 1 := f664 61 1 (by decide +kernel)
              have q1003 : h454 61 1 = h440 61 1 := f456 61 1 (by decide +kernel)
              have q1004 : h440 61 1 = h424 61 1 := f442 61 1 (by decide +kernel)
              have q1005 : h424 61 1 = h267 61 1 := f426 61 1 (by decide +kernel)
              have q1006 : h267 61 1 = h136 61 1 := f269 61 1 (by decide +kernel)
              have q1007 : h136 61 1 = h116 61 1 := f138 61 1 (by decide +kernel)
              have q1008 : h116 61 1 = h102 61 1 := f118 61 1 (by decide +kernel)
              have q1009 : h102 61 1 = h86 61 1 := f104 61 1 (by decide +kernel)
              have q1010 : h86 61 1 = h56 61 1 := f88 61 1 (by decide +kernel)
              have q1011 : h56 61 1 = h35 61 1 := f58 61 1 (by decide +kernel)
              have q1012 : h35 61 1 = h8 61 1 := f37 61 1 (by decide +kernel)
              have q1013 : h8 61 1 = h 61 1 := f10 61 1 (by decide +kernel)
              have q1014 : h662 ((h 61 1) + 7) 2 = h454 ((h 61 1) + 7) 2 := jK 0 f664 (rg_T7_2_0_1 t1) (by first | decide | omega) (by first | decide | omega) (by decide)
              have q1015 : h454 ((h 61 1) + 7) 2 = h440 ((h 61 1) + 7) 2 := jK 0 f456 (rg_T7_2_0_1 t1) (by first | decide | omega) (by first | decide | omega) (by decide)
              have q1016 : h440 ((h 61 1) + 7) 2 = h424 ((h 61 1) + 7) 2 := jK 0 f442 (rg_T7_2_0_1 t1) (by first | decide | omega) (by first | decide | omega) (by decide)
              have q1017 : h424 ((h 61 1) + 7) 2 = h267 ((h 61 1) + 7) 2 := jK 0 f426 (rg_T7_2_0_1 t1) (by first | decide | omega) (by first | decide | omega) (by decide)
              have q1018 : h267 ((h 61 1) + 7) 2 = h136 ((h 61 1) + 7) 2 := jK 0 f269 (rg_T7_2_0_1 t1) (by first | decide | omega) (by first | decide | omega) (by decide)
              have q1019 : h136 ((h 61 1) + 7) 2 = h116 ((h 61 1) + 7) 2 := jK 0 f138 (rg_T7_2_0_1 t1) (by first | decide | omega) (by first | decide | omega) (by decide)
              have q1020 : h116 ((h 61 1) + 7) 2 = h102 ((h 61 1) + 7) 2 := jK 0 f118 (rg_T7_2_0_1 t1) (by first | decide | omega) (by first | decide | omega) (by decide)
              have q1021 : h102 ((h 61 1) + 7) 2 = h86 ((h 61 1) + 7) 2 := jK 0 f104 (rg_T7_2_0_1 t1) (by first | decide | omega) (by first | decide | omega) (by decide)
              have q1022 : h86 ((h 61 1) + 7) 2 = h56 ((h 61 1) + 7) 2 := jK 0 f88 (rg_T7_2_0_1 t1) (by first | decide | omega) (by first | decide | omega) (by decide)
              have q1023 : h56 ((h 61 1) + 7) 2 = h35 ((h 61 1) + 7) 2 := jK 0 f58 (rg_T7_2_0_1 t1) (by first | decide | omega) (by first | decide | omega) (by decide)
              have q1024 : h35 ((h 61 1) + 7) 2 = h8 ((h 61 1) + 7) 2 := jK 0 f37 (rg_T7_2_0_1 t1) (by first | decide | omega) (by first | decide | omega) (by decide)
              have e1025 : rv h662 5 = (h8 ((h 61 1) + 7) 2) := (congrArg (fun z => svq h662 z 5) (((((((((((q1002.trans q1003).trans q1004).trans q1005).trans q1006).trans q1007).trans q1008).trans q1009).trans q1010).trans q1011).trans q1012).trans q1013)).trans ((((((((((q1014.trans q1015).trans q1016).trans q1017).trans q1018).trans q1019).trans q1020).trans q1021).trans q1022).trans q1023).trans q1024)
              have q1026 : h8 1 2 = h 1 2 := jK 0 f10 rg_1_2_0_1 (by first | decide | omega) (by first | decide | omega) (by decide)
              obtain ⟨w1027, e1028⟩ := Tk.no c41 (by first | decide | omega)
              obtain ⟨w1029, e1030⟩ := Tk.yes c62 (by first | decide | omega)
              have q1031 : h102 1 2 = h86 1 2 := jK 0 f104 rg_1_2_0_1 (by first | decide | omega) (by first | decide | omega) (by decide)
              obtain ⟨w1032, e1033⟩ := Tk.yes c122 (by first | decide | omega)
              obtain ⟨w1034, e1035⟩ := Tk.yes c273 (by first | decide | omega)
              have q1036 : h440 1 2 = h424 1 2 := jK 0 f442 rg_1_2_0_1 (by first | decide | omega) (by first | decide | omega) (by decide)
              obtain ⟨w1037, e1038⟩ := Tk.yes c460 (by first | decide | omega)
              have m1039 : Ot (h 61 1) h h8 := Ot.trans Ot.refl (c19)
              have m1040 : Ot (h 61 1) h h35 := Ot.fr m1039 f37 (by decide)
              have m1041 : Ot (h 61 1) h h56 := Ot.fr m1040 f58 (by decide)
              have m1042 : Ot (h 61 1) h h86 := Ot.fr m1041 f88 (by decide)
              have m1043 : Ot (h 61 1) h h102 := Ot.fr m1042 f104 (by decide)
              have m1044 : Ot (h 61 1) h h116 := Ot.fr m1043 f118 (by decide)
              have m1045 : Ot (h 61 1) h h136 := Ot.fr m1044 f138 (by decide)
              have m1046 : Ot (h 61 1) h h267 := Ot.fr m1045 f269 (by decide)
              have m1047 : Ot (h 61 1) h h424 := Ot.fr m1046 f426 (by decide)
              have m1048 : Ot (h 61 1) h h440 := Ot.fr m1047 f442 (by decide)
              have m1049 : Ot (h 61 1) h h454 := Ot.fr m1048 f456 (by decide)
              have m1050 : Ot (h 61 1) h h662 := Ot.fr m1049 f664 (by decide)
              have q1051 : h8 1 2 = h 1 2 := jK 0 f10 rg_1_2_0_1 (by first | decide | omega) (by first | decide | omega) (by decide)
              obtain ⟨w1052, e1053⟩ := Tk.no c41 (by first | decide | omega)
              obtain ⟨w1054, e1055⟩ := Tk.yes c62 (by first | decide | omega)
              have q1056 : h102 1 2 = h86 1 2 := jK 0 f104 rg_1_2_0_1 (by first | decide | omega) (by first | decide | omega) (by decide)
              obtain ⟨w1057, e1058⟩ := Tk.yes c122 (by first | decide | omega)
              obtain ⟨w1059, e1060⟩ := Tk.yes c273 (by first | decide | omega)
              have q1061 : h440 1 2 = h424 1 2 := jK 0 f442 rg_1_2_0_1 (by first | decide | omega) (by first | decide | omega) (by decide)
              obtain ⟨w1062, e1063⟩ := Tk.yes c460 (by first | decide | omega)
              refine x_retI (np := 178) (x := 0) (by decide +kernel) (by decide) (Or.inr ⟨by decide +kernel, by first | decide | omega, by first | decide | omega⟩) ⟨_, rfl, (by decide), ?_⟩
              exact ⟨j663, f670, (by first | decide | omega), (by first | decide | omega), (by first | decide | omega), (by first | decide | omega), (by first | decide | omega), (fun z => by first | decide | omega), (by first | decide | omega), (or9.f w1027 (show h8 1 2 = h 1 2 by first | decide | omega) (show h35 1 2 = h 1 2 by first | decide | omega) (wd9.y w1029 rfl e1030 rfl (nm9.y c93 (by first | decide | omega) (by first | decide | omega) rfl (by first | decide | omega) rfl (wd9.y w1032 (show h102 1 2 = h86 1 2 by first | decide | omega) e1033 rfl (nm9.y c143 (by first | decide | omega) (by first | decide | omega) rfl (by first | decide | omega) rfl (wd9.y w1034 rfl e1035 rfl (nm9.y c431 (by first | decide | omega) (by first | decide | omega) rfl (by first | decide | omega) rfl (wd9.y w1037 (show h440 1 2 = h424 1 2 by first | decide | omega) e1038 rfl (nm9.f c669 (by first | decide | omega) (by first | decide | omega) rfl (by first | decide | omega) (by first | decide | omega)))))))))), m1050, (fun _ => (oF.no w1052 (show h8 1 2 = h 1 2 by first | decide | omega) (show h35 1 2 = h 1 2 by first | decide | omega) (wF.y w1054 rfl e1055 rfl (mF.y c93 (by first | decide | omega) (by first | decide | omega) rfl (by first | decide | omega) rfl (wF.y w1057 (show h102 1 2 = h86 1 2 by first | decide | omega) e1058 rfl (mF.y c143 (by first | decide | omega) (by first | decide | omega) rfl (by first | decide | omega) rfl (wF.y w1059 rfl e1060 rfl (mF.y c431 (by first | decide | omega) (by first | decide | omega) rfl (by first | decide | omega) rfl (wF.y w1062 (show h440 1 2 = h424 1 2 by first | decide | omega) e1063 rfl (mF.no c669 (by first | decide | omega) (by first | decide | omega) rfl (by first | decide | omega) (show h662 1 2 = h454 1 2 by first | decide | omega)))))))))))⟩
            have q876 : ¬ (2147483648 = 2147483648) := q876
            exfalso; omega
          have q435 : ¬ (v420 ≠ 2147483647) := q435
          have b1064 := c430 (by first | decide | omega)
          refine x_const (np := 20) (x := 9223372039002259456) (a := 2147483648) (by decide +kernel) (by decide) (by decide) ?_
          refine x_retI (np := 21) (x := 0) (by decide +kernel) (by decide) (Or.inr ⟨by decide +kernel, by first | decide | omega, by first | decide | omega⟩) ⟨_, rfl, (by decide), ?_⟩
          refine x_ifz (k := 0) (tg := 176) (np := 140) (by decide +kernel) (by decide) (by decide) (fun q1065 => ?_) (fun q1066 => ?_)
          · have q1065 : 2147483648 = 2147483648 := q1065
            refine x_const (np := 177) (x := 9223372039002259456) (a := 2147483648) (by decide +kernel) (by decide) (by decide) ?_
            have e1067 : rv h 0 = (h (h 61 1) 7) := (congrArg (fun z => svq h z 0) rfl).trans rfl
            have q1068 : h424 61 1 = h267 61 1 := f426 61 1 (by decide +kernel)
            have q1069 : h267 61 1 = h136 61 1 := f269 61 1 (by decide +kernel)
            have q1070 : h136 61 1 = h116 61 1 := f138 61 1 (by decide +kernel)
            have q1071 : h116 61 1 = h102 61 1 := f118 61 1 (by decide +kernel)
            have q1072 : h102 61 1 = h86 61 1 := f104 61 1 (by decide +kernel)
            have q1073 : h86 61 1 = h56 61 1 := f88 61 1 (by decide +kernel)
            have q1074 : h56 61 1 = h35 61 1 := f58 61 1 (by decide +kernel)
            have q1075 : h35 61 1 = h8 61 1 := f37 61 1 (by decide +kernel)
            have q1076 : h8 61 1 = h 61 1 := f10 61 1 (by decide +kernel)
            have q1077 : h424 (h 61 1) 7 = h267 (h 61 1) 7 := jK 0 f426 (rg_T0_7_0_1 t1) (by first | decide | omega) (by first | decide | omega) (by decide)
            have q1078 : h267 (h 61 1) 7 = h136 (h 61 1) 7 := jK 0 f269 (rg_T0_7_0_1 t1) (by first | decide | omega) (by first | decide | omega) (by decide)
            have q1079 : h136 (h 61 1) 7 = h116 (h 61 1) 7 := jK 0 f138 (rg_T0_7_0_1 t1) (by first | decide | omega) (by first | decide | omega) (by decide)
            have q1080 : h116 (h 61 1) 7 = h102 (h 61 1) 7 := jK 0 f118 (rg_T0_7_0_1 t1) (by first | decide | omega) (by first | decide | omega) (by decide)
            have q1081 : h102 (h 61 1) 7 = h86 (h 61 1) 7 := jK 0 f104 (rg_T0_7_0_1 t1) (by first | decide | omega) (by first | decide | omega) (by decide)
            have q1082 : h86 (h 61 1) 7 = h56 (h 61 1) 7 := jK 0 f88 (rg_T0_7_0_1 t1) (by first | decide | omega) (by first | decide | omega) (by decide)
            have q1083 : h56 (h 61 1) 7 = h35 (h 61 1) 7 := jK 0 f58 (rg_T0_7_0_1 t1) (by first | decide | omega) (by first | decide | omega) (by decide)
            have q1084 : h35 (h 61 1) 7 = h8 (h 61 1) 7 := jK 0 f37 (rg_T0_7_0_1 t1) (by first | decide | omega) (by first | decide | omega) (by decide)
            have e1085 : rv h424 0 = (h8 (h 61 1) 7) := (congrArg (fun z => svq h424 z 0) ((((((((q1068.trans q1069).trans q1070).trans q1071).trans q1072).trans q1073).trans q1074).trans q1075).trans q1076)).trans (((((((q1077.trans q1078).trans q1079).trans q1080).trans q1081).trans q1082).trans q1083).trans q1084)
            have e1086 : rv h 1 = (h (h 61 1) 8) := (congrArg (fun z => svq h z 1) rfl).trans rfl
            have q1087 : h424 61 1 = h267 61 1 := f426 61 1 (by decide +kernel)
            have q1088 : h267 61 1 = h136 61 1 := f269 61 1 (by decide +kernel)
            have q1089 : h136 61 1 = h116 61 1 := f138 61 1 (by decide +kernel)
            have q1090 : h116 61 1 = h102 61 1 := f118 61 1 (by decide +kernel)
            have q1091 : h102 61 1 = h86 61 1 := f104 61 1 (by decide +kernel)
            have q1092 : h86 61 1 = h56 61 1 := f88 61 1 (by decide +kernel)
            have q1093 : h56 61 1 = h35 61 1 := f58 61 1 (by decide +kernel)
            have q1094 : h35 61 1 = h8 61 1 := f37 61 1 (by decide +kernel)
            have q1095 : h8 61 1 = h 61 1 := f10 61 1 (by decide +kernel)
            have q1096 : h424 (h 61 1) 8 = h267 (h 61 1) 8 := jK 0 f426 (rg_T0_8_0_1 t1) (by first | decide | omega) (by first | decide | omega) (by decide)
            have q1097 : h267 (h 61 1) 8 = h136 (h 61 1) 8 := jK 0 f269 (rg_T0_8_0_1 t1) (by first | decide | omega) (by first | decide | omega) (by decide)
            have q1098 : h136 (h 61 1) 8 = h116 (h 61 1) 8 := jK 0 f138 (rg_T0_8_0_1 t1) (by first | decide | omega) (by first | decide | omega) (by decide)
            have q1099 : h116 (h 61 1) 8 = h102 (h 61 1) 8 := jK 0 f118 (rg_T0_8_0_1 t1) (by first | decide | omega) (by first | decide | omega) (by decide)
            have q1100 : h102 (h 61 1) 8 = h86 (h 61 1) 8 := jK 0 f104 (rg_T0_8_0_1 t1) (by first | decide | omega) (by first | decide | omega) (by decide)
            have q1101 : h86 (h 61 1) 8 = h56 (h 61 1) 8 := jK 0 f88 (rg_T0_8_0_1 t1) (by first | decide | omega) (by first | decide | omega) (by decide)
            have q1102 : h56 (h 61 1) 8 = h35 (h 61 1) 8 := jK 0 f58 (rg_T0_8_0_1 t1) (by first | decide | omega) (by first | decide | omega) (by decide)
            have q1103 : h35 (h 61 1) 8 = h8 (h 61 1) 8 := jK 0 f37 (rg_T0_8_0_1 t1) (by first | decide | omega) (by first | decide | omega) (by decide)
            have e1104 : rv h424 1 = (h8 (h 61 1) 8) := (congrArg (fun z => svq h424 z 1) ((((((((q1087.trans q1088).trans q1089).trans q1090).trans q1091).trans q1092).trans q1093).trans q1094).trans q1095)).trans (((((((q1096.trans q1097).trans q1098).trans q1099).trans q1100).trans q1101).trans q1102).trans q1103)
            have e1105 : rv h 2 = (h ((h 61 1) + 1) 2) := (congrArg (fun z => svq h z 2) rfl).trans rfl
            have q1106 : h424 61 1 = h267 61 1 := f426 61 1 (by decide +kernel)
            have q1107 : h267 61 1 = h136 61 1 := f269 61 1 (by decide +kernel)
            have q1108 : h136 61 1 = h116 61 1 := f138 61 1 (by decide +kernel)
            have q1109 : h116 61 1 = h102 61 1 := f118 61 1 (by decide +kernel)
            have q1110 : h102 61 1 = h86 61 1 := f104 61 1 (by decide +kernel)
            have q1111 : h86 61 1 = h56 61 1 := f88 61 1 (by decide +kernel)
            have q1112 : h56 61 1 = h35 61 1 := f58 61 1 (by decide +kernel)
            have q1113 : h35 61 1 = h8 61 1 := f37 61 1 (by decide +kernel)
            have q1114 : h8 61 1 = h 61 1 := f10 61 1 (by decide +kernel)
            have q1115 : h424 ((h 61 1) + 1) 2 = h267 ((h 61 1) + 1) 2 := jK 0 f426 (rg_T1_2_0_1 t1) (by first | decide | omega) (by first | decide | omega) (by decide)
            have q1116 : h267 ((h 61 1) + 1) 2 = h136 ((h 61 1) + 1) 2 := jK 0 f269 (rg_T1_2_0_1 t1) (by first | decide | omega) (by first | decide | omega) (by decide)
            have q1117 : h136 ((h 61 1) + 1) 2 = h116 ((h 61 1) + 1) 2 := jK 0 f138 (rg_T1_2_0_1 t1) (by first | decide | omega) (by first | decide | omega) (by decide)
            have q1118 : h116 ((h 61 1) + 1) 2 = h102 ((h 61 1) + 1) 2 := jK 0 f118 (rg_T1_2_0_1 t1) (by first | decide | omega) (by first | decide | omega) (by decide)
            have q1119 : h102 ((h 61 1) + 1) 2 = h86 ((h 61 1) + 1) 2 := jK 0 f104 (rg_T1_2_0_1 t1) (by first | decide | omega) (by first | decide | omega) (by decide)
            have q1120 : h86 ((h 61 1) + 1) 2 = h56 ((h 61 1) + 1) 2 := jK 0 f88 (rg_T1_2_0_1 t1) (by first | decide | omega) (by first | decide | omega) (by decide)
            have q1121 : h56 ((h 61 1) + 1) 2 = h35 ((h 61 1) + 1) 2 := jK 0 f58 (rg_T1_2_0_1 t1) (by first | decide | omega) (by first | decide | omega) (by decide)
            have q1122 : h35 ((h 61 1) + 1) 2 = h8 ((h 61 1) + 1) 2 := jK 0 f37 (rg_T1_2_0_1 t1) (by first | decide | omega) (by first | decide | omega) (by decide)
            have e1123 : rv h424 2 = (h8 ((h 61 1) + 1) 2) := (congrArg (fun z => svq h424 z 2) ((((((((q1106.trans q1107).trans q1108).trans q1109).trans q1110).trans q1111).trans q1112).trans q1113).trans q1114)).trans (((((((q1115.trans q1116).trans q1117).trans q1118).trans q1119).trans q1120).trans q1121).trans q1122)
            have e1124 : rv h 3 = (h ((h 61 1) + 3) 2) := (congrArg (fun z => svq h z 3) rfl).trans rfl
            have q1125 : h424 61 1 = h267 61 1 := f426 61 1 (by decide +kernel)
            have q1126 : h267 61 1 = h136 61 1 := f269 61 1 (by decide +kernel)
            have q1127 : h136 61 1 = h116 61 1 := f138 61 1 (by decide +kernel)
            have q1128 : h116 61 1 = h102 61 1 := f118 61 1 (by decide +kernel)
            have q1129 : h102 61 1 = h86 61 1 := f104 61 1 (by decide +kernel)
            have q1130 : h86 61 1 = h56 61 1 := f88 61 1 (by decide +kernel)
            have q1131 : h56 61 1 = h35 61 1 := f58 61 1 (by decide +kernel)
            have q1132 : h35 61 1 = h8 61 1 := f37 61 1 (by decide +kernel)
            have q1133 : h8 61 1 = h 61 1 := f10 61 1 (by decide +kernel)
            have q1134 : h424 ((h 61 1) + 3) 2 = h267 ((h 61 1) + 3) 2 := jK 0 f426 (rg_T3_2_0_1 t1) (by first | decide | omega) (by first | decide | omega) (by decide)
            have q1135 : h267 ((h 61 1) + 3) 2 = h136 ((h 61 1) + 3) 2 := jK 0 f269 (rg_T3_2_0_1 t1) (by first | decide | omega) (by first | decide | omega) (by decide)
            have q1136 : h136 ((h 61 1) + 3) 2 = h116 ((h 61 1) + 3) 2 := jK 0 f138 (rg_T3_2_0_1 t1) (by first | decide | omega) (by first | decide | omega) (by decide)
            have q1137 : h116 ((h 61 1) + 3) 2 = h102 ((h 61 1) + 3) 2 := jK 0 f118 (rg_T3_2_0_1 t1) (by first | decide | omega) (by first | decide | omega) (by decide)
            have q1138 : h102 ((h 61 1) + 3) 2 = h86 ((h 61 1) + 3) 2 := jK 0 f104 (rg_T3_2_0_1 t1) (by first | decide | omega) (by first | decide | omega) (by decide)
            have q1139 : h86 ((h 61 1) + 3) 2 = h56 ((h 61 1) + 3) 2 := jK 0 f88 (rg_T3_2_0_1 t1) (by first | decide | omega) (by first | decide | omega) (by decide)
            have q1140 : h56 ((h 61 1) + 3) 2 = h35 ((h 61 1) + 3) 2 := jK 0 f58 (rg_T3_2_0_1 t1) (by first | decide | omega) (by first | decide | omega) (by decide)
            have q1141 : h35 ((h 61 1) + 3) 2 = h8 ((h 61 1) + 3) 2 := jK 0 f37 (rg_T3_2_0_1 t1) (by first | decide | omega) (by first | decide | omega) (by decide)
            have e1142 : rv h424 3 = (h8 ((h 61 1) + 3) 2) := (congrArg (fun z => svq h424 z 3) ((((((((q1125.trans q1126).trans q1127).trans q1128).trans q1129).trans q1130).trans q1131).trans q1132).trans q1133)).trans (((((((q1134.trans q1135).trans q1136).trans q1137).trans q1138).trans q1139).trans q1140).trans q1141)
            have q1143 : h424 61 1 = h267 61 1 := f426 61 1 (by decide +kernel)
            have q1144 : h267 61 1 = h136 61 1 := f269 61 1 (by decide +kernel)
            have q1145 : h136 61 1 = h116 61 1 := f138 61 1 (by decide +kernel)
            have q1146 : h116 61 1 = h102 61 1 := f118 61 1 (by decide +kernel)
            have q1147 : h102 61 1 = h86 61 1 := f104 61 1 (by decide +kernel)
            have q1148 : h86 61 1 = h56 61 1 := f88 61 1 (by decide +kernel)
            have q1149 : h56 61 1 = h35 61 1 := f58 61 1 (by decide +kernel)
            have q1150 : h35 61 1 = h8 61 1 := f37 61 1 (by decide +kernel)
            have q1151 : h8 61 1 = h 61 1 := f10 61 1 (by decide +kernel)
            have q1152 : h424 ((h 61 1) + 5) 2 = h267 ((h 61 1) + 5) 2 := jK 0 f426 (rg_T5_2_0_1 t1) (by first | decide | omega) (by first | decide | omega) (by decide)
            have q1153 : h267 ((h 61 1) + 5) 2 = h136 ((h 61 1) + 5) 2 := jK 0 f269 (rg_T5_2_0_1 t1) (by first | decide | omega) (by first | decide | omega) (by decide)
            have q1154 : h136 ((h 61 1) + 5) 2 = h116 ((h 61 1) + 5) 2 := jK 0 f138 (rg_T5_2_0_1 t1) (by first | decide | omega) (by first | decide | omega) (by decide)
            have q1155 : h116 ((h 61 1) + 5) 2 = h102 ((h 61 1) + 5) 2 := jK 0 f118 (rg_T5_2_0_1 t1) (by first | decide | omega) (by first | decide | omega) (by decide)
            have q1156 : h102 ((h 61 1) + 5) 2 = h86 ((h 61 1) + 5) 2 := jK 0 f104 (rg_T5_2_0_1 t1) (by first | decide | omega) (by first | decide | omega) (by decide)
            have q1157 : h86 ((h 61 1) + 5) 2 = h56 ((h 61 1) + 5) 2 := jK 0 f88 (rg_T5_2_0_1 t1) (by first | decide | omega) (by first | decide | omega) (by decide)
            have q1158 : h56 ((h 61 1) + 5) 2 = h35 ((h 61 1) + 5) 2 := jK 0 f58 (rg_T5_2_0_1 t1) (by first | decide | omega) (by first | decide | omega) (by decide)
            have q1159 : h35 ((h 61 1) + 5) 2 = h8 ((h 61 1) + 5) 2 := jK 0 f37 (rg_T5_2_0_1 t1) (by first | decide | omega) (by first | decide | omega) (by decide)
            have e1160 : rv h424 4 = (h8 ((h 61 1) + 5) 2) := (congrArg (fun z => svq h424 z 4) ((((((((q1143.trans q1144).trans q1145).trans q1146).trans q1147).trans q1148).trans q1149).trans q1150).trans q1151)).trans (((((((q1152.trans q1153).trans q1154).trans q1155).trans q1156).trans q1157).trans q1158).trans q1159)
            have e1161 : rv h 5 = (h ((h 61 1) + 7) 2) := (congrArg (fun z => svq h z 5) rfl).trans rfl
            have q1162 : h424 61 1 = h267 61 1 := f426 61 1 (by decide +kernel)
            have q1163 : h267 61 1 = h136 61 1 := f269 61 1 (by decide +kernel)
            have q1164 : h136 61 1 = h116 61 1 := f138 61 1 (by decide +kernel)
            have q1165 : h116 61 1 = h102 61 1 := f118 61 1 (by decide +kernel)
            have q1166 : h102 61 1 = h86 61 1 := f104 61 1 (by decide +kernel)
            have q1167 : h86 61 1 = h56 61 1 := f88 61 1 (by decide +kernel)
            have q1168 : h56 61 1 = h35 61 1 := f58 61 1 (by decide +kernel)
            have q1169 : h35 61 1 = h8 61 1 := f37 61 1 (by decide +kernel)
            have q1170 : h8 61 1 = h 61 1 := f10 61 1 (by decide +kernel)
            have q1171 : h424 ((h 61 1) + 7) 2 = h267 ((h 61 1) + 7) 2 := jK 0 f426 (rg_T7_2_0_1 t1) (by first | decide | omega) (by first | decide | omega) (by decide)
            have q1172 : h267 ((h 61 1) + 7) 2 = h136 ((h 61 1) + 7) 2 := jK 0 f269 (rg_T7_2_0_1 t1) (by first | decide | omega) (by first | decide | omega) (by decide)
            have q1173 : h136 ((h 61 1) + 7) 2 = h116 ((h 61 1) + 7) 2 := jK 0 f138 (rg_T7_2_0_1 t1) (by first | decide | omega) (by first | decide | omega) (by decide)
            have q1174 : h116 ((h 61 1) + 7) 2 = h102 ((h 61 1) + 7) 2 := jK 0 f118 (rg_T7_2_0_1 t1) (by first | decide | omega) (by first | decide | omega) (by decide)
            have q1175 : h102 ((h 61 1) + 7) 2 = h86 ((h 61 1) + 7) 2 := jK 0 f104 (rg_T7_2_0_1 t1) (by first | decide | omega) (by first | decide | omega) (by decide)
            have q1176 : h86 ((h 61 1) + 7) 2 = h56 ((h 61 1) + 7) 2 := jK 0 f88 (rg_T7_2_0_1 t1) (by first | decide | omega) (by first | decide | omega) (by decide)
            have q1177 : h56 ((h 61 1) + 7) 2 = h35 ((h 61 1) + 7) 2 := jK 0 f58 (rg_T7_2_0_1 t1) (by first | decide | omega) (by first | decide | omega) (by decide)
            have q1178 : h35 ((h 61 1) + 7) 2 = h8 ((h 61 1) + 7) 2 := jK 0 f37 (rg_T7_2_0_1 t1) (by first | decide | omega) (by first | decide | omega) (by decide)
            have e1179 : rv h424 5 = (h8 ((h 61 1) + 7) 2) := (congrArg (fun z => svq h424 z 5) ((((((((q1162.trans q1163).trans q1164).trans q1165).trans q1166).trans q1167).trans q1168).trans q1169).trans q1170)).trans (((((((q1171.trans q1172).trans q1173).trans q1174).trans q1175).trans q1176).trans q1177).trans q1178)
            have q1180 : h8 1 2 = h 1 2 := jK 0 f10 rg_1_2_0_1 (by first | decide | omega) (by first | decide | omega) (by decide)
            obtain ⟨w1181, e1182⟩ := Tk.no c41 (by first | decide | omega)
            obtain ⟨w1183, e1184⟩ := Tk.yes c62 (by first | decide | omega)
            have q1185 : h102 1 2 = h86 1 2 := jK 0 f104 rg_1_2_0_1 (by first | decide | omega) (by first | decide | omega) (by decide)
            obtain ⟨w1186, e1187⟩ := Tk.yes c122 (by first | decide | omega)
            obtain ⟨w1188, e1189⟩ := Tk.yes c273 (by first | decide | omega)
            have m1190 : Ot (h 61 1) h h8 := Ot.trans Ot.refl (c19)
            have m1191 : Ot (h 61 1) h h35 := Ot.fr m1190 f37 (by decide)
            have m1192 : Ot (h 61 1) h h56 := Ot.fr m1191 f58 (by decide)
            have m1193 : Ot (h 61 1) h h86 := Ot.fr m1192 f88 (by decide)
            have m1194 : Ot (h 61 1) h h102 := Ot.fr m1193 f104 (by decide)
            have m1195 : Ot (h 61 1) h h116 := Ot.fr m1194 f118 (by decide)
            have m1196 : Ot (h 61 1) h h136 := Ot.fr m1195 f138 (by decide)
            have m1197 : Ot (h 61 1) h h267 := Ot.fr m1196 f269 (by decide)
            have m1198 : Ot (h 61 1) h h424 := Ot.fr m1197 f426 (by decide)
            have q1199 : h8 1 2 = h 1 2 := jK 0 f10 rg_1_2_0_1 (by first | decide | omega) (by first | decide | omega) (by decide)
            obtain ⟨w1200, e1201⟩ := Tk.no c41 (by first | decide | omega)
            obtain ⟨w1202, e1203⟩ := Tk.yes c62 (by first | decide | omega)
            have q1204 : h102 1 2 = h86 1 2 := jK 0 f104 rg_1_2_0_1 (by first | decide | omega) (by first | decide | omega) (by decide)
            obtain ⟨w1205, e1206⟩ := Tk.yes c122 (by first | decide | omega)
            obtain ⟨w1207, e1208⟩ := Tk.yes c273 (by first | decide | omega)
            refine x_retI (np := 178) (x := 0) (by decide +kernel) (by decide) (Or.inr ⟨by decide +kernel, by first | decide | omega, by first | decide | omega⟩) ⟨_, rfl, (by decide), ?_⟩
            exact ⟨j425, f432, (by first | decide | omega), (by first | decide | omega), (by first | decide | omega), (by first | decide | omega), (by first | decide | omega), (fun z => by first | decide | omega), (by first | decide | omega), (or9.f w1181 (show h8 1 2 = h 1 2 by first | decide | omega) (show h35 1 2 = h 1 2 by first | decide | omega) (wd9.y w1183 rfl e1184 rfl (nm9.y c93 (by first | decide | omega) (by first | decide | omega) rfl (by first | decide | omega) rfl (wd9.y w1186 (show h102 1 2 = h86 1 2 by first | decide | omega) e1187 rfl (nm9.y c143 (by first | decide | omega) (by first | decide | omega) rfl (by first | decide | omega) rfl (wd9.y w1188 rfl e1189 rfl (nm9.f c431 (by first | decide | omega) (by first | decide | omega) rfl (by first | decide | omega) (by first | decide | omega)))))))), m1198, (fun _ => (oF.no w1200 (show h8 1 2 = h 1 2 by first | decide | omega) (show h35 1 2 = h 1 2 by first | decide | omega) (wF.y w1202 rfl e1203 rfl (mF.y c93 (by first | decide | omega) (by first | decide | omega) rfl (by first | decide | omega) rfl (wF.y w1205 (show h102 1 2 = h86 1 2 by first | decide | omega) e1206 rfl (mF.y c143 (by first | decide | omega) (by first | decide | omega) rfl (by first | decide | omega) rfl (wF.y w1207 rfl e1208 rfl (mF.no c431 (by first | decide | omega) (by first | decide | omega) rfl (by first | decide | omega) (show h424 1 2 = h267 1 2 by first | decide | omega)))))))))⟩
          have q1066 : ¬ (2147483648 = 2147483648) := q1066
          exfalso; omega
        have q129 : ¬ (v111 ≠ 2147483648) := q129
        have b1209 := c121 (by first | decide | omega)
        refine x_const (np := 92) (x := 9223372039002259456) (a := 2147483648) (by decide +kernel) (by decide) (by decide) ?_
        have e1210 : rv h 0 = (h (h 61 1) 7) := (congrArg (fun z => svq h z 0) rfl).trans rfl
        have q1211 : h116 61 1 = h102 61 1 := f118 61 1 (by decide +kernel)
        have q1212 : h102 61 1 = h86 61 1 := f104 61 1 (by decide +kernel)
        have q1213 : h86 61 1 = h56 61 1 := f88 61 1 (by decide +kernel)
        have q1214 : h56 61 1 = h35 61 1 := f58 61 1 (by decide +kernel)
        have q1215 : h35 61 1 = h8 61 1 := f37 61 1 (by decide +kernel)
        have q1216 : h8 61 1 = h 61 1 := f10 61 1 (by decide +kernel)
        have q1217 : h116 (h 61 1) 7 = h102 (h 61 1) 7 := jK 0 f118 (rg_T0_7_0_1 t1) (by first | decide | omega) (by first | decide | omega) (by decide)
        have q1218 : h102 (h 61 1) 7 = h86 (h 61 1) 7 := jK 0 f104 (rg_T0_7_0_1 t1) (by first | decide | omega) (by first | decide | omega) (by decide)
        have q1219 : h86 (h 61 1) 7 = h56 (h 61 1) 7 := jK 0 f88 (rg_T0_7_0_1 t1) (by first | decide | omega) (by first | decide | omega) (by decide)
        have q1220 : h56 (h 61 1) 7 = h35 (h 61 1) 7 := jK 0 f58 (rg_T0_7_0_1 t1) (by first | decide | omega) (by first | decide | omega) (by decide)
        have q1221 : h35 (h 61 1) 7 = h8 (h 61 1) 7 := jK 0 f37 (rg_T0_7_0_1 t1) (by first | decide | omega) (by first | decide | omega) (by decide)
        have e1222 : rv h116 0 = (h8 (h 61 1) 7) := (congrArg (fun z => svq h116 z 0) (((((q1211.trans q1212).trans q1213).trans q1214).trans q1215).trans q1216)).trans ((((q1217.trans q1218).trans q1219).trans q1220).trans q1221)
        have e1223 : rv h 1 = (h (h 61 1) 8) := (congrArg (fun z => svq h z 1) rfl).trans rfl
        have q1224 : h116 61 1 = h102 61 1 := f118 61 1 (by decide +kernel)
        have q1225 : h102 61 1 = h86 61 1 := f104 61 1 (by decide +kernel)
        have q1226 : h86 61 1 = h56 61 1 := f88 61 1 (by decide +kernel)
        have q1227 : h56 61 1 = h35 61 1 := f58 61 1 (by decide +kernel)
        have q1228 : h35 61 1 = h8 61 1 := f37 61 1 (by decide +kernel)
        have q1229 : h8 61 1 = h 61 1 := f10 61 1 (by decide +kernel)
        have q1230 : h116 (h 61 1) 8 = h102 (h 61 1) 8 := jK 0 f118 (rg_T0_8_0_1 t1) (by first | decide | omega) (by first | decide | omega) (by decide)
        have q1231 : h102 (h 61 1) 8 = h86 (h 61 1) 8 := jK 0 f104 (rg_T0_8_0_1 t1) (by first | decide | omega) (by first | decide | omega) (by decide)
        have q1232 : h86 (h 61 1) 8 = h56 (h 61 1) 8 := jK 0 f88 (rg_T0_8_0_1 t1) (by first | decide | omega) (by first | decide | omega) (by decide)
        have q1233 : h56 (h 61 1) 8 = h35 (h 61 1) 8 := jK 0 f58 (rg_T0_8_0_1 t1) (by first | decide | omega) (by first | decide | omega) (by decide)
        have q1234 : h35 (h 61 1) 8 = h8 (h 61 1) 8 := jK 0 f37 (rg_T0_8_0_1 t1) (by first | decide | omega) (by first | decide | omega) (by decide)
        have e1235 : rv h116 1 = (h8 (h 61 1) 8) := (congrArg (fun z => svq h116 z 1) (((((q1224.trans q1225).trans q1226).trans q1227).trans q1228).trans q1229)).trans ((((q1230.trans q1231).trans q1232).trans q1233).trans q1234)
        have e1236 : rv h 2 = (h ((h 61 1) + 1) 2) := (congrArg (fun z => svq h z 2) rfl).trans rfl
        have q1237 : h116 61 1 = h102 61 1 := f118 61 1 (by decide +kernel)
        have q1238 : h102 61 1 = h86 61 1 := f104 61 1 (by decide +kernel)
        have q1239 : h86 61 1 = h56 61 1 := f88 61 1 (by decide +kernel)
        have q1240 : h56 61 1 = h35 61 1 := f58 61 1 (by decide +kernel)
        have q1241 : h35 61 1 = h8 61 1 := f37 61 1 (by decide +kernel)
        have q1242 : h8 61 1 = h 61 1 := f10 61 1 (by decide +kernel)
        have q1243 : h116 ((h 61 1) + 1) 2 = h102 ((h 61 1) + 1) 2 := jK 0 f118 (rg_T1_2_0_1 t1) (by first | decide | omega) (by first | decide | omega) (by decide)
        have q1244 : h102 ((h 61 1) + 1) 2 = h86 ((h 61 1) + 1) 2 := jK 0 f104 (rg_T1_2_0_1 t1) (by first | decide | omega) (by first | decide | omega) (by decide)
        have q1245 : h86 ((h 61 1) + 1) 2 = h56 ((h 61 1) + 1) 2 := jK 0 f88 (rg_T1_2_0_1 t1) (by first | decide | omega) (by first | decide | omega) (by decide)
        have q1246 : h56 ((h 61 1) + 1) 2 = h35 ((h 61 1) + 1) 2 := jK 0 f58 (rg_T1_2_0_1 t1) (by first | decide | omega) (by first | decide | omega) (by decide)
        have q1247 : h35 ((h 61 1) + 1) 2 = h8 ((h 61 1) + 1) 2 := jK 0 f37 (rg_T1_2_0_1 t1) (by first | decide | omega) (by first | decide | omega) (by decide)
        have e1248 : rv h116 2 = (h8 ((h 61 1) + 1) 2) := (congrArg (fun z => svq h116 z 2) (((((q1237.trans q1238).trans q1239).trans q1240).trans q1241).trans q1242)).trans ((((q1243.trans q1244).trans q1245).trans q1246).trans q1247)
        have e1249 : rv h 3 = (h ((h 61 1) + 3) 2) := (congrArg (fun z => svq h z 3) rfl).trans rfl
        have q1250 : h116 61 1 = h102 61 1 := f118 61 1 (by decide +kernel)
        have q1251 : h102 61 1 = h86 61 1 := f104 61 1 (by decide +kernel)
        have q1252 : h86 61 1 = h56 61 1 := f88 61 1 (by decide +kernel)
        have q1253 : h56 61 1 = h35 61 1 := f58 61 1 (by decide +kernel)
        have q1254 : h35 61 1 = h8 61 1 := f37 61 1 (by decide +kernel)
        have q1255 : h8 61 1 = h 61 1 := f10 61 1 (by decide +kernel)
        have q1256 : h116 ((h 61 1) + 3) 2 = h102 ((h 61 1) + 3) 2 := jK 0 f118 (rg_T3_2_0_1 t1) (by first | decide | omega) (by first | decide | omega) (by decide)
        have q1257 : h102 ((h 61 1) + 3) 2 = h86 ((h 61 1) + 3) 2 := jK 0 f104 (rg_T3_2_0_1 t1) (by first | decide | omega) (by first | decide | omega) (by decide)
        have q1258 : h86 ((h 61 1) + 3) 2 = h56 ((h 61 1) + 3) 2 := jK 0 f88 (rg_T3_2_0_1 t1) (by first | decide | omega) (by first | decide | omega) (by decide)
        have q1259 : h56 ((h 61 1) + 3) 2 = h35 ((h 61 1) + 3) 2 := jK 0 f58 (rg_T3_2_0_1 t1) (by first | decide | omega) (by first | decide | omega) (by decide)
        have q1260 : h35 ((h 61 1) + 3) 2 = h8 ((h 61 1) + 3) 2 := jK 0 f37 (rg_T3_2_0_1 t1) (by first | decide | omega) (by first | decide | omega) (by decide)
        have e1261 : rv h116 3 = (h8 ((h 61 1) + 3) 2) := (congrArg (fun z => svq h116 z 3) (((((q1250.trans q1251).trans q1252).trans q1253).trans q1254).trans q1255)).trans ((((q1256.trans q1257).trans q1258).trans q1259).trans q1260)
        have q1262 : h116 61 1 = h102 61 1 := f118 61 1 (by decide +kernel)
        have q1263 : h102 61 1 = h86 61 1 := f104 61 1 (by decide +kernel)
        have q1264 : h86 61 1 = h56 61 1 := f88 61 1 (by decide +kernel)
        have q1265 : h56 61 1 = h35 61 1 := f58 61 1 (by decide +kernel)
        have q1266 : h35 61 1 = h8 61 1 := f37 61 1 (by decide +kernel)
        have q1267 : h8 61 1 = h 61 1 := f10 61 1 (by decide +kernel)
        have q1268 : h116 ((h 61 1) + 5) 2 = h102 ((h 61 1) + 5) 2 := jK 0 f118 (rg_T5_2_0_1 t1) (by first | decide | omega) (by first | decide | omega) (by decide)
        have q1269 : h102 ((h 61 1) + 5) 2 = h86 ((h 61 1) + 5) 2 := jK 0 f104 (rg_T5_2_0_1 t1) (by first | decide | omega) (by first | decide | omega) (by decide)
        have q1270 : h86 ((h 61 1) + 5) 2 = h56 ((h 61 1) + 5) 2 := jK 0 f88 (rg_T5_2_0_1 t1) (by first | decide | omega) (by first | decide | omega) (by decide)
        have q1271 : h56 ((h 61 1) + 5) 2 = h35 ((h 61 1) + 5) 2 := jK 0 f58 (rg_T5_2_0_1 t1) (by first | decide | omega) (by first | decide | omega) (by decide)
        have q1272 : h35 ((h 61 1) + 5) 2 = h8 ((h 61 1) + 5) 2 := jK 0 f37 (rg_T5_2_0_1 t1) (by first | decide | omega) (by first | decide | omega) (by decide)
        have e1273 : rv h116 4 = (h8 ((h 61 1) + 5) 2) := (congrArg (fun z => svq h116 z 4) (((((q1262.trans q1263).trans q1264).trans q1265).trans q1266).trans q1267)).trans ((((q1268.trans q1269).trans q1270).trans q1271).trans q1272)
        have e1274 : rv h 5 = (h ((h 61 1) + 7) 2) := (congrArg (fun z => svq h z 5) rfl).trans rfl
        have q1275 : h116 61 1 = h102 61 1 := f118 61 1 (by decide +kernel)
        have q1276 : h102 61 1 = h86 61 1 := f104 61 1 (by decide +kernel)
        have q1277 : h86 61 1 = h56 61 1 := f88 61 1 (by decide +kernel)
        have q1278 : h56 61 1 = h35 61 1 := f58 61 1 (by decide +kernel)
        have q1279 : h35 61 1 = h8 61 1 := f37 61 1 (by decide +kernel)
        have q1280 : h8 61 1 = h 61 1 := f10 61 1 (by decide +kernel)
        have q1281 : h116 ((h 61 1) + 7) 2 = h102 ((h 61 1) + 7) 2 := jK 0 f118 (rg_T7_2_0_1 t1) (by first | decide | omega) (by first | decide | omega) (by decide)
        have q1282 : h102 ((h 61 1) + 7) 2 = h86 ((h 61 1) + 7) 2 := jK 0 f104 (rg_T7_2_0_1 t1) (by first | decide | omega) (by first | decide | omega) (by decide)
        have q1283 : h86 ((h 61 1) + 7) 2 = h56 ((h 61 1) + 7) 2 := jK 0 f88 (rg_T7_2_0_1 t1) (by first | decide | omega) (by first | decide | omega) (by decide)
        have q1284 : h56 ((h 61 1) + 7) 2 = h35 ((h 61 1) + 7) 2 := jK 0 f58 (rg_T7_2_0_1 t1) (by first | decide | omega) (by first | decide | omega) (by decide)
        have q1285 : h35 ((h 61 1) + 7) 2 = h8 ((h 61 1) + 7) 2 := jK 0 f37 (rg_T7_2_0_1 t1) (by first | decide | omega) (by first | decide | omega) (by decide)
        have e1286 : rv h116 5 = (h8 ((h 61 1) + 7) 2) := (congrArg (fun z => svq h116 z 5) (((((q1275.trans q1276).trans q1277).trans q1278).trans q1279).trans q1280)).trans ((((q1281.trans q1282).trans q1283).trans q1284).trans q1285)
        have q1287 : h8 1 2 = h 1 2 := jK 0 f10 rg_1_2_0_1 (by first | decide | omega) (by first | decide | omega) (by decide)
        obtain ⟨w1288, e1289⟩ := Tk.no c41 (by first | decide | omega)
        obtain ⟨w1290, e1291⟩ := Tk.yes c62 (by first | decide | omega)
        have q1292 : h102 1 2 = h86 1 2 := jK 0 f104 rg_1_2_0_1 (by first | decide | omega) (by first | decide | omega) (by decide)
        obtain ⟨w1293, e1294⟩ := Tk.no c122 (by first | decide | omega)
        have m1295 : Ot (h 61 1) h h8 := Ot.trans Ot.refl (c19)
        have m1296 : Ot (h 61 1) h h35 := Ot.fr m1295 f37 (by decide)
        have m1297 : Ot (h 61 1) h h56 := Ot.fr m1296 f58 (by decide)
        have m1298 : Ot (h 61 1) h h86 := Ot.fr m1297 f88 (by decide)
        have m1299 : Ot (h 61 1) h h102 := Ot.fr m1298 f104 (by decide)
        have m1300 : Ot (h 61 1) h h116 := Ot.fr m1299 f118 (by decide)
        have q1301 : h8 1 2 = h 1 2 := jK 0 f10 rg_1_2_0_1 (by first | decide | omega) (by first | decide | omega) (by decide)
        obtain ⟨w1302, e1303⟩ := Tk.no c41 (by first | decide | omega)
        obtain ⟨w1304, e1305⟩ := Tk.yes c62 (by first | decide | omega)
        have q1306 : h102 1 2 = h86 1 2 := jK 0 f104 rg_1_2_0_1 (by first | decide | omega) (by first | decide | omega) (by decide)
        obtain ⟨w1307, e1308⟩ := Tk.no c122 (by first | decide | omega)
        have q1309 : h102 1 2 = h86 1 2 := jK 0 f104 rg_1_2_0_1 (by first | decide | omega) (by first | decide | omega) (by decide)
        refine x_retI (np := 93) (x := 0) (by decide +kernel) (by decide) (Or.inr ⟨by decide +kernel, by first | decide | omega, by first | decide | omega⟩) ⟨_, rfl, (by decide), ?_⟩
        exact ⟨j117, f123, (by first | decide | omega), (by first | decide | omega), (by first | decide | omega), (by first | decide | omega), (by first | decide | omega), (fun z => by first | decide | omega), (by first | decide | omega), (or9.f w1288 (show h8 1 2 = h 1 2 by first | decide | omega) (show h35 1 2 = h 1 2 by first | decide | omega) (wd9.y w1290 rfl e1291 rfl (nm9.y c93 (by first | decide | omega) (by first | decide | omega) rfl (by first | decide | omega) rfl (wd9.f w1293 (show h102 1 2 = h86 1 2 by first | decide | omega) (by first | decide | omega))))), m1300, (fun _ => (oF.no w1302 (show h8 1 2 = h 1 2 by first | decide | omega) (show h35 1 2 = h 1 2 by first | decide | omega) (wF.y w1304 rfl e1305 rfl (mF.y c93 (by first | decide | omega) (by first | decide | omega) rfl (by first | decide | omega) rfl (wF.no w1307 (show h102 1 2 = h86 1 2 by first | decide | omega) (show h116 1 2 = h102 1 2 by first | decide | omega))))))⟩
      have q97 : ¬ (v82 ≠ 2147483647) := q97
      have b1310 := c92 (by first | decide | omega)
      refine x_const (np := 20) (x := 9223372039002259456) (a := 2147483648) (by decide +kernel) (by decide) (by decide) ?_
      refine x_retI (np := 21) (x := 0) (by decide +kernel) (by decide) (Or.inr ⟨by decide +kernel, by first | decide | omega, by first | decide | omega⟩) ⟨_, rfl, (by decide), ?_⟩
      refine x_ifz (k := 0) (tg := 91) (np := 79) (by decide +kernel) (by decide) (by decide) (fun q1311 => ?_) (fun q1312 => ?_)
      · have q1311 : 2147483648 = 2147483648 := q1311
        refine x_const (np := 92) (x := 9223372039002259456) (a := 2147483648) (by decide +kernel) (by decide) (by decide) ?_
        have e1313 : rv h 0 = (h (h 61 1) 7) := (congrArg (fun z => svq h z 0) rfl).trans rfl
        have q1314 : h86 61 1 = h56 61 1 := f88 61 1 (by decide +kernel)
        have q1315 : h56 61 1 = h35 61 1 := f58 61 1 (by decide +kernel)
        have q1316 : h35 61 1 = h8 61 1 := f37 61 1 (by decide +kernel)
        have q1317 : h8 61 1 = h 61 1 := f10 61 1 (by decide +kernel)
        have q1318 : h86 (h 61 1) 7 = h56 (h 61 1) 7 := jK 0 f88 (rg_T0_7_0_1 t1) (by first | decide | omega) (by first | decide | omega) (by decide)
        have q1319 : h56 (h 61 1) 7 = h35 (h 61 1) 7 := jK 0 f58 (rg_T0_7_0_1 t1) (by first | decide | omega) (by first | decide | omega) (by decide)
        have q1320 : h35 (h 61 1) 7 = h8 (h 61 1) 7 := jK 0 f37 (rg_T0_7_0_1 t1) (by first | decide | omega) (by first | decide | omega) (by decide)
        have e1321 : rv h86 0 = (h8 (h 61 1) 7) := (congrArg (fun z => svq h86 z 0) (((q1314.trans q1315).trans q1316).trans q1317)).trans ((q1318.trans q1319).trans q1320)
        have e1322 : rv h 1 = (h (h 61 1) 8) := (congrArg (fun z => svq h z 1) rfl).trans rfl
        have q1323 : h86 61 1 = h56 61 1 := f88 61 1 (by decide +kernel)
        have q1324 : h56 61 1 = h35 61 1 := f58 61 1 (by decide +kernel)
        have q1325 : h35 61 1 = h8 61 1 := f37 61 1 (by decide +kernel)
        have q1326 : h8 61 1 = h 61 1 := f10 61 1 (by decide +kernel)
        have q1327 : h86 (h 61 1) 8 = h56 (h 61 1) 8 := jK 0 f88 (rg_T0_8_0_1 t1) (by first | decide | omega) (by first | decide | omega) (by decide)
        have q1328 : h56 (h 61 1) 8 = h35 (h 61 1) 8 := jK 0 f58 (rg_T0_8_0_1 t1) (by first | decide | omega) (by first | decide | omega) (by decide)
        have q1329 : h35 (h 61 1) 8 = h8 (h 61 1) 8 := jK 0 f37 (rg_T0_8_0_1 t1) (by first | decide | omega) (by first | decide | omega) (by decide)
        have e1330 : rv h86 1 = (h8 (h 61 1) 8) := (congrArg (fun z => svq h86 z 1) (((q1323.trans q1324).trans q1325).trans q1326)).trans ((q1327.trans q1328).trans q1329)
        have e1331 : rv h 2 = (h ((h 61 1) + 1) 2) := (congrArg (fun z => svq h z 2) rfl).trans rfl
        have q1332 : h86 61 1 = h56 61 1 := f88 61 1 (by decide +kernel)
        have q1333 : h56 61 1 = h35 61 1 := f58 61 1 (by decide +kernel)
        have q1334 : h35 61 1 = h8 61 1 := f37 61 1 (by decide +kernel)
        have q1335 : h8 61 1 = h 61 1 := f10 61 1 (by decide +kernel)
        have q1336 : h86 ((h 61 1) + 1) 2 = h56 ((h 61 1) + 1) 2 := jK 0 f88 (rg_T1_2_0_1 t1) (by first | decide | omega) (by first | decide | omega) (by decide)
        have q1337 : h56 ((h 61 1) + 1) 2 = h35 ((h 61 1) + 1) 2 := jK 0 f58 (rg_T1_2_0_1 t1) (by first | decide | omega) (by first | decide | omega) (by decide)
        have q1338 : h35 ((h 61 1) + 1) 2 = h8 ((h 61 1) + 1) 2 := jK 0 f37 (rg_T1_2_0_1 t1) (by first | decide | omega) (by first | decide | omega) (by decide)
        have e1339 : rv h86 2 = (h8 ((h 61 1) + 1) 2) := (congrArg (fun z => svq h86 z 2) (((q1332.trans q1333).trans q1334).trans q1335)).trans ((q1336.trans q1337).trans q1338)
        have e1340 : rv h 3 = (h ((h 61 1) + 3) 2) := (congrArg (fun z => svq h z 3) rfl).trans rfl
        have q1341 : h86 61 1 = h56 61 1 := f88 61 1 (by decide +kernel)
        have q1342 : h56 61 1 = h35 61 1 := f58 61 1 (by decide +kernel)
        have q1343 : h35 61 1 = h8 61 1 := f37 61 1 (by decide +kernel)
        have q1344 : h8 61 1 = h 61 1 := f10 61 1 (by decide +kernel)
        have q1345 : h86 ((h 61 1) + 3) 2 = h56 ((h 61 1) + 3) 2 := jK 0 f88 (rg_T3_2_0_1 t1) (by first | decide | omega) (by first | decide | omega) (by decide)
        have q1346 : h56 ((h 61 1) + 3) 2 = h35 ((h 61 1) + 3) 2 := jK 0 f58 (rg_T3_2_0_1 t1) (by first | decide | omega) (by first | decide | omega) (by decide)
        have q1347 : h35 ((h 61 1) + 3) 2 = h8 ((h 61 1) + 3) 2 := jK 0 f37 (rg_T3_2_0_1 t1) (by first | decide | omega) (by first | decide | omega) (by decide)
        have e1348 : rv h86 3 = (h8 ((h 61 1) + 3) 2) := (congrArg (fun z => svq h86 z 3) (((q1341.trans q1342).trans q1343).trans q1344)).trans ((q1345.trans q1346).trans q1347)
        have q1349 : h86 61 1 = h56 61 1 := f88 61 1 (by decide +kernel)
        have q1350 : h56 61 1 = h35 61 1 := f58 61 1 (by decide +kernel)
        have q1351 : h35 61 1 = h8 61 1 := f37 61 1 (by decide +kernel)
        have q1352 : h8 61 1 = h 61 1 := f10 61 1 (by decide +kernel)
        have q1353 : h86 ((h 61 1) + 5) 2 = h56 ((h 61 1) + 5) 2 := jK 0 f88 (rg_T5_2_0_1 t1) (by first | decide | omega) (by first | decide | omega) (by decide)
        have q1354 : h56 ((h 61 1) + 5) 2 = h35 ((h 61 1) + 5) 2 := jK 0 f58 (rg_T5_2_0_1 t1) (by first | decide | omega) (by first | decide | omega) (by decide)
        have q1355 : h35 ((h 61 1) + 5) 2 = h8 ((h 61 1) + 5) 2 := jK 0 f37 (rg_T5_2_0_1 t1) (by first | decide | omega) (by first | decide | omega) (by decide)
        have e1356 : rv h86 4 = (h8 ((h 61 1) + 5) 2) := (congrArg (fun z => svq h86 z 4) (((q1349.trans q1350).trans q1351).trans q1352)).trans ((q1353.trans q1354).trans q1355)
        have e1357 : rv h 5 = (h ((h 61 1) + 7) 2) := (congrArg (fun z => svq h z 5) rfl).trans rfl
        have q1358 : h86 61 1 = h56 61 1 := f88 61 1 (by decide +kernel)
        have q1359 : h56 61 1 = h35 61 1 := f58 61 1 (by decide +kernel)
        have q1360 : h35 61 1 = h8 61 1 := f37 61 1 (by decide +kernel)
        have q1361 : h8 61 1 = h 61 1 := f10 61 1 (by decide +kernel)
        have q1362 : h86 ((h 61 1) + 7) 2 = h56 ((h 61 1) + 7) 2 := jK 0 f88 (rg_T7_2_0_1 t1) (by first | decide | omega) (by first | decide | omega) (by decide)
        have q1363 : h56 ((h 61 1) + 7) 2 = h35 ((h 61 1) + 7) 2 := jK 0 f58 (rg_T7_2_0_1 t1) (by first | decide | omega) (by first | decide | omega) (by decide)
        have q1364 : h35 ((h 61 1) + 7) 2 = h8 ((h 61 1) + 7) 2 := jK 0 f37 (rg_T7_2_0_1 t1) (by first | decide | omega) (by first | decide | omega) (by decide)
        have e1365 : rv h86 5 = (h8 ((h 61 1) + 7) 2) := (congrArg (fun z => svq h86 z 5) (((q1358.trans q1359).trans q1360).trans q1361)).trans ((q1362.trans q1363).trans q1364)
        have q1366 : h8 1 2 = h 1 2 := jK 0 f10 rg_1_2_0_1 (by first | decide | omega) (by first | decide | omega) (by decide)
        obtain ⟨w1367, e1368⟩ := Tk.no c41 (by first | decide | omega)
        obtain ⟨w1369, e1370⟩ := Tk.yes c62 (by first | decide | omega)
        have m1371 : Ot (h 61 1) h h8 := Ot.trans Ot.refl (c19)
        have m1372 : Ot (h 61 1) h h35 := Ot.fr m1371 f37 (by decide)
        have m1373 : Ot (h 61 1) h h56 := Ot.fr m1372 f58 (by decide)
        have m1374 : Ot (h 61 1) h h86 := Ot.fr m1373 f88 (by decide)
        have q1375 : h8 1 2 = h 1 2 := jK 0 f10 rg_1_2_0_1 (by first | decide | omega) (by first | decide | omega) (by decide)
        obtain ⟨w1376, e1377⟩ := Tk.no c41 (by first | decide | omega)
        obtain ⟨w1378, e1379⟩ := Tk.yes c62 (by first | decide | omega)
        refine x_retI (np := 93) (x := 0) (by decide +kernel) (by decide) (Or.inr ⟨by decide +kernel, by first | decide | omega, by first | decide | omega⟩) ⟨_, rfl, (by decide), ?_⟩
        exact ⟨j87, f94, (by first | decide | omega), (by first | decide | omega), (by first | decide | omega), (by first | decide | omega), (by first | decide | omega), (fun z => by first | decide | omega), (by first | decide | omega), (or9.f w1367 (show h8 1 2 = h 1 2 by first | decide | omega) (show h35 1 2 = h 1 2 by first | decide | omega) (wd9.y w1369 rfl e1370 rfl (nm9.f c93 (by first | decide | omega) (by first | decide | omega) rfl (by first | decide | omega) (by first | decide | omega)))), m1374, (fun _ => (oF.no w1376 (show h8 1 2 = h 1 2 by first | decide | omega) (show h35 1 2 = h 1 2 by first | decide | omega) (wF.y w1378 rfl e1379 rfl (mF.no c93 (by first | decide | omega) (by first | decide | omega) rfl (by first | decide | omega) (show h86 1 2 = h56 1 2 by first | decide | omega)))))⟩
      have q1312 : ¬ (2147483648 = 2147483648) := q1312
      exfalso; omega
    have q67 : ¬ (v52 ≠ 2147483648) := q67
    have b1380 := c61 (by first | decide | omega)
    refine x_const (np := 52) (x := 9223372039002259456) (a := 2147483648) (by decide +kernel) (by decide) (by decide) ?_
    have e1381 : rv h 0 = (h (h 61 1) 7) := (congrArg (fun z => svq h z 0) rfl).trans rfl
    have q1382 : h56 61 1 = h35 61 1 := f58 61 1 (by decide +kernel)
    have q1383 : h35 61 1 = h8 61 1 := f37 61 1 (by decide +kernel)
    have q1384 : h8 61 1 = h 61 1 := f10 61 1 (by decide +kernel)
    have q1385 : h56 (h 61 1) 7 = h35 (h 61 1) 7 := jK 0 f58 (rg_T0_7_0_1 t1) (by first | decide | omega) (by first | decide | omega) (by decide)
    have q1386 : h35 (h 61 1) 7 = h8 (h 61 1) 7 := jK 0 f37 (rg_T0_7_0_1 t1) (by first | decide | omega) (by first | decide | omega) (by decide)
    have e1387 : rv h56 0 = (h8 (h 61 1) 7) := (congrArg (fun z => svq h56 z 0) ((q1382.trans q1383).trans q1384)).trans (q1385.trans q1386)
    have e1388 : rv h 1 = (h (h 61 1) 8) := (congrArg (fun z => svq h z 1) rfl).trans rfl
    have q1389 : h56 61 1 = h35 61 1 := f58 61 1 (by decide +kernel)
    have q1390 : h35 61 1 = h8 61 1 := f37 61 1 (by decide +kernel)
    have q1391 : h8 61 1 = h 61 1 := f10 61 1 (by decide +kernel)
    have q1392 : h56 (h 61 1) 8 = h35 (h 61 1) 8 := jK 0 f58 (rg_T0_8_0_1 t1) (by first | decide | omega) (by first | decide | omega) (by decide)
    have q1393 : h35 (h 61 1) 8 = h8 (h 61 1) 8 := jK 0 f37 (rg_T0_8_0_1 t1) (by first | decide | omega) (by first | decide | omega) (by decide)
    have e1394 : rv h56 1 = (h8 (h 61 1) 8) := (congrArg (fun z => svq h56 z 1) ((q1389.trans q1390).trans q1391)).trans (q1392.trans q1393)
    have e1395 : rv h 2 = (h ((h 61 1) + 1) 2) := (congrArg (fun z => svq h z 2) rfl).trans rfl
    have q1396 : h56 61 1 = h35 61 1 := f58 61 1 (by decide +kernel)
    have q1397 : h35 61 1 = h8 61 1 := f37 61 1 (by decide +kernel)
    have q1398 : h8 61 1 = h 61 1 := f10 61 1 (by decide +kernel)
    have q1399 : h56 ((h 61 1) + 1) 2 = h35 ((h 61 1) + 1) 2 := jK 0 f58 (rg_T1_2_0_1 t1) (by first | decide | omega) (by first | decide | omega) (by decide)
    have q1400 : h35 ((h 61 1) + 1) 2 = h8 ((h 61 1) + 1) 2 := jK 0 f37 (rg_T1_2_0_1 t1) (by first | decide | omega) (by first | decide | omega) (by decide)
    have e1401 : rv h56 2 = (h8 ((h 61 1) + 1) 2) := (congrArg (fun z => svq h56 z 2) ((q1396.trans q1397).trans q1398)).trans (q1399.trans q1400)
    have e1402 : rv h 3 = (h ((h 61 1) + 3) 2) := (congrArg (fun z => svq h z 3) rfl).trans rfl
    have q1403 : h56 61 1 = h35 61 1 := f58 61 1 (by decide +kernel)
    have q1404 : h35 61 1 = h8 61 1 := f37 61 1 (by decide +kernel)
    have q1405 : h8 61 1 = h 61 1 := f10 61 1 (by decide +kernel)
    have q1406 : h56 ((h 61 1) + 3) 2 = h35 ((h 61 1) + 3) 2 := jK 0 f58 (rg_T3_2_0_1 t1) (by first | decide | omega) (by first | decide | omega) (by decide)
    have q1407 : h35 ((h 61 1) + 3) 2 = h8 ((h 61 1) + 3) 2 := jK 0 f37 (rg_T3_2_0_1 t1) (by first | decide | omega) (by first | decide | omega) (by decide)
    have e1408 : rv h56 3 = (h8 ((h 61 1) + 3) 2) := (congrArg (fun z => svq h56 z 3) ((q1403.trans q1404).trans q1405)).trans (q1406.trans q1407)
    have q1409 : h56 61 1 = h35 61 1 := f58 61 1 (by decide +kernel)
    have q1410 : h35 61 1 = h8 61 1 := f37 61 1 (by decide +kernel)
    have q1411 : h8 61 1 = h 61 1 := f10 61 1 (by decide +kernel)
    have q1412 : h56 ((h 61 1) + 5) 2 = h35 ((h 61 1) + 5) 2 := jK 0 f58 (rg_T5_2_0_1 t1) (by first | decide | omega) (by first | decide | omega) (by decide)
    have q1413 : h35 ((h 61 1) + 5) 2 = h8 ((h 61 1) + 5) 2 := jK 0 f37 (rg_T5_2_0_1 t1) (by first | decide | omega) (by first | decide | omega) (by decide)
    have e1414 : rv h56 4 = (h8 ((h 61 1) + 5) 2) := (congrArg (fun z => svq h56 z 4) ((q1409.trans q1410).trans q1411)).trans (q1412.trans q1413)
    have e1415 : rv h 5 = (h ((h 61 1) + 7) 2) := (congrArg (fun z => svq h z 5) rfl).trans rfl
    have q1416 : h56 61 1 = h35 61 1 := f58 61 1 (by decide +kernel)
    have q1417 : h35 61 1 = h8 61 1 := f37 61 1 (by decide +kernel)
    have q1418 : h8 61 1 = h 61 1 := f10 61 1 (by decide +kernel)
    have q1419 : h56 ((h 61 1) + 7) 2 = h35 ((h 61 1) + 7) 2 := jK 0 f58 (rg_T7_2_0_1 t1) (by first | decide | omega) (by first | decide | omega) (by decide)
    have q1420 : h35 ((h 61 1) + 7) 2 = h8 ((h 61 1) + 7) 2 := jK 0 f37 (rg_T7_2_0_1 t1) (by first | decide | omega) (by first | decide | omega) (by decide)
    have e1421 : rv h56 5 = (h8 ((h 61 1) + 7) 2) := (congrArg (fun z => svq h56 z 5) ((q1416.trans q1417).trans q1418)).trans (q1419.trans q1420)
    have q1422 : h8 1 2 = h 1 2 := jK 0 f10 rg_1_2_0_1 (by first | decide | omega) (by first | decide | omega) (by decide)
    obtain ⟨w1423, e1424⟩ := Tk.no c41 (by first | decide | omega)
    obtain ⟨w1425, e1426⟩ := Tk.no c62 (by first | decide | omega)
    have m1427 : Ot (h 61 1) h h8 := Ot.trans Ot.refl (c19)
    have m1428 : Ot (h 61 1) h h35 := Ot.fr m1427 f37 (by decide)
    have m1429 : Ot (h 61 1) h h56 := Ot.fr m1428 f58 (by decide)
    have q1430 : h8 1 2 = h 1 2 := jK 0 f10 rg_1_2_0_1 (by first | decide | omega) (by first | decide | omega) (by decide)
    obtain ⟨w1431, e1432⟩ := Tk.no c41 (by first | decide | omega)
    obtain ⟨w1433, e1434⟩ := Tk.no c62 (by first | decide | omega)
    refine x_retI (np := 53) (x := 0) (by decide +kernel) (by decide) (Or.inr ⟨by decide +kernel, by first | decide | omega, by first | decide | omega⟩) ⟨_, rfl, (by decide), ?_⟩
    exact ⟨j57, f63, (by first | decide | omega), (by first | decide | omega), (by first | decide | omega), (by first | decide | omega), (by first | decide | omega), (fun z => by first | decide | omega), (by first | decide | omega), (or9.f w1423 (show h8 1 2 = h 1 2 by first | decide | omega) (show h35 1 2 = h 1 2 by first | decide | omega) (wd9.f w1425 rfl (by first | decide | omega))), m1429, (fun _ => (oF.no w1431 (show h8 1 2 = h 1 2 by first | decide | omega) (show h35 1 2 = h 1 2 by first | decide | omega) (wF.no w1433 rfl (show h56 1 2 = h35 1 2 by first | decide | omega))))⟩
  have q49 : ¬ (v31 = 2147483648) := q49
  have b1435 := c39 (by first | decide | omega)
  refine x_aload (np := 24) (x := 0) (by decide +kernel) rfl (x_nc_le (by decide)) ?_
  have q1436 : h35 61 1 = h8 61 1 := f37 61 1 (by decide +kernel)
  have q1437 : h8 61 1 = h 61 1 := f10 61 1 (by decide +kernel)
  refine x_getR (np := 27) (x := 577) (f := 1) (q := (h 61 1)) (by decide +kernel) (by decide) (by decide +kernel) (q1436.trans q1437) ?_
  have q1438 : h35 (h 61 1) 2 = ((h 61 1) + 5) := tf_0_2 j36 t1
  refine x_getR (np := 30) (x := 514) (f := 2) (q := ((h 61 1) + 5)) (by decide +kernel) (by decide) (tg_0_514_2_1 t1) q1438 ?_
  refine x_iload (np := 31) (x := 1) (by decide +kernel) rfl l6 ?_
  refine x_const (np := 32) (x := 9223372039002259456) (a := 2147483648) (by decide +kernel) (by decide) (by decide) ?_
  refine x_const (np := 33) (x := 9223372043297226753) (a := 2147483649) (by decide +kernel) (by decide) (by decide) ?_
  refine x_cV (t := 6) (mj := 69) (n := 4) (rc := 7) (ml := 5) (nr := 0) (np := 36) (as := [x_r ((h 61 1) + 5), iv_c v5, iv_c 2147483648, iv_c 2147483649]) (rest := []) (lo1 := [x_r ((h 61 1) + 5), iv_c v5, iv_c 2147483648, iv_c 2147483649, 147573952589676412928]) (by decide +kernel) (by decide) (by decide +kernel) (x_rb_of (tr_5_7 t1)) rfl rfl (x_wr (tn_5 t1) (x_wi l6 (x_wi (by decide) (x_wi (by decide) x_wn)))) x_wn (by decide) rfl (c69_T5_c0 j36 t1 (by first | decide | omega)  (by first | decide | omega)) (fun h1442 q1441 => ?_)
  obtain ⟨j1443, f1444⟩ := q1441
  have f1447 := Fr.trans f42 f1444 (by decide)
  refine x_goto (np := 39) (x := 53) (by decide +kernel) ?_
  refine x_aload (np := 54) (x := 0) (by decide +kernel) rfl (x_nc_le (by decide)) ?_
  refine x_aload (np := 55) (x := 0) (by decide +kernel) rfl (x_nc_le (by decide)) ?_
  have q1448 : h1442 61 1 = h35 61 1 := f1444 61 1 (by decide +kernel)
  have q1449 : h35 61 1 = h8 61 1 := f37 61 1 (by decide +kernel)
  have q1450 : h8 61 1 = h 61 1 := f10 61 1 (by decide +kernel)
  refine x_getR (np := 58) (x := 577) (f := 1) (q := (h 61 1)) (by decide +kernel) (by decide) (by decide +kernel) ((q1448.trans q1449).trans q1450) ?_
  have q1451 : h1442 (h 61 1) 2 = ((h 61 1) + 5) := tf_0_2 j1443 t1
  refine x_getR (np := 61) (x := 514) (f := 2) (q := ((h 61 1) + 5)) (by decide +kernel) (by decide) (tg_0_514_2_1 t1) q1451 ?_
  refine x_iload (np := 62) (x := 1) (by decide +kernel) rfl l6 ?_
  refine x_const (np := 63) (x := 9223372043297226753) (a := 2147483649) (by decide +kernel) (by decide) (by decide) ?_
  refine x_const (np := 64) (x := 9223372039002259456) (a := 2147483648) (by decide +kernel) (by decide) (by decide) ?_
  refine x_aload (np := 65) (x := 0) (by decide +kernel) rfl (x_nc_le (by decide)) ?_
  have q1452 : h1442 61 1 = h35 61 1 := f1444 61 1 (by decide +kernel)
  have q1453 : h35 61 1 = h8 61 1 := f37 61 1 (by decide +kernel)
  have q1454 : h8 61 1 = h 61 1 := f10 61 1 (by decide +kernel)
  refine x_getR (np := 68) (x := 577) (f := 1) (q := (h 61 1)) (by decide +kernel) (by decide) (by decide +kernel) ((q1452.trans q1453).trans q1454) ?_
  have q1455 : h1442 (h 61 1) 7 = h35 (h 61 1) 7 := jK 0 f1444 (rg_T0_7_0_1 t1) (by first | decide | omega) (by first | decide | omega) (by decide)
  have q1456 : h35 (h 61 1) 7 = h8 (h 61 1) 7 := jK 0 f37 (rg_T0_7_0_1 t1) (by first | decide | omega) (by first | decide | omega) (by decide)
  refine x_getC (np := 71) (x := 519) (f := 7) (q := (h8 (h 61 1) 7)) (by decide +kernel) (by decide) (tg_0_519_7_0 t1) (q1455.trans q1456) (fun l1457 => ?_)
  refine x_const (np := 72) (x := 9223372043297226753) (a := 2147483649) (by decide +kernel) (by decide) (by decide) ?_
  obtain ⟨v1458, q1459⟩ : ∃ z, z + 2147483649 = (h8 (h 61 1) 7) + 2147483648 := ⟨(h8 (h 61 1) 7) + 2147483648 - 2147483649, by first | decide | omega⟩
  refine x_isub (np := 73) (x := 0) (v := v1458) (by decide +kernel) l1457 (by decide) (by first | decide | omega) (by first | decide | omega) ?_
  refine x_nI (t := 6) (mj := 102) (n := 6) (rc := 10) (ml := 7) (nr := 0) (np := 76) (as := [x_r 61, x_r ((h 61 1) + 5), iv_c v5, iv_c 2147483649, iv_c 2147483648, iv_c v1458]) (rest := []) (lo1 := [x_r 61, x_r ((h 61 1) + 5), iv_c v5, iv_c 2147483649, iv_c 2147483648, iv_c v1458, 147573952589676412928]) (by decide +kernel) (by decide) (by decide +kernel) (x_rb_of (by decide +kernel)) rfl rfl (x_wr (by decide) (x_wr (tn_5 t1) (x_wi l6 (x_wi (by decide) (x_wi (by decide) (x_wi (by first | decide | omega) x_wn)))))) x_wn (by decide) rfl ?_
  refine x_aload (np := 1) (x := 0) (by decide +kernel) rfl (x_nc_le (by decide)) ?_
  have q1460 : h1442 61 0 = 1 := by have z := jB (e := 0) 0 j1443 rg_61_0_0_1 (by decide) (by decide); omega
  refine x_getR (np := 4) (x := 576) (f := 0) (q := 1) (by decide +kernel) (by decide) (by decide +kernel) q1460 ?_
  refine x_iload (np := 6) (x := 4) (by decide +kernel) rfl (by decide) ?_
  refine x_iload (np := 8) (x := 5) (by decide +kernel) rfl (by first | decide | omega) ?_
  have m1465 := Tp.fr m34 f37 (by decide) (by decide)
  have m1464 := Tp.fr m1465 f1444 (by decide) (by decide)
  refine x_cI (t := 6) (mj := 79) (n := 3) (rc := 8) (ml := 5) (nr := 0) (np := 11) (as := [x_r 1, iv_c 2147483648, iv_c v1458]) (rest := []) (lo1 := [x_r 1, iv_c 2147483648, iv_c v1458, 147573952589676412928, 147573952589676412928]) (by decide +kernel) (by decide) (by decide +kernel) (x_rb_of (by decide +kernel)) rfl rfl (x_wr (by decide) (x_wi (by decide) (x_wi (by first | decide | omega) x_wn))) x_wn (by decide) rfl (c79_1_c0 j1443   (by first | decide | omega) m1464) (fun v1461 h1466 l1462 q1463 => ?_)
  obtain ⟨j1467, f1468, b1469, c1470, c1471, c1472, c1473⟩ := q1463
  have f1474 := Fr.trans f1447 f1468 (by decide)
  have q1475 : h1442 1 2 = h35 1 2 := jK 0 f1444 rg_1_2_0_1 (by first | decide | omega) (by first | decide | omega) (by decide)
  have b1476 := jB (e := 2) 0 j1467 rg_1_2_0_1 (by first | decide | omega) (by first | decide | omega)
  have q1477 : h1442 1 2 = h35 1 2 := jK 0 f1444 rg_1_2_0_1 (by first | decide | omega) (by first | decide | omega) (by decide)
  refine x_istore (np := 13) (x := 6) (lo' := [x_r 61, x_r ((h 61 1) + 5), iv_c v5, iv_c 2147483649, iv_c 2147483648, iv_c v1458, iv_c v1461]) (by decide +kernel) l1462 (Nat.le_of_ble_eq_true rfl) rfl ?_
  refine x_iload (np := 15) (x := 6) (by decide +kernel) rfl l1462 ?_
  refine x_const (np := 16) (x := 9223372034707292159) (a := 2147483647) (by decide +kernel) (by decide) (by decide) ?_
  refine x_icmp (k := 1) (tg := 21) (np := 19) (by decide +kernel) (by decide) l1462 (by decide) (fun q1478 => ?_) (fun q1479 => ?_)
  · have q1478 : v1461 ≠ 2147483647 := q1478
    have b1480 := c1471 (by first | decide | omega)
    refine x_aload (np := 22) (x := 1) (by decide +kernel) rfl (x_nc_le (tn_5 t1)) ?_
    refine x_iload (np := 23) (x := 2) (by decide +kernel) rfl l6 ?_
    refine x_iload (np := 24) (x := 3) (by decide +kernel) rfl (by decide) ?_
    refine x_iload (np := 26) (x := 6) (by decide +kernel) rfl l1462 ?_
    refine x_cV (t := 6) (mj := 69) (n := 4) (rc := 7) (ml := 5) (nr := 0) (np := 29) (as := [x_r ((h 61 1) + 5), iv_c v5, iv_c 2147483649, iv_c v1461]) (rest := []) (lo1 := [x_r ((h 61 1) + 5), iv_c v5, iv_c 2147483649, iv_c v1461, 147573952589676412928]) (by decide +kernel) (by decide) (by decide +kernel) (x_rb_of (tr_5_7 t1)) rfl rfl (x_wr (tn_5 t1) (x_wi l6 (x_wi (by decide) (x_wi l1462 x_wn)))) x_wn (by decide) rfl (c69_T5_c1 j1467 t1 (by first | decide | omega)  (by first | decide | omega)) (fun h1484 q1483 => ?_)
    obtain ⟨j1485, f1486⟩ := q1483
    have f1489 := Fr.trans f1474 f1486 (by decide)
    refine x_const (np := 30) (x := 9223372043297226753) (a := 2147483649) (by decide +kernel) (by decide) (by decide) ?_
    refine x_retI (np := 31) (x := 0) (by decide +kernel) (by decide) (Or.inr ⟨by decide +kernel, by first | decide | omega, by first | decide | omega⟩) ⟨_, rfl, (by decide), ?_⟩
    refine x_ifz (k := 0) (tg := 91) (np := 79) (by decide +kernel) (by decide) (by decide) (fun q1490 => ?_) (fun q1491 => ?_)
    · have q1490 : 2147483649 = 2147483648 := q1490
      exfalso; omega
    have q1491 : ¬ (2147483649 = 2147483648) := q1491
    refine x_aload (np := 80) (x := 0) (by decide +kernel) rfl (x_nc_le (by decide)) ?_
    have q1492 : h1484 61 0 = 1 := by have z := jB (e := 0) 0 j1485 rg_61_0_0_1 (by decide) (by decide); omega
    refine x_getR (np := 83) (x := 576) (f := 0) (q := 1) (by decide +kernel) (by decide) (by decide +kernel) q1492 ?_
    refine x_ldcB (i := 2) (idx := 111) (tx := "day") (by rw [tb_y99]; exact List.mem_of_getElem? (i := 2) rfl) (by decide) (by rw [tb_b99]; decide +kernel) ?_
    have m1497 := Tp.fr m1464 f1468 (by decide) (by decide)
    have m1496 := Tp.fr m1497 f1486 (by decide) (by decide)
    refine x_cI (t := 6) (mj := 78) (n := 2) (rc := 8) (ml := 2) (nr := 0) (np := 88) (as := [x_r 1, x_b (2 + 1)]) (rest := []) (lo1 := [x_r 1, x_b (2 + 1)]) (by decide +kernel) (by decide) (by decide +kernel) (x_rb_of (by decide +kernel)) rfl rfl (x_wr (by decide) (x_wB (by decide) x_wn)) x_wn (by decide) rfl (c78_1_S0 j1485  (by decide) m1496) (fun v1493 h1498 l1494 q1495 => ?_)
    obtain ⟨j1499, f1500, b1501, c1502, c1503, c1504⟩ := q1495
    have f1505 := Fr.trans f1489 f1500 (by decide)
    have q1506 : h1484 1 2 = h1466 1 2 := jK 0 f1486 rg_1_2_0_1 (by first | decide | omega) (by first | decide | omega) (by decide)
    have b1507 := jB (e := 2) 0 j1499 rg_1_2_0_1 (by first | decide | omega) (by first | decide | omega)
    have b1508 : iv_tl 2 = 3 := by decide
    have q1509 : h1484 1 2 = h1466 1 2 := jK 0 f1486 rg_1_2_0_1 (by first | decide | omega) (by first | decide | omega) (by decide)
    refine x_ifz (k := 1) (tg := 93) (np := 91) (by decide +kernel) (by decide) l1494 (fun q1510 => ?_) (fun q1511 => ?_)
    · have q1510 : v1493 ≠ 2147483648 := q1510
      have b1512 := c1502 (by first | decide | omega)
      refine x_aload (np := 94) (x := 0) (by decide +kernel) rfl (x_nc_le (by decide)) ?_
      have q1513 : h1498 61 0 = 1 := by have z := jB (e := 0) 0 j1499 rg_61_0_0_1 (by decide) (by decide); omega
      refine x_getR (np := 97) (x := 576) (f := 0) (q := 1) (by decide +kernel) (by decide) (by decide +kernel) q1513 ?_
      refine x_const (np := 98) (x := 9223372039002259456) (a := 2147483648) (by decide +kernel) (by decide) (by decide) ?_
      refine x_const (np := 100) (x := 9223372086246899723) (a := 2147483659) (by decide +kernel) (by decide) (by decide) ?_
      have m1517 := Tp.fr m1496 f1500 (by decide) (by decide)
      refine x_cI (t := 6) (mj := 79) (n := 3) (rc := 8) (ml := 5) (nr := 0) (np := 103) (as := [x_r 1, iv_c 2147483648, iv_c 2147483659]) (rest := []) (lo1 := [x_r 1, iv_c 2147483648, iv_c 2147483659, 147573952589676412928, 147573952589676412928]) (by decide +kernel) (by decide) (by decide +kernel) (x_rb_of (by decide +kernel)) rfl rfl (x_wr (by decide) (x_wi (by decide) (x_wi (by decide) x_wn))) x_wn (by decide) rfl (c79_1_c0 j1499   (by first | decide | omega) m1517) (fun v1514 h1518 l1515 q1516 => ?_)
      obtain ⟨j1519, f1520, b1521, c1522, c1523, c1524, c1525⟩ := q1516
      have f1526 := Fr.trans f1505 f1520 (by decide)
      have b1527 := jB (e := 2) 0 j1519 rg_1_2_0_1 (by first | decide | omega) (by first | decide | omega)
      refine x_istore (np := 104) (x := 2) (lo' := [x_r 61, iv_c v5, iv_c v1514]) (by decide +kernel) l1515 (Nat.le_of_ble_eq_true rfl) rfl ?_
      refine x_iload (np := 105) (x := 2) (by decide +kernel) rfl l1515 ?_
      refine x_const (np := 106) (x := 9223372034707292159) (a := 2147483647) (by decide +kernel) (by decide) (by decide) ?_
      refine x_icmp (k := 0) (tg := 176) (np := 109) (by decide +kernel) (by decide) l1515 (by decide) (fun q1528 => ?_) (fun q1529 => ?_)
      · have q1528 : v1514 = 2147483647 := q1528
        have b1530 := c1524 (by first | decide | omega)
        refine x_const (np := 177) (x := 9223372039002259456) (a := 2147483648) (by decide +kernel) (by decide) (by decide) ?_
        have e1531 : rv h 0 = (h (h 61 1) 7) := (congrArg (fun z => svq h z 0) rfl).trans rfl
        have q1532 : h1518 61 1 = h1498 61 1 := f1520 61 1 (by decide +kernel)
        have q1533 : h1498 61 1 = h1484 61 1 := f1500 61 1 (by decide +kernel)
        have q1534 : h1484 61 1 = h1466 61 1 := f1486 61 1 (by decide +kernel)
        have q1535 : h1466 61 1 = h1442 61 1 := f1468 61 1 (by decide +kernel)
        have q1536 : h1442 61 1 = h35 61 1 := f1444 61 1 (by decide +kernel)
        have q1537 : h35 61 1 = h8 61 1 := f37 61 1 (by decide +kernel)
        have q1538 : h8 61 1 = h 61 1 := f10 61 1 (by decide +kernel)
        have q1539 : h1518 (h 61 1) 7 = h1498 (h 61 1) 7 := jK 0 f1520 (rg_T0_7_0_1 t1) (by first | decide | omega) (by first | decide | omega) (by decide)
        have q1540 : h1498 (h 61 1) 7 = h1484 (h 61 1) 7 := jK 0 f1500 (rg_T0_7_0_1 t1) (by first | decide | omega) (by first | decide | omega) (by decide)
        have q1541 : h1484 (h 61 1) 7 = h1466 (h 61 1) 7 := jK 0 f1486 (rg_T0_7_0_1 t1) (by first | decide | omega) (by first | decide | omega) (by decide)
        have q1542 : h1466 (h 61 1) 7 = h1442 (h 61 1) 7 := jK 0 f1468 (rg_T0_7_0_1 t1) (by first | decide | omega) (by first | decide | omega) (by decide)
        have q1543 : h1442 (h 61 1) 7 = h35 (h 61 1) 7 := jK 0 f1444 (rg_T0_7_0_1 t1) (by first | decide | omega) (by first | decide | omega) (by decide)
        have q1544 : h35 (h 61 1) 7 = h8 (h 61 1) 7 := jK 0 f37 (rg_T0_7_0_1 t1) (by first | decide | omega) (by first | decide | omega) (by decide)
        have e1545 : rv h1518 0 = (h8 (h 61 1) 7) := (congrArg (fun z => svq h1518 z 0) ((((((q1532.trans q1533).trans q1534).trans q1535).trans q1536).trans q1537).trans q1538)).trans (((((q1539.trans q1540).trans q1541).trans q1542).trans q1543).trans q1544)
        have e1546 : rv h 1 = (h (h 61 1) 8) := (congrArg (fun z => svq h z 1) rfl).trans rfl
        have q1547 : h1518 61 1 = h1498 61 1 := f1520 61 1 (by decide +kernel)
        have q1548 : h1498 61 1 = h1484 61 1 := f1500 61 1 (by decide +kernel)
        have q1549 : h1484 61 1 = h1466 61 1 := f1486 61 1 (by decide +kernel)
        have q1550 : h1466 61 1 = h1442 61 1 := f1468 61 1 (by decide +kernel)
        have q1551 : h1442 61 1 = h35 61 1 := f1444 61 1 (by decide +kernel)
        have q1552 : h35 61 1 = h8 61 1 := f37 61 1 (by decide +kernel)
        have q1553 : h8 61 1 = h 61 1 := f10 61 1 (by decide +kernel)
        have q1554 : h1518 (h 61 1) 8 = h1498 (h 61 1) 8 := jK 0 f1520 (rg_T0_8_0_1 t1) (by first | decide | omega) (by first | decide | omega) (by decide)
        have q1555 : h1498 (h 61 1) 8 = h1484 (h 61 1) 8 := jK 0 f1500 (rg_T0_8_0_1 t1) (by first | decide | omega) (by first | decide | omega) (by decide)
        have q1556 : h1484 (h 61 1) 8 = h1466 (h 61 1) 8 := jK 0 f1486 (rg_T0_8_0_1 t1) (by first | decide | omega) (by first | decide | omega) (by decide)
        have q1557 : h1466 (h 61 1) 8 = h1442 (h 61 1) 8 := jK 0 f1468 (rg_T0_8_0_1 t1) (by first | decide | omega) (by first | decide | omega) (by decide)
        have q1558 : h1442 (h 61 1) 8 = h35 (h 61 1) 8 := jK 0 f1444 (rg_T0_8_0_1 t1) (by first | decide | omega) (by first | decide | omega) (by decide)
        have q1559 : h35 (h 61 1) 8 = h8 (h 61 1) 8 := jK 0 f37 (rg_T0_8_0_1 t1) (by first | decide | omega) (by first | decide | omega) (by decide)
        have e1560 : rv h1518 1 = (h8 (h 61 1) 8) := (congrArg (fun z => svq h1518 z 1) ((((((q1547.trans q1548).trans q1549).trans q1550).trans q1551).trans q1552).trans q1553)).trans (((((q1554.trans q1555).trans q1556).trans q1557).trans q1558).trans q1559)
        have e1561 : rv h 2 = (h ((h 61 1) + 1) 2) := (congrArg (fun z => svq h z 2) rfl).trans rfl
        have q1562 : h1518 61 1 = h1498 61 1 := f1520 61 1 (by decide +kernel)
        have q1563 : h1498 61 1 = h1484 61 1 := f1500 61 1 (by decide +kernel)
        have q1564 : h1484 61 1 = h1466 61 1 := f1486 61 1 (by decide +kernel)
        have q1565 : h1466 61 1 = h1442 61 1 := f1468 61 1 (by decide +kernel)
        have q1566 : h1442 61 1 = h35 61 1 := f1444 61 1 (by decide +kernel)
        have q1567 : h35 61 1 = h8 61 1 := f37 61 1 (by decide +kernel)
        have q1568 : h8 61 1 = h 61 1 := f10 61 1 (by decide +kernel)
        have q1569 : h1518 ((h 61 1) + 1) 2 = h1498 ((h 61 1) + 1) 2 := jK 0 f1520 (rg_T1_2_0_1 t1) (by first | decide | omega) (by first | decide | omega) (by decide)
        have q1570 : h1498 ((h 61 1) + 1) 2 = h1484 ((h 61 1) + 1) 2 := jK 0 f1500 (rg_T1_2_0_1 t1) (by first | decide | omega) (by first | decide | omega) (by decide)
        have q1571 : h1484 ((h 61 1) + 1) 2 = h1466 ((h 61 1) + 1) 2 := jK 0 f1486 (rg_T1_2_0_1 t1) (by first | decide | omega) (by first | decide | omega) (by decide)
        have q1572 : h1466 ((h 61 1) + 1) 2 = h1442 ((h 61 1) + 1) 2 := jK 0 f1468 (rg_T1_2_0_1 t1) (by first | decide | omega) (by first | decide | omega) (by decide)
        have q1573 : h1442 ((h 61 1) + 1) 2 = h35 ((h 61 1) + 1) 2 := jK 0 f1444 (rg_T1_2_0_1 t1) (by first | decide | omega) (by first | decide | omega) (by decide)
        have q1574 : h35 ((h 61 1) + 1) 2 = h8 ((h 61 1) + 1) 2 := jK 0 f37 (rg_T1_2_0_1 t1) (by first | decide | omega) (by first | decide | omega) (by decide)
        have e1575 : rv h1518 2 = (h8 ((h 61 1) + 1) 2) := (congrArg (fun z => svq h1518 z 2) ((((((q1562.trans q1563).trans q1564).trans q1565).trans q1566).trans q1567).trans q1568)).trans (((((q1569.trans q1570).trans q1571).trans q1572).trans q1573).trans q1574)
        have e1576 : rv h 3 = (h ((h 61 1) + 3) 2) := (congrArg (fun z => svq h z 3) rfl).trans rfl
        have q1577 : h1518 61 1 = h1498 61 1 := f1520 61 1 (by decide +kernel)
        have q1578 : h1498 61 1 = h1484 61 1 := f1500 61 1 (by decide +kernel)
        have q1579 : h1484 61 1 = h1466 61 1 := f1486 61 1 (by decide +kernel)
        have q1580 : h1466 61 1 = h1442 61 1 := f1468 61 1 (by decide +kernel)
        have q1581 : h1442 61 1 = h35 61 1 := f1444 61 1 (by decide +kernel)
        have q1582 : h35 61 1 = h8 61 1 := f37 61 1 (by decide +kernel)
        have q1583 : h8 61 1 = h 61 1 := f10 61 1 (by decide +kernel)
        have q1584 : h1518 ((h 61 1) + 3) 2 = h1498 ((h 61 1) + 3) 2 := jK 0 f1520 (rg_T3_2_0_1 t1) (by first | decide | omega) (by first | decide | omega) (by decide)
        have q1585 : h1498 ((h 61 1) + 3) 2 = h1484 ((h 61 1) + 3) 2 := jK 0 f1500 (rg_T3_2_0_1 t1) (by first | decide | omega) (by first | decide | omega) (by decide)
        have q1586 : h1484 ((h 61 1) + 3) 2 = h1466 ((h 61 1) + 3) 2 := jK 0 f1486 (rg_T3_2_0_1 t1) (by first | decide | omega) (by first | decide | omega) (by decide)
        have q1587 : h1466 ((h 61 1) + 3) 2 = h1442 ((h 61 1) + 3) 2 := jK 0 f1468 (rg_T3_2_0_1 t1) (by first | decide | omega) (by first | decide | omega) (by decide)
        have q1588 : h1442 ((h 61 1) + 3) 2 = h35 ((h 61 1) + 3) 2 := jK 0 f1444 (rg_T3_2_0_1 t1) (by first | decide | omega) (by first | decide | omega) (by decide)
        have q1589 : h35 ((h 61 1) + 3) 2 = h8 ((h 61 1) + 3) 2 := jK 0 f37 (rg_T3_2_0_1 t1) (by first | decide | omega) (by first | decide | omega) (by decide)
        have e1590 : rv h1518 3 = (h8 ((h 61 1) + 3) 2) := (congrArg (fun z => svq h1518 z 3) ((((((q1577.trans q1578).trans q1579).trans q1580).trans q1581).trans q1582).trans q1583)).trans (((((q1584.trans q1585).trans q1586).trans q1587).trans q1588).trans q1589)
        have q1591 : h1518 61 1 = h1498 61 1 := f1520 61 1 (by decide +kernel)
        have q1592 : h1498 61 1 = h1484 61 1 := f1500 61 1 (by decide +kernel)
        have q1593 : h1484 61 1 = h1466 61 1 := f1486 61 1 (by decide +kernel)
        have q1594 : h1466 61 1 = h1442 61 1 := f1468 61 1 (by decide +kernel)
        have q1595 : h1442 61 1 = h35 61 1 := f1444 61 1 (by decide +kernel)
        have q1596 : h35 61 1 = h8 61 1 := f37 61 1 (by decide +kernel)
        have q1597 : h8 61 1 = h 61 1 := f10 61 1 (by decide +kernel)
        have q1598 : h1518 ((h 61 1) + 5) 2 = h1498 ((h 61 1) + 5) 2 := jK 0 f1520 (rg_T5_2_0_1 t1) (by first | decide | omega) (by first | decide | omega) (by decide)
        have q1599 : h1498 ((h 61 1) + 5) 2 = h1484 ((h 61 1) + 5) 2 := jK 0 f1500 (rg_T5_2_0_1 t1) (by first | decide | omega) (by first | decide | omega) (by decide)
        have q1600 : h1484 ((h 61 1) + 5) 2 = h1466 ((h 61 1) + 5) 2 := jK 0 f1486 (rg_T5_2_0_1 t1) (by first | decide | omega) (by first | decide | omega) (by decide)
        have q1601 : h1466 ((h 61 1) + 5) 2 = h1442 ((h 61 1) + 5) 2 := jK 0 f1468 (rg_T5_2_0_1 t1) (by first | decide | omega) (by first | decide | omega) (by decide)
        have q1602 : h1442 ((h 61 1) + 5) 2 = h35 ((h 61 1) + 5) 2 := jK 0 f1444 (rg_T5_2_0_1 t1) (by first | decide | omega) (by first | decide | omega) (by decide)
        have q1603 : h35 ((h 61 1) + 5) 2 = h8 ((h 61 1) + 5) 2 := jK 0 f37 (rg_T5_2_0_1 t1) (by first | decide | omega) (by first | decide | omega) (by decide)
        have e1604 : rv h1518 4 = (h8 ((h 61 1) + 5) 2) := (congrArg (fun z => svq h1518 z 4) ((((((q1591.trans q1592).trans q1593).trans q1594).trans q1595).trans q1596).trans q1597)).trans (((((q1598.trans q1599).trans q1600).trans q1601).trans q1602).trans q1603)
        have e1605 : rv h 5 = (h ((h 61 1) + 7) 2) := (congrArg (fun z => svq h z 5) rfl).trans rfl
        have q1606 : h1518 61 1 = h1498 61 1 := f1520 61 1 (by decide +kernel)
        have q1607 : h1498 61 1 = h1484 61 1 := f1500 61 1 (by decide +kernel)
        have q1608 : h1484 61 1 = h1466 61 1 := f1486 61 1 (by decide +kernel)
        have q1609 : h1466 61 1 = h1442 61 1 := f1468 61 1 (by decide +kernel)
        have q1610 : h1442 61 1 = h35 61 1 := f1444 61 1 (by decide +kernel)
        have q1611 : h35 61 1 = h8 61 1 := f37 61 1 (by decide +kernel)
        have q1612 : h8 61 1 = h 61 1 := f10 61 1 (by decide +kernel)
        have q1613 : h1518 ((h 61 1) + 7) 2 = h1498 ((h 61 1) + 7) 2 := jK 0 f1520 (rg_T7_2_0_1 t1) (by first | decide | omega) (by first | decide | omega) (by decide)
        have q1614 : h1498 ((h 61 1) + 7) 2 = h1484 ((h 61 1) + 7) 2 := jK 0 f1500 (rg_T7_2_0_1 t1) (by first | decide | omega) (by first | decide | omega) (by decide)
        have q1615 : h1484 ((h 61 1) + 7) 2 = h1466 ((h 61 1) + 7) 2 := jK 0 f1486 (rg_T7_2_0_1 t1) (by first | decide | omega) (by first | decide | omega) (by decide)
        have q1616 : h1466 ((h 61 1) + 7) 2 = h1442 ((h 61 1) + 7) 2 := jK 0 f1468 (rg_T7_2_0_1 t1) (by first | decide | omega) (by first | decide | omega) (by decide)
        have q1617 : h1442 ((h 61 1) + 7) 2 = h35 ((h 61 1) + 7) 2 := jK 0 f1444 (rg_T7_2_0_1 t1) (by first | decide | omega) (by first | decide | omega) (by decide)
        have q1618 : h35 ((h 61 1) + 7) 2 = h8 ((h 61 1) + 7) 2 := jK 0 f37 (rg_T7_2_0_1 t1) (by first | decide | omega) (by first | decide | omega) (by decide)
        have e1619 : rv h1518 5 = (h8 ((h 61 1) + 7) 2) := (congrArg (fun z => svq h1518 z 5) ((((((q1606.trans q1607).trans q1608).trans q1609).trans q1610).trans q1611).trans q1612)).trans (((((q1613.trans q1614).trans q1615).trans q1616).trans q1617).trans q1618)
        have q1620 : h8 1 2 = h 1 2 := jK 0 f10 rg_1_2_0_1 (by first | decide | omega) (by first | decide | omega) (by decide)
        obtain ⟨w1621, e1622⟩ := Tk.yes c41 (by first | decide | omega)
        have q1623 : h1442 1 2 = h35 1 2 := jK 0 f1444 rg_1_2_0_1 (by first | decide | omega) (by first | decide | omega) (by decide)
        have q1624 : h1484 1 2 = h1466 1 2 := jK 0 f1486 rg_1_2_0_1 (by first | decide | omega) (by first | decide | omega) (by decide)
        obtain ⟨w1625, e1626⟩ := Tk.yes c1504 (by first | decide | omega)
        have m1627 : Ot (h 61 1) h h8 := Ot.trans Ot.refl (c19)
        have m1628 : Ot (h 61 1) h h35 := Ot.fr m1627 f37 (by decide)
        have m1629 : Ot (h 61 1) h h1442 := Ot.fr m1628 f1444 (by decide)
        have m1630 : Ot (h 61 1) h h1466 := Ot.fr m1629 f1468 (by decide)
        have m1631 : Ot (h 61 1) h h1484 := Ot.fr m1630 f1486 (by decide)
        have m1632 : Ot (h 61 1) h h1498 := Ot.fr m1631 f1500 (by decide)
        have m1633 : Ot (h 61 1) h h1518 := Ot.fr m1632 f1520 (by decide)
        have q1634 : h8 1 2 = h 1 2 := jK 0 f10 rg_1_2_0_1 (by first | decide | omega) (by first | decide | omega) (by decide)
        obtain ⟨w1635, e1636⟩ := Tk.yes c41 (by first | decide | omega)
        have q1637 : h1442 1 2 = h35 1 2 := jK 0 f1444 rg_1_2_0_1 (by first | decide | omega) (by first | decide | omega) (by decide)
        have q1638 : h1484 1 2 = h1466 1 2 := jK 0 f1486 rg_1_2_0_1 (by first | decide | omega) (by first | decide | omega) (by decide)
        obtain ⟨w1639, e1640⟩ := Tk.yes c1504 (by first | decide | omega)
        refine x_retI (np := 178) (x := 0) (by decide +kernel) (by decide) (Or.inr ⟨by decide +kernel, by first | decide | omega, by first | decide | omega⟩) ⟨_, rfl, (by decide), ?_⟩
        exact ⟨j1519, f1526, (by first | decide | omega), (by first | decide | omega), (by first | decide | omega), (by first | decide | omega), (by first | decide | omega), (fun z => by first | decide | omega), (by first | decide | omega), (or9.y w1621 (show h8 1 2 = h 1 2 by first | decide | omega) e1622 rfl (nm9.y c1473 (by first | decide | omega) (by first | decide | omega) (show h1442 1 2 = h35 1 2 by first | decide | omega) (by first | decide | omega) rfl (wd9.y w1625 (show h1484 1 2 = h1466 1 2 by first | decide | omega) e1626 rfl (nm9.f c1525 (by first | decide | omega) (by first | decide | omega) rfl (by first | decide | omega) (by first | decide | omega))))), m1633, (fun _ => (oF.y w1635 (show h8 1 2 = h 1 2 by first | decide | omega) e1636 rfl (mF.y c1473 (by first | decide | omega) (by first | decide | omega) (show h1442 1 2 = h35 1 2 by first | decide | omega) (by first | decide | omega) rfl (wF.y w1639 (show h1484 1 2 = h1466 1 2 by first | decide | omega) e1640 rfl (mF.no c1525 (by first | decide | omega) (by first | decide | omega) rfl (by first | decide | omega) (show h1518 1 2 = h1498 1 2 by first | decide | omega))))))⟩
      have q1529 : ¬ (v1514 = 2147483647) := q1529
      have b1641 := c1523 (by first | decide | omega)
      refine x_aload (np := 110) (x := 0) (by decide +kernel) rfl (x_nc_le (by decide)) ?_
      have q1642 : h1518 61 0 = 1 := by have z := jB (e := 0) 0 j1519 rg_61_0_0_1 (by decide) (by decide); omega
      refine x_getR (np := 113) (x := 576) (f := 0) (q := 1) (by decide +kernel) (by decide) (by decide +kernel) q1642 ?_
      refine x_ldcB (i := 11) (idx := 153) (tx := "judged") (by rw [tb_y99]; exact List.mem_of_getElem? (i := 11) rfl) (by decide) (by rw [tb_b99]; decide +kernel) ?_
      have m1646 := Tp.fr m1517 f1520 (by decide) (by decide)
      refine x_cI (t := 6) (mj := 78) (n := 2) (rc := 8) (ml := 2) (nr := 0) (np := 118) (as := [x_r 1, x_b (11 + 1)]) (rest := []) (lo1 := [x_r 1, x_b (11 + 1)]) (by decide +kernel) (by decide) (by decide +kernel) (x_rb_of (by decide +kernel)) rfl rfl (x_wr (by decide) (x_wB (by decide) x_wn)) x_wn (by decide) rfl (c78_1_S0 j1519  (by decide) m1646) (fun v1643 h1647 l1644 q1645 => ?_)
      obtain ⟨j1648, f1649, b1650, c1651, c1652, c1653⟩ := q1645
      have f1654 := Fr.trans f1526 f1649 (by decide)
      have b1655 := jB (e := 2) 0 j1648 rg_1_2_0_1 (by first | decide | omega) (by first | decide | omega)
      have b1656 : iv_tl 11 = 6 := by decide
      refine x_ifz (k := 0) (tg := 176) (np := 121) (by decide +kernel) (by decide) l1644 (fun q1657 => ?_) (fun q1658 => ?_)
      · have q1657 : v1643 = 2147483648 := q1657
        have b1659 := c1652 (by first | decide | omega)
        refine x_const (np := 177) (x := 9223372039002259456) (a := 2147483648) (by decide +kernel) (by decide) (by decide) ?_
        have e1660 : rv h 0 = (h (h 61 1) 7) := (congrArg (fun z => svq h z 0) rfl).trans rfl
        have q1661 : h1647 61 1 = h1518 61 1 := f1649 61 1 (by decide +kernel)
        have q1662 : h1518 61 1 = h1498 61 1 := f1520 61 1 (by decide +kernel)
        have q1663 : h1498 61 1 = h1484 61 1 := f1500 61 1 (by decide +kernel)
        have q1664 : h1484 61 1 = h1466 61 1 := f1486 61 1 (by decide +kernel)
        have q1665 : h1466 61 1 = h1442 61 1 := f1468 61 1 (by decide +kernel)
        have q1666 : h1442 61 1 = h35 61 1 := f1444 61 1 (by decide +kernel)
        have q1667 : h35 61 1 = h8 61 1 := f37 61 1 (by decide +kernel)
        have q1668 : h8 61 1 = h 61 1 := f10 61 1 (by decide +kernel)
        have q1669 : h1647 (h 61 1) 7 = h1518 (h 61 1) 7 := jK 0 f1649 (rg_T0_7_0_1 t1) (by first | decide | omega) (by first | decide | omega) (by decide)
        have q1670 : h1518 (h 61 1) 7 = h1498 (h 61 1) 7 := jK 0 f1520 (rg_T0_7_0_1 t1) (by first | decide | omega) (by first | decide | omega) (by decide)
        have q1671 : h1498 (h 61 1) 7 = h1484 (h 61 1) 7 := jK 0 f1500 (rg_T0_7_0_1 t1) (by first | decide | omega) (by first | decide | omega) (by decide)
        have q1672 : h1484 (h 61 1) 7 = h1466 (h 61 1) 7 := jK 0 f1486 (rg_T0_7_0_1 t1) (by first | decide | omega) (by first | decide | omega) (by decide)
        have q1673 : h1466 (h 61 1) 7 = h1442 (h 61 1) 7 := jK 0 f1468 (rg_T0_7_0_1 t1) (by first | decide | omega) (by first | decide | omega) (by decide)
        have q1674 : h1442 (h 61 1) 7 = h35 (h 61 1) 7 := jK 0 f1444 (rg_T0_7_0_1 t1) (by first | decide | omega) (by first | decide | omega) (by decide)
        have q1675 : h35 (h 61 1) 7 = h8 (h 61 1) 7 := jK 0 f37 (rg_T0_7_0_1 t1) (by first | decide | omega) (by first | decide | omega) (by decide)
        have e1676 : rv h1647 0 = (h8 (h 61 1) 7) := (congrArg (fun z => svq h1647 z 0) (((((((q1661.trans q1662).trans q1663).trans q1664).trans q1665).trans q1666).trans q1667).trans q1668)).trans ((((((q1669.trans q1670).trans q1671).trans q1672).trans q1673).trans q1674).trans q1675)
        have e1677 : rv h 1 = (h (h 61 1) 8) := (congrArg (fun z => svq h z 1) rfl).trans rfl
        have q1678 : h1647 61 1 = h1518 61 1 := f1649 61 1 (by decide +kernel)
        have q1679 : h1518 61 1 = h1498 61 1 := f1520 61 1 (by decide +kernel)
        have q1680 : h1498 61 1 = h1484 61 1 := f1500 61 1 (by decide +kernel)
        have q1681 : h1484 61 1 = h1466 61 1 := f1486 61 1 (by decide +kernel)
        have q1682 : h1466 61 1 = h1442 61 1 := f1468 61 1 (by decide +kernel)
        have q1683 : h1442 61 1 = h35 61 1 := f1444 61 1 (by decide +kernel)
        have q1684 : h35 61 1 = h8 61 1 := f37 61 1 (by decide +kernel)
        have q1685 : h8 61 1 = h 61 1 := f10 61 1 (by decide +kernel)
        have q1686 : h1647 (h 61 1) 8 = h1518 (h 61 1) 8 := jK 0 f1649 (rg_T0_8_0_1 t1) (by first | decide | omega) (by first | decide | omega) (by decide)
        have q1687 : h1518 (h 61 1) 8 = h1498 (h 61 1) 8 := jK 0 f1520 (rg_T0_8_0_1 t1) (by first | decide | omega) (by first | decide | omega) (by decide)
        have q1688 : h1498 (h 61 1) 8 = h1484 (h 61 1) 8 := jK 0 f1500 (rg_T0_8_0_1 t1) (by first | decide | omega) (by first | decide | omega) (by decide)
        have q1689 : h1484 (h 61 1) 8 = h1466 (h 61 1) 8 := jK 0 f1486 (rg_T0_8_0_1 t1) (by first | decide | omega) (by first | decide | omega) (by decide)
        have q1690 : h1466 (h 61 1) 8 = h1442 (h 61 1) 8 := jK 0 f1468 (rg_T0_8_0_1 t1) (by first | decide | omega) (by first | decide | omega) (by decide)
        have q1691 : h1442 (h 61 1) 8 = h35 (h 61 1) 8 := jK 0 f1444 (rg_T0_8_0_1 t1) (by first | decide | omega) (by first | decide | omega) (by decide)
        have q1692 : h35 (h 61 1) 8 = h8 (h 61 1) 8 := jK 0 f37 (rg_T0_8_0_1 t1) (by first | decide | omega) (by first | decide | omega) (by decide)
        have e1693 : rv h1647 1 = (h8 (h 61 1) 8) := (congrArg (fun z => svq h1647 z 1) (((((((q1678.trans q1679).trans q1680).trans q1681).trans q1682).trans q1683).trans q1684).trans q1685)).trans ((((((q1686.trans q1687).trans q1688).trans q1689).trans q1690).trans q1691).trans q1692)
        have e1694 : rv h 2 = (h ((h 61 1) + 1) 2) := (congrArg (fun z => svq h z 2) rfl).trans rfl
        have q1695 : h1647 61 1 = h1518 61 1 := f1649 61 1 (by decide +kernel)
        have q1696 : h1518 61 1 = h1498 61 1 := f1520 61 1 (by decide +kernel)
        have q1697 : h1498 61 1 = h1484 61 1 := f1500 61 1 (by decide +kernel)
        have q1698 : h1484 61 1 = h1466 61 1 := f1486 61 1 (by decide +kernel)
        have q1699 : h1466 61 1 = h1442 61 1 := f1468 61 1 (by decide +kernel)
        have q1700 : h1442 61 1 = h35 61 1 := f1444 61 1 (by decide +kernel)
        have q1701 : h35 61 1 = h8 61 1 := f37 61 1 (by decide +kernel)
        have q1702 : h8 61 1 = h 61 1 := f10 61 1 (by decide +kernel)
        have q1703 : h1647 ((h 61 1) + 1) 2 = h1518 ((h 61 1) + 1) 2 := jK 0 f1649 (rg_T1_2_0_1 t1) (by first | decide | omega) (by first | decide | omega) (by decide)
        have q1704 : h1518 ((h 61 1) + 1) 2 = h1498 ((h 61 1) + 1) 2 := jK 0 f1520 (rg_T1_2_0_1 t1) (by first | decide | omega) (by first | decide | omega) (by decide)
        have q1705 : h1498 ((h 61 1) + 1) 2 = h1484 ((h 61 1) + 1) 2 := jK 0 f1500 (rg_T1_2_0_1 t1) (by first | decide | omega) (by first | decide | omega) (by decide)
        have q1706 : h1484 ((h 61 1) + 1) 2 = h1466 ((h 61 1) + 1) 2 := jK 0 f1486 (rg_T1_2_0_1 t1) (by first | decide | omega) (by first | decide | omega) (by decide)
        have q1707 : h1466 ((h 61 1) + 1) 2 = h1442 ((h 61 1) + 1) 2 := jK 0 f1468 (rg_T1_2_0_1 t1) (by first | decide | omega) (by first | decide | omega) (by decide)
        have q1708 : h1442 ((h 61 1) + 1) 2 = h35 ((h 61 1) + 1) 2 := jK 0 f1444 (rg_T1_2_0_1 t1) (by first | decide | omega) (by first | decide | omega) (by decide)
        have q1709 : h35 ((h 61 1) + 1) 2 = h8 ((h 61 1) + 1) 2 := jK 0 f37 (rg_T1_2_0_1 t1) (by first | decide | omega) (by first | decide | omega) (by decide)
        have e1710 : rv h1647 2 = (h8 ((h 61 1) + 1) 2) := (congrArg (fun z => svq h1647 z 2) (((((((q1695.trans q1696).trans q1697).trans q1698).trans q1699).trans q1700).trans q1701).trans q1702)).trans ((((((q1703.trans q1704).trans q1705).trans q1706).trans q1707).trans q1708).trans q1709)
        have e1711 : rv h 3 = (h ((h 61 1) + 3) 2) := (congrArg (fun z => svq h z 3) rfl).trans rfl
        have q1712 : h1647 61 1 = h1518 61 1 := f1649 61 1 (by decide +kernel)
        have q1713 : h1518 61 1 = h1498 61 1 := f1520 61 1 (by decide +kernel)
        have q1714 : h1498 61 1 = h1484 61 1 := f1500 61 1 (by decide +kernel)
        have q1715 : h1484 61 1 = h1466 61 1 := f1486 61 1 (by decide +kernel)
        have q1716 : h1466 61 1 = h1442 61 1 := f1468 61 1 (by decide +kernel)
        have q1717 : h1442 61 1 = h35 61 1 := f1444 61 1 (by decide +kernel)
        have q1718 : h35 61 1 = h8 61 1 := f37 61 1 (by decide +kernel)
        have q1719 : h8 61 1 = h 61 1 := f10 61 1 (by decide +kernel)
        have q1720 : h1647 ((h 61 1) + 3) 2 = h1518 ((h 61 1) + 3) 2 := jK 0 f1649 (rg_T3_2_0_1 t1) (by first | decide | omega) (by first | decide | omega) (by decide)
        have q1721 : h1518 ((h 61 1) + 3) 2 = h1498 ((h 61 1) + 3) 2 := jK 0 f1520 (rg_T3_2_0_1 t1) (by first | decide | omega) (by first | decide | omega) (by decide)
        have q1722 : h1498 ((h 61 1) + 3) 2 = h1484 ((h 61 1) + 3) 2 := jK 0 f1500 (rg_T3_2_0_1 t1) (by first | decide | omega) (by first | decide | omega) (by decide)
        have q1723 : h1484 ((h 61 1) + 3) 2 = h1466 ((h 61 1) + 3) 2 := jK 0 f1486 (rg_T3_2_0_1 t1) (by first | decide | omega) (by first | decide | omega) (by decide)
        have q1724 : h1466 ((h 61 1) + 3) 2 = h1442 ((h 61 1) + 3) 2 := jK 0 f1468 (rg_T3_2_0_1 t1) (by first | decide | omega) (by first | decide | omega) (by decide)
        have q1725 : h1442 ((h 61 1) + 3) 2 = h35 ((h 61 1) + 3) 2 := jK 0 f1444 (rg_T3_2_0_1 t1) (by first | decide | omega) (by first | decide | omega) (by decide)
        have q1726 : h35 ((h 61 1) + 3) 2 = h8 ((h 61 1) + 3) 2 := jK 0 f37 (rg_T3_2_0_1 t1) (by first | decide | omega) (by first | decide | omega) (by decide)
        have e1727 : rv h1647 3 = (h8 ((h 61 1) + 3) 2) := (congrArg (fun z => svq h1647 z 3) (((((((q1712.trans q1713).trans q1714).trans q1715).trans q1716).trans q1717).trans q1718).trans q1719)).trans ((((((q1720.trans q1721).trans q1722).trans q1723).trans q1724).trans q1725).trans q1726)
        have q1728 : h1647 61 1 = h1518 61 1 := f1649 61 1 (by decide +kernel)
        have q1729 : h1518 61 1 = h1498 61 1 := f1520 61 1 (by decide +kernel)
        have q1730 : h1498 61 1 = h1484 61 1 := f1500 61 1 (by decide +kernel)
        have q1731 : h1484 61 1 = h1466 61 1 := f1486 61 1 (by decide +kernel)
        have q1732 : h1466 61 1 = h1442 61 1 := f1468 61 1 (by decide +kernel)
        have q1733 : h1442 61 1 = h35 61 1 := f1444 61 1 (by decide +kernel)
        have q1734 : h35 61 1 = h8 61 1 := f37 61 1 (by decide +kernel)
        have q1735 : h8 61 1 = h 61 1 := f10 61 1 (by decide +kernel)
        have q1736 : h1647 ((h 61 1) + 5) 2 = h1518 ((h 61 1) + 5) 2 := jK 0 f1649 (rg_T5_2_0_1 t1) (by first | decide | omega) (by first | decide | omega) (by decide)
        have q1737 : h1518 ((h 61 1) + 5) 2 = h1498 ((h 61 1) + 5) 2 := jK 0 f1520 (rg_T5_2_0_1 t1) (by first | decide | omega) (by first | decide | omega) (by decide)
        have q1738 : h1498 ((h 61 1) + 5) 2 = h1484 ((h 61 1) + 5) 2 := jK 0 f1500 (rg_T5_2_0_1 t1) (by first | decide | omega) (by first | decide | omega) (by decide)
        have q1739 : h1484 ((h 61 1) + 5) 2 = h1466 ((h 61 1) + 5) 2 := jK 0 f1486 (rg_T5_2_0_1 t1) (by first | decide | omega) (by first | decide | omega) (by decide)
        have q1740 : h1466 ((h 61 1) + 5) 2 = h1442 ((h 61 1) + 5) 2 := jK 0 f1468 (rg_T5_2_0_1 t1) (by first | decide | omega) (by first | decide | omega) (by decide)
        have q1741 : h1442 ((h 61 1) + 5) 2 = h35 ((h 61 1) + 5) 2 := jK 0 f1444 (rg_T5_2_0_1 t1) (by first | decide | omega) (by first | decide | omega) (by decide)
        have q1742 : h35 ((h 61 1) + 5) 2 = h8 ((h 61 1) + 5) 2 := jK 0 f37 (rg_T5_2_0_1 t1) (by first | decide | omega) (by first | decide | omega) (by decide)
        have e1743 : rv h1647 4 = (h8 ((h 61 1) + 5) 2) := (congrArg (fun z => svq h1647 z 4) (((((((q1728.trans q1729).trans q1730).trans q1731).trans q1732).trans q1733).trans q1734).trans q1735)).trans ((((((q1736.trans q1737).trans q1738).trans q1739).trans q1740).trans q1741).trans q1742)
        have e1744 : rv h 5 = (h ((h 61 1) + 7) 2) := (congrArg (fun z => svq h z 5) rfl).trans rfl
        have q1745 : h1647 61 1 = h1518 61 1 := f1649 61 1 (by decide +kernel)
        have q1746 : h1518 61 1 = h1498 61 1 := f1520 61 1 (by decide +kernel)
        have q1747 : h1498 61 1 = h1484 61 1 := f1500 61 1 (by decide +kernel)
        have q1748 : h1484 61 1 = h1466 61 1 := f1486 61 1 (by decide +kernel)
        have q1749 : h1466 61 1 = h1442 61 1 := f1468 61 1 (by decide +kernel)
        have q1750 : h1442 61 1 = h35 61 1 := f1444 61 1 (by decide +kernel)
        have q1751 : h35 61 1 = h8 61 1 := f37 61 1 (by decide +kernel)
        have q1752 : h8 61 1 = h 61 1 := f10 61 1 (by decide +kernel)
        have q1753 : h1647 ((h 61 1) + 7) 2 = h1518 ((h 61 1) + 7) 2 := jK 0 f1649 (rg_T7_2_0_1 t1) (by first | decide | omega) (by first | decide | omega) (by decide)
        have q1754 : h1518 ((h 61 1) + 7) 2 = h1498 ((h 61 1) + 7) 2 := jK 0 f1520 (rg_T7_2_0_1 t1) (by first | decide | omega) (by first | decide | omega) (by decide)
        have q1755 : h1498 ((h 61 1) + 7) 2 = h1484 ((h 61 1) + 7) 2 := jK 0 f1500 (rg_T7_2_0_1 t1) (by first | decide | omega) (by first | decide | omega) (by decide)
        have q1756 : h1484 ((h 61 1) + 7) 2 = h1466 ((h 61 1) + 7) 2 := jK 0 f1486 (rg_T7_2_0_1 t1) (by first | decide | omega) (by first | decide | omega) (by decide)
        have q1757 : h1466 ((h 61 1) + 7) 2 = h1442 ((h 61 1) + 7) 2 := jK 0 f1468 (rg_T7_2_0_1 t1) (by first | decide | omega) (by first | decide | omega) (by decide)
        have q1758 : h1442 ((h 61 1) + 7) 2 = h35 ((h 61 1) + 7) 2 := jK 0 f1444 (rg_T7_2_0_1 t1) (by first | decide | omega) (by first | decide | omega) (by decide)
        have q1759 : h35 ((h 61 1) + 7) 2 = h8 ((h 61 1) + 7) 2 := jK 0 f37 (rg_T7_2_0_1 t1) (by first | decide | omega) (by first | decide | omega) (by decide)
        have e1760 : rv h1647 5 = (h8 ((h 61 1) + 7) 2) := (congrArg (fun z => svq h1647 z 5) (((((((q1745.trans q1746).trans q1747).trans q1748).trans q1749).trans q1750).trans q1751).trans q1752)).trans ((((((q1753.trans q1754).trans q1755).trans q1756).trans q1757).trans q1758).trans q1759)
        have q1761 : h8 1 2 = h 1 2 := jK 0 f10 rg_1_2_0_1 (by first | decide | omega) (by first | decide | omega) (by decide)
        obtain ⟨w1762, e1763⟩ := Tk.yes c41 (by first | decide | omega)
        have q1764 : h1442 1 2 = h35 1 2 := jK 0 f1444 rg_1_2_0_1 (by first | decide | omega) (by first | decide | omega) (by decide)
        have q1765 : h1484 1 2 = h1466 1 2 := jK 0 f1486 rg_1_2_0_1 (by first | decide | omega) (by first | decide | omega) (by decide)
        obtain ⟨w1766, e1767⟩ := Tk.yes c1504 (by first | decide | omega)
        obtain ⟨w1768, e1769⟩ := Tk.no c1653 (by first | decide | omega)
        have m1770 : Ot (h 61 1) h h8 := Ot.trans Ot.refl (c19)
        have m1771 : Ot (h 61 1) h h35 := Ot.fr m1770 f37 (by decide)
        have m1772 : Ot (h 61 1) h h1442 := Ot.fr m1771 f1444 (by decide)
        have m1773 : Ot (h 61 1) h h1466 := Ot.fr m1772 f1468 (by decide)
        have m1774 : Ot (h 61 1) h h1484 := Ot.fr m1773 f1486 (by decide)
        have m1775 : Ot (h 61 1) h h1498 := Ot.fr m1774 f1500 (by decide)
        have m1776 : Ot (h 61 1) h h1518 := Ot.fr m1775 f1520 (by decide)
        have m1777 : Ot (h 61 1) h h1647 := Ot.fr m1776 f1649 (by decide)
        have q1778 : h8 1 2 = h 1 2 := jK 0 f10 rg_1_2_0_1 (by first | decide | omega) (by first | decide | omega) (by decide)
        obtain ⟨w1779, e1780⟩ := Tk.yes c41 (by first | decide | omega)
        have q1781 : h1442 1 2 = h35 1 2 := jK 0 f1444 rg_1_2_0_1 (by first | decide | omega) (by first | decide | omega) (by decide)
        have q1782 : h1484 1 2 = h1466 1 2 := jK 0 f1486 rg_1_2_0_1 (by first | decide | omega) (by first | decide | omega) (by decide)
        obtain ⟨w1783, e1784⟩ := Tk.yes c1504 (by first | decide | omega)
        obtain ⟨w1785, e1786⟩ := Tk.no c1653 (by first | decide | omega)
        refine x_retI (np := 178) (x := 0) (by decide +kernel) (by decide) (Or.inr ⟨by decide +kernel, by first | decide | omega, by first | decide | omega⟩) ⟨_, rfl, (by decide), ?_⟩
        exact ⟨j1648, f1654, (by first | decide | omega), (by first | decide | omega), (by first | decide | omega), (by first | decide | omega), (by first | decide | omega), (fun z => by first | decide | omega), (by first | decide | omega), (or9.y w1762 (show h8 1 2 = h 1 2 by first | decide | omega) e1763 rfl (nm9.y c1473 (by first | decide | omega) (by first | decide | omega) (show h1442 1 2 = h35 1 2 by first | decide | omega) (by first | decide | omega) rfl (wd9.y w1766 (show h1484 1 2 = h1466 1 2 by first | decide | omega) e1767 rfl (nm9.y c1525 (by first | decide | omega) (by first | decide | omega) rfl (by first | decide | omega) rfl (wd9.f w1768 rfl (by first | decide | omega)))))), m1777, (fun _ => (oF.y w1779 (show h8 1 2 = h 1 2 by first | decide | omega) e1780 rfl (mF.y c1473 (by first | decide | omega) (by first | decide | omega) (show h1442 1 2 = h35 1 2 by first | decide | omega) (by first | decide | omega) rfl (wF.y w1783 (show h1484 1 2 = h1466 1 2 by first | decide | omega) e1784 rfl (mF.y c1525 (by first | decide | omega) (by first | decide | omega) rfl (by first | decide | omega) rfl (wF.no w1785 rfl (show h1647 1 2 = h1518 1 2 by first | decide | omega)))))))⟩
      have q1658 : ¬ (v1643 = 2147483648) := q1658
      have b1787 := c1651 (by first | decide | omega)
      refine x_aload (np := 122) (x := 0) (by decide +kernel) rfl (x_nc_le (by decide)) ?_
      refine x_aload (np := 123) (x := 0) (by decide +kernel) rfl (x_nc_le (by decide)) ?_
      have q1788 : h1647 61 1 = h1518 61 1 := f1649 61 1 (by decide +kernel)
      have q1789 : h1518 61 1 = h1498 61 1 := f1520 61 1 (by decide +kernel)
      have q1790 : h1498 61 1 = h1484 61 1 := f1500 61 1 (by decide +kernel)
      have q1791 : h1484 61 1 = h1466 61 1 := f1486 61 1 (by decide +kernel)
      have q1792 : h1466 61 1 = h1442 61 1 := f1468 61 1 (by decide +kernel)
      have q1793 : h1442 61 1 = h35 61 1 := f1444 61 1 (by decide +kernel)
      have q1794 : h35 61 1 = h8 61 1 := f37 61 1 (by decide +kernel)
      have q1795 : h8 61 1 = h 61 1 := f10 61 1 (by decide +kernel)
      refine x_getR (np := 126) (x := 577) (f := 1) (q := (h 61 1)) (by decide +kernel) (by decide) (by decide +kernel) (((((((q1788.trans q1789).trans q1790).trans q1791).trans q1792).trans q1793).trans q1794).trans q1795) ?_
      have q1796 : h1647 (h 61 1) 2 = ((h 61 1) + 5) := tf_0_2 j1648 t1
      refine x_getR (np := 129) (x := 514) (f := 2) (q := ((h 61 1) + 5)) (by decide +kernel) (by decide) (tg_0_514_2_1 t1) q1796 ?_
      refine x_iload (np := 130) (x := 1) (by decide +kernel) rfl l6 ?_
      refine x_const (np := 131) (x := 9223372047592194050) (a := 2147483650) (by decide +kernel) (by decide) (by decide) ?_
      refine x_iload (np := 132) (x := 2) (by decide +kernel) rfl l1515 ?_
      refine x_const (np := 134) (x := 9223372086246899723) (a := 2147483659) (by decide +kernel) (by decide) (by decide) ?_
      refine x_nI (t := 6) (mj := 102) (n := 6) (rc := 10) (ml := 7) (nr := 0) (np := 137) (as := [x_r 61, x_r ((h 61 1) + 5), iv_c v5, iv_c 2147483650, iv_c v1514, iv_c 2147483659]) (rest := []) (lo1 := [x_r 61, x_r ((h 61 1) + 5), iv_c v5, iv_c 2147483650, iv_c v1514, iv_c 2147483659, 147573952589676412928]) (by decide +kernel) (by decide) (by decide +kernel) (x_rb_of (by decide +kernel)) rfl rfl (x_wr (by decide) (x_wr (tn_5 t1) (x_wi l6 (x_wi (by decide) (x_wi l1515 (x_wi (by decide) x_wn)))))) x_wn (by decide) rfl ?_
      refine x_aload (np := 1) (x := 0) (by decide +kernel) rfl (x_nc_le (by decide)) ?_
      have q1797 : h1647 61 0 = 1 := by have z := jB (e := 0) 0 j1648 rg_61_0_0_1 (by decide) (by decide); omega
      refine x_getR (np := 4) (x := 576) (f := 0) (q := 1) (by decide +kernel) (by decide) (by decide +kernel) q1797 ?_
      refine x_iload (np := 6) (x := 4) (by decide +kernel) rfl l1515 ?_
      refine x_iload (np := 8) (x := 5) (by decide +kernel) rfl (by decide) ?_
      have m1801 := Tp.fr m1646 f1649 (by decide) (by decide)
      refine x_cI (t := 6) (mj := 79) (n := 3) (rc := 8) (ml := 5) (nr := 0) (np := 11) (as := [x_r 1, iv_c v1514, iv_c 2147483659]) (rest := []) (lo1 := [x_r 1, iv_c v1514, iv_c 2147483659, 147573952589676412928, 147573952589676412928]) (by decide +kernel) (by decide) (by decide +kernel) (x_rb_of (by decide +kernel)) rfl rfl (x_wr (by decide) (x_wi l1515 (x_wi (by decide) x_wn))) x_wn (by decide) rfl (c79_1 j1648  (by first | decide | omega) (by first | decide | omega) m1801) (fun v1798 h1802 l1799 q1800 => ?_)
      obtain ⟨j1803, f1804, b1805, c1806, c1807, c1808, c1809⟩ := q1800
      have f1810 := Fr.trans f1654 f1804 (by decide)
      have b1811 := jB (e := 2) 0 j1803 rg_1_2_0_1 (by first | decide | omega) (by first | decide | omega)
      refine x_istore (np := 13) (x := 6) (lo' := [x_r 61, x_r ((h 61 1) + 5), iv_c v5, iv_c 2147483650, iv_c v1514, iv_c 2147483659, iv_c v1798]) (by decide +kernel) l1799 (Nat.le_of_ble_eq_true rfl) rfl ?_
      refine x_iload (np := 15) (x := 6) (by decide +kernel) rfl l1799 ?_
      refine x_const (np := 16) (x := 9223372034707292159) (a := 2147483647) (by decide +kernel) (by decide) (by decide) ?_
      refine x_icmp (k := 1) (tg := 21) (np := 19) (by decide +kernel) (by decide) l1799 (by decide) (fun q1812 => ?_) (fun q1813 => ?_)
      · have q1812 : v1798 ≠ 2147483647 := q1812
        have b1814 := c1807 (by first | decide | omega)
        refine x_aload (np := 22) (x := 1) (by decide +kernel) rfl (x_nc_le (tn_5 t1)) ?_
        refine x_iload (np := 23) (x := 2) (by decide +kernel) rfl l6 ?_
        refine x_iload (np := 24) (x := 3) (by decide +kernel) rfl (by decide) ?_
        refine x_iload (np := 26) (x := 6) (by decide +kernel) rfl l1799 ?_
        refine x_cV (t := 6) (mj := 69) (n := 4) (rc := 7) (ml := 5) (nr := 0) (np := 29) (as := [x_r ((h 61 1) + 5), iv_c v5, iv_c 2147483650, iv_c v1798]) (rest := []) (lo1 := [x_r ((h 61 1) + 5), iv_c v5, iv_c 2147483650, iv_c v1798, 147573952589676412928]) (by decide +kernel) (by decide) (by decide +kernel) (x_rb_of (tr_5_7 t1)) rfl rfl (x_wr (tn_5 t1) (x_wi l6 (x_wi (by decide) (x_wi l1799 x_wn)))) x_wn (by decide) rfl (c69_T5_c2 j1803 t1 (by first | decide | omega)  (by first | decide | omega)) (fun h1818 q1817 => ?_)
        obtain ⟨j1819, f1820⟩ := q1817
        have f1823 := Fr.trans f1810 f1820 (by decide)
        refine x_const (np := 30) (x := 9223372043297226753) (a := 2147483649) (by decide +kernel) (by decide) (by decide) ?_
        refine x_retI (np := 31) (x := 0) (by decide +kernel) (by decide) (Or.inr ⟨by decide +kernel, by first | decide | omega, by first | decide | omega⟩) ⟨_, rfl, (by decide), ?_⟩
        refine x_ifz (k := 0) (tg := 176) (np := 140) (by decide +kernel) (by decide) (by decide) (fun q1824 => ?_) (fun q1825 => ?_)
        · have q1824 : 2147483649 = 2147483648 := q1824
          exfalso; omega
        have q1825 : ¬ (2147483649 = 2147483648) := q1825
        refine x_aload (np := 141) (x := 0) (by decide +kernel) rfl (x_nc_le (by decide)) ?_
        have q1826 : h1818 61 0 = 1 := by have z := jB (e := 0) 0 j1819 rg_61_0_0_1 (by decide) (by decide); omega
        refine x_getR (np := 144) (x := 576) (f := 0) (q := 1) (by decide +kernel) (by decide) (by decide +kernel) q1826 ?_
        refine x_ldcB (i := 12) (idx := 155) (tx := "of") (by rw [tb_y99]; exact List.mem_of_getElem? (i := 12) rfl) (by decide) (by rw [tb_b99]; decide +kernel) ?_
        have m1831 := Tp.fr m1801 f1804 (by decide) (by decide)
        have m1830 := Tp.fr m1831 f1820 (by decide) (by decide)
        refine x_cI (t := 6) (mj := 78) (n := 2) (rc := 8) (ml := 2) (nr := 0) (np := 149) (as := [x_r 1, x_b (12 + 1)]) (rest := []) (lo1 := [x_r 1, x_b (12 + 1)]) (by decide +kernel) (by decide) (by decide +kernel) (x_rb_of (by decide +kernel)) rfl rfl (x_wr (by decide) (x_wB (by decide) x_wn)) x_wn (by decide) rfl (c78_1_S0 j1819  (by decide) m1830) (fun v1827 h1832 l1828 q1829 => ?_)
        obtain ⟨j1833, f1834, b1835, c1836, c1837, c1838⟩ := q1829
        have f1839 := Fr.trans f1823 f1834 (by decide)
        have q1840 : h1818 1 2 = h1802 1 2 := jK 0 f1820 rg_1_2_0_1 (by first | decide | omega) (by first | decide | omega) (by decide)
        have b1841 := jB (e := 2) 0 j1833 rg_1_2_0_1 (by first | decide | omega) (by first | decide | omega)
        have b1842 : iv_tl 12 = 2 := by decide
        have q1843 : h1818 1 2 = h1802 1 2 := jK 0 f1820 rg_1_2_0_1 (by first | decide | omega) (by first | decide | omega) (by decide)
        refine x_ifz (k := 0) (tg := 176) (np := 152) (by decide +kernel) (by decide) l1828 (fun q1844 => ?_) (fun q1845 => ?_)
        · have q1844 : v1827 = 2147483648 := q1844
          have b1846 := c1837 (by first | decide | omega)
          refine x_const (np := 177) (x := 9223372039002259456) (a := 2147483648) (by decide +kernel) (by decide) (by decide) ?_
          have e1847 : rv h 0 = (h (h 61 1) 7) := (congrArg (fun z => svq h z 0) rfl).trans rfl
          have q1848 : h1832 61 1 = h1818 61 1 := f1834 61 1 (by decide +kernel)
          have q1849 : h1818 61 1 = h1802 61 1 := f1820 61 1 (by decide +kernel)
          have q1850 : h1802 61 1 = h1647 61 1 := f1804 61 1 (by decide +kernel)
          have q1851 : h1647 61 1 = h1518 61 1 := f1649 61 1 (by decide +kernel)
          have q1852 : h1518 61 1 = h1498 61 1 := f1520 61 1 (by decide +kernel)
          have q1853 : h1498 61 1 = h1484 61 1 := f1500 61 1 (by decide +kernel)
          have q1854 : h1484 61 1 = h1466 61 1 := f1486 61 1 (by decide +kernel)
          have q1855 : h1466 61 1 = h1442 61 1 := f1468 61 1 (by decide +kernel)
          have q1856 : h1442 61 1 = h35 61 1 := f1444 61 1 (by decide +kernel)
          have q1857 : h35 61 1 = h8 61 1 := f37 61 1 (by decide +kernel)
          have q1858 : h8 61 1 = h 61 1 := f10 61 1 (by decide +kernel)
          have q1859 : h1832 (h 61 1) 7 = h1818 (h 61 1) 7 := jK 0 f1834 (rg_T0_7_0_1 t1) (by first | decide | omega) (by first | decide | omega) (by decide)
          have q1860 : h1818 (h 61 1) 7 = h1802 (h 61 1) 7 := jK 0 f1820 (rg_T0_7_0_1 t1) (by first | decide | omega) (by first | decide | omega) (by decide)
          have q1861 : h1802 (h 61 1) 7 = h1647 (h 61 1) 7 := jK 0 f1804 (rg_T0_7_0_1 t1) (by first | decide | omega) (by first | decide | omega) (by decide)
          have q1862 : h1647 (h 61 1) 7 = h1518 (h 61 1) 7 := jK 0 f1649 (rg_T0_7_0_1 t1) (by first | decide | omega) (by first | decide | omega) (by decide)
          have q1863 : h1518 (h 61 1) 7 = h1498 (h 61 1) 7 := jK 0 f1520 (rg_T0_7_0_1 t1) (by first | decide | omega) (by first | decide | omega) (by decide)
          have q1864 : h1498 (h 61 1) 7 = h1484 (h 61 1) 7 := jK 0 f1500 (rg_T0_7_0_1 t1) (by first | decide | omega) (by first | decide | omega) (by decide)
          have q1865 : h1484 (h 61 1) 7 = h1466 (h 61 1) 7 := jK 0 f1486 (rg_T0_7_0_1 t1) (by first | decide | omega) (by first | decide | omega) (by decide)
          have q1866 : h1466 (h 61 1) 7 = h1442 (h 61 1) 7 := jK 0 f1468 (rg_T0_7_0_1 t1) (by first | decide | omega) (by first | decide | omega) (by decide)
          have q1867 : h1442 (h 61 1) 7 = h35 (h 61 1) 7 := jK 0 f1444 (rg_T0_7_0_1 t1) (by first | decide | omega) (by first | decide | omega) (by decide)
          have q1868 : h35 (h 61 1) 7 = h8 (h 61 1) 7 := jK 0 f37 (rg_T0_7_0_1 t1) (by first | decide | omega) (by first | decide | omega) (by decide)
          have e1869 : rv h1832 0 = (h8 (h 61 1) 7) := (congrArg (fun z => svq h1832 z 0) ((((((((((q1848.trans q1849).trans q1850).trans q1851).trans q1852).trans q1853).trans q1854).trans q1855).trans q1856).trans q1857).trans q1858)).trans (((((((((q1859.trans q1860).trans q1861).trans q1862).trans q1863).trans q1864).trans q1865).trans q1866).trans q1867).trans q1868)
          have e1870 : rv h 1 = (h (h 61 1) 8) := (congrArg (fun z => svq h z 1) rfl).trans rfl
          have q1871 : h1832 61 1 = h1818 61 1 := f1834 61 1 (by decide +kernel)
          have q1872 : h1818 61 1 = h1802 61 1 := f1820 61 1 (by decide +kernel)
          have q1873 : h1802 61 1 = h1647 61 1 := f1804 61 1 (by decide +kernel)
          have q1874 : h1647 61 1 = h1518 61 1 := f1649 61 1 (by decide +kernel)
          have q1875 : h1518 61 1 = h1498 61 1 := f1520 61 1 (by decide +kernel)
          have q1876 : h1498 61 1 = h1484 61 1 := f1500 61 1 (by decide +kernel)
          have q1877 : h1484 61 1 = h1466 61 1 := f1486 61 1 (by decide +kernel)
          have q1878 : h1466 61 1 = h1442 61 1 := f1468 61 1 (by decide +kernel)
          have q1879 : h1442 61 1 = h35 61 1 := f1444 61 1 (by decide +kernel)
          have q1880 : h35 61 1 = h8 61 1 := f37 61 1 (by decide +kernel)
          have q1881 : h8 61 1 = h 61 1 := f10 61 1 (by decide +kernel)
          have q1882 : h1832 (h 61 1) 8 = h1818 (h 61 1) 8 := jK 0 f1834 (rg_T0_8_0_1 t1) (by first | decide | omega) (by first | decide | omega) (by decide)
          have q1883 : h1818 (h 61 1) 8 = h1802 (h 61 1) 8 := jK 0 f1820 (rg_T0_8_0_1 t1) (by first | decide | omega) (by first | decide | omega) (by decide)
          have q1884 : h1802 (h 61 1) 8 = h1647 (h 61 1) 8 := jK 0 f1804 (rg_T0_8_0_1 t1) (by first | decide | omega) (by first | decide | omega) (by decide)
          have q1885 : h1647 (h 61 1) 8 = h1518 (h 61 1) 8 := jK 0 f1649 (rg_T0_8_0_1 t1) (by first | decide | omega) (by first | decide | omega) (by decide)
          have q1886 : h1518 (h 61 1) 8 = h1498 (h 61 1) 8 := jK 0 f1520 (rg_T0_8_0_1 t1) (by first | decide | omega) (by first | decide | omega) (by decide)
          have q1887 : h1498 (h 61 1) 8 = h1484 (h 61 1) 8 := jK 0 f1500 (rg_T0_8_0_1 t1) (by first | decide | omega) (by first | decide | omega) (by decide)
          have q1888 : h1484 (h 61 1) 8 = h1466 (h 61 1) 8 := jK 0 f1486 (rg_T0_8_0_1 t1) (by first | decide | omega) (by first | decide | omega) (by decide)
          have q1889 : h1466 (h 61 1) 8 = h1442 (h 61 1) 8 := jK 0 f1468 (rg_T0_8_0_1 t1) (by first | decide | omega) (by first | decide | omega) (by decide)
          have q1890 : h1442 (h 61 1) 8 = h35 (h 61 1) 8 := jK 0 f1444 (rg_T0_8_0_1 t1) (by first | decide | omega) (by first | decide | omega) (by decide)
          have q1891 : h35 (h 61 1) 8 = h8 (h 61 1) 8 := jK 0 f37 (rg_T0_8_0_1 t1) (by first | decide | omega) (by first | decide | omega) (by decide)
          have e1892 : rv h1832 1 = (h8 (h 61 1) 8) := (congrArg (fun z => svq h1832 z 1) ((((((((((q1871.trans q1872).trans q1873).trans q1874).trans q1875).trans q1876).trans q1877).trans q1878).trans q1879).trans q1880).trans q1881)).trans (((((((((q1882.trans q1883).trans q1884).trans q1885).trans q1886).trans q1887).trans q1888).trans q1889).trans q1890).trans q1891)
          have e1893 : rv h 2 = (h ((h 61 1) + 1) 2) := (congrArg (fun z => svq h z 2) rfl).trans rfl
          have q1894 : h1832 61 1 = h1818 61 1 := f1834 61 1 (by decide +kernel)
          have q1895 : h1818 61 1 = h1802 61 1 := f1820 61 1 (by decide +kernel)
          have q1896 : h1802 61 1 = h1647 61 1 := f1804 61 1 (by decide +kernel)
          have q1897 : h1647 61 1 = h1518 61 1 := f1649 61 1 (by decide +kernel)
          have q1898 : h1518 61 1 = h1498 61 1 := f1520 61 1 (by decide +kernel)
          have q1899 : h1498 61 1 = h1484 61 1 := f1500 61 1 (by decide +kernel)
          have q1900 : h1484 61 1 = h1466 61 1 := f1486 61 1 (by decide +kernel)
          have q1901 : h1466 61 1 = h1442 61 1 := f1468 61 1 (by decide +kernel)
          have q1902 : h1442 61 1 = h35 61 1 := f1444 61 1 (by decide +kernel)
          have q1903 : h35 61 1 = h8 61 1 := f37 61 1 (by decide +kernel)
          have q1904 : h8 61 1 = h 61 1 := f10 61 1 (by decide +kernel)
          have q1905 : h1832 ((h 61 1) + 1) 2 = h1818 ((h 61 1) + 1) 2 := jK 0 f1834 (rg_T1_2_0_1 t1) (by first | decide | omega) (by first | decide | omega) (by decide)
          have q1906 : h1818 ((h 61 1) + 1) 2 = h1802 ((h 61 1) + 1) 2 := jK 0 f1820 (rg_T1_2_0_1 t1) (by first | decide | omega) (by first | decide | omega) (by decide)
          have q1907 : h1802 ((h 61 1) + 1) 2 = h1647 ((h 61 1) + 1) 2 := jK 0 f1804 (rg_T1_2_0_1 t1) (by first | decide | omega) (by first | decide | omega) (by decide)
          have q1908 : h1647 ((h 61 1) + 1) 2 = h1518 ((h 61 1) + 1) 2 := jK 0 f1649 (rg_T1_2_0_1 t1) (by first | decide | omega) (by first | decide | omega) (by decide)
          have q1909 : h1518 ((h 61 1) + 1) 2 = h1498 ((h 61 1) + 1) 2 := jK 0 f1520 (rg_T1_2_0_1 t1) (by first | decide | omega) (by first | decide | omega) (by decide)
          have q1910 : h1498 ((h 61 1) + 1) 2 = h1484 ((h 61 1) + 1) 2 := jK 0 f1500 (rg_T1_2_0_1 t1) (by first | decide | omega) (by first | decide | omega) (by decide)
          have q1911 : h1484 ((h 61 1) + 1) 2 = h1466 ((h 61 1) + 1) 2 := jK 0 f1486 (rg_T1_2_0_1 t1) (by first | decide | omega) (by first | decide | omega) (by decide)
          have q1912 : h1466 ((h 61 1) + 1) 2 = h1442 ((h 61 1) + 1) 2 := jK 0 f1468 (rg_T1_2_0_1 t1) (by first | decide | omega) (by first | decide | omega) (by decide)
          have q1913 : h1442 ((h 61 1) + 1) 2 = h35 ((h 61 1) + 1) 2 := jK 0 f1444 (rg_T1_2_0_1 t1) (by first | decide | omega) (by first | decide | omega) (by decide)
          have q1914 : h35 ((h 61 1) + 1) 2 = h8 ((h 61 1) + 1) 2 := jK 0 f37 (rg_T1_2_0_1 t1) (by first | decide | omega) (by first | decide | omega) (by decide)
          have e1915 : rv h1832 2 = (h8 ((h 61 1) + 1) 2) := (congrArg (fun z => svq h1832 z 2) ((((((((((q1894.trans q1895).trans q1896).trans q1897).trans q1898).trans q1899).trans q1900).trans q1901).trans q1902).trans q1903).trans q1904)).trans (((((((((q1905.trans q1906).trans q1907).trans q1908).trans q1909).trans q1910).trans q1911).trans q1912).trans q1913).trans q1914)
          have e1916 : rv h 3 = (h ((h 61 1) + 3) 2) := (congrArg (fun z => svq h z 3) rfl).trans rfl
          have q1917 : h1832 61 1 = h1818 61 1 := f1834 61 1 (by decide +kernel)
          have q1918 : h1818 61 1 = h1802 61 1 := f1820 61 1 (by decide +kernel)
          have q1919 : h1802 61 1 = h1647 61 1 := f1804 61 1 (by decide +kernel)
          have q1920 : h1647 61 1 = h1518 61 1 := f1649 61 1 (by decide +kernel)
          have q1921 : h1518 61 1 = h1498 61 1 := f1520 61 1 (by decide +kernel)
          have q1922 : h1498 61 1 = h1484 61 1 := f1500 61 1 (by decide +kernel)
          have q1923 : h1484 61 1 = h1466 61 1 := f1486 61 1 (by decide +kernel)
          have q1924 : h1466 61 1 = h1442 61 1 := f1468 61 1 (by decide +kernel)
          have q1925 : h1442 61 1 = h35 61 1 := f1444 61 1 (by decide +kernel)
          have q1926 : h35 61 1 = h8 61 1 := f37 61 1 (by decide +kernel)
          have q1927 : h8 61 1 = h 61 1 := f10 61 1 (by decide +kernel)
          have q1928 : h1832 ((h 61 1) + 3) 2 = h1818 ((h 61 1) + 3) 2 := jK 0 f1834 (rg_T3_2_0_1 t1) (by first | decide | omega) (by first | decide | omega) (by decide)
          have q1929 : h1818 ((h 61 1) + 3) 2 = h1802 ((h 61 1) + 3) 2 := jK 0 f1820 (rg_T3_2_0_1 t1) (by first | decide | omega) (by first | decide | omega) (by decide)
          have q1930 : h1802 ((h 61 1) + 3) 2 = h1647 ((h 61 1) + 3) 2 := jK 0 f1804 (rg_T3_2_0_1 t1) (by first | decide | omega) (by first | decide | omega) (by decide)
          have q1931 : h1647 ((h 61 1) + 3) 2 = h1518 ((h 61 1) + 3) 2 := jK 0 f1649 (rg_T3_2_0_1 t1) (by first | decide | omega) (by first | decide | omega) (by decide)
          have q1932 : h1518 ((h 61 1) + 3) 2 = h1498 ((h 61 1) + 3) 2 := jK 0 f1520 (rg_T3_2_0_1 t1) (by first | decide | omega) (by first | decide | omega) (by decide)
          have q1933 : h1498 ((h 61 1) + 3) 2 = h1484 ((h 61 1) + 3) 2 := jK 0 f1500 (rg_T3_2_0_1 t1) (by first | decide | omega) (by first | decide | omega) (by decide)
          have q1934 : h1484 ((h 61 1) + 3) 2 = h1466 ((h 61 1) + 3) 2 := jK 0 f1486 (rg_T3_2_0_1 t1) (by first | decide | omega) (by first | decide | omega) (by decide)
          have q1935 : h1466 ((h 61 1) + 3) 2 = h1442 ((h 61 1) + 3) 2 := jK 0 f1468 (rg_T3_2_0_1 t1) (by first | decide | omega) (by first | decide | omega) (by decide)
          have q1936 : h1442 ((h 61 1) + 3) 2 = h35 ((h 61 1) + 3) 2 := jK 0 f1444 (rg_T3_2_0_1 t1) (by first | decide | omega) (by first | decide | omega) (by decide)
          have q1937 : h35 ((h 61 1) + 3) 2 = h8 ((h 61 1) + 3) 2 := jK 0 f37 (rg_T3_2_0_1 t1) (by first | decide | omega) (by first | decide | omega) (by decide)
          have e1938 : rv h1832 3 = (h8 ((h 61 1) + 3) 2) := (congrArg (fun z => svq h1832 z 3) ((((((((((q1917.trans q1918).trans q1919).trans q1920).trans q1921).trans q1922).trans q1923).trans q1924).trans q1925).trans q1926).trans q1927)).trans (((((((((q1928.trans q1929).trans q1930).trans q1931).trans q1932).trans q1933).trans q1934).trans q1935).trans q1936).trans q1937)
          have q1939 : h1832 61 1 = h1818 61 1 := f1834 61 1 (by decide +kernel)
          have q1940 : h1818 61 1 = h1802 61 1 := f1820 61 1 (by decide +kernel)
          have q1941 : h1802 61 1 = h1647 61 1 := f1804 61 1 (by decide +kernel)
          have q1942 : h1647 61 1 = h1518 61 1 := f1649 61 1 (by decide +kernel)
          have q1943 : h1518 61 1 = h1498 61 1 := f1520 61 1 (by decide +kernel)
          have q1944 : h1498 61 1 = h1484 61 1 := f1500 61 1 (by decide +kernel)
          have q1945 : h1484 61 1 = h1466 61 1 := f1486 61 1 (by decide +kernel)
          have q1946 : h1466 61 1 = h1442 61 1 := f1468 61 1 (by decide +kernel)
          have q1947 : h1442 61 1 = h35 61 1 := f1444 61 1 (by decide +kernel)
          have q1948 : h35 61 1 = h8 61 1 := f37 61 1 (by decide +kernel)
          have q1949 : h8 61 1 = h 61 1 := f10 61 1 (by decide +kernel)
          have q1950 : h1832 ((h 61 1) + 5) 2 = h1818 ((h 61 1) + 5) 2 := jK 0 f1834 (rg_T5_2_0_1 t1) (by first | decide | omega) (by first | decide | omega) (by decide)
          have q1951 : h1818 ((h 61 1) + 5) 2 = h1802 ((h 61 1) + 5) 2 := jK 0 f1820 (rg_T5_2_0_1 t1) (by first | decide | omega) (by first | decide | omega) (by decide)
          have q1952 : h1802 ((h 61 1) + 5) 2 = h1647 ((h 61 1) + 5) 2 := jK 0 f1804 (rg_T5_2_0_1 t1) (by first | decide | omega) (by first | decide | omega) (by decide)
          have q1953 : h1647 ((h 61 1) + 5) 2 = h1518 ((h 61 1) + 5) 2 := jK 0 f1649 (rg_T5_2_0_1 t1) (by first | decide | omega) (by first | decide | omega) (by decide)
          have q1954 : h1518 ((h 61 1) + 5) 2 = h1498 ((h 61 1) + 5) 2 := jK 0 f1520 (rg_T5_2_0_1 t1) (by first | decide | omega) (by first | decide | omega) (by decide)
          have q1955 : h1498 ((h 61 1) + 5) 2 = h1484 ((h 61 1) + 5) 2 := jK 0 f1500 (rg_T5_2_0_1 t1) (by first | decide | omega) (by first | decide | omega) (by decide)
          have q1956 : h1484 ((h 61 1) + 5) 2 = h1466 ((h 61 1) + 5) 2 := jK 0 f1486 (rg_T5_2_0_1 t1) (by first | decide | omega) (by first | decide | omega) (by decide)
          have q1957 : h1466 ((h 61 1) + 5) 2 = h1442 ((h 61 1) + 5) 2 := jK 0 f1468 (rg_T5_2_0_1 t1) (by first | decide | omega) (by first | decide | omega) (by decide)
          have q1958 : h1442 ((h 61 1) + 5) 2 = h35 ((h 61 1) + 5) 2 := jK 0 f1444 (rg_T5_2_0_1 t1) (by first | decide | omega) (by first | decide | omega) (by decide)
          have q1959 : h35 ((h 61 1) + 5) 2 = h8 ((h 61 1) + 5) 2 := jK 0 f37 (rg_T5_2_0_1 t1) (by first | decide | omega) (by first | decide | omega) (by decide)
          have e1960 : rv h1832 4 = (h8 ((h 61 1) + 5) 2) := (congrArg (fun z => svq h1832 z 4) ((((((((((q1939.trans q1940).trans q1941).trans q1942).trans q1943).trans q1944).trans q1945).trans q1946).trans q1947).trans q1948).trans q1949)).trans (((((((((q1950.trans q1951).trans q1952).trans q1953).trans q1954).trans q1955).trans q1956).trans q1957).trans q1958).trans q1959)
          have e1961 : rv h 5 = (h ((h 61 1) + 7) 2) := (congrArg (fun z => svq h z 5) rfl).trans rfl
          have q1962 : h1832 61 1 = h1818 61 1 := f1834 61 1 (by decide +kernel)
          have q1963 : h1818 61 1 = h1802 61 1 := f1820 61 1 (by decide +kernel)
          have q1964 : h1802 61 1 = h1647 61 1 := f1804 61 1 (by decide +kernel)
          have q1965 : h1647 61 1 = h1518 61 1 := f1649 61 1 (by decide +kernel)
          have q1966 : h1518 61 1 = h1498 61 1 := f1520 61 1 (by decide +kernel)
          have q1967 : h1498 61 1 = h1484 61 1 := f1500 61 1 (by decide +kernel)
          have q1968 : h1484 61 1 = h1466 61 1 := f1486 61 1 (by decide +kernel)
          have q1969 : h1466 61 1 = h1442 61 1 := f1468 61 1 (by decide +kernel)
          have q1970 : h1442 61 1 = h35 61 1 := f1444 61 1 (by decide +kernel)
          have q1971 : h35 61 1 = h8 61 1 := f37 61 1 (by decide +kernel)
          have q1972 : h8 61 1 = h 61 1 := f10 61 1 (by decide +kernel)
          have q1973 : h1832 ((h 61 1) + 7) 2 = h1818 ((h 61 1) + 7) 2 := jK 0 f1834 (rg_T7_2_0_1 t1) (by first | decide | omega) (by first | decide | omega) (by decide)
          have q1974 : h1818 ((h 61 1) + 7) 2 = h1802 ((h 61 1) + 7) 2 := jK 0 f1820 (rg_T7_2_0_1 t1) (by first | decide | omega) (by first | decide | omega) (by decide)
          have q1975 : h1802 ((h 61 1) + 7) 2 = h1647 ((h 61 1) + 7) 2 := jK 0 f1804 (rg_T7_2_0_1 t1) (by first | decide | omega) (by first | decide | omega) (by decide)
          have q1976 : h1647 ((h 61 1) + 7) 2 = h1518 ((h 61 1) + 7) 2 := jK 0 f1649 (rg_T7_2_0_1 t1) (by first | decide | omega) (by first | decide | omega) (by decide)
          have q1977 : h1518 ((h 61 1) + 7) 2 = h1498 ((h 61 1) + 7) 2 := jK 0 f1520 (rg_T7_2_0_1 t1) (by first | decide | omega) (by first | decide | omega) (by decide)
          have q1978 : h1498 ((h 61 1) + 7) 2 = h1484 ((h 61 1) + 7) 2 := jK 0 f1500 (rg_T7_2_0_1 t1) (by first | decide | omega) (by first | decide | omega) (by decide)
          have q1979 : h1484 ((h 61 1) + 7) 2 = h1466 ((h 61 1) + 7) 2 := jK 0 f1486 (rg_T7_2_0_1 t1) (by first | decide | omega) (by first | decide | omega) (by decide)
          have q1980 : h1466 ((h 61 1) + 7) 2 = h1442 ((h 61 1) + 7) 2 := jK 0 f1468 (rg_T7_2_0_1 t1) (by first | decide | omega) (by first | decide | omega) (by decide)
          have q1981 : h1442 ((h 61 1) + 7) 2 = h35 ((h 61 1) + 7) 2 := jK 0 f1444 (rg_T7_2_0_1 t1) (by first | decide | omega) (by first | decide | omega) (by decide)
          have q1982 : h35 ((h 61 1) + 7) 2 = h8 ((h 61 1) + 7) 2 := jK 0 f37 (rg_T7_2_0_1 t1) (by first | decide | omega) (by first | decide | omega) (by decide)
          have e1983 : rv h1832 5 = (h8 ((h 61 1) + 7) 2) := (congrArg (fun z => svq h1832 z 5) ((((((((((q1962.trans q1963).trans q1964).trans q1965).trans q1966).trans q1967).trans q1968).trans q1969).trans q1970).trans q1971).trans q1972)).trans (((((((((q1973.trans q1974).trans q1975).trans q1976).trans q1977).trans q1978).trans q1979).trans q1980).trans q1981).trans q1982)
          have q1984 : h8 1 2 = h 1 2 := jK 0 f10 rg_1_2_0_1 (by first | decide | omega) (by first | decide | omega) (by decide)
          obtain ⟨w1985, e1986⟩ := Tk.yes c41 (by first | decide | omega)
          have q1987 : h1442 1 2 = h35 1 2 := jK 0 f1444 rg_1_2_0_1 (by first | decide | omega) (by first | decide | omega) (by decide)
          have q1988 : h1484 1 2 = h1466 1 2 := jK 0 f1486 rg_1_2_0_1 (by first | decide | omega) (by first | decide | omega) (by decide)
          obtain ⟨w1989, e1990⟩ := Tk.yes c1504 (by first | decide | omega)
          obtain ⟨w1991, e1992⟩ := Tk.yes c1653 (by first | decide | omega)
          have q1993 : h1818 1 2 = h1802 1 2 := jK 0 f1820 rg_1_2_0_1 (by first | decide | omega) (by first | decide | omega) (by decide)
          obtain ⟨w1994, e1995⟩ := Tk.no c1838 (by first | decide | omega)
          have m1996 : Ot (h 61 1) h h8 := Ot.trans Ot.refl (c19)
          have m1997 : Ot (h 61 1) h h35 := Ot.fr m1996 f37 (by decide)
          have m1998 : Ot (h 61 1) h h1442 := Ot.fr m1997 f1444 (by decide)
          have m1999 : Ot (h 61 1) h h1466 := Ot.fr m1998 f1468 (by decide)
          have m2000 : Ot (h 61 1) h h1484 := Ot.fr m1999 f1486 (by decide)
          have m2001 : Ot (h 61 1) h h1498 := Ot.fr m2000 f1500 (by decide)
          have m2002 : Ot (h 61 1) h h1518 := Ot.fr m2001 f1520 (by decide)
          have m2003 : Ot (h 61 1) h h1647 := Ot.fr m2002 f1649 (by decide)
          have m2004 : Ot (h 61 1) h h1802 := Ot.fr m2003 f1804 (by decide)
          have m2005 : Ot (h 61 1) h h1818 := Ot.fr m2004 f1820 (by decide)
          have m2006 : Ot (h 61 1) h h1832 := Ot.fr m2005 f1834 (by decide)
          have q2007 : h8 1 2 = h 1 2 := jK 0 f10 rg_1_2_0_1 (by first | decide | omega) (by first | decide | omega) (by decide)
          obtain ⟨w2008, e2009⟩ := Tk.yes c41 (by first | decide | omega)
          have q2010 : h1442 1 2 = h35 1 2 := jK 0 f1444 rg_1_2_0_1 (by first | decide | omega) (by first | decide | omega) (by decide)
          have q2011 : h1484 1 2 = h1466 1 2 := jK 0 f1486 rg_1_2_0_1 (by first | decide | omega) (by first | decide | omega) (by decide)
          obtain ⟨w2012, e2013⟩ := Tk.yes c1504 (by first | decide | omega)
          obtain ⟨w2014, e2015⟩ := Tk.yes c1653 (by first | decide | omega)
          have q2016 : h1818 1 2 = h1802 1 2 := jK 0 f1820 rg_1_2_0_1 (by first | decide | omega) (by first | decide | omega) (by decide)
          obtain ⟨w2017, e2018⟩ := Tk.no c1838 (by first | decide | omega)
          have q2019 : h1818 1 2 = h1802 1 2 := jK 0 f1820 rg_1_2_0_1 (by first | decide | omega) (by first | decide | omega) (by decide)
          refine x_retI (np := 178) (x := 0) (by decide +kernel) (by decide) (Or.inr ⟨by decide +kernel, by first | decide | omega, by first | decide | omega⟩) ⟨_, rfl, (by decide), ?_⟩
          exact ⟨j1833, f1839, (by first | decide | omega), (by first | decide | omega), (by first | decide | omega), (by first | decide | omega), (by first | decide | omega), (fun z => by first | decide | omega), (by first | decide | omega), (or9.y w1985 (show h8 1 2 = h 1 2 by first | decide | omega) e1986 rfl (nm9.y c1473 (by first | decide | omega) (by first | decide | omega) (show h1442 1 2 = h35 1 2 by first | decide | omega) (by first | decide | omega) rfl (wd9.y w1989 (show h1484 1 2 = h1466 1 2 by first | decide | omega) e1990 rfl (nm9.y c1525 (by first | decide | omega) (by first | decide | omega) rfl (by first | decide | omega) rfl (wd9.y w1991 rfl e1992 rfl (nm9.y c1809 (by first | decide | omega) (by first | decide | omega) rfl (by first | decide | omega) rfl (wd9.f w1994 (show h1818 1 2 = h1802 1 2 by first | decide | omega) (by first | decide | omega)))))))), m2006, (fun _ => (oF.y w2008 (show h8 1 2 = h 1 2 by first | decide | omega) e2009 rfl (mF.y c1473 (by first | decide | omega) (by first | decide | omega) (show h1442 1 2 = h35 1 2 by first | decide | omega) (by first | decide | omega) rfl (wF.y w2012 (show h1484 1 2 = h1466 1 2 by first | decide | omega) e2013 rfl (mF.y c1525 (by first | decide | omega) (by first | decide | omega) rfl (by first | decide | omega) rfl (wF.y w2014 rfl e2015 rfl (mF.y c1809 (by first | decide | omega) (by first | decide | omega) rfl (by first | decide | omega) rfl (wF.no w2017 (show h1818 1 2 = h1802 1 2 by first | decide | omega) (show h1832 1 2 = h1818 1 2 by first | decide | omega)))))))))⟩
        have q1845 : ¬ (v1827 = 2147483648) := q1845
        have b2020 := c1836 (by first | decide | omega)
        refine x_aload (np := 153) (x := 0) (by decide +kernel) rfl (x_nc_le (by decide)) ?_
        refine x_aload (np := 154) (x := 0) (by decide +kernel) rfl (x_nc_le (by decide)) ?_
        have q2021 : h1832 61 1 = h1818 61 1 := f1834 61 1 (by decide +kernel)
        have q2022 : h1818 61 1 = h1802 61 1 := f1820 61 1 (by decide +kernel)
        have q2023 : h1802 61 1 = h1647 61 1 := f1804 61 1 (by decide +kernel)
        have q2024 : h1647 61 1 = h1518 61 1 := f1649 61 1 (by decide +kernel)
        have q2025 : h1518 61 1 = h1498 61 1 := f1520 61 1 (by decide +kernel)
        have q2026 : h1498 61 1 = h1484 61 1 := f1500 61 1 (by decide +kernel)
        have q2027 : h1484 61 1 = h1466 61 1 := f1486 61 1 (by decide +kernel)
        have q2028 : h1466 61 1 = h1442 61 1 := f1468 61 1 (by decide +kernel)
        have q2029 : h1442 61 1 = h35 61 1 := f1444 61 1 (by decide +kernel)
        have q2030 : h35 61 1 = h8 61 1 := f37 61 1 (by decide +kernel)
        have q2031 : h8 61 1 = h 61 1 := f10 61 1 (by decide +kernel)
        refine x_getR (np := 157) (x := 577) (f := 1) (q := (h 61 1)) (by decide +kernel) (by decide) (by decide +kernel) ((((((((((q2021.trans q2022).trans q2023).trans q2024).trans q2025).trans q2026).trans q2027).trans q2028).trans q2029).trans q2030).trans q2031) ?_
        have q2032 : h1832 (h 61 1) 2 = ((h 61 1) + 5) := tf_0_2 j1833 t1
        refine x_getR (np := 160) (x := 514) (f := 2) (q := ((h 61 1) + 5)) (by decide +kernel) (by decide) (tg_0_514_2_1 t1) q2032 ?_
        refine x_iload (np := 161) (x := 1) (by decide +kernel) rfl l6 ?_
        refine x_const (np := 162) (x := 9223372051887161347) (a := 2147483651) (by decide +kernel) (by decide) (by decide) ?_
        refine x_const (np := 163) (x := 9223372039002259456) (a := 2147483648) (by decide +kernel) (by decide) (by decide) ?_
        refine x_const (np := 166) (x := 9223376329674589159) (a := 2147484647) (by decide +kernel) (by decide) (by decide) ?_
        refine x_nI (t := 6) (mj := 102) (n := 6) (rc := 10) (ml := 7) (nr := 0) (np := 169) (as := [x_r 61, x_r ((h 61 1) + 5), iv_c v5, iv_c 2147483651, iv_c 2147483648, iv_c 2147484647]) (rest := []) (lo1 := [x_r 61, x_r ((h 61 1) + 5), iv_c v5, iv_c 2147483651, iv_c 2147483648, iv_c 2147484647, 147573952589676412928]) (by decide +kernel) (by decide) (by decide +kernel) (x_rb_of (by decide +kernel)) rfl rfl (x_wr (by decide) (x_wr (tn_5 t1) (x_wi l6 (x_wi (by decide) (x_wi (by decide) (x_wi (by decide) x_wn)))))) x_wn (by decide) rfl ?_
        refine x_aload (np := 1) (x := 0) (by decide +kernel) rfl (x_nc_le (by decide)) ?_
        have q2033 : h1832 61 0 = 1 := by have z := jB (e := 0) 0 j1833 rg_61_0_0_1 (by decide) (by decide); omega
        refine x_getR (np := 4) (x := 576) (f := 0) (q := 1) (by decide +kernel) (by decide) (by decide +kernel) q2033 ?_
        refine x_iload (np := 6) (x := 4) (by decide +kernel) rfl (by decide) ?_
        refine x_iload (np := 8) (x := 5) (by decide +kernel) rfl (by decide) ?_
        have m2037 := Tp.fr m1830 f1834 (by decide) (by decide)
        refine x_cI (t := 6) (mj := 79) (n := 3) (rc := 8) (ml := 5) (nr := 0) (np := 11) (as := [x_r 1, iv_c 2147483648, iv_c 2147484647]) (rest := []) (lo1 := [x_r 1, iv_c 2147483648, iv_c 2147484647, 147573952589676412928, 147573952589676412928]) (by decide +kernel) (by decide) (by decide +kernel) (x_rb_of (by decide +kernel)) rfl rfl (x_wr (by decide) (x_wi (by decide) (x_wi (by decide) x_wn))) x_wn (by decide) rfl (c79_1_c0 j1833   (by first | decide | omega) m2037) (fun v2034 h2038 l2035 q2036 => ?_)
        obtain ⟨j2039, f2040, b2041, c2042, c2043, c2044, c2045⟩ := q2036
        have f2046 := Fr.trans f1839 f2040 (by decide)
        have b2047 := jB (e := 2) 0 j2039 rg_1_2_0_1 (by first | decide | omega) (by first | decide | omega)
        refine x_istore (np := 13) (x := 6) (lo' := [x_r 61, x_r ((h 61 1) + 5), iv_c v5, iv_c 2147483651, iv_c 2147483648, iv_c 2147484647, iv_c v2034]) (by decide +kernel) l2035 (Nat.le_of_ble_eq_true rfl) rfl ?_
        refine x_iload (np := 15) (x := 6) (by decide +kernel) rfl l2035 ?_
        refine x_const (np := 16) (x := 9223372034707292159) (a := 2147483647) (by decide +kernel) (by decide) (by decide) ?_
        refine x_icmp (k := 1) (tg := 21) (np := 19) (by decide +kernel) (by decide) l2035 (by decide) (fun q2048 => ?_) (fun q2049 => ?_)
        · have q2048 : v2034 ≠ 2147483647 := q2048
          have b2050 := c2043 (by first | decide | omega)
          refine x_aload (np := 22) (x := 1) (by decide +kernel) rfl (x_nc_le (tn_5 t1)) ?_
          refine x_iload (np := 23) (x := 2) (by decide +kernel) rfl l6 ?_
          refine x_iload (np := 24) (x := 3) (by decide +kernel) rfl (by decide) ?_
          refine x_iload (np := 26) (x := 6) (by decide +kernel) rfl l2035 ?_
          refine x_cV (t := 6) (mj := 69) (n := 4) (rc := 7) (ml := 5) (nr := 0) (np := 29) (as := [x_r ((h 61 1) + 5), iv_c v5, iv_c 2147483651, iv_c v2034]) (rest := []) (lo1 := [x_r ((h 61 1) + 5), iv_c v5, iv_c 2147483651, iv_c v2034, 147573952589676412928]) (by decide +kernel) (by decide) (by decide +kernel) (x_rb_of (tr_5_7 t1)) rfl rfl (x_wr (tn_5 t1) (x_wi l6 (x_wi (by decide) (x_wi l2035 x_wn)))) x_wn (by decide) rfl (c69_T5_c3 j2039 t1 (by first | decide | omega)  (by first | decide | omega)) (fun h2054 q2053 => ?_)
          obtain ⟨j2055, f2056⟩ := q2053
          have f2059 := Fr.trans f2046 f2056 (by decide)
          refine x_const (np := 30) (x := 9223372043297226753) (a := 2147483649) (by decide +kernel) (by decide) (by decide) ?_
          refine x_retI (np := 31) (x := 0) (by decide +kernel) (by decide) (Or.inr ⟨by decide +kernel, by first | decide | omega, by first | decide | omega⟩) ⟨_, rfl, (by decide), ?_⟩
          refine x_ifz (k := 0) (tg := 176) (np := 172) (by decide +kernel) (by decide) (by decide) (fun q2060 => ?_) (fun q2061 => ?_)
          · have q2060 : 2147483649 = 2147483648 := q2060
            exfalso; omega
          have q2061 : ¬ (2147483649 = 2147483648) := q2061
          refine x_const (np := 173) (x := 9223372043297226753) (a := 2147483649) (by decide +kernel) (by decide) (by decide) ?_
          refine x_goto (np := 176) (x := 177) (by decide +kernel) ?_
          have e2062 : rv h 0 = (h (h 61 1) 7) := (congrArg (fun z => svq h z 0) rfl).trans rfl
          have q2063 : h2054 61 1 = h2038 61 1 := f2056 61 1 (by decide +kernel)
          have q2064 : h2038 61 1 = h1832 61 1 := f2040 61 1 (by decide +kernel)
          have q2065 : h1832 61 1 = h1818 61 1 := f1834 61 1 (by decide +kernel)
          have q2066 : h1818 61 1 = h1802 61 1 := f1820 61 1 (by decide +kernel)
          have q2067 : h1802 61 1 = h1647 61 1 := f1804 61 1 (by decide +kernel)
          have q2068 : h1647 61 1 = h1518 61 1 := f1649 61 1 (by decide +kernel)
          have q2069 : h1518 61 1 = h1498 61 1 := f1520 61 1 (by decide +kernel)
          have q2070 : h1498 61 1 = h1484 61 1 := f1500 61 1 (by decide +kernel)
          have q2071 : h1484 61 1 = h1466 61 1 := f1486 61 1 (by decide +kernel)
          have q2072 : h1466 61 1 = h1442 61 1 := f1468 61 1 (by decide +kernel)
          have q2073 : h1442 61 1 = h35 61 1 := f1444 61 1 (by decide +kernel)
          have q2074 : h35 61 1 = h8 61 1 := f37 61 1 (by decide +kernel)
          have q2075 : h8 61 1 = h 61 1 := f10 61 1 (by decide +kernel)
          have q2076 : h2054 (h 61 1) 7 = h2038 (h 61 1) 7 := jK 0 f2056 (rg_T0_7_0_1 t1) (by first | decide | omega) (by first | decide | omega) (by decide)
          have q2077 : h2038 (h 61 1) 7 = h1832 (h 61 1) 7 := jK 0 f2040 (rg_T0_7_0_1 t1) (by first | decide | omega) (by first | decide | omega) (by decide)
          have q2078 : h1832 (h 61 1) 7 = h1818 (h 61 1) 7 := jK 0 f1834 (rg_T0_7_0_1 t1) (by first | decide | omega) (by first | decide | omega) (by decide)
          have q2079 : h1818 (h 61 1) 7 = h1802 (h 61 1) 7 := jK 0 f1820 (rg_T0_7_0_1 t1) (by first | decide | omega) (by first | decide | omega) (by decide)
          have q2080 : h1802 (h 61 1) 7 = h1647 (h 61 1) 7 := jK 0 f1804 (rg_T0_7_0_1 t1) (by first | decide | omega) (by first | decide | omega) (by decide)
          have q2081 : h1647 (h 61 1) 7 = h1518 (h 61 1) 7 := jK 0 f1649 (rg_T0_7_0_1 t1) (by first | decide | omega) (by first | decide | omega) (by decide)
          have q2082 : h1518 (h 61 1) 7 = h1498 (h 61 1) 7 := jK 0 f1520 (rg_T0_7_0_1 t1) (by first | decide | omega) (by first | decide | omega) (by decide)
          have q2083 : h1498 (h 61 1) 7 = h1484 (h 61 1) 7 := jK 0 f1500 (rg_T0_7_0_1 t1) (by first | decide | omega) (by first | decide | omega) (by decide)
          have q2084 : h1484 (h 61 1) 7 = h1466 (h 61 1) 7 := jK 0 f1486 (rg_T0_7_0_1 t1) (by first | decide | omega) (by first | decide | omega) (by decide)
          have q2085 : h1466 (h 61 1) 7 = h1442 (h 61 1) 7 := jK 0 f1468 (rg_T0_7_0_1 t1) (by first | decide | omega) (by first | decide | omega) (by decide)
          have q2086 : h1442 (h 61 1) 7 = h35 (h 61 1) 7 := jK 0 f1444 (rg_T0_7_0_1 t1) (by first | decide | omega) (by first | decide | omega) (by decide)
          have q2087 : h35 (h 61 1) 7 = h8 (h 61 1) 7 := jK 0 f37 (rg_T0_7_0_1 t1) (by first | decide | omega) (by first | decide | omega) (by decide)
          have e2088 : rv h2054 0 = (h8 (h 61 1) 7) := (congrArg (fun z => svq h2054 z 0) ((((((((((((q2063.trans q2064).trans q2065).trans q2066).trans q2067).trans q2068).trans q2069).trans q2070).trans q2071).trans q2072).trans q2073).trans q2074).trans q2075)).trans (((((((((((q2076.trans q2077).trans q2078).trans q2079).trans q2080).trans q2081).trans q2082).trans q2083).trans q2084).trans q2085).trans q2086).trans q2087)
          have e2089 : rv h 1 = (h (h 61 1) 8) := (congrArg (fun z => svq h z 1) rfl).trans rfl
          have q2090 : h2054 61 1 = h2038 61 1 := f2056 61 1 (by decide +kernel)
          have q2091 : h2038 61 1 = h1832 61 1 := f2040 61 1 (by decide +kernel)
          have q2092 : h1832 61 1 = h1818 61 1 := f1834 61 1 (by decide +kernel)
          have q2093 : h1818 61 1 = h1802 61 1 := f1820 61 1 (by decide +kernel)
          have q2094 : h1802 61 1 = h1647 61 1 := f1804 61 1 (by decide +kernel)
          have q2095 : h1647 61 1 = h1518 61 1 := f1649 61 1 (by decide +kernel)
          have q2096 : h1518 61 1 = h1498 61 1 := f1520 61 1 (by decide +kernel)
          have q2097 : h1498 61 1 = h1484 61 1 := f1500 61 1 (by decide +kernel)
          have q2098 : h1484 61 1 = h1466 61 1 := f1486 61 1 (by decide +kernel)
          have q2099 : h1466 61 1 = h1442 61 1 := f1468 61 1 (by decide +kernel)
          have q2100 : h1442 61 1 = h35 61 1 := f1444 61 1 (by decide +kernel)
          have q2101 : h35 61 1 = h8 61 1 := f37 61 1 (by decide +kernel)
          have q2102 : h8 61 1 = h 61 1 := f10 61 1 (by decide +kernel)
          have q2103 : h2054 (h 61 1) 8 = h2038 (h 61 1) 8 := jK 0 f2056 (rg_T0_8_0_1 t1) (by first | decide | omega) (by first | decide | omega) (by decide)
          have q2104 : h2038 (h 61 1) 8 = h1832 (h 61 1) 8 := jK 0 f2040 (rg_T0_8_0_1 t1) (by first | decide | omega) (by first | decide | omega) (by decide)
          have q2105 : h1832 (h 61 1) 8 = h1818 (h 61 1) 8 := jK 0 f1834 (rg_T0_8_0_1 t1) (by first | decide | omega) (by first | decide | omega) (by decide)
          have q2106 : h1818 (h 61 1) 8 = h1802 (h 61 1) 8 := jK 0 f1820 (rg_T0_8_0_1 t1) (by first | decide | omega) (by first | decide | omega) (by decide)
          have q2107 : h1802 (h 61 1) 8 = h1647 (h 61 1) 8 := jK 0 f1804 (rg_T0_8_0_1 t1) (by first | decide | omega) (by first | decide | omega) (by decide)
          have q2108 : h1647 (h 61 1) 8 = h1518 (h 61 1) 8 := jK 0 f1649 (rg_T0_8_0_1 t1) (by first | decide | omega) (by first | decide | omega) (by decide)
          have q2109 : h1518 (h 61 1) 8 = h1498 (h 61 1) 8 := jK 0 f1520 (rg_T0_8_0_1 t1) (by first | decide | omega) (by first | decide | omega) (by decide)
          have q2110 : h1498 (h 61 1) 8 = h1484 (h 61 1) 8 := jK 0 f1500 (rg_T0_8_0_1 t1) (by first | decide | omega) (by first | decide | omega) (by decide)
          have q2111 : h1484 (h 61 1) 8 = h1466 (h 61 1) 8 := jK 0 f1486 (rg_T0_8_0_1 t1) (by first | decide | omega) (by first | decide | omega) (by decide)
          have q2112 : h1466 (h 61 1) 8 = h1442 (h 61 1) 8 := jK 0 f1468 (rg_T0_8_0_1 t1) (by first | decide | omega) (by first | decide | omega) (by decide)
          have q2113 : h1442 (h 61 1) 8 = h35 (h 61 1) 8 := jK 0 f1444 (rg_T0_8_0_1 t1) (by first | decide | omega) (by first | decide | omega) (by decide)
          have q2114 : h35 (h 61 1) 8 = h8 (h 61 1) 8 := jK 0 f37 (rg_T0_8_0_1 t1) (by first | decide | omega) (by first | decide | omega) (by decide)
          have e2115 : rv h2054 1 = (h8 (h 61 1) 8) := (congrArg (fun z => svq h2054 z 1) ((((((((((((q2090.trans q2091).trans q2092).trans q2093).trans q2094).trans q2095).trans q2096).trans q2097).trans q2098).trans q2099).trans q2100).trans q2101).trans q2102)).trans (((((((((((q2103.trans q2104).trans q2105).trans q2106).trans q2107).trans q2108).trans q2109).trans q2110).trans q2111).trans q2112).trans q2113).trans q2114)
          have e2116 : rv h 2 = (h ((h 61 1) + 1) 2) := (congrArg (fun z => svq h z 2) rfl).trans rfl
          have q2117 : h2054 61 1 = h2038 61 1 := f2056 61 1 (by decide +kernel)
          have q2118 : h2038 61 1 = h1832 61 1 := f2040 61 1 (by decide +kernel)
          have q2119 : h1832 61 1 = h1818 61 1 := f1834 61 1 (by decide +kernel)
          have q2120 : h1818 61 1 = h1802 61 1 := f1820 61 1 (by decide +kernel)
          have q2121 : h1802 61 1 = h1647 61 1 := f1804 61 1 (by decide +kernel)
          have q2122 : h1647 61 1 = h1518 61 1 := f1649 61 1 (by decide +kernel)
          have q2123 : h1518 61 1 = h1498 61 1 := f1520 61 1 (by decide +kernel)
          have q2124 : h1498 61 1 = h1484 61 1 := f1500 61 1 (by decide +kernel)
          have q2125 : h1484 61 1 = h1466 61 1 := f1486 61 1 (by decide +kernel)
          have q2126 : h1466 61 1 = h1442 61 1 := f1468 61 1 (by decide +kernel)
          have q2127 : h1442 61 1 = h35 61 1 := f1444 61 1 (by decide +kernel)
          have q2128 : h35 61 1 = h8 61 1 := f37 61 1 (by decide +kernel)
          have q2129 : h8 61 1 = h 61 1 := f10 61 1 (by decide +kernel)
          have q2130 : h2054 ((h 61 1) + 1) 2 = h2038 ((h 61 1) + 1) 2 := jK 0 f2056 (rg_T1_2_0_1 t1) (by first | decide | omega) (by first | decide | omega) (by decide)
          have q2131 : h2038 ((h 61 1) + 1) 2 = h1832 ((h 61 1) + 1) 2 := jK 0 f2040 (rg_T1_2_0_1 t1) (by first | decide | omega) (by first | decide | omega) (by decide)
          have q2132 : h1832 ((h 61 1) + 1) 2 = h1818 ((h 61 1) + 1) 2 := jK 0 f1834 (rg_T1_2_0_1 t1) (by first | decide | omega) (by first | decide | omega) (by decide)
          have q2133 : h1818 ((h 61 1) + 1) 2 = h1802 ((h 61 1) + 1) 2 := jK 0 f1820 (rg_T1_2_0_1 t1) (by first | decide | omega) (by first | decide | omega) (by decide)
          have q2134 : h1802 ((h 61 1) + 1) 2 = h1647 ((h 61 1) + 1) 2 := jK 0 f1804 (rg_T1_2_0_1 t1) (by first | decide | omega) (by first | decide | omega) (by decide)
          have q2135 : h1647 ((h 61 1) + 1) 2 = h1518 ((h 61 1) + 1) 2 := jK 0 f1649 (rg_T1_2_0_1 t1) (by first | decide | omega) (by first | decide | omega) (by decide)
          have q2136 : h1518 ((h 61 1) + 1) 2 = h1498 ((h 61 1) + 1) 2 := jK 0 f1520 (rg_T1_2_0_1 t1) (by first | decide | omega) (by first | decide | omega) (by decide)
          have q2137 : h1498 ((h 61 1) + 1) 2 = h1484 ((h 61 1) + 1) 2 := jK 0 f1500 (rg_T1_2_0_1 t1) (by first | decide | omega) (by first | decide | omega) (by decide)
          have q2138 : h1484 ((h 61 1) + 1) 2 = h1466 ((h 61 1) + 1) 2 := jK 0 f1486 (rg_T1_2_0_1 t1) (by first | decide | omega) (by first | decide | omega) (by decide)
          have q2139 : h1466 ((h 61 1) + 1) 2 = h1442 ((h 61 1) + 1) 2 := jK 0 f1468 (rg_T1_2_0_1 t1) (by first | decide | omega) (by first | decide | omega) (by decide)
          have q2140 : h1442 ((h 61 1) + 1) 2 = h35 ((h 61 1) + 1) 2 := jK 0 f1444 (rg_T1_2_0_1 t1) (by first | decide | omega) (by first | decide | omega) (by decide)
          have q2141 : h35 ((h 61 1) + 1) 2 = h8 ((h 61 1) + 1) 2 := jK 0 f37 (rg_T1_2_0_1 t1) (by first | decide | omega) (by first | decide | omega) (by decide)
          have e2142 : rv h2054 2 = (h8 ((h 61 1) + 1) 2) := (congrArg (fun z => svq h2054 z 2) ((((((((((((q2117.trans q2118).trans q2119).trans q2120).trans q2121).trans q2122).trans q2123).trans q2124).trans q2125).trans q2126).trans q2127).trans q2128).trans q2129)).trans (((((((((((q2130.trans q2131).trans q2132).trans q2133).trans q2134).trans q2135).trans q2136).trans q2137).trans q2138).trans q2139).trans q2140).trans q2141)
          have e2143 : rv h 3 = (h ((h 61 1) + 3) 2) := (congrArg (fun z => svq h z 3) rfl).trans rfl
          have q2144 : h2054 61 1 = h2038 61 1 := f2056 61 1 (by decide +kernel)
          have q2145 : h2038 61 1 = h1832 61 1 := f2040 61 1 (by decide +kernel)
          have q2146 : h1832 61 1 = h1818 61 1 := f1834 61 1 (by decide +kernel)
          have q2147 : h1818 61 1 = h1802 61 1 := f1820 61 1 (by decide +kernel)
          have q2148 : h1802 61 1 = h1647 61 1 := f1804 61 1 (by decide +kernel)
          have q2149 : h1647 61 1 = h1518 61 1 := f1649 61 1 (by decide +kernel)
          have q2150 : h1518 61 1 = h1498 61 1 := f1520 61 1 (by decide +kernel)
          have q2151 : h1498 61 1 = h1484 61 1 := f1500 61 1 (by decide +kernel)
          have q2152 : h1484 61 1 = h1466 61 1 := f1486 61 1 (by decide +kernel)
          have q2153 : h1466 61 1 = h1442 61 1 := f1468 61 1 (by decide +kernel)
          have q2154 : h1442 61 1 = h35 61 1 := f1444 61 1 (by decide +kernel)
          have q2155 : h35 61 1 = h8 61 1 := f37 61 1 (by decide +kernel)
          have q2156 : h8 61 1 = h 61 1 := f10 61 1 (by decide +kernel)
          have q2157 : h2054 ((h 61 1) + 3) 2 = h2038 ((h 61 1) + 3) 2 := jK 0 f2056 (rg_T3_2_0_1 t1) (by first | decide | omega) (by first | decide | omega) (by decide)
          have q2158 : h2038 ((h 61 1) + 3) 2 = h1832 ((h 61 1) + 3) 2 := jK 0 f2040 (rg_T3_2_0_1 t1) (by first | decide | omega) (by first | decide | omega) (by decide)
          have q2159 : h1832 ((h 61 1) + 3) 2 = h1818 ((h 61 1) + 3) 2 := jK 0 f1834 (rg_T3_2_0_1 t1) (by first | decide | omega) (by first | decide | omega) (by decide)
          have q2160 : h1818 ((h 61 1) + 3) 2 = h1802 ((h 61 1) + 3) 2 := jK 0 f1820 (rg_T3_2_0_1 t1) (by first | decide | omega) (by first | decide | omega) (by decide)
          have q2161 : h1802 ((h 61 1) + 3) 2 = h1647 ((h 61 1) + 3) 2 := jK 0 f1804 (rg_T3_2_0_1 t1) (by first | decide | omega) (by first | decide | omega) (by decide)
          have q2162 : h1647 ((h 61 1) + 3) 2 = h1518 ((h 61 1) + 3) 2 := jK 0 f1649 (rg_T3_2_0_1 t1) (by first | decide | omega) (by first | decide | omega) (by decide)
          have q2163 : h1518 ((h 61 1) + 3) 2 = h1498 ((h 61 1) + 3) 2 := jK 0 f1520 (rg_T3_2_0_1 t1) (by first | decide | omega) (by first | decide | omega) (by decide)
          have q2164 : h1498 ((h 61 1) + 3) 2 = h1484 ((h 61 1) + 3) 2 := jK 0 f1500 (rg_T3_2_0_1 t1) (by first | decide | omega) (by first | decide | omega) (by decide)
          have q2165 : h1484 ((h 61 1) + 3) 2 = h1466 ((h 61 1) + 3) 2 := jK 0 f1486 (rg_T3_2_0_1 t1) (by first | decide | omega) (by first | decide | omega) (by decide)
          have q2166 : h1466 ((h 61 1) + 3) 2 = h1442 ((h 61 1) + 3) 2 := jK 0 f1468 (rg_T3_2_0_1 t1) (by first | decide | omega) (by first | decide | omega) (by decide)
          have q2167 : h1442 ((h 61 1) + 3) 2 = h35 ((h 61 1) + 3) 2 := jK 0 f1444 (rg_T3_2_0_1 t1) (by first | decide | omega) (by first | decide | omega) (by decide)
          have q2168 : h35 ((h 61 1) + 3) 2 = h8 ((h 61 1) + 3) 2 := jK 0 f37 (rg_T3_2_0_1 t1) (by first | decide | omega) (by first | decide | omega) (by decide)
          have e2169 : rv h2054 3 = (h8 ((h 61 1) + 3) 2) := (congrArg (fun z => svq h2054 z 3) ((((((((((((q2144.trans q2145).trans q2146).trans q2147).trans q2148).trans q2149).trans q2150).trans q2151).trans q2152).trans q2153).trans q2154).trans q2155).trans q2156)).trans (((((((((((q2157.trans q2158).trans q2159).trans q2160).trans q2161).trans q2162).trans q2163).trans q2164).trans q2165).trans q2166).trans q2167).trans q2168)
          have q2170 : h2054 61 1 = h2038 61 1 := f2056 61 1 (by decide +kernel)
          have q2171 : h2038 61 1 = h1832 61 1 := f2040 61 1 (by decide +kernel)
          have q2172 : h1832 61 1 = h1818 61 1 := f1834 61 1 (by decide +kernel)
          have q2173 : h1818 61 1 = h1802 61 1 := f1820 61 1 (by decide +kernel)
          have q2174 : h1802 61 1 = h1647 61 1 := f1804 61 1 (by decide +kernel)
          have q2175 : h1647 61 1 = h1518 61 1 := f1649 61 1 (by decide +kernel)
          have q2176 : h1518 61 1 = h1498 61 1 := f1520 61 1 (by decide +kernel)
          have q2177 : h1498 61 1 = h1484 61 1 := f1500 61 1 (by decide +kernel)
          have q2178 : h1484 61 1 = h1466 61 1 := f1486 61 1 (by decide +kernel)
          have q2179 : h1466 61 1 = h1442 61 1 := f1468 61 1 (by decide +kernel)
          have q2180 : h1442 61 1 = h35 61 1 := f1444 61 1 (by decide +kernel)
          have q2181 : h35 61 1 = h8 61 1 := f37 61 1 (by decide +kernel)
          have q2182 : h8 61 1 = h 61 1 := f10 61 1 (by decide +kernel)
          have q2183 : h2054 ((h 61 1) + 5) 2 = h2038 ((h 61 1) + 5) 2 := jK 0 f2056 (rg_T5_2_0_1 t1) (by first | decide | omega) (by first | decide | omega) (by decide)
          have q2184 : h2038 ((h 61 1) + 5) 2 = h1832 ((h 61 1) + 5) 2 := jK 0 f2040 (rg_T5_2_0_1 t1) (by first | decide | omega) (by first | decide | omega) (by decide)
          have q2185 : h1832 ((h 61 1) + 5) 2 = h1818 ((h 61 1) + 5) 2 := jK 0 f1834 (rg_T5_2_0_1 t1) (by first | decide | omega) (by first | decide | omega) (by decide)
          have q2186 : h1818 ((h 61 1) + 5) 2 = h1802 ((h 61 1) + 5) 2 := jK 0 f1820 (rg_T5_2_0_1 t1) (by first | decide | omega) (by first | decide | omega) (by decide)
          have q2187 : h1802 ((h 61 1) + 5) 2 = h1647 ((h 61 1) + 5) 2 := jK 0 f1804 (rg_T5_2_0_1 t1) (by first | decide | omega) (by first | decide | omega) (by decide)
          have q2188 : h1647 ((h 61 1) + 5) 2 = h1518 ((h 61 1) + 5) 2 := jK 0 f1649 (rg_T5_2_0_1 t1) (by first | decide | omega) (by first | decide | omega) (by decide)
          have q2189 : h1518 ((h 61 1) + 5) 2 = h1498 ((h 61 1) + 5) 2 := jK 0 f1520 (rg_T5_2_0_1 t1) (by first | decide | omega) (by first | decide | omega) (by decide)
          have q2190 : h1498 ((h 61 1) + 5) 2 = h1484 ((h 61 1) + 5) 2 := jK 0 f1500 (rg_T5_2_0_1 t1) (by first | decide | omega) (by first | decide | omega) (by decide)
          have q2191 : h1484 ((h 61 1) + 5) 2 = h1466 ((h 61 1) + 5) 2 := jK 0 f1486 (rg_T5_2_0_1 t1) (by first | decide | omega) (by first | decide | omega) (by decide)
          have q2192 : h1466 ((h 61 1) + 5) 2 = h1442 ((h 61 1) + 5) 2 := jK 0 f1468 (rg_T5_2_0_1 t1) (by first | decide | omega) (by first | decide | omega) (by decide)
          have q2193 : h1442 ((h 61 1) + 5) 2 = h35 ((h 61 1) + 5) 2 := jK 0 f1444 (rg_T5_2_0_1 t1) (by first | decide | omega) (by first | decide | omega) (by decide)
          have q2194 : h35 ((h 61 1) + 5) 2 = h8 ((h 61 1) + 5) 2 := jK 0 f37 (rg_T5_2_0_1 t1) (by first | decide | omega) (by first | decide | omega) (by decide)
          have e2195 : rv h2054 4 = (h8 ((h 61 1) + 5) 2) := (congrArg (fun z => svq h2054 z 4) ((((((((((((q2170.trans q2171).trans q2172).trans q2173).trans q2174).trans q2175).trans q2176).trans q2177).trans q2178).trans q2179).trans q2180).trans q2181).trans q2182)).trans (((((((((((q2183.trans q2184).trans q2185).trans q2186).trans q2187).trans q2188).trans q2189).trans q2190).trans q2191).trans q2192).trans q2193).trans q2194)
          have e2196 : rv h 5 = (h ((h 61 1) + 7) 2) := (congrArg (fun z => svq h z 5) rfl).trans rfl
          have q2197 : h2054 61 1 = h2038 61 1 := f2056 61 1 (by decide +kernel)
          have q2198 : h2038 61 1 = h1832 61 1 := f2040 61 1 (by decide +kernel)
          have q2199 : h1832 61 1 = h1818 61 1 := f1834 61 1 (by decide +kernel)
          have q2200 : h1818 61 1 = h1802 61 1 := f1820 61 1 (by decide +kernel)
          have q2201 : h1802 61 1 = h1647 61 1 := f1804 61 1 (by decide +kernel)
          have q2202 : h1647 61 1 = h1518 61 1 := f1649 61 1 (by decide +kernel)
          have q2203 : h1518 61 1 = h1498 61 1 := f1520 61 1 (by decide +kernel)
          have q2204 : h1498 61 1 = h1484 61 1 := f1500 61 1 (by decide +kernel)
          have q2205 : h1484 61 1 = h1466 61 1 := f1486 61 1 (by decide +kernel)
          have q2206 : h1466 61 1 = h1442 61 1 := f1468 61 1 (by decide +kernel)
          have q2207 : h1442 61 1 = h35 61 1 := f1444 61 1 (by decide +kernel)
          have q2208 : h35 61 1 = h8 61 1 := f37 61 1 (by decide +kernel)
          have q2209 : h8 61 1 = h 61 1 := f10 61 1 (by decide +kernel)
          have q2210 : h2054 ((h 61 1) + 7) 2 = h2038 ((h 61 1) + 7) 2 := jK 0 f2056 (rg_T7_2_0_1 t1) (by first | decide | omega) (by first | decide | omega) (by decide)
          have q2211 : h2038 ((h 61 1) + 7) 2 = h1832 ((h 61 1) + 7) 2 := jK 0 f2040 (rg_T7_2_0_1 t1) (by first | decide | omega) (by first | decide | omega) (by decide)
          have q2212 : h1832 ((h 61 1) + 7) 2 = h1818 ((h 61 1) + 7) 2 := jK 0 f1834 (rg_T7_2_0_1 t1) (by first | decide | omega) (by first | decide | omega) (by decide)
          have q2213 : h1818 ((h 61 1) + 7) 2 = h1802 ((h 61 1) + 7) 2 := jK 0 f1820 (rg_T7_2_0_1 t1) (by first | decide | omega) (by first | decide | omega) (by decide)
          have q2214 : h1802 ((h 61 1) + 7) 2 = h1647 ((h 61 1) + 7) 2 := jK 0 f1804 (rg_T7_2_0_1 t1) (by first | decide | omega) (by first | decide | omega) (by decide)
          have q2215 : h1647 ((h 61 1) + 7) 2 = h1518 ((h 61 1) + 7) 2 := jK 0 f1649 (rg_T7_2_0_1 t1) (by first | decide | omega) (by first | decide | omega) (by decide)
          have q2216 : h1518 ((h 61 1) + 7) 2 = h1498 ((h 61 1) + 7) 2 := jK 0 f1520 (rg_T7_2_0_1 t1) (by first | decide | omega) (by first | decide | omega) (by decide)
          have q2217 : h1498 ((h 61 1) + 7) 2 = h1484 ((h 61 1) + 7) 2 := jK 0 f1500 (rg_T7_2_0_1 t1) (by first | decide | omega) (by first | decide | omega) (by decide)
          have q2218 : h1484 ((h 61 1) + 7) 2 = h1466 ((h 61 1) + 7) 2 := jK 0 f1486 (rg_T7_2_0_1 t1) (by first | decide | omega) (by first | decide | omega) (by decide)
          have q2219 : h1466 ((h 61 1) + 7) 2 = h1442 ((h 61 1) + 7) 2 := jK 0 f1468 (rg_T7_2_0_1 t1) (by first | decide | omega) (by first | decide | omega) (by decide)
          have q2220 : h1442 ((h 61 1) + 7) 2 = h35 ((h 61 1) + 7) 2 := jK 0 f1444 (rg_T7_2_0_1 t1) (by first | decide | omega) (by first | decide | omega) (by decide)
          have q2221 : h35 ((h 61 1) + 7) 2 = h8 ((h 61 1) + 7) 2 := jK 0 f37 (rg_T7_2_0_1 t1) (by first | decide | omega) (by first | decide | omega) (by decide)
          have e2222 : rv h2054 5 = (h8 ((h 61 1) + 7) 2) := (congrArg (fun z => svq h2054 z 5) ((((((((((((q2197.trans q2198).trans q2199).trans q2200).trans q2201).trans q2202).trans q2203).trans q2204).trans q2205).trans q2206).trans q2207).trans q2208).trans q2209)).trans (((((((((((q2210.trans q2211).trans q2212).trans q2213).trans q2214).trans q2215).trans q2216).trans q2217).trans q2218).trans q2219).trans q2220).trans q2221)
          have q2223 : h8 1 2 = h 1 2 := jK 0 f10 rg_1_2_0_1 (by first | decide | omega) (by first | decide | omega) (by decide)
          obtain ⟨w2224, e2225⟩ := Tk.yes c41 (by first | decide | omega)
          have q2226 : h1442 1 2 = h35 1 2 := jK 0 f1444 rg_1_2_0_1 (by first | decide | omega) (by first | decide | omega) (by decide)
          have q2227 : h1484 1 2 = h1466 1 2 := jK 0 f1486 rg_1_2_0_1 (by first | decide | omega) (by first | decide | omega) (by decide)
          obtain ⟨w2228, e2229⟩ := Tk.yes c1504 (by first | decide | omega)
          obtain ⟨w2230, e2231⟩ := Tk.yes c1653 (by first | decide | omega)
          have q2232 : h1818 1 2 = h1802 1 2 := jK 0 f1820 rg_1_2_0_1 (by first | decide | omega) (by first | decide | omega) (by decide)
          obtain ⟨w2233, e2234⟩ := Tk.yes c1838 (by first | decide | omega)
          have q2235 : h2054 1 2 = h2038 1 2 := jK 0 f2056 rg_1_2_0_1 (by first | decide | omega) (by first | decide | omega) (by decide)
          have m2236 : Ot (h 61 1) h h8 := Ot.trans Ot.refl (c19)
          have m2237 : Ot (h 61 1) h h35 := Ot.fr m2236 f37 (by decide)
          have m2238 : Ot (h 61 1) h h1442 := Ot.fr m2237 f1444 (by decide)
          have m2239 : Ot (h 61 1) h h1466 := Ot.fr m2238 f1468 (by decide)
          have m2240 : Ot (h 61 1) h h1484 := Ot.fr m2239 f1486 (by decide)
          have m2241 : Ot (h 61 1) h h1498 := Ot.fr m2240 f1500 (by decide)
          have m2242 : Ot (h 61 1) h h1518 := Ot.fr m2241 f1520 (by decide)
          have m2243 : Ot (h 61 1) h h1647 := Ot.fr m2242 f1649 (by decide)
          have m2244 : Ot (h 61 1) h h1802 := Ot.fr m2243 f1804 (by decide)
          have m2245 : Ot (h 61 1) h h1818 := Ot.fr m2244 f1820 (by decide)
          have m2246 : Ot (h 61 1) h h1832 := Ot.fr m2245 f1834 (by decide)
          have m2247 : Ot (h 61 1) h h2038 := Ot.fr m2246 f2040 (by decide)
          have m2248 : Ot (h 61 1) h h2054 := Ot.fr m2247 f2056 (by decide)
          refine x_retI (np := 178) (x := 0) (by decide +kernel) (by decide) (Or.inr ⟨by decide +kernel, by first | decide | omega, by first | decide | omega⟩) ⟨_, rfl, (by decide), ?_⟩
          exact ⟨j2055, f2059, (by first | decide | omega), (by first | decide | omega), (by first | decide | omega), (by first | decide | omega), (by first | decide | omega), (fun z => by first | decide | omega), (by first | decide | omega), (or9.y w2224 (show h8 1 2 = h 1 2 by first | decide | omega) e2225 rfl (nm9.y c1473 (by first | decide | omega) (by first | decide | omega) (show h1442 1 2 = h35 1 2 by first | decide | omega) (by first | decide | omega) rfl (wd9.y w2228 (show h1484 1 2 = h1466 1 2 by first | decide | omega) e2229 rfl (nm9.y c1525 (by first | decide | omega) (by first | decide | omega) rfl (by first | decide | omega) rfl (wd9.y w2230 rfl e2231 rfl (nm9.y c1809 (by first | decide | omega) (by first | decide | omega) rfl (by first | decide | omega) rfl (wd9.y w2233 (show h1818 1 2 = h1802 1 2 by first | decide | omega) e2234 rfl (nm9.y c2045 (by first | decide | omega) (by first | decide | omega) rfl (by first | decide | omega) rfl (fin9.mk (by first | decide | omega) (show h2038 1 2 = h2054 1 2 by first | decide | omega)))))))))), m2248, (fun z => absurd z (by first | decide | omega))⟩
        have q2049 : ¬ (v2034 ≠ 2147483647) := q2049
        have b2249 := c2044 (by first | decide | omega)
        refine x_const (np := 20) (x := 9223372039002259456) (a := 2147483648) (by decide +kernel) (by decide) (by decide) ?_
        refine x_retI (np := 21) (x := 0) (by decide +kernel) (by decide) (Or.inr ⟨by decide +kernel, by first | decide | omega, by first | decide | omega⟩) ⟨_, rfl, (by decide), ?_⟩
        refine x_ifz (k := 0) (tg := 176) (np := 172) (by decide +kernel) (by decide) (by decide) (fun q2250 => ?_) (fun q2251 => ?_)
        · have q2250 : 2147483648 = 2147483648 := q2250
          refine x_const (np := 177) (x := 9223372039002259456) (a := 2147483648) (by decide +kernel) (by decide) (by decide) ?_
          have e2252 : rv h 0 = (h (h 61 1) 7) := (congrArg (fun z => svq h z 0) rfl).trans rfl
          have q2253 : h2038 61 1 = h1832 61 1 := f2040 61 1 (by decide +kernel)
          have q2254 : h1832 61 1 = h1818 61 1 := f1834 61 1 (by decide +kernel)
          have q2255 : h1818 61 1 = h1802 61 1 := f1820 61 1 (by decide +kernel)
          have q2256 : h1802 61 1 = h1647 61 1 := f1804 61 1 (by decide +kernel)
          have q2257 : h1647 61 1 = h1518 61 1 := f1649 61 1 (by decide +kernel)
          have q2258 : h1518 61 1 = h1498 61 1 := f1520 61 1 (by decide +kernel)
          have q2259 : h1498 61 1 = h1484 61 1 := f1500 61 1 (by decide +kernel)
          have q2260 : h1484 61 1 = h1466 61 1 := f1486 61 1 (by decide +kernel)
          have q2261 : h1466 61 1 = h1442 61 1 := f1468 61 1 (by decide +kernel)
          have q2262 : h1442 61 1 = h35 61 1 := f1444 61 1 (by decide +kernel)
          have q2263 : h35 61 1 = h8 61 1 := f37 61 1 (by decide +kernel)
          have q2264 : h8 61 1 = h 61 1 := f10 61 1 (by decide +kernel)
          have q2265 : h2038 (h 61 1) 7 = h1832 (h 61 1) 7 := jK 0 f2040 (rg_T0_7_0_1 t1) (by first | decide | omega) (by first | decide | omega) (by decide)
          have q2266 : h1832 (h 61 1) 7 = h1818 (h 61 1) 7 := jK 0 f1834 (rg_T0_7_0_1 t1) (by first | decide | omega) (by first | decide | omega) (by decide)
          have q2267 : h1818 (h 61 1) 7 = h1802 (h 61 1) 7 := jK 0 f1820 (rg_T0_7_0_1 t1) (by first | decide | omega) (by first | decide | omega) (by decide)
          have q2268 : h1802 (h 61 1) 7 = h1647 (h 61 1) 7 := jK 0 f1804 (rg_T0_7_0_1 t1) (by first | decide | omega) (by first | decide | omega) (by decide)
          have q2269 : h1647 (h 61 1) 7 = h1518 (h 61 1) 7 := jK 0 f1649 (rg_T0_7_0_1 t1) (by first | decide | omega) (by first | decide | omega) (by decide)
          have q2270 : h1518 (h 61 1) 7 = h1498 (h 61 1) 7 := jK 0 f1520 (rg_T0_7_0_1 t1) (by first | decide | omega) (by first | decide | omega) (by decide)
          have q2271 : h1498 (h 61 1) 7 = h1484 (h 61 1) 7 := jK 0 f1500 (rg_T0_7_0_1 t1) (by first | decide | omega) (by first | decide | omega) (by decide)
          have q2272 : h1484 (h 61 1) 7 = h1466 (h 61 1) 7 := jK 0 f1486 (rg_T0_7_0_1 t1) (by first | decide | omega) (by first | decide | omega) (by decide)
          have q2273 : h1466 (h 61 1) 7 = h1442 (h 61 1) 7 := jK 0 f1468 (rg_T0_7_0_1 t1) (by first | decide | omega) (by first | decide | omega) (by decide)
          have q2274 : h1442 (h 61 1) 7 = h35 (h 61 1) 7 := jK 0 f1444 (rg_T0_7_0_1 t1) (by first | decide | omega) (by first | decide | omega) (by decide)
          have q2275 : h35 (h 61 1) 7 = h8 (h 61 1) 7 := jK 0 f37 (rg_T0_7_0_1 t1) (by first | decide | omega) (by first | decide | omega) (by decide)
          have e2276 : rv h2038 0 = (h8 (h 61 1) 7) := (congrArg (fun z => svq h2038 z 0) (((((((((((q2253.trans q2254).trans q2255).trans q2256).trans q2257).trans q2258).trans q2259).trans q2260).trans q2261).trans q2262).trans q2263).trans q2264)).trans ((((((((((q2265.trans q2266).trans q2267).trans q2268).trans q2269).trans q2270).trans q2271).trans q2272).trans q2273).trans q2274).trans q2275)
          have e2277 : rv h 1 = (h (h 61 1) 8) := (congrArg (fun z => svq h z 1) rfl).trans rfl
          have q2278 : h2038 61 1 = h1832 61 1 := f2040 61 1 (by decide +kernel)
          have q2279 : h1832 61 1 = h1818 61 1 := f1834 61 1 (by decide +kernel)
          have q2280 : h1818 61 1 = h1802 61 1 := f1820 61 1 (by decide +kernel)
          have q2281 : h1802 61 1 = h1647 61 1 := f1804 61 1 (by decide +kernel)
          have q2282 : h1647 61 1 = h1518 61 1 := f1649 61 1 (by decide +kernel)
          have q2283 : h1518 61 1 = h1498 61 1 := f1520 61 1 (by decide +kernel)
          have q2284 : h1498 61 1 = h1484 61 1 := f1500 61 1 (by decide +kernel)
          have q2285 : h1484 61 1 = h1466 61 1 := f1486 61 1 (by decide +kernel)
          have q2286 : h1466 61 1 = h1442 61 1 := f1468 61 1 (by decide +kernel)
          have q2287 : h1442 61 1 = h35 61 1 := f1444 61 1 (by decide +kernel)
          have q2288 : h35 61 1 = h8 61 1 := f37 61 1 (by decide +kernel)
          have q2289 : h8 61 1 = h 61 1 := f10 61 1 (by decide +kernel)
          have q2290 : h2038 (h 61 1) 8 = h1832 (h 61 1) 8 := jK 0 f2040 (rg_T0_8_0_1 t1) (by first | decide | omega) (by first | decide | omega) (by decide)
          have q2291 : h1832 (h 61 1) 8 = h1818 (h 61 1) 8 := jK 0 f1834 (rg_T0_8_0_1 t1) (by first | decide | omega) (by first | decide | omega) (by decide)
          have q2292 : h1818 (h 61 1) 8 = h1802 (h 61 1) 8 := jK 0 f1820 (rg_T0_8_0_1 t1) (by first | decide | omega) (by first | decide | omega) (by decide)
          have q2293 : h1802 (h 61 1) 8 = h1647 (h 61 1) 8 := jK 0 f1804 (rg_T0_8_0_1 t1) (by first | decide | omega) (by first | decide | omega) (by decide)
          have q2294 : h1647 (h 61 1) 8 = h1518 (h 61 1) 8 := jK 0 f1649 (rg_T0_8_0_1 t1) (by first | decide | omega) (by first | decide | omega) (by decide)
          have q2295 : h1518 (h 61 1) 8 = h1498 (h 61 1) 8 := jK 0 f1520 (rg_T0_8_0_1 t1) (by first | decide | omega) (by first | decide | omega) (by decide)
          have q2296 : h1498 (h 61 1) 8 = h1484 (h 61 1) 8 := jK 0 f1500 (rg_T0_8_0_1 t1) (by first | decide | omega) (by first | decide | omega) (by decide)
          have q2297 : h1484 (h 61 1) 8 = h1466 (h 61 1) 8 := jK 0 f1486 (rg_T0_8_0_1 t1) (by first | decide | omega) (by first | decide | omega) (by decide)
          have q2298 : h1466 (h 61 1) 8 = h1442 (h 61 1) 8 := jK 0 f1468 (rg_T0_8_0_1 t1) (by first | decide | omega) (by first | decide | omega) (by decide)
          have q2299 : h1442 (h 61 1) 8 = h35 (h 61 1) 8 := jK 0 f1444 (rg_T0_8_0_1 t1) (by first | decide | omega) (by first | decide | omega) (by decide)
          have q2300 : h35 (h 61 1) 8 = h8 (h 61 1) 8 := jK 0 f37 (rg_T0_8_0_1 t1) (by first | decide | omega) (by first | decide | omega) (by decide)
          have e2301 : rv h2038 1 = (h8 (h 61 1) 8) := (congrArg (fun z => svq h2038 z 1) (((((((((((q2278.trans q2279).trans q2280).trans q2281).trans q2282).trans q2283).trans q2284).trans q2285).trans q2286).trans q2287).trans q2288).trans q2289)).trans ((((((((((q2290.trans q2291).trans q2292).trans q2293).trans q2294).trans q2295).trans q2296).trans q2297).trans q2298).trans q2299).trans q2300)
          have e2302 : rv h 2 = (h ((h 61 1) + 1) 2) := (congrArg (fun z => svq h z 2) rfl).trans rfl
          have q2303 : h2038 61 1 = h1832 61 1 := f2040 61 1 (by decide +kernel)
          have q2304 : h1832 61 1 = h1818 61 1 := f1834 61 1 (by decide +kernel)
          have q2305 : h1818 61 1 = h1802 61 1 := f1820 61 1 (by decide +kernel)
          have q2306 : h1802 61 1 = h1647 61 1 := f1804 61 1 (by decide +kernel)
          have q2307 : h1647 61 1 = h1518 61 1 := f1649 61 1 (by decide +kernel)
          have q2308 : h1518 61 1 = h1498 61 1 := f1520 61 1 (by decide +kernel)
          have q2309 : h1498 61 1 = h1484 61 1 := f1500 61 1 (by decide +kernel)
          have q2310 : h1484 61 1 = h1466 61 1 := f1486 61 1 (by decide +kernel)
          have q2311 : h1466 61 1 = h1442 61 1 := f1468 61 1 (by decide +kernel)
          have q2312 : h1442 61 1 = h35 61 1 := f1444 61 1 (by decide +kernel)
          have q2313 : h35 61 1 = h8 61 1 := f37 61 1 (by decide +kernel)
          have q2314 : h8 61 1 = h 61 1 := f10 61 1 (by decide +kernel)
          have q2315 : h2038 ((h 61 1) + 1) 2 = h1832 ((h 61 1) + 1) 2 := jK 0 f2040 (rg_T1_2_0_1 t1) (by first | decide | omega) (by first | decide | omega) (by decide)
          have q2316 : h1832 ((h 61 1) + 1) 2 = h1818 ((h 61 1) + 1) 2 := jK 0 f1834 (rg_T1_2_0_1 t1) (by first | decide | omega) (by first | decide | omega) (by decide)
          have q2317 : h1818 ((h 61 1) + 1) 2 = h1802 ((h 61 1) + 1) 2 := jK 0 f1820 (rg_T1_2_0_1 t1) (by first | decide | omega) (by first | decide | omega) (by decide)
          have q2318 : h1802 ((h 61 1) + 1) 2 = h1647 ((h 61 1) + 1) 2 := jK 0 f1804 (rg_T1_2_0_1 t1) (by first | decide | omega) (by first | decide | omega) (by decide)
          have q2319 : h1647 ((h 61 1) + 1) 2 = h1518 ((h 61 1) + 1) 2 := jK 0 f1649 (rg_T1_2_0_1 t1) (by first | decide | omega) (by first | decide | omega) (by decide)
          have q2320 : h1518 ((h 61 1) + 1) 2 = h1498 ((h 61 1) + 1) 2 := jK 0 f1520 (rg_T1_2_0_1 t1) (by first | decide | omega) (by first | decide | omega) (by decide)
          have q2321 : h1498 ((h 61 1) + 1) 2 = h1484 ((h 61 1) + 1) 2 := jK 0 f1500 (rg_T1_2_0_1 t1) (by first | decide | omega) (by first | decide | omega) (by decide)
          have q2322 : h1484 ((h 61 1) + 1) 2 = h1466 ((h 61 1) + 1) 2 := jK 0 f1486 (rg_T1_2_0_1 t1) (by first | decide | omega) (by first | decide | omega) (by decide)
          have q2323 : h1466 ((h 61 1) + 1) 2 = h1442 ((h 61 1) + 1) 2 := jK 0 f1468 (rg_T1_2_0_1 t1) (by first | decide | omega) (by first | decide | omega) (by decide)
          have q2324 : h1442 ((h 61 1) + 1) 2 = h35 ((h 61 1) + 1) 2 := jK 0 f1444 (rg_T1_2_0_1 t1) (by first | decide | omega) (by first | decide | omega) (by decide)
          have q2325 : h35 ((h 61 1) + 1) 2 = h8 ((h 61 1) + 1) 2 := jK 0 f37 (rg_T1_2_0_1 t1) (by first | decide | omega) (by first | decide | omega) (by decide)
          have e2326 : rv h2038 2 = (h8 ((h 61 1) + 1) 2) := (congrArg (fun z => svq h2038 z 2) (((((((((((q2303.trans q2304).trans q2305).trans q2306).trans q2307).trans q2308).trans q2309).trans q2310).trans q2311).trans q2312).trans q2313).trans q2314)).trans ((((((((((q2315.trans q2316).trans q2317).trans q2318).trans q2319).trans q2320).trans q2321).trans q2322).trans q2323).trans q2324).trans q2325)
          have e2327 : rv h 3 = (h ((h 61 1) + 3) 2) := (congrArg (fun z => svq h z 3) rfl).trans rfl
          have q2328 : h2038 61 1 = h1832 61 1 := f2040 61 1 (by decide +kernel)
          have q2329 : h1832 61 1 = h1818 61 1 := f1834 61 1 (by decide +kernel)
          have q2330 : h1818 61 1 = h1802 61 1 := f1820 61 1 (by decide +kernel)
          have q2331 : h1802 61 1 = h1647 61 1 := f1804 61 1 (by decide +kernel)
          have q2332 : h1647 61 1 = h1518 61 1 := f1649 61 1 (by decide +kernel)
          have q2333 : h1518 61 1 = h1498 61 1 := f1520 61 1 (by decide +kernel)
          have q2334 : h1498 61 1 = h1484 61 1 := f1500 61 1 (by decide +kernel)
          have q2335 : h1484 61 1 = h1466 61 1 := f1486 61 1 (by decide +kernel)
          have q2336 : h1466 61 1 = h1442 61 1 := f1468 61 1 (by decide +kernel)
          have q2337 : h1442 61 1 = h35 61 1 := f1444 61 1 (by decide +kernel)
          have q2338 : h35 61 1 = h8 61 1 := f37 61 1 (by decide +kernel)
          have q2339 : h8 61 1 = h 61 1 := f10 61 1 (by decide +kernel)
          have q2340 : h2038 ((h 61 1) + 3) 2 = h1832 ((h 61 1) + 3) 2 := jK 0 f2040 (rg_T3_2_0_1 t1) (by first | decide | omega) (by first | decide | omega) (by decide)
          have q2341 : h1832 ((h 61 1) + 3) 2 = h1818 ((h 61 1) + 3) 2 := jK 0 f1834 (rg_T3_2_0_1 t1) (by first | decide | omega) (by first | decide | omega) (by decide)
          have q2342 : h1818 ((h 61 1) + 3) 2 = h1802 ((h 61 1) + 3) 2 := jK 0 f1820 (rg_T3_2_0_1 t1) (by first | decide | omega) (by first | decide | omega) (by decide)
          have q2343 : h1802 ((h 61 1) + 3) 2 = h1647 ((h 61 1) + 3) 2 := jK 0 f1804 (rg_T3_2_0_1 t1) (by first | decide | omega) (by first | decide | omega) (by decide)
          have q2344 : h1647 ((h 61 1) + 3) 2 = h1518 ((h 61 1) + 3) 2 := jK 0 f1649 (rg_T3_2_0_1 t1) (by first | decide | omega) (by first | decide | omega) (by decide)
          have q2345 : h1518 ((h 61 1) + 3) 2 = h1498 ((h 61 1) + 3) 2 := jK 0 f1520 (rg_T3_2_0_1 t1) (by first | decide | omega) (by first | decide | omega) (by decide)
          have q2346 : h1498 ((h 61 1) + 3) 2 = h1484 ((h 61 1) + 3) 2 := jK 0 f1500 (rg_T3_2_0_1 t1) (by first | decide | omega) (by first | decide | omega) (by decide)
          have q2347 : h1484 ((h 61 1) + 3) 2 = h1466 ((h 61 1) + 3) 2 := jK 0 f1486 (rg_T3_2_0_1 t1) (by first | decide | omega) (by first | decide | omega) (by decide)
          have q2348 : h1466 ((h 61 1) + 3) 2 = h1442 ((h 61 1) + 3) 2 := jK 0 f1468 (rg_T3_2_0_1 t1) (by first | decide | omega) (by first | decide | omega) (by decide)
          have q2349 : h1442 ((h 61 1) + 3) 2 = h35 ((h 61 1) + 3) 2 := jK 0 f1444 (rg_T3_2_0_1 t1) (by first | decide | omega) (by first | decide | omega) (by decide)
          have q2350 : h35 ((h 61 1) + 3) 2 = h8 ((h 61 1) + 3) 2 := jK 0 f37 (rg_T3_2_0_1 t1) (by first | decide | omega) (by first | decide | omega) (by decide)
          have e2351 : rv h2038 3 = (h8 ((h 61 1) + 3) 2) := (congrArg (fun z => svq h2038 z 3) (((((((((((q2328.trans q2329).trans q2330).trans q2331).trans q2332).trans q2333).trans q2334).trans q2335).trans q2336).trans q2337).trans q2338).trans q2339)).trans ((((((((((q2340.trans q2341).trans q2342).trans q2343).trans q2344).trans q2345).trans q2346).trans q2347).trans q2348).trans q2349).trans q2350)
          have q2352 : h2038 61 1 = h1832 61 1 := f2040 61 1 (by decide +kernel)
          have q2353 : h1832 61 1 = h1818 61 1 := f1834 61 1 (by decide +kernel)
          have q2354 : h1818 61 1 = h1802 61 1 := f1820 61 1 (by decide +kernel)
          have q2355 : h1802 61 1 = h1647 61 1 := f1804 61 1 (by decide +kernel)
          have q2356 : h1647 61 1 = h1518 61 1 := f1649 61 1 (by decide +kernel)
          have q2357 : h1518 61 1 = h1498 61 1 := f1520 61 1 (by decide +kernel)
          have q2358 : h1498 61 1 = h1484 61 1 := f1500 61 1 (by decide +kernel)
          have q2359 : h1484 61 1 = h1466 61 1 := f1486 61 1 (by decide +kernel)
          have q2360 : h1466 61 1 = h1442 61 1 := f1468 61 1 (by decide +kernel)
          have q2361 : h1442 61 1 = h35 61 1 := f1444 61 1 (by decide +kernel)
          have q2362 : h35 61 1 = h8 61 1 := f37 61 1 (by decide +kernel)
          have q2363 : h8 61 1 = h 61 1 := f10 61 1 (by decide +kernel)
          have q2364 : h2038 ((h 61 1) + 5) 2 = h1832 ((h 61 1) + 5) 2 := jK 0 f2040 (rg_T5_2_0_1 t1) (by first | decide | omega) (by first | decide | omega) (by decide)
          have q2365 : h1832 ((h 61 1) + 5) 2 = h1818 ((h 61 1) + 5) 2 := jK 0 f1834 (rg_T5_2_0_1 t1) (by first | decide | omega) (by first | decide | omega) (by decide)
          have q2366 : h1818 ((h 61 1) + 5) 2 = h1802 ((h 61 1) + 5) 2 := jK 0 f1820 (rg_T5_2_0_1 t1) (by first | decide | omega) (by first | decide | omega) (by decide)
          have q2367 : h1802 ((h 61 1) + 5) 2 = h1647 ((h 61 1) + 5) 2 := jK 0 f1804 (rg_T5_2_0_1 t1) (by first | decide | omega) (by first | decide | omega) (by decide)
          have q2368 : h1647 ((h 61 1) + 5) 2 = h1518 ((h 61 1) + 5) 2 := jK 0 f1649 (rg_T5_2_0_1 t1) (by first | decide | omega) (by first | decide | omega) (by decide)
          have q2369 : h1518 ((h 61 1) + 5) 2 = h1498 ((h 61 1) + 5) 2 := jK 0 f1520 (rg_T5_2_0_1 t1) (by first | decide | omega) (by first | decide | omega) (by decide)
          have q2370 : h1498 ((h 61 1) + 5) 2 = h1484 ((h 61 1) + 5) 2 := jK 0 f1500 (rg_T5_2_0_1 t1) (by first | decide | omega) (by first | decide | omega) (by decide)
          have q2371 : h1484 ((h 61 1) + 5) 2 = h1466 ((h 61 1) + 5) 2 := jK 0 f1486 (rg_T5_2_0_1 t1) (by first | decide | omega) (by first | decide | omega) (by decide)
          have q2372 : h1466 ((h 61 1) + 5) 2 = h1442 ((h 61 1) + 5) 2 := jK 0 f1468 (rg_T5_2_0_1 t1) (by first | decide | omega) (by first | decide | omega) (by decide)
          have q2373 : h1442 ((h 61 1) + 5) 2 = h35 ((h 61 1) + 5) 2 := jK 0 f1444 (rg_T5_2_0_1 t1) (by first | decide | omega) (by first | decide | omega) (by decide)
          have q2374 : h35 ((h 61 1) + 5) 2 = h8 ((h 61 1) + 5) 2 := jK 0 f37 (rg_T5_2_0_1 t1) (by first | decide | omega) (by first | decide | omega) (by decide)
          have e2375 : rv h2038 4 = (h8 ((h 61 1) + 5) 2) := (congrArg (fun z => svq h2038 z 4) (((((((((((q2352.trans q2353).trans q2354).trans q2355).trans q2356).trans q2357).trans q2358).trans q2359).trans q2360).trans q2361).trans q2362).trans q2363)).trans ((((((((((q2364.trans q2365).trans q2366).trans q2367).trans q2368).trans q2369).trans q2370).trans q2371).trans q2372).trans q2373).trans q2374)
          have e2376 : rv h 5 = (h ((h 61 1) + 7) 2) := (congrArg (fun z => svq h z 5) rfl).trans rfl
          have q2377 : h2038 61 1 = h1832 61 1 := f2040 61 1 (by decide +kernel)
          have q2378 : h1832 61 1 = h1818 61 1 := f1834 61 1 (by decide +kernel)
          have q2379 : h1818 61 1 = h1802 61 1 := f1820 61 1 (by decide +kernel)
          have q2380 : h1802 61 1 = h1647 61 1 := f1804 61 1 (by decide +kernel)
          have q2381 : h1647 61 1 = h1518 61 1 := f1649 61 1 (by decide +kernel)
          have q2382 : h1518 61 1 = h1498 61 1 := f1520 61 1 (by decide +kernel)
          have q2383 : h1498 61 1 = h1484 61 1 := f1500 61 1 (by decide +kernel)
          have q2384 : h1484 61 1 = h1466 61 1 := f1486 61 1 (by decide +kernel)
          have q2385 : h1466 61 1 = h1442 61 1 := f1468 61 1 (by decide +kernel)
          have q2386 : h1442 61 1 = h35 61 1 := f1444 61 1 (by decide +kernel)
          have q2387 : h35 61 1 = h8 61 1 := f37 61 1 (by decide +kernel)
          have q2388 : h8 61 1 = h 61 1 := f10 61 1 (by decide +kernel)
          have q2389 : h2038 ((h 61 1) + 7) 2 = h1832 ((h 61 1) + 7) 2 := jK 0 f2040 (rg_T7_2_0_1 t1) (by first | decide | omega) (by first | decide | omega) (by decide)
          have q2390 : h1832 ((h 61 1) + 7) 2 = h1818 ((h 61 1) + 7) 2 := jK 0 f1834 (rg_T7_2_0_1 t1) (by first | decide | omega) (by first | decide | omega) (by decide)
          have q2391 : h1818 ((h 61 1) + 7) 2 = h1802 ((h 61 1) + 7) 2 := jK 0 f1820 (rg_T7_2_0_1 t1) (by first | decide | omega) (by first | decide | omega) (by decide)
          have q2392 : h1802 ((h 61 1) + 7) 2 = h1647 ((h 61 1) + 7) 2 := jK 0 f1804 (rg_T7_2_0_1 t1) (by first | decide | omega) (by first | decide | omega) (by decide)
          have q2393 : h1647 ((h 61 1) + 7) 2 = h1518 ((h 61 1) + 7) 2 := jK 0 f1649 (rg_T7_2_0_1 t1) (by first | decide | omega) (by first | decide | omega) (by decide)
          have q2394 : h1518 ((h 61 1) + 7) 2 = h1498 ((h 61 1) + 7) 2 := jK 0 f1520 (rg_T7_2_0_1 t1) (by first | decide | omega) (by first | decide | omega) (by decide)
          have q2395 : h1498 ((h 61 1) + 7) 2 = h1484 ((h 61 1) + 7) 2 := jK 0 f1500 (rg_T7_2_0_1 t1) (by first | decide | omega) (by first | decide | omega) (by decide)
          have q2396 : h1484 ((h 61 1) + 7) 2 = h1466 ((h 61 1) + 7) 2 := jK 0 f1486 (rg_T7_2_0_1 t1) (by first | decide | omega) (by first | decide | omega) (by decide)
          have q2397 : h1466 ((h 61 1) + 7) 2 = h1442 ((h 61 1) + 7) 2 := jK 0 f1468 (rg_T7_2_0_1 t1) (by first | decide | omega) (by first | decide | omega) (by decide)
          have q2398 : h1442 ((h 61 1) + 7) 2 = h35 ((h 61 1) + 7) 2 := jK 0 f1444 (rg_T7_2_0_1 t1) (by first | decide | omega) (by first | decide | omega) (by decide)
          have q2399 : h35 ((h 61 1) + 7) 2 = h8 ((h 61 1) + 7) 2 := jK 0 f37 (rg_T7_2_0_1 t1) (by first | decide | omega) (by first | decide | omega) (by decide)
          have e2400 : rv h2038 5 = (h8 ((h 61 1) + 7) 2) := (congrArg (fun z => svq h2038 z 5) (((((((((((q2377.trans q2378).trans q2379).trans q2380).trans q2381).trans q2382).trans q2383).trans q2384).trans q2385).trans q2386).trans q2387).trans q2388)).trans ((((((((((q2389.trans q2390).trans q2391).trans q2392).trans q2393).trans q2394).trans q2395).trans q2396).trans q2397).trans q2398).trans q2399)
          have q2401 : h8 1 2 = h 1 2 := jK 0 f10 rg_1_2_0_1 (by first | decide | omega) (by first | decide | omega) (by decide)
          obtain ⟨w2402, e2403⟩ := Tk.yes c41 (by first | decide | omega)
          have q2404 : h1442 1 2 = h35 1 2 := jK 0 f1444 rg_1_2_0_1 (by first | decide | omega) (by first | decide | omega) (by decide)
          have q2405 : h1484 1 2 = h1466 1 2 := jK 0 f1486 rg_1_2_0_1 (by first | decide | omega) (by first | decide | omega) (by decide)
          obtain ⟨w2406, e2407⟩ := Tk.yes c1504 (by first | decide | omega)
          obtain ⟨w2408, e2409⟩ := Tk.yes c1653 (by first | decide | omega)
          have q2410 : h1818 1 2 = h1802 1 2 := jK 0 f1820 rg_1_2_0_1 (by first | decide | omega) (by first | decide | omega) (by decide)
          obtain ⟨w2411, e2412⟩ := Tk.yes c1838 (by first | decide | omega)
          have m2413 : Ot (h 61 1) h h8 := Ot.trans Ot.refl (c19)
          have m2414 : Ot (h 61 1) h h35 := Ot.fr m2413 f37 (by decide)
          have m2415 : Ot (h 61 1) h h1442 := Ot.fr m2414 f1444 (by decide)
          have m2416 : Ot (h 61 1) h h1466 := Ot.fr m2415 f1468 (by decide)
          have m2417 : Ot (h 61 1) h h1484 := Ot.fr m2416 f1486 (by decide)
          have m2418 : Ot (h 61 1) h h1498 := Ot.fr m2417 f1500 (by decide)
          have m2419 : Ot (h 61 1) h h1518 := Ot.fr m2418 f1520 (by decide)
          have m2420 : Ot (h 61 1) h h1647 := Ot.fr m2419 f1649 (by decide)
          have m2421 : Ot (h 61 1) h h1802 := Ot.fr m2420 f1804 (by decide)
          have m2422 : Ot (h 61 1) h h1818 := Ot.fr m2421 f1820 (by decide)
          have m2423 : Ot (h 61 1) h h1832 := Ot.fr m2422 f1834 (by decide)
          have m2424 : Ot (h 61 1) h h2038 := Ot.fr m2423 f2040 (by decide)
          have q2425 : h8 1 2 = h 1 2 := jK 0 f10 rg_1_2_0_1 (by first | decide | omega) (by first | decide | omega) (by decide)
          obtain ⟨w2426, e2427⟩ := Tk.yes c41 (by first | decide | omega)
          have q2428 : h1442 1 2 = h35 1 2 := jK 0 f1444 rg_1_2_0_1 (by first | decide | omega) (by first | decide | omega) (by decide)
          have q2429 : h1484 1 2 = h1466 1 2 := jK 0 f1486 rg_1_2_0_1 (by first | decide | omega) (by first | decide | omega) (by decide)
          obtain ⟨w2430, e2431⟩ := Tk.yes c1504 (by first | decide | omega)
          obtain ⟨w2432, e2433⟩ := Tk.yes c1653 (by first | decide | omega)
          have q2434 : h1818 1 2 = h1802 1 2 := jK 0 f1820 rg_1_2_0_1 (by first | decide | omega) (by first | decide | omega) (by decide)
          obtain ⟨w2435, e2436⟩ := Tk.yes c1838 (by first | decide | omega)
          refine x_retI (np := 178) (x := 0) (by decide +kernel) (by decide) (Or.inr ⟨by decide +kernel, by first | decide | omega, by first | decide | omega⟩) ⟨_, rfl, (by decide), ?_⟩
          exact ⟨j2039, f2046, (by first | decide | omega), (by first | decide | omega), (by first | decide | omega), (by first | decide | omega), (by first | decide | omega), (fun z => by first | decide | omega), (by first | decide | omega), (or9.y w2402 (show h8 1 2 = h 1 2 by first | decide | omega) e2403 rfl (nm9.y c1473 (by first | decide | omega) (by first | decide | omega) (show h1442 1 2 = h35 1 2 by first | decide | omega) (by first | decide | omega) rfl (wd9.y w2406 (show h1484 1 2 = h1466 1 2 by first | decide | omega) e2407 rfl (nm9.y c1525 (by first | decide | omega) (by first | decide | omega) rfl (by first | decide | omega) rfl (wd9.y w2408 rfl e2409 rfl (nm9.y c1809 (by first | decide | omega) (by first | decide | omega) rfl (by first | decide | omega) rfl (wd9.y w2411 (show h1818 1 2 = h1802 1 2 by first | decide | omega) e2412 rfl (nm9.f c2045 (by first | decide | omega) (by first | decide | omega) rfl (by first | decide | omega) (by first | decide | omega))))))))), m2424, (fun _ => (oF.y w2426 (show h8 1 2 = h 1 2 by first | decide | omega) e2427 rfl (mF.y c1473 (by first | decide | omega) (by first | decide | omega) (show h1442 1 2 = h35 1 2 by first | decide | omega) (by first | decide | omega) rfl (wF.y w2430 (show h1484 1 2 = h1466 1 2 by first | decide | omega) e2431 rfl (mF.y c1525 (by first | decide | omega) (by first | decide | omega) rfl (by first | decide | omega) rfl (wF.y w2432 rfl e2433 rfl (mF.y c1809 (by first | decide | omega) (by first | decide | omega) rfl (by first | decide | omega) rfl (wF.y w2435 (show h1818 1 2 = h1802 1 2 by first | decide | omega) e2436 rfl (mF.no c2045 (by first | decide | omega) (by first | decide | omega) rfl (by first | decide | omega) (show h2038 1 2 = h1832 1 2 by first | decide | omega))))))))))⟩
        have q2251 : ¬ (2147483648 = 2147483648) := q2251
        exfalso; omega
      have q1813 : ¬ (v1798 ≠ 2147483647) := q1813
      have b2437 := c1808 (by first | decide | omega)
      refine x_const (np := 20) (x := 9223372039002259456) (a := 2147483648) (by decide +kernel) (by decide) (by decide) ?_
      refine x_retI (np := 21) (x := 0) (by decide +kernel) (by decide) (Or.inr ⟨by decide +kernel, by first | decide | omega, by first | decide | omega⟩) ⟨_, rfl, (by decide), ?_⟩
      refine x_ifz (k := 0) (tg := 176) (np := 140) (by decide +kernel) (by decide) (by decide) (fun q2438 => ?_) (fun q2439 => ?_)
      · have q2438 : 2147483648 = 2147483648 := q2438
        refine x_const (np := 177) (x := 9223372039002259456) (a := 2147483648) (by decide +kernel) (by decide) (by decide) ?_
        have e2440 : rv h 0 = (h (h 61 1) 7) := (congrArg (fun z => svq h z 0) rfl).trans rfl
        have q2441 : h1802 61 1 = h1647 61 1 := f1804 61 1 (by decide +kernel)
        have q2442 : h1647 61 1 = h1518 61 1 := f1649 61 1 (by decide +kernel)
        have q2443 : h1518 61 1 = h1498 61 1 := f1520 61 1 (by decide +kernel)
        have q2444 : h1498 61 1 = h1484 61 1 := f1500 61 1 (by decide +kernel)
        have q2445 : h1484 61 1 = h1466 61 1 := f1486 61 1 (by decide +kernel)
        have q2446 : h1466 61 1 = h1442 61 1 := f1468 61 1 (by decide +kernel)
        have q2447 : h1442 61 1 = h35 61 1 := f1444 61 1 (by decide +kernel)
        have q2448 : h35 61 1 = h8 61 1 := f37 61 1 (by decide +kernel)
        have q2449 : h8 61 1 = h 61 1 := f10 61 1 (by decide +kernel)
        have q2450 : h1802 (h 61 1) 7 = h1647 (h 61 1) 7 := jK 0 f1804 (rg_T0_7_0_1 t1) (by first | decide | omega) (by first | decide | omega) (by decide)
        have q2451 : h1647 (h 61 1) 7 = h1518 (h 61 1) 7 := jK 0 f1649 (rg_T0_7_0_1 t1) (by first | decide | omega) (by first | decide | omega) (by decide)
        have q2452 : h1518 (h 61 1) 7 = h1498 (h 61 1) 7 := jK 0 f1520 (rg_T0_7_0_1 t1) (by first | decide | omega) (by first | decide | omega) (by decide)
        have q2453 : h1498 (h 61 1) 7 = h1484 (h 61 1) 7 := jK 0 f1500 (rg_T0_7_0_1 t1) (by first | decide | omega) (by first | decide | omega) (by decide)
        have q2454 : h1484 (h 61 1) 7 = h1466 (h 61 1) 7 := jK 0 f1486 (rg_T0_7_0_1 t1) (by first | decide | omega) (by first | decide | omega) (by decide)
        have q2455 : h1466 (h 61 1) 7 = h1442 (h 61 1) 7 := jK 0 f1468 (rg_T0_7_0_1 t1) (by first | decide | omega) (by first | decide | omega) (by decide)
        have q2456 : h1442 (h 61 1) 7 = h35 (h 61 1) 7 := jK 0 f1444 (rg_T0_7_0_1 t1) (by first | decide | omega) (by first | decide | omega) (by decide)
        have q2457 : h35 (h 61 1) 7 = h8 (h 61 1) 7 := jK 0 f37 (rg_T0_7_0_1 t1) (by first | decide | omega) (by first | decide | omega) (by decide)
        have e2458 : rv h1802 0 = (h8 (h 61 1) 7) := (congrArg (fun z => svq h1802 z 0) ((((((((q2441.trans q2442).trans q2443).trans q2444).trans q2445).trans q2446).trans q2447).trans q2448).trans q2449)).trans (((((((q2450.trans q2451).trans q2452).trans q2453).trans q2454).trans q2455).trans q2456).trans q2457)
        have e2459 : rv h 1 = (h (h 61 1) 8) := (congrArg (fun z => svq h z 1) rfl).trans rfl
        have q2460 : h1802 61 1 = h1647 61 1 := f1804 61 1 (by decide +kernel)
        have q2461 : h1647 61 1 = h1518 61 1 := f1649 61 1 (by decide +kernel)
        have q2462 : h1518 61 1 = h1498 61 1 := f1520 61 1 (by decide +kernel)
        have q2463 : h1498 61 1 = h1484 61 1 := f1500 61 1 (by decide +kernel)
        have q2464 : h1484 61 1 = h1466 61 1 := f1486 61 1 (by decide +kernel)
        have q2465 : h1466 61 1 = h1442 61 1 := f1468 61 1 (by decide +kernel)
        have q2466 : h1442 61 1 = h35 61 1 := f1444 61 1 (by decide +kernel)
        have q2467 : h35 61 1 = h8 61 1 := f37 61 1 (by decide +kernel)
        have q2468 : h8 61 1 = h 61 1 := f10 61 1 (by decide +kernel)
        have q2469 : h1802 (h 61 1) 8 = h1647 (h 61 1) 8 := jK 0 f1804 (rg_T0_8_0_1 t1) (by first | decide | omega) (by first | decide | omega) (by decide)
        have q2470 : h1647 (h 61 1) 8 = h1518 (h 61 1) 8 := jK 0 f1649 (rg_T0_8_0_1 t1) (by first | decide | omega) (by first | decide | omega) (by decide)
        have q2471 : h1518 (h 61 1) 8 = h1498 (h 61 1) 8 := jK 0 f1520 (rg_T0_8_0_1 t1) (by first | decide | omega) (by first | decide | omega) (by decide)
        have q2472 : h1498 (h 61 1) 8 = h1484 (h 61 1) 8 := jK 0 f1500 (rg_T0_8_0_1 t1) (by first | decide | omega) (by first | decide | omega) (by decide)
        have q2473 : h1484 (h 61 1) 8 = h1466 (h 61 1) 8 := jK 0 f1486 (rg_T0_8_0_1 t1) (by first | decide | omega) (by first | decide | omega) (by decide)
        have q2474 : h1466 (h 61 1) 8 = h1442 (h 61 1) 8 := jK 0 f1468 (rg_T0_8_0_1 t1) (by first | decide | omega) (by first | decide | omega) (by decide)
        have q2475 : h1442 (h 61 1) 8 = h35 (h 61 1) 8 := jK 0 f1444 (rg_T0_8_0_1 t1) (by first | decide | omega) (by first | decide | omega) (by decide)
        have q2476 : h35 (h 61 1) 8 = h8 (h 61 1) 8 := jK 0 f37 (rg_T0_8_0_1 t1) (by first | decide | omega) (by first | decide | omega) (by decide)
        have e2477 : rv h1802 1 = (h8 (h 61 1) 8) := (congrArg (fun z => svq h1802 z 1) ((((((((q2460.trans q2461).trans q2462).trans q2463).trans q2464).trans q2465).trans q2466).trans q2467).trans q2468)).trans (((((((q2469.trans q2470).trans q2471).trans q2472).trans q2473).trans q2474).trans q2475).trans q2476)
        have e2478 : rv h 2 = (h ((h 61 1) + 1) 2) := (congrArg (fun z => svq h z 2) rfl).trans rfl
        have q2479 : h1802 61 1 = h1647 61 1 := f1804 61 1 (by decide +kernel)
        have q2480 : h1647 61 1 = h1518 61 1 := f1649 61 1 (by decide +kernel)
        have q2481 : h1518 61 1 = h1498 61 1 := f1520 61 1 (by decide +kernel)
        have q2482 : h1498 61 1 = h1484 61 1 := f1500 61 1 (by decide +kernel)
        have q2483 : h1484 61 1 = h1466 61 1 := f1486 61 1 (by decide +kernel)
        have q2484 : h1466 61 1 = h1442 61 1 := f1468 61 1 (by decide +kernel)
        have q2485 : h1442 61 1 = h35 61 1 := f1444 61 1 (by decide +kernel)
        have q2486 : h35 61 1 = h8 61 1 := f37 61 1 (by decide +kernel)
        have q2487 : h8 61 1 = h 61 1 := f10 61 1 (by decide +kernel)
        have q2488 : h1802 ((h 61 1) + 1) 2 = h1647 ((h 61 1) + 1) 2 := jK 0 f1804 (rg_T1_2_0_1 t1) (by first | decide | omega) (by first | decide | omega) (by decide)
        have q2489 : h1647 ((h 61 1) + 1) 2 = h1518 ((h 61 1) + 1) 2 := jK 0 f1649 (rg_T1_2_0_1 t1) (by first | decide | omega) (by first | decide | omega) (by decide)
        have q2490 : h1518 ((h 61 1) + 1) 2 = h1498 ((h 61 1) + 1) 2 := jK 0 f1520 (rg_T1_2_0_1 t1) (by first | decide | omega) (by first | decide | omega) (by decide)
        have q2491 : h1498 ((h 61 1) + 1) 2 = h1484 ((h 61 1) + 1) 2 := jK 0 f1500 (rg_T1_2_0_1 t1) (by first | decide | omega) (by first | decide | omega) (by decide)
        have q2492 : h1484 ((h 61 1) + 1) 2 = h1466 ((h 61 1) + 1) 2 := jK 0 f1486 (rg_T1_2_0_1 t1) (by first | decide | omega) (by first | decide | omega) (by decide)
        have q2493 : h1466 ((h 61 1) + 1) 2 = h1442 ((h 61 1) + 1) 2 := jK 0 f1468 (rg_T1_2_0_1 t1) (by first | decide | omega) (by first | decide | omega) (by decide)
        have q2494 : h1442 ((h 61 1) + 1) 2 = h35 ((h 61 1) + 1) 2 := jK 0 f1444 (rg_T1_2_0_1 t1) (by first | decide | omega) (by first | decide | omega) (by decide)
        have q2495 : h35 ((h 61 1) + 1) 2 = h8 ((h 61 1) + 1) 2 := jK 0 f37 (rg_T1_2_0_1 t1) (by first | decide | omega) (by first | decide | omega) (by decide)
        have e2496 : rv h1802 2 = (h8 ((h 61 1) + 1) 2) := (congrArg (fun z => svq h1802 z 2) ((((((((q2479.trans q2480).trans q2481).trans q2482).trans q2483).trans q2484).trans q2485).trans q2486).trans q2487)).trans (((((((q2488.trans q2489).trans q2490).trans q2491).trans q2492).trans q2493).trans q2494).trans q2495)
        have e2497 : rv h 3 = (h ((h 61 1) + 3) 2) := (congrArg (fun z => svq h z 3) rfl).trans rfl
        have q2498 : h1802 61 1 = h1647 61 1 := f1804 61 1 (by decide +kernel)
        have q2499 : h1647 61 1 = h1518 61 1 := f1649 61 1 (by decide +kernel)
        have q2500 : h1518 61 1 = h1498 61 1 := f1520 61 1 (by decide +kernel)
        have q2501 : h1498 61 1 = h1484 61 1 := f1500 61 1 (by decide +kernel)
        have q2502 : h1484 61 1 = h1466 61 1 := f1486 61 1 (by decide +kernel)
        have q2503 : h1466 61 1 = h1442 61 1 := f1468 61 1 (by decide +kernel)
        have q2504 : h1442 61 1 = h35 61 1 := f1444 61 1 (by decide +kernel)
        have q2505 : h35 61 1 = h8 61 1 := f37 61 1 (by decide +kernel)
        have q2506 : h8 61 1 = h 61 1 := f10 61 1 (by decide +kernel)
        have q2507 : h1802 ((h 61 1) + 3) 2 = h1647 ((h 61 1) + 3) 2 := jK 0 f1804 (rg_T3_2_0_1 t1) (by first | decide | omega) (by first | decide | omega) (by decide)
        have q2508 : h1647 ((h 61 1) + 3) 2 = h1518 ((h 61 1) + 3) 2 := jK 0 f1649 (rg_T3_2_0_1 t1) (by first | decide | omega) (by first | decide | omega) (by decide)
        have q2509 : h1518 ((h 61 1) + 3) 2 = h1498 ((h 61 1) + 3) 2 := jK 0 f1520 (rg_T3_2_0_1 t1) (by first | decide | omega) (by first | decide | omega) (by decide)
        have q2510 : h1498 ((h 61 1) + 3) 2 = h1484 ((h 61 1) + 3) 2 := jK 0 f1500 (rg_T3_2_0_1 t1) (by first | decide | omega) (by first | decide | omega) (by decide)
        have q2511 : h1484 ((h 61 1) + 3) 2 = h1466 ((h 61 1) + 3) 2 := jK 0 f1486 (rg_T3_2_0_1 t1) (by first | decide | omega) (by first | decide | omega) (by decide)
        have q2512 : h1466 ((h 61 1) + 3) 2 = h1442 ((h 61 1) + 3) 2 := jK 0 f1468 (rg_T3_2_0_1 t1) (by first | decide | omega) (by first | decide | omega) (by decide)
        have q2513 : h1442 ((h 61 1) + 3) 2 = h35 ((h 61 1) + 3) 2 := jK 0 f1444 (rg_T3_2_0_1 t1) (by first | decide | omega) (by first | decide | omega) (by decide)
        have q2514 : h35 ((h 61 1) + 3) 2 = h8 ((h 61 1) + 3) 2 := jK 0 f37 (rg_T3_2_0_1 t1) (by first | decide | omega) (by first | decide | omega) (by decide)
        have e2515 : rv h1802 3 = (h8 ((h 61 1) + 3) 2) := (congrArg (fun z => svq h1802 z 3) ((((((((q2498.trans q2499).trans q2500).trans q2501).trans q2502).trans q2503).trans q2504).trans q2505).trans q2506)).trans (((((((q2507.trans q2508).trans q2509).trans q2510).trans q2511).trans q2512).trans q2513).trans q2514)
        have q2516 : h1802 61 1 = h1647 61 1 := f1804 61 1 (by decide +kernel)
        have q2517 : h1647 61 1 = h1518 61 1 := f1649 61 1 (by decide +kernel)
        have q2518 : h1518 61 1 = h1498 61 1 := f1520 61 1 (by decide +kernel)
        have q2519 : h1498 61 1 = h1484 61 1 := f1500 61 1 (by decide +kernel)
        have q2520 : h1484 61 1 = h1466 61 1 := f1486 61 1 (by decide +kernel)
        have q2521 : h1466 61 1 = h1442 61 1 := f1468 61 1 (by decide +kernel)
        have q2522 : h1442 61 1 = h35 61 1 := f1444 61 1 (by decide +kernel)
        have q2523 : h35 61 1 = h8 61 1 := f37 61 1 (by decide +kernel)
        have q2524 : h8 61 1 = h 61 1 := f10 61 1 (by decide +kernel)
        have q2525 : h1802 ((h 61 1) + 5) 2 = h1647 ((h 61 1) + 5) 2 := jK 0 f1804 (rg_T5_2_0_1 t1) (by first | decide | omega) (by first | decide | omega) (by decide)
        have q2526 : h1647 ((h 61 1) + 5) 2 = h1518 ((h 61 1) + 5) 2 := jK 0 f1649 (rg_T5_2_0_1 t1) (by first | decide | omega) (by first | decide | omega) (by decide)
        have q2527 : h1518 ((h 61 1) + 5) 2 = h1498 ((h 61 1) + 5) 2 := jK 0 f1520 (rg_T5_2_0_1 t1) (by first | decide | omega) (by first | decide | omega) (by decide)
        have q2528 : h1498 ((h 61 1) + 5) 2 = h1484 ((h 61 1) + 5) 2 := jK 0 f1500 (rg_T5_2_0_1 t1) (by first | decide | omega) (by first | decide | omega) (by decide)
        have q2529 : h1484 ((h 61 1) + 5) 2 = h1466 ((h 61 1) + 5) 2 := jK 0 f1486 (rg_T5_2_0_1 t1) (by first | decide | omega) (by first | decide | omega) (by decide)
        have q2530 : h1466 ((h 61 1) + 5) 2 = h1442 ((h 61 1) + 5) 2 := jK 0 f1468 (rg_T5_2_0_1 t1) (by first | decide | omega) (by first | decide | omega) (by decide)
        have q2531 : h1442 ((h 61 1) + 5) 2 = h35 ((h 61 1) + 5) 2 := jK 0 f1444 (rg_T5_2_0_1 t1) (by first | decide | omega) (by first | decide | omega) (by decide)
        have q2532 : h35 ((h 61 1) + 5) 2 = h8 ((h 61 1) + 5) 2 := jK 0 f37 (rg_T5_2_0_1 t1) (by first | decide | omega) (by first | decide | omega) (by decide)
        have e2533 : rv h1802 4 = (h8 ((h 61 1) + 5) 2) := (congrArg (fun z => svq h1802 z 4) ((((((((q2516.trans q2517).trans q2518).trans q2519).trans q2520).trans q2521).trans q2522).trans q2523).trans q2524)).trans (((((((q2525.trans q2526).trans q2527).trans q2528).trans q2529).trans q2530).trans q2531).trans q2532)
        have e2534 : rv h 5 = (h ((h 61 1) + 7) 2) := (congrArg (fun z => svq h z 5) rfl).trans rfl
        have q2535 : h1802 61 1 = h1647 61 1 := f1804 61 1 (by decide +kernel)
        have q2536 : h1647 61 1 = h1518 61 1 := f1649 61 1 (by decide +kernel)
        have q2537 : h1518 61 1 = h1498 61 1 := f1520 61 1 (by decide +kernel)
        have q2538 : h1498 61 1 = h1484 61 1 := f1500 61 1 (by decide +kernel)
        have q2539 : h1484 61 1 = h1466 61 1 := f1486 61 1 (by decide +kernel)
        have q2540 : h1466 61 1 = h1442 61 1 := f1468 61 1 (by decide +kernel)
        have q2541 : h1442 61 1 = h35 61 1 := f1444 61 1 (by decide +kernel)
        have q2542 : h35 61 1 = h8 61 1 := f37 61 1 (by decide +kernel)
        have q2543 : h8 61 1 = h 61 1 := f10 61 1 (by decide +kernel)
        have q2544 : h1802 ((h 61 1) + 7) 2 = h1647 ((h 61 1) + 7) 2 := jK 0 f1804 (rg_T7_2_0_1 t1) (by first | decide | omega) (by first | decide | omega) (by decide)
        have q2545 : h1647 ((h 61 1) + 7) 2 = h1518 ((h 61 1) + 7) 2 := jK 0 f1649 (rg_T7_2_0_1 t1) (by first | decide | omega) (by first | decide | omega) (by decide)
        have q2546 : h1518 ((h 61 1) + 7) 2 = h1498 ((h 61 1) + 7) 2 := jK 0 f1520 (rg_T7_2_0_1 t1) (by first | decide | omega) (by first | decide | omega) (by decide)
        have q2547 : h1498 ((h 61 1) + 7) 2 = h1484 ((h 61 1) + 7) 2 := jK 0 f1500 (rg_T7_2_0_1 t1) (by first | decide | omega) (by first | decide | omega) (by decide)
        have q2548 : h1484 ((h 61 1) + 7) 2 = h1466 ((h 61 1) + 7) 2 := jK 0 f1486 (rg_T7_2_0_1 t1) (by first | decide | omega) (by first | decide | omega) (by decide)
        have q2549 : h1466 ((h 61 1) + 7) 2 = h1442 ((h 61 1) + 7) 2 := jK 0 f1468 (rg_T7_2_0_1 t1) (by first | decide | omega) (by first | decide | omega) (by decide)
        have q2550 : h1442 ((h 61 1) + 7) 2 = h35 ((h 61 1) + 7) 2 := jK 0 f1444 (rg_T7_2_0_1 t1) (by first | decide | omega) (by first | decide | omega) (by decide)
        have q2551 : h35 ((h 61 1) + 7) 2 = h8 ((h 61 1) + 7) 2 := jK 0 f37 (rg_T7_2_0_1 t1) (by first | decide | omega) (by first | decide | omega) (by decide)
        have e2552 : rv h1802 5 = (h8 ((h 61 1) + 7) 2) := (congrArg (fun z => svq h1802 z 5) ((((((((q2535.trans q2536).trans q2537).trans q2538).trans q2539).trans q2540).trans q2541).trans q2542).trans q2543)).trans (((((((q2544.trans q2545).trans q2546).trans q2547).trans q2548).trans q2549).trans q2550).trans q2551)
        have q2553 : h8 1 2 = h 1 2 := jK 0 f10 rg_1_2_0_1 (by first | decide | omega) (by first | decide | omega) (by decide)
        obtain ⟨w2554, e2555⟩ := Tk.yes c41 (by first | decide | omega)
        have q2556 : h1442 1 2 = h35 1 2 := jK 0 f1444 rg_1_2_0_1 (by first | decide | omega) (by first | decide | omega) (by decide)
        have q2557 : h1484 1 2 = h1466 1 2 := jK 0 f1486 rg_1_2_0_1 (by first | decide | omega) (by first | decide | omega) (by decide)
        obtain ⟨w2558, e2559⟩ := Tk.yes c1504 (by first | decide | omega)
        obtain ⟨w2560, e2561⟩ := Tk.yes c1653 (by first | decide | omega)
        have m2562 : Ot (h 61 1) h h8 := Ot.trans Ot.refl (c19)
        have m2563 : Ot (h 61 1) h h35 := Ot.fr m2562 f37 (by decide)
        have m2564 : Ot (h 61 1) h h1442 := Ot.fr m2563 f1444 (by decide)
        have m2565 : Ot (h 61 1) h h1466 := Ot.fr m2564 f1468 (by decide)
        have m2566 : Ot (h 61 1) h h1484 := Ot.fr m2565 f1486 (by decide)
        have m2567 : Ot (h 61 1) h h1498 := Ot.fr m2566 f1500 (by decide)
        have m2568 : Ot (h 61 1) h h1518 := Ot.fr m2567 f1520 (by decide)
        have m2569 : Ot (h 61 1) h h1647 := Ot.fr m2568 f1649 (by decide)
        have m2570 : Ot (h 61 1) h h1802 := Ot.fr m2569 f1804 (by decide)
        have q2571 : h8 1 2 = h 1 2 := jK 0 f10 rg_1_2_0_1 (by first | decide | omega) (by first | decide | omega) (by decide)
        obtain ⟨w2572, e2573⟩ := Tk.yes c41 (by first | decide | omega)
        have q2574 : h1442 1 2 = h35 1 2 := jK 0 f1444 rg_1_2_0_1 (by first | decide | omega) (by first | decide | omega) (by decide)
        have q2575 : h1484 1 2 = h1466 1 2 := jK 0 f1486 rg_1_2_0_1 (by first | decide | omega) (by first | decide | omega) (by decide)
        obtain ⟨w2576, e2577⟩ := Tk.yes c1504 (by first | decide | omega)
        obtain ⟨w2578, e2579⟩ := Tk.yes c1653 (by first | decide | omega)
        refine x_retI (np := 178) (x := 0) (by decide +kernel) (by decide) (Or.inr ⟨by decide +kernel, by first | decide | omega, by first | decide | omega⟩) ⟨_, rfl, (by decide), ?_⟩
        exact ⟨j1803, f1810, (by first | decide | omega), (by first | decide | omega), (by first | decide | omega), (by first | decide | omega), (by first | decide | omega), (fun z => by first | decide | omega), (by first | decide | omega), (or9.y w2554 (show h8 1 2 = h 1 2 by first | decide | omega) e2555 rfl (nm9.y c1473 (by first | decide | omega) (by first | decide | omega) (show h1442 1 2 = h35 1 2 by first | decide | omega) (by first | decide | omega) rfl (wd9.y w2558 (show h1484 1 2 = h1466 1 2 by first | decide | omega) e2559 rfl (nm9.y c1525 (by first | decide | omega) (by first | decide | omega) rfl (by first | decide | omega) rfl (wd9.y w2560 rfl e2561 rfl (nm9.f c1809 (by first | decide | omega) (by first | decide | omega) rfl (by first | decide | omega) (by first | decide | omega))))))), m2570, (fun _ => (oF.y w2572 (show h8 1 2 = h 1 2 by first | decide | omega) e2573 rfl (mF.y c1473 (by first | decide | omega) (by first | decide | omega) (show h1442 1 2 = h35 1 2 by first | decide | omega) (by first | decide | omega) rfl (wF.y w2576 (show h1484 1 2 = h1466 1 2 by first | decide | omega) e2577 rfl (mF.y c1525 (by first | decide | omega) (by first | decide | omega) rfl (by first | decide | omega) rfl (wF.y w2578 rfl e2579 rfl (mF.no c1809 (by first | decide | omega) (by first | decide | omega) rfl (by first | decide | omega) (show h1802 1 2 = h1647 1 2 by first | decide | omega))))))))⟩
      have q2439 : ¬ (2147483648 = 2147483648) := q2439
      exfalso; omega
    have q1511 : ¬ (v1493 ≠ 2147483648) := q1511
    have b2580 := c1503 (by first | decide | omega)
    refine x_const (np := 92) (x := 9223372039002259456) (a := 2147483648) (by decide +kernel) (by decide) (by decide) ?_
    have e2581 : rv h 0 = (h (h 61 1) 7) := (congrArg (fun z => svq h z 0) rfl).trans rfl
    have q2582 : h1498 61 1 = h1484 61 1 := f1500 61 1 (by decide +kernel)
    have q2583 : h1484 61 1 = h1466 61 1 := f1486 61 1 (by decide +kernel)
    have q2584 : h1466 61 1 = h1442 61 1 := f1468 61 1 (by decide +kernel)
    have q2585 : h1442 61 1 = h35 61 1 := f1444 61 1 (by decide +kernel)
    have q2586 : h35 61 1 = h8 61 1 := f37 61 1 (by decide +kernel)
    have q2587 : h8 61 1 = h 61 1 := f10 61 1 (by decide +kernel)
    have q2588 : h1498 (h 61 1) 7 = h1484 (h 61 1) 7 := jK 0 f1500 (rg_T0_7_0_1 t1) (by first | decide | omega) (by first | decide | omega) (by decide)
    have q2589 : h1484 (h 61 1) 7 = h1466 (h 61 1) 7 := jK 0 f1486 (rg_T0_7_0_1 t1) (by first | decide | omega) (by first | decide | omega) (by decide)
    have q2590 : h1466 (h 61 1) 7 = h1442 (h 61 1) 7 := jK 0 f1468 (rg_T0_7_0_1 t1) (by first | decide | omega) (by first | decide | omega) (by decide)
    have q2591 : h1442 (h 61 1) 7 = h35 (h 61 1) 7 := jK 0 f1444 (rg_T0_7_0_1 t1) (by first | decide | omega) (by first | decide | omega) (by decide)
    have q2592 : h35 (h 61 1) 7 = h8 (h 61 1) 7 := jK 0 f37 (rg_T0_7_0_1 t1) (by first | decide | omega) (by first | decide | omega) (by decide)
    have e2593 : rv h1498 0 = (h8 (h 61 1) 7) := (congrArg (fun z => svq h1498 z 0) (((((q2582.trans q2583).trans q2584).trans q2585).trans q2586).trans q2587)).trans ((((q2588.trans q2589).trans q2590).trans q2591).trans q2592)
    have e2594 : rv h 1 = (h (h 61 1) 8) := (congrArg (fun z => svq h z 1) rfl).trans rfl
    have q2595 : h1498 61 1 = h1484 61 1 := f1500 61 1 (by decide +kernel)
    have q2596 : h1484 61 1 = h1466 61 1 := f1486 61 1 (by decide +kernel)
    have q2597 : h1466 61 1 = h1442 61 1 := f1468 61 1 (by decide +kernel)
    have q2598 : h1442 61 1 = h35 61 1 := f1444 61 1 (by decide +kernel)
    have q2599 : h35 61 1 = h8 61 1 := f37 61 1 (by decide +kernel)
    have q2600 : h8 61 1 = h 61 1 := f10 61 1 (by decide +kernel)
    have q2601 : h1498 (h 61 1) 8 = h1484 (h 61 1) 8 := jK 0 f1500 (rg_T0_8_0_1 t1) (by first | decide | omega) (by first | decide | omega) (by decide)
    have q2602 : h1484 (h 61 1) 8 = h1466 (h 61 1) 8 := jK 0 f1486 (rg_T0_8_0_1 t1) (by first | decide | omega) (by first | decide | omega) (by decide)
    have q2603 : h1466 (h 61 1) 8 = h1442 (h 61 1) 8 := jK 0 f1468 (rg_T0_8_0_1 t1) (by first | decide | omega) (by first | decide | omega) (by decide)
    have q2604 : h1442 (h 61 1) 8 = h35 (h 61 1) 8 := jK 0 f1444 (rg_T0_8_0_1 t1) (by first | decide | omega) (by first | decide | omega) (by decide)
    have q2605 : h35 (h 61 1) 8 = h8 (h 61 1) 8 := jK 0 f37 (rg_T0_8_0_1 t1) (by first | decide | omega) (by first | decide | omega) (by decide)
    have e2606 : rv h1498 1 = (h8 (h 61 1) 8) := (congrArg (fun z => svq h1498 z 1) (((((q2595.trans q2596).trans q2597).trans q2598).trans q2599).trans q2600)).trans ((((q2601.trans q2602).trans q2603).trans q2604).trans q2605)
    have e2607 : rv h 2 = (h ((h 61 1) + 1) 2) := (congrArg (fun z => svq h z 2) rfl).trans rfl
    have q2608 : h1498 61 1 = h1484 61 1 := f1500 61 1 (by decide +kernel)
    have q2609 : h1484 61 1 = h1466 61 1 := f1486 61 1 (by decide +kernel)
    have q2610 : h1466 61 1 = h1442 61 1 := f1468 61 1 (by decide +kernel)
    have q2611 : h1442 61 1 = h35 61 1 := f1444 61 1 (by decide +kernel)
    have q2612 : h35 61 1 = h8 61 1 := f37 61 1 (by decide +kernel)
    have q2613 : h8 61 1 = h 61 1 := f10 61 1 (by decide +kernel)
    have q2614 : h1498 ((h 61 1) + 1) 2 = h1484 ((h 61 1) + 1) 2 := jK 0 f1500 (rg_T1_2_0_1 t1) (by first | decide | omega) (by first | decide | omega) (by decide)
    have q2615 : h1484 ((h 61 1) + 1) 2 = h1466 ((h 61 1) + 1) 2 := jK 0 f1486 (rg_T1_2_0_1 t1) (by first | decide | omega) (by first | decide | omega) (by decide)
    have q2616 : h1466 ((h 61 1) + 1) 2 = h1442 ((h 61 1) + 1) 2 := jK 0 f1468 (rg_T1_2_0_1 t1) (by first | decide | omega) (by first | decide | omega) (by decide)
    have q2617 : h1442 ((h 61 1) + 1) 2 = h35 ((h 61 1) + 1) 2 := jK 0 f1444 (rg_T1_2_0_1 t1) (by first | decide | omega) (by first | decide | omega) (by decide)
    have q2618 : h35 ((h 61 1) + 1) 2 = h8 ((h 61 1) + 1) 2 := jK 0 f37 (rg_T1_2_0_1 t1) (by first | decide | omega) (by first | decide | omega) (by decide)
    have e2619 : rv h1498 2 = (h8 ((h 61 1) + 1) 2) := (congrArg (fun z => svq h1498 z 2) (((((q2608.trans q2609).trans q2610).trans q2611).trans q2612).trans q2613)).trans ((((q2614.trans q2615).trans q2616).trans q2617).trans q2618)
    have e2620 : rv h 3 = (h ((h 61 1) + 3) 2) := (congrArg (fun z => svq h z 3) rfl).trans rfl
    have q2621 : h1498 61 1 = h1484 61 1 := f1500 61 1 (by decide +kernel)
    have q2622 : h1484 61 1 = h1466 61 1 := f1486 61 1 (by decide +kernel)
    have q2623 : h1466 61 1 = h1442 61 1 := f1468 61 1 (by decide +kernel)
    have q2624 : h1442 61 1 = h35 61 1 := f1444 61 1 (by decide +kernel)
    have q2625 : h35 61 1 = h8 61 1 := f37 61 1 (by decide +kernel)
    have q2626 : h8 61 1 = h 61 1 := f10 61 1 (by decide +kernel)
    have q2627 : h1498 ((h 61 1) + 3) 2 = h1484 ((h 61 1) + 3) 2 := jK 0 f1500 (rg_T3_2_0_1 t1) (by first | decide | omega) (by first | decide | omega) (by decide)
    have q2628 : h1484 ((h 61 1) + 3) 2 = h1466 ((h 61 1) + 3) 2 := jK 0 f1486 (rg_T3_2_0_1 t1) (by first | decide | omega) (by first | decide | omega) (by decide)
    have q2629 : h1466 ((h 61 1) + 3) 2 = h1442 ((h 61 1) + 3) 2 := jK 0 f1468 (rg_T3_2_0_1 t1) (by first | decide | omega) (by first | decide | omega) (by decide)
    have q2630 : h1442 ((h 61 1) + 3) 2 = h35 ((h 61 1) + 3) 2 := jK 0 f1444 (rg_T3_2_0_1 t1) (by first | decide | omega) (by first | decide | omega) (by decide)
    have q2631 : h35 ((h 61 1) + 3) 2 = h8 ((h 61 1) + 3) 2 := jK 0 f37 (rg_T3_2_0_1 t1) (by first | decide | omega) (by first | decide | omega) (by decide)
    have e2632 : rv h1498 3 = (h8 ((h 61 1) + 3) 2) := (congrArg (fun z => svq h1498 z 3) (((((q2621.trans q2622).trans q2623).trans q2624).trans q2625).trans q2626)).trans ((((q2627.trans q2628).trans q2629).trans q2630).trans q2631)
    have q2633 : h1498 61 1 = h1484 61 1 := f1500 61 1 (by decide +kernel)
    have q2634 : h1484 61 1 = h1466 61 1 := f1486 61 1 (by decide +kernel)
    have q2635 : h1466 61 1 = h1442 61 1 := f1468 61 1 (by decide +kernel)
    have q2636 : h1442 61 1 = h35 61 1 := f1444 61 1 (by decide +kernel)
    have q2637 : h35 61 1 = h8 61 1 := f37 61 1 (by decide +kernel)
    have q2638 : h8 61 1 = h 61 1 := f10 61 1 (by decide +kernel)
    have q2639 : h1498 ((h 61 1) + 5) 2 = h1484 ((h 61 1) + 5) 2 := jK 0 f1500 (rg_T5_2_0_1 t1) (by first | decide | omega) (by first | decide | omega) (by decide)
    have q2640 : h1484 ((h 61 1) + 5) 2 = h1466 ((h 61 1) + 5) 2 := jK 0 f1486 (rg_T5_2_0_1 t1) (by first | decide | omega) (by first | decide | omega) (by decide)
    have q2641 : h1466 ((h 61 1) + 5) 2 = h1442 ((h 61 1) + 5) 2 := jK 0 f1468 (rg_T5_2_0_1 t1) (by first | decide | omega) (by first | decide | omega) (by decide)
    have q2642 : h1442 ((h 61 1) + 5) 2 = h35 ((h 61 1) + 5) 2 := jK 0 f1444 (rg_T5_2_0_1 t1) (by first | decide | omega) (by first | decide | omega) (by decide)
    have q2643 : h35 ((h 61 1) + 5) 2 = h8 ((h 61 1) + 5) 2 := jK 0 f37 (rg_T5_2_0_1 t1) (by first | decide | omega) (by first | decide | omega) (by decide)
    have e2644 : rv h1498 4 = (h8 ((h 61 1) + 5) 2) := (congrArg (fun z => svq h1498 z 4) (((((q2633.trans q2634).trans q2635).trans q2636).trans q2637).trans q2638)).trans ((((q2639.trans q2640).trans q2641).trans q2642).trans q2643)
    have e2645 : rv h 5 = (h ((h 61 1) + 7) 2) := (congrArg (fun z => svq h z 5) rfl).trans rfl
    have q2646 : h1498 61 1 = h1484 61 1 := f1500 61 1 (by decide +kernel)
    have q2647 : h1484 61 1 = h1466 61 1 := f1486 61 1 (by decide +kernel)
    have q2648 : h1466 61 1 = h1442 61 1 := f1468 61 1 (by decide +kernel)
    have q2649 : h1442 61 1 = h35 61 1 := f1444 61 1 (by decide +kernel)
    have q2650 : h35 61 1 = h8 61 1 := f37 61 1 (by decide +kernel)
    have q2651 : h8 61 1 = h 61 1 := f10 61 1 (by decide +kernel)
    have q2652 : h1498 ((h 61 1) + 7) 2 = h1484 ((h 61 1) + 7) 2 := jK 0 f1500 (rg_T7_2_0_1 t1) (by first | decide | omega) (by first | decide | omega) (by decide)
    have q2653 : h1484 ((h 61 1) + 7) 2 = h1466 ((h 61 1) + 7) 2 := jK 0 f1486 (rg_T7_2_0_1 t1) (by first | decide | omega) (by first | decide | omega) (by decide)
    have q2654 : h1466 ((h 61 1) + 7) 2 = h1442 ((h 61 1) + 7) 2 := jK 0 f1468 (rg_T7_2_0_1 t1) (by first | decide | omega) (by first | decide | omega) (by decide)
    have q2655 : h1442 ((h 61 1) + 7) 2 = h35 ((h 61 1) + 7) 2 := jK 0 f1444 (rg_T7_2_0_1 t1) (by first | decide | omega) (by first | decide | omega) (by decide)
    have q2656 : h35 ((h 61 1) + 7) 2 = h8 ((h 61 1) + 7) 2 := jK 0 f37 (rg_T7_2_0_1 t1) (by first | decide | omega) (by first | decide | omega) (by decide)
    have e2657 : rv h1498 5 = (h8 ((h 61 1) + 7) 2) := (congrArg (fun z => svq h1498 z 5) (((((q2646.trans q2647).trans q2648).trans q2649).trans q2650).trans q2651)).trans ((((q2652.trans q2653).trans q2654).trans q2655).trans q2656)
    have q2658 : h8 1 2 = h 1 2 := jK 0 f10 rg_1_2_0_1 (by first | decide | omega) (by first | decide | omega) (by decide)
    obtain ⟨w2659, e2660⟩ := Tk.yes c41 (by first | decide | omega)
    have q2661 : h1442 1 2 = h35 1 2 := jK 0 f1444 rg_1_2_0_1 (by first | decide | omega) (by first | decide | omega) (by decide)
    have q2662 : h1484 1 2 = h1466 1 2 := jK 0 f1486 rg_1_2_0_1 (by first | decide | omega) (by first | decide | omega) (by decide)
    obtain ⟨w2663, e2664⟩ := Tk.no c1504 (by first | decide | omega)
    have m2665 : Ot (h 61 1) h h8 := Ot.trans Ot.refl (c19)
    have m2666 : Ot (h 61 1) h h35 := Ot.fr m2665 f37 (by decide)
    have m2667 : Ot (h 61 1) h h1442 := Ot.fr m2666 f1444 (by decide)
    have m2668 : Ot (h 61 1) h h1466 := Ot.fr m2667 f1468 (by decide)
    have m2669 : Ot (h 61 1) h h1484 := Ot.fr m2668 f1486 (by decide)
    have m2670 : Ot (h 61 1) h h1498 := Ot.fr m2669 f1500 (by decide)
    have q2671 : h8 1 2 = h 1 2 := jK 0 f10 rg_1_2_0_1 (by first | decide | omega) (by first | decide | omega) (by decide)
    obtain ⟨w2672, e2673⟩ := Tk.yes c41 (by first | decide | omega)
    have q2674 : h1442 1 2 = h35 1 2 := jK 0 f1444 rg_1_2_0_1 (by first | decide | omega) (by first | decide | omega) (by decide)
    have q2675 : h1484 1 2 = h1466 1 2 := jK 0 f1486 rg_1_2_0_1 (by first | decide | omega) (by first | decide | omega) (by decide)
    obtain ⟨w2676, e2677⟩ := Tk.no c1504 (by first | decide | omega)
    have q2678 : h1484 1 2 = h1466 1 2 := jK 0 f1486 rg_1_2_0_1 (by first | decide | omega) (by first | decide | omega) (by decide)
    refine x_retI (np := 93) (x := 0) (by decide +kernel) (by decide) (Or.inr ⟨by decide +kernel, by first | decide | omega, by first | decide | omega⟩) ⟨_, rfl, (by decide), ?_⟩
    exact ⟨j1499, f1505, (by first | decide | omega), (by first | decide | omega), (by first | decide | omega), (by first | decide | omega), (by first | decide | omega), (fun z => by first | decide | omega), (by first | decide | omega), (or9.y w2659 (show h8 1 2 = h 1 2 by first | decide | omega) e2660 rfl (nm9.y c1473 (by first | decide | omega) (by first | decide | omega) (show h1442 1 2 = h35 1 2 by first | decide | omega) (by first | decide | omega) rfl (wd9.f w2663 (show h1484 1 2 = h1466 1 2 by first | decide | omega) (by first | decide | omega)))), m2670, (fun _ => (oF.y w2672 (show h8 1 2 = h 1 2 by first | decide | omega) e2673 rfl (mF.y c1473 (by first | decide | omega) (by first | decide | omega) (show h1442 1 2 = h35 1 2 by first | decide | omega) (by first | decide | omega) rfl (wF.no w2676 (show h1484 1 2 = h1466 1 2 by first | decide | omega) (show h1498 1 2 = h1484 1 2 by first | decide | omega)))))⟩
  have q1479 : ¬ (v1461 ≠ 2147483647) := q1479
  have b2679 := c1472 (by first | decide | omega)
  refine x_const (np := 20) (x := 9223372039002259456) (a := 2147483648) (by decide +kernel) (by decide) (by decide) ?_
  refine x_retI (np := 21) (x := 0) (by decide +kernel) (by decide) (Or.inr ⟨by decide +kernel, by first | decide | omega, by first | decide | omega⟩) ⟨_, rfl, (by decide), ?_⟩
  refine x_ifz (k := 0) (tg := 91) (np := 79) (by decide +kernel) (by decide) (by decide) (fun q2680 => ?_) (fun q2681 => ?_)
  · have q2680 : 2147483648 = 2147483648 := q2680
    refine x_const (np := 92) (x := 9223372039002259456) (a := 2147483648) (by decide +kernel) (by decide) (by decide) ?_
    have e2682 : rv h 0 = (h (h 61 1) 7) := (congrArg (fun z => svq h z 0) rfl).trans rfl
    have q2683 : h1466 61 1 = h1442 61 1 := f1468 61 1 (by decide +kernel)
    have q2684 : h1442 61 1 = h35 61 1 := f1444 61 1 (by decide +kernel)
    have q2685 : h35 61 1 = h8 61 1 := f37 61 1 (by decide +kernel)
    have q2686 : h8 61 1 = h 61 1 := f10 61 1 (by decide +kernel)
    have q2687 : h1466 (h 61 1) 7 = h1442 (h 61 1) 7 := jK 0 f1468 (rg_T0_7_0_1 t1) (by first | decide | omega) (by first | decide | omega) (by decide)
    have q2688 : h1442 (h 61 1) 7 = h35 (h 61 1) 7 := jK 0 f1444 (rg_T0_7_0_1 t1) (by first | decide | omega) (by first | decide | omega) (by decide)
    have q2689 : h35 (h 61 1) 7 = h8 (h 61 1) 7 := jK 0 f37 (rg_T0_7_0_1 t1) (by first | decide | omega) (by first | decide | omega) (by decide)
    have e2690 : rv h1466 0 = (h8 (h 61 1) 7) := (congrArg (fun z => svq h1466 z 0) (((q2683.trans q2684).trans q2685).trans q2686)).trans ((q2687.trans q2688).trans q2689)
    have e2691 : rv h 1 = (h (h 61 1) 8) := (congrArg (fun z => svq h z 1) rfl).trans rfl
    have q2692 : h1466 61 1 = h1442 61 1 := f1468 61 1 (by decide +kernel)
    have q2693 : h1442 61 1 = h35 61 1 := f1444 61 1 (by decide +kernel)
    have q2694 : h35 61 1 = h8 61 1 := f37 61 1 (by decide +kernel)
    have q2695 : h8 61 1 = h 61 1 := f10 61 1 (by decide +kernel)
    have q2696 : h1466 (h 61 1) 8 = h1442 (h 61 1) 8 := jK 0 f1468 (rg_T0_8_0_1 t1) (by first | decide | omega) (by first | decide | omega) (by decide)
    have q2697 : h1442 (h 61 1) 8 = h35 (h 61 1) 8 := jK 0 f1444 (rg_T0_8_0_1 t1) (by first | decide | omega) (by first | decide | omega) (by decide)
    have q2698 : h35 (h 61 1) 8 = h8 (h 61 1) 8 := jK 0 f37 (rg_T0_8_0_1 t1) (by first | decide | omega) (by first | decide | omega) (by decide)
    have e2699 : rv h1466 1 = (h8 (h 61 1) 8) := (congrArg (fun z => svq h1466 z 1) (((q2692.trans q2693).trans q2694).trans q2695)).trans ((q2696.trans q2697).trans q2698)
    have e2700 : rv h 2 = (h ((h 61 1) + 1) 2) := (congrArg (fun z => svq h z 2) rfl).trans rfl
    have q2701 : h1466 61 1 = h1442 61 1 := f1468 61 1 (by decide +kernel)
    have q2702 : h1442 61 1 = h35 61 1 := f1444 61 1 (by decide +kernel)
    have q2703 : h35 61 1 = h8 61 1 := f37 61 1 (by decide +kernel)
    have q2704 : h8 61 1 = h 61 1 := f10 61 1 (by decide +kernel)
    have q2705 : h1466 ((h 61 1) + 1) 2 = h1442 ((h 61 1) + 1) 2 := jK 0 f1468 (rg_T1_2_0_1 t1) (by first | decide | omega) (by first | decide | omega) (by decide)
    have q2706 : h1442 ((h 61 1) + 1) 2 = h35 ((h 61 1) + 1) 2 := jK 0 f1444 (rg_T1_2_0_1 t1) (by first | decide | omega) (by first | decide | omega) (by decide)
    have q2707 : h35 ((h 61 1) + 1) 2 = h8 ((h 61 1) + 1) 2 := jK 0 f37 (rg_T1_2_0_1 t1) (by first | decide | omega) (by first | decide | omega) (by decide)
    have e2708 : rv h1466 2 = (h8 ((h 61 1) + 1) 2) := (congrArg (fun z => svq h1466 z 2) (((q2701.trans q2702).trans q2703).trans q2704)).trans ((q2705.trans q2706).trans q2707)
    have e2709 : rv h 3 = (h ((h 61 1) + 3) 2) := (congrArg (fun z => svq h z 3) rfl).trans rfl
    have q2710 : h1466 61 1 = h1442 61 1 := f1468 61 1 (by decide +kernel)
    have q2711 : h1442 61 1 = h35 61 1 := f1444 61 1 (by decide +kernel)
    have q2712 : h35 61 1 = h8 61 1 := f37 61 1 (by decide +kernel)
    have q2713 : h8 61 1 = h 61 1 := f10 61 1 (by decide +kernel)
    have q2714 : h1466 ((h 61 1) + 3) 2 = h1442 ((h 61 1) + 3) 2 := jK 0 f1468 (rg_T3_2_0_1 t1) (by first | decide | omega) (by first | decide | omega) (by decide)
    have q2715 : h1442 ((h 61 1) + 3) 2 = h35 ((h 61 1) + 3) 2 := jK 0 f1444 (rg_T3_2_0_1 t1) (by first | decide | omega) (by first | decide | omega) (by decide)
    have q2716 : h35 ((h 61 1) + 3) 2 = h8 ((h 61 1) + 3) 2 := jK 0 f37 (rg_T3_2_0_1 t1) (by first | decide | omega) (by first | decide | omega) (by decide)
    have e2717 : rv h1466 3 = (h8 ((h 61 1) + 3) 2) := (congrArg (fun z => svq h1466 z 3) (((q2710.trans q2711).trans q2712).trans q2713)).trans ((q2714.trans q2715).trans q2716)
    have q2718 : h1466 61 1 = h1442 61 1 := f1468 61 1 (by decide +kernel)
    have q2719 : h1442 61 1 = h35 61 1 := f1444 61 1 (by decide +kernel)
    have q2720 : h35 61 1 = h8 61 1 := f37 61 1 (by decide +kernel)
    have q2721 : h8 61 1 = h 61 1 := f10 61 1 (by decide +kernel)
    have q2722 : h1466 ((h 61 1) + 5) 2 = h1442 ((h 61 1) + 5) 2 := jK 0 f1468 (rg_T5_2_0_1 t1) (by first | decide | omega) (by first | decide | omega) (by decide)
    have q2723 : h1442 ((h 61 1) + 5) 2 = h35 ((h 61 1) + 5) 2 := jK 0 f1444 (rg_T5_2_0_1 t1) (by first | decide | omega) (by first | decide | omega) (by decide)
    have q2724 : h35 ((h 61 1) + 5) 2 = h8 ((h 61 1) + 5) 2 := jK 0 f37 (rg_T5_2_0_1 t1) (by first | decide | omega) (by first | decide | omega) (by decide)
    have e2725 : rv h1466 4 = (h8 ((h 61 1) + 5) 2) := (congrArg (fun z => svq h1466 z 4) (((q2718.trans q2719).trans q2720).trans q2721)).trans ((q2722.trans q2723).trans q2724)
    have e2726 : rv h 5 = (h ((h 61 1) + 7) 2) := (congrArg (fun z => svq h z 5) rfl).trans rfl
    have q2727 : h1466 61 1 = h1442 61 1 := f1468 61 1 (by decide +kernel)
    have q2728 : h1442 61 1 = h35 61 1 := f1444 61 1 (by decide +kernel)
    have q2729 : h35 61 1 = h8 61 1 := f37 61 1 (by decide +kernel)
    have q2730 : h8 61 1 = h 61 1 := f10 61 1 (by decide +kernel)
    have q2731 : h1466 ((h 61 1) + 7) 2 = h1442 ((h 61 1) + 7) 2 := jK 0 f1468 (rg_T7_2_0_1 t1) (by first | decide | omega) (by first | decide | omega) (by decide)
    have q2732 : h1442 ((h 61 1) + 7) 2 = h35 ((h 61 1) + 7) 2 := jK 0 f1444 (rg_T7_2_0_1 t1) (by first | decide | omega) (by first | decide | omega) (by decide)
    have q2733 : h35 ((h 61 1) + 7) 2 = h8 ((h 61 1) + 7) 2 := jK 0 f37 (rg_T7_2_0_1 t1) (by first | decide | omega) (by first | decide | omega) (by decide)
    have e2734 : rv h1466 5 = (h8 ((h 61 1) + 7) 2) := (congrArg (fun z => svq h1466 z 5) (((q2727.trans q2728).trans q2729).trans q2730)).trans ((q2731.trans q2732).trans q2733)
    have q2735 : h8 1 2 = h 1 2 := jK 0 f10 rg_1_2_0_1 (by first | decide | omega) (by first | decide | omega) (by decide)
    obtain ⟨w2736, e2737⟩ := Tk.yes c41 (by first | decide | omega)
    have q2738 : h1442 1 2 = h35 1 2 := jK 0 f1444 rg_1_2_0_1 (by first | decide | omega) (by first | decide | omega) (by decide)
    have m2739 : Ot (h 61 1) h h8 := Ot.trans Ot.refl (c19)
    have m2740 : Ot (h 61 1) h h35 := Ot.fr m2739 f37 (by decide)
    have m2741 : Ot (h 61 1) h h1442 := Ot.fr m2740 f1444 (by decide)
    have m2742 : Ot (h 61 1) h h1466 := Ot.fr m2741 f1468 (by decide)
    have q2743 : h8 1 2 = h 1 2 := jK 0 f10 rg_1_2_0_1 (by first | decide | omega) (by first | decide | omega) (by decide)
    obtain ⟨w2744, e2745⟩ := Tk.yes c41 (by first | decide | omega)
    have q2746 : h1442 1 2 = h35 1 2 := jK 0 f1444 rg_1_2_0_1 (by first | decide | omega) (by first | decide | omega) (by decide)
    have q2747 : h1442 1 2 = h35 1 2 := jK 0 f1444 rg_1_2_0_1 (by first | decide | omega) (by first | decide | omega) (by decide)
    refine x_retI (np := 93) (x := 0) (by decide +kernel) (by decide) (Or.inr ⟨by decide +kernel, by first | decide | omega, by first | decide | omega⟩) ⟨_, rfl, (by decide), ?_⟩
    exact ⟨j1467, f1474, (by first | decide | omega), (by first | decide | omega), (by first | decide | omega), (by first | decide | omega), (by first | decide | omega), (fun z => by first | decide | omega), (by first | decide | omega), (or9.y w2736 (show h8 1 2 = h 1 2 by first | decide | omega) e2737 rfl (nm9.f c1473 (by first | decide | omega) (by first | decide | omega) (show h1442 1 2 = h35 1 2 by first | decide | omega) (by first | decide | omega) (by first | decide | omega))), m2742, (fun _ => (oF.y w2744 (show h8 1 2 = h 1 2 by first | decide | omega) e2745 rfl (mF.no c1473 (by first | decide | omega) (by first | decide | omega) (show h1442 1 2 = h35 1 2 by first | decide | omega) (by first | decide | omega) (show h1466 1 2 = h1442 1 2 by first | decide | omega))))⟩
  have q2681 : ¬ (2147483648 = 2147483648) := q2681
  exfalso; omega
