/-! ===== methods ===== -/
set_option maxHeartbeats 0 in
/-- LentNames$Search.keepSet(I)V -/
theorem c279_69_c0 {sc : Nat × Nat} {d  : Nat} {h : xh} (hJ : J h) : X sc 279 d (xV fun h' => J h' ∧ Fr 65537 h h') 0 0 0 [x_r 69, iv_c 2147483648, 147573952589676412928, 147573952589676412928] [] h := by
  have hF := Fr.refl 65537 h
  refine x_aload (np := 1) (x := 0) (by decide +kernel) rfl (x_nc_le (by decide)) ?_
  refine x_dup (np := 2) (x := 0) (by decide +kernel) (by have z := x_nc_le (k := 69) (by decide); unfold x_r; omega) ?_
  refine x_getC (np := 5) (x := 776) (f := 8) (q := (h 69 8)) (by decide +kernel) (by decide) (by decide +kernel) rfl (fun l1 => ?_)
  refine x_const (np := 6) (x := 9223372043297226753) (a := 2147483649) (by decide +kernel) (by decide) (by decide) ?_
  refine x_addA (by rw [tb_b279]; decide +kernel) l1 (by decide) (fun v2 l3 => ?_)
  refine x_putI (np := 10) (x := 776) (f := 8) (by decide +kernel) (by decide +kernel) l3 (Or.inl (by decide)) ?_
  have j5 := jU (e := 8) (v := v2) 0 hJ rg_69_8_0_1 (by omega) (by omega) (by omega)
  have f7 := jF (e := 8) (v := v2) 0 hF rg_69_8_0_1 (by omega) (by omega) (by decide)
  generalize e6 : x_up h 69 8 v2 = h4 at j5 f7 ⊢
  refine x_aload (np := 11) (x := 0) (by decide +kernel) rfl (x_nc_le (by decide)) ?_
  have q8 : h4 69 8 = v2 := by rw [← e6]; exact x_up_at
  refine x_getC (np := 14) (x := 776) (f := 8) (q := v2) (by decide +kernel) (by decide) (by decide +kernel) q8 (fun l9 => ?_)
  refine x_const (np := 15) (x := 9223372043297226753) (a := 2147483649) (by decide +kernel) (by decide) (by decide) ?_
  refine x_icmp (k := 5) (tg := 19) (np := 18) (by decide +kernel) (by decide) l3 (by decide) (fun q10 => ?_) (fun q11 => ?_)
  · have q10 : v2 ≤ 2147483649 := q10
    refine x_aload (np := 20) (x := 0) (by decide +kernel) rfl (x_nc_le (by decide)) ?_
    refine x_iload (np := 21) (x := 1) (by decide +kernel) rfl (by decide) ?_
    refine x_putI (np := 24) (x := 783) (f := 15) (by decide +kernel) (by decide +kernel) (by decide) (Or.inl (by decide)) ?_
    have j13 := jU (e := 15) (v := 2147483648) 0 j5 rg_69_15_0_1 (by omega) (by omega) (by omega)
    have f15 := jF (e := 15) (v := 2147483648) 0 f7 rg_69_15_0_1 (by omega) (by omega) (by decide)
    generalize e14 : x_up h4 69 15 2147483648 = h12 at j13 f15 ⊢
    refine x_const (np := 25) (x := 9223372039002259456) (a := 2147483648) (by decide +kernel) (by decide) (by decide) ?_
    refine x_istore (np := 26) (x := 2) (lo' := [x_r 69, iv_c 2147483648, iv_c 2147483648, 147573952589676412928]) (by decide +kernel) (by decide) (Nat.le_of_ble_eq_true rfl) rfl ?_
    have p26 : ∀ (n : Nat) (v23 : Nat) (w25 : Nat), 0 < n → (2147483648 ≤ v23 ∧ v23 ≤ 2147483648) → X sc 279 d (xV fun h' => J h' ∧ Fr 65537 h h') 0 0 26 [x_r 69, iv_c 2147483648, iv_c v23, w25] [] h12 := by
      intro n
      induction n with
      | zero => intro v23 w25 q27; exact absurd q27 (Nat.not_lt_zero _)
      | succ n i28 =>
        intro v23 w25 q27 b24
        refine x_iload (np := 27) (x := 2) (by decide +kernel) rfl (by omega) ?_
        refine x_aload (np := 28) (x := 0) (by decide +kernel) rfl (x_nc_le (by decide)) ?_
        have q29 : h12 69 15 = 2147483648 := by rw [← e14]; exact x_up_at
        refine x_getC (np := 31) (x := 783) (f := 15) (q := 2147483648) (by decide +kernel) (by decide) (by decide +kernel) q29 (fun l30 => ?_)
        refine x_icmp (k := 3) (tg := 95) (np := 34) (by decide +kernel) (by decide) (by omega) (by decide) (fun q31 => ?_) (fun q32 => ?_)
        · have q31 : 2147483648 ≤ v23 := q31
          refine x_retV (np := 96) (x := 0) (by decide +kernel) (by decide +kernel) ⟨rfl, ?_⟩
          exact ⟨j13, f15⟩
        have q32 : ¬ (2147483648 ≤ v23) := q32
        exfalso; omega
    exact p26 _ 2147483648 147573952589676412928 (Nat.lt_succ_self _) (by omega)
  have q11 : ¬ (v2 ≤ 2147483649) := q11
  refine x_retV (np := 19) (x := 0) (by decide +kernel) (by decide +kernel) ⟨rfl, ?_⟩
  exact ⟨j5, f7⟩
set_option maxHeartbeats 0 in
/-- LentNames$Search.come(I)V -/
theorem c274_69_c0 {sc : Nat × Nat} {d  : Nat} {h : xh} (hJ : J h) : X sc 274 (d + 23) (xV fun h' => J h' ∧ Fr 65537 h h') 0 0 0 [x_r 69, iv_c 2147483648] [] h := by
  have hF := Fr.refl 65537 h
  refine x_aload (np := 1) (x := 0) (by decide +kernel) rfl (x_nc_le (by decide)) ?_
  refine x_dup (np := 2) (x := 0) (by decide +kernel) (by have z := x_nc_le (k := 69) (by decide); unfold x_r; omega) ?_
  refine x_getC (np := 5) (x := 785) (f := 17) (q := (h 69 17)) (by decide +kernel) (by decide) (by decide +kernel) rfl (fun l1 => ?_)
  refine x_const (np := 6) (x := 9223372043297226753) (a := 2147483649) (by decide +kernel) (by decide) (by decide) ?_
  refine x_addA (by rw [tb_b274]; decide +kernel) l1 (by decide) (fun v2 l3 => ?_)
  refine x_putI (np := 10) (x := 785) (f := 17) (by decide +kernel) (by decide +kernel) l3 (Or.inl (by decide)) ?_
  have j5 := jU (e := 17) (v := v2) 0 hJ rg_69_17_0_1 (by omega) (by omega) (by omega)
  have f7 := jF (e := 17) (v := v2) 0 hF rg_69_17_0_1 (by omega) (by omega) (by decide)
  generalize e6 : x_up h 69 17 v2 = h4 at j5 f7 ⊢
  refine x_aload (np := 11) (x := 0) (by decide +kernel) rfl (x_nc_le (by decide)) ?_
  have q8 : h4 69 17 = v2 := by rw [← e6]; exact x_up_at
  refine x_getC (np := 14) (x := 785) (f := 17) (q := v2) (by decide +kernel) (by decide) (by decide +kernel) q8 (fun l9 => ?_)
  refine x_const (np := 17) (x := 9223457938348199456) (a := 2147503648) (by decide +kernel) (by decide) (by decide) ?_
  refine x_icmp (k := 5) (tg := 28) (np := 20) (by decide +kernel) (by decide) l3 (by decide) (fun q10 => ?_) (fun q11 => ?_)
  · have q10 : v2 ≤ 2147503648 := q10
    refine x_aload (np := 29) (x := 0) (by decide +kernel) rfl (x_nc_le (by decide)) ?_
    refine x_vI (np := 32) (x := 5246979) (kk := 3) (cls := 5) (mj := 63) (ml := 3) (nr := 0) (rest := []) (lo1 := [x_r 69, 147573952589676412928, 147573952589676412928]) (by decide +kernel) (by decide) (by decide) (by decide) (by decide +kernel) (by decide +kernel) (by decide) (by decide +kernel) (by decide +kernel) x_wn (by decide) rfl (c63_69 j5) (fun v12 h15 l13 q14 => ?_)
    obtain ⟨j16, f17, b18⟩ := q14
    have f19 := Fr.trans f7 f17 (by decide)
    refine x_ifz (k := 1) (tg := 43) (np := 35) (by decide +kernel) (by decide) l13 (fun q20 => ?_) (fun q21 => ?_)
    · have q20 : v12 ≠ 2147483648 := q20
      refine x_iload (np := 44) (x := 1) (by decide +kernel) rfl (by decide) ?_
      refine x_aload (np := 45) (x := 0) (by decide +kernel) rfl (x_nc_le (by decide)) ?_
      refine x_getC (np := 48) (x := 784) (f := 16) (q := (h15 69 16)) (by decide +kernel) (by decide) (by decide +kernel) rfl (fun l22 => ?_)
      refine x_icmp (k := 3) (tg := 61) (np := 51) (by decide +kernel) (by decide) (by decide) l22 (fun q23 => ?_) (fun q24 => ?_)
      · have q23 : (h15 69 16) ≤ 2147483648 := q23
        refine x_retV (np := 62) (x := 0) (by decide +kernel) (by decide +kernel) ⟨rfl, ?_⟩
        exact ⟨j16, f19⟩
      have q24 : ¬ ((h15 69 16) ≤ 2147483648) := q24
      refine x_iload (np := 52) (x := 1) (by decide +kernel) rfl (by decide) ?_
      refine x_const (np := 53) (x := 9223372060477095941) (a := 2147483653) (by decide +kernel) (by decide) (by decide) ?_
      refine x_icmp (k := 3) (tg := 61) (np := 56) (by decide +kernel) (by decide) (by decide) (by decide) (fun q25 => ?_) (fun q26 => ?_)
      · have q25 : 2147483653 ≤ 2147483648 := q25
        exfalso; omega
      have q26 : ¬ (2147483653 ≤ 2147483648) := q26
      refine x_aload (np := 57) (x := 0) (by decide +kernel) rfl (x_nc_le (by decide)) ?_
      refine x_iload (np := 58) (x := 1) (by decide +kernel) rfl (by decide) ?_
      refine x_cV (t := 8) (mj := 275) (n := 2) (rc := 13) (ml := 8) (nr := 0) (np := 61) (as := [x_r 69, iv_c 2147483648]) (rest := []) (lo1 := [x_r 69, iv_c 2147483648, 147573952589676412928, 147573952589676412928, 147573952589676412928, 147573952589676412928, 147573952589676412928, 147573952589676412928]) (by decide +kernel) (by decide) (by decide +kernel) (x_rb_of (by decide +kernel)) rfl rfl (x_wr (by decide) (x_wi (by decide) x_wn)) x_wn (by decide) rfl (c275_69_c0 j16  ) (fun h30 q29 => ?_)
      obtain ⟨j31, f32⟩ := q29
      have f35 := Fr.trans f19 f32 (by decide)
      refine x_retV (np := 62) (x := 0) (by decide +kernel) (by decide +kernel) ⟨rfl, ?_⟩
      exact ⟨j31, f35⟩
    have q21 : ¬ (v12 ≠ 2147483648) := q21
    refine x_aload (np := 36) (x := 0) (by decide +kernel) rfl (x_nc_le (by decide)) ?_
    refine x_iload (np := 37) (x := 1) (by decide +kernel) rfl (by decide) ?_
    refine x_cV (t := 8) (mj := 279) (n := 2) (rc := 13) (ml := 4) (nr := 0) (np := 40) (as := [x_r 69, iv_c 2147483648]) (rest := []) (lo1 := [x_r 69, iv_c 2147483648, 147573952589676412928, 147573952589676412928]) (by decide +kernel) (by decide) (by decide +kernel) (x_rb_of (by decide +kernel)) rfl rfl (x_wr (by decide) (x_wi (by decide) x_wn)) x_wn (by decide) rfl (c279_69_c0 j16  ) (fun h39 q38 => ?_)
    obtain ⟨j40, f41⟩ := q38
    have f44 := Fr.trans f19 f41 (by decide)
    refine x_goto (np := 43) (x := 61) (by decide +kernel) ?_
    refine x_retV (np := 62) (x := 0) (by decide +kernel) (by decide +kernel) ⟨rfl, ?_⟩
    exact ⟨j40, f44⟩
  have q11 : ¬ (v2 ≤ 2147503648) := q11
  refine x_aload (np := 21) (x := 0) (by decide +kernel) rfl (x_nc_le (by decide)) ?_
  refine x_const (np := 22) (x := 9223372043297226753) (a := 2147483649) (by decide +kernel) (by decide) (by decide) ?_
  refine x_putI (np := 25) (x := 4873) (f := 9) (by decide +kernel) (by decide +kernel) (by decide) (Or.inr ⟨by decide, by omega, by omega⟩) ?_
  have j46 := jU (e := 9) (v := 2147483649) 0 j5 rg_69_9_0_1 (by omega) (by omega) (by omega)
  have f48 := jF (e := 9) (v := 2147483649) 0 f7 rg_69_9_0_1 (by omega) (by omega) (by decide)
  generalize e47 : x_up h4 69 9 2147483649 = h45 at j46 f48 ⊢
  refine x_goto (np := 28) (x := 61) (by decide +kernel) ?_
  refine x_retV (np := 62) (x := 0) (by decide +kernel) (by decide +kernel) ⟨rfl, ?_⟩
  exact ⟨j46, f48⟩
set_option maxHeartbeats 0 in
/-- LentNames$Search.ask(I)V -/
theorem c271_69 {sc : Nat × Nat} {d a1 : Nat} {h : xh} (hJ : J h) (ba1 : 2147483648 ≤ a1 ∧ a1 ≤ 2147483659) : X sc 271 (d + 24) (xV fun h' => J h' ∧ Fr 65537 h h') 0 0 0 [x_r 69, iv_c a1, 147573952589676412928] [] h := by
  have la1 : a1 < 4294967296 := by omega
  have hF := Fr.refl 65537 h
  refine x_aload (np := 1) (x := 0) (by decide +kernel) rfl (x_nc_le (by decide)) ?_
  have b1 := jB (e := 14) 0 hJ rg_69_14_0_1 (by omega) (by omega)
  refine x_getC (np := 4) (x := 782) (f := 14) (q := (h 69 14)) (by decide +kernel) (by decide) (by decide +kernel) rfl (fun l2 => ?_)
  refine x_ifz (k := 0) (tg := 16) (np := 7) (by decide +kernel) (by decide) l2 (fun q3 => ?_) (fun q4 => ?_)
  · have q3 : (h 69 14) = 2147483648 := q3
    refine x_aload (np := 17) (x := 0) (by decide +kernel) rfl (x_nc_le (by decide)) ?_
    refine x_aload (np := 18) (x := 0) (by decide +kernel) rfl (x_nc_le (by decide)) ?_
    have q5 : h 69 5 = 45 := by have z := jB (e := 5) 0 hJ rg_69_5_0_1 (by decide) (by decide); omega
    refine x_getR (np := 21) (x := 773) (f := 5) (q := 45) (by decide +kernel) (by decide) (by decide +kernel) q5 ?_
    have t6 : tw (h 45 5) := hJ.2.2.2.1
    refine x_getR (np := 24) (x := 69) (f := 5) (q := (h 45 5)) (by decide +kernel) (by decide) (by decide +kernel) rfl ?_
    refine x_putR (np := 27) (x := 8966) (f := 6) (by decide +kernel) (by decide +kernel) (tn_0 t6) (by decide) ?_
    have j8 := J_upW (k := 69) (i := 6) hJ t6 (by decide)
    have f10 := Fr.up (k := 69) (i := 6) (v := (h 45 5)) hF (by decide +kernel)
    generalize e9 : x_up h 69 6 (h 45 5) = h7 at j8 f10 ⊢
    refine x_aload (np := 28) (x := 0) (by decide +kernel) rfl (x_nc_le (by decide)) ?_
    refine x_iload (np := 29) (x := 1) (by decide +kernel) rfl la1 ?_
    refine x_putI (np := 32) (x := 775) (f := 7) (by decide +kernel) (by decide +kernel) la1 (Or.inl (by decide)) ?_
    have j12 := jU (e := 7) (v := a1) 0 j8 rg_69_7_0_1 (by omega) (by omega) (by omega)
    have f14 := jF (e := 7) (v := a1) 0 f10 rg_69_7_0_1 (by omega) (by omega) (by decide)
    generalize e13 : x_up h7 69 7 a1 = h11 at j12 f14 ⊢
    refine x_aload (np := 33) (x := 0) (by decide +kernel) rfl (x_nc_le (by decide)) ?_
    have q15 : h11 69 5 = 45 := by have z := jB (e := 5) 0 j12 rg_69_5_0_1 (by decide) (by decide); omega
    refine x_getR (np := 36) (x := 773) (f := 5) (q := 45) (by decide +kernel) (by decide) (by decide +kernel) q15 ?_
    have q16 : h11 45 1 = 47 := by have z := jB (e := 1) 0 j12 rg_45_1_0_1 (by decide) (by decide); omega
    refine x_getR (np := 39) (x := 65) (f := 1) (q := 47) (by decide +kernel) (by decide) (by decide +kernel) q16 ?_
    refine x_const (np := 40) (x := 9223372039002259456) (a := 2147483648) (by decide +kernel) (by decide) (by decide) ?_
    refine x_aload (np := 41) (x := 0) (by decide +kernel) rfl (x_nc_le (by decide)) ?_
    have q17 : h11 69 0 = 70 := by have z := jB (e := 0) 0 j12 rg_69_0_0_1 (by decide) (by decide); omega
    refine x_getR (np := 44) (x := 768) (f := 0) (q := 70) (by decide +kernel) (by decide) (by decide +kernel) q17 ?_
    refine x_const (np := 45) (x := 9223372039002259456) (a := 2147483648) (by decide +kernel) (by decide) (by decide) ?_
    refine x_aload (np := 46) (x := 0) (by decide +kernel) rfl (x_nc_le (by decide)) ?_
    have q18 : h11 69 0 = 70 := by have z := jB (e := 0) 0 j12 rg_69_0_0_1 (by decide) (by decide); omega
    refine x_getR (np := 49) (x := 768) (f := 0) (q := 70) (by decide +kernel) (by decide) (by decide +kernel) q18 ?_
    refine x_alen (np := 50) (x := 0) (n := 36) (by decide +kernel) (by decide) (by decide +kernel) (by decide +kernel) (by decide) ?_
    show X _ _ _ _ _ _ _ _ [iv_c 2147483684, iv_c 2147483648, x_r 70, iv_c 2147483648, x_r 47] _
    refine x_copy (np := 53) (q := 70) (r := 47) (N := 36) (nq := 36) (nr := 36) (n8 := 0) (by decide +kernel) (by decide +kernel) (by decide +kernel) (by decide) (by decide) (by decide) (by decide) x_wn (by decide) ?_
    have j20 := J_cp (q := 70) (r := 47) (N := 36) j12 (by decide) (by decide +kernel) (by decide +kernel) (by decide +kernel)
    have f21 := Fr_cp (q := 70) (r := 47) (N := 36) (Fr.refl 65536 h11) (fun i _ => show Nat.testBit 65536 16 = true by decide)
    generalize e22 : x_cp h11 70 47 36 = h19 at j20 f21 ⊢
    have f23 := Fr.trans f14 f21 (by decide)
    refine x_const (np := 54) (x := 9223372039002259456) (a := 2147483648) (by decide +kernel) (by decide) (by decide) ?_
    refine x_istore (np := 55) (x := 2) (lo' := [x_r 69, iv_c a1, iv_c 2147483648]) (by decide +kernel) (by decide) (Nat.le_of_ble_eq_true rfl) rfl ?_
    have p116 : ∀ (n : Nat) (v111 : Nat) (h113 : xh), 4294967296 - v111 < n → (2147483648 ≤ v111 ∧ v111 ≤ 2147483654) → J h113 → Fr 65536 h19 h113 → X sc 271 (d + 24) (xV fun h' => J h' ∧ Fr 65537 h h') 0 0 55 [x_r 69, iv_c a1, iv_c v111] [] h113 := by
      intro n
      induction n with
      | zero => intro v111 h113 q117; exact absurd q117 (Nat.not_lt_zero _)
      | succ n i118 =>
        intro v111 h113 q117 b112 j115 f114
        have f119 := Fr.trans f23 f114 (by decide)
        refine x_iload (np := 56) (x := 2) (by decide +kernel) rfl (by omega) ?_
        refine x_const (np := 58) (x := 9223372064772063238) (a := 2147483654) (by decide +kernel) (by decide) (by decide) ?_
        refine x_icmp (k := 3) (tg := 74) (np := 61) (by decide +kernel) (by decide) (by omega) (by decide) (fun q120 => ?_) (fun q121 => ?_)
        · have q120 : 2147483654 ≤ v111 := q120
          refine x_aload (np := 75) (x := 0) (by decide +kernel) rfl (x_nc_le (by decide)) ?_
          refine x_const (np := 76) (x := 9223372039002259456) (a := 2147483648) (by decide +kernel) (by decide) (by decide) ?_
          refine x_putI (np := 79) (x := 776) (f := 8) (by decide +kernel) (by decide +kernel) (by decide) (Or.inl (by decide)) ?_
          have j123 := jU (e := 8) (v := 2147483648) 0 j115 rg_69_8_0_1 (by omega) (by omega) (by omega)
          have f125 := jF (e := 8) (v := 2147483648) 0 f119 rg_69_8_0_1 (by omega) (by omega) (by decide)
          generalize e124 : x_up h113 69 8 2147483648 = h122 at j123 f125 ⊢
          refine x_aload (np := 80) (x := 0) (by decide +kernel) rfl (x_nc_le (by decide)) ?_
          refine x_const (np := 81) (x := 9223372039002259456) (a := 2147483648) (by decide +kernel) (by decide) (by decide) ?_
          refine x_putI (np := 84) (x := 783) (f := 15) (by decide +kernel) (by decide +kernel) (by decide) (Or.inl (by decide)) ?_
          have j127 := jU (e := 15) (v := 2147483648) 0 j123 rg_69_15_0_1 (by omega) (by omega) (by omega)
          have f129 := jF (e := 15) (v := 2147483648) 0 f125 rg_69_15_0_1 (by omega) (by omega) (by decide)
          generalize e128 : x_up h122 69 15 2147483648 = h126 at j127 f129 ⊢
          refine x_aload (np := 85) (x := 0) (by decide +kernel) rfl (x_nc_le (by decide)) ?_
          refine x_const (np := 86) (x := 9223372039002259456) (a := 2147483648) (by decide +kernel) (by decide) (by decide) ?_
          refine x_putI (np := 89) (x := 785) (f := 17) (by decide +kernel) (by decide +kernel) (by decide) (Or.inl (by decide)) ?_
          have j131 := jU (e := 17) (v := 2147483648) 0 j127 rg_69_17_0_1 (by omega) (by omega) (by omega)
          have f133 := jF (e := 17) (v := 2147483648) 0 f129 rg_69_17_0_1 (by omega) (by omega) (by decide)
          generalize e132 : x_up h126 69 17 2147483648 = h130 at j131 f133 ⊢
          refine x_aload (np := 90) (x := 0) (by decide +kernel) rfl (x_nc_le (by decide)) ?_
          refine x_const (np := 91) (x := 9223372039002259456) (a := 2147483648) (by decide +kernel) (by decide) (by decide) ?_
          refine x_putI (np := 94) (x := 4873) (f := 9) (by decide +kernel) (by decide +kernel) (by decide) (Or.inr ⟨by decide, by omega, by omega⟩) ?_
          have j135 := jU (e := 9) (v := 2147483648) 0 j131 rg_69_9_0_1 (by omega) (by omega) (by omega)
          have f137 := jF (e := 9) (v := 2147483648) 0 f133 rg_69_9_0_1 (by omega) (by omega) (by decide)
          generalize e136 : x_up h130 69 9 2147483648 = h134 at j135 f137 ⊢
          refine x_aload (np := 95) (x := 0) (by decide +kernel) rfl (x_nc_le (by decide)) ?_
          refine x_vV (np := 98) (x := 5246978) (kk := 2) (cls := 5) (mj := 62) (ml := 3) (nr := 0) (rest := []) (lo1 := [x_r 69, 147573952589676412928, 147573952589676412928]) (by decide +kernel) (by decide) (by decide) (by decide) (by decide +kernel) (by decide +kernel) (by decide) (by decide +kernel) (by decide +kernel) x_wn (by decide) rfl (c62_69 j135) (fun h141 q140 => ?_)
          obtain ⟨j142, f143⟩ := q140
          have f144 := Fr.trans f137 f143 (by decide)
          refine x_const (np := 99) (x := 9223372039002259456) (a := 2147483648) (by decide +kernel) (by decide) (by decide) ?_
          refine x_istore (np := 100) (x := 2) (lo' := [x_r 69, iv_c a1, iv_c 2147483648]) (by decide +kernel) (by decide) (Nat.le_of_ble_eq_true rfl) rfl ?_
          have p292 : ∀ (n : Nat) (v287 : Nat) (h289 : xh), 4294967296 - v287 < n → (2147483648 ≤ v287 ∧ v287 ≤ 2147483653) → J h289 → Fr 65537 h141 h289 → X sc 271 (d + 24) (xV fun h' => J h' ∧ Fr 65537 h h') 0 0 100 [x_r 69, iv_c a1, iv_c v287] [] h289 := by
            intro n
            induction n with
            | zero => intro v287 h289 q293; exact absurd q293 (Nat.not_lt_zero _)
            | succ n i294 =>
              intro v287 h289 q293 b288 j291 f290
              have f295 := Fr.trans f144 f290 (by decide)
              refine x_iload (np := 101) (x := 2) (by decide +kernel) rfl (by omega) ?_
              refine x_aload (np := 102) (x := 0) (by decide +kernel) rfl (x_nc_le (by decide)) ?_
              refine x_vI (P := fun r9 h9 => X sc 271 _ _ 0 0 105 [x_r 69, iv_c a1, iv_c v287] (iv_c r9 :: [iv_c v287]) h9) (np := 105) (x := 5246976) (kk := 0) (cls := 5) (mj := 60) (ml := 1) (nr := 1) (rest := [iv_c v287]) (lo1 := [x_r 69]) (by decide +kernel) (by decide) (by decide) (by decide) (by decide +kernel) (by decide +kernel) (by decide) (by decide +kernel) (by decide +kernel) (x_wi (by omega) x_wn) (by decide) rfl ?_ (fun _ _ _ z => z)
              refine x_const (np := 1) (x := 9223372056182128644) (a := 2147483652) (by decide +kernel) (by decide) (by decide) ?_
              refine x_retI (np := 2) (x := 0) (by decide +kernel) (by decide) (Or.inl (by decide +kernel)) ⟨_, rfl, (by decide), ?_⟩
              refine x_icmp (k := 4) (tg := 138) (np := 108) (by decide +kernel) (by decide) (by omega) (by decide) (fun q296 => ?_) (fun q297 => ?_)
              · have q296 : 2147483652 < v287 := q296
                refine x_aload (np := 139) (x := 0) (by decide +kernel) rfl (x_nc_le (by decide)) ?_
                refine x_const (np := 140) (x := 9223372043297226753) (a := 2147483649) (by decide +kernel) (by decide) (by decide) ?_
                refine x_putI (np := 143) (x := 4878) (f := 14) (by decide +kernel) (by decide +kernel) (by decide) (Or.inr ⟨by decide, by omega, by omega⟩) ?_
                have j299 := jU (e := 14) (v := 2147483649) 0 j291 rg_69_14_0_1 (by omega) (by omega) (by omega)
                have f301 := jF (e := 14) (v := 2147483649) 0 f295 rg_69_14_0_1 (by omega) (by omega) (by decide)
                generalize e300 : x_up h289 69 14 2147483649 = h298 at j299 f301 ⊢
                refine x_retV (np := 144) (x := 0) (by decide +kernel) (by decide +kernel) ⟨rfl, ?_⟩
                exact ⟨j299, f301⟩
              have q297 : ¬ (2147483652 < v287) := q297
              refine x_aload (np := 109) (x := 0) (by decide +kernel) rfl (x_nc_le (by decide)) ?_
              refine x_getC (np := 112) (x := 776) (f := 8) (q := (h289 69 8)) (by decide +kernel) (by decide) (by decide +kernel) rfl (fun l302 => ?_)
              refine x_ifz (k := 1) (tg := 138) (np := 115) (by decide +kernel) (by decide) l302 (fun q303 => ?_) (fun q304 => ?_)
              · have q303 : (h289 69 8) ≠ 2147483648 := q303
                refine x_aload (np := 139) (x := 0) (by decide +kernel) rfl (x_nc_le (by decide)) ?_
                refine x_const (np := 140) (x := 9223372043297226753) (a := 2147483649) (by decide +kernel) (by decide) (by decide) ?_
                refine x_putI (np := 143) (x := 4878) (f := 14) (by decide +kernel) (by decide +kernel) (by decide) (Or.inr ⟨by decide, by omega, by omega⟩) ?_
                have j306 := jU (e := 14) (v := 2147483649) 0 j291 rg_69_14_0_1 (by omega) (by omega) (by omega)
                have f308 := jF (e := 14) (v := 2147483649) 0 f295 rg_69_14_0_1 (by omega) (by omega) (by decide)
                generalize e307 : x_up h289 69 14 2147483649 = h305 at j306 f308 ⊢
                refine x_retV (np := 144) (x := 0) (by decide +kernel) (by decide +kernel) ⟨rfl, ?_⟩
                exact ⟨j306, f308⟩
              have q304 : ¬ ((h289 69 8) ≠ 2147483648) := q304
              refine x_aload (np := 116) (x := 0) (by decide +kernel) rfl (x_nc_le (by decide)) ?_
              have b309 := jB (e := 9) 0 j291 rg_69_9_0_1 (by omega) (by omega)
              refine x_getC (np := 119) (x := 777) (f := 9) (q := (h289 69 9)) (by decide +kernel) (by decide) (by decide +kernel) rfl (fun l310 => ?_)
              refine x_ifz (k := 1) (tg := 138) (np := 122) (by decide +kernel) (by decide) l310 (fun q311 => ?_) (fun q312 => ?_)
              · have q311 : (h289 69 9) ≠ 2147483648 := q311
                refine x_aload (np := 139) (x := 0) (by decide +kernel) rfl (x_nc_le (by decide)) ?_
                refine x_const (np := 140) (x := 9223372043297226753) (a := 2147483649) (by decide +kernel) (by decide) (by decide) ?_
                refine x_putI (np := 143) (x := 4878) (f := 14) (by decide +kernel) (by decide +kernel) (by decide) (Or.inr ⟨by decide, by omega, by omega⟩) ?_
                have j314 := jU (e := 14) (v := 2147483649) 0 j291 rg_69_14_0_1 (by omega) (by omega) (by omega)
                have f316 := jF (e := 14) (v := 2147483649) 0 f295 rg_69_14_0_1 (by omega) (by omega) (by decide)
                generalize e315 : x_up h289 69 14 2147483649 = h313 at j314 f316 ⊢
                refine x_retV (np := 144) (x := 0) (by decide +kernel) (by decide +kernel) ⟨rfl, ?_⟩
                exact ⟨j314, f316⟩
              have q312 : ¬ ((h289 69 9) ≠ 2147483648) := q312
              refine x_aload (np := 123) (x := 0) (by decide +kernel) rfl (x_nc_le (by decide)) ?_
              refine x_iload (np := 124) (x := 2) (by decide +kernel) rfl (by omega) ?_
              refine x_putI (np := 127) (x := 784) (f := 16) (by decide +kernel) (by decide +kernel) (by omega) (Or.inl (by decide)) ?_
              have j318 := jU (e := 16) (v := v287) 0 j291 rg_69_16_0_1 (by omega) (by omega) (by omega)
              have f320 := jF (e := 16) (v := v287) 0 f295 rg_69_16_0_1 (by omega) (by omega) (by decide)
              have f321 := jF (e := 16) (v := v287) 0 f290 rg_69_16_0_1 (by omega) (by omega) (by decide)
              generalize e319 : x_up h289 69 16 v287 = h317 at j318 f320 f321 ⊢
              refine x_aload (np := 128) (x := 0) (by decide +kernel) rfl (x_nc_le (by decide)) ?_
              refine x_const (np := 129) (x := 9223372039002259456) (a := 2147483648) (by decide +kernel) (by decide) (by decide) ?_
              refine x_cV (t := 8) (mj := 274) (n := 2) (rc := 13) (ml := 2) (nr := 0) (np := 132) (as := [x_r 69, iv_c 2147483648]) (rest := []) (lo1 := [x_r 69, iv_c 2147483648]) (by decide +kernel) (by decide) (by decide +kernel) (x_rb_of (by decide +kernel)) rfl rfl (x_wr (by decide) (x_wi (by decide) x_wn)) x_wn (by decide) rfl (c274_69_c0 j318  ) (fun h325 q324 => ?_)
              obtain ⟨j326, f327⟩ := q324
              have f330 := Fr.trans f320 f327 (by decide)
              have f331 := Fr.trans f321 f327 (by decide)
              refine x_iinc (np := 135) (i := 2) (j := 2147483649) (v := (1 + v287)) (lo' := [x_r 69, iv_c a1, iv_c (1 + v287)]) (by decide +kernel) (by decide) (by decide) rfl (by omega) (by omega) (by omega) rfl ?_
              refine x_goto (np := 138) (x := 100) (by decide +kernel) ?_
              exact i294 (1 + v287) h325 (by omega) (by omega) j326 f331
          exact p292 _ 2147483648 h141 (Nat.lt_succ_self _) (by omega) j142 (Fr.refl _ _)
        have q121 : ¬ (2147483654 ≤ v111) := q121
        refine x_aload (np := 62) (x := 0) (by decide +kernel) rfl (x_nc_le (by decide)) ?_
        have q332 : h113 69 2 = 72 := by have z := jB (e := 2) 0 j115 rg_69_2_0_1 (by decide) (by decide); omega
        refine x_getR (np := 65) (x := 770) (f := 2) (q := 72) (by decide +kernel) (by decide) (by decide +kernel) q332 ?_
        refine x_iload (np := 66) (x := 2) (by decide +kernel) rfl (by omega) ?_
        refine x_const (np := 67) (x := 9223372039002259456) (a := 2147483648) (by decide +kernel) (by decide) (by decide) ?_
        obtain ⟨u333, q334⟩ : ∃ z, v111 = 2147483648 + z := ⟨v111 - 2147483648, by omega⟩
        refine x_ast (np := 68) (x := 0) (kd := 1) (n := 6) (i := u333) (by decide +kernel) (Or.inl rfl) (by decide +kernel) (by omega) (by omega) (by decide) (by decide) (fun z => absurd z (by decide)) ?_
        have j336 := jU (e := u333) (v := 2147483648) u333 j115 rg_72_0_1_6 (by omega) (by omega) (by omega)
        have f338 := jF (e := u333) (v := 2147483648) u333 f119 rg_72_0_1_6 (by omega) (by omega) (by decide)
        have f339 := jF (e := u333) (v := 2147483648) u333 f114 rg_72_0_1_6 (by omega) (by omega) (by decide)
        generalize e337 : x_up h113 72 u333 2147483648 = h335 at j336 f338 f339 ⊢
        refine x_iinc (np := 71) (i := 2) (j := 2147483649) (v := (1 + v111)) (lo' := [x_r 69, iv_c a1, iv_c (1 + v111)]) (by decide +kernel) (by decide) (by decide) rfl (by omega) (by omega) (by omega) rfl ?_
        refine x_goto (np := 74) (x := 55) (by decide +kernel) ?_
        exact i118 (1 + v111) h335 (by omega) (by omega) j336 f339
    exact p116 _ 2147483648 h19 (Nat.lt_succ_self _) (by omega) j20 (Fr.refl _ _)
  have q4 : ¬ ((h 69 14) = 2147483648) := q4
  refine x_aload (np := 8) (x := 0) (by decide +kernel) rfl (x_nc_le (by decide)) ?_
  refine x_getC (np := 11) (x := 775) (f := 7) (q := (h 69 7)) (by decide +kernel) (by decide) (by decide +kernel) rfl (fun l340 => ?_)
  refine x_iload (np := 12) (x := 1) (by decide +kernel) rfl la1 ?_
  refine x_icmp (k := 1) (tg := 16) (np := 15) (by decide +kernel) (by decide) l340 la1 (fun q341 => ?_) (fun q342 => ?_)
  · have q341 : (h 69 7) ≠ a1 := q341
    refine x_aload (np := 17) (x := 0) (by decide +kernel) rfl (x_nc_le (by decide)) ?_
    refine x_aload (np := 18) (x := 0) (by decide +kernel) rfl (x_nc_le (by decide)) ?_
    have q343 : h 69 5 = 45 := by have z := jB (e := 5) 0 hJ rg_69_5_0_1 (by decide) (by decide); omega
    refine x_getR (np := 21) (x := 773) (f := 5) (q := 45) (by decide +kernel) (by decide) (by decide +kernel) q343 ?_
    have t344 : tw (h 45 5) := hJ.2.2.2.1
    refine x_getR (np := 24) (x := 69) (f := 5) (q := (h 45 5)) (by decide +kernel) (by decide) (by decide +kernel) rfl ?_
    refine x_putR (np := 27) (x := 8966) (f := 6) (by decide +kernel) (by decide +kernel) (tn_0 t344) (by decide) ?_
    have j346 := J_upW (k := 69) (i := 6) hJ t344 (by decide)
    have f348 := Fr.up (k := 69) (i := 6) (v := (h 45 5)) hF (by decide +kernel)
    generalize e347 : x_up h 69 6 (h 45 5) = h345 at j346 f348 ⊢
    refine x_aload (np := 28) (x := 0) (by decide +kernel) rfl (x_nc_le (by decide)) ?_
    refine x_iload (np := 29) (x := 1) (by decide +kernel) rfl la1 ?_
    refine x_putI (np := 32) (x := 775) (f := 7) (by decide +kernel) (by decide +kernel) la1 (Or.inl (by decide)) ?_
    have j350 := jU (e := 7) (v := a1) 0 j346 rg_69_7_0_1 (by omega) (by omega) (by omega)
    have f352 := jF (e := 7) (v := a1) 0 f348 rg_69_7_0_1 (by omega) (by omega) (by decide)
    generalize e351 : x_up h345 69 7 a1 = h349 at j350 f352 ⊢
    refine x_aload (np := 33) (x := 0) (by decide +kernel) rfl (x_nc_le (by decide)) ?_
    have q353 : h349 69 5 = 45 := by have z := jB (e := 5) 0 j350 rg_69_5_0_1 (by decide) (by decide); omega
    refine x_getR (np := 36) (x := 773) (f := 5) (q := 45) (by decide +kernel) (by decide) (by decide +kernel) q353 ?_
    have q354 : h349 45 1 = 47 := by have z := jB (e := 1) 0 j350 rg_45_1_0_1 (by decide) (by decide); omega
    refine x_getR (np := 39) (x := 65) (f := 1) (q := 47) (by decide +kernel) (by decide) (by decide +kernel) q354 ?_
    refine x_const (np := 40) (x := 9223372039002259456) (a := 2147483648) (by decide +kernel) (by decide) (by decide) ?_
    refine x_aload (np := 41) (x := 0) (by decide +kernel) rfl (x_nc_le (by decide)) ?_
    have q355 : h349 69 0 = 70 := by have z := jB (e := 0) 0 j350 rg_69_0_0_1 (by decide) (by decide); omega
    refine x_getR (np := 44) (x := 768) (f := 0) (q := 70) (by decide +kernel) (by decide) (by decide +kernel) q355 ?_
    refine x_const (np := 45) (x := 9223372039002259456) (a := 2147483648) (by decide +kernel) (by decide) (by decide) ?_
    refine x_aload (np := 46) (x := 0) (by decide +kernel) rfl (x_nc_le (by decide)) ?_
    have q356 : h349 69 0 = 70 := by have z := jB (e := 0) 0 j350 rg_69_0_0_1 (by decide) (by decide); omega
    refine x_getR (np := 49) (x := 768) (f := 0) (q := 70) (by decide +kernel) (by decide) (by decide +kernel) q356 ?_
    refine x_alen (np := 50) (x := 0) (n := 36) (by decide +kernel) (by decide) (by decide +kernel) (by decide +kernel) (by decide) ?_
    show X _ _ _ _ _ _ _ _ [iv_c 2147483684, iv_c 2147483648, x_r 70, iv_c 2147483648, x_r 47] _
    refine x_copy (np := 53) (q := 70) (r := 47) (N := 36) (nq := 36) (nr := 36) (n8 := 0) (by decide +kernel) (by decide +kernel) (by decide +kernel) (by decide) (by decide) (by decide) (by decide) x_wn (by decide) ?_
    have j358 := J_cp (q := 70) (r := 47) (N := 36) j350 (by decide) (by decide +kernel) (by decide +kernel) (by decide +kernel)
    have f359 := Fr_cp (q := 70) (r := 47) (N := 36) (Fr.refl 65536 h349) (fun i _ => show Nat.testBit 65536 16 = true by decide)
    generalize e360 : x_cp h349 70 47 36 = h357 at j358 f359 ⊢
    have f361 := Fr.trans f352 f359 (by decide)
    refine x_const (np := 54) (x := 9223372039002259456) (a := 2147483648) (by decide +kernel) (by decide) (by decide) ?_
    refine x_istore (np := 55) (x := 2) (lo' := [x_r 69, iv_c a1, iv_c 2147483648]) (by decide +kernel) (by decide) (Nat.le_of_ble_eq_true rfl) rfl ?_
    have p454 : ∀ (n : Nat) (v449 : Nat) (h451 : xh), 4294967296 - v449 < n → (2147483648 ≤ v449 ∧ v449 ≤ 2147483654) → J h451 → Fr 65536 h357 h451 → X sc 271 (d + 24) (xV fun h' => J h' ∧ Fr 65537 h h') 0 0 55 [x_r 69, iv_c a1, iv_c v449] [] h451 := by
      intro n
      induction n with
      | zero => intro v449 h451 q455; exact absurd q455 (Nat.not_lt_zero _)
      | succ n i456 =>
        intro v449 h451 q455 b450 j453 f452
        have f457 := Fr.trans f361 f452 (by decide)
        refine x_iload (np := 56) (x := 2) (by decide +kernel) rfl (by omega) ?_
        refine x_const (np := 58) (x := 9223372064772063238) (a := 2147483654) (by decide +kernel) (by decide) (by decide) ?_
        refine x_icmp (k := 3) (tg := 74) (np := 61) (by decide +kernel) (by decide) (by omega) (by decide) (fun q458 => ?_) (fun q459 => ?_)
        · have q458 : 2147483654 ≤ v449 := q458
          refine x_aload (np := 75) (x := 0) (by decide +kernel) rfl (x_nc_le (by decide)) ?_
          refine x_const (np := 76) (x := 9223372039002259456) (a := 2147483648) (by decide +kernel) (by decide) (by decide) ?_
          refine x_putI (np := 79) (x := 776) (f := 8) (by decide +kernel) (by decide +kernel) (by decide) (Or.inl (by decide)) ?_
          have j461 := jU (e := 8) (v := 2147483648) 0 j453 rg_69_8_0_1 (by omega) (by omega) (by omega)
          have f463 := jF (e := 8) (v := 2147483648) 0 f457 rg_69_8_0_1 (by omega) (by omega) (by decide)
          generalize e462 : x_up h451 69 8 2147483648 = h460 at j461 f463 ⊢
          refine x_aload (np := 80) (x := 0) (by decide +kernel) rfl (x_nc_le (by decide)) ?_
          refine x_const (np := 81) (x := 9223372039002259456) (a := 2147483648) (by decide +kernel) (by decide) (by decide) ?_
          refine x_putI (np := 84) (x := 783) (f := 15) (by decide +kernel) (by decide +kernel) (by decide) (Or.inl (by decide)) ?_
          have j465 := jU (e := 15) (v := 2147483648) 0 j461 rg_69_15_0_1 (by omega) (by omega) (by omega)
          have f467 := jF (e := 15) (v := 2147483648) 0 f463 rg_69_15_0_1 (by omega) (by omega) (by decide)
          generalize e466 : x_up h460 69 15 2147483648 = h464 at j465 f467 ⊢
          refine x_aload (np := 85) (x := 0) (by decide +kernel) rfl (x_nc_le (by decide)) ?_
          refine x_const (np := 86) (x := 9223372039002259456) (a := 2147483648) (by decide +kernel) (by decide) (by decide) ?_
          refine x_putI (np := 89) (x := 785) (f := 17) (by decide +kernel) (by decide +kernel) (by decide) (Or.inl (by decide)) ?_
          have j469 := jU (e := 17) (v := 2147483648) 0 j465 rg_69_17_0_1 (by omega) (by omega) (by omega)
          have f471 := jF (e := 17) (v := 2147483648) 0 f467 rg_69_17_0_1 (by omega) (by omega) (by decide)
          generalize e470 : x_up h464 69 17 2147483648 = h468 at j469 f471 ⊢
          refine x_aload (np := 90) (x := 0) (by decide +kernel) rfl (x_nc_le (by decide)) ?_
          refine x_const (np := 91) (x := 9223372039002259456) (a := 2147483648) (by decide +kernel) (by decide) (by decide) ?_
          refine x_putI (np := 94) (x := 4873) (f := 9) (by decide +kernel) (by decide +kernel) (by decide) (Or.inr ⟨by decide, by omega, by omega⟩) ?_
          have j473 := jU (e := 9) (v := 2147483648) 0 j469 rg_69_9_0_1 (by omega) (by omega) (by omega)
          have f475 := jF (e := 9) (v := 2147483648) 0 f471 rg_69_9_0_1 (by omega) (by omega) (by decide)
          generalize e474 : x_up h468 69 9 2147483648 = h472 at j473 f475 ⊢
          refine x_aload (np := 95) (x := 0) (by decide +kernel) rfl (x_nc_le (by decide)) ?_
          refine x_vV (np := 98) (x := 5246978) (kk := 2) (cls := 5) (mj := 62) (ml := 3) (nr := 0) (rest := []) (lo1 := [x_r 69, 147573952589676412928, 147573952589676412928]) (by decide +kernel) (by decide) (by decide) (by decide) (by decide +kernel) (by decide +kernel) (by decide) (by decide +kernel) (by decide +kernel) x_wn (by decide) rfl (c62_69 j473) (fun h479 q478 => ?_)
          obtain ⟨j480, f481⟩ := q478
          have f482 := Fr.trans f475 f481 (by decide)
          refine x_const (np := 99) (x := 9223372039002259456) (a := 2147483648) (by decide +kernel) (by decide) (by decide) ?_
          refine x_istore (np := 100) (x := 2) (lo' := [x_r 69, iv_c a1, iv_c 2147483648]) (by decide +kernel) (by decide) (Nat.le_of_ble_eq_true rfl) rfl ?_
          have p630 : ∀ (n : Nat) (v625 : Nat) (h627 : xh), 4294967296 - v625 < n → (2147483648 ≤ v625 ∧ v625 ≤ 2147483653) → J h627 → Fr 65537 h479 h627 → X sc 271 (d + 24) (xV fun h' => J h' ∧ Fr 65537 h h') 0 0 100 [x_r 69, iv_c a1, iv_c v625] [] h627 := by
            intro n
            induction n with
            | zero => intro v625 h627 q631; exact absurd q631 (Nat.not_lt_zero _)
            | succ n i632 =>
              intro v625 h627 q631 b626 j629 f628
              have f633 := Fr.trans f482 f628 (by decide)
              refine x_iload (np := 101) (x := 2) (by decide +kernel) rfl (by omega) ?_
              refine x_aload (np := 102) (x := 0) (by decide +kernel) rfl (x_nc_le (by decide)) ?_
              refine x_vI (P := fun r9 h9 => X sc 271 _ _ 0 0 105 [x_r 69, iv_c a1, iv_c v625] (iv_c r9 :: [iv_c v625]) h9) (np := 105) (x := 5246976) (kk := 0) (cls := 5) (mj := 60) (ml := 1) (nr := 1) (rest := [iv_c v625]) (lo1 := [x_r 69]) (by decide +kernel) (by decide) (by decide) (by decide) (by decide +kernel) (by decide +kernel) (by decide) (by decide +kernel) (by decide +kernel) (x_wi (by omega) x_wn) (by decide) rfl ?_ (fun _ _ _ z => z)
              refine x_const (np := 1) (x := 9223372056182128644) (a := 2147483652) (by decide +kernel) (by decide) (by decide) ?_
              refine x_retI (np := 2) (x := 0) (by decide +kernel) (by decide) (Or.inl (by decide +kernel)) ⟨_, rfl, (by decide), ?_⟩
              refine x_icmp (k := 4) (tg := 138) (np := 108) (by decide +kernel) (by decide) (by omega) (by decide) (fun q634 => ?_) (fun q635 => ?_)
              · have q634 : 2147483652 < v625 := q634
                refine x_aload (np := 139) (x := 0) (by decide +kernel) rfl (x_nc_le (by decide)) ?_
                refine x_const (np := 140) (x := 9223372043297226753) (a := 2147483649) (by decide +kernel) (by decide) (by decide) ?_
                refine x_putI (np := 143) (x := 4878) (f := 14) (by decide +kernel) (by decide +kernel) (by decide) (Or.inr ⟨by decide, by omega, by omega⟩) ?_
                have j637 := jU (e := 14) (v := 2147483649) 0 j629 rg_69_14_0_1 (by omega) (by omega) (by omega)
                have f639 := jF (e := 14) (v := 2147483649) 0 f633 rg_69_14_0_1 (by omega) (by omega) (by decide)
                generalize e638 : x_up h627 69 14 2147483649 = h636 at j637 f639 ⊢
                refine x_retV (np := 144) (x := 0) (by decide +kernel) (by decide +kernel) ⟨rfl, ?_⟩
                exact ⟨j637, f639⟩
              have q635 : ¬ (2147483652 < v625) := q635
              refine x_aload (np := 109) (x := 0) (by decide +kernel) rfl (x_nc_le (by decide)) ?_
              refine x_getC (np := 112) (x := 776) (f := 8) (q := (h627 69 8)) (by decide +kernel) (by decide) (by decide +kernel) rfl (fun l640 => ?_)
              refine x_ifz (k := 1) (tg := 138) (np := 115) (by decide +kernel) (by decide) l640 (fun q641 => ?_) (fun q642 => ?_)
              · have q641 : (h627 69 8) ≠ 2147483648 := q641
                refine x_aload (np := 139) (x := 0) (by decide +kernel) rfl (x_nc_le (by decide)) ?_
                refine x_const (np := 140) (x := 9223372043297226753) (a := 2147483649) (by decide +kernel) (by decide) (by decide) ?_
                refine x_putI (np := 143) (x := 4878) (f := 14) (by decide +kernel) (by decide +kernel) (by decide) (Or.inr ⟨by decide, by omega, by omega⟩) ?_
                have j644 := jU (e := 14) (v := 2147483649) 0 j629 rg_69_14_0_1 (by omega) (by omega) (by omega)
                have f646 := jF (e := 14) (v := 2147483649) 0 f633 rg_69_14_0_1 (by omega) (by omega) (by decide)
                generalize e645 : x_up h627 69 14 2147483649 = h643 at j644 f646 ⊢
                refine x_retV (np := 144) (x := 0) (by decide +kernel) (by decide +kernel) ⟨rfl, ?_⟩
                exact ⟨j644, f646⟩
              have q642 : ¬ ((h627 69 8) ≠ 2147483648) := q642
              refine x_aload (np := 116) (x := 0) (by decide +kernel) rfl (x_nc_le (by decide)) ?_
              have b647 := jB (e := 9) 0 j629 rg_69_9_0_1 (by omega) (by omega)
              refine x_getC (np := 119) (x := 777) (f := 9) (q := (h627 69 9)) (by decide +kernel) (by decide) (by decide +kernel) rfl (fun l648 => ?_)
              refine x_ifz (k := 1) (tg := 138) (np := 122) (by decide +kernel) (by decide) l648 (fun q649 => ?_) (fun q650 => ?_)
              · have q649 : (h627 69 9) ≠ 2147483648 := q649
                refine x_aload (np := 139) (x := 0) (by decide +kernel) rfl (x_nc_le (by decide)) ?_
                refine x_const (np := 140) (x := 9223372043297226753) (a := 2147483649) (by decide +kernel) (by decide) (by decide) ?_
                refine x_putI (np := 143) (x := 4878) (f := 14) (by decide +kernel) (by decide +kernel) (by decide) (Or.inr ⟨by decide, by omega, by omega⟩) ?_
                have j652 := jU (e := 14) (v := 2147483649) 0 j629 rg_69_14_0_1 (by omega) (by omega) (by omega)
                have f654 := jF (e := 14) (v := 2147483649) 0 f633 rg_69_14_0_1 (by omega) (by omega) (by decide)
                generalize e653 : x_up h627 69 14 2147483649 = h651 at j652 f654 ⊢
                refine x_retV (np := 144) (x := 0) (by decide +kernel) (by decide +kernel) ⟨rfl, ?_⟩
                exact ⟨j652, f654⟩
              have q650 : ¬ ((h627 69 9) ≠ 2147483648) := q650
              refine x_aload (np := 123) (x := 0) (by decide +kernel) rfl (x_nc_le (by decide)) ?_
              refine x_iload (np := 124) (x := 2) (by decide +kernel) rfl (by omega) ?_
              refine x_putI (np := 127) (x := 784) (f := 16) (by decide +kernel) (by decide +kernel) (by omega) (Or.inl (by decide)) ?_
              have j656 := jU (e := 16) (v := v625) 0 j629 rg_69_16_0_1 (by omega) (by omega) (by omega)
              have f658 := jF (e := 16) (v := v625) 0 f633 rg_69_16_0_1 (by omega) (by omega) (by decide)
              have f659 := jF (e := 16) (v := v625) 0 f628 rg_69_16_0_1 (by omega) (by omega) (by decide)
              generalize e657 : x_up h627 69 16 v625 = h655 at j656 f658 f659 ⊢
              refine x_aload (np := 128) (x := 0) (by decide +kernel) rfl (x_nc_le (by decide)) ?_
              refine x_const (np := 129) (x := 9223372039002259456) (a := 2147483648) (by decide +kernel) (by decide) (by decide) ?_
              refine x_cV (t := 8) (mj := 274) (n := 2) (rc := 13) (ml := 2) (nr := 0) (np := 132) (as := [x_r 69, iv_c 2147483648]) (rest := []) (lo1 := [x_r 69, iv_c 2147483648]) (by decide +kernel) (by decide) (by decide +kernel) (x_rb_of (by decide +kernel)) rfl rfl (x_wr (by decide) (x_wi (by decide) x_wn)) x_wn (by decide) rfl (c274_69_c0 j656  ) (fun h663 q662 => ?_)
              obtain ⟨j664, f665⟩ := q662
              have f668 := Fr.trans f658 f665 (by decide)
              have f669 := Fr.trans f659 f665 (by decide)
              refine x_iinc (np := 135) (i := 2) (j := 2147483649) (v := (1 + v625)) (lo' := [x_r 69, iv_c a1, iv_c (1 + v625)]) (by decide +kernel) (by decide) (by decide) rfl (by omega) (by omega) (by omega) rfl ?_
              refine x_goto (np := 138) (x := 100) (by decide +kernel) ?_
              exact i632 (1 + v625) h663 (by omega) (by omega) j664 f669
          exact p630 _ 2147483648 h479 (Nat.lt_succ_self _) (by omega) j480 (Fr.refl _ _)
        have q459 : ¬ (2147483654 ≤ v449) := q459
        refine x_aload (np := 62) (x := 0) (by decide +kernel) rfl (x_nc_le (by decide)) ?_
        have q670 : h451 69 2 = 72 := by have z := jB (e := 2) 0 j453 rg_69_2_0_1 (by decide) (by decide); omega
        refine x_getR (np := 65) (x := 770) (f := 2) (q := 72) (by decide +kernel) (by decide) (by decide +kernel) q670 ?_
        refine x_iload (np := 66) (x := 2) (by decide +kernel) rfl (by omega) ?_
        refine x_const (np := 67) (x := 9223372039002259456) (a := 2147483648) (by decide +kernel) (by decide) (by decide) ?_
        obtain ⟨u671, q672⟩ : ∃ z, v449 = 2147483648 + z := ⟨v449 - 2147483648, by omega⟩
        refine x_ast (np := 68) (x := 0) (kd := 1) (n := 6) (i := u671) (by decide +kernel) (Or.inl rfl) (by decide +kernel) (by omega) (by omega) (by decide) (by decide) (fun z => absurd z (by decide)) ?_
        have j674 := jU (e := u671) (v := 2147483648) u671 j453 rg_72_0_1_6 (by omega) (by omega) (by omega)
        have f676 := jF (e := u671) (v := 2147483648) u671 f457 rg_72_0_1_6 (by omega) (by omega) (by decide)
        have f677 := jF (e := u671) (v := 2147483648) u671 f452 rg_72_0_1_6 (by omega) (by omega) (by decide)
        generalize e675 : x_up h451 72 u671 2147483648 = h673 at j674 f676 f677 ⊢
        refine x_iinc (np := 71) (i := 2) (j := 2147483649) (v := (1 + v449)) (lo' := [x_r 69, iv_c a1, iv_c (1 + v449)]) (by decide +kernel) (by decide) (by decide) rfl (by omega) (by omega) (by omega) rfl ?_
        refine x_goto (np := 74) (x := 55) (by decide +kernel) ?_
        exact i456 (1 + v449) h673 (by omega) (by omega) j674 f677
    exact p454 _ 2147483648 h357 (Nat.lt_succ_self _) (by omega) j358 (Fr.refl _ _)
  have q342 : ¬ ((h 69 7) ≠ a1) := q342
  refine x_retV (np := 16) (x := 0) (by decide +kernel) (by decide +kernel) ⟨rfl, ?_⟩
  exact ⟨hJ, hF⟩
set_option maxHeartbeats 0 in
/-- LentNames.secrets(II)I -/
theorem c136_0 {sc : Nat × Nat} {d a1 a2 : Nat} {h : xh} (hJ : J h) (ba1 : 0 ≤ a1 ∧ a1 ≤ 4294967295) (ba2 : 0 ≤ a2 ∧ a2 ≤ 4294967295) : X sc 136 (d + 25) (xT (fun r h' => J h' ∧ Fr 65537 h h' ∧ (0 ≤ r ∧ r ≤ 4294967295)) (fun E h' => J h' ∧ Fr 65537 h h' ∧ (E = 0 ∨ E = 2))) 0 0 0 [x_r 0, iv_c a1, iv_c a2] [] h := by
  have la1 : a1 < 4294967296 := by omega
  have la2 : a2 < 4294967296 := by omega
  have hF := Fr.refl 65537 h
  refine x_iload (np := 1) (x := 1) (by decide +kernel) rfl la1 ?_
  refine x_nU (t := 0) (mj := 146) (n := 1) (rc := 0) (ml := 1) (cc := 1) (ss := 6) (nr := 0) (np := 4) (as := [iv_c a1]) (rest := []) (lo1 := [iv_c a1]) (by decide +kernel) (by decide) (by decide +kernel) (by decide +kernel) (Or.inl rfl) rfl rfl (x_wi la1 x_wn) x_wn (by decide) rfl ?_
  refine x_iload (np := 1) (x := 0) (by decide +kernel) rfl la1 ?_
  refine x_ifz (k := 2) (tg := 10) (np := 4) (by decide +kernel) (by decide) la1 (fun q1 => ?_) (fun q2 => ?_)
  · have q1 : a1 < 2147483648 := q1
    refine x_thr (np := 13) (x := 2) (by decide +kernel) (by decide +kernel) (Nat.le_trans x_wn (by decide)) (Or.inr ⟨_, rfl, ?_⟩)
    refine Or.inr ⟨_, rfl, ?_⟩
    exact ⟨hJ, hF, by decide⟩
  have q2 : ¬ (a1 < 2147483648) := q2
  refine x_iload (np := 5) (x := 0) (by decide +kernel) rfl la1 ?_
  refine x_const (np := 7) (x := 9223372090541867020) (a := 2147483660) (by decide +kernel) (by decide) (by decide) ?_
  refine x_icmp (k := 2) (tg := 21) (np := 10) (by decide +kernel) (by decide) la1 (by decide) (fun q3 => ?_) (fun q4 => ?_)
  · have q3 : a1 < 2147483660 := q3
    refine x_retV (np := 22) (x := 0) (by decide +kernel) (by decide +kernel) (Or.inl ⟨rfl, ?_⟩)
    refine x_iload (np := 5) (x := 2) (by decide +kernel) rfl la2 ?_
    refine x_const (np := 7) (x := 9223372030412324862) (a := 2147483646) (by decide +kernel) (by decide) (by decide) ?_
    refine x_icmp (k := 3) (tg := 21) (np := 10) (by decide +kernel) (by decide) la2 (by decide) (fun q5 => ?_) (fun q6 => ?_)
    · have q5 : 2147483646 ≤ a2 := q5
      refine x_aload (np := 22) (x := 0) (by decide +kernel) rfl (x_nc_le (by decide)) ?_
      have q7 : h 0 6 = 69 := by have z := jB (e := 6) 0 hJ rg_0_6_0_1 (by decide) (by decide); omega
      refine x_getR (np := 25) (x := 646) (f := 6) (q := 69) (by decide +kernel) (by decide) (by decide +kernel) q7 ?_
      refine x_iload (np := 26) (x := 1) (by decide +kernel) rfl la1 ?_
      refine x_cV (t := 8) (mj := 271) (n := 2) (rc := 6) (ml := 3) (nr := 0) (np := 29) (as := [x_r 69, iv_c a1]) (rest := []) (lo1 := [x_r 69, iv_c a1, 147573952589676412928]) (by decide +kernel) (by decide) (by decide +kernel) (x_rb_of (by decide +kernel)) rfl rfl (x_wr (by decide) (x_wi la1 x_wn)) x_wn (by decide) rfl (c271_69 hJ  (by omega)) (fun h11 q10 => ?_)
      obtain ⟨j12, f13⟩ := q10
      have f16 := Fr.trans hF f13 (by decide)
      refine x_aload (np := 30) (x := 0) (by decide +kernel) rfl (x_nc_le (by decide)) ?_
      have q17 : h11 0 6 = 69 := by have z := jB (e := 6) 0 j12 rg_0_6_0_1 (by decide) (by decide); omega
      refine x_getR (np := 33) (x := 646) (f := 6) (q := 69) (by decide +kernel) (by decide) (by decide +kernel) q17 ?_
      have b18 := jB (e := 9) 0 j12 rg_69_9_0_1 (by omega) (by omega)
      refine x_getC (np := 36) (x := 777) (f := 9) (q := (h11 69 9)) (by decide +kernel) (by decide) (by decide +kernel) rfl (fun l19 => ?_)
      refine x_ifz (k := 0) (tg := 42) (np := 39) (by decide +kernel) (by decide) l19 (fun q20 => ?_) (fun q21 => ?_)
      · have q20 : (h11 69 9) = 2147483648 := q20
        refine x_iload (np := 43) (x := 2) (by decide +kernel) rfl la2 ?_
        refine x_const (np := 45) (x := 9223372030412324862) (a := 2147483646) (by decide +kernel) (by decide) (by decide) ?_
        refine x_icmp (k := 1) (tg := 70) (np := 48) (by decide +kernel) (by decide) la2 (by decide) (fun q22 => ?_) (fun q23 => ?_)
        · have q22 : a2 ≠ 2147483646 := q22
          refine x_aload (np := 71) (x := 0) (by decide +kernel) rfl (x_nc_le (by decide)) ?_
          have q24 : h11 0 6 = 69 := by have z := jB (e := 6) 0 j12 rg_0_6_0_1 (by decide) (by decide); omega
          refine x_getR (np := 74) (x := 646) (f := 6) (q := 69) (by decide +kernel) (by decide) (by decide +kernel) q24 ?_
          refine x_iload (np := 75) (x := 2) (by decide +kernel) rfl la2 ?_
          refine x_nI (t := 8) (mj := 272) (n := 2) (rc := 6) (ml := 2) (nr := 0) (np := 78) (as := [x_r 69, iv_c a2]) (rest := []) (lo1 := [x_r 69, iv_c a2]) (by decide +kernel) (by decide) (by decide +kernel) (x_rb_of (by decide +kernel)) rfl rfl (x_wr (by decide) (x_wi la2 x_wn)) x_wn (by decide) rfl ?_
          refine x_aload (np := 1) (x := 0) (by decide +kernel) rfl (x_nc_le (by decide)) ?_
          refine x_getC (np := 4) (x := 776) (f := 8) (q := (h11 69 8)) (by decide +kernel) (by decide) (by decide +kernel) rfl (fun l25 => ?_)
          refine x_ifz (k := 1) (tg := 9) (np := 7) (by decide +kernel) (by decide) l25 (fun q26 => ?_) (fun q27 => ?_)
          · have q26 : (h11 69 8) ≠ 2147483648 := q26
            refine x_iload (np := 10) (x := 1) (by decide +kernel) rfl la2 ?_
            refine x_const (np := 11) (x := 9223372034707292159) (a := 2147483647) (by decide +kernel) (by decide) (by decide) ?_
            refine x_icmp (k := 1) (tg := 19) (np := 14) (by decide +kernel) (by decide) la2 (by decide) (fun q28 => ?_) (fun q29 => ?_)
            · have q28 : a2 ≠ 2147483647 := q28
              refine x_iload (np := 20) (x := 1) (by decide +kernel) rfl la2 ?_
              refine x_ifz (k := 2) (tg := 40) (np := 23) (by decide +kernel) (by decide) la2 (fun q30 => ?_) (fun q31 => ?_)
              · have q30 : a2 < 2147483648 := q30
                exfalso; omega
              have q31 : ¬ (a2 < 2147483648) := q31
              refine x_iload (np := 24) (x := 1) (by decide +kernel) rfl la2 ?_
              refine x_aload (np := 25) (x := 0) (by decide +kernel) rfl (x_nc_le (by decide)) ?_
              have b32 := jB (e := 15) 0 j12 rg_69_15_0_1 (by omega) (by omega)
              refine x_getC (np := 28) (x := 783) (f := 15) (q := (h11 69 15)) (by decide +kernel) (by decide) (by decide +kernel) rfl (fun l33 => ?_)
              refine x_icmp (k := 3) (tg := 40) (np := 31) (by decide +kernel) (by decide) la2 l33 (fun q34 => ?_) (fun q35 => ?_)
              · have q34 : (h11 69 15) ≤ a2 := q34
                refine x_const (np := 41) (x := 9223372034707292159) (a := 2147483647) (by decide +kernel) (by decide) (by decide) ?_
                refine x_retI (np := 42) (x := 0) (by decide +kernel) (by decide) (Or.inl (by decide +kernel)) ⟨_, rfl, (by decide), ?_⟩
                refine x_retI (np := 79) (x := 0) (by decide +kernel) (by decide) (Or.inl (by decide +kernel)) (Or.inl ⟨_, rfl, (by decide), ?_⟩)
                exact ⟨j12, f16, (by omega)⟩
              have q35 : ¬ ((h11 69 15) ≤ a2) := q35
              refine x_aload (np := 32) (x := 0) (by decide +kernel) rfl (x_nc_le (by decide)) ?_
              have q36 : h11 69 4 = 74 := by have z := jB (e := 4) 0 j12 rg_69_4_0_1 (by decide) (by decide); omega
              refine x_getR (np := 35) (x := 772) (f := 4) (q := 74) (by decide +kernel) (by decide) (by decide +kernel) q36 ?_
              refine x_iload (np := 36) (x := 1) (by decide +kernel) rfl la2 ?_
              obtain ⟨u37, q38⟩ : ∃ z, a2 = 2147483648 + z := ⟨a2 - 2147483648, by omega⟩
              refine x_aldC (np := 37) (x := 0) (n := 5) (i := u37) (q := (h11 74 u37)) (by decide +kernel) (by decide +kernel) (by omega) (by omega) (by decide) rfl (fun l39 => ?_)
              refine x_goto (np := 40) (x := 41) (by decide +kernel) ?_
              refine x_retI (np := 42) (x := 0) (by decide +kernel) l39 (Or.inl (by decide +kernel)) ⟨_, rfl, l39, ?_⟩
              refine x_retI (np := 79) (x := 0) (by decide +kernel) l39 (Or.inl (by decide +kernel)) (Or.inl ⟨_, rfl, l39, ?_⟩)
              exact ⟨j12, f16, (by omega)⟩
            have q29 : ¬ (a2 ≠ 2147483647) := q29
            refine x_aload (np := 15) (x := 0) (by decide +kernel) rfl (x_nc_le (by decide)) ?_
            have b40 := jB (e := 15) 0 j12 rg_69_15_0_1 (by omega) (by omega)
            refine x_getC (np := 18) (x := 783) (f := 15) (q := (h11 69 15)) (by decide +kernel) (by decide) (by decide +kernel) rfl (fun l41 => ?_)
            refine x_retI (np := 19) (x := 0) (by decide +kernel) l41 (Or.inl (by decide +kernel)) ⟨_, rfl, l41, ?_⟩
            refine x_retI (np := 79) (x := 0) (by decide +kernel) l41 (Or.inl (by decide +kernel)) (Or.inl ⟨_, rfl, l41, ?_⟩)
            exact ⟨j12, f16, (by omega)⟩
          have q27 : ¬ ((h11 69 8) ≠ 2147483648) := q27
          refine x_const (np := 8) (x := 9223372034707292159) (a := 2147483647) (by decide +kernel) (by decide) (by decide) ?_
          refine x_retI (np := 9) (x := 0) (by decide +kernel) (by decide) (Or.inl (by decide +kernel)) ⟨_, rfl, (by decide), ?_⟩
          refine x_retI (np := 79) (x := 0) (by decide +kernel) (by decide) (Or.inl (by decide +kernel)) (Or.inl ⟨_, rfl, (by decide), ?_⟩)
          exact ⟨j12, f16, (by omega)⟩
        have q23 : ¬ (a2 ≠ 2147483646) := q23
        refine x_aload (np := 49) (x := 0) (by decide +kernel) rfl (x_nc_le (by decide)) ?_
        have q42 : h11 0 6 = 69 := by have z := jB (e := 6) 0 j12 rg_0_6_0_1 (by decide) (by decide); omega
        refine x_getR (np := 52) (x := 646) (f := 6) (q := 69) (by decide +kernel) (by decide) (by decide +kernel) q42 ?_
        refine x_getC (np := 55) (x := 776) (f := 8) (q := (h11 69 8)) (by decide +kernel) (by decide) (by decide +kernel) rfl (fun l43 => ?_)
        refine x_ifz (k := 1) (tg := 62) (np := 58) (by decide +kernel) (by decide) l43 (fun q44 => ?_) (fun q45 => ?_)
        · have q44 : (h11 69 8) ≠ 2147483648 := q44
          refine x_aload (np := 63) (x := 0) (by decide +kernel) rfl (x_nc_le (by decide)) ?_
          have q46 : h11 0 6 = 69 := by have z := jB (e := 6) 0 j12 rg_0_6_0_1 (by decide) (by decide); omega
          refine x_getR (np := 66) (x := 646) (f := 6) (q := 69) (by decide +kernel) (by decide) (by decide +kernel) q46 ?_
          refine x_getC (np := 69) (x := 776) (f := 8) (q := (h11 69 8)) (by decide +kernel) (by decide) (by decide +kernel) rfl (fun l47 => ?_)
          refine x_retI (np := 70) (x := 0) (by decide +kernel) l43 (Or.inl (by decide +kernel)) (Or.inl ⟨_, rfl, l43, ?_⟩)
          exact ⟨j12, f16, (by omega)⟩
        have q45 : ¬ ((h11 69 8) ≠ 2147483648) := q45
        refine x_const (np := 59) (x := 9223372034707292159) (a := 2147483647) (by decide +kernel) (by decide) (by decide) ?_
        refine x_goto (np := 62) (x := 69) (by decide +kernel) ?_
        refine x_retI (np := 70) (x := 0) (by decide +kernel) (by decide) (Or.inl (by decide +kernel)) (Or.inl ⟨_, rfl, (by decide), ?_⟩)
        exact ⟨j12, f16, (by omega)⟩
      have q21 : ¬ ((h11 69 9) = 2147483648) := q21
      refine x_const (np := 41) (x := 9223372026117357565) (a := 2147483645) (by decide +kernel) (by decide) (by decide) ?_
      refine x_retI (np := 42) (x := 0) (by decide +kernel) (by decide) (Or.inl (by decide +kernel)) (Or.inl ⟨_, rfl, (by decide), ?_⟩)
      exact ⟨j12, f16, (by omega)⟩
    have q6 : ¬ (2147483646 ≤ a2) := q6
    refine x_thr (np := 13) (x := 0) (by decide +kernel) (by decide +kernel) (Nat.le_trans x_wn (by decide)) (Or.inr ⟨_, rfl, ?_⟩)
    exact ⟨hJ, hF, by decide⟩
  have q4 : ¬ (a1 < 2147483660) := q4
  refine x_thr (np := 13) (x := 2) (by decide +kernel) (by decide +kernel) (Nat.le_trans x_wn (by decide)) (Or.inr ⟨_, rfl, ?_⟩)
  refine Or.inr ⟨_, rfl, ?_⟩
  exact ⟨hJ, hF, by decide⟩
set_option maxHeartbeats 0 in
/-- LentNames.liars(I)I -/
theorem c137_0 {sc : Nat × Nat} {d a1 : Nat} {h : xh} (hJ : J h) (ba1 : 0 ≤ a1 ∧ a1 ≤ 4294967295) : X sc 137 (d + 4) (xT (fun r h' => J h' ∧ Fr 0 h h' ∧ (0 ≤ r ∧ r ≤ 4294967295)) (fun E h' => J h' ∧ Fr 0 h h' ∧ (E = 2))) 0 0 0 [x_r 0, iv_c a1, 147573952589676412928, 147573952589676412928, 147573952589676412928, 147573952589676412928] [] h := by
  have la1 : a1 < 4294967296 := by omega
  have hF := Fr.refl 0 h
  refine x_iload (np := 1) (x := 1) (by decide +kernel) rfl la1 ?_
  refine x_nU (t := 0) (mj := 146) (n := 1) (rc := 0) (ml := 1) (cc := 1) (ss := 6) (nr := 0) (np := 4) (as := [iv_c a1]) (rest := []) (lo1 := [iv_c a1]) (by decide +kernel) (by decide) (by decide +kernel) (by decide +kernel) (Or.inl rfl) rfl rfl (x_wi la1 x_wn) x_wn (by decide) rfl ?_
  refine x_iload (np := 1) (x := 0) (by decide +kernel) rfl la1 ?_
  refine x_ifz (k := 2) (tg := 10) (np := 4) (by decide +kernel) (by decide) la1 (fun q1 => ?_) (fun q2 => ?_)
  · have q1 : a1 < 2147483648 := q1
    refine x_thr (np := 13) (x := 2) (by decide +kernel) (by decide +kernel) (Nat.le_trans x_wn (by decide)) (Or.inr ⟨_, rfl, ?_⟩)
    refine Or.inr ⟨_, rfl, ?_⟩
    exact ⟨hJ, hF, by decide⟩
  have q2 : ¬ (a1 < 2147483648) := q2
  refine x_iload (np := 5) (x := 0) (by decide +kernel) rfl la1 ?_
  refine x_const (np := 7) (x := 9223372090541867020) (a := 2147483660) (by decide +kernel) (by decide) (by decide) ?_
  refine x_icmp (k := 2) (tg := 21) (np := 10) (by decide +kernel) (by decide) la1 (by decide) (fun q3 => ?_) (fun q4 => ?_)
  · have q3 : a1 < 2147483660 := q3
    refine x_retV (np := 22) (x := 0) (by decide +kernel) (by decide +kernel) (Or.inl ⟨rfl, ?_⟩)
    refine x_aload (np := 5) (x := 0) (by decide +kernel) rfl (x_nc_le (by decide)) ?_
    have t5 : tw (h 0 8) := hJ.2.1
    refine x_getR (np := 8) (x := 648) (f := 8) (q := (h 0 8)) (by decide +kernel) (by decide) (by decide +kernel) rfl ?_
    refine x_iload (np := 9) (x := 1) (by decide +kernel) rfl la1 ?_
    refine x_cP (t := 6) (mj := 87) (n := 2) (rc := 9) (ml := 4) (nr := 0) (np := 12) (as := [x_r (h 0 8), iv_c a1]) (rest := []) (lo1 := [x_r (h 0 8), iv_c a1, 147573952589676412928, 147573952589676412928]) (by decide +kernel) (by decide) (by decide +kernel) (x_rb_of (tr_0_9 t5)) rfl rfl (x_wr (tn_0 t5) (x_wi la1 x_wn)) x_wn (by decide) rfl (c87_T0 hJ t5 (by omega)) (fun v6 l7 q8 => ?_)
    refine x_istore (np := 13) (x := 2) (lo' := [x_r 0, iv_c a1, iv_c v6, 147573952589676412928, 147573952589676412928, 147573952589676412928]) (by decide +kernel) l7 (Nat.le_of_ble_eq_true rfl) rfl ?_
    refine x_iload (np := 14) (x := 2) (by decide +kernel) rfl l7 ?_
    refine x_aload (np := 15) (x := 0) (by decide +kernel) rfl (x_nc_le (by decide)) ?_
    refine x_cP (t := 6) (mj := 134) (n := 1) (rc := 11) (ml := 3) (nr := 1) (np := 18) (as := [x_r 0]) (rest := [iv_c v6]) (lo1 := [x_r 0, 147573952589676412928, 147573952589676412928]) (by decide +kernel) (by decide) (by decide +kernel) (x_rb_of (by decide +kernel)) rfl rfl (x_wr (by decide) x_wn) (x_wi l7 x_wn) (by decide) rfl (c134_0 hJ ) (fun v9 l10 q11 => ?_)
    refine x_const (np := 19) (x := 9223372034707292159) (a := 2147483647) (by decide +kernel) (by decide) (by decide) ?_
    refine x_any (np := 20) (k9 := 2) (by decide +kernel) (by decide) l10 (by decide) (fun v12 l13 => ?_)
    refine x_any (np := 21) (k9 := 0) (by decide +kernel) (by decide) l7 l13 (fun v14 l15 => ?_)
    refine x_istore (np := 22) (x := 3) (lo' := [x_r 0, iv_c a1, iv_c v6, iv_c v14, 147573952589676412928, 147573952589676412928]) (by decide +kernel) l15 (Nat.le_of_ble_eq_true rfl) rfl ?_
    refine x_const (np := 23) (x := 9223372039002259456) (a := 2147483648) (by decide +kernel) (by decide) (by decide) ?_
    refine x_istore (np := 25) (x := 4) (lo' := [x_r 0, iv_c a1, iv_c v6, iv_c v14, iv_c 2147483648, 147573952589676412928]) (by decide +kernel) (by decide) (Nat.le_of_ble_eq_true rfl) rfl ?_
    refine x_const (np := 26) (x := 9223372039002259456) (a := 2147483648) (by decide +kernel) (by decide) (by decide) ?_
    refine x_istore (np := 28) (x := 5) (lo' := [x_r 0, iv_c a1, iv_c v6, iv_c v14, iv_c 2147483648, iv_c 2147483648]) (by decide +kernel) (by decide) (Nat.le_of_ble_eq_true rfl) rfl ?_
    have p254 : ∀ (n : Nat) (v250 : Nat) (v252 : Nat), 4294967296 - v252 < n → (0 ≤ v250 ∧ v250 ≤ 4294967295) → (2147483648 ≤ v252 ∧ v252 ≤ 2147483658) → X sc 137 (d + 4) (xT (fun r h' => J h' ∧ Fr 0 h h' ∧ (0 ≤ r ∧ r ≤ 4294967295)) (fun E h' => J h' ∧ Fr 0 h h' ∧ (E = 2))) 1 6 28 [x_r 0, iv_c a1, iv_c v6, iv_c v14, iv_c v250, iv_c v252] [] h := by
      intro n
      induction n with
      | zero => intro v250 v252 q255; exact absurd q255 (Nat.not_lt_zero _)
      | succ n i256 =>
        intro v250 v252 q255 b251 b253
        refine x_iload (np := 30) (x := 5) (by decide +kernel) rfl (by omega) ?_
        refine x_aload (np := 31) (x := 0) (by decide +kernel) rfl (x_nc_le (by decide)) ?_
        refine x_getR (np := 34) (x := 648) (f := 8) (q := (h 0 8)) (by decide +kernel) (by decide) (by decide +kernel) rfl ?_
        have q257 : h (h 0 8) 3 = ((h 0 8) + 7) := tf_0_3 hJ t5
        refine x_getR (np := 37) (x := 515) (f := 3) (q := ((h 0 8) + 7)) (by decide +kernel) (by decide) (tg_0_515_3_1 t5) q257 ?_
        have b258 := jB (e := 2) 0 hJ (rg_T7_2_0_1 t5) (by omega) (by omega)
        refine x_getC (np := 40) (x := 386) (f := 2) (q := (h ((h 0 8) + 7) 2)) (by decide +kernel) (by decide) (tg_7_386_2_0 t5) rfl (fun l259 => ?_)
        refine x_icmp (k := 3) (tg := 78) (np := 43) (by decide +kernel) (by decide) (by omega) l259 (fun q260 => ?_) (fun q261 => ?_)
        · have q260 : (h ((h 0 8) + 7) 2) ≤ v252 := q260
          refine x_iload (np := 80) (x := 4) (by decide +kernel) rfl (by omega) ?_
          refine x_retI (np := 81) (x := 0) (by decide +kernel) (by omega) (Or.inl (by decide +kernel)) (Or.inl ⟨_, rfl, (by omega), ?_⟩)
          exact ⟨hJ, hF, (by omega)⟩
        have q261 : ¬ ((h ((h 0 8) + 7) 2) ≤ v252) := q261
        refine x_iload (np := 44) (x := 2) (by decide +kernel) rfl l7 ?_
        refine x_iload (np := 46) (x := 5) (by decide +kernel) rfl (by omega) ?_
        refine x_cP (t := 0) (mj := 148) (n := 2) (rc := 0) (ml := 2) (nr := 0) (np := 49) (as := [iv_c v6, iv_c v252]) (rest := []) (lo1 := [iv_c v6, iv_c v252]) (by decide +kernel) (by decide) (by decide +kernel) (Or.inl rfl) rfl rfl (x_wi l7 (x_wi (by omega) x_wn)) x_wn (by decide) rfl (c148 hJ (by omega) (by omega)) (fun v262 l263 q264 => ?_)
        refine x_ifz (k := 0) (tg := 72) (np := 52) (by decide +kernel) (by decide) l263 (fun q265 => ?_) (fun q266 => ?_)
        · have q265 : v262 = 2147483648 := q265
          refine x_iinc (np := 75) (i := 5) (j := 2147483649) (v := (1 + v252)) (lo' := [x_r 0, iv_c a1, iv_c v6, iv_c v14, iv_c v250, iv_c (1 + v252)]) (by decide +kernel) (by decide) (by decide) rfl (by omega) (by omega) (by omega) rfl ?_
          refine x_goto (np := 78) (x := 28) (by decide +kernel) ?_
          exact i256 v250 (1 + v252) (by omega) (by omega) (by omega)
        have q266 : ¬ (v262 = 2147483648) := q266
        refine x_iload (np := 53) (x := 3) (by decide +kernel) rfl l15 ?_
        refine x_const (np := 54) (x := 9223372043297226753) (a := 2147483649) (by decide +kernel) (by decide) (by decide) ?_
        refine x_iload (np := 56) (x := 5) (by decide +kernel) rfl (by omega) ?_
        refine x_any (np := 57) (k9 := 3) (by decide +kernel) (by decide) (by decide) (by omega) (fun v267 l268 => ?_)
        refine x_const (np := 58) (x := 9223372034707292159) (a := 2147483647) (by decide +kernel) (by decide) (by decide) ?_
        refine x_any (np := 59) (k9 := 2) (by decide +kernel) (by decide) l268 (by decide) (fun v269 l270 => ?_)
        refine x_any (np := 60) (k9 := 0) (by decide +kernel) (by decide) l15 l270 (fun v271 l272 => ?_)
        refine x_ifz (k := 1) (tg := 72) (np := 63) (by decide +kernel) (by decide) l272 (fun q273 => ?_) (fun q274 => ?_)
        · have q273 : v271 ≠ 2147483648 := q273
          refine x_iinc (np := 75) (i := 5) (j := 2147483649) (v := (1 + v252)) (lo' := [x_r 0, iv_c a1, iv_c v6, iv_c v14, iv_c v250, iv_c (1 + v252)]) (by decide +kernel) (by decide) (by decide) rfl (by omega) (by omega) (by omega) rfl ?_
          refine x_goto (np := 78) (x := 28) (by decide +kernel) ?_
          exact i256 v250 (1 + v252) (by omega) (by omega) (by omega)
        have q274 : ¬ (v271 ≠ 2147483648) := q274
        refine x_iload (np := 65) (x := 4) (by decide +kernel) rfl (by omega) ?_
        refine x_const (np := 66) (x := 9223372043297226753) (a := 2147483649) (by decide +kernel) (by decide) (by decide) ?_
        refine x_iload (np := 68) (x := 5) (by decide +kernel) rfl (by omega) ?_
        refine x_any (np := 69) (k9 := 3) (by decide +kernel) (by decide) (by decide) (by omega) (fun v275 l276 => ?_)
        refine x_any (np := 70) (k9 := 1) (by decide +kernel) (by decide) (by omega) l276 (fun v277 l278 => ?_)
        refine x_istore (np := 72) (x := 4) (lo' := [x_r 0, iv_c a1, iv_c v6, iv_c v14, iv_c v277, iv_c v252]) (by decide +kernel) l278 (Nat.le_of_ble_eq_true rfl) rfl ?_
        refine x_iinc (np := 75) (i := 5) (j := 2147483649) (v := (1 + v252)) (lo' := [x_r 0, iv_c a1, iv_c v6, iv_c v14, iv_c v277, iv_c (1 + v252)]) (by decide +kernel) (by decide) (by decide) rfl (by omega) (by omega) (by omega) rfl ?_
        refine x_goto (np := 78) (x := 28) (by decide +kernel) ?_
        exact i256 v277 (1 + v252) (by omega) (by omega) (by omega)
    exact p254 _ 2147483648 2147483648 (Nat.lt_succ_self _) (by omega) (by omega)
  have q4 : ¬ (a1 < 2147483660) := q4
  refine x_thr (np := 13) (x := 2) (by decide +kernel) (by decide +kernel) (Nat.le_trans x_wn (by decide)) (Or.inr ⟨_, rfl, ?_⟩)
  refine Or.inr ⟨_, rfl, ?_⟩
  exact ⟨hJ, hF, by decide⟩
set_option maxHeartbeats 0 in
/-- LentNames$Town.copy(LLentNames$Town;)V -/
theorem c84_3_T0 {sc : Nat × Nat} {d ra1 : Nat} {h : xh} (hJ : J h) (ta1 : tw ra1) : X sc 84 (d + 1) (xV fun h' => J h' ∧ Fr 257 h h') 0 0 0 [x_r 3, x_r ra1] [] h := by
  have hF := Fr.refl 257 h
  refine x_aload (np := 1) (x := 0) (by decide +kernel) rfl (x_nc_le (by decide)) ?_
  have q1 : h 3 0 = 4 := by have z := jB (e := 0) 0 hJ rg_3_0_0_1 (by decide) (by decide); omega
  refine x_getR (np := 4) (x := 512) (f := 0) (q := 4) (by decide +kernel) (by decide) (by decide +kernel) q1 ?_
  refine x_aload (np := 5) (x := 1) (by decide +kernel) rfl (x_nc_le (tn_0 ta1)) ?_
  have q2 : h ra1 0 = (ra1 + 1) := tf_0_0 hJ ta1
  refine x_getR (np := 8) (x := 512) (f := 0) (q := (ra1 + 1)) (by decide +kernel) (by decide) (tg_0_512_0_1 ta1) q2 ?_
  refine x_nV (t := 6) (mj := 70) (n := 2) (rc := 7) (ml := 2) (nr := 0) (np := 11) (as := [x_r 4, x_r (ra1 + 1)]) (rest := []) (lo1 := [x_r 4, x_r (ra1 + 1)]) (by decide +kernel) (by decide) (by decide +kernel) (x_rb_of (by decide +kernel)) rfl rfl (x_wr (by decide) (x_wr (tn_1 ta1) x_wn)) x_wn (by decide) rfl ?_
  refine x_aload (np := 1) (x := 0) (by decide +kernel) rfl (x_nc_le (by decide)) ?_
  refine x_aload (np := 2) (x := 1) (by decide +kernel) rfl (x_nc_le (tn_1 ta1)) ?_
  have b3 := jB (e := 2) 0 hJ (rg_T1_2_0_1 ta1) (by omega) (by omega)
  refine x_getC (np := 5) (x := 386) (f := 2) (q := (h (ra1 + 1) 2)) (by decide +kernel) (by decide) (tg_1_386_2_0 ta1) rfl (fun l4 => ?_)
  refine x_putI (np := 8) (x := 386) (f := 2) (by decide +kernel) (by decide +kernel) l4 (Or.inl (by decide)) ?_
  have j6 := jU (e := 2) (v := (h (ra1 + 1) 2)) 0 hJ rg_4_2_0_1 (by omega) (by omega) (by omega)
  have f8 := jF (e := 2) (v := (h (ra1 + 1) 2)) 0 hF rg_4_2_0_1 (by omega) (by omega) (by decide)
  generalize e7 : x_up h 4 2 (h (ra1 + 1) 2) = h5 at j6 f8 ⊢
  refine x_aload (np := 9) (x := 1) (by decide +kernel) rfl (x_nc_le (tn_1 ta1)) ?_
  have q9 : h5 (ra1 + 1) 1 = (ra1 + 2) := tf_1_1 j6 ta1
  refine x_getR (np := 12) (x := 385) (f := 1) (q := (ra1 + 2)) (by decide +kernel) (by decide) (tg_1_385_1_1 ta1) q9 ?_
  refine x_const (np := 13) (x := 9223372039002259456) (a := 2147483648) (by decide +kernel) (by decide) (by decide) ?_
  refine x_aload (np := 14) (x := 0) (by decide +kernel) rfl (x_nc_le (by decide)) ?_
  have q10 : h5 4 1 = 5 := by have z := jB (e := 1) 0 j6 rg_4_1_0_1 (by decide) (by decide); omega
  refine x_getR (np := 17) (x := 385) (f := 1) (q := 5) (by decide +kernel) (by decide) (by decide +kernel) q10 ?_
  refine x_const (np := 18) (x := 9223372039002259456) (a := 2147483648) (by decide +kernel) (by decide) (by decide) ?_
  refine x_aload (np := 19) (x := 0) (by decide +kernel) rfl (x_nc_le (by decide)) ?_
  have q11 : h5 4 1 = 5 := by have z := jB (e := 1) 0 j6 rg_4_1_0_1 (by decide) (by decide); omega
  refine x_getR (np := 22) (x := 385) (f := 1) (q := 5) (by decide +kernel) (by decide) (by decide +kernel) q11 ?_
  refine x_alen (np := 23) (x := 0) (n := 140) (by decide +kernel) (by decide) (by decide +kernel) (by decide +kernel) (by decide) ?_
  show X _ _ _ _ _ _ _ _ [iv_c 2147483788, iv_c 2147483648, x_r 5, iv_c 2147483648, x_r (ra1 + 2)] _
  refine x_aload (np := 24) (x := 1) (by decide +kernel) rfl (x_nc_le (tn_1 ta1)) ?_
  have q12 : h5 (ra1 + 1) 1 = (ra1 + 2) := tf_1_1 j6 ta1
  refine x_getR (np := 27) (x := 385) (f := 1) (q := (ra1 + 2)) (by decide +kernel) (by decide) (tg_1_385_1_1 ta1) q12 ?_
  refine x_alen (np := 28) (x := 0) (n := 140) (by decide +kernel) (tn_2 ta1) (tl_2 ta1).1 (tl_2 ta1).2 (by decide) ?_
  show X _ _ _ _ _ _ _ _ [iv_c 2147483788, iv_c 2147483788, iv_c 2147483648, x_r 5, iv_c 2147483648, x_r (ra1 + 2)] _
  refine x_min (np := 31) (by decide +kernel) (by decide) (by decide) (Nat.le_trans (x_wi (by decide) (x_wi (by decide) (x_wi (by decide) (x_wr (by decide) (x_wi (by decide) (x_wr (tn_2 ta1) x_wn)))))) (by decide)) ?_
  rw [show min 2147483788 2147483788 = 2147483788 by decide]
  refine x_copy (np := 34) (q := 5) (r := (ra1 + 2)) (N := 140) (nq := 140) (nr := 140) (n8 := 0) (by decide +kernel) (ta_2_140 ta1) (by decide +kernel) (by decide) (by decide) (by decide) (by decide) x_wn (by decide) ?_
  have j16 := J_cp (q := 5) (r := (ra1 + 2)) (N := 140) j6 (tn_2 ta1) (ctb_5_T2_140 ta1).1 (ctb_5_T2_140 ta1).2.1 (ctb_5_T2_140 ta1).2.2
  have f17 := Fr_cp (q := 5) (r := (ra1 + 2)) (N := 140) (Fr.refl 256 h5) (fun i _ => show Nat.testBit 256 8 = true by decide)
  generalize e18 : x_cp h5 5 (ra1 + 2) 140 = h15 at j16 f17 ⊢
  have f19 := Fr.trans f8 f17 (by decide)
  refine x_retV (np := 35) (x := 0) (by decide +kernel) (by decide +kernel) ⟨rfl, ?_⟩
  refine x_aload (np := 12) (x := 0) (by decide +kernel) rfl (x_nc_le (by decide)) ?_
  have q20 : h15 3 1 = 6 := by have z := jB (e := 1) 0 j16 rg_3_1_0_1 (by decide) (by decide); omega
  refine x_getR (np := 15) (x := 513) (f := 1) (q := 6) (by decide +kernel) (by decide) (by decide +kernel) q20 ?_
  refine x_aload (np := 16) (x := 1) (by decide +kernel) rfl (x_nc_le (tn_0 ta1)) ?_
  have q21 : h15 ra1 1 = (ra1 + 3) := tf_0_1 j16 ta1
  refine x_getR (np := 19) (x := 513) (f := 1) (q := (ra1 + 3)) (by decide +kernel) (by decide) (tg_0_513_1_1 ta1) q21 ?_
  refine x_nV (t := 6) (mj := 70) (n := 2) (rc := 7) (ml := 2) (nr := 0) (np := 22) (as := [x_r 6, x_r (ra1 + 3)]) (rest := []) (lo1 := [x_r 6, x_r (ra1 + 3)]) (by decide +kernel) (by decide) (by decide +kernel) (x_rb_of (by decide +kernel)) rfl rfl (x_wr (by decide) (x_wr (tn_3 ta1) x_wn)) x_wn (by decide) rfl ?_
  refine x_aload (np := 1) (x := 0) (by decide +kernel) rfl (x_nc_le (by decide)) ?_
  refine x_aload (np := 2) (x := 1) (by decide +kernel) rfl (x_nc_le (tn_3 ta1)) ?_
  have q22 : h15 (ra1 + 3) 2 = h5 (ra1 + 3) 2 := jK 0 f17 (rg_T3_2_0_1 ta1) (by omega) (by omega) (by decide)
  have q23 : h5 (ra1 + 3) 2 = h (ra1 + 3) 2 := by rw [← e7]; exact x_up_k (tne_3_4 ta1)
  have b24 := jB (e := 2) 0 hJ (rg_T3_2_0_1 ta1) (by omega) (by omega)
  refine x_getC (np := 5) (x := 386) (f := 2) (q := (h (ra1 + 3) 2)) (by decide +kernel) (by decide) (tg_3_386_2_0 ta1) (q22.trans q23) (fun l25 => ?_)
  refine x_putI (np := 8) (x := 386) (f := 2) (by decide +kernel) (by decide +kernel) l25 (Or.inl (by decide)) ?_
  have j27 := jU (e := 2) (v := (h (ra1 + 3) 2)) 0 j16 rg_6_2_0_1 (by omega) (by omega) (by omega)
  have f29 := jF (e := 2) (v := (h (ra1 + 3) 2)) 0 f19 rg_6_2_0_1 (by omega) (by omega) (by decide)
  generalize e28 : x_up h15 6 2 (h (ra1 + 3) 2) = h26 at j27 f29 ⊢
  refine x_aload (np := 9) (x := 1) (by decide +kernel) rfl (x_nc_le (tn_3 ta1)) ?_
  have q30 : h26 (ra1 + 3) 1 = (ra1 + 4) := tf_3_1 j27 ta1
  refine x_getR (np := 12) (x := 385) (f := 1) (q := (ra1 + 4)) (by decide +kernel) (by decide) (tg_3_385_1_1 ta1) q30 ?_
  refine x_const (np := 13) (x := 9223372039002259456) (a := 2147483648) (by decide +kernel) (by decide) (by decide) ?_
  refine x_aload (np := 14) (x := 0) (by decide +kernel) rfl (x_nc_le (by decide)) ?_
  have q31 : h26 6 1 = 7 := by have z := jB (e := 1) 0 j27 rg_6_1_0_1 (by decide) (by decide); omega
  refine x_getR (np := 17) (x := 385) (f := 1) (q := 7) (by decide +kernel) (by decide) (by decide +kernel) q31 ?_
  refine x_const (np := 18) (x := 9223372039002259456) (a := 2147483648) (by decide +kernel) (by decide) (by decide) ?_
  refine x_aload (np := 19) (x := 0) (by decide +kernel) rfl (x_nc_le (by decide)) ?_
  have q32 : h26 6 1 = 7 := by have z := jB (e := 1) 0 j27 rg_6_1_0_1 (by decide) (by decide); omega
  refine x_getR (np := 22) (x := 385) (f := 1) (q := 7) (by decide +kernel) (by decide) (by decide +kernel) q32 ?_
  refine x_alen (np := 23) (x := 0) (n := 40) (by decide +kernel) (by decide) (by decide +kernel) (by decide +kernel) (by decide) ?_
  show X _ _ _ _ _ _ _ _ [iv_c 2147483688, iv_c 2147483648, x_r 7, iv_c 2147483648, x_r (ra1 + 4)] _
  refine x_aload (np := 24) (x := 1) (by decide +kernel) rfl (x_nc_le (tn_3 ta1)) ?_
  have q33 : h26 (ra1 + 3) 1 = (ra1 + 4) := tf_3_1 j27 ta1
  refine x_getR (np := 27) (x := 385) (f := 1) (q := (ra1 + 4)) (by decide +kernel) (by decide) (tg_3_385_1_1 ta1) q33 ?_
  refine x_alen (np := 28) (x := 0) (n := 40) (by decide +kernel) (tn_4 ta1) (tl_4 ta1).1 (tl_4 ta1).2 (by decide) ?_
  show X _ _ _ _ _ _ _ _ [iv_c 2147483688, iv_c 2147483688, iv_c 2147483648, x_r 7, iv_c 2147483648, x_r (ra1 + 4)] _
  refine x_min (np := 31) (by decide +kernel) (by decide) (by decide) (Nat.le_trans (x_wi (by decide) (x_wi (by decide) (x_wi (by decide) (x_wr (by decide) (x_wi (by decide) (x_wr (tn_4 ta1) x_wn)))))) (by decide)) ?_
  rw [show min 2147483688 2147483688 = 2147483688 by decide]
  refine x_copy (np := 34) (q := 7) (r := (ra1 + 4)) (N := 40) (nq := 40) (nr := 40) (n8 := 0) (by decide +kernel) (ta_4_40 ta1) (by decide +kernel) (by decide) (by decide) (by decide) (by decide) x_wn (by decide) ?_
  have j37 := J_cp (q := 7) (r := (ra1 + 4)) (N := 40) j27 (tn_4 ta1) (ctb_7_T4_40 ta1).1 (ctb_7_T4_40 ta1).2.1 (ctb_7_T4_40 ta1).2.2
  have f38 := Fr_cp (q := 7) (r := (ra1 + 4)) (N := 40) (Fr.refl 256 h26) (fun i _ => show Nat.testBit 256 8 = true by decide)
  generalize e39 : x_cp h26 7 (ra1 + 4) 40 = h36 at j37 f38 ⊢
  have f40 := Fr.trans f29 f38 (by decide)
  refine x_retV (np := 35) (x := 0) (by decide +kernel) (by decide +kernel) ⟨rfl, ?_⟩
  refine x_aload (np := 23) (x := 0) (by decide +kernel) rfl (x_nc_le (by decide)) ?_
  have q41 : h36 3 2 = 8 := by have z := jB (e := 2) 0 j37 rg_3_2_0_1 (by decide) (by decide); omega
  refine x_getR (np := 26) (x := 514) (f := 2) (q := 8) (by decide +kernel) (by decide) (by decide +kernel) q41 ?_
  refine x_aload (np := 27) (x := 1) (by decide +kernel) rfl (x_nc_le (tn_0 ta1)) ?_
  have q42 : h36 ra1 2 = (ra1 + 5) := tf_0_2 j37 ta1
  refine x_getR (np := 30) (x := 514) (f := 2) (q := (ra1 + 5)) (by decide +kernel) (by decide) (tg_0_514_2_1 ta1) q42 ?_
  refine x_nV (t := 6) (mj := 70) (n := 2) (rc := 7) (ml := 2) (nr := 0) (np := 33) (as := [x_r 8, x_r (ra1 + 5)]) (rest := []) (lo1 := [x_r 8, x_r (ra1 + 5)]) (by decide +kernel) (by decide) (by decide +kernel) (x_rb_of (by decide +kernel)) rfl rfl (x_wr (by decide) (x_wr (tn_5 ta1) x_wn)) x_wn (by decide) rfl ?_
  refine x_aload (np := 1) (x := 0) (by decide +kernel) rfl (x_nc_le (by decide)) ?_
  refine x_aload (np := 2) (x := 1) (by decide +kernel) rfl (x_nc_le (tn_5 ta1)) ?_
  have q43 : h36 (ra1 + 5) 2 = h26 (ra1 + 5) 2 := jK 0 f38 (rg_T5_2_0_1 ta1) (by omega) (by omega) (by decide)
  have q44 : h26 (ra1 + 5) 2 = h15 (ra1 + 5) 2 := by rw [← e28]; exact x_up_k (tne_5_6 ta1)
  have q45 : h15 (ra1 + 5) 2 = h5 (ra1 + 5) 2 := jK 0 f17 (rg_T5_2_0_1 ta1) (by omega) (by omega) (by decide)
  have q46 : h5 (ra1 + 5) 2 = h (ra1 + 5) 2 := by rw [← e7]; exact x_up_k (tne_5_4 ta1)
  have b47 := jB (e := 2) 0 hJ (rg_T5_2_0_1 ta1) (by omega) (by omega)
  refine x_getC (np := 5) (x := 386) (f := 2) (q := (h (ra1 + 5) 2)) (by decide +kernel) (by decide) (tg_5_386_2_0 ta1) (((q43.trans q44).trans q45).trans q46) (fun l48 => ?_)
  refine x_putI (np := 8) (x := 386) (f := 2) (by decide +kernel) (by decide +kernel) l48 (Or.inl (by decide)) ?_
  have j50 := jU (e := 2) (v := (h (ra1 + 5) 2)) 0 j37 rg_8_2_0_1 (by omega) (by omega) (by omega)
  have f52 := jF (e := 2) (v := (h (ra1 + 5) 2)) 0 f40 rg_8_2_0_1 (by omega) (by omega) (by decide)
  generalize e51 : x_up h36 8 2 (h (ra1 + 5) 2) = h49 at j50 f52 ⊢
  refine x_aload (np := 9) (x := 1) (by decide +kernel) rfl (x_nc_le (tn_5 ta1)) ?_
  have q53 : h49 (ra1 + 5) 1 = (ra1 + 6) := tf_5_1 j50 ta1
  refine x_getR (np := 12) (x := 385) (f := 1) (q := (ra1 + 6)) (by decide +kernel) (by decide) (tg_5_385_1_1 ta1) q53 ?_
  refine x_const (np := 13) (x := 9223372039002259456) (a := 2147483648) (by decide +kernel) (by decide) (by decide) ?_
  refine x_aload (np := 14) (x := 0) (by decide +kernel) rfl (x_nc_le (by decide)) ?_
  have q54 : h49 8 1 = 9 := by have z := jB (e := 1) 0 j50 rg_8_1_0_1 (by decide) (by decide); omega
  refine x_getR (np := 17) (x := 385) (f := 1) (q := 9) (by decide +kernel) (by decide) (by decide +kernel) q54 ?_
  refine x_const (np := 18) (x := 9223372039002259456) (a := 2147483648) (by decide +kernel) (by decide) (by decide) ?_
  refine x_aload (np := 19) (x := 0) (by decide +kernel) rfl (x_nc_le (by decide)) ?_
  have q55 : h49 8 1 = 9 := by have z := jB (e := 1) 0 j50 rg_8_1_0_1 (by decide) (by decide); omega
  refine x_getR (np := 22) (x := 385) (f := 1) (q := 9) (by decide +kernel) (by decide) (by decide +kernel) q55 ?_
  refine x_alen (np := 23) (x := 0) (n := 40) (by decide +kernel) (by decide) (by decide +kernel) (by decide +kernel) (by decide) ?_
  show X _ _ _ _ _ _ _ _ [iv_c 2147483688, iv_c 2147483648, x_r 9, iv_c 2147483648, x_r (ra1 + 6)] _
  refine x_aload (np := 24) (x := 1) (by decide +kernel) rfl (x_nc_le (tn_5 ta1)) ?_
  have q56 : h49 (ra1 + 5) 1 = (ra1 + 6) := tf_5_1 j50 ta1
  refine x_getR (np := 27) (x := 385) (f := 1) (q := (ra1 + 6)) (by decide +kernel) (by decide) (tg_5_385_1_1 ta1) q56 ?_
  refine x_alen (np := 28) (x := 0) (n := 40) (by decide +kernel) (tn_6 ta1) (tl_6 ta1).1 (tl_6 ta1).2 (by decide) ?_
  show X _ _ _ _ _ _ _ _ [iv_c 2147483688, iv_c 2147483688, iv_c 2147483648, x_r 9, iv_c 2147483648, x_r (ra1 + 6)] _
  refine x_min (np := 31) (by decide +kernel) (by decide) (by decide) (Nat.le_trans (x_wi (by decide) (x_wi (by decide) (x_wi (by decide) (x_wr (by decide) (x_wi (by decide) (x_wr (tn_6 ta1) x_wn)))))) (by decide)) ?_
  rw [show min 2147483688 2147483688 = 2147483688 by decide]
  refine x_copy (np := 34) (q := 9) (r := (ra1 + 6)) (N := 40) (nq := 40) (nr := 40) (n8 := 0) (by decide +kernel) (ta_6_40 ta1) (by decide +kernel) (by decide) (by decide) (by decide) (by decide) x_wn (by decide) ?_
  have j60 := J_cp (q := 9) (r := (ra1 + 6)) (N := 40) j50 (tn_6 ta1) (ctb_9_T6_40 ta1).1 (ctb_9_T6_40 ta1).2.1 (ctb_9_T6_40 ta1).2.2
  have f61 := Fr_cp (q := 9) (r := (ra1 + 6)) (N := 40) (Fr.refl 256 h49) (fun i _ => show Nat.testBit 256 8 = true by decide)
  generalize e62 : x_cp h49 9 (ra1 + 6) 40 = h59 at j60 f61 ⊢
  have f63 := Fr.trans f52 f61 (by decide)
  refine x_retV (np := 35) (x := 0) (by decide +kernel) (by decide +kernel) ⟨rfl, ?_⟩
  refine x_aload (np := 34) (x := 0) (by decide +kernel) rfl (x_nc_le (by decide)) ?_
  have q64 : h59 3 3 = 10 := by have z := jB (e := 3) 0 j60 rg_3_3_0_1 (by decide) (by decide); omega
  refine x_getR (np := 37) (x := 515) (f := 3) (q := 10) (by decide +kernel) (by decide) (by decide +kernel) q64 ?_
  refine x_aload (np := 38) (x := 1) (by decide +kernel) rfl (x_nc_le (tn_0 ta1)) ?_
  have q65 : h59 ra1 3 = (ra1 + 7) := tf_0_3 j60 ta1
  refine x_getR (np := 41) (x := 515) (f := 3) (q := (ra1 + 7)) (by decide +kernel) (by decide) (tg_0_515_3_1 ta1) q65 ?_
  refine x_nV (t := 6) (mj := 70) (n := 2) (rc := 7) (ml := 2) (nr := 0) (np := 44) (as := [x_r 10, x_r (ra1 + 7)]) (rest := []) (lo1 := [x_r 10, x_r (ra1 + 7)]) (by decide +kernel) (by decide) (by decide +kernel) (x_rb_of (by decide +kernel)) rfl rfl (x_wr (by decide) (x_wr (tn_7 ta1) x_wn)) x_wn (by decide) rfl ?_
  refine x_aload (np := 1) (x := 0) (by decide +kernel) rfl (x_nc_le (by decide)) ?_
  refine x_aload (np := 2) (x := 1) (by decide +kernel) rfl (x_nc_le (tn_7 ta1)) ?_
  have q66 : h59 (ra1 + 7) 2 = h49 (ra1 + 7) 2 := jK 0 f61 (rg_T7_2_0_1 ta1) (by omega) (by omega) (by decide)
  have q67 : h49 (ra1 + 7) 2 = h36 (ra1 + 7) 2 := by rw [← e51]; exact x_up_k (tne_7_8 ta1)
  have q68 : h36 (ra1 + 7) 2 = h26 (ra1 + 7) 2 := jK 0 f38 (rg_T7_2_0_1 ta1) (by omega) (by omega) (by decide)
  have q69 : h26 (ra1 + 7) 2 = h15 (ra1 + 7) 2 := by rw [← e28]; exact x_up_k (tne_7_6 ta1)
  have q70 : h15 (ra1 + 7) 2 = h5 (ra1 + 7) 2 := jK 0 f17 (rg_T7_2_0_1 ta1) (by omega) (by omega) (by decide)
  have q71 : h5 (ra1 + 7) 2 = h (ra1 + 7) 2 := by rw [← e7]; exact x_up_k (tne_7_4 ta1)
  have b72 := jB (e := 2) 0 hJ (rg_T7_2_0_1 ta1) (by omega) (by omega)
  refine x_getC (np := 5) (x := 386) (f := 2) (q := (h (ra1 + 7) 2)) (by decide +kernel) (by decide) (tg_7_386_2_0 ta1) (((((q66.trans q67).trans q68).trans q69).trans q70).trans q71) (fun l73 => ?_)
  refine x_putI (np := 8) (x := 386) (f := 2) (by decide +kernel) (by decide +kernel) l73 (Or.inl (by decide)) ?_
  have j75 := jU (e := 2) (v := (h (ra1 + 7) 2)) 0 j60 rg_10_2_0_1 (by omega) (by omega) (by omega)
  have f77 := jF (e := 2) (v := (h (ra1 + 7) 2)) 0 f63 rg_10_2_0_1 (by omega) (by omega) (by decide)
  generalize e76 : x_up h59 10 2 (h (ra1 + 7) 2) = h74 at j75 f77 ⊢
  refine x_aload (np := 9) (x := 1) (by decide +kernel) rfl (x_nc_le (tn_7 ta1)) ?_
  have q78 : h74 (ra1 + 7) 1 = (ra1 + 8) := tf_7_1 j75 ta1
  refine x_getR (np := 12) (x := 385) (f := 1) (q := (ra1 + 8)) (by decide +kernel) (by decide) (tg_7_385_1_1 ta1) q78 ?_
  refine x_const (np := 13) (x := 9223372039002259456) (a := 2147483648) (by decide +kernel) (by decide) (by decide) ?_
  refine x_aload (np := 14) (x := 0) (by decide +kernel) rfl (x_nc_le (by decide)) ?_
  have q79 : h74 10 1 = 11 := by have z := jB (e := 1) 0 j75 rg_10_1_0_1 (by decide) (by decide); omega
  refine x_getR (np := 17) (x := 385) (f := 1) (q := 11) (by decide +kernel) (by decide) (by decide +kernel) q79 ?_
  refine x_const (np := 18) (x := 9223372039002259456) (a := 2147483648) (by decide +kernel) (by decide) (by decide) ?_
  refine x_aload (np := 19) (x := 0) (by decide +kernel) rfl (x_nc_le (by decide)) ?_
  have q80 : h74 10 1 = 11 := by have z := jB (e := 1) 0 j75 rg_10_1_0_1 (by decide) (by decide); omega
  refine x_getR (np := 22) (x := 385) (f := 1) (q := 11) (by decide +kernel) (by decide) (by decide +kernel) q80 ?_
  refine x_alen (np := 23) (x := 0) (n := 40) (by decide +kernel) (by decide) (by decide +kernel) (by decide +kernel) (by decide) ?_
  show X _ _ _ _ _ _ _ _ [iv_c 2147483688, iv_c 2147483648, x_r 11, iv_c 2147483648, x_r (ra1 + 8)] _
  refine x_aload (np := 24) (x := 1) (by decide +kernel) rfl (x_nc_le (tn_7 ta1)) ?_
  have q81 : h74 (ra1 + 7) 1 = (ra1 + 8) := tf_7_1 j75 ta1
  refine x_getR (np := 27) (x := 385) (f := 1) (q := (ra1 + 8)) (by decide +kernel) (by decide) (tg_7_385_1_1 ta1) q81 ?_
  refine x_alen (np := 28) (x := 0) (n := 40) (by decide +kernel) (tn_8 ta1) (tl_8 ta1).1 (tl_8 ta1).2 (by decide) ?_
  show X _ _ _ _ _ _ _ _ [iv_c 2147483688, iv_c 2147483688, iv_c 2147483648, x_r 11, iv_c 2147483648, x_r (ra1 + 8)] _
  refine x_min (np := 31) (by decide +kernel) (by decide) (by decide) (Nat.le_trans (x_wi (by decide) (x_wi (by decide) (x_wi (by decide) (x_wr (by decide) (x_wi (by decide) (x_wr (tn_8 ta1) x_wn)))))) (by decide)) ?_
  rw [show min 2147483688 2147483688 = 2147483688 by decide]
  refine x_copy (np := 34) (q := 11) (r := (ra1 + 8)) (N := 40) (nq := 40) (nr := 40) (n8 := 0) (by decide +kernel) (ta_8_40 ta1) (by decide +kernel) (by decide) (by decide) (by decide) (by decide) x_wn (by decide) ?_
  have j85 := J_cp (q := 11) (r := (ra1 + 8)) (N := 40) j75 (tn_8 ta1) (ctb_11_T8_40 ta1).1 (ctb_11_T8_40 ta1).2.1 (ctb_11_T8_40 ta1).2.2
  have f86 := Fr_cp (q := 11) (r := (ra1 + 8)) (N := 40) (Fr.refl 256 h74) (fun i _ => show Nat.testBit 256 8 = true by decide)
  generalize e87 : x_cp h74 11 (ra1 + 8) 40 = h84 at j85 f86 ⊢
  have f88 := Fr.trans f77 f86 (by decide)
  refine x_retV (np := 35) (x := 0) (by decide +kernel) (by decide +kernel) ⟨rfl, ?_⟩
  refine x_aload (np := 45) (x := 1) (by decide +kernel) rfl (x_nc_le (tn_0 ta1)) ?_
  have q89 : h84 ra1 4 = (ra1 + 9) := tf_0_4 j85 ta1
  refine x_getR (np := 48) (x := 516) (f := 4) (q := (ra1 + 9)) (by decide +kernel) (by decide) (tg_0_516_4_1 ta1) q89 ?_
  refine x_const (np := 49) (x := 9223372039002259456) (a := 2147483648) (by decide +kernel) (by decide) (by decide) ?_
  refine x_aload (np := 50) (x := 0) (by decide +kernel) rfl (x_nc_le (by decide)) ?_
  have q90 : h84 3 4 = 12 := by have z := jB (e := 4) 0 j85 rg_3_4_0_1 (by decide) (by decide); omega
  refine x_getR (np := 53) (x := 516) (f := 4) (q := 12) (by decide +kernel) (by decide) (by decide +kernel) q90 ?_
  refine x_const (np := 54) (x := 9223372039002259456) (a := 2147483648) (by decide +kernel) (by decide) (by decide) ?_
  refine x_const (np := 56) (x := 9223372064772063238) (a := 2147483654) (by decide +kernel) (by decide) (by decide) ?_
  refine x_copy (np := 59) (q := 12) (r := (ra1 + 9)) (N := 6) (nq := 6) (nr := 6) (n8 := 0) (by decide +kernel) (ta_9_6 ta1) (by decide +kernel) (by decide) (by decide) (by decide) (by decide) x_wn (by decide) ?_
  have j92 := J_cp (q := 12) (r := (ra1 + 9)) (N := 6) j85 (tn_9 ta1) (ctb_12_T9_6 ta1).1 (ctb_12_T9_6 ta1).2.1 (ctb_12_T9_6 ta1).2.2
  have f93 := Fr_cp (q := 12) (r := (ra1 + 9)) (N := 6) (Fr.refl 256 h84) (fun i _ => show Nat.testBit 256 8 = true by decide)
  generalize e94 : x_cp h84 12 (ra1 + 9) 6 = h91 at j92 f93 ⊢
  have f95 := Fr.trans f88 f93 (by decide)
  refine x_aload (np := 60) (x := 1) (by decide +kernel) rfl (x_nc_le (tn_0 ta1)) ?_
  have q96 : h91 ra1 5 = (ra1 + 10) := tf_0_5 j92 ta1
  refine x_getR (np := 63) (x := 517) (f := 5) (q := (ra1 + 10)) (by decide +kernel) (by decide) (tg_0_517_5_1 ta1) q96 ?_
  refine x_const (np := 64) (x := 9223372039002259456) (a := 2147483648) (by decide +kernel) (by decide) (by decide) ?_
  refine x_aload (np := 65) (x := 0) (by decide +kernel) rfl (x_nc_le (by decide)) ?_
  have q97 : h91 3 5 = 13 := by have z := jB (e := 5) 0 j92 rg_3_5_0_1 (by decide) (by decide); omega
  refine x_getR (np := 68) (x := 517) (f := 5) (q := 13) (by decide +kernel) (by decide) (by decide +kernel) q97 ?_
  refine x_const (np := 69) (x := 9223372039002259456) (a := 2147483648) (by decide +kernel) (by decide) (by decide) ?_
  refine x_const (np := 71) (x := 9223372064772063238) (a := 2147483654) (by decide +kernel) (by decide) (by decide) ?_
  refine x_copy (np := 74) (q := 13) (r := (ra1 + 10)) (N := 6) (nq := 6) (nr := 6) (n8 := 0) (by decide +kernel) (ta_10_6 ta1) (by decide +kernel) (by decide) (by decide) (by decide) (by decide) x_wn (by decide) ?_
  have j99 := J_cp (q := 13) (r := (ra1 + 10)) (N := 6) j92 (tn_10 ta1) (ctb_13_T10_6 ta1).1 (ctb_13_T10_6 ta1).2.1 (ctb_13_T10_6 ta1).2.2
  have f100 := Fr_cp (q := 13) (r := (ra1 + 10)) (N := 6) (Fr.refl 256 h91) (fun i _ => show Nat.testBit 256 8 = true by decide)
  generalize e101 : x_cp h91 13 (ra1 + 10) 6 = h98 at j99 f100 ⊢
  have f102 := Fr.trans f95 f100 (by decide)
  refine x_aload (np := 75) (x := 0) (by decide +kernel) rfl (x_nc_le (by decide)) ?_
  have q103 : h98 3 6 = 14 := by have z := jB (e := 6) 0 j99 rg_3_6_0_1 (by decide) (by decide); omega
  refine x_getR (np := 78) (x := 518) (f := 6) (q := 14) (by decide +kernel) (by decide) (by decide +kernel) q103 ?_
  refine x_aload (np := 79) (x := 1) (by decide +kernel) rfl (x_nc_le (tn_0 ta1)) ?_
  have q104 : h98 ra1 6 = (ra1 + 11) := tf_0_6 j99 ta1
  refine x_getR (np := 82) (x := 518) (f := 6) (q := (ra1 + 11)) (by decide +kernel) (by decide) (tg_0_518_6_1 ta1) q104 ?_
  refine x_nV (t := 6) (mj := 37) (n := 2) (rc := 3) (ml := 2) (nr := 0) (np := 85) (as := [x_r 14, x_r (ra1 + 11)]) (rest := []) (lo1 := [x_r 14, x_r (ra1 + 11)]) (by decide +kernel) (by decide) (by decide +kernel) (x_rb_of (by decide +kernel)) rfl rfl (x_wr (by decide) (x_wr (tn_11 ta1) x_wn)) x_wn (by decide) rfl ?_
  refine x_aload (np := 1) (x := 0) (by decide +kernel) rfl (x_nc_le (by decide)) ?_
  refine x_aload (np := 2) (x := 1) (by decide +kernel) rfl (x_nc_le (tn_11 ta1)) ?_
  have q105 : h98 (ra1 + 11) 2 = h91 (ra1 + 11) 2 := jK 0 f100 (rg_T11_2_0_1 ta1) (by omega) (by omega) (by decide)
  have q106 : h91 (ra1 + 11) 2 = h84 (ra1 + 11) 2 := jK 0 f93 (rg_T11_2_0_1 ta1) (by omega) (by omega) (by decide)
  have q107 : h84 (ra1 + 11) 2 = h74 (ra1 + 11) 2 := jK 0 f86 (rg_T11_2_0_1 ta1) (by omega) (by omega) (by decide)
  have q108 : h74 (ra1 + 11) 2 = h59 (ra1 + 11) 2 := by rw [← e76]; exact x_up_k (tne_11_10 ta1)
  have q109 : h59 (ra1 + 11) 2 = h49 (ra1 + 11) 2 := jK 0 f61 (rg_T11_2_0_1 ta1) (by omega) (by omega) (by decide)
  have q110 : h49 (ra1 + 11) 2 = h36 (ra1 + 11) 2 := by rw [← e51]; exact x_up_k (tne_11_8 ta1)
  have q111 : h36 (ra1 + 11) 2 = h26 (ra1 + 11) 2 := jK 0 f38 (rg_T11_2_0_1 ta1) (by omega) (by omega) (by decide)
  have q112 : h26 (ra1 + 11) 2 = h15 (ra1 + 11) 2 := by rw [← e28]; exact x_up_k (tne_11_6 ta1)
  have q113 : h15 (ra1 + 11) 2 = h5 (ra1 + 11) 2 := jK 0 f17 (rg_T11_2_0_1 ta1) (by omega) (by omega) (by decide)
  have q114 : h5 (ra1 + 11) 2 = h (ra1 + 11) 2 := by rw [← e7]; exact x_up_k (tne_11_4 ta1)
  have b115 := jB (e := 2) 0 hJ (rg_T11_2_0_1 ta1) (by omega) (by omega)
  refine x_getC (np := 5) (x := 130) (f := 2) (q := (h (ra1 + 11) 2)) (by decide +kernel) (by decide) (tg_11_130_2_0 ta1) (((((((((q105.trans q106).trans q107).trans q108).trans q109).trans q110).trans q111).trans q112).trans q113).trans q114) (fun l116 => ?_)
  refine x_putI (np := 8) (x := 130) (f := 2) (by decide +kernel) (by decide +kernel) l116 (Or.inl (by decide)) ?_
  have j118 := jU (e := 2) (v := (h (ra1 + 11) 2)) 0 j99 rg_14_2_0_1 (by omega) (by omega) (by omega)
  have f120 := jF (e := 2) (v := (h (ra1 + 11) 2)) 0 f102 rg_14_2_0_1 (by omega) (by omega) (by decide)
  generalize e119 : x_up h98 14 2 (h (ra1 + 11) 2) = h117 at j118 f120 ⊢
  refine x_aload (np := 9) (x := 0) (by decide +kernel) rfl (x_nc_le (by decide)) ?_
  refine x_aload (np := 10) (x := 1) (by decide +kernel) rfl (x_nc_le (tn_11 ta1)) ?_
  have q121 : h117 (ra1 + 11) 3 = h98 (ra1 + 11) 3 := by rw [← e119]; exact x_up_k (tne_11_14 ta1)
  have q122 : h98 (ra1 + 11) 3 = h91 (ra1 + 11) 3 := jK 0 f100 (rg_T11_3_0_1 ta1) (by omega) (by omega) (by decide)
  have q123 : h91 (ra1 + 11) 3 = h84 (ra1 + 11) 3 := jK 0 f93 (rg_T11_3_0_1 ta1) (by omega) (by omega) (by decide)
  have q124 : h84 (ra1 + 11) 3 = h74 (ra1 + 11) 3 := jK 0 f86 (rg_T11_3_0_1 ta1) (by omega) (by omega) (by decide)
  have q125 : h74 (ra1 + 11) 3 = h59 (ra1 + 11) 3 := by rw [← e76]; exact x_up_k (tne_11_10 ta1)
  have q126 : h59 (ra1 + 11) 3 = h49 (ra1 + 11) 3 := jK 0 f61 (rg_T11_3_0_1 ta1) (by omega) (by omega) (by decide)
  have q127 : h49 (ra1 + 11) 3 = h36 (ra1 + 11) 3 := by rw [← e51]; exact x_up_k (tne_11_8 ta1)
  have q128 : h36 (ra1 + 11) 3 = h26 (ra1 + 11) 3 := jK 0 f38 (rg_T11_3_0_1 ta1) (by omega) (by omega) (by decide)
  have q129 : h26 (ra1 + 11) 3 = h15 (ra1 + 11) 3 := by rw [← e28]; exact x_up_k (tne_11_6 ta1)
  have q130 : h15 (ra1 + 11) 3 = h5 (ra1 + 11) 3 := jK 0 f17 (rg_T11_3_0_1 ta1) (by omega) (by omega) (by decide)
  have q131 : h5 (ra1 + 11) 3 = h (ra1 + 11) 3 := by rw [← e7]; exact x_up_k (tne_11_4 ta1)
  refine x_getC (np := 13) (x := 131) (f := 3) (q := (h (ra1 + 11) 3)) (by decide +kernel) (by decide) (tg_11_131_3_0 ta1) ((((((((((q121.trans q122).trans q123).trans q124).trans q125).trans q126).trans q127).trans q128).trans q129).trans q130).trans q131) (fun l132 => ?_)
  refine x_putI (np := 16) (x := 131) (f := 3) (by decide +kernel) (by decide +kernel) l132 (Or.inl (by decide)) ?_
  have j134 := jU (e := 3) (v := (h (ra1 + 11) 3)) 0 j118 rg_14_3_0_1 (by omega) (by omega) (by omega)
  have f136 := jF (e := 3) (v := (h (ra1 + 11) 3)) 0 f120 rg_14_3_0_1 (by omega) (by omega) (by decide)
  generalize e135 : x_up h117 14 3 (h (ra1 + 11) 3) = h133 at j134 f136 ⊢
  refine x_aload (np := 17) (x := 1) (by decide +kernel) rfl (x_nc_le (tn_11 ta1)) ?_
  have q137 : h133 (ra1 + 11) 0 = (ra1 + 12) := tf_11_0 j134 ta1
  refine x_getR (np := 20) (x := 128) (f := 0) (q := (ra1 + 12)) (by decide +kernel) (by decide) (tg_11_128_0_1 ta1) q137 ?_
  refine x_const (np := 21) (x := 9223372039002259456) (a := 2147483648) (by decide +kernel) (by decide) (by decide) ?_
  refine x_aload (np := 22) (x := 0) (by decide +kernel) rfl (x_nc_le (by decide)) ?_
  have q138 : h133 14 0 = 15 := by have z := jB (e := 0) 0 j134 rg_14_0_0_1 (by decide) (by decide); omega
  refine x_getR (np := 25) (x := 128) (f := 0) (q := 15) (by decide +kernel) (by decide) (by decide +kernel) q138 ?_
  refine x_const (np := 26) (x := 9223372039002259456) (a := 2147483648) (by decide +kernel) (by decide) (by decide) ?_
  refine x_const (np := 29) (x := 9223373756989178256) (a := 2147484048) (by decide +kernel) (by decide) (by decide) ?_
  refine x_copy (np := 32) (q := 15) (r := (ra1 + 12)) (N := 400) (nq := 400) (nr := 400) (n8 := 0) (by decide +kernel) (ta_12_400 ta1) (by decide +kernel) (by decide) (by decide) (by decide) (by decide) x_wn (by decide) ?_
  have j140 := J_cp (q := 15) (r := (ra1 + 12)) (N := 400) j134 (tn_12 ta1) (ctb_15_T12_400 ta1).1 (ctb_15_T12_400 ta1).2.1 (ctb_15_T12_400 ta1).2.2
  have f141 := Fr_cp (q := 15) (r := (ra1 + 12)) (N := 400) (Fr.refl 256 h133) (fun i _ => show Nat.testBit 256 8 = true by decide)
  generalize e142 : x_cp h133 15 (ra1 + 12) 400 = h139 at j140 f141 ⊢
  have f143 := Fr.trans f136 f141 (by decide)
  refine x_retV (np := 33) (x := 0) (by decide +kernel) (by decide +kernel) ⟨rfl, ?_⟩
  refine x_aload (np := 86) (x := 0) (by decide +kernel) rfl (x_nc_le (by decide)) ?_
  refine x_aload (np := 87) (x := 1) (by decide +kernel) rfl (x_nc_le (tn_0 ta1)) ?_
  have q144 : h139 ra1 7 = h133 ra1 7 := jK 0 f141 (rg_T0_7_0_1 ta1) (by omega) (by omega) (by decide)
  have q145 : h133 ra1 7 = h117 ra1 7 := by rw [← e135]; exact x_up_k (tne_0_14 ta1)
  have q146 : h117 ra1 7 = h98 ra1 7 := by rw [← e119]; exact x_up_k (tne_0_14 ta1)
  have q147 : h98 ra1 7 = h91 ra1 7 := jK 0 f100 (rg_T0_7_0_1 ta1) (by omega) (by omega) (by decide)
  have q148 : h91 ra1 7 = h84 ra1 7 := jK 0 f93 (rg_T0_7_0_1 ta1) (by omega) (by omega) (by decide)
  have q149 : h84 ra1 7 = h74 ra1 7 := jK 0 f86 (rg_T0_7_0_1 ta1) (by omega) (by omega) (by decide)
  have q150 : h74 ra1 7 = h59 ra1 7 := by rw [← e76]; exact x_up_k (tne_0_10 ta1)
  have q151 : h59 ra1 7 = h49 ra1 7 := jK 0 f61 (rg_T0_7_0_1 ta1) (by omega) (by omega) (by decide)
  have q152 : h49 ra1 7 = h36 ra1 7 := by rw [← e51]; exact x_up_k (tne_0_8 ta1)
  have q153 : h36 ra1 7 = h26 ra1 7 := jK 0 f38 (rg_T0_7_0_1 ta1) (by omega) (by omega) (by decide)
  have q154 : h26 ra1 7 = h15 ra1 7 := by rw [← e28]; exact x_up_k (tne_0_6 ta1)
  have q155 : h15 ra1 7 = h5 ra1 7 := jK 0 f17 (rg_T0_7_0_1 ta1) (by omega) (by omega) (by decide)
  have q156 : h5 ra1 7 = h ra1 7 := by rw [← e7]; exact x_up_k (tne_0_4 ta1)
  have b157 := jB (e := 7) 0 hJ (rg_T0_7_0_1 ta1) (by omega) (by omega)
  refine x_getC (np := 90) (x := 519) (f := 7) (q := (h ra1 7)) (by decide +kernel) (by decide) (tg_0_519_7_0 ta1) ((((((((((((q144.trans q145).trans q146).trans q147).trans q148).trans q149).trans q150).trans q151).trans q152).trans q153).trans q154).trans q155).trans q156) (fun l158 => ?_)
  refine x_putI (np := 93) (x := 519) (f := 7) (by decide +kernel) (by decide +kernel) l158 (Or.inl (by decide)) ?_
  have j160 := jU (e := 7) (v := (h ra1 7)) 0 j140 rg_3_7_0_1 (by omega) (by omega) (by omega)
  have f162 := jF (e := 7) (v := (h ra1 7)) 0 f143 rg_3_7_0_1 (by omega) (by omega) (by decide)
  generalize e161 : x_up h139 3 7 (h ra1 7) = h159 at j160 f162 ⊢
  refine x_aload (np := 94) (x := 0) (by decide +kernel) rfl (x_nc_le (by decide)) ?_
  refine x_aload (np := 95) (x := 1) (by decide +kernel) rfl (x_nc_le (tn_0 ta1)) ?_
  have q163 : h159 ra1 8 = h139 ra1 8 := by rw [← e161]; exact x_up_k (tne_0_3 ta1)
  have q164 : h139 ra1 8 = h133 ra1 8 := jK 0 f141 (rg_T0_8_0_1 ta1) (by omega) (by omega) (by decide)
  have q165 : h133 ra1 8 = h117 ra1 8 := by rw [← e135]; exact x_up_k (tne_0_14 ta1)
  have q166 : h117 ra1 8 = h98 ra1 8 := by rw [← e119]; exact x_up_k (tne_0_14 ta1)
  have q167 : h98 ra1 8 = h91 ra1 8 := jK 0 f100 (rg_T0_8_0_1 ta1) (by omega) (by omega) (by decide)
  have q168 : h91 ra1 8 = h84 ra1 8 := jK 0 f93 (rg_T0_8_0_1 ta1) (by omega) (by omega) (by decide)
  have q169 : h84 ra1 8 = h74 ra1 8 := jK 0 f86 (rg_T0_8_0_1 ta1) (by omega) (by omega) (by decide)
  have q170 : h74 ra1 8 = h59 ra1 8 := by rw [← e76]; exact x_up_k (tne_0_10 ta1)
  have q171 : h59 ra1 8 = h49 ra1 8 := jK 0 f61 (rg_T0_8_0_1 ta1) (by omega) (by omega) (by decide)
  have q172 : h49 ra1 8 = h36 ra1 8 := by rw [← e51]; exact x_up_k (tne_0_8 ta1)
  have q173 : h36 ra1 8 = h26 ra1 8 := jK 0 f38 (rg_T0_8_0_1 ta1) (by omega) (by omega) (by decide)
  have q174 : h26 ra1 8 = h15 ra1 8 := by rw [← e28]; exact x_up_k (tne_0_6 ta1)
  have q175 : h15 ra1 8 = h5 ra1 8 := jK 0 f17 (rg_T0_8_0_1 ta1) (by omega) (by omega) (by decide)
  have q176 : h5 ra1 8 = h ra1 8 := by rw [← e7]; exact x_up_k (tne_0_4 ta1)
  refine x_getC (np := 98) (x := 520) (f := 8) (q := (h ra1 8)) (by decide +kernel) (by decide) (tg_0_520_8_0 ta1) (((((((((((((q163.trans q164).trans q165).trans q166).trans q167).trans q168).trans q169).trans q170).trans q171).trans q172).trans q173).trans q174).trans q175).trans q176) (fun l177 => ?_)
  refine x_putI (np := 101) (x := 520) (f := 8) (by decide +kernel) (by decide +kernel) l177 (Or.inl (by decide)) ?_
  have j179 := jU (e := 8) (v := (h ra1 8)) 0 j160 rg_3_8_0_1 (by omega) (by omega) (by omega)
  have f181 := jF (e := 8) (v := (h ra1 8)) 0 f162 rg_3_8_0_1 (by omega) (by omega) (by decide)
  generalize e180 : x_up h159 3 8 (h ra1 8) = h178 at j179 f181 ⊢
  refine x_aload (np := 102) (x := 0) (by decide +kernel) rfl (x_nc_le (by decide)) ?_
  refine x_aload (np := 103) (x := 1) (by decide +kernel) rfl (x_nc_le (tn_0 ta1)) ?_
  have q182 : h178 ra1 9 = h159 ra1 9 := by rw [← e180]; exact x_up_k (tne_0_3 ta1)
  have q183 : h159 ra1 9 = h139 ra1 9 := by rw [← e161]; exact x_up_k (tne_0_3 ta1)
  have q184 : h139 ra1 9 = h133 ra1 9 := jK 0 f141 (rg_T0_9_0_1 ta1) (by omega) (by omega) (by decide)
  have q185 : h133 ra1 9 = h117 ra1 9 := by rw [← e135]; exact x_up_k (tne_0_14 ta1)
  have q186 : h117 ra1 9 = h98 ra1 9 := by rw [← e119]; exact x_up_k (tne_0_14 ta1)
  have q187 : h98 ra1 9 = h91 ra1 9 := jK 0 f100 (rg_T0_9_0_1 ta1) (by omega) (by omega) (by decide)
  have q188 : h91 ra1 9 = h84 ra1 9 := jK 0 f93 (rg_T0_9_0_1 ta1) (by omega) (by omega) (by decide)
  have q189 : h84 ra1 9 = h74 ra1 9 := jK 0 f86 (rg_T0_9_0_1 ta1) (by omega) (by omega) (by decide)
  have q190 : h74 ra1 9 = h59 ra1 9 := by rw [← e76]; exact x_up_k (tne_0_10 ta1)
  have q191 : h59 ra1 9 = h49 ra1 9 := jK 0 f61 (rg_T0_9_0_1 ta1) (by omega) (by omega) (by decide)
  have q192 : h49 ra1 9 = h36 ra1 9 := by rw [← e51]; exact x_up_k (tne_0_8 ta1)
  have q193 : h36 ra1 9 = h26 ra1 9 := jK 0 f38 (rg_T0_9_0_1 ta1) (by omega) (by omega) (by decide)
  have q194 : h26 ra1 9 = h15 ra1 9 := by rw [← e28]; exact x_up_k (tne_0_6 ta1)
  have q195 : h15 ra1 9 = h5 ra1 9 := jK 0 f17 (rg_T0_9_0_1 ta1) (by omega) (by omega) (by decide)
  have q196 : h5 ra1 9 = h ra1 9 := by rw [← e7]; exact x_up_k (tne_0_4 ta1)
  refine x_getC (np := 106) (x := 521) (f := 9) (q := (h ra1 9)) (by decide +kernel) (by decide) (tg_0_521_9_0 ta1) ((((((((((((((q182.trans q183).trans q184).trans q185).trans q186).trans q187).trans q188).trans q189).trans q190).trans q191).trans q192).trans q193).trans q194).trans q195).trans q196) (fun l197 => ?_)
  refine x_putI (np := 109) (x := 521) (f := 9) (by decide +kernel) (by decide +kernel) l197 (Or.inl (by decide)) ?_
  have j199 := jU (e := 9) (v := (h ra1 9)) 0 j179 rg_3_9_0_1 (by omega) (by omega) (by omega)
  have f201 := jF (e := 9) (v := (h ra1 9)) 0 f181 rg_3_9_0_1 (by omega) (by omega) (by decide)
  generalize e200 : x_up h178 3 9 (h ra1 9) = h198 at j199 f201 ⊢
  refine x_retV (np := 110) (x := 0) (by decide +kernel) (by decide +kernel) ⟨rfl, ?_⟩
  exact ⟨j199, f201⟩
set_option maxHeartbeats 0 in
/-- LentNames.image()V -/
theorem c138_0 {sc : Nat × Nat} {d  : Nat} {h : xh} (hJ : J h) : X sc 138 (d + 2) (xV fun h' => J h' ∧ Fr 261 h h') 0 0 0 [x_r 0] [] h := by
  have hF := Fr.refl 261 h
  refine x_aload (np := 1) (x := 0) (by decide +kernel) rfl (x_nc_le (by decide)) ?_
  have q1 : h 0 7 = 3 := by have z := jB (e := 7) 0 hJ rg_0_7_0_1 (by decide) (by decide); omega
  refine x_getR (np := 4) (x := 647) (f := 7) (q := 3) (by decide +kernel) (by decide) (by decide +kernel) q1 ?_
  refine x_aload (np := 5) (x := 0) (by decide +kernel) rfl (x_nc_le (by decide)) ?_
  have t2 : tw (h 0 8) := hJ.2.1
  refine x_getR (np := 8) (x := 648) (f := 8) (q := (h 0 8)) (by decide +kernel) (by decide) (by decide +kernel) rfl ?_
  refine x_cV (t := 6) (mj := 84) (n := 2) (rc := 9) (ml := 2) (nr := 0) (np := 11) (as := [x_r 3, x_r (h 0 8)]) (rest := []) (lo1 := [x_r 3, x_r (h 0 8)]) (by decide +kernel) (by decide) (by decide +kernel) (x_rb_of (by decide +kernel)) rfl rfl (x_wr (by decide) (x_wr (tn_0 t2) x_wn)) x_wn (by decide) rfl (c84_3_T0 hJ  t2) (fun h6 q5 => ?_)
  obtain ⟨j7, f8⟩ := q5
  have f11 := Fr.trans hF f8 (by decide)
  refine x_aload (np := 12) (x := 0) (by decide +kernel) rfl (x_nc_le (by decide)) ?_
  refine x_const (np := 13) (x := 9223372043297226753) (a := 2147483649) (by decide +kernel) (by decide) (by decide) ?_
  refine x_putI (np := 16) (x := 4746) (f := 10) (by decide +kernel) (by decide +kernel) (by decide) (Or.inr ⟨by decide, by omega, by omega⟩) ?_
  have j13 := jU (e := 10) (v := 2147483649) 0 j7 rg_0_10_0_1 (by omega) (by omega) (by omega)
  have f15 := jF (e := 10) (v := 2147483649) 0 f11 rg_0_10_0_1 (by omega) (by omega) (by decide)
  generalize e14 : x_up h6 0 10 2147483649 = h12 at j13 f15 ⊢
  refine x_retV (np := 17) (x := 0) (by decide +kernel) (by decide +kernel) ⟨rfl, ?_⟩
  exact ⟨j13, f15⟩
set_option maxHeartbeats 0 in
/-- LentNames$Town.copy(LLentNames$Town;)V -/
theorem c84_T0_3 {sc : Nat × Nat} {d ra0 : Nat} {h : xh} (hJ : J h) (ta0 : tw ra0) : X sc 84 (d + 1) (xV fun h' => J h' ∧ Fr 129 h h') 0 0 0 [x_r ra0, x_r 3] [] h := by
  have hF := Fr.refl 129 h
  refine x_aload (np := 1) (x := 0) (by decide +kernel) rfl (x_nc_le (tn_0 ta0)) ?_
  have q1 : h ra0 0 = (ra0 + 1) := tf_0_0 hJ ta0
  refine x_getR (np := 4) (x := 512) (f := 0) (q := (ra0 + 1)) (by decide +kernel) (by decide) (tg_0_512_0_1 ta0) q1 ?_
  refine x_aload (np := 5) (x := 1) (by decide +kernel) rfl (x_nc_le (by decide)) ?_
  have q2 : h 3 0 = 4 := by have z := jB (e := 0) 0 hJ rg_3_0_0_1 (by decide) (by decide); omega
  refine x_getR (np := 8) (x := 512) (f := 0) (q := 4) (by decide +kernel) (by decide) (by decide +kernel) q2 ?_
  refine x_nV (t := 6) (mj := 70) (n := 2) (rc := 7) (ml := 2) (nr := 0) (np := 11) (as := [x_r (ra0 + 1), x_r 4]) (rest := []) (lo1 := [x_r (ra0 + 1), x_r 4]) (by decide +kernel) (by decide) (by decide +kernel) (x_rb_of (tr_1_7 ta0)) rfl rfl (x_wr (tn_1 ta0) (x_wr (by decide) x_wn)) x_wn (by decide) rfl ?_
  refine x_aload (np := 1) (x := 0) (by decide +kernel) rfl (x_nc_le (tn_1 ta0)) ?_
  refine x_aload (np := 2) (x := 1) (by decide +kernel) rfl (x_nc_le (by decide)) ?_
  have b3 := jB (e := 2) 0 hJ rg_4_2_0_1 (by omega) (by omega)
  refine x_getC (np := 5) (x := 386) (f := 2) (q := (h 4 2)) (by decide +kernel) (by decide) (by decide +kernel) rfl (fun l4 => ?_)
  refine x_putI (np := 8) (x := 386) (f := 2) (by decide +kernel) (tg_1_386_2_0 ta0) l4 (Or.inl (by decide)) ?_
  have j6 := jU (e := 2) (v := (h 4 2)) 0 hJ (rg_T1_2_0_1 ta0) (by omega) (by omega) (by omega)
  have f8 := jF (e := 2) (v := (h 4 2)) 0 hF (rg_T1_2_0_1 ta0) (by omega) (by omega) (by decide)
  generalize e7 : x_up h (ra0 + 1) 2 (h 4 2) = h5 at j6 f8 ⊢
  refine x_aload (np := 9) (x := 1) (by decide +kernel) rfl (x_nc_le (by decide)) ?_
  have q9 : h5 4 1 = 5 := by have z := jB (e := 1) 0 j6 rg_4_1_0_1 (by decide) (by decide); omega
  refine x_getR (np := 12) (x := 385) (f := 1) (q := 5) (by decide +kernel) (by decide) (by decide +kernel) q9 ?_
  refine x_const (np := 13) (x := 9223372039002259456) (a := 2147483648) (by decide +kernel) (by decide) (by decide) ?_
  refine x_aload (np := 14) (x := 0) (by decide +kernel) rfl (x_nc_le (tn_1 ta0)) ?_
  have q10 : h5 (ra0 + 1) 1 = (ra0 + 2) := tf_1_1 j6 ta0
  refine x_getR (np := 17) (x := 385) (f := 1) (q := (ra0 + 2)) (by decide +kernel) (by decide) (tg_1_385_1_1 ta0) q10 ?_
  refine x_const (np := 18) (x := 9223372039002259456) (a := 2147483648) (by decide +kernel) (by decide) (by decide) ?_
  refine x_aload (np := 19) (x := 0) (by decide +kernel) rfl (x_nc_le (tn_1 ta0)) ?_
  have q11 : h5 (ra0 + 1) 1 = (ra0 + 2) := tf_1_1 j6 ta0
  refine x_getR (np := 22) (x := 385) (f := 1) (q := (ra0 + 2)) (by decide +kernel) (by decide) (tg_1_385_1_1 ta0) q11 ?_
  refine x_alen (np := 23) (x := 0) (n := 140) (by decide +kernel) (tn_2 ta0) (tl_2 ta0).1 (tl_2 ta0).2 (by decide) ?_
  show X _ _ _ _ _ _ _ _ [iv_c 2147483788, iv_c 2147483648, x_r (ra0 + 2), iv_c 2147483648, x_r 5] _
  refine x_aload (np := 24) (x := 1) (by decide +kernel) rfl (x_nc_le (by decide)) ?_
  have q12 : h5 4 1 = 5 := by have z := jB (e := 1) 0 j6 rg_4_1_0_1 (by decide) (by decide); omega
  refine x_getR (np := 27) (x := 385) (f := 1) (q := 5) (by decide +kernel) (by decide) (by decide +kernel) q12 ?_
  refine x_alen (np := 28) (x := 0) (n := 140) (by decide +kernel) (by decide) (by decide +kernel) (by decide +kernel) (by decide) ?_
  show X _ _ _ _ _ _ _ _ [iv_c 2147483788, iv_c 2147483788, iv_c 2147483648, x_r (ra0 + 2), iv_c 2147483648, x_r 5] _
  refine x_min (np := 31) (by decide +kernel) (by decide) (by decide) (Nat.le_trans (x_wi (by decide) (x_wi (by decide) (x_wi (by decide) (x_wr (tn_2 ta0) (x_wi (by decide) (x_wr (by decide) x_wn)))))) (by decide)) ?_
  rw [show min 2147483788 2147483788 = 2147483788 by decide]
  refine x_copy (np := 34) (q := (ra0 + 2)) (r := 5) (N := 140) (nq := 140) (nr := 140) (n8 := 0) (by decide +kernel) (by decide +kernel) (ta_2_140 ta0) (by decide) (by decide) (by decide) (by decide) x_wn (by decide) ?_
  have j16 := J_cp (q := (ra0 + 2)) (r := 5) (N := 140) j6 (by decide) (ctb_T2_5_140 ta0).1 (ctb_T2_5_140 ta0).2.1 (ctb_T2_5_140 ta0).2.2
  have f17 := Fr_cp (q := (ra0 + 2)) (r := 5) (N := 140) (Fr.refl 128 h5) (fun i _ => by rw [tgr_2 ta0]; decide)
  generalize e18 : x_cp h5 (ra0 + 2) 5 140 = h15 at j16 f17 ⊢
  have f19 := Fr.trans f8 f17 (by decide)
  refine x_retV (np := 35) (x := 0) (by decide +kernel) (by decide +kernel) ⟨rfl, ?_⟩
  refine x_aload (np := 12) (x := 0) (by decide +kernel) rfl (x_nc_le (tn_0 ta0)) ?_
  have q20 : h15 ra0 1 = (ra0 + 3) := tf_0_1 j16 ta0
  refine x_getR (np := 15) (x := 513) (f := 1) (q := (ra0 + 3)) (by decide +kernel) (by decide) (tg_0_513_1_1 ta0) q20 ?_
  refine x_aload (np := 16) (x := 1) (by decide +kernel) rfl (x_nc_le (by decide)) ?_
  have q21 : h15 3 1 = 6 := by have z := jB (e := 1) 0 j16 rg_3_1_0_1 (by decide) (by decide); omega
  refine x_getR (np := 19) (x := 513) (f := 1) (q := 6) (by decide +kernel) (by decide) (by decide +kernel) q21 ?_
  refine x_nV (t := 6) (mj := 70) (n := 2) (rc := 7) (ml := 2) (nr := 0) (np := 22) (as := [x_r (ra0 + 3), x_r 6]) (rest := []) (lo1 := [x_r (ra0 + 3), x_r 6]) (by decide +kernel) (by decide) (by decide +kernel) (x_rb_of (tr_3_7 ta0)) rfl rfl (x_wr (tn_3 ta0) (x_wr (by decide) x_wn)) x_wn (by decide) rfl ?_
  refine x_aload (np := 1) (x := 0) (by decide +kernel) rfl (x_nc_le (tn_3 ta0)) ?_
  refine x_aload (np := 2) (x := 1) (by decide +kernel) rfl (x_nc_le (by decide)) ?_
  have q22 : h15 6 2 = h5 6 2 := jK 0 f17 rg_6_2_0_1 (by omega) (by omega) (by decide)
  have q23 : h5 6 2 = h 6 2 := by rw [← e7]; exact x_up_k (Ne.symm (tne_1_6 ta0))
  have b24 := jB (e := 2) 0 hJ rg_6_2_0_1 (by omega) (by omega)
  refine x_getC (np := 5) (x := 386) (f := 2) (q := (h 6 2)) (by decide +kernel) (by decide) (by decide +kernel) (q22.trans q23) (fun l25 => ?_)
  refine x_putI (np := 8) (x := 386) (f := 2) (by decide +kernel) (tg_3_386_2_0 ta0) l25 (Or.inl (by decide)) ?_
  have j27 := jU (e := 2) (v := (h 6 2)) 0 j16 (rg_T3_2_0_1 ta0) (by omega) (by omega) (by omega)
  have f29 := jF (e := 2) (v := (h 6 2)) 0 f19 (rg_T3_2_0_1 ta0) (by omega) (by omega) (by decide)
  generalize e28 : x_up h15 (ra0 + 3) 2 (h 6 2) = h26 at j27 f29 ⊢
  refine x_aload (np := 9) (x := 1) (by decide +kernel) rfl (x_nc_le (by decide)) ?_
  have q30 : h26 6 1 = 7 := by have z := jB (e := 1) 0 j27 rg_6_1_0_1 (by decide) (by decide); omega
  refine x_getR (np := 12) (x := 385) (f := 1) (q := 7) (by decide +kernel) (by decide) (by decide +kernel) q30 ?_
  refine x_const (np := 13) (x := 9223372039002259456) (a := 2147483648) (by decide +kernel) (by decide) (by decide) ?_
  refine x_aload (np := 14) (x := 0) (by decide +kernel) rfl (x_nc_le (tn_3 ta0)) ?_
  have q31 : h26 (ra0 + 3) 1 = (ra0 + 4) := tf_3_1 j27 ta0
  refine x_getR (np := 17) (x := 385) (f := 1) (q := (ra0 + 4)) (by decide +kernel) (by decide) (tg_3_385_1_1 ta0) q31 ?_
  refine x_const (np := 18) (x := 9223372039002259456) (a := 2147483648) (by decide +kernel) (by decide) (by decide) ?_
  refine x_aload (np := 19) (x := 0) (by decide +kernel) rfl (x_nc_le (tn_3 ta0)) ?_
  have q32 : h26 (ra0 + 3) 1 = (ra0 + 4) := tf_3_1 j27 ta0
  refine x_getR (np := 22) (x := 385) (f := 1) (q := (ra0 + 4)) (by decide +kernel) (by decide) (tg_3_385_1_1 ta0) q32 ?_
  refine x_alen (np := 23) (x := 0) (n := 40) (by decide +kernel) (tn_4 ta0) (tl_4 ta0).1 (tl_4 ta0).2 (by decide) ?_
  show X _ _ _ _ _ _ _ _ [iv_c 2147483688, iv_c 2147483648, x_r (ra0 + 4), iv_c 2147483648, x_r 7] _
  refine x_aload (np := 24) (x := 1) (by decide +kernel) rfl (x_nc_le (by decide)) ?_
  have q33 : h26 6 1 = 7 := by have z := jB (e := 1) 0 j27 rg_6_1_0_1 (by decide) (by decide); omega
  refine x_getR (np := 27) (x := 385) (f := 1) (q := 7) (by decide +kernel) (by decide) (by decide +kernel) q33 ?_
  refine x_alen (np := 28) (x := 0) (n := 40) (by decide +kernel) (by decide) (by decide +kernel) (by decide +kernel) (by decide) ?_
  show X _ _ _ _ _ _ _ _ [iv_c 2147483688, iv_c 2147483688, iv_c 2147483648, x_r (ra0 + 4), iv_c 2147483648, x_r 7] _
  refine x_min (np := 31) (by decide +kernel) (by decide) (by decide) (Nat.le_trans (x_wi (by decide) (x_wi (by decide) (x_wi (by decide) (x_wr (tn_4 ta0) (x_wi (by decide) (x_wr (by decide) x_wn)))))) (by decide)) ?_
  rw [show min 2147483688 2147483688 = 2147483688 by decide]
  refine x_copy (np := 34) (q := (ra0 + 4)) (r := 7) (N := 40) (nq := 40) (nr := 40) (n8 := 0) (by decide +kernel) (by decide +kernel) (ta_4_40 ta0) (by decide) (by decide) (by decide) (by decide) x_wn (by decide) ?_
  have j37 := J_cp (q := (ra0 + 4)) (r := 7) (N := 40) j27 (by decide) (ctb_T4_7_40 ta0).1 (ctb_T4_7_40 ta0).2.1 (ctb_T4_7_40 ta0).2.2
  have f38 := Fr_cp (q := (ra0 + 4)) (r := 7) (N := 40) (Fr.refl 128 h26) (fun i _ => by rw [tgr_4 ta0]; decide)
  generalize e39 : x_cp h26 (ra0 + 4) 7 40 = h36 at j37 f38 ⊢
  have f40 := Fr.trans f29 f38 (by decide)
  refine x_retV (np := 35) (x := 0) (by decide +kernel) (by decide +kernel) ⟨rfl, ?_⟩
  refine x_aload (np := 23) (x := 0) (by decide +kernel) rfl (x_nc_le (tn_0 ta0)) ?_
  have q41 : h36 ra0 2 = (ra0 + 5) := tf_0_2 j37 ta0
  refine x_getR (np := 26) (x := 514) (f := 2) (q := (ra0 + 5)) (by decide +kernel) (by decide) (tg_0_514_2_1 ta0) q41 ?_
  refine x_aload (np := 27) (x := 1) (by decide +kernel) rfl (x_nc_le (by decide)) ?_
  have q42 : h36 3 2 = 8 := by have z := jB (e := 2) 0 j37 rg_3_2_0_1 (by decide) (by decide); omega
  refine x_getR (np := 30) (x := 514) (f := 2) (q := 8) (by decide +kernel) (by decide) (by decide +kernel) q42 ?_
  refine x_nV (t := 6) (mj := 70) (n := 2) (rc := 7) (ml := 2) (nr := 0) (np := 33) (as := [x_r (ra0 + 5), x_r 8]) (rest := []) (lo1 := [x_r (ra0 + 5), x_r 8]) (by decide +kernel) (by decide) (by decide +kernel) (x_rb_of (tr_5_7 ta0)) rfl rfl (x_wr (tn_5 ta0) (x_wr (by decide) x_wn)) x_wn (by decide) rfl ?_
  refine x_aload (np := 1) (x := 0) (by decide +kernel) rfl (x_nc_le (tn_5 ta0)) ?_
  refine x_aload (np := 2) (x := 1) (by decide +kernel) rfl (x_nc_le (by decide)) ?_
  have q43 : h36 8 2 = h26 8 2 := jK 0 f38 rg_8_2_0_1 (by omega) (by omega) (by decide)
  have q44 : h26 8 2 = h15 8 2 := by rw [← e28]; exact x_up_k (Ne.symm (tne_3_8 ta0))
  have q45 : h15 8 2 = h5 8 2 := jK 0 f17 rg_8_2_0_1 (by omega) (by omega) (by decide)
  have q46 : h5 8 2 = h 8 2 := by rw [← e7]; exact x_up_k (Ne.symm (tne_1_8 ta0))
  have b47 := jB (e := 2) 0 hJ rg_8_2_0_1 (by omega) (by omega)
  refine x_getC (np := 5) (x := 386) (f := 2) (q := (h 8 2)) (by decide +kernel) (by decide) (by decide +kernel) (((q43.trans q44).trans q45).trans q46) (fun l48 => ?_)
  refine x_putI (np := 8) (x := 386) (f := 2) (by decide +kernel) (tg_5_386_2_0 ta0) l48 (Or.inl (by decide)) ?_
  have j50 := jU (e := 2) (v := (h 8 2)) 0 j37 (rg_T5_2_0_1 ta0) (by omega) (by omega) (by omega)
  have f52 := jF (e := 2) (v := (h 8 2)) 0 f40 (rg_T5_2_0_1 ta0) (by omega) (by omega) (by decide)
  generalize e51 : x_up h36 (ra0 + 5) 2 (h 8 2) = h49 at j50 f52 ⊢
  refine x_aload (np := 9) (x := 1) (by decide +kernel) rfl (x_nc_le (by decide)) ?_
  have q53 : h49 8 1 = 9 := by have z := jB (e := 1) 0 j50 rg_8_1_0_1 (by decide) (by decide); omega
  refine x_getR (np := 12) (x := 385) (f := 1) (q := 9) (by decide +kernel) (by decide) (by decide +kernel) q53 ?_
  refine x_const (np := 13) (x := 9223372039002259456) (a := 2147483648) (by decide +kernel) (by decide) (by decide) ?_
  refine x_aload (np := 14) (x := 0) (by decide +kernel) rfl (x_nc_le (tn_5 ta0)) ?_
  have q54 : h49 (ra0 + 5) 1 = (ra0 + 6) := tf_5_1 j50 ta0
  refine x_getR (np := 17) (x := 385) (f := 1) (q := (ra0 + 6)) (by decide +kernel) (by decide) (tg_5_385_1_1 ta0) q54 ?_
  refine x_const (np := 18) (x := 9223372039002259456) (a := 2147483648) (by decide +kernel) (by decide) (by decide) ?_
  refine x_aload (np := 19) (x := 0) (by decide +kernel) rfl (x_nc_le (tn_5 ta0)) ?_
  have q55 : h49 (ra0 + 5) 1 = (ra0 + 6) := tf_5_1 j50 ta0
  refine x_getR (np := 22) (x := 385) (f := 1) (q := (ra0 + 6)) (by decide +kernel) (by decide) (tg_5_385_1_1 ta0) q55 ?_
  refine x_alen (np := 23) (x := 0) (n := 40) (by decide +kernel) (tn_6 ta0) (tl_6 ta0).1 (tl_6 ta0).2 (by decide) ?_
  show X _ _ _ _ _ _ _ _ [iv_c 2147483688, iv_c 2147483648, x_r (ra0 + 6), iv_c 2147483648, x_r 9] _
  refine x_aload (np := 24) (x := 1) (by decide +kernel) rfl (x_nc_le (by decide)) ?_
  have q56 : h49 8 1 = 9 := by have z := jB (e := 1) 0 j50 rg_8_1_0_1 (by decide) (by decide); omega
  refine x_getR (np := 27) (x := 385) (f := 1) (q := 9) (by decide +kernel) (by decide) (by decide +kernel) q56 ?_
  refine x_alen (np := 28) (x := 0) (n := 40) (by decide +kernel) (by decide) (by decide +kernel) (by decide +kernel) (by decide) ?_
  show X _ _ _ _ _ _ _ _ [iv_c 2147483688, iv_c 2147483688, iv_c 2147483648, x_r (ra0 + 6), iv_c 2147483648, x_r 9] _
  refine x_min (np := 31) (by decide +kernel) (by decide) (by decide) (Nat.le_trans (x_wi (by decide) (x_wi (by decide) (x_wi (by decide) (x_wr (tn_6 ta0) (x_wi (by decide) (x_wr (by decide) x_wn)))))) (by decide)) ?_
  rw [show min 2147483688 2147483688 = 2147483688 by decide]
  refine x_copy (np := 34) (q := (ra0 + 6)) (r := 9) (N := 40) (nq := 40) (nr := 40) (n8 := 0) (by decide +kernel) (by decide +kernel) (ta_6_40 ta0) (by decide) (by decide) (by decide) (by decide) x_wn (by decide) ?_
  have j60 := J_cp (q := (ra0 + 6)) (r := 9) (N := 40) j50 (by decide) (ctb_T6_9_40 ta0).1 (ctb_T6_9_40 ta0).2.1 (ctb_T6_9_40 ta0).2.2
  have f61 := Fr_cp (q := (ra0 + 6)) (r := 9) (N := 40) (Fr.refl 128 h49) (fun i _ => by rw [tgr_6 ta0]; decide)
  generalize e62 : x_cp h49 (ra0 + 6) 9 40 = h59 at j60 f61 ⊢
  have f63 := Fr.trans f52 f61 (by decide)
  refine x_retV (np := 35) (x := 0) (by decide +kernel) (by decide +kernel) ⟨rfl, ?_⟩
  refine x_aload (np := 34) (x := 0) (by decide +kernel) rfl (x_nc_le (tn_0 ta0)) ?_
  have q64 : h59 ra0 3 = (ra0 + 7) := tf_0_3 j60 ta0
  refine x_getR (np := 37) (x := 515) (f := 3) (q := (ra0 + 7)) (by decide +kernel) (by decide) (tg_0_515_3_1 ta0) q64 ?_
  refine x_aload (np := 38) (x := 1) (by decide +kernel) rfl (x_nc_le (by decide)) ?_
  have q65 : h59 3 3 = 10 := by have z := jB (e := 3) 0 j60 rg_3_3_0_1 (by decide) (by decide); omega
  refine x_getR (np := 41) (x := 515) (f := 3) (q := 10) (by decide +kernel) (by decide) (by decide +kernel) q65 ?_
  refine x_nV (t := 6) (mj := 70) (n := 2) (rc := 7) (ml := 2) (nr := 0) (np := 44) (as := [x_r (ra0 + 7), x_r 10]) (rest := []) (lo1 := [x_r (ra0 + 7), x_r 10]) (by decide +kernel) (by decide) (by decide +kernel) (x_rb_of (tr_7_7 ta0)) rfl rfl (x_wr (tn_7 ta0) (x_wr (by decide) x_wn)) x_wn (by decide) rfl ?_
  refine x_aload (np := 1) (x := 0) (by decide +kernel) rfl (x_nc_le (tn_7 ta0)) ?_
  refine x_aload (np := 2) (x := 1) (by decide +kernel) rfl (x_nc_le (by decide)) ?_
  have q66 : h59 10 2 = h49 10 2 := jK 0 f61 rg_10_2_0_1 (by omega) (by omega) (by decide)
  have q67 : h49 10 2 = h36 10 2 := by rw [← e51]; exact x_up_k (Ne.symm (tne_5_10 ta0))
  have q68 : h36 10 2 = h26 10 2 := jK 0 f38 rg_10_2_0_1 (by omega) (by omega) (by decide)
  have q69 : h26 10 2 = h15 10 2 := by rw [← e28]; exact x_up_k (Ne.symm (tne_3_10 ta0))
  have q70 : h15 10 2 = h5 10 2 := jK 0 f17 rg_10_2_0_1 (by omega) (by omega) (by decide)
  have q71 : h5 10 2 = h 10 2 := by rw [← e7]; exact x_up_k (Ne.symm (tne_1_10 ta0))
  have b72 := jB (e := 2) 0 hJ rg_10_2_0_1 (by omega) (by omega)
  refine x_getC (np := 5) (x := 386) (f := 2) (q := (h 10 2)) (by decide +kernel) (by decide) (by decide +kernel) (((((q66.trans q67).trans q68).trans q69).trans q70).trans q71) (fun l73 => ?_)
  refine x_putI (np := 8) (x := 386) (f := 2) (by decide +kernel) (tg_7_386_2_0 ta0) l73 (Or.inl (by decide)) ?_
  have j75 := jU (e := 2) (v := (h 10 2)) 0 j60 (rg_T7_2_0_1 ta0) (by omega) (by omega) (by omega)
  have f77 := jF (e := 2) (v := (h 10 2)) 0 f63 (rg_T7_2_0_1 ta0) (by omega) (by omega) (by decide)
  generalize e76 : x_up h59 (ra0 + 7) 2 (h 10 2) = h74 at j75 f77 ⊢
  refine x_aload (np := 9) (x := 1) (by decide +kernel) rfl (x_nc_le (by decide)) ?_
  have q78 : h74 10 1 = 11 := by have z := jB (e := 1) 0 j75 rg_10_1_0_1 (by decide) (by decide); omega
  refine x_getR (np := 12) (x := 385) (f := 1) (q := 11) (by decide +kernel) (by decide) (by decide +kernel) q78 ?_
  refine x_const (np := 13) (x := 9223372039002259456) (a := 2147483648) (by decide +kernel) (by decide) (by decide) ?_
  refine x_aload (np := 14) (x := 0) (by decide +kernel) rfl (x_nc_le (tn_7 ta0)) ?_
  have q79 : h74 (ra0 + 7) 1 = (ra0 + 8) := tf_7_1 j75 ta0
  refine x_getR (np := 17) (x := 385) (f := 1) (q := (ra0 + 8)) (by decide +kernel) (by decide) (tg_7_385_1_1 ta0) q79 ?_
  refine x_const (np := 18) (x := 9223372039002259456) (a := 2147483648) (by decide +kernel) (by decide) (by decide) ?_
  refine x_aload (np := 19) (x := 0) (by decide +kernel) rfl (x_nc_le (tn_7 ta0)) ?_
  have q80 : h74 (ra0 + 7) 1 = (ra0 + 8) := tf_7_1 j75 ta0
  refine x_getR (np := 22) (x := 385) (f := 1) (q := (ra0 + 8)) (by decide +kernel) (by decide) (tg_7_385_1_1 ta0) q80 ?_
  refine x_alen (np := 23) (x := 0) (n := 40) (by decide +kernel) (tn_8 ta0) (tl_8 ta0).1 (tl_8 ta0).2 (by decide) ?_
  show X _ _ _ _ _ _ _ _ [iv_c 2147483688, iv_c 2147483648, x_r (ra0 + 8), iv_c 2147483648, x_r 11] _
  refine x_aload (np := 24) (x := 1) (by decide +kernel) rfl (x_nc_le (by decide)) ?_
  have q81 : h74 10 1 = 11 := by have z := jB (e := 1) 0 j75 rg_10_1_0_1 (by decide) (by decide); omega
  refine x_getR (np := 27) (x := 385) (f := 1) (q := 11) (by decide +kernel) (by decide) (by decide +kernel) q81 ?_
  refine x_alen (np := 28) (x := 0) (n := 40) (by decide +kernel) (by decide) (by decide +kernel) (by decide +kernel) (by decide) ?_
  show X _ _ _ _ _ _ _ _ [iv_c 2147483688, iv_c 2147483688, iv_c 2147483648, x_r (ra0 + 8), iv_c 2147483648, x_r 11] _
  refine x_min (np := 31) (by decide +kernel) (by decide) (by decide) (Nat.le_trans (x_wi (by decide) (x_wi (by decide) (x_wi (by decide) (x_wr (tn_8 ta0) (x_wi (by decide) (x_wr (by decide) x_wn)))))) (by decide)) ?_
  rw [show min 2147483688 2147483688 = 2147483688 by decide]
  refine x_copy (np := 34) (q := (ra0 + 8)) (r := 11) (N := 40) (nq := 40) (nr := 40) (n8 := 0) (by decide +kernel) (by decide +kernel) (ta_8_40 ta0) (by decide) (by decide) (by decide) (by decide) x_wn (by decide) ?_
  have j85 := J_cp (q := (ra0 + 8)) (r := 11) (N := 40) j75 (by decide) (ctb_T8_11_40 ta0).1 (ctb_T8_11_40 ta0).2.1 (ctb_T8_11_40 ta0).2.2
  have f86 := Fr_cp (q := (ra0 + 8)) (r := 11) (N := 40) (Fr.refl 128 h74) (fun i _ => by rw [tgr_8 ta0]; decide)
  generalize e87 : x_cp h74 (ra0 + 8) 11 40 = h84 at j85 f86 ⊢
  have f88 := Fr.trans f77 f86 (by decide)
  refine x_retV (np := 35) (x := 0) (by decide +kernel) (by decide +kernel) ⟨rfl, ?_⟩
  refine x_aload (np := 45) (x := 1) (by decide +kernel) rfl (x_nc_le (by decide)) ?_
  have q89 : h84 3 4 = 12 := by have z := jB (e := 4) 0 j85 rg_3_4_0_1 (by decide) (by decide); omega
  refine x_getR (np := 48) (x := 516) (f := 4) (q := 12) (by decide +kernel) (by decide) (by decide +kernel) q89 ?_
  refine x_const (np := 49) (x := 9223372039002259456) (a := 2147483648) (by decide +kernel) (by decide) (by decide) ?_
  refine x_aload (np := 50) (x := 0) (by decide +kernel) rfl (x_nc_le (tn_0 ta0)) ?_
  have q90 : h84 ra0 4 = (ra0 + 9) := tf_0_4 j85 ta0
  refine x_getR (np := 53) (x := 516) (f := 4) (q := (ra0 + 9)) (by decide +kernel) (by decide) (tg_0_516_4_1 ta0) q90 ?_
  refine x_const (np := 54) (x := 9223372039002259456) (a := 2147483648) (by decide +kernel) (by decide) (by decide) ?_
  refine x_const (np := 56) (x := 9223372064772063238) (a := 2147483654) (by decide +kernel) (by decide) (by decide) ?_
  refine x_copy (np := 59) (q := (ra0 + 9)) (r := 12) (N := 6) (nq := 6) (nr := 6) (n8 := 0) (by decide +kernel) (by decide +kernel) (ta_9_6 ta0) (by decide) (by decide) (by decide) (by decide) x_wn (by decide) ?_
  have j92 := J_cp (q := (ra0 + 9)) (r := 12) (N := 6) j85 (by decide) (ctb_T9_12_6 ta0).1 (ctb_T9_12_6 ta0).2.1 (ctb_T9_12_6 ta0).2.2
  have f93 := Fr_cp (q := (ra0 + 9)) (r := 12) (N := 6) (Fr.refl 128 h84) (fun i _ => by rw [tgr_9 ta0]; decide)
  generalize e94 : x_cp h84 (ra0 + 9) 12 6 = h91 at j92 f93 ⊢
  have f95 := Fr.trans f88 f93 (by decide)
  refine x_aload (np := 60) (x := 1) (by decide +kernel) rfl (x_nc_le (by decide)) ?_
  have q96 : h91 3 5 = 13 := by have z := jB (e := 5) 0 j92 rg_3_5_0_1 (by decide) (by decide); omega
  refine x_getR (np := 63) (x := 517) (f := 5) (q := 13) (by decide +kernel) (by decide) (by decide +kernel) q96 ?_
  refine x_const (np := 64) (x := 9223372039002259456) (a := 2147483648) (by decide +kernel) (by decide) (by decide) ?_
  refine x_aload (np := 65) (x := 0) (by decide +kernel) rfl (x_nc_le (tn_0 ta0)) ?_
  have q97 : h91 ra0 5 = (ra0 + 10) := tf_0_5 j92 ta0
  refine x_getR (np := 68) (x := 517) (f := 5) (q := (ra0 + 10)) (by decide +kernel) (by decide) (tg_0_517_5_1 ta0) q97 ?_
  refine x_const (np := 69) (x := 9223372039002259456) (a := 2147483648) (by decide +kernel) (by decide) (by decide) ?_
  refine x_const (np := 71) (x := 9223372064772063238) (a := 2147483654) (by decide +kernel) (by decide) (by decide) ?_
  refine x_copy (np := 74) (q := (ra0 + 10)) (r := 13) (N := 6) (nq := 6) (nr := 6) (n8 := 0) (by decide +kernel) (by decide +kernel) (ta_10_6 ta0) (by decide) (by decide) (by decide) (by decide) x_wn (by decide) ?_
  have j99 := J_cp (q := (ra0 + 10)) (r := 13) (N := 6) j92 (by decide) (ctb_T10_13_6 ta0).1 (ctb_T10_13_6 ta0).2.1 (ctb_T10_13_6 ta0).2.2
  have f100 := Fr_cp (q := (ra0 + 10)) (r := 13) (N := 6) (Fr.refl 128 h91) (fun i _ => by rw [tgr_10 ta0]; decide)
  generalize e101 : x_cp h91 (ra0 + 10) 13 6 = h98 at j99 f100 ⊢
  have f102 := Fr.trans f95 f100 (by decide)
  refine x_aload (np := 75) (x := 0) (by decide +kernel) rfl (x_nc_le (tn_0 ta0)) ?_
  have q103 : h98 ra0 6 = (ra0 + 11) := tf_0_6 j99 ta0
  refine x_getR (np := 78) (x := 518) (f := 6) (q := (ra0 + 11)) (by decide +kernel) (by decide) (tg_0_518_6_1 ta0) q103 ?_
  refine x_aload (np := 79) (x := 1) (by decide +kernel) rfl (x_nc_le (by decide)) ?_
  have q104 : h98 3 6 = 14 := by have z := jB (e := 6) 0 j99 rg_3_6_0_1 (by decide) (by decide); omega
  refine x_getR (np := 82) (x := 518) (f := 6) (q := 14) (by decide +kernel) (by decide) (by decide +kernel) q104 ?_
  refine x_nV (t := 6) (mj := 37) (n := 2) (rc := 3) (ml := 2) (nr := 0) (np := 85) (as := [x_r (ra0 + 11), x_r 14]) (rest := []) (lo1 := [x_r (ra0 + 11), x_r 14]) (by decide +kernel) (by decide) (by decide +kernel) (x_rb_of (tr_11_3 ta0)) rfl rfl (x_wr (tn_11 ta0) (x_wr (by decide) x_wn)) x_wn (by decide) rfl ?_
  refine x_aload (np := 1) (x := 0) (by decide +kernel) rfl (x_nc_le (tn_11 ta0)) ?_
  refine x_aload (np := 2) (x := 1) (by decide +kernel) rfl (x_nc_le (by decide)) ?_
  have q105 : h98 14 2 = h91 14 2 := jK 0 f100 rg_14_2_0_1 (by omega) (by omega) (by decide)
  have q106 : h91 14 2 = h84 14 2 := jK 0 f93 rg_14_2_0_1 (by omega) (by omega) (by decide)
  have q107 : h84 14 2 = h74 14 2 := jK 0 f86 rg_14_2_0_1 (by omega) (by omega) (by decide)
  have q108 : h74 14 2 = h59 14 2 := by rw [← e76]; exact x_up_k (Ne.symm (tne_7_14 ta0))
  have q109 : h59 14 2 = h49 14 2 := jK 0 f61 rg_14_2_0_1 (by omega) (by omega) (by decide)
  have q110 : h49 14 2 = h36 14 2 := by rw [← e51]; exact x_up_k (Ne.symm (tne_5_14 ta0))
  have q111 : h36 14 2 = h26 14 2 := jK 0 f38 rg_14_2_0_1 (by omega) (by omega) (by decide)
  have q112 : h26 14 2 = h15 14 2 := by rw [← e28]; exact x_up_k (Ne.symm (tne_3_14 ta0))
  have q113 : h15 14 2 = h5 14 2 := jK 0 f17 rg_14_2_0_1 (by omega) (by omega) (by decide)
  have q114 : h5 14 2 = h 14 2 := by rw [← e7]; exact x_up_k (Ne.symm (tne_1_14 ta0))
  have b115 := jB (e := 2) 0 hJ rg_14_2_0_1 (by omega) (by omega)
  refine x_getC (np := 5) (x := 130) (f := 2) (q := (h 14 2)) (by decide +kernel) (by decide) (by decide +kernel) (((((((((q105.trans q106).trans q107).trans q108).trans q109).trans q110).trans q111).trans q112).trans q113).trans q114) (fun l116 => ?_)
  refine x_putI (np := 8) (x := 130) (f := 2) (by decide +kernel) (tg_11_130_2_0 ta0) l116 (Or.inl (by decide)) ?_
  have j118 := jU (e := 2) (v := (h 14 2)) 0 j99 (rg_T11_2_0_1 ta0) (by omega) (by omega) (by omega)
  have f120 := jF (e := 2) (v := (h 14 2)) 0 f102 (rg_T11_2_0_1 ta0) (by omega) (by omega) (by decide)
  generalize e119 : x_up h98 (ra0 + 11) 2 (h 14 2) = h117 at j118 f120 ⊢
  refine x_aload (np := 9) (x := 0) (by decide +kernel) rfl (x_nc_le (tn_11 ta0)) ?_
  refine x_aload (np := 10) (x := 1) (by decide +kernel) rfl (x_nc_le (by decide)) ?_
  have q121 : h117 14 3 = h98 14 3 := by rw [← e119]; exact x_up_k (Ne.symm (tne_11_14 ta0))
  have q122 : h98 14 3 = h91 14 3 := jK 0 f100 rg_14_3_0_1 (by omega) (by omega) (by decide)
  have q123 : h91 14 3 = h84 14 3 := jK 0 f93 rg_14_3_0_1 (by omega) (by omega) (by decide)
  have q124 : h84 14 3 = h74 14 3 := jK 0 f86 rg_14_3_0_1 (by omega) (by omega) (by decide)
  have q125 : h74 14 3 = h59 14 3 := by rw [← e76]; exact x_up_k (Ne.symm (tne_7_14 ta0))
  have q126 : h59 14 3 = h49 14 3 := jK 0 f61 rg_14_3_0_1 (by omega) (by omega) (by decide)
  have q127 : h49 14 3 = h36 14 3 := by rw [← e51]; exact x_up_k (Ne.symm (tne_5_14 ta0))
  have q128 : h36 14 3 = h26 14 3 := jK 0 f38 rg_14_3_0_1 (by omega) (by omega) (by decide)
  have q129 : h26 14 3 = h15 14 3 := by rw [← e28]; exact x_up_k (Ne.symm (tne_3_14 ta0))
  have q130 : h15 14 3 = h5 14 3 := jK 0 f17 rg_14_3_0_1 (by omega) (by omega) (by decide)
  have q131 : h5 14 3 = h 14 3 := by rw [← e7]; exact x_up_k (Ne.symm (tne_1_14 ta0))
  refine x_getC (np := 13) (x := 131) (f := 3) (q := (h 14 3)) (by decide +kernel) (by decide) (by decide +kernel) ((((((((((q121.trans q122).trans q123).trans q124).trans q125).trans q126).trans q127).trans q128).trans q129).trans q130).trans q131) (fun l132 => ?_)
  refine x_putI (np := 16) (x := 131) (f := 3) (by decide +kernel) (tg_11_131_3_0 ta0) l132 (Or.inl (by decide)) ?_
  have j134 := jU (e := 3) (v := (h 14 3)) 0 j118 (rg_T11_3_0_1 ta0) (by omega) (by omega) (by omega)
  have f136 := jF (e := 3) (v := (h 14 3)) 0 f120 (rg_T11_3_0_1 ta0) (by omega) (by omega) (by decide)
  generalize e135 : x_up h117 (ra0 + 11) 3 (h 14 3) = h133 at j134 f136 ⊢
  refine x_aload (np := 17) (x := 1) (by decide +kernel) rfl (x_nc_le (by decide)) ?_
  have q137 : h133 14 0 = 15 := by have z := jB (e := 0) 0 j134 rg_14_0_0_1 (by decide) (by decide); omega
  refine x_getR (np := 20) (x := 128) (f := 0) (q := 15) (by decide +kernel) (by decide) (by decide +kernel) q137 ?_
  refine x_const (np := 21) (x := 9223372039002259456) (a := 2147483648) (by decide +kernel) (by decide) (by decide) ?_
  refine x_aload (np := 22) (x := 0) (by decide +kernel) rfl (x_nc_le (tn_11 ta0)) ?_
  have q138 : h133 (ra0 + 11) 0 = (ra0 + 12) := tf_11_0 j134 ta0
  refine x_getR (np := 25) (x := 128) (f := 0) (q := (ra0 + 12)) (by decide +kernel) (by decide) (tg_11_128_0_1 ta0) q138 ?_
  refine x_const (np := 26) (x := 9223372039002259456) (a := 2147483648) (by decide +kernel) (by decide) (by decide) ?_
  refine x_const (np := 29) (x := 9223373756989178256) (a := 2147484048) (by decide +kernel) (by decide) (by decide) ?_
  refine x_copy (np := 32) (q := (ra0 + 12)) (r := 15) (N := 400) (nq := 400) (nr := 400) (n8 := 0) (by decide +kernel) (by decide +kernel) (ta_12_400 ta0) (by decide) (by decide) (by decide) (by decide) x_wn (by decide) ?_
  have j140 := J_cp (q := (ra0 + 12)) (r := 15) (N := 400) j134 (by decide) (ctb_T12_15_400 ta0).1 (ctb_T12_15_400 ta0).2.1 (ctb_T12_15_400 ta0).2.2
  have f141 := Fr_cp (q := (ra0 + 12)) (r := 15) (N := 400) (Fr.refl 128 h133) (fun i _ => by rw [tgr_12 ta0]; decide)
  generalize e142 : x_cp h133 (ra0 + 12) 15 400 = h139 at j140 f141 ⊢
  have f143 := Fr.trans f136 f141 (by decide)
  refine x_retV (np := 33) (x := 0) (by decide +kernel) (by decide +kernel) ⟨rfl, ?_⟩
  refine x_aload (np := 86) (x := 0) (by decide +kernel) rfl (x_nc_le (tn_0 ta0)) ?_
  refine x_aload (np := 87) (x := 1) (by decide +kernel) rfl (x_nc_le (by decide)) ?_
  have q144 : h139 3 7 = h133 3 7 := jK 0 f141 rg_3_7_0_1 (by omega) (by omega) (by decide)
  have q145 : h133 3 7 = h117 3 7 := by rw [← e135]; exact x_up_k (Ne.symm (tne_11_3 ta0))
  have q146 : h117 3 7 = h98 3 7 := by rw [← e119]; exact x_up_k (Ne.symm (tne_11_3 ta0))
  have q147 : h98 3 7 = h91 3 7 := jK 0 f100 rg_3_7_0_1 (by omega) (by omega) (by decide)
  have q148 : h91 3 7 = h84 3 7 := jK 0 f93 rg_3_7_0_1 (by omega) (by omega) (by decide)
  have q149 : h84 3 7 = h74 3 7 := jK 0 f86 rg_3_7_0_1 (by omega) (by omega) (by decide)
  have q150 : h74 3 7 = h59 3 7 := by rw [← e76]; exact x_up_k (Ne.symm (tne_7_3 ta0))
  have q151 : h59 3 7 = h49 3 7 := jK 0 f61 rg_3_7_0_1 (by omega) (by omega) (by decide)
  have q152 : h49 3 7 = h36 3 7 := by rw [← e51]; exact x_up_k (Ne.symm (tne_5_3 ta0))
  have q153 : h36 3 7 = h26 3 7 := jK 0 f38 rg_3_7_0_1 (by omega) (by omega) (by decide)
  have q154 : h26 3 7 = h15 3 7 := by rw [← e28]; exact x_up_k (Ne.symm (tne_3_3 ta0))
  have q155 : h15 3 7 = h5 3 7 := jK 0 f17 rg_3_7_0_1 (by omega) (by omega) (by decide)
  have q156 : h5 3 7 = h 3 7 := by rw [← e7]; exact x_up_k (Ne.symm (tne_1_3 ta0))
  have b157 := jB (e := 7) 0 hJ rg_3_7_0_1 (by omega) (by omega)
  refine x_getC (np := 90) (x := 519) (f := 7) (q := (h 3 7)) (by decide +kernel) (by decide) (by decide +kernel) ((((((((((((q144.trans q145).trans q146).trans q147).trans q148).trans q149).trans q150).trans q151).trans q152).trans q153).trans q154).trans q155).trans q156) (fun l158 => ?_)
  refine x_putI (np := 93) (x := 519) (f := 7) (by decide +kernel) (tg_0_519_7_0 ta0) l158 (Or.inl (by decide)) ?_
  have j160 := jU (e := 7) (v := (h 3 7)) 0 j140 (rg_T0_7_0_1 ta0) (by omega) (by omega) (by omega)
  have f162 := jF (e := 7) (v := (h 3 7)) 0 f143 (rg_T0_7_0_1 ta0) (by omega) (by omega) (by decide)
  generalize e161 : x_up h139 ra0 7 (h 3 7) = h159 at j160 f162 ⊢
  refine x_aload (np := 94) (x := 0) (by decide +kernel) rfl (x_nc_le (tn_0 ta0)) ?_
  refine x_aload (np := 95) (x := 1) (by decide +kernel) rfl (x_nc_le (by decide)) ?_
  have q163 : h159 3 8 = h139 3 8 := by rw [← e161]; exact x_up_k (Ne.symm (tne_0_3 ta0))
  have q164 : h139 3 8 = h133 3 8 := jK 0 f141 rg_3_8_0_1 (by omega) (by omega) (by decide)
  have q165 : h133 3 8 = h117 3 8 := by rw [← e135]; exact x_up_k (Ne.symm (tne_11_3 ta0))
  have q166 : h117 3 8 = h98 3 8 := by rw [← e119]; exact x_up_k (Ne.symm (tne_11_3 ta0))
  have q167 : h98 3 8 = h91 3 8 := jK 0 f100 rg_3_8_0_1 (by omega) (by omega) (by decide)
  have q168 : h91 3 8 = h84 3 8 := jK 0 f93 rg_3_8_0_1 (by omega) (by omega) (by decide)
  have q169 : h84 3 8 = h74 3 8 := jK 0 f86 rg_3_8_0_1 (by omega) (by omega) (by decide)
  have q170 : h74 3 8 = h59 3 8 := by rw [← e76]; exact x_up_k (Ne.symm (tne_7_3 ta0))
  have q171 : h59 3 8 = h49 3 8 := jK 0 f61 rg_3_8_0_1 (by omega) (by omega) (by decide)
  have q172 : h49 3 8 = h36 3 8 := by rw [← e51]; exact x_up_k (Ne.symm (tne_5_3 ta0))
  have q173 : h36 3 8 = h26 3 8 := jK 0 f38 rg_3_8_0_1 (by omega) (by omega) (by decide)
  have q174 : h26 3 8 = h15 3 8 := by rw [← e28]; exact x_up_k (Ne.symm (tne_3_3 ta0))
  have q175 : h15 3 8 = h5 3 8 := jK 0 f17 rg_3_8_0_1 (by omega) (by omega) (by decide)
  have q176 : h5 3 8 = h 3 8 := by rw [← e7]; exact x_up_k (Ne.symm (tne_1_3 ta0))
  refine x_getC (np := 98) (x := 520) (f := 8) (q := (h 3 8)) (by decide +kernel) (by decide) (by decide +kernel) (((((((((((((q163.trans q164).trans q165).trans q166).trans q167).trans q168).trans q169).trans q170).trans q171).trans q172).trans q173).trans q174).trans q175).trans q176) (fun l177 => ?_)
  refine x_putI (np := 101) (x := 520) (f := 8) (by decide +kernel) (tg_0_520_8_0 ta0) l177 (Or.inl (by decide)) ?_
  have j179 := jU (e := 8) (v := (h 3 8)) 0 j160 (rg_T0_8_0_1 ta0) (by omega) (by omega) (by omega)
  have f181 := jF (e := 8) (v := (h 3 8)) 0 f162 (rg_T0_8_0_1 ta0) (by omega) (by omega) (by decide)
  generalize e180 : x_up h159 ra0 8 (h 3 8) = h178 at j179 f181 ⊢
  refine x_aload (np := 102) (x := 0) (by decide +kernel) rfl (x_nc_le (tn_0 ta0)) ?_
  refine x_aload (np := 103) (x := 1) (by decide +kernel) rfl (x_nc_le (by decide)) ?_
  have q182 : h178 3 9 = h159 3 9 := by rw [← e180]; exact x_up_k (Ne.symm (tne_0_3 ta0))
  have q183 : h159 3 9 = h139 3 9 := by rw [← e161]; exact x_up_k (Ne.symm (tne_0_3 ta0))
  have q184 : h139 3 9 = h133 3 9 := jK 0 f141 rg_3_9_0_1 (by omega) (by omega) (by decide)
  have q185 : h133 3 9 = h117 3 9 := by rw [← e135]; exact x_up_k (Ne.symm (tne_11_3 ta0))
  have q186 : h117 3 9 = h98 3 9 := by rw [← e119]; exact x_up_k (Ne.symm (tne_11_3 ta0))
  have q187 : h98 3 9 = h91 3 9 := jK 0 f100 rg_3_9_0_1 (by omega) (by omega) (by decide)
  have q188 : h91 3 9 = h84 3 9 := jK 0 f93 rg_3_9_0_1 (by omega) (by omega) (by decide)
  have q189 : h84 3 9 = h74 3 9 := jK 0 f86 rg_3_9_0_1 (by omega) (by omega) (by decide)
  have q190 : h74 3 9 = h59 3 9 := by rw [← e76]; exact x_up_k (Ne.symm (tne_7_3 ta0))
  have q191 : h59 3 9 = h49 3 9 := jK 0 f61 rg_3_9_0_1 (by omega) (by omega) (by decide)
  have q192 : h49 3 9 = h36 3 9 := by rw [← e51]; exact x_up_k (Ne.symm (tne_5_3 ta0))
  have q193 : h36 3 9 = h26 3 9 := jK 0 f38 rg_3_9_0_1 (by omega) (by omega) (by decide)
  have q194 : h26 3 9 = h15 3 9 := by rw [← e28]; exact x_up_k (Ne.symm (tne_3_3 ta0))
  have q195 : h15 3 9 = h5 3 9 := jK 0 f17 rg_3_9_0_1 (by omega) (by omega) (by decide)
  have q196 : h5 3 9 = h 3 9 := by rw [← e7]; exact x_up_k (Ne.symm (tne_1_3 ta0))
  refine x_getC (np := 106) (x := 521) (f := 9) (q := (h 3 9)) (by decide +kernel) (by decide) (by decide +kernel) ((((((((((((((q182.trans q183).trans q184).trans q185).trans q186).trans q187).trans q188).trans q189).trans q190).trans q191).trans q192).trans q193).trans q194).trans q195).trans q196) (fun l197 => ?_)
  refine x_putI (np := 109) (x := 521) (f := 9) (by decide +kernel) (tg_0_521_9_0 ta0) l197 (Or.inl (by decide)) ?_
  have j199 := jU (e := 9) (v := (h 3 9)) 0 j179 (rg_T0_9_0_1 ta0) (by omega) (by omega) (by omega)
  have f201 := jF (e := 9) (v := (h 3 9)) 0 f181 (rg_T0_9_0_1 ta0) (by omega) (by omega) (by decide)
  generalize e200 : x_up h178 ra0 9 (h 3 9) = h198 at j199 f201 ⊢
  refine x_retV (np := 110) (x := 0) (by decide +kernel) (by decide +kernel) ⟨rfl, ?_⟩
  exact ⟨j199, f201⟩
set_option maxHeartbeats 0 in
/-- LentNames.back()Z -/
theorem c139_0 {sc : Nat × Nat} {d  : Nat} {h : xh} (hJ : J h) : X sc 139 (d + 7) (xI fun r h' => J h' ∧ Fr 140737488461441 h h' ∧ (2147483648 ≤ r ∧ r ≤ 2147483649)) 0 0 0 [x_r 0] [] h := by
  have hF := Fr.refl 140737488461441 h
  refine x_aload (np := 1) (x := 0) (by decide +kernel) rfl (x_nc_le (by decide)) ?_
  have b1 := jB (e := 10) 0 hJ rg_0_10_0_1 (by omega) (by omega)
  refine x_getC (np := 4) (x := 650) (f := 10) (q := (h 0 10)) (by decide +kernel) (by decide) (by decide +kernel) rfl (fun l2 => ?_)
  refine x_ifz (k := 1) (tg := 9) (np := 7) (by decide +kernel) (by decide) l2 (fun q3 => ?_) (fun q4 => ?_)
  · have q3 : (h 0 10) ≠ 2147483648 := q3
    refine x_aload (np := 10) (x := 0) (by decide +kernel) rfl (x_nc_le (by decide)) ?_
    have t5 : tw (h 0 8) := hJ.2.1
    refine x_getR (np := 13) (x := 648) (f := 8) (q := (h 0 8)) (by decide +kernel) (by decide) (by decide +kernel) rfl ?_
    refine x_aload (np := 14) (x := 0) (by decide +kernel) rfl (x_nc_le (by decide)) ?_
    have q6 : h 0 7 = 3 := by have z := jB (e := 7) 0 hJ rg_0_7_0_1 (by decide) (by decide); omega
    refine x_getR (np := 17) (x := 647) (f := 7) (q := 3) (by decide +kernel) (by decide) (by decide +kernel) q6 ?_
    refine x_cV (t := 6) (mj := 84) (n := 2) (rc := 9) (ml := 2) (nr := 0) (np := 20) (as := [x_r (h 0 8), x_r 3]) (rest := []) (lo1 := [x_r (h 0 8), x_r 3]) (by decide +kernel) (by decide) (by decide +kernel) (x_rb_of (tr_0_9 t5)) rfl rfl (x_wr (tn_0 t5) (x_wr (by decide) x_wn)) x_wn (by decide) rfl (c84_T0_3 hJ t5 ) (fun h10 q9 => ?_)
    obtain ⟨j11, f12⟩ := q9
    have f15 := Fr.trans hF f12 (by decide)
    refine x_aload (np := 21) (x := 0) (by decide +kernel) rfl (x_nc_le (by decide)) ?_
    refine x_nV (t := 6) (mj := 143) (n := 1) (rc := 11) (ml := 1) (nr := 0) (np := 24) (as := [x_r 0]) (rest := []) (lo1 := [x_r 0]) (by decide +kernel) (by decide) (by decide +kernel) (x_rb_of (by decide +kernel)) rfl rfl (x_wr (by decide) x_wn) x_wn (by decide) rfl ?_
    refine x_aload (np := 1) (x := 0) (by decide +kernel) rfl (x_nc_le (by decide)) ?_
    have q16 : h10 0 1 = 45 := by have z := jB (e := 1) 0 j11 rg_0_1_0_1 (by decide) (by decide); omega
    refine x_getR (np := 4) (x := 641) (f := 1) (q := 45) (by decide +kernel) (by decide) (by decide +kernel) q16 ?_
    refine x_aload (np := 5) (x := 0) (by decide +kernel) rfl (x_nc_le (by decide)) ?_
    have q17 : h10 0 8 = h 0 8 := f12 0 8 (by decide +kernel)
    refine x_getR (np := 8) (x := 648) (f := 8) (q := (h 0 8)) (by decide +kernel) (by decide) (by decide +kernel) q17 ?_
    refine x_cV (t := 6) (mj := 4) (n := 2) (rc := 2) (ml := 3) (nr := 0) (np := 11) (as := [x_r 45, x_r (h 0 8)]) (rest := []) (lo1 := [x_r 45, x_r (h 0 8), 147573952589676412928]) (by decide +kernel) (by decide) (by decide +kernel) (x_rb_of (by decide +kernel)) rfl rfl (x_wr (by decide) (x_wr (tn_0 t5) x_wn)) x_wn (by decide) rfl (c4_45_T0 j11  t5) (fun h21 q20 => ?_)
    obtain ⟨j22, f23⟩ := q20
    have f26 := Fr.trans f15 f23 (by decide)
    refine x_aload (np := 12) (x := 0) (by decide +kernel) rfl (x_nc_le (by decide)) ?_
    have q27 : h21 0 5 = 63 := by have z := jB (e := 5) 0 j22 rg_0_5_0_1 (by decide) (by decide); omega
    refine x_getR (np := 15) (x := 645) (f := 5) (q := 63) (by decide +kernel) (by decide) (by decide +kernel) q27 ?_
    refine x_nV (t := 8) (mj := 270) (n := 1) (rc := 5) (ml := 1) (nr := 0) (np := 18) (as := [x_r 63]) (rest := []) (lo1 := [x_r 63]) (by decide +kernel) (by decide) (by decide +kernel) (x_rb_of (by decide +kernel)) rfl rfl (x_wr (by decide) x_wn) x_wn (by decide) rfl ?_
    refine x_aload (np := 1) (x := 0) (by decide +kernel) rfl (x_nc_le (by decide)) ?_
    refine x_const (np := 2) (x := 9223372039002259456) (a := 2147483648) (by decide +kernel) (by decide) (by decide) ?_
    refine x_putI (np := 5) (x := 4878) (f := 14) (by decide +kernel) (by decide +kernel) (by decide) (Or.inr ⟨by decide, by omega, by omega⟩) ?_
    have j29 := jU (e := 14) (v := 2147483648) 0 j22 rg_63_14_0_1 (by omega) (by omega) (by omega)
    have f31 := jF (e := 14) (v := 2147483648) 0 f26 rg_63_14_0_1 (by omega) (by omega) (by decide)
    generalize e30 : x_up h21 63 14 2147483648 = h28 at j29 f31 ⊢
    refine x_retV (np := 6) (x := 0) (by decide +kernel) (by decide +kernel) ⟨rfl, ?_⟩
    refine x_aload (np := 19) (x := 0) (by decide +kernel) rfl (x_nc_le (by decide)) ?_
    have q32 : h28 0 6 = 69 := by have z := jB (e := 6) 0 j29 rg_0_6_0_1 (by decide) (by decide); omega
    refine x_getR (np := 22) (x := 646) (f := 6) (q := 69) (by decide +kernel) (by decide) (by decide +kernel) q32 ?_
    refine x_nV (t := 8) (mj := 270) (n := 1) (rc := 6) (ml := 1) (nr := 0) (np := 25) (as := [x_r 69]) (rest := []) (lo1 := [x_r 69]) (by decide +kernel) (by decide) (by decide +kernel) (x_rb_of (by decide +kernel)) rfl rfl (x_wr (by decide) x_wn) x_wn (by decide) rfl ?_
    refine x_aload (np := 1) (x := 0) (by decide +kernel) rfl (x_nc_le (by decide)) ?_
    refine x_const (np := 2) (x := 9223372039002259456) (a := 2147483648) (by decide +kernel) (by decide) (by decide) ?_
    refine x_putI (np := 5) (x := 4878) (f := 14) (by decide +kernel) (by decide +kernel) (by decide) (Or.inr ⟨by decide, by omega, by omega⟩) ?_
    have j34 := jU (e := 14) (v := 2147483648) 0 j29 rg_69_14_0_1 (by omega) (by omega) (by omega)
    have f36 := jF (e := 14) (v := 2147483648) 0 f31 rg_69_14_0_1 (by omega) (by omega) (by decide)
    generalize e35 : x_up h28 69 14 2147483648 = h33 at j34 f36 ⊢
    refine x_retV (np := 6) (x := 0) (by decide +kernel) (by decide +kernel) ⟨rfl, ?_⟩
    refine x_retV (np := 26) (x := 0) (by decide +kernel) (by decide +kernel) ⟨rfl, ?_⟩
    refine x_const (np := 25) (x := 9223372043297226753) (a := 2147483649) (by decide +kernel) (by decide) (by decide) ?_
    refine x_retI (np := 26) (x := 0) (by decide +kernel) (by decide) (Or.inr ⟨by decide +kernel, by omega, by omega⟩) ⟨_, rfl, (by decide), ?_⟩
    exact ⟨j34, f36, (by omega)⟩
  have q4 : ¬ ((h 0 10) ≠ 2147483648) := q4
  refine x_const (np := 8) (x := 9223372039002259456) (a := 2147483648) (by decide +kernel) (by decide) (by decide) ?_
  refine x_retI (np := 9) (x := 0) (by decide +kernel) (by decide) (Or.inr ⟨by decide +kernel, by omega, by omega⟩) ⟨_, rfl, (by decide), ?_⟩
  exact ⟨hJ, hF, (by omega)⟩
set_option maxHeartbeats 0 in
/-- LentNames$Calendar.refused()I -/
theorem c14_45 {sc : Nat × Nat} {d  : Nat} {h : xh} (hJ : J h) : X sc 14 d (xI fun r h' => h' = h ∧ (0 ≤ r ∧ r ≤ 4294967295)) 0 0 0 [x_r 45, 147573952589676412928, 147573952589676412928] [] h := by
  refine x_const (np := 1) (x := 9223372039002259456) (a := 2147483648) (by decide +kernel) (by decide) (by decide) ?_
  refine x_istore (np := 2) (x := 1) (lo' := [x_r 45, iv_c 2147483648, 147573952589676412928]) (by decide +kernel) (by decide) (Nat.le_of_ble_eq_true rfl) rfl ?_
  refine x_const (np := 3) (x := 9223372039002259456) (a := 2147483648) (by decide +kernel) (by decide) (by decide) ?_
  refine x_istore (np := 4) (x := 2) (lo' := [x_r 45, iv_c 2147483648, iv_c 2147483648]) (by decide +kernel) (by decide) (Nat.le_of_ble_eq_true rfl) rfl ?_
  have p505 : ∀ (n : Nat) (v501 : Nat) (v503 : Nat), 4294967296 - v503 < n → (0 ≤ v501 ∧ v501 ≤ 4294967295) → (2147483648 ≤ v503 ∧ v503 ≤ 2147483668) → X sc 14 d (xI fun r h' => h' = h ∧ (0 ≤ r ∧ r ≤ 4294967295)) 0 0 4 [x_r 45, iv_c v501, iv_c v503] [] h := by
    intro n
    induction n with
    | zero => intro v501 v503 q506; exact absurd q506 (Nat.not_lt_zero _)
    | succ n i507 =>
      intro v501 v503 q506 b502 b504
      refine x_iload (np := 5) (x := 2) (by decide +kernel) rfl (by omega) ?_
      refine x_aload (np := 6) (x := 0) (by decide +kernel) rfl (x_nc_le (by decide)) ?_
      have t508 : tw (h 45 5) := hJ.2.2.2.1
      refine x_getR (np := 9) (x := 69) (f := 5) (q := (h 45 5)) (by decide +kernel) (by decide) (by decide +kernel) rfl ?_
      have q509 : h (h 45 5) 0 = ((h 45 5) + 1) := tf_0_0 hJ t508
      refine x_getR (np := 12) (x := 512) (f := 0) (q := ((h 45 5) + 1)) (by decide +kernel) (by decide) (tg_0_512_0_1 t508) q509 ?_
      have b510 := jB (e := 2) 0 hJ (rg_T1_2_0_1 t508) (by omega) (by omega)
      refine x_getC (np := 15) (x := 386) (f := 2) (q := (h ((h 45 5) + 1) 2)) (by decide +kernel) (by decide) (tg_1_386_2_0 t508) rfl (fun l511 => ?_)
      refine x_icmp (k := 3) (tg := 37) (np := 18) (by decide +kernel) (by decide) (by omega) l511 (fun q512 => ?_) (fun q513 => ?_)
      · have q512 : (h ((h 45 5) + 1) 2) ≤ v503 := q512
        refine x_iload (np := 38) (x := 1) (by decide +kernel) rfl (by omega) ?_
        refine x_retI (np := 39) (x := 0) (by decide +kernel) (by omega) (Or.inl (by decide +kernel)) ⟨_, rfl, (by omega), ?_⟩
        exact ⟨rfl, (by omega)⟩
      have q513 : ¬ ((h ((h 45 5) + 1) 2) ≤ v503) := q513
      refine x_aload (np := 19) (x := 0) (by decide +kernel) rfl (x_nc_le (by decide)) ?_
      have q514 : h 45 2 = 48 := by have z := jB (e := 2) 0 hJ rg_45_2_0_1 (by decide) (by decide); omega
      refine x_getR (np := 22) (x := 66) (f := 2) (q := 48) (by decide +kernel) (by decide) (by decide +kernel) q514 ?_
      refine x_iload (np := 23) (x := 2) (by decide +kernel) rfl (by omega) ?_
      obtain ⟨u515, q516⟩ : ∃ z, v503 = 2147483648 + z := ⟨v503 - 2147483648, by omega⟩
      refine x_aldC (np := 24) (x := 0) (n := 20) (i := u515) (q := (h 48 u515)) (by decide +kernel) (by decide +kernel) (by omega) (by omega) (by decide) rfl (fun l517 => ?_)
      refine x_const (np := 25) (x := 9223372034707292159) (a := 2147483647) (by decide +kernel) (by decide) (by decide) ?_
      refine x_icmp (k := 1) (tg := 31) (np := 28) (by decide +kernel) (by decide) l517 (by decide) (fun q518 => ?_) (fun q519 => ?_)
      · have q518 : (h 48 u515) ≠ 2147483647 := q518
        refine x_iinc (np := 34) (i := 2) (j := 2147483649) (v := (1 + v503)) (lo' := [x_r 45, iv_c v501, iv_c (1 + v503)]) (by decide +kernel) (by decide) (by decide) rfl (by omega) (by omega) (by omega) rfl ?_
        refine x_goto (np := 37) (x := 4) (by decide +kernel) ?_
        exact i507 v501 (1 + v503) (by omega) (by omega) (by omega)
      have q519 : ¬ ((h 48 u515) ≠ 2147483647) := q519
      refine x_incA (i := 1) (n := 1) (by rw [tb_b14]; decide +kernel) rfl (by omega) (fun v520 l521 => ?_)
      show X _ _ _ _ _ _ _ [x_r 45, iv_c v520, iv_c v503] _ _
      refine x_iinc (np := 34) (i := 2) (j := 2147483649) (v := (1 + v503)) (lo' := [x_r 45, iv_c v520, iv_c (1 + v503)]) (by decide +kernel) (by decide) (by decide) rfl (by omega) (by omega) (by omega) rfl ?_
      refine x_goto (np := 37) (x := 4) (by decide +kernel) ?_
      exact i507 v520 (1 + v503) (by omega) (by omega) (by omega)
  exact p505 _ 2147483648 2147483648 (Nat.lt_succ_self _) (by omega) (by omega)
set_option maxHeartbeats 0 in
/-- LentNames$Town.dying()I -/
theorem c88_T0 {sc : Nat × Nat} {d ra0 : Nat} {h : xh} (hJ : J h) (ta0 : tw ra0) : X sc 88 d (xI fun r h' => h' = h ∧ (0 ≤ r ∧ r ≤ 4294967295)) 0 0 0 [x_r ra0, 147573952589676412928, 147573952589676412928] [] h := by
  refine x_const (np := 1) (x := 9223372039002259456) (a := 2147483648) (by decide +kernel) (by decide) (by decide) ?_
  refine x_istore (np := 2) (x := 1) (lo' := [x_r ra0, iv_c 2147483648, 147573952589676412928]) (by decide +kernel) (by decide) (Nat.le_of_ble_eq_true rfl) rfl ?_
  refine x_const (np := 3) (x := 9223372039002259456) (a := 2147483648) (by decide +kernel) (by decide) (by decide) ?_
  refine x_istore (np := 4) (x := 2) (lo' := [x_r ra0, iv_c 2147483648, iv_c 2147483648]) (by decide +kernel) (by decide) (Nat.le_of_ble_eq_true rfl) rfl ?_
  have p443 : ∀ (n : Nat) (v439 : Nat) (v441 : Nat), 4294967296 - v441 < n → (0 ≤ v439 ∧ v439 ≤ 4294967295) → (2147483648 ≤ v441 ∧ v441 ≤ 2147483654) → X sc 88 d (xI fun r h' => h' = h ∧ (0 ≤ r ∧ r ≤ 4294967295)) 0 0 4 [x_r ra0, iv_c v439, iv_c v441] [] h := by
    intro n
    induction n with
    | zero => intro v439 v441 q444; exact absurd q444 (Nat.not_lt_zero _)
    | succ n i445 =>
      intro v439 v441 q444 b440 b442
      refine x_iload (np := 5) (x := 2) (by decide +kernel) rfl (by omega) ?_
      refine x_aload (np := 6) (x := 0) (by decide +kernel) rfl (x_nc_le (tn_0 ta0)) ?_
      have b446 := jB (e := 7) 0 hJ (rg_T0_7_0_1 ta0) (by omega) (by omega)
      refine x_getC (np := 9) (x := 519) (f := 7) (q := (h ra0 7)) (by decide +kernel) (by decide) (tg_0_519_7_0 ta0) rfl (fun l447 => ?_)
      refine x_icmp (k := 3) (tg := 32) (np := 12) (by decide +kernel) (by decide) (by omega) l447 (fun q448 => ?_) (fun q449 => ?_)
      · have q448 : (h ra0 7) ≤ v441 := q448
        refine x_iload (np := 33) (x := 1) (by decide +kernel) rfl (by omega) ?_
        refine x_retI (np := 34) (x := 0) (by decide +kernel) (by omega) (Or.inl (by decide +kernel)) ⟨_, rfl, (by omega), ?_⟩
        exact ⟨rfl, (by omega)⟩
      have q449 : ¬ ((h ra0 7) ≤ v441) := q449
      refine x_aload (np := 13) (x := 0) (by decide +kernel) rfl (x_nc_le (tn_0 ta0)) ?_
      have q450 : h ra0 4 = (ra0 + 9) := tf_0_4 hJ ta0
      refine x_getR (np := 16) (x := 516) (f := 4) (q := (ra0 + 9)) (by decide +kernel) (by decide) (tg_0_516_4_1 ta0) q450 ?_
      refine x_iload (np := 17) (x := 2) (by decide +kernel) rfl (by omega) ?_
      obtain ⟨u451, q452⟩ : ∃ z, v441 = 2147483648 + z := ⟨v441 - 2147483648, by omega⟩
      refine x_aldC (np := 18) (x := 0) (n := 6) (i := u451) (q := (h (ra0 + 9) u451)) (by decide +kernel) (ta_9_6 ta0) (by omega) (by omega) (by decide) rfl (fun l453 => ?_)
      refine x_const (np := 20) (x := 9223372090541867020) (a := 2147483660) (by decide +kernel) (by decide) (by decide) ?_
      refine x_icmp (k := 3) (tg := 26) (np := 23) (by decide +kernel) (by decide) l453 (by decide) (fun q454 => ?_) (fun q455 => ?_)
      · have q454 : 2147483660 ≤ (h (ra0 + 9) u451) := q454
        refine x_iinc (np := 29) (i := 2) (j := 2147483649) (v := (1 + v441)) (lo' := [x_r ra0, iv_c v439, iv_c (1 + v441)]) (by decide +kernel) (by decide) (by decide) rfl (by omega) (by omega) (by omega) rfl ?_
        refine x_goto (np := 32) (x := 4) (by decide +kernel) ?_
        exact i445 v439 (1 + v441) (by omega) (by omega) (by omega)
      have q455 : ¬ (2147483660 ≤ (h (ra0 + 9) u451)) := q455
      refine x_incA (i := 1) (n := 1) (by rw [tb_b88]; decide +kernel) rfl (by omega) (fun v456 l457 => ?_)
      show X _ _ _ _ _ _ _ [x_r ra0, iv_c v456, iv_c v441] _ _
      refine x_iinc (np := 29) (i := 2) (j := 2147483649) (v := (1 + v441)) (lo' := [x_r ra0, iv_c v456, iv_c (1 + v441)]) (by decide +kernel) (by decide) (by decide) rfl (by omega) (by omega) (by omega) rfl ?_
      refine x_goto (np := 32) (x := 4) (by decide +kernel) ?_
      exact i445 v456 (1 + v441) (by omega) (by omega) (by omega)
  exact p443 _ 2147483648 2147483648 (Nat.lt_succ_self _) (by omega) (by omega)
set_option maxHeartbeats 0 in
/-- LentNames$Town.wishes()I -/
theorem c89_T0 {sc : Nat × Nat} {d ra0 : Nat} {h : xh} (hJ : J h) (ta0 : tw ra0) : X sc 89 (d + 1) (xI fun r h' => h' = h ∧ (0 ≤ r ∧ r ≤ 4294967295)) 0 0 0 [x_r ra0, 147573952589676412928, 147573952589676412928] [] h := by
  refine x_const (np := 1) (x := 9223372039002259456) (a := 2147483648) (by decide +kernel) (by decide) (by decide) ?_
  refine x_istore (np := 2) (x := 1) (lo' := [x_r ra0, iv_c 2147483648, 147573952589676412928]) (by decide +kernel) (by decide) (Nat.le_of_ble_eq_true rfl) rfl ?_
  refine x_const (np := 3) (x := 9223372039002259456) (a := 2147483648) (by decide +kernel) (by decide) (by decide) ?_
  refine x_istore (np := 4) (x := 2) (lo' := [x_r ra0, iv_c 2147483648, iv_c 2147483648]) (by decide +kernel) (by decide) (Nat.le_of_ble_eq_true rfl) rfl ?_
  have p1032 : ∀ (n : Nat) (v1028 : Nat) (v1030 : Nat), 4294967296 - v1030 < n → (0 ≤ v1028 ∧ v1028 ≤ 4294967295) → (2147483648 ≤ v1030 ∧ v1030 ≤ 2147483658) → X sc 89 (d + 1) (xI fun r h' => h' = h ∧ (0 ≤ r ∧ r ≤ 4294967295)) 0 0 4 [x_r ra0, iv_c v1028, iv_c v1030] [] h := by
    intro n
    induction n with
    | zero => intro v1028 v1030 q1033; exact absurd q1033 (Nat.not_lt_zero _)
    | succ n i1034 =>
      intro v1028 v1030 q1033 b1029 b1031
      refine x_iload (np := 5) (x := 2) (by decide +kernel) rfl (by omega) ?_
      refine x_aload (np := 6) (x := 0) (by decide +kernel) rfl (x_nc_le (tn_0 ta0)) ?_
      have q1035 : h ra0 1 = (ra0 + 3) := tf_0_1 hJ ta0
      refine x_getR (np := 9) (x := 513) (f := 1) (q := (ra0 + 3)) (by decide +kernel) (by decide) (tg_0_513_1_1 ta0) q1035 ?_
      have b1036 := jB (e := 2) 0 hJ (rg_T3_2_0_1 ta0) (by omega) (by omega)
      refine x_getC (np := 12) (x := 386) (f := 2) (q := (h (ra0 + 3) 2)) (by decide +kernel) (by decide) (tg_3_386_2_0 ta0) rfl (fun l1037 => ?_)
      refine x_icmp (k := 3) (tg := 37) (np := 15) (by decide +kernel) (by decide) (by omega) l1037 (fun q1038 => ?_) (fun q1039 => ?_)
      · have q1038 : (h (ra0 + 3) 2) ≤ v1030 := q1038
        refine x_iload (np := 38) (x := 1) (by decide +kernel) rfl (by omega) ?_
        refine x_retI (np := 39) (x := 0) (by decide +kernel) (by omega) (Or.inl (by decide +kernel)) ⟨_, rfl, (by omega), ?_⟩
        exact ⟨rfl, (by omega)⟩
      have q1039 : ¬ ((h (ra0 + 3) 2) ≤ v1030) := q1039
      refine x_aload (np := 16) (x := 0) (by decide +kernel) rfl (x_nc_le (tn_0 ta0)) ?_
      have q1040 : h ra0 1 = (ra0 + 3) := tf_0_1 hJ ta0
      refine x_getR (np := 19) (x := 513) (f := 1) (q := (ra0 + 3)) (by decide +kernel) (by decide) (tg_0_513_1_1 ta0) q1040 ?_
      refine x_iload (np := 20) (x := 2) (by decide +kernel) rfl (by omega) ?_
      refine x_const (np := 21) (x := 9223372051887161347) (a := 2147483651) (by decide +kernel) (by decide) (by decide) ?_
      refine x_nI (t := 6) (mj := 68) (n := 3) (rc := 7) (ml := 4) (nr := 0) (np := 24) (as := [x_r (ra0 + 3), iv_c v1030, iv_c 2147483651]) (rest := []) (lo1 := [x_r (ra0 + 3), iv_c v1030, iv_c 2147483651, 147573952589676412928]) (by decide +kernel) (by decide) (by decide +kernel) (x_rb_of (tr_3_7 ta0)) rfl rfl (x_wr (tn_3 ta0) (x_wi (by omega) (x_wi (by decide) x_wn))) x_wn (by decide) rfl ?_
      refine x_iload (np := 1) (x := 1) (by decide +kernel) rfl (by omega) ?_
      refine x_ifz (k := 2) (tg := 28) (np := 4) (by decide +kernel) (by decide) (by omega) (fun q1041 => ?_) (fun q1042 => ?_)
      · have q1041 : v1030 < 2147483648 := q1041
        exfalso; omega
      have q1042 : ¬ (v1030 < 2147483648) := q1042
      refine x_iload (np := 5) (x := 1) (by decide +kernel) rfl (by omega) ?_
      refine x_aload (np := 6) (x := 0) (by decide +kernel) rfl (x_nc_le (tn_3 ta0)) ?_
      refine x_getC (np := 9) (x := 386) (f := 2) (q := (h (ra0 + 3) 2)) (by decide +kernel) (by decide) (tg_3_386_2_0 ta0) rfl (fun l1043 => ?_)
      refine x_icmp (k := 3) (tg := 28) (np := 12) (by decide +kernel) (by decide) (by omega) l1037 (fun q1044 => ?_) (fun q1045 => ?_)
      · have q1044 : (h (ra0 + 3) 2) ≤ v1030 := q1044
        exfalso; omega
      have q1045 : ¬ ((h (ra0 + 3) 2) ≤ v1030) := q1045
      refine x_iload (np := 13) (x := 2) (by decide +kernel) rfl (by decide) ?_
      refine x_ifz (k := 2) (tg := 28) (np := 16) (by decide +kernel) (by decide) (by decide) (fun q1046 => ?_) (fun q1047 => ?_)
      · have q1046 : 2147483651 < 2147483648 := q1046
        exfalso; omega
      have q1047 : ¬ (2147483651 < 2147483648) := q1047
      refine x_iload (np := 17) (x := 2) (by decide +kernel) rfl (by decide) ?_
      refine x_aload (np := 18) (x := 0) (by decide +kernel) rfl (x_nc_le (tn_3 ta0)) ?_
      have b1048 := jB (e := 0) 0 hJ (rg_T3_0_0_1 ta0) (by omega) (by omega)
      have q1049 : (h (ra0 + 3) 0) = 2147483652 := by omega
      refine x_getC (np := 21) (x := 384) (f := 0) (q := 2147483652) (by decide +kernel) (by decide) (tg_3_384_0_0 ta0) q1049 (fun l1050 => ?_)
      refine x_icmp (k := 3) (tg := 28) (np := 24) (by decide +kernel) (by decide) (by decide) (by decide) (fun q1051 => ?_) (fun q1052 => ?_)
      · have q1051 : 2147483652 ≤ 2147483651 := q1051
        exfalso; omega
      have q1052 : ¬ (2147483652 ≤ 2147483651) := q1052
      refine x_const (np := 25) (x := 9223372043297226753) (a := 2147483649) (by decide +kernel) (by decide) (by decide) ?_
      refine x_goto (np := 28) (x := 29) (by decide +kernel) ?_
      refine x_istore (np := 30) (x := 3) (lo' := [x_r (ra0 + 3), iv_c v1030, iv_c 2147483651, iv_c 2147483649]) (by decide +kernel) (by decide) (Nat.le_of_ble_eq_true rfl) rfl ?_
      refine x_iload (np := 31) (x := 3) (by decide +kernel) rfl (by decide) ?_
      refine x_ifz (k := 0) (tg := 50) (np := 34) (by decide +kernel) (by decide) (by decide) (fun q1053 => ?_) (fun q1054 => ?_)
      · have q1053 : 2147483649 = 2147483648 := q1053
        exfalso; omega
      have q1054 : ¬ (2147483649 = 2147483648) := q1054
      refine x_aload (np := 35) (x := 0) (by decide +kernel) rfl (x_nc_le (tn_3 ta0)) ?_
      have q1055 : h (ra0 + 3) 1 = (ra0 + 4) := tf_3_1 hJ ta0
      refine x_getR (np := 38) (x := 385) (f := 1) (q := (ra0 + 4)) (by decide +kernel) (by decide) (tg_3_385_1_1 ta0) q1055 ?_
      refine x_iload (np := 39) (x := 1) (by decide +kernel) rfl (by omega) ?_
      refine x_aload (np := 40) (x := 0) (by decide +kernel) rfl (x_nc_le (tn_3 ta0)) ?_
      refine x_getC (np := 43) (x := 384) (f := 0) (q := 2147483652) (by decide +kernel) (by decide) (tg_3_384_0_0 ta0) q1049 (fun l1056 => ?_)
      obtain ⟨u1057, q1058⟩ : ∃ z, v1030 = 2147483648 + z := ⟨v1030 - 2147483648, by omega⟩
      refine x_imul (np := 44) (x := 0) (i := u1057) (j := 4) (v := (2147483648 + 4 * u1057)) (by decide +kernel) (by omega) (by omega) (by omega) (by omega) (by omega) (by decide) ?_
      refine x_iload (np := 45) (x := 2) (by decide +kernel) rfl (by decide) ?_
      refine x_iadd (np := 46) (x := 0) (v := (2147483651 + 4 * u1057)) (by decide +kernel) (by omega) (by decide) (by omega) (by omega) ?_
      have b1060 := jB (e := (3 + 4 * u1057)) u1057 hJ (rg_T4_3_4_10 ta0) (by omega) (by omega)
      refine x_aldC (np := 47) (x := 0) (n := 40) (i := (3 + 4 * u1057)) (q := ((h (ra0 + 4) (3 + 4 * u1057)))) (by decide +kernel) (ta_4_40 ta0) (by omega) (by omega) (by decide) rfl (fun l1061 => ?_)
      refine x_goto (np := 50) (x := 51) (by decide +kernel) ?_
      refine x_retI (np := 52) (x := 0) (by decide +kernel) l1061 (Or.inl (by decide +kernel)) ⟨_, rfl, l1061, ?_⟩
      refine x_const (np := 25) (x := 9223372034707292159) (a := 2147483647) (by decide +kernel) (by decide) (by decide) ?_
      refine x_icmp (k := 0) (tg := 31) (np := 28) (by decide +kernel) (by decide) l1061 (by decide) (fun q1062 => ?_) (fun q1063 => ?_)
      · have q1062 : ((h (ra0 + 4) (3 + 4 * u1057))) = 2147483647 := q1062
        refine x_iinc (np := 34) (i := 2) (j := 2147483649) (v := (1 + v1030)) (lo' := [x_r ra0, iv_c v1028, iv_c (1 + v1030)]) (by decide +kernel) (by decide) (by decide) rfl (by omega) (by omega) (by omega) rfl ?_
        refine x_goto (np := 37) (x := 4) (by decide +kernel) ?_
        exact i1034 v1028 (1 + v1030) (by omega) (by omega) (by omega)
      have q1063 : ¬ (((h (ra0 + 4) (3 + 4 * u1057))) = 2147483647) := q1063
      refine x_incA (i := 1) (n := 1) (by rw [tb_b89]; decide +kernel) rfl (by omega) (fun v1064 l1065 => ?_)
      show X _ _ _ _ _ _ _ [x_r ra0, iv_c v1064, iv_c v1030] _ _
      refine x_iinc (np := 34) (i := 2) (j := 2147483649) (v := (1 + v1030)) (lo' := [x_r ra0, iv_c v1064, iv_c (1 + v1030)]) (by decide +kernel) (by decide) (by decide) rfl (by omega) (by omega) (by omega) rfl ?_
      refine x_goto (np := 37) (x := 4) (by decide +kernel) ?_
      exact i1034 v1064 (1 + v1030) (by omega) (by omega) (by omega)
  exact p1032 _ 2147483648 2147483648 (Nat.lt_succ_self _) (by omega) (by omega)
set_option maxHeartbeats 0 in
/-- LentNames$Town.coins()I -/
theorem c90_T0 {sc : Nat × Nat} {d ra0 : Nat} {h : xh} (hJ : J h) (ta0 : tw ra0) : X sc 90 d (xI fun r h' => h' = h ∧ (0 ≤ r ∧ r ≤ 4294967295)) 0 0 0 [x_r ra0, 147573952589676412928, 147573952589676412928] [] h := by
  refine x_const (np := 1) (x := 9223372039002259456) (a := 2147483648) (by decide +kernel) (by decide) (by decide) ?_
  refine x_istore (np := 2) (x := 1) (lo' := [x_r ra0, iv_c 2147483648, 147573952589676412928]) (by decide +kernel) (by decide) (Nat.le_of_ble_eq_true rfl) rfl ?_
  refine x_const (np := 3) (x := 9223372039002259456) (a := 2147483648) (by decide +kernel) (by decide) (by decide) ?_
  refine x_istore (np := 4) (x := 2) (lo' := [x_r ra0, iv_c 2147483648, iv_c 2147483648]) (by decide +kernel) (by decide) (Nat.le_of_ble_eq_true rfl) rfl ?_
  have p89 : ∀ (n : Nat) (v85 : Nat) (v87 : Nat), 4294967296 - v87 < n → (0 ≤ v85 ∧ v85 ≤ 4294967295) → (2147483648 ≤ v87 ∧ v87 ≤ 2147483654) → X sc 90 d (xI fun r h' => h' = h ∧ (0 ≤ r ∧ r ≤ 4294967295)) 0 0 4 [x_r ra0, iv_c v85, iv_c v87] [] h := by
    intro n
    induction n with
    | zero => intro v85 v87 q90; exact absurd q90 (Nat.not_lt_zero _)
    | succ n i91 =>
      intro v85 v87 q90 b86 b88
      refine x_iload (np := 5) (x := 2) (by decide +kernel) rfl (by omega) ?_
      refine x_aload (np := 6) (x := 0) (by decide +kernel) rfl (x_nc_le (tn_0 ta0)) ?_
      have b92 := jB (e := 7) 0 hJ (rg_T0_7_0_1 ta0) (by omega) (by omega)
      refine x_getC (np := 9) (x := 519) (f := 7) (q := (h ra0 7)) (by decide +kernel) (by decide) (tg_0_519_7_0 ta0) rfl (fun l93 => ?_)
      refine x_icmp (k := 3) (tg := 27) (np := 12) (by decide +kernel) (by decide) (by omega) l93 (fun q94 => ?_) (fun q95 => ?_)
      · have q94 : (h ra0 7) ≤ v87 := q94
        refine x_iload (np := 28) (x := 1) (by decide +kernel) rfl (by omega) ?_
        refine x_retI (np := 29) (x := 0) (by decide +kernel) (by omega) (Or.inl (by decide +kernel)) ⟨_, rfl, (by omega), ?_⟩
        exact ⟨rfl, (by omega)⟩
      have q95 : ¬ ((h ra0 7) ≤ v87) := q95
      refine x_iload (np := 13) (x := 1) (by decide +kernel) rfl (by omega) ?_
      refine x_aload (np := 14) (x := 0) (by decide +kernel) rfl (x_nc_le (tn_0 ta0)) ?_
      have q96 : h ra0 5 = (ra0 + 10) := tf_0_5 hJ ta0
      refine x_getR (np := 17) (x := 517) (f := 5) (q := (ra0 + 10)) (by decide +kernel) (by decide) (tg_0_517_5_1 ta0) q96 ?_
      refine x_iload (np := 18) (x := 2) (by decide +kernel) rfl (by omega) ?_
      obtain ⟨u97, q98⟩ : ∃ z, v87 = 2147483648 + z := ⟨v87 - 2147483648, by omega⟩
      refine x_aldC (np := 19) (x := 0) (n := 6) (i := u97) (q := (h (ra0 + 10) u97)) (by decide +kernel) (ta_10_6 ta0) (by omega) (by omega) (by decide) rfl (fun l99 => ?_)
      refine x_addA (by rw [tb_b90]; decide +kernel) (by omega) l99 (fun v100 l101 => ?_)
      refine x_istore (np := 21) (x := 1) (lo' := [x_r ra0, iv_c v100, iv_c v87]) (by decide +kernel) l101 (Nat.le_of_ble_eq_true rfl) rfl ?_
      refine x_iinc (np := 24) (i := 2) (j := 2147483649) (v := (1 + v87)) (lo' := [x_r ra0, iv_c v100, iv_c (1 + v87)]) (by decide +kernel) (by decide) (by decide) rfl (by omega) (by omega) (by omega) rfl ?_
      refine x_goto (np := 27) (x := 4) (by decide +kernel) ?_
      exact i91 v100 (1 + v87) (by omega) (by omega) (by omega)
  exact p89 _ 2147483648 2147483648 (Nat.lt_succ_self _) (by omega) (by omega)
set_option maxHeartbeats 0 in
/-- LentNames.count(I)I -/
theorem c140_0 {sc : Nat × Nat} {d a1 : Nat} {h : xh} (hJ : J h) (ba1 : 0 ≤ a1 ∧ a1 ≤ 4294967295) : X sc 140 (d + 2) (xI fun r h' => h' = h ∧ (0 ≤ r ∧ r ≤ 4294967295)) 0 0 0 [x_r 0, iv_c a1] [] h := by
  have la1 : a1 < 4294967296 := by omega
  refine x_iload (np := 1) (x := 1) (by decide +kernel) rfl la1 ?_
  rcases (show a1 < 2147483648 ∨ 2147483659 < a1 ∨ (a1 = 2147483648 ∨ a1 = 2147483649 ∨ a1 = 2147483650 ∨ a1 = 2147483651 ∨ a1 = 2147483652 ∨ a1 = 2147483653 ∨ a1 = 2147483654 ∨ a1 = 2147483655 ∨ a1 = 2147483656 ∨ a1 = 2147483657 ∨ a1 = 2147483658 ∨ a1 = 2147483659) by omega) with q1 | q1 | q1 | q1 | q1 | q1 | q1 | q1 | q1 | q1 | q1 | q1 | q1 | q1
  · refine x_tsw0 (np := 2) (x := 0) (by decide +kernel) la1 (lo9 := 2147483648) (hi9 := 2147483659) (tg := 178) (by decide +kernel) (Or.inl q1) ?_
    refine x_const (np := 179) (x := 9223372034707292159) (a := 2147483647) (by decide +kernel) (by decide) (by decide) ?_
    refine x_retI (np := 180) (x := 0) (by decide +kernel) (by decide) (Or.inl (by decide +kernel)) ⟨_, rfl, (by decide), ?_⟩
    exact ⟨rfl, (by omega)⟩
  · refine x_tsw0 (np := 2) (x := 0) (by decide +kernel) la1 (lo9 := 2147483648) (hi9 := 2147483659) (tg := 178) (by decide +kernel) (Or.inr q1) ?_
    refine x_const (np := 179) (x := 9223372034707292159) (a := 2147483647) (by decide +kernel) (by decide) (by decide) ?_
    refine x_retI (np := 180) (x := 0) (by decide +kernel) (by decide) (Or.inl (by decide +kernel)) ⟨_, rfl, (by decide), ?_⟩
    exact ⟨rfl, (by omega)⟩
  · refine x_tsw1 (np := 2) (x := 0) (by decide +kernel) la1 (i := 0) (lo9 := 2147483648) (hi9 := 2147483659) (tg := 64) (by decide +kernel) (by omega) (by omega) ?_
    refine x_aload (np := 65) (x := 0) (by decide +kernel) rfl (x_nc_le (by decide)) ?_
    have t2 : tw (h 0 8) := hJ.2.1
    refine x_getR (np := 68) (x := 648) (f := 8) (q := (h 0 8)) (by decide +kernel) (by decide) (by decide +kernel) rfl ?_
    have b3 := jB (e := 7) 0 hJ (rg_T0_7_0_1 t2) (by omega) (by omega)
    refine x_getC (np := 71) (x := 519) (f := 7) (q := (h (h 0 8) 7)) (by decide +kernel) (by decide) (tg_0_519_7_0 t2) rfl (fun l4 => ?_)
    refine x_retI (np := 72) (x := 0) (by decide +kernel) l4 (Or.inl (by decide +kernel)) ⟨_, rfl, l4, ?_⟩
    exact ⟨rfl, (by omega)⟩
  · refine x_tsw1 (np := 2) (x := 0) (by decide +kernel) la1 (i := 1) (lo9 := 2147483648) (hi9 := 2147483659) (tg := 72) (by decide +kernel) (by omega) (by omega) ?_
    refine x_aload (np := 73) (x := 0) (by decide +kernel) rfl (x_nc_le (by decide)) ?_
    have t5 : tw (h 0 8) := hJ.2.1
    refine x_getR (np := 76) (x := 648) (f := 8) (q := (h 0 8)) (by decide +kernel) (by decide) (by decide +kernel) rfl ?_
    refine x_getC (np := 79) (x := 520) (f := 8) (q := (h (h 0 8) 8)) (by decide +kernel) (by decide) (tg_0_520_8_0 t5) rfl (fun l6 => ?_)
    refine x_retI (np := 80) (x := 0) (by decide +kernel) l6 (Or.inl (by decide +kernel)) ⟨_, rfl, l6, ?_⟩
    exact ⟨rfl, (by omega)⟩
  · refine x_tsw1 (np := 2) (x := 0) (by decide +kernel) la1 (i := 2) (lo9 := 2147483648) (hi9 := 2147483659) (tg := 80) (by decide +kernel) (by omega) (by omega) ?_
    refine x_aload (np := 81) (x := 0) (by decide +kernel) rfl (x_nc_le (by decide)) ?_
    have t7 : tw (h 0 8) := hJ.2.1
    refine x_getR (np := 84) (x := 648) (f := 8) (q := (h 0 8)) (by decide +kernel) (by decide) (by decide +kernel) rfl ?_
    have q8 : h (h 0 8) 0 = ((h 0 8) + 1) := tf_0_0 hJ t7
    refine x_getR (np := 87) (x := 512) (f := 0) (q := ((h 0 8) + 1)) (by decide +kernel) (by decide) (tg_0_512_0_1 t7) q8 ?_
    have b9 := jB (e := 2) 0 hJ (rg_T1_2_0_1 t7) (by omega) (by omega)
    refine x_getC (np := 90) (x := 386) (f := 2) (q := (h ((h 0 8) + 1) 2)) (by decide +kernel) (by decide) (tg_1_386_2_0 t7) rfl (fun l10 => ?_)
    refine x_retI (np := 91) (x := 0) (by decide +kernel) l10 (Or.inl (by decide +kernel)) ⟨_, rfl, l10, ?_⟩
    exact ⟨rfl, (by omega)⟩
  · refine x_tsw1 (np := 2) (x := 0) (by decide +kernel) la1 (i := 3) (lo9 := 2147483648) (hi9 := 2147483659) (tg := 91) (by decide +kernel) (by omega) (by omega) ?_
    refine x_aload (np := 92) (x := 0) (by decide +kernel) rfl (x_nc_le (by decide)) ?_
    have t11 : tw (h 0 8) := hJ.2.1
    refine x_getR (np := 95) (x := 648) (f := 8) (q := (h 0 8)) (by decide +kernel) (by decide) (by decide +kernel) rfl ?_
    have q12 : h (h 0 8) 1 = ((h 0 8) + 3) := tf_0_1 hJ t11
    refine x_getR (np := 98) (x := 513) (f := 1) (q := ((h 0 8) + 3)) (by decide +kernel) (by decide) (tg_0_513_1_1 t11) q12 ?_
    have b13 := jB (e := 2) 0 hJ (rg_T3_2_0_1 t11) (by omega) (by omega)
    refine x_getC (np := 101) (x := 386) (f := 2) (q := (h ((h 0 8) + 3) 2)) (by decide +kernel) (by decide) (tg_3_386_2_0 t11) rfl (fun l14 => ?_)
    refine x_retI (np := 102) (x := 0) (by decide +kernel) l14 (Or.inl (by decide +kernel)) ⟨_, rfl, l14, ?_⟩
    exact ⟨rfl, (by omega)⟩
  · refine x_tsw1 (np := 2) (x := 0) (by decide +kernel) la1 (i := 4) (lo9 := 2147483648) (hi9 := 2147483659) (tg := 102) (by decide +kernel) (by omega) (by omega) ?_
    refine x_aload (np := 103) (x := 0) (by decide +kernel) rfl (x_nc_le (by decide)) ?_
    have t15 : tw (h 0 8) := hJ.2.1
    refine x_getR (np := 106) (x := 648) (f := 8) (q := (h 0 8)) (by decide +kernel) (by decide) (by decide +kernel) rfl ?_
    have q16 : h (h 0 8) 2 = ((h 0 8) + 5) := tf_0_2 hJ t15
    refine x_getR (np := 109) (x := 514) (f := 2) (q := ((h 0 8) + 5)) (by decide +kernel) (by decide) (tg_0_514_2_1 t15) q16 ?_
    have b17 := jB (e := 2) 0 hJ (rg_T5_2_0_1 t15) (by omega) (by omega)
    refine x_getC (np := 112) (x := 386) (f := 2) (q := (h ((h 0 8) + 5) 2)) (by decide +kernel) (by decide) (tg_5_386_2_0 t15) rfl (fun l18 => ?_)
    refine x_retI (np := 113) (x := 0) (by decide +kernel) l18 (Or.inl (by decide +kernel)) ⟨_, rfl, l18, ?_⟩
    exact ⟨rfl, (by omega)⟩
  · refine x_tsw1 (np := 2) (x := 0) (by decide +kernel) la1 (i := 5) (lo9 := 2147483648) (hi9 := 2147483659) (tg := 113) (by decide +kernel) (by omega) (by omega) ?_
    refine x_aload (np := 114) (x := 0) (by decide +kernel) rfl (x_nc_le (by decide)) ?_
    have t19 : tw (h 0 8) := hJ.2.1
    refine x_getR (np := 117) (x := 648) (f := 8) (q := (h 0 8)) (by decide +kernel) (by decide) (by decide +kernel) rfl ?_
    have q20 : h (h 0 8) 3 = ((h 0 8) + 7) := tf_0_3 hJ t19
    refine x_getR (np := 120) (x := 515) (f := 3) (q := ((h 0 8) + 7)) (by decide +kernel) (by decide) (tg_0_515_3_1 t19) q20 ?_
    have b21 := jB (e := 2) 0 hJ (rg_T7_2_0_1 t19) (by omega) (by omega)
    refine x_getC (np := 123) (x := 386) (f := 2) (q := (h ((h 0 8) + 7) 2)) (by decide +kernel) (by decide) (tg_7_386_2_0 t19) rfl (fun l22 => ?_)
    refine x_retI (np := 124) (x := 0) (by decide +kernel) l22 (Or.inl (by decide +kernel)) ⟨_, rfl, l22, ?_⟩
    exact ⟨rfl, (by omega)⟩
  · refine x_tsw1 (np := 2) (x := 0) (by decide +kernel) la1 (i := 6) (lo9 := 2147483648) (hi9 := 2147483659) (tg := 124) (by decide +kernel) (by omega) (by omega) ?_
    refine x_aload (np := 125) (x := 0) (by decide +kernel) rfl (x_nc_le (by decide)) ?_
    have q23 : h 0 1 = 45 := by have z := jB (e := 1) 0 hJ rg_0_1_0_1 (by decide) (by decide); omega
    refine x_getR (np := 128) (x := 641) (f := 1) (q := 45) (by decide +kernel) (by decide) (by decide +kernel) q23 ?_
    refine x_cP (t := 6) (mj := 14) (n := 1) (rc := 2) (ml := 3) (nr := 0) (np := 131) (as := [x_r 45]) (rest := []) (lo1 := [x_r 45, 147573952589676412928, 147573952589676412928]) (by decide +kernel) (by decide) (by decide +kernel) (x_rb_of (by decide +kernel)) rfl rfl (x_wr (by decide) x_wn) x_wn (by decide) rfl (c14_45 hJ ) (fun v24 l25 q26 => ?_)
    refine x_retI (np := 132) (x := 0) (by decide +kernel) l25 (Or.inl (by decide +kernel)) ⟨_, rfl, l25, ?_⟩
    exact ⟨rfl, (by omega)⟩
  · refine x_tsw1 (np := 2) (x := 0) (by decide +kernel) la1 (i := 7) (lo9 := 2147483648) (hi9 := 2147483659) (tg := 132) (by decide +kernel) (by omega) (by omega) ?_
    refine x_aload (np := 133) (x := 0) (by decide +kernel) rfl (x_nc_le (by decide)) ?_
    have t27 : tw (h 0 8) := hJ.2.1
    refine x_getR (np := 136) (x := 648) (f := 8) (q := (h 0 8)) (by decide +kernel) (by decide) (by decide +kernel) rfl ?_
    refine x_cP (t := 6) (mj := 88) (n := 1) (rc := 9) (ml := 3) (nr := 0) (np := 139) (as := [x_r (h 0 8)]) (rest := []) (lo1 := [x_r (h 0 8), 147573952589676412928, 147573952589676412928]) (by decide +kernel) (by decide) (by decide +kernel) (x_rb_of (tr_0_9 t27)) rfl rfl (x_wr (tn_0 t27) x_wn) x_wn (by decide) rfl (c88_T0 hJ t27) (fun v28 l29 q30 => ?_)
    refine x_retI (np := 140) (x := 0) (by decide +kernel) l29 (Or.inl (by decide +kernel)) ⟨_, rfl, l29, ?_⟩
    exact ⟨rfl, (by omega)⟩
  · refine x_tsw1 (np := 2) (x := 0) (by decide +kernel) la1 (i := 8) (lo9 := 2147483648) (hi9 := 2147483659) (tg := 140) (by decide +kernel) (by omega) (by omega) ?_
    refine x_aload (np := 141) (x := 0) (by decide +kernel) rfl (x_nc_le (by decide)) ?_
    have t31 : tw (h 0 8) := hJ.2.1
    refine x_getR (np := 144) (x := 648) (f := 8) (q := (h 0 8)) (by decide +kernel) (by decide) (by decide +kernel) rfl ?_
    refine x_getC (np := 147) (x := 521) (f := 9) (q := (h (h 0 8) 9)) (by decide +kernel) (by decide) (tg_0_521_9_0 t31) rfl (fun l32 => ?_)
    refine x_nI (t := 7) (mj := 310) (n := 1) (rc := 0) (ml := 1) (nr := 0) (np := 150) (as := [iv_c (h (h 0 8) 9)]) (rest := []) (lo1 := [iv_c (h (h 0 8) 9)]) (by decide +kernel) (by decide) (by decide +kernel) (Or.inl rfl) rfl rfl (x_wi l32 x_wn) x_wn (by decide) rfl ?_
    refine x_iload (np := 1) (x := 0) (by decide +kernel) rfl l32 ?_
    refine x_iload (np := 2) (x := 0) (by decide +kernel) rfl l32 ?_
    refine x_const (np := 3) (x := 9223372043297226753) (a := 2147483649) (by decide +kernel) (by decide) (by decide) ?_
    refine x_any (np := 4) (k9 := 5) (by decide +kernel) (by decide) l32 (by decide) (fun v33 l34 => ?_)
    refine x_const (np := 7) (x := 15372286730238776661) (a := 3579139413) (by decide +kernel) (by decide) (by decide) ?_
    refine x_any (np := 8) (k9 := 0) (by decide +kernel) (by decide) l34 (by decide) (fun v35 l36 => ?_)
    refine x_subA (by rw [tb_b310]; decide +kernel) l32 l36 (fun v37 l38 => ?_)
    refine x_istore (np := 10) (x := 0) (lo' := [iv_c v37]) (by decide +kernel) l38 (Nat.le_of_ble_eq_true rfl) rfl ?_
    refine x_iload (np := 11) (x := 0) (by decide +kernel) rfl l38 ?_
    refine x_const (np := 14) (x := 12912720853744169779) (a := 3006477107) (by decide +kernel) (by decide) (by decide) ?_
    refine x_any (np := 15) (k9 := 0) (by decide +kernel) (by decide) l38 (by decide) (fun v39 l40 => ?_)
    refine x_iload (np := 16) (x := 0) (by decide +kernel) rfl l38 ?_
    refine x_const (np := 17) (x := 9223372047592194050) (a := 2147483650) (by decide +kernel) (by decide) (by decide) ?_
    refine x_any (np := 18) (k9 := 5) (by decide +kernel) (by decide) l38 (by decide) (fun v41 l42 => ?_)
    refine x_const (np := 21) (x := 12912720853744169779) (a := 3006477107) (by decide +kernel) (by decide) (by decide) ?_
    refine x_any (np := 22) (k9 := 0) (by decide +kernel) (by decide) l42 (by decide) (fun v43 l44 => ?_)
    refine x_addA (by rw [tb_b310]; decide +kernel) l40 l44 (fun v45 l46 => ?_)
    refine x_istore (np := 24) (x := 0) (lo' := [iv_c v45]) (by decide +kernel) l46 (Nat.le_of_ble_eq_true rfl) rfl ?_
    refine x_iload (np := 25) (x := 0) (by decide +kernel) rfl l46 ?_
    refine x_iload (np := 26) (x := 0) (by decide +kernel) rfl l46 ?_
    refine x_const (np := 27) (x := 9223372056182128644) (a := 2147483652) (by decide +kernel) (by decide) (by decide) ?_
    refine x_any (np := 28) (k9 := 5) (by decide +kernel) (by decide) l46 (by decide) (fun v47 l48 => ?_)
    refine x_addA (by rw [tb_b310]; decide +kernel) l46 l48 (fun v49 l50 => ?_)
    refine x_const (np := 32) (x := 10308474631573409551) (a := 2400128783) (by decide +kernel) (by decide) (by decide) ?_
    refine x_any (np := 33) (k9 := 0) (by decide +kernel) (by decide) l50 (by decide) (fun v51 l52 => ?_)
    refine x_istore (np := 34) (x := 0) (lo' := [iv_c v51]) (by decide +kernel) l52 (Nat.le_of_ble_eq_true rfl) rfl ?_
    refine x_iload (np := 35) (x := 0) (by decide +kernel) rfl l52 ?_
    refine x_iload (np := 36) (x := 0) (by decide +kernel) rfl l52 ?_
    refine x_const (np := 38) (x := 9223372073361997832) (a := 2147483656) (by decide +kernel) (by decide) (by decide) ?_
    refine x_any (np := 39) (k9 := 5) (by decide +kernel) (by decide) l52 (by decide) (fun v53 l54 => ?_)
    refine x_addA (by rw [tb_b310]; decide +kernel) l52 l54 (fun v55 l56 => ?_)
    refine x_istore (np := 41) (x := 0) (lo' := [iv_c v55]) (by decide +kernel) l56 (Nat.le_of_ble_eq_true rfl) rfl ?_
    refine x_iload (np := 42) (x := 0) (by decide +kernel) rfl l56 ?_
    refine x_iload (np := 43) (x := 0) (by decide +kernel) rfl l56 ?_
    refine x_const (np := 45) (x := 9223372107721736208) (a := 2147483664) (by decide +kernel) (by decide) (by decide) ?_
    refine x_any (np := 46) (k9 := 5) (by decide +kernel) (by decide) l56 (by decide) (fun v57 l58 => ?_)
    refine x_addA (by rw [tb_b310]; decide +kernel) l56 l58 (fun v59 l60 => ?_)
    refine x_istore (np := 48) (x := 0) (lo' := [iv_c v59]) (by decide +kernel) l60 (Nat.le_of_ble_eq_true rfl) rfl ?_
    refine x_iload (np := 49) (x := 0) (by decide +kernel) rfl l60 ?_
    refine x_const (np := 51) (x := 9223372309585199167) (a := 2147483711) (by decide +kernel) (by decide) (by decide) ?_
    refine x_mask (np := 52) (m := 6) (k9 := 64) (by decide +kernel) l60 (by decide +kernel) (by decide) (by decide) (by decide) (fun u61 l62 => ?_)
    refine x_retI (np := 53) (x := 0) (by decide +kernel) (by omega) (Or.inl (by decide +kernel)) ⟨_, rfl, (by omega), ?_⟩
    refine x_retI (np := 151) (x := 0) (by decide +kernel) (by omega) (Or.inl (by decide +kernel)) ⟨_, rfl, (by omega), ?_⟩
    exact ⟨rfl, (by omega)⟩
  · refine x_tsw1 (np := 2) (x := 0) (by decide +kernel) la1 (i := 9) (lo9 := 2147483648) (hi9 := 2147483659) (tg := 151) (by decide +kernel) (by omega) (by omega) ?_
    refine x_aload (np := 152) (x := 0) (by decide +kernel) rfl (x_nc_le (by decide)) ?_
    have t63 : tw (h 0 8) := hJ.2.1
    refine x_getR (np := 155) (x := 648) (f := 8) (q := (h 0 8)) (by decide +kernel) (by decide) (by decide +kernel) rfl ?_
    refine x_cP (t := 6) (mj := 89) (n := 1) (rc := 9) (ml := 3) (nr := 0) (np := 158) (as := [x_r (h 0 8)]) (rest := []) (lo1 := [x_r (h 0 8), 147573952589676412928, 147573952589676412928]) (by decide +kernel) (by decide) (by decide +kernel) (x_rb_of (tr_0_9 t63)) rfl rfl (x_wr (tn_0 t63) x_wn) x_wn (by decide) rfl (c89_T0 hJ t63) (fun v64 l65 q66 => ?_)
    refine x_retI (np := 159) (x := 0) (by decide +kernel) l65 (Or.inl (by decide +kernel)) ⟨_, rfl, l65, ?_⟩
    exact ⟨rfl, (by omega)⟩
  · refine x_tsw1 (np := 2) (x := 0) (by decide +kernel) la1 (i := 10) (lo9 := 2147483648) (hi9 := 2147483659) (tg := 159) (by decide +kernel) (by omega) (by omega) ?_
    refine x_aload (np := 160) (x := 0) (by decide +kernel) rfl (x_nc_le (by decide)) ?_
    have t67 : tw (h 0 8) := hJ.2.1
    refine x_getR (np := 163) (x := 648) (f := 8) (q := (h 0 8)) (by decide +kernel) (by decide) (by decide +kernel) rfl ?_
    have q68 : h (h 0 8) 6 = ((h 0 8) + 11) := tf_0_6 hJ t67
    refine x_getR (np := 166) (x := 518) (f := 6) (q := ((h 0 8) + 11)) (by decide +kernel) (by decide) (tg_0_518_6_1 t67) q68 ?_
    refine x_getC (np := 169) (x := 131) (f := 3) (q := (h ((h 0 8) + 11) 3)) (by decide +kernel) (by decide) (tg_11_131_3_0 t67) rfl (fun l69 => ?_)
    refine x_retI (np := 170) (x := 0) (by decide +kernel) l69 (Or.inl (by decide +kernel)) ⟨_, rfl, l69, ?_⟩
    exact ⟨rfl, (by omega)⟩
  · refine x_tsw1 (np := 2) (x := 0) (by decide +kernel) la1 (i := 11) (lo9 := 2147483648) (hi9 := 2147483659) (tg := 170) (by decide +kernel) (by omega) (by omega) ?_
    refine x_aload (np := 171) (x := 0) (by decide +kernel) rfl (x_nc_le (by decide)) ?_
    have t70 : tw (h 0 8) := hJ.2.1
    refine x_getR (np := 174) (x := 648) (f := 8) (q := (h 0 8)) (by decide +kernel) (by decide) (by decide +kernel) rfl ?_
    refine x_cP (t := 6) (mj := 90) (n := 1) (rc := 9) (ml := 3) (nr := 0) (np := 177) (as := [x_r (h 0 8)]) (rest := []) (lo1 := [x_r (h 0 8), 147573952589676412928, 147573952589676412928]) (by decide +kernel) (by decide) (by decide +kernel) (x_rb_of (tr_0_9 t70)) rfl rfl (x_wr (tn_0 t70) x_wn) x_wn (by decide) rfl (c90_T0 hJ t70) (fun v71 l72 q73 => ?_)
    refine x_retI (np := 178) (x := 0) (by decide +kernel) l72 (Or.inl (by decide +kernel)) ⟨_, rfl, l72, ?_⟩
    exact ⟨rfl, (by omega)⟩
set_option maxHeartbeats 0 in
/-- LentNamesModel.image()V -/
theorem c155_75 {sc : Nat × Nat} {d  : Nat} {h : xh} (hJ : J h) : X sc 155 d (xV fun h' => J h' ∧ Fr 134610945 h h') 0 0 0 [x_r 75, 147573952589676412928] [] h := by
  have hF := Fr.refl 134610945 h
  refine x_aload (np := 1) (x := 0) (by decide +kernel) rfl (x_nc_le (by decide)) ?_
  refine x_const (np := 2) (x := 9223372039002259456) (a := 2147483648) (by decide +kernel) (by decide) (by decide) ?_
  refine x_putI (np := 5) (x := 704) (f := 0) (by decide +kernel) (by decide +kernel) (by decide) (Or.inl (by decide)) ?_
  have j2 := jU (e := 0) (v := 2147483648) 0 hJ rg_75_0_0_1 (by omega) (by omega) (by omega)
  have f4 := jF (e := 0) (v := 2147483648) 0 hF rg_75_0_0_1 (by omega) (by omega) (by decide)
  generalize e3 : x_up h 75 0 2147483648 = h1 at j2 f4 ⊢
  refine x_const (np := 6) (x := 9223372039002259456) (a := 2147483648) (by decide +kernel) (by decide) (by decide) ?_
  refine x_istore (np := 7) (x := 1) (lo' := [x_r 75, iv_c 2147483648]) (by decide +kernel) (by decide) (Nat.le_of_ble_eq_true rfl) rfl ?_
  have p434 : ∀ (n : Nat) (v429 : Nat) (h431 : xh), 4294967296 - v429 < n → (2147483648 ≤ v429 ∧ v429 ≤ 2147484769) → J h431 → Fr 134217728 h1 h431 → X sc 155 d (xV fun h' => J h' ∧ Fr 134610945 h h') 0 0 7 [x_r 75, iv_c v429] [] h431 := by
    intro n
    induction n with
    | zero => intro v429 h431 q435; exact absurd q435 (Nat.not_lt_zero _)
    | succ n i436 =>
      intro v429 h431 q435 b430 j433 f432
      have f437 := Fr.trans f4 f432 (by decide)
      refine x_iload (np := 8) (x := 1) (by decide +kernel) rfl (by omega) ?_
      refine x_const (np := 11) (x := 9223376853660599393) (a := 2147484769) (by decide +kernel) (by decide) (by decide) ?_
      refine x_icmp (k := 3) (tg := 32) (np := 14) (by decide +kernel) (by decide) (by omega) (by decide) (fun q438 => ?_) (fun q439 => ?_)
      · have q438 : 2147484769 ≤ v429 := q438
        refine x_aload (np := 33) (x := 0) (by decide +kernel) rfl (x_nc_le (by decide)) ?_
        refine x_const (np := 34) (x := 9223372043297226753) (a := 2147483649) (by decide +kernel) (by decide) (by decide) ?_
        refine x_putI (np := 37) (x := 4804) (f := 4) (by decide +kernel) (by decide +kernel) (by decide) (Or.inr ⟨by decide, by omega, by omega⟩) ?_
        have j441 := jU (e := 4) (v := 2147483649) 0 j433 rg_75_4_0_1 (by omega) (by omega) (by omega)
        have f443 := jF (e := 4) (v := 2147483649) 0 f437 rg_75_4_0_1 (by omega) (by omega) (by decide)
        generalize e442 : x_up h431 75 4 2147483649 = h440 at j441 f443 ⊢
        refine x_retV (np := 38) (x := 0) (by decide +kernel) (by decide +kernel) ⟨rfl, ?_⟩
        exact ⟨j441, f443⟩
      have q439 : ¬ (2147484769 ≤ v429) := q439
      refine x_aload (np := 15) (x := 0) (by decide +kernel) rfl (x_nc_le (by decide)) ?_
      have q444 : h431 75 2 = 77 := by have z := jB (e := 2) 0 j433 rg_75_2_0_1 (by decide) (by decide); omega
      refine x_getR (np := 18) (x := 706) (f := 2) (q := 77) (by decide +kernel) (by decide) (by decide +kernel) q444 ?_
      refine x_iload (np := 19) (x := 1) (by decide +kernel) rfl (by omega) ?_
      refine x_aload (np := 20) (x := 0) (by decide +kernel) rfl (x_nc_le (by decide)) ?_
      have q445 : h431 75 1 = 76 := by have z := jB (e := 1) 0 j433 rg_75_1_0_1 (by decide) (by decide); omega
      refine x_getR (np := 23) (x := 705) (f := 1) (q := 76) (by decide +kernel) (by decide) (by decide +kernel) q445 ?_
      refine x_iload (np := 24) (x := 1) (by decide +kernel) rfl (by omega) ?_
      obtain ⟨u446, q447⟩ : ∃ z, v429 = 2147483648 + z := ⟨v429 - 2147483648, by omega⟩
      refine x_aldC (np := 25) (x := 0) (n := 1952) (i := u446) (q := (h431 76 u446)) (by decide +kernel) (by decide +kernel) (by omega) (by omega) (by decide) rfl (fun l448 => ?_)
      refine x_ast (np := 26) (x := 0) (kd := 1) (n := 1121) (i := u446) (by decide +kernel) (Or.inl rfl) (by decide +kernel) (by omega) (by omega) (by decide) l448 (fun z => absurd z (by decide)) ?_
      have j450 := cwJ (e := u446) (v := (h431 76 u446)) u446 j433 j433 cw_77_0_76_0_1121 (by omega) (by omega) (by congr 1; omega)
      have f452 := cwF (e := u446) (v := (h431 76 u446)) u446 f437 cw_77_0_76_0_1121 (by omega) (by omega) (by decide)
      have f453 := cwF (e := u446) (v := (h431 76 u446)) u446 f432 cw_77_0_76_0_1121 (by omega) (by omega) (by decide)
      generalize e451 : x_up h431 77 u446 (h431 76 u446) = h449 at j450 f452 f453 ⊢
      refine x_iinc (np := 29) (i := 1) (j := 2147483649) (v := (1 + v429)) (lo' := [x_r 75, iv_c (1 + v429)]) (by decide +kernel) (by decide) (by decide) rfl (by omega) (by omega) (by omega) rfl ?_
      refine x_goto (np := 32) (x := 7) (by decide +kernel) ?_
      exact i436 (1 + v429) h449 (by omega) (by omega) j450 f453
  exact p434 _ 2147483648 h1 (Nat.lt_succ_self _) (by omega) j2 (Fr.refl _ _)
