/-! ===== methods ===== -/
set_option maxHeartbeats 0 in
/-- LentNamesModel.end(I)Z -/
theorem c166_75 {sc : Nat × Nat} {d a1 : Nat} {h : xh} (hJ : J h) (ba1 : 0 ≤ a1 ∧ a1 ≤ 4294967295) : X sc 166 d (xI fun r h' => J h' ∧ Fr 655360 h h' ∧ (2147483648 ≤ r ∧ r ≤ 2147483649) ∧ ((a1 < 2147483648 ∨ h 75 6 < a1) → r = 2147483648 ∧ h' 75 6 = h 75 6) ∧ ((2147483648 ≤ a1 ∧ a1 ≤ h 75 6) → r = 2147483649 ∧ h' 75 6 = a1)) 0 0 0 [x_r 75, iv_c a1] [] h := by
  have la1 : a1 < 4294967296 := by first | decide | omega
  have hF := Fr.refl 655360 h
  refine x_aload (np := 1) (x := 0) (by decide +kernel) rfl (x_nc_le (by decide)) ?_
  refine x_const (np := 2) (x := 9223372039002259456) (a := 2147483648) (by decide +kernel) (by decide) (by decide) ?_
  refine x_putI (np := 5) (x := 704) (f := 0) (by decide +kernel) (by decide +kernel) (by decide) (Or.inl (by decide)) ?_
  have j2 := jU (e := 0) (v := 2147483648) 0 hJ rg_75_0_0_1 (by first | decide | omega) (by first | decide | omega) (by first | decide | omega)
  have f4 := jF (e := 0) (v := 2147483648) 0 hF rg_75_0_0_1 (by first | decide | omega) (by first | decide | omega) (by decide)
  generalize e3 : x_up h 75 0 2147483648 = h1 at j2 f4 ⊢
  refine x_iload (np := 6) (x := 1) (by decide +kernel) rfl la1 ?_
  refine x_ifz (k := 2) (tg := 17) (np := 9) (by decide +kernel) (by decide) la1 (fun q5 => ?_) (fun q6 => ?_)
  · have q5 : a1 < 2147483648 := q5
    refine x_const (np := 18) (x := 9223372039002259456) (a := 2147483648) (by decide +kernel) (by decide) (by decide) ?_
    have b7 := jB (e := 6) 0 hJ rg_75_6_0_1 (by first | decide | omega) (by first | decide | omega)
    have q8 : h1 75 6 = h 75 6 := by rw [← e3]; exact x_up_i (by first | decide | omega)
    have q9 : h1 75 6 = h 75 6 := by rw [← e3]; exact x_up_i (by first | decide | omega)
    refine x_retI (np := 19) (x := 0) (by decide +kernel) (by decide) (Or.inr ⟨by decide +kernel, by first | decide | omega, by first | decide | omega⟩) ⟨_, rfl, (by decide), ?_⟩
    exact ⟨j2, f4, (by first | decide | omega), (fun z => by first | decide | omega), (fun z => by first | decide | omega)⟩
  have q6 : ¬ (a1 < 2147483648) := q6
  refine x_iload (np := 10) (x := 1) (by decide +kernel) rfl la1 ?_
  refine x_aload (np := 11) (x := 0) (by decide +kernel) rfl (x_nc_le (by decide)) ?_
  have q10 : h1 75 6 = h 75 6 := by rw [← e3]; exact x_up_i (by first | decide | omega)
  have b11 := jB (e := 6) 0 hJ rg_75_6_0_1 (by first | decide | omega) (by first | decide | omega)
  refine x_getC (np := 14) (x := 710) (f := 6) (q := (h 75 6)) (by decide +kernel) (by decide) (by decide +kernel) q10 (fun l12 => ?_)
  refine x_icmp (k := 5) (tg := 19) (np := 17) (by decide +kernel) (by decide) la1 l12 (fun q13 => ?_) (fun q14 => ?_)
  · have q13 : a1 ≤ (h 75 6) := q13
    refine x_aload (np := 20) (x := 0) (by decide +kernel) rfl (x_nc_le (by decide)) ?_
    refine x_iload (np := 21) (x := 1) (by decide +kernel) rfl la1 ?_
    refine x_putI (np := 24) (x := 710) (f := 6) (by decide +kernel) (by decide +kernel) la1 (Or.inl (by decide)) ?_
    have j16 := jU (e := 6) (v := a1) 0 j2 rg_75_6_0_1 (by first | decide | omega) (by first | decide | omega) (by first | decide | omega)
    have f18 := jF (e := 6) (v := a1) 0 f4 rg_75_6_0_1 (by first | decide | omega) (by first | decide | omega) (by decide)
    generalize e17 : x_up h1 75 6 a1 = h15 at j16 f18 ⊢
    refine x_const (np := 25) (x := 9223372043297226753) (a := 2147483649) (by decide +kernel) (by decide) (by decide) ?_
    have q19 : h15 75 6 = a1 := by rw [← e17]; exact x_up_at
    have q20 : h15 75 6 = a1 := by rw [← e17]; exact x_up_at
    refine x_retI (np := 26) (x := 0) (by decide +kernel) (by decide) (Or.inr ⟨by decide +kernel, by first | decide | omega, by first | decide | omega⟩) ⟨_, rfl, (by decide), ?_⟩
    exact ⟨j16, f18, (by first | decide | omega), (fun z => by first | decide | omega), (fun z => by first | decide | omega)⟩
  have q14 : ¬ (a1 ≤ (h 75 6)) := q14
  refine x_const (np := 18) (x := 9223372039002259456) (a := 2147483648) (by decide +kernel) (by decide) (by decide) ?_
  have q21 : h1 75 6 = h 75 6 := by rw [← e3]; exact x_up_i (by first | decide | omega)
  have q22 : h1 75 6 = h 75 6 := by rw [← e3]; exact x_up_i (by first | decide | omega)
  refine x_retI (np := 19) (x := 0) (by decide +kernel) (by decide) (Or.inr ⟨by decide +kernel, by first | decide | omega, by first | decide | omega⟩) ⟨_, rfl, (by decide), ?_⟩
  exact ⟨j2, f4, (by first | decide | omega), (fun z => by first | decide | omega), (fun z => by first | decide | omega)⟩
set_option maxHeartbeats 0 in
/-- LentNamesModel.fault()I -/
theorem c175_75 {sc : Nat × Nat} {d  : Nat} {h : xh} (hJ : J h) : X sc 175 d (xI fun r h' => J h' ∧ Fr 131072 h h' ∧ (0 ≤ r ∧ r ≤ 4294967295) ∧ (r = h' 75 11)) 0 0 0 [x_r 75] [] h := by
  have hF := Fr.refl 131072 h
  refine x_aload (np := 1) (x := 0) (by decide +kernel) rfl (x_nc_le (by decide)) ?_
  refine x_const (np := 2) (x := 9223372039002259456) (a := 2147483648) (by decide +kernel) (by decide) (by decide) ?_
  refine x_putI (np := 5) (x := 704) (f := 0) (by decide +kernel) (by decide +kernel) (by decide) (Or.inl (by decide)) ?_
  have j2 := jU (e := 0) (v := 2147483648) 0 hJ rg_75_0_0_1 (by first | decide | omega) (by first | decide | omega) (by first | decide | omega)
  have f4 := jF (e := 0) (v := 2147483648) 0 hF rg_75_0_0_1 (by first | decide | omega) (by first | decide | omega) (by decide)
  generalize e3 : x_up h 75 0 2147483648 = h1 at j2 f4 ⊢
  refine x_aload (np := 6) (x := 0) (by decide +kernel) rfl (x_nc_le (by decide)) ?_
  have q5 : h1 75 11 = h 75 11 := by rw [← e3]; exact x_up_i (by first | decide | omega)
  refine x_getC (np := 9) (x := 715) (f := 11) (q := (h 75 11)) (by decide +kernel) (by decide) (by decide +kernel) q5 (fun l6 => ?_)
  have q7 : h1 75 11 = h 75 11 := by rw [← e3]; exact x_up_i (by first | decide | omega)
  refine x_retI (np := 10) (x := 0) (by decide +kernel) l6 (Or.inl (by decide +kernel)) ⟨_, rfl, l6, ?_⟩
  exact ⟨j2, f4, (by first | decide | omega), (by first | decide | omega)⟩
set_option maxHeartbeats 0 in
/-- LentNamesModel.blanks()V -/
theorem c168_75 {sc : Nat × Nat} {d  : Nat} {h : xh} {tB : Nat → Nat} {tN : Nat} (hJ : J h) (hT : Tq tB tN h) : X sc 168 (d + 1) (xV fun h' => J h' ∧ Fr 5242881 h h' ∧ (h 75 7 + 0 ≤ h' 75 7) ∧ (h' 75 9 = h' 75 7) ∧ h' 75 7 = sk tB tN (h 75 7) ∧ h' 75 9 = sk tB tN (h 75 7)) 0 0 0 [x_r 75] [] h := by
  have hF := Fr.refl 5242881 h
  have p76 : ∀ (n : Nat) (h73 : xh), 4294967296 - h73 75 7 < n → h 75 7 ≤ h73 75 7 → J h73 → Fr 1048576 h h73 → sk tB tN (h 75 7) = sk tB tN (h73 75 7) → X sc 168 (d + 1) (xV fun h' => J h' ∧ Fr 5242881 h h' ∧ (h 75 7 + 0 ≤ h' 75 7) ∧ (h' 75 9 = h' 75 7) ∧ h' 75 7 = sk tB tN (h 75 7) ∧ h' 75 9 = sk tB tN (h 75 7)) 0 0 0 [x_r 75] [] h73 := by
    intro n
    induction n with
    | zero => intro h73 q79; exact absurd q79 (Nat.not_lt_zero _)
    | succ n i80 =>
      intro h73 q79 b77 j75 f74 m78
      have f81 := Fr.trans hF f74 (by decide)
      refine x_aload (np := 1) (x := 0) (by decide +kernel) rfl (x_nc_le (by decide)) ?_
      refine x_const (np := 3) (x := 9223372176441212960) (a := 2147483680) (by decide +kernel) (by decide) (by decide) ?_
      refine x_const (np := 5) (x := 9223372176441212960) (a := 2147483680) (by decide +kernel) (by decide) (by decide) ?_
      refine x_nI (t := 6) (mj := 167) (n := 3) (rc := 12) (ml := 3) (nr := 0) (np := 8) (as := [x_r 75, iv_c 2147483680, iv_c 2147483680]) (rest := []) (lo1 := [x_r 75, iv_c 2147483680, iv_c 2147483680]) (by decide +kernel) (by decide) (by decide +kernel) (x_rb_of (by decide +kernel)) rfl rfl (x_wr (by decide) (x_wi (by decide) (x_wi (by decide) x_wn))) x_wn (by decide) rfl ?_
      refine x_aload (np := 1) (x := 0) (by decide +kernel) rfl (x_nc_le (by decide)) ?_
      have b82 := jB (e := 7) 0 j75 rg_75_7_0_1 (by first | decide | omega) (by first | decide | omega)
      refine x_getC (np := 4) (x := 711) (f := 7) (q := (h73 75 7)) (by decide +kernel) (by decide) (by decide +kernel) rfl (fun l83 => ?_)
      refine x_aload (np := 5) (x := 0) (by decide +kernel) rfl (x_nc_le (by decide)) ?_
      have q84 : h73 75 8 = h 75 8 := jK 0 f74 rg_75_8_0_1 (by first | decide | omega) (by first | decide | omega) (by decide)
      have b85 := jB (e := 8) 0 hJ rg_75_8_0_1 (by first | decide | omega) (by first | decide | omega)
      refine x_getC (np := 8) (x := 712) (f := 8) (q := (h 75 8)) (by decide +kernel) (by decide) (by decide +kernel) q84 (fun l86 => ?_)
      refine x_icmp (k := 3) (tg := 41) (np := 11) (by decide +kernel) (by decide) l83 l86 (fun q87 => ?_) (fun q88 => ?_)
      · have q87 : (h 75 8) ≤ (h73 75 7) := q87
        refine x_const (np := 42) (x := 9223372039002259456) (a := 2147483648) (by decide +kernel) (by decide) (by decide) ?_
        refine x_retI (np := 43) (x := 0) (by decide +kernel) (by decide) (Or.inr ⟨by decide +kernel, by first | decide | omega, by first | decide | omega⟩) ⟨_, rfl, (by decide), ?_⟩
        refine x_ifz (k := 0) (tg := 24) (np := 11) (by decide +kernel) (by decide) (by decide) (fun q89 => ?_) (fun q90 => ?_)
        · have q89 : 2147483648 = 2147483648 := q89
          refine x_aload (np := 25) (x := 0) (by decide +kernel) rfl (x_nc_le (by decide)) ?_
          refine x_aload (np := 26) (x := 0) (by decide +kernel) rfl (x_nc_le (by decide)) ?_
          refine x_getC (np := 29) (x := 711) (f := 7) (q := (h73 75 7)) (by decide +kernel) (by decide) (by decide +kernel) rfl (fun l91 => ?_)
          refine x_putI (np := 32) (x := 713) (f := 9) (by decide +kernel) (by decide +kernel) l83 (Or.inl (by decide)) ?_
          have j93 := jU (e := 9) (v := (h73 75 7)) 0 j75 rg_75_9_0_1 (by first | decide | omega) (by first | decide | omega) (by first | decide | omega)
          have f95 := jF (e := 9) (v := (h73 75 7)) 0 f81 rg_75_9_0_1 (by first | decide | omega) (by first | decide | omega) (by decide)
          generalize e94 : x_up h73 75 9 (h73 75 7) = h92 at j93 f95 ⊢
          have b96 := jB (e := 7) 0 hJ rg_75_7_0_1 (by first | decide | omega) (by first | decide | omega)
          have q97 : h92 75 7 = h73 75 7 := by rw [← e94]; exact x_up_i (by first | decide | omega)
          have q98 : h92 75 7 = h73 75 7 := by rw [← e94]; exact x_up_i (by first | decide | omega)
          have q99 : h92 75 9 = (h73 75 7) := by rw [← e94]; exact x_up_at
          have q100 : h92 75 7 = h73 75 7 := by rw [← e94]; exact x_up_i (by first | decide | omega)
          have q101 : h73 75 8 = h 75 8 := jK 0 f74 rg_75_8_0_1 (by first | decide | omega) (by first | decide | omega) (by decide)
          have m103 := Tq.fr hT f74 (by decide) (by decide)
          have z102 := m103.1
          have q104 : h92 75 9 = (h73 75 7) := by rw [← e94]; exact x_up_at
          have q105 : h92 75 7 = h73 75 7 := by rw [← e94]; exact x_up_i (by first | decide | omega)
          have q106 : h73 75 8 = h 75 8 := jK 0 f74 rg_75_8_0_1 (by first | decide | omega) (by first | decide | omega) (by decide)
          have z107 := m103.1
          refine x_retV (np := 33) (x := 0) (by decide +kernel) (by decide +kernel) ⟨rfl, ?_⟩
          exact ⟨j93, f95, (by first | decide | omega), (by first | decide | omega), ((show h92 75 7 = h73 75 7 by first | decide | omega).trans (m78.trans (sk_stop (by first | decide | omega))).symm), ((show h92 75 9 = h73 75 7 by first | decide | omega).trans (m78.trans (sk_stop (by first | decide | omega))).symm)⟩
        have q90 : ¬ (2147483648 = 2147483648) := q90
        exfalso; omega
      have q88 : ¬ ((h 75 8) ≤ (h73 75 7)) := q88
      refine x_aload (np := 12) (x := 0) (by decide +kernel) rfl (x_nc_le (by decide)) ?_
      have q108 : h73 75 5 = 79 := by have z := jB (e := 5) 0 j75 rg_75_5_0_1 (by decide) (by decide); omega
      refine x_getR (np := 15) (x := 709) (f := 5) (q := 79) (by decide +kernel) (by decide) (by decide +kernel) q108 ?_
      refine x_aload (np := 16) (x := 0) (by decide +kernel) rfl (x_nc_le (by decide)) ?_
      refine x_getC (np := 19) (x := 711) (f := 7) (q := (h73 75 7)) (by decide +kernel) (by decide) (by decide +kernel) rfl (fun l109 => ?_)
      obtain ⟨u110, q111⟩ : ∃ z, (h73 75 7) = 2147483648 + z := ⟨(h73 75 7) - 2147483648, by first | decide | omega⟩
      have q112 : h73 79 u110 = h 79 u110 := jK u110 f74 rg_79_0_1_400 (by first | decide | omega) (by first | decide | omega) (by decide)
      have b113 := jB (e := u110) u110 hJ rg_79_0_1_400 (by first | decide | omega) (by first | decide | omega)
      refine x_baldC (np := 20) (x := 0) (n := 400) (i := u110) (q := (h 79 u110)) (by decide +kernel) (by decide +kernel) (by first | decide | omega) (by first | decide | omega) (by decide) q112 (fun l114 => ?_)
      refine x_iload (np := 21) (x := 1) (by decide +kernel) rfl (by decide) ?_
      refine x_icmp (k := 2) (tg := 41) (np := 24) (by decide +kernel) (by decide) l114 (by decide) (fun q115 => ?_) (fun q116 => ?_)
      · have q115 : (h 79 u110) < 2147483680 := q115
        refine x_const (np := 42) (x := 9223372039002259456) (a := 2147483648) (by decide +kernel) (by decide) (by decide) ?_
        refine x_retI (np := 43) (x := 0) (by decide +kernel) (by decide) (Or.inr ⟨by decide +kernel, by first | decide | omega, by first | decide | omega⟩) ⟨_, rfl, (by decide), ?_⟩
        refine x_ifz (k := 0) (tg := 24) (np := 11) (by decide +kernel) (by decide) (by decide) (fun q117 => ?_) (fun q118 => ?_)
        · have q117 : 2147483648 = 2147483648 := q117
          refine x_aload (np := 25) (x := 0) (by decide +kernel) rfl (x_nc_le (by decide)) ?_
          refine x_aload (np := 26) (x := 0) (by decide +kernel) rfl (x_nc_le (by decide)) ?_
          refine x_getC (np := 29) (x := 711) (f := 7) (q := (h73 75 7)) (by decide +kernel) (by decide) (by decide +kernel) rfl (fun l119 => ?_)
          refine x_putI (np := 32) (x := 713) (f := 9) (by decide +kernel) (by decide +kernel) l83 (Or.inl (by decide)) ?_
          have j121 := jU (e := 9) (v := (h73 75 7)) 0 j75 rg_75_9_0_1 (by first | decide | omega) (by first | decide | omega) (by first | decide | omega)
          have f123 := jF (e := 9) (v := (h73 75 7)) 0 f81 rg_75_9_0_1 (by first | decide | omega) (by first | decide | omega) (by decide)
          generalize e122 : x_up h73 75 9 (h73 75 7) = h120 at j121 f123 ⊢
          have b124 := jB (e := 7) 0 hJ rg_75_7_0_1 (by first | decide | omega) (by first | decide | omega)
          have q125 : h120 75 7 = h73 75 7 := by rw [← e122]; exact x_up_i (by first | decide | omega)
          have q126 : h120 75 7 = h73 75 7 := by rw [← e122]; exact x_up_i (by first | decide | omega)
          have q127 : h120 75 9 = (h73 75 7) := by rw [← e122]; exact x_up_at
          have q128 : h120 75 7 = h73 75 7 := by rw [← e122]; exact x_up_i (by first | decide | omega)
          have q129 : h73 75 8 = h 75 8 := jK 0 f74 rg_75_8_0_1 (by first | decide | omega) (by first | decide | omega) (by decide)
          have m131 := Tq.fr hT f74 (by decide) (by decide)
          have z130 := m131.1
          have q132 : h73 79 u110 = h 79 u110 := jK u110 f74 rg_79_0_1_400 (by first | decide | omega) (by first | decide | omega) (by decide)
          have z133 := Tq.at (p := (h73 75 7)) (u := u110) m131 (by first | decide | omega) (by first | decide | omega)
          have q134 : h120 75 9 = (h73 75 7) := by rw [← e122]; exact x_up_at
          have q135 : h120 75 7 = h73 75 7 := by rw [← e122]; exact x_up_i (by first | decide | omega)
          have q136 : h73 75 8 = h 75 8 := jK 0 f74 rg_75_8_0_1 (by first | decide | omega) (by first | decide | omega) (by decide)
          have z137 := m131.1
          have q138 : h73 79 u110 = h 79 u110 := jK u110 f74 rg_79_0_1_400 (by first | decide | omega) (by first | decide | omega) (by decide)
          have z139 := Tq.at (p := (h73 75 7)) (u := u110) m131 (by first | decide | omega) (by first | decide | omega)
          refine x_retV (np := 33) (x := 0) (by decide +kernel) (by decide +kernel) ⟨rfl, ?_⟩
          exact ⟨j121, f123, (by first | decide | omega), (by first | decide | omega), ((show h120 75 7 = h73 75 7 by first | decide | omega).trans (m78.trans (sk_stop (by first | decide | omega))).symm), ((show h120 75 9 = h73 75 7 by first | decide | omega).trans (m78.trans (sk_stop (by first | decide | omega))).symm)⟩
        have q118 : ¬ (2147483648 = 2147483648) := q118
        exfalso; omega
      have q116 : ¬ ((h 79 u110) < 2147483680) := q116
      refine x_aload (np := 25) (x := 0) (by decide +kernel) rfl (x_nc_le (by decide)) ?_
      have q140 : h73 75 5 = 79 := by have z := jB (e := 5) 0 j75 rg_75_5_0_1 (by decide) (by decide); omega
      refine x_getR (np := 28) (x := 709) (f := 5) (q := 79) (by decide +kernel) (by decide) (by decide +kernel) q140 ?_
      refine x_aload (np := 29) (x := 0) (by decide +kernel) rfl (x_nc_le (by decide)) ?_
      refine x_getC (np := 32) (x := 711) (f := 7) (q := (h73 75 7)) (by decide +kernel) (by decide) (by decide +kernel) rfl (fun l141 => ?_)
      have q142 : h73 79 u110 = h 79 u110 := jK u110 f74 rg_79_0_1_400 (by first | decide | omega) (by first | decide | omega) (by decide)
      refine x_baldC (np := 33) (x := 0) (n := 400) (i := u110) (q := (h 79 u110)) (by decide +kernel) (by decide +kernel) (by first | decide | omega) (by first | decide | omega) (by decide) q142 (fun l143 => ?_)
      refine x_iload (np := 34) (x := 2) (by decide +kernel) rfl (by decide) ?_
      refine x_icmp (k := 4) (tg := 41) (np := 37) (by decide +kernel) (by decide) l114 (by decide) (fun q144 => ?_) (fun q145 => ?_)
      · have q144 : 2147483680 < (h 79 u110) := q144
        refine x_const (np := 42) (x := 9223372039002259456) (a := 2147483648) (by decide +kernel) (by decide) (by decide) ?_
        refine x_retI (np := 43) (x := 0) (by decide +kernel) (by decide) (Or.inr ⟨by decide +kernel, by first | decide | omega, by first | decide | omega⟩) ⟨_, rfl, (by decide), ?_⟩
        refine x_ifz (k := 0) (tg := 24) (np := 11) (by decide +kernel) (by decide) (by decide) (fun q146 => ?_) (fun q147 => ?_)
        · have q146 : 2147483648 = 2147483648 := q146
          refine x_aload (np := 25) (x := 0) (by decide +kernel) rfl (x_nc_le (by decide)) ?_
          refine x_aload (np := 26) (x := 0) (by decide +kernel) rfl (x_nc_le (by decide)) ?_
          refine x_getC (np := 29) (x := 711) (f := 7) (q := (h73 75 7)) (by decide +kernel) (by decide) (by decide +kernel) rfl (fun l148 => ?_)
          refine x_putI (np := 32) (x := 713) (f := 9) (by decide +kernel) (by decide +kernel) l83 (Or.inl (by decide)) ?_
          have j150 := jU (e := 9) (v := (h73 75 7)) 0 j75 rg_75_9_0_1 (by first | decide | omega) (by first | decide | omega) (by first | decide | omega)
          have f152 := jF (e := 9) (v := (h73 75 7)) 0 f81 rg_75_9_0_1 (by first | decide | omega) (by first | decide | omega) (by decide)
          generalize e151 : x_up h73 75 9 (h73 75 7) = h149 at j150 f152 ⊢
          have b153 := jB (e := 7) 0 hJ rg_75_7_0_1 (by first | decide | omega) (by first | decide | omega)
          have q154 : h149 75 7 = h73 75 7 := by rw [← e151]; exact x_up_i (by first | decide | omega)
          have q155 : h149 75 7 = h73 75 7 := by rw [← e151]; exact x_up_i (by first | decide | omega)
          have q156 : h149 75 9 = (h73 75 7) := by rw [← e151]; exact x_up_at
          have q157 : h149 75 7 = h73 75 7 := by rw [← e151]; exact x_up_i (by first | decide | omega)
          have q158 : h73 75 8 = h 75 8 := jK 0 f74 rg_75_8_0_1 (by first | decide | omega) (by first | decide | omega) (by decide)
          have m160 := Tq.fr hT f74 (by decide) (by decide)
          have z159 := m160.1
          have q161 : h73 79 u110 = h 79 u110 := jK u110 f74 rg_79_0_1_400 (by first | decide | omega) (by first | decide | omega) (by decide)
          have z162 := Tq.at (p := (h73 75 7)) (u := u110) m160 (by first | decide | omega) (by first | decide | omega)
          have q163 : h149 75 9 = (h73 75 7) := by rw [← e151]; exact x_up_at
          have q164 : h149 75 7 = h73 75 7 := by rw [← e151]; exact x_up_i (by first | decide | omega)
          have q165 : h73 75 8 = h 75 8 := jK 0 f74 rg_75_8_0_1 (by first | decide | omega) (by first | decide | omega) (by decide)
          have z166 := m160.1
          have q167 : h73 79 u110 = h 79 u110 := jK u110 f74 rg_79_0_1_400 (by first | decide | omega) (by first | decide | omega) (by decide)
          have z168 := Tq.at (p := (h73 75 7)) (u := u110) m160 (by first | decide | omega) (by first | decide | omega)
          refine x_retV (np := 33) (x := 0) (by decide +kernel) (by decide +kernel) ⟨rfl, ?_⟩
          exact ⟨j150, f152, (by first | decide | omega), (by first | decide | omega), ((show h149 75 7 = h73 75 7 by first | decide | omega).trans (m78.trans (sk_stop (by first | decide | omega))).symm), ((show h149 75 9 = h73 75 7 by first | decide | omega).trans (m78.trans (sk_stop (by first | decide | omega))).symm)⟩
        have q147 : ¬ (2147483648 = 2147483648) := q147
        exfalso; omega
      have q145 : ¬ (2147483680 < (h 79 u110)) := q145
      refine x_const (np := 38) (x := 9223372043297226753) (a := 2147483649) (by decide +kernel) (by decide) (by decide) ?_
      refine x_goto (np := 41) (x := 42) (by decide +kernel) ?_
      refine x_retI (np := 43) (x := 0) (by decide +kernel) (by decide) (Or.inr ⟨by decide +kernel, by first | decide | omega, by first | decide | omega⟩) ⟨_, rfl, (by decide), ?_⟩
      refine x_ifz (k := 0) (tg := 24) (np := 11) (by decide +kernel) (by decide) (by decide) (fun q169 => ?_) (fun q170 => ?_)
      · have q169 : 2147483649 = 2147483648 := q169
        exfalso; omega
      have q170 : ¬ (2147483649 = 2147483648) := q170
      refine x_aload (np := 12) (x := 0) (by decide +kernel) rfl (x_nc_le (by decide)) ?_
      refine x_dup (np := 13) (x := 0) (by decide +kernel) (by have z := x_nc_le (k := 75) (by decide); unfold x_r; omega) ?_
      refine x_getC (np := 16) (x := 711) (f := 7) (q := (h73 75 7)) (by decide +kernel) (by decide) (by decide +kernel) rfl (fun l171 => ?_)
      refine x_const (np := 17) (x := 9223372043297226753) (a := 2147483649) (by decide +kernel) (by decide) (by decide) ?_
      refine x_iadd (np := 18) (x := 0) (v := (1 + (h73 75 7))) (by decide +kernel) l83 (by decide) (by first | decide | omega) (by first | decide | omega) ?_
      refine x_putI (np := 21) (x := 711) (f := 7) (by decide +kernel) (by decide +kernel) (by first | decide | omega) (Or.inl (by decide)) ?_
      have j173 := jU (e := 7) (v := (1 + (h73 75 7))) 0 j75 rg_75_7_0_1 (by first | decide | omega) (by first | decide | omega) (by first | decide | omega)
      have f175 := jF (e := 7) (v := (1 + (h73 75 7))) 0 f81 rg_75_7_0_1 (by first | decide | omega) (by first | decide | omega) (by decide)
      have f176 := jF (e := 7) (v := (1 + (h73 75 7))) 0 f74 rg_75_7_0_1 (by first | decide | omega) (by first | decide | omega) (by decide)
      generalize e174 : x_up h73 75 7 (1 + (h73 75 7)) = h172 at j173 f175 f176 ⊢
      refine x_goto (np := 24) (x := 0) (by decide +kernel) ?_
      have q177 : h172 75 7 = (1 + (h73 75 7)) := by rw [← e174]; exact x_up_at
      have b178 := jB (e := 7) 0 hJ rg_75_7_0_1 (by first | decide | omega) (by first | decide | omega)
      have q179 : h172 75 7 = (1 + (h73 75 7)) := by rw [← e174]; exact x_up_at
      have q180 : h73 75 8 = h 75 8 := jK 0 f74 rg_75_8_0_1 (by first | decide | omega) (by first | decide | omega) (by decide)
      have m182 := Tq.fr hT f74 (by decide) (by decide)
      have z181 := m182.1
      have q183 : h73 79 u110 = h 79 u110 := jK u110 f74 rg_79_0_1_400 (by first | decide | omega) (by first | decide | omega) (by decide)
      have z184 := Tq.at (p := (h73 75 7)) (u := u110) m182 (by first | decide | omega) (by first | decide | omega)
      have q185 : h172 75 7 = (1 + (h73 75 7)) := by rw [← e174]; exact x_up_at
      exact i80  h172 (by first | decide | omega) (by first | decide | omega) j173 f176 (m78.trans ((sk_step (by first | decide | omega) (by first | decide | omega)).trans (congrArg (sk tB tN) (show h73 75 7 + 1 = h172 75 7 by first | decide | omega))))
  have b186 := jB (e := 7) 0 hJ rg_75_7_0_1 (by first | decide | omega) (by first | decide | omega)
  exact p76 _  h (Nat.lt_succ_self _) (by first | decide | omega) hJ (Fr.refl _ _) rfl
set_option maxHeartbeats 0 in
/-- LentNamesModel.letters()V -/
theorem c169_75 {sc : Nat × Nat} {d  : Nat} {h : xh} {tB : Nat → Nat} {tN : Nat} (hJ : J h) (hT : Tq tB tN h) : X sc 169 (d + 2) (xV fun h' => J h' ∧ Fr 5242881 h h' ∧ (h 75 7 ≤ h' 75 9) ∧ (h' 75 9 ≤ h' 75 7) ∧ h' 75 9 = sk tB tN (h 75 7) ∧ h' 75 7 = le9 tB tN (h' 75 9)) 0 0 0 [x_r 75] [] h := by
  have hF := Fr.refl 5242881 h
  refine x_aload (np := 1) (x := 0) (by decide +kernel) rfl (x_nc_le (by decide)) ?_
  refine x_cV (t := 6) (mj := 168) (n := 1) (rc := 12) (ml := 1) (nr := 0) (np := 4) (as := [x_r 75]) (rest := []) (lo1 := [x_r 75]) (by decide +kernel) (by decide) (by decide +kernel) (x_rb_of (by decide +kernel)) rfl rfl (x_wr (by decide) x_wn) x_wn (by decide) rfl (c168_75 hJ  hT) (fun h4 q3 => ?_)
  obtain ⟨j5, f6, c9, c10, c11, c12⟩ := q3
  have f13 := Fr.trans hF f6 (by decide)
  have b14 := jB (e := 7) 0 hJ rg_75_7_0_1 (by first | decide | omega) (by first | decide | omega)
  have b15 := jB (e := 7) 0 j5 rg_75_7_0_1 (by first | decide | omega) (by first | decide | omega)
  have b16 := jB (e := 9) 0 j5 rg_75_9_0_1 (by first | decide | omega) (by first | decide | omega)
  have p97 : ∀ (n : Nat) (h94 : xh), 4294967296 - h94 75 7 < n → h 75 7 ≤ h94 75 9 → h94 75 9 ≤ h94 75 7 → J h94 → Fr 1048576 h4 h94 → h94 75 9 = sk tB tN (h 75 7) ∧ le9 tB tN (h94 75 9) = le9 tB tN (h94 75 7) → X sc 169 (d + 2) (xV fun h' => J h' ∧ Fr 5242881 h h' ∧ (h 75 7 ≤ h' 75 9) ∧ (h' 75 9 ≤ h' 75 7) ∧ h' 75 9 = sk tB tN (h 75 7) ∧ h' 75 7 = le9 tB tN (h' 75 9)) 0 0 4 [x_r 75] [] h94 := by
    intro n
    induction n with
    | zero => intro h94 q101; exact absurd q101 (Nat.not_lt_zero _)
    | succ n i102 =>
      intro h94 q101 b98 b99 j96 f95 m100
      have f103 := Fr.trans f13 f95 (by decide)
      refine x_aload (np := 5) (x := 0) (by decide +kernel) rfl (x_nc_le (by decide)) ?_
      refine x_const (np := 7) (x := 9223372455614087265) (a := 2147483745) (by decide +kernel) (by decide) (by decide) ?_
      refine x_const (np := 9) (x := 9223372562988269690) (a := 2147483770) (by decide +kernel) (by decide) (by decide) ?_
      refine x_nI (t := 6) (mj := 167) (n := 3) (rc := 12) (ml := 3) (nr := 0) (np := 12) (as := [x_r 75, iv_c 2147483745, iv_c 2147483770]) (rest := []) (lo1 := [x_r 75, iv_c 2147483745, iv_c 2147483770]) (by decide +kernel) (by decide) (by decide +kernel) (x_rb_of (by decide +kernel)) rfl rfl (x_wr (by decide) (x_wi (by decide) (x_wi (by decide) x_wn))) x_wn (by decide) rfl ?_
      refine x_aload (np := 1) (x := 0) (by decide +kernel) rfl (x_nc_le (by decide)) ?_
      have b104 := jB (e := 7) 0 j96 rg_75_7_0_1 (by first | decide | omega) (by first | decide | omega)
      refine x_getC (np := 4) (x := 711) (f := 7) (q := (h94 75 7)) (by decide +kernel) (by decide) (by decide +kernel) rfl (fun l105 => ?_)
      refine x_aload (np := 5) (x := 0) (by decide +kernel) rfl (x_nc_le (by decide)) ?_
      have q106 : h94 75 8 = h4 75 8 := jK 0 f95 rg_75_8_0_1 (by first | decide | omega) (by first | decide | omega) (by decide)
      have q107 : h4 75 8 = h 75 8 := jK 0 f6 rg_75_8_0_1 (by first | decide | omega) (by first | decide | omega) (by decide)
      have b108 := jB (e := 8) 0 hJ rg_75_8_0_1 (by first | decide | omega) (by first | decide | omega)
      refine x_getC (np := 8) (x := 712) (f := 8) (q := (h 75 8)) (by decide +kernel) (by decide) (by decide +kernel) (q106.trans q107) (fun l109 => ?_)
      refine x_icmp (k := 3) (tg := 41) (np := 11) (by decide +kernel) (by decide) l105 l109 (fun q110 => ?_) (fun q111 => ?_)
      · have q110 : (h 75 8) ≤ (h94 75 7) := q110
        refine x_const (np := 42) (x := 9223372039002259456) (a := 2147483648) (by decide +kernel) (by decide) (by decide) ?_
        refine x_retI (np := 43) (x := 0) (by decide +kernel) (by decide) (Or.inr ⟨by decide +kernel, by first | decide | omega, by first | decide | omega⟩) ⟨_, rfl, (by decide), ?_⟩
        refine x_ifz (k := 0) (tg := 28) (np := 15) (by decide +kernel) (by decide) (by decide) (fun q112 => ?_) (fun q113 => ?_)
        · have q112 : 2147483648 = 2147483648 := q112
          have q114 : h94 75 9 = h4 75 9 := jK 0 f95 rg_75_9_0_1 (by first | decide | omega) (by first | decide | omega) (by decide)
          have q115 : h94 75 9 = h4 75 9 := jK 0 f95 rg_75_9_0_1 (by first | decide | omega) (by first | decide | omega) (by decide)
          have q116 : h94 75 8 = h4 75 8 := jK 0 f95 rg_75_8_0_1 (by first | decide | omega) (by first | decide | omega) (by decide)
          have q117 : h4 75 8 = h 75 8 := jK 0 f6 rg_75_8_0_1 (by first | decide | omega) (by first | decide | omega) (by decide)
          have m120 := Tq.fr hT f6 (by decide) (by decide)
          have m119 := Tq.fr m120 f95 (by decide) (by decide)
          have z118 := m119.1
          refine x_retV (np := 29) (x := 0) (by decide +kernel) (by decide +kernel) ⟨rfl, ?_⟩
          exact ⟨j96, f103, (by first | decide | omega), (by first | decide | omega), m100.1, ((m100.2.trans (le9_stop (fun z => by have z1 := z.1; have z2 := z.2.1; have z3 := z.2.2; omega))).symm)⟩
        have q113 : ¬ (2147483648 = 2147483648) := q113
        exfalso; omega
      have q111 : ¬ ((h 75 8) ≤ (h94 75 7)) := q111
      refine x_aload (np := 12) (x := 0) (by decide +kernel) rfl (x_nc_le (by decide)) ?_
      have q121 : h94 75 5 = 79 := by have z := jB (e := 5) 0 j96 rg_75_5_0_1 (by decide) (by decide); omega
      refine x_getR (np := 15) (x := 709) (f := 5) (q := 79) (by decide +kernel) (by decide) (by decide +kernel) q121 ?_
      refine x_aload (np := 16) (x := 0) (by decide +kernel) rfl (x_nc_le (by decide)) ?_
      refine x_getC (np := 19) (x := 711) (f := 7) (q := (h94 75 7)) (by decide +kernel) (by decide) (by decide +kernel) rfl (fun l122 => ?_)
      obtain ⟨u123, q124⟩ : ∃ z, (h94 75 7) = 2147483648 + z := ⟨(h94 75 7) - 2147483648, by first | decide | omega⟩
      have q125 : h94 79 u123 = h4 79 u123 := jK u123 f95 rg_79_0_1_400 (by first | decide | omega) (by first | decide | omega) (by decide)
      have q126 : h4 79 u123 = h 79 u123 := jK u123 f6 rg_79_0_1_400 (by first | decide | omega) (by first | decide | omega) (by decide)
      have b127 := jB (e := u123) u123 hJ rg_79_0_1_400 (by first | decide | omega) (by first | decide | omega)
      refine x_baldC (np := 20) (x := 0) (n := 400) (i := u123) (q := (h 79 u123)) (by decide +kernel) (by decide +kernel) (by first | decide | omega) (by first | decide | omega) (by decide) (q125.trans q126) (fun l128 => ?_)
      refine x_iload (np := 21) (x := 1) (by decide +kernel) rfl (by decide) ?_
      refine x_icmp (k := 2) (tg := 41) (np := 24) (by decide +kernel) (by decide) l128 (by decide) (fun q129 => ?_) (fun q130 => ?_)
      · have q129 : (h 79 u123) < 2147483745 := q129
        refine x_const (np := 42) (x := 9223372039002259456) (a := 2147483648) (by decide +kernel) (by decide) (by decide) ?_
        refine x_retI (np := 43) (x := 0) (by decide +kernel) (by decide) (Or.inr ⟨by decide +kernel, by first | decide | omega, by first | decide | omega⟩) ⟨_, rfl, (by decide), ?_⟩
        refine x_ifz (k := 0) (tg := 28) (np := 15) (by decide +kernel) (by decide) (by decide) (fun q131 => ?_) (fun q132 => ?_)
        · have q131 : 2147483648 = 2147483648 := q131
          have q133 : h94 75 9 = h4 75 9 := jK 0 f95 rg_75_9_0_1 (by first | decide | omega) (by first | decide | omega) (by decide)
          have q134 : h94 75 9 = h4 75 9 := jK 0 f95 rg_75_9_0_1 (by first | decide | omega) (by first | decide | omega) (by decide)
          have q135 : h94 75 8 = h4 75 8 := jK 0 f95 rg_75_8_0_1 (by first | decide | omega) (by first | decide | omega) (by decide)
          have q136 : h4 75 8 = h 75 8 := jK 0 f6 rg_75_8_0_1 (by first | decide | omega) (by first | decide | omega) (by decide)
          have m139 := Tq.fr hT f6 (by decide) (by decide)
          have m138 := Tq.fr m139 f95 (by decide) (by decide)
          have z137 := m138.1
          have q140 : h94 79 u123 = h4 79 u123 := jK u123 f95 rg_79_0_1_400 (by first | decide | omega) (by first | decide | omega) (by decide)
          have q141 : h4 79 u123 = h 79 u123 := jK u123 f6 rg_79_0_1_400 (by first | decide | omega) (by first | decide | omega) (by decide)
          have z142 := Tq.at (p := (h94 75 7)) (u := u123) m138 (by first | decide | omega) (by first | decide | omega)
          refine x_retV (np := 29) (x := 0) (by decide +kernel) (by decide +kernel) ⟨rfl, ?_⟩
          exact ⟨j96, f103, (by first | decide | omega), (by first | decide | omega), m100.1, ((m100.2.trans (le9_stop (fun z => by have z1 := z.1; have z2 := z.2.1; have z3 := z.2.2; omega))).symm)⟩
        have q132 : ¬ (2147483648 = 2147483648) := q132
        exfalso; omega
      have q130 : ¬ ((h 79 u123) < 2147483745) := q130
      refine x_aload (np := 25) (x := 0) (by decide +kernel) rfl (x_nc_le (by decide)) ?_
      have q143 : h94 75 5 = 79 := by have z := jB (e := 5) 0 j96 rg_75_5_0_1 (by decide) (by decide); omega
      refine x_getR (np := 28) (x := 709) (f := 5) (q := 79) (by decide +kernel) (by decide) (by decide +kernel) q143 ?_
      refine x_aload (np := 29) (x := 0) (by decide +kernel) rfl (x_nc_le (by decide)) ?_
      refine x_getC (np := 32) (x := 711) (f := 7) (q := (h94 75 7)) (by decide +kernel) (by decide) (by decide +kernel) rfl (fun l144 => ?_)
      have q145 : h94 79 u123 = h4 79 u123 := jK u123 f95 rg_79_0_1_400 (by first | decide | omega) (by first | decide | omega) (by decide)
      have q146 : h4 79 u123 = h 79 u123 := jK u123 f6 rg_79_0_1_400 (by first | decide | omega) (by first | decide | omega) (by decide)
      refine x_baldC (np := 33) (x := 0) (n := 400) (i := u123) (q := (h 79 u123)) (by decide +kernel) (by decide +kernel) (by first | decide | omega) (by first | decide | omega) (by decide) (q145.trans q146) (fun l147 => ?_)
      refine x_iload (np := 34) (x := 2) (by decide +kernel) rfl (by decide) ?_
      refine x_icmp (k := 4) (tg := 41) (np := 37) (by decide +kernel) (by decide) l128 (by decide) (fun q148 => ?_) (fun q149 => ?_)
      · have q148 : 2147483770 < (h 79 u123) := q148
        refine x_const (np := 42) (x := 9223372039002259456) (a := 2147483648) (by decide +kernel) (by decide) (by decide) ?_
        refine x_retI (np := 43) (x := 0) (by decide +kernel) (by decide) (Or.inr ⟨by decide +kernel, by first | decide | omega, by first | decide | omega⟩) ⟨_, rfl, (by decide), ?_⟩
        refine x_ifz (k := 0) (tg := 28) (np := 15) (by decide +kernel) (by decide) (by decide) (fun q150 => ?_) (fun q151 => ?_)
        · have q150 : 2147483648 = 2147483648 := q150
          have q152 : h94 75 9 = h4 75 9 := jK 0 f95 rg_75_9_0_1 (by first | decide | omega) (by first | decide | omega) (by decide)
          have q153 : h94 75 9 = h4 75 9 := jK 0 f95 rg_75_9_0_1 (by first | decide | omega) (by first | decide | omega) (by decide)
          have q154 : h94 75 8 = h4 75 8 := jK 0 f95 rg_75_8_0_1 (by first | decide | omega) (by first | decide | omega) (by decide)
          have q155 : h4 75 8 = h 75 8 := jK 0 f6 rg_75_8_0_1 (by first | decide | omega) (by first | decide | omega) (by decide)
          have m158 := Tq.fr hT f6 (by decide) (by decide)
          have m157 := Tq.fr m158 f95 (by decide) (by decide)
          have z156 := m157.1
          have q159 : h94 79 u123 = h4 79 u123 := jK u123 f95 rg_79_0_1_400 (by first | decide | omega) (by first | decide | omega) (by decide)
          have q160 : h4 79 u123 = h 79 u123 := jK u123 f6 rg_79_0_1_400 (by first | decide | omega) (by first | decide | omega) (by decide)
          have z161 := Tq.at (p := (h94 75 7)) (u := u123) m157 (by first | decide | omega) (by first | decide | omega)
          refine x_retV (np := 29) (x := 0) (by decide +kernel) (by decide +kernel) ⟨rfl, ?_⟩
          exact ⟨j96, f103, (by first | decide | omega), (by first | decide | omega), m100.1, ((m100.2.trans (le9_stop (fun z => by have z1 := z.1; have z2 := z.2.1; have z3 := z.2.2; omega))).symm)⟩
        have q151 : ¬ (2147483648 = 2147483648) := q151
        exfalso; omega
      have q149 : ¬ (2147483770 < (h 79 u123)) := q149
      refine x_const (np := 38) (x := 9223372043297226753) (a := 2147483649) (by decide +kernel) (by decide) (by decide) ?_
      refine x_goto (np := 41) (x := 42) (by decide +kernel) ?_
      refine x_retI (np := 43) (x := 0) (by decide +kernel) (by decide) (Or.inr ⟨by decide +kernel, by first | decide | omega, by first | decide | omega⟩) ⟨_, rfl, (by decide), ?_⟩
      refine x_ifz (k := 0) (tg := 28) (np := 15) (by decide +kernel) (by decide) (by decide) (fun q162 => ?_) (fun q163 => ?_)
      · have q162 : 2147483649 = 2147483648 := q162
        exfalso; omega
      have q163 : ¬ (2147483649 = 2147483648) := q163
      refine x_aload (np := 16) (x := 0) (by decide +kernel) rfl (x_nc_le (by decide)) ?_
      refine x_dup (np := 17) (x := 0) (by decide +kernel) (by have z := x_nc_le (k := 75) (by decide); unfold x_r; omega) ?_
      refine x_getC (np := 20) (x := 711) (f := 7) (q := (h94 75 7)) (by decide +kernel) (by decide) (by decide +kernel) rfl (fun l164 => ?_)
      refine x_const (np := 21) (x := 9223372043297226753) (a := 2147483649) (by decide +kernel) (by decide) (by decide) ?_
      refine x_iadd (np := 22) (x := 0) (v := (1 + (h94 75 7))) (by decide +kernel) l105 (by decide) (by first | decide | omega) (by first | decide | omega) ?_
      refine x_putI (np := 25) (x := 711) (f := 7) (by decide +kernel) (by decide +kernel) (by first | decide | omega) (Or.inl (by decide)) ?_
      have j166 := jU (e := 7) (v := (1 + (h94 75 7))) 0 j96 rg_75_7_0_1 (by first | decide | omega) (by first | decide | omega) (by first | decide | omega)
      have f168 := jF (e := 7) (v := (1 + (h94 75 7))) 0 f103 rg_75_7_0_1 (by first | decide | omega) (by first | decide | omega) (by decide)
      have f169 := jF (e := 7) (v := (1 + (h94 75 7))) 0 f95 rg_75_7_0_1 (by first | decide | omega) (by first | decide | omega) (by decide)
      generalize e167 : x_up h94 75 7 (1 + (h94 75 7)) = h165 at j166 f168 f169 ⊢
      refine x_goto (np := 28) (x := 4) (by decide +kernel) ?_
      have q170 : h165 75 7 = (1 + (h94 75 7)) := by rw [← e167]; exact x_up_at
      have q171 : h165 75 7 = (1 + (h94 75 7)) := by rw [← e167]; exact x_up_at
      have q172 : h165 75 9 = h94 75 9 := by rw [← e167]; exact x_up_i (by first | decide | omega)
      have q173 : h94 75 9 = h4 75 9 := jK 0 f95 rg_75_9_0_1 (by first | decide | omega) (by first | decide | omega) (by decide)
      have q174 : h94 75 8 = h4 75 8 := jK 0 f95 rg_75_8_0_1 (by first | decide | omega) (by first | decide | omega) (by decide)
      have q175 : h4 75 8 = h 75 8 := jK 0 f6 rg_75_8_0_1 (by first | decide | omega) (by first | decide | omega) (by decide)
      have m178 := Tq.fr hT f6 (by decide) (by decide)
      have m177 := Tq.fr m178 f95 (by decide) (by decide)
      have z176 := m177.1
      have q179 : h94 79 u123 = h4 79 u123 := jK u123 f95 rg_79_0_1_400 (by first | decide | omega) (by first | decide | omega) (by decide)
      have q180 : h4 79 u123 = h 79 u123 := jK u123 f6 rg_79_0_1_400 (by first | decide | omega) (by first | decide | omega) (by decide)
      have z181 := Tq.at (p := (h94 75 7)) (u := u123) m177 (by first | decide | omega) (by first | decide | omega)
      have q182 : h165 75 7 = (1 + (h94 75 7)) := by rw [← e167]; exact x_up_at
      have q183 : h165 75 9 = h94 75 9 := by rw [← e167]; exact x_up_i (by first | decide | omega)
      have q184 : h94 75 9 = h4 75 9 := jK 0 f95 rg_75_9_0_1 (by first | decide | omega) (by first | decide | omega) (by decide)
      have q185 : h94 75 9 = h4 75 9 := jK 0 f95 rg_75_9_0_1 (by first | decide | omega) (by first | decide | omega) (by decide)
      exact i102  h165 (by first | decide | omega) (by first | decide | omega) (by first | decide | omega) j166 f169 ⟨(show h165 75 9 = h94 75 9 by first | decide | omega).trans m100.1, (congrArg (le9 tB tN) (show h165 75 9 = h94 75 9 by first | decide | omega)).trans (m100.2.trans ((le9_step ⟨by first | decide | omega, by first | decide | omega, by first | decide | omega⟩).trans (congrArg (le9 tB tN) (show h94 75 7 + 1 = h165 75 7 by first | decide | omega))))⟩
  exact p97 _  h4 (Nat.lt_succ_self _) (by first | decide | omega) (by first | decide | omega) j5 (Fr.refl _ _) ⟨(show h4 75 9 = h4 75 7 by first | decide | omega).trans c11, congrArg (le9 tB tN) (show h4 75 9 = h4 75 7 by first | decide | omega)⟩
set_option maxHeartbeats 0 in
/-- LentNamesModel.isWord(Ljava/lang/String;)Z -/
theorem c170_75_S0 {sc : Nat × Nat} {d ia1 : Nat} {h : xh} {tB : Nat → Nat} {tN : Nat} (hJ : J h) (hia1 : ia1 < 32) (hT : Tq tB tN h) : X sc 170 (d + 4) (xI fun r h' => h' = h ∧ (2147483648 ≤ r ∧ r ≤ 2147483649) ∧ (r = 2147483649 → h 75 7 = h 75 9 + iv_tl ia1) ∧ Is (Wm tB ia1 (h 75 9) (h 75 7)) r) 0 0 0 [x_r 75, x_b (ia1 + 1), 147573952589676412928, 147573952589676412928] [] h := by
  refine x_aload (np := 1) (x := 0) (by decide +kernel) rfl (x_nc_le (by decide)) ?_
  have b1 := jB (e := 7) 0 hJ rg_75_7_0_1 (by first | decide | omega) (by first | decide | omega)
  refine x_getC (np := 4) (x := 711) (f := 7) (q := (h 75 7)) (by decide +kernel) (by decide) (by decide +kernel) rfl (fun l2 => ?_)
  refine x_aload (np := 5) (x := 0) (by decide +kernel) rfl (x_nc_le (by decide)) ?_
  have b3 := jB (e := 9) 0 hJ rg_75_9_0_1 (by first | decide | omega) (by first | decide | omega)
  refine x_getC (np := 8) (x := 713) (f := 9) (q := (h 75 9)) (by decide +kernel) (by decide) (by decide +kernel) rfl (fun l4 => ?_)
  obtain ⟨v5, q6⟩ : ∃ z, z + (h 75 9) = (h 75 7) + 2147483648 := ⟨(h 75 7) + 2147483648 - (h 75 9), by first | decide | omega⟩
  refine x_isub (np := 9) (x := 0) (v := v5) (by decide +kernel) l2 l4 (by first | decide | omega) (by first | decide | omega) ?_
  refine x_aloadB (i := ia1) (k4 := 1) rfl hia1 (by rw [tb_b170]; decide +kernel) ?_
  have b7 := (iv_tl_lt ia1 hia1).1
  have b8 := iv_tl_ge ia1 hia1
  refine x_len (by decide +kernel) (by rw [tb_y170]; exact sl_Ml) hia1 (by rw [tb_b170]; decide +kernel) (Nat.le_trans (x_wi (by first | decide | omega) x_wn) (by decide)) ?_
  refine x_icmp (k := 1) (tg := 20) (np := 16) (by decide +kernel) (by decide) (by first | decide | omega) (by first | decide | omega) (fun q9 => ?_) (fun q10 => ?_)
  · have q9 : v5 ≠ (2147483648 + (iv_tl ia1)) := q9
    refine x_const (np := 21) (x := 9223372039002259456) (a := 2147483648) (by decide +kernel) (by decide) (by decide) ?_
    refine x_istore (np := 22) (x := 2) (lo' := [x_r 75, x_b (ia1 + 1), iv_c 2147483648, 147573952589676412928]) (by decide +kernel) (by decide) (Nat.le_of_ble_eq_true rfl) rfl ?_
    refine x_const (np := 23) (x := 9223372039002259456) (a := 2147483648) (by decide +kernel) (by decide) (by decide) ?_
    refine x_istore (np := 24) (x := 3) (lo' := [x_r 75, x_b (ia1 + 1), iv_c 2147483648, iv_c 2147483648]) (by decide +kernel) (by decide) (Nat.le_of_ble_eq_true rfl) rfl ?_
    have p21 : ∀ (n : Nat) (v17 : Nat) (v19 : Nat), 0 < n → (2147483648 ≤ v17 ∧ v17 ≤ 2147483648) → (2147483648 ≤ v19 ∧ v19 ≤ 2147483648) → Wi tB ia1 (h 75 9) (h 75 7) v17 v19 → X sc 170 (d + 4) (xI fun r h' => h' = h ∧ (2147483648 ≤ r ∧ r ≤ 2147483649) ∧ (r = 2147483649 → h 75 7 = h 75 9 + iv_tl ia1) ∧ Is (Wm tB ia1 (h 75 9) (h 75 7)) r) 0 0 24 [x_r 75, x_b (ia1 + 1), iv_c v17, iv_c v19] [] h := by
      intro n
      induction n with
      | zero => intro v17 v19 q23; exact absurd q23 (Nat.not_lt_zero _)
      | succ n i24 =>
        intro v17 v19 q23 b18 b20 m22
        refine x_iload (np := 25) (x := 2) (by decide +kernel) rfl (by first | decide | omega) ?_
        refine x_ifz (k := 0) (tg := 67) (np := 28) (by decide +kernel) (by decide) (by first | decide | omega) (fun q25 => ?_) (fun q26 => ?_)
        · have q25 : v17 = 2147483648 := q25
          refine x_iload (np := 68) (x := 2) (by decide +kernel) rfl (by first | decide | omega) ?_
          have b27 := iv_tl_ge ia1 hia1
          refine x_retI (np := 69) (x := 0) (by decide +kernel) (by first | decide | omega) (Or.inr ⟨by decide +kernel, by first | decide | omega, by first | decide | omega⟩) ⟨_, rfl, (by first | decide | omega), ?_⟩
          exact ⟨rfl, (by first | decide | omega), (fun z => by first | decide | omega), (Wi.is m22 (by first | decide | omega) (by first | decide | omega))⟩
        have q26 : ¬ (v17 = 2147483648) := q26
        exfalso; omega
    exact p21 _ 2147483648 2147483648 (Nat.lt_succ_self _) (by first | decide | omega) (by first | decide | omega) (Wi.in0 (by first | decide | omega) (by first | decide | omega))
  have q10 : ¬ (v5 ≠ (2147483648 + (iv_tl ia1))) := q10
  refine x_const (np := 17) (x := 9223372043297226753) (a := 2147483649) (by decide +kernel) (by decide) (by decide) ?_
  refine x_goto (np := 20) (x := 21) (by decide +kernel) ?_
  refine x_istore (np := 22) (x := 2) (lo' := [x_r 75, x_b (ia1 + 1), iv_c 2147483649, 147573952589676412928]) (by decide +kernel) (by decide) (Nat.le_of_ble_eq_true rfl) rfl ?_
  refine x_const (np := 23) (x := 9223372039002259456) (a := 2147483648) (by decide +kernel) (by decide) (by decide) ?_
  refine x_istore (np := 24) (x := 3) (lo' := [x_r 75, x_b (ia1 + 1), iv_c 2147483649, iv_c 2147483648]) (by decide +kernel) (by decide) (Nat.le_of_ble_eq_true rfl) rfl ?_
  have p354 : ∀ (n : Nat) (v350 : Nat) (v352 : Nat), 4294967296 - v352 < n → (2147483648 ≤ v350 ∧ v350 ≤ 2147483649) → (2147483648 ≤ v352 ∧ v352 ≤ 2147483667) → Wi tB ia1 (h 75 9) (h 75 7) v350 v352 → X sc 170 (d + 4) (xI fun r h' => h' = h ∧ (2147483648 ≤ r ∧ r ≤ 2147483649) ∧ (r = 2147483649 → h 75 7 = h 75 9 + iv_tl ia1) ∧ Is (Wm tB ia1 (h 75 9) (h 75 7)) r) 0 0 24 [x_r 75, x_b (ia1 + 1), iv_c v350, iv_c v352] [] h := by
    intro n
    induction n with
    | zero => intro v350 v352 q356; exact absurd q356 (Nat.not_lt_zero _)
    | succ n i357 =>
      intro v350 v352 q356 b351 b353 m355
      refine x_iload (np := 25) (x := 2) (by decide +kernel) rfl (by first | decide | omega) ?_
      refine x_ifz (k := 0) (tg := 67) (np := 28) (by decide +kernel) (by decide) (by first | decide | omega) (fun q358 => ?_) (fun q359 => ?_)
      · have q358 : v350 = 2147483648 := q358
        refine x_iload (np := 68) (x := 2) (by decide +kernel) rfl (by first | decide | omega) ?_
        have b360 := iv_tl_ge ia1 hia1
        refine x_retI (np := 69) (x := 0) (by decide +kernel) (by first | decide | omega) (Or.inr ⟨by decide +kernel, by first | decide | omega, by first | decide | omega⟩) ⟨_, rfl, (by first | decide | omega), ?_⟩
        exact ⟨rfl, (by first | decide | omega), (fun z => by first | decide | omega), (Wi.is m355 (by first | decide | omega) (by first | decide | omega))⟩
      have q359 : ¬ (v350 = 2147483648) := q359
      refine x_iload (np := 29) (x := 3) (by decide +kernel) rfl (by first | decide | omega) ?_
      refine x_aloadB (i := ia1) (k4 := 1) rfl hia1 (by rw [tb_b170]; decide +kernel) ?_
      have b361 := (iv_tl_lt ia1 hia1).1
      have b362 := iv_tl_ge ia1 hia1
      refine x_len (by decide +kernel) (by rw [tb_y170]; exact sl_Ml) hia1 (by rw [tb_b170]; decide +kernel) (Nat.le_trans (x_wi (by first | decide | omega) x_wn) (by decide)) ?_
      refine x_icmp (k := 3) (tg := 67) (np := 36) (by decide +kernel) (by decide) (by first | decide | omega) (by first | decide | omega) (fun q363 => ?_) (fun q364 => ?_)
      · have q363 : (2147483648 + (iv_tl ia1)) ≤ v352 := q363
        refine x_iload (np := 68) (x := 2) (by decide +kernel) rfl (by first | decide | omega) ?_
        have b365 := iv_tl_ge ia1 hia1
        refine x_retI (np := 69) (x := 0) (by decide +kernel) (by first | decide | omega) (Or.inr ⟨by decide +kernel, by first | decide | omega, by first | decide | omega⟩) ⟨_, rfl, (by first | decide | omega), ?_⟩
        exact ⟨rfl, (by first | decide | omega), (fun z => by first | decide | omega), (Wi.is m355 (by first | decide | omega) (by first | decide | omega))⟩
      have q364 : ¬ ((2147483648 + (iv_tl ia1)) ≤ v352) := q364
      refine x_aload (np := 37) (x := 0) (by decide +kernel) rfl (x_nc_le (by decide)) ?_
      have q366 : h 75 5 = 79 := by have z := jB (e := 5) 0 hJ rg_75_5_0_1 (by decide) (by decide); omega
      refine x_getR (np := 40) (x := 709) (f := 5) (q := 79) (by decide +kernel) (by decide) (by decide +kernel) q366 ?_
      refine x_aload (np := 41) (x := 0) (by decide +kernel) rfl (x_nc_le (by decide)) ?_
      refine x_getC (np := 44) (x := 713) (f := 9) (q := (h 75 9)) (by decide +kernel) (by decide) (by decide +kernel) rfl (fun l367 => ?_)
      refine x_iload (np := 45) (x := 3) (by decide +kernel) rfl (by first | decide | omega) ?_
      obtain ⟨v368, q369⟩ : ∃ z, z + 2147483648 = (h 75 9) + v352 := ⟨(h 75 9) + v352 - 2147483648, by first | decide | omega⟩
      refine x_iadd (np := 46) (x := 0) (v := v368) (by decide +kernel) l4 (by first | decide | omega) (by first | decide | omega) (by first | decide | omega) ?_
      obtain ⟨u370, q371⟩ : ∃ z, v368 = 2147483648 + z := ⟨v368 - 2147483648, by first | decide | omega⟩
      have b372 := jB (e := u370) u370 hJ rg_79_0_1_400 (by first | decide | omega) (by first | decide | omega)
      refine x_baldC (np := 47) (x := 0) (n := 400) (i := u370) (q := (h 79 u370)) (by decide +kernel) (by decide +kernel) (by first | decide | omega) (by first | decide | omega) (by decide) rfl (fun l373 => ?_)
      refine x_aloadB (i := ia1) (k4 := 1) rfl hia1 (by rw [tb_b170]; decide +kernel) ?_
      refine x_iload (np := 49) (x := 3) (by decide +kernel) rfl (by first | decide | omega) ?_
      obtain ⟨u375, q376⟩ : ∃ z, v352 = 2147483648 + z := ⟨v352 - 2147483648, by first | decide | omega⟩
      have b374 := (iv_tl_lt ia1 hia1).2 u375 (by first | decide | omega)
      refine x_chr (j := u375) (by decide +kernel) (by rw [tb_y170]; exact sl_Mc) hia1 (by first | decide | omega) (by first | decide | omega) (by rw [tb_b170]; decide +kernel) (Nat.le_trans (x_wi l373 x_wn) (by decide)) ?_
      refine x_icmp (k := 1) (tg := 59) (np := 55) (by decide +kernel) (by decide) l373 (by first | decide | omega) (fun q377 => ?_) (fun q378 => ?_)
      · have q377 : (h 79 u370) ≠ (2147483648 + (iv_tc ia1 u375)) := q377
        refine x_const (np := 60) (x := 9223372039002259456) (a := 2147483648) (by decide +kernel) (by decide) (by decide) ?_
        refine x_istore (np := 61) (x := 2) (lo' := [x_r 75, x_b (ia1 + 1), iv_c 2147483648, iv_c v352]) (by decide +kernel) (by decide) (Nat.le_of_ble_eq_true rfl) rfl ?_
        refine x_iinc (np := 64) (i := 3) (j := 2147483649) (v := (1 + v352)) (lo' := [x_r 75, x_b (ia1 + 1), iv_c 2147483648, iv_c (1 + v352)]) (by decide +kernel) (by decide) (by decide) rfl (by first | decide | omega) (by first | decide | omega) (by first | decide | omega) rfl ?_
        refine x_goto (np := 67) (x := 24) (by decide +kernel) ?_
        have z379 := Tq.at (p := (h 75 9 + u375)) (u := u370) hT (by first | decide | omega) (by first | decide | omega)
        exact i357 2147483648 (1 + v352) (by first | decide | omega) (by first | decide | omega) (by first | decide | omega) (Wi.st0 (x := u375) (by first | decide | omega) (by first | decide | omega) (by first | decide | omega))
      have q378 : ¬ ((h 79 u370) ≠ (2147483648 + (iv_tc ia1 u375))) := q378
      refine x_const (np := 56) (x := 9223372043297226753) (a := 2147483649) (by decide +kernel) (by decide) (by decide) ?_
      refine x_goto (np := 59) (x := 60) (by decide +kernel) ?_
      refine x_istore (np := 61) (x := 2) (lo' := [x_r 75, x_b (ia1 + 1), iv_c 2147483649, iv_c v352]) (by decide +kernel) (by decide) (Nat.le_of_ble_eq_true rfl) rfl ?_
      refine x_iinc (np := 64) (i := 3) (j := 2147483649) (v := (1 + v352)) (lo' := [x_r 75, x_b (ia1 + 1), iv_c 2147483649, iv_c (1 + v352)]) (by decide +kernel) (by decide) (by decide) rfl (by first | decide | omega) (by first | decide | omega) (by first | decide | omega) rfl ?_
      refine x_goto (np := 67) (x := 24) (by decide +kernel) ?_
      have z380 := Tq.at (p := (h 75 9 + u375)) (u := u370) hT (by first | decide | omega) (by first | decide | omega)
      exact i357 2147483649 (1 + v352) (by first | decide | omega) (by first | decide | omega) (by first | decide | omega) (Wi.st1 (x := u375) m355 (by first | decide | omega) (by first | decide | omega) (by first | decide | omega) (by first | decide | omega) (by first | decide | omega))
  exact p354 _ 2147483649 2147483648 (Nat.lt_succ_self _) (by first | decide | omega) (by first | decide | omega) (Wi.in1 (by first | decide | omega) (by first | decide | omega) (by first | decide | omega))
set_option maxHeartbeats 0 in
/-- LentNamesModel.number(II)I -/
theorem c174_75 {sc : Nat × Nat} {d a1 a2 : Nat} {h : xh} {tB : Nat → Nat} {tN : Nat} (hJ : J h) (ba1 : 2147483648 ≤ a1 ∧ a1 ≤ 2147483659) (ba2 : 2147483647 ≤ a2 ∧ a2 ≤ 2147484769) (hT : Tq tB tN h) : X sc 174 (d + 2) (xI fun r h' => J h' ∧ Fr 5242881 h h' ∧ (2147483647 ≤ r ∧ r ≤ 2147484769) ∧ (h 75 7 + 0 ≤ h' 75 7) ∧ (2147483648 ≤ r → h 75 7 + 1 ≤ h' 75 7) ∧ (2147483648 ≤ r → r ≤ a2) ∧ (2147483648 ≤ r → a1 ≤ r) ∧ (2147483647 ≤ a2 → r ≤ a2) ∧ Nr tB tN a1 a2 (sk tB tN (h 75 7)) r (sk tB tN (h' 75 7)) ∧ h' 75 9 = sk tB tN (h 75 7)) 0 0 0 [x_r 75, iv_c a1, iv_c a2, 147573952589676412928] [] h := by
  have la1 : a1 < 4294967296 := by first | decide | omega
  have la2 : a2 < 4294967296 := by first | decide | omega
  have hF := Fr.refl 5242881 h
  refine x_aload (np := 1) (x := 0) (by decide +kernel) rfl (x_nc_le (by decide)) ?_
  refine x_cV (t := 6) (mj := 168) (n := 1) (rc := 12) (ml := 1) (nr := 0) (np := 4) (as := [x_r 75]) (rest := []) (lo1 := [x_r 75]) (by decide +kernel) (by decide) (by decide +kernel) (x_rb_of (by decide +kernel)) rfl rfl (x_wr (by decide) x_wn) x_wn (by decide) rfl (c168_75 hJ  hT) (fun h4 q3 => ?_)
  obtain ⟨j5, f6, c9, c10, c11, c12⟩ := q3
  have f13 := Fr.trans hF f6 (by decide)
  have b14 := jB (e := 7) 0 hJ rg_75_7_0_1 (by first | decide | omega) (by first | decide | omega)
  have b15 := jB (e := 7) 0 j5 rg_75_7_0_1 (by first | decide | omega) (by first | decide | omega)
  have b16 := jB (e := 9) 0 j5 rg_75_9_0_1 (by first | decide | omega) (by first | decide | omega)
  refine x_const (np := 5) (x := 9223372039002259456) (a := 2147483648) (by decide +kernel) (by decide) (by decide) ?_
  refine x_istore (np := 6) (x := 3) (lo' := [x_r 75, iv_c a1, iv_c a2, iv_c 2147483648]) (by decide +kernel) (by decide) (Nat.le_of_ble_eq_true rfl) rfl ?_
  have p286 : ∀ (n : Nat) (v281 : Nat) (h283 : xh), 4294967296 - h283 75 7 < n → (2147483648 ≤ v281 ∧ v281 ≤ 2147484769) → h 75 7 ≤ h283 75 9 → h283 75 9 ≤ h283 75 7 → J h283 → Fr 1048576 h4 h283 → Ni tB tN (h283 75 9) (h283 75 7) v281 → X sc 174 (d + 2) (xI fun r h' => J h' ∧ Fr 5242881 h h' ∧ (2147483647 ≤ r ∧ r ≤ 2147484769) ∧ (h 75 7 + 0 ≤ h' 75 7) ∧ (2147483648 ≤ r → h 75 7 + 1 ≤ h' 75 7) ∧ (2147483648 ≤ r → r ≤ a2) ∧ (2147483648 ≤ r → a1 ≤ r) ∧ (2147483647 ≤ a2 → r ≤ a2) ∧ Nr tB tN a1 a2 (sk tB tN (h 75 7)) r (sk tB tN (h' 75 7)) ∧ h' 75 9 = sk tB tN (h 75 7)) 0 0 6 [x_r 75, iv_c a1, iv_c a2, iv_c v281] [] h283 := by
    intro n
    induction n with
    | zero => intro v281 h283 q290; exact absurd q290 (Nat.not_lt_zero _)
    | succ n i291 =>
      intro v281 h283 q290 b282 b287 b288 j285 f284 m289
      have f292 := Fr.trans f13 f284 (by decide)
      refine x_aload (np := 7) (x := 0) (by decide +kernel) rfl (x_nc_le (by decide)) ?_
      refine x_const (np := 9) (x := 9223372245160689712) (a := 2147483696) (by decide +kernel) (by decide) (by decide) ?_
      refine x_const (np := 11) (x := 9223372283815395385) (a := 2147483705) (by decide +kernel) (by decide) (by decide) ?_
      refine x_nI (t := 6) (mj := 167) (n := 3) (rc := 12) (ml := 3) (nr := 0) (np := 14) (as := [x_r 75, iv_c 2147483696, iv_c 2147483705]) (rest := []) (lo1 := [x_r 75, iv_c 2147483696, iv_c 2147483705]) (by decide +kernel) (by decide) (by decide +kernel) (x_rb_of (by decide +kernel)) rfl rfl (x_wr (by decide) (x_wi (by decide) (x_wi (by decide) x_wn))) x_wn (by decide) rfl ?_
      refine x_aload (np := 1) (x := 0) (by decide +kernel) rfl (x_nc_le (by decide)) ?_
      have b293 := jB (e := 7) 0 j285 rg_75_7_0_1 (by first | decide | omega) (by first | decide | omega)
      refine x_getC (np := 4) (x := 711) (f := 7) (q := (h283 75 7)) (by decide +kernel) (by decide) (by decide +kernel) rfl (fun l294 => ?_)
      refine x_aload (np := 5) (x := 0) (by decide +kernel) rfl (x_nc_le (by decide)) ?_
      have q295 : h283 75 8 = h4 75 8 := jK 0 f284 rg_75_8_0_1 (by first | decide | omega) (by first | decide | omega) (by decide)
      have q296 : h4 75 8 = h 75 8 := jK 0 f6 rg_75_8_0_1 (by first | decide | omega) (by first | decide | omega) (by decide)
      have b297 := jB (e := 8) 0 hJ rg_75_8_0_1 (by first | decide | omega) (by first | decide | omega)
      refine x_getC (np := 8) (x := 712) (f := 8) (q := (h 75 8)) (by decide +kernel) (by decide) (by decide +kernel) (q295.trans q296) (fun l298 => ?_)
      refine x_icmp (k := 3) (tg := 41) (np := 11) (by decide +kernel) (by decide) l294 l298 (fun q299 => ?_) (fun q300 => ?_)
      · have q299 : (h 75 8) ≤ (h283 75 7) := q299
        refine x_const (np := 42) (x := 9223372039002259456) (a := 2147483648) (by decide +kernel) (by decide) (by decide) ?_
        refine x_retI (np := 43) (x := 0) (by decide +kernel) (by decide) (Or.inr ⟨by decide +kernel, by first | decide | omega, by first | decide | omega⟩) ⟨_, rfl, (by decide), ?_⟩
        refine x_ifz (k := 0) (tg := 65) (np := 17) (by decide +kernel) (by decide) (by decide) (fun q301 => ?_) (fun q302 => ?_)
        · have q301 : 2147483648 = 2147483648 := q301
          refine x_aload (np := 66) (x := 0) (by decide +kernel) rfl (x_nc_le (by decide)) ?_
          refine x_getC (np := 69) (x := 711) (f := 7) (q := (h283 75 7)) (by decide +kernel) (by decide) (by decide +kernel) rfl (fun l303 => ?_)
          refine x_aload (np := 70) (x := 0) (by decide +kernel) rfl (x_nc_le (by decide)) ?_
          have q304 : h283 75 9 = h4 75 9 := jK 0 f284 rg_75_9_0_1 (by first | decide | omega) (by first | decide | omega) (by decide)
          refine x_getC (np := 73) (x := 713) (f := 9) (q := (h4 75 9)) (by decide +kernel) (by decide) (by decide +kernel) q304 (fun l305 => ?_)
          refine x_icmp (k := 0) (tg := 99) (np := 76) (by decide +kernel) (by decide) l294 l305 (fun q306 => ?_) (fun q307 => ?_)
          · have q306 : (h283 75 7) = (h4 75 9) := q306
            refine x_const (np := 100) (x := 9223372034707292159) (a := 2147483647) (by decide +kernel) (by decide) (by decide) ?_
            refine x_goto (np := 103) (x := 104) (by decide +kernel) ?_
            have q308 : h283 75 9 = h4 75 9 := jK 0 f284 rg_75_9_0_1 (by first | decide | omega) (by first | decide | omega) (by decide)
            have q309 : h283 75 8 = h4 75 8 := jK 0 f284 rg_75_8_0_1 (by first | decide | omega) (by first | decide | omega) (by decide)
            have q310 : h4 75 8 = h 75 8 := jK 0 f6 rg_75_8_0_1 (by first | decide | omega) (by first | decide | omega) (by decide)
            have m313 := Tq.fr hT f6 (by decide) (by decide)
            have m312 := Tq.fr m313 f284 (by decide) (by decide)
            have z311 := m312.1
            have e314 : h283 75 9 = sk tB tN (h 75 7) := (show h283 75 9 = h4 75 7 by first | decide | omega).trans c11
            have q315 : h283 75 9 = h4 75 9 := jK 0 f284 rg_75_9_0_1 (by first | decide | omega) (by first | decide | omega) (by decide)
            refine x_retI (np := 105) (x := 0) (by decide +kernel) (by decide) (Or.inl (by decide +kernel)) ⟨_, rfl, (by decide), ?_⟩
            exact ⟨j285, f292, (by first | decide | omega), (by first | decide | omega), (fun z => by first | decide | omega), (fun z => by first | decide | omega), (fun z => by first | decide | omega), (fun z => by first | decide | omega), (Nr.cast (Nr.nob (by first | decide | omega) (Ni.nb0 m289 (by first | decide | omega) (fun z => by have z1 := z.1; have z2 := z.2.1; have z3 := z.2.2; omega))) e314), (Eq.trans (show h283 75 9 = h4 75 9 by first | decide | omega) c12)⟩
          have q307 : ¬ ((h283 75 7) = (h4 75 9)) := q307
          refine x_aload (np := 77) (x := 0) (by decide +kernel) rfl (x_nc_le (by decide)) ?_
          refine x_getC (np := 80) (x := 711) (f := 7) (q := (h283 75 7)) (by decide +kernel) (by decide) (by decide +kernel) rfl (fun l316 => ?_)
          refine x_aload (np := 81) (x := 0) (by decide +kernel) rfl (x_nc_le (by decide)) ?_
          have q317 : h283 75 9 = h4 75 9 := jK 0 f284 rg_75_9_0_1 (by first | decide | omega) (by first | decide | omega) (by decide)
          refine x_getC (np := 84) (x := 713) (f := 9) (q := (h4 75 9)) (by decide +kernel) (by decide) (by decide +kernel) q317 (fun l318 => ?_)
          obtain ⟨v319, q320⟩ : ∃ z, z + (h4 75 9) = (h283 75 7) + 2147483648 := ⟨(h283 75 7) + 2147483648 - (h4 75 9), by first | decide | omega⟩
          refine x_isub (np := 85) (x := 0) (v := v319) (by decide +kernel) l294 l305 (by first | decide | omega) (by first | decide | omega) ?_
          refine x_const (np := 86) (x := 9223372051887161347) (a := 2147483651) (by decide +kernel) (by decide) (by decide) ?_
          refine x_icmp (k := 4) (tg := 99) (np := 89) (by decide +kernel) (by decide) (by first | decide | omega) (by decide) (fun q321 => ?_) (fun q322 => ?_)
          · have q321 : 2147483651 < v319 := q321
            refine x_const (np := 100) (x := 9223372034707292159) (a := 2147483647) (by decide +kernel) (by decide) (by decide) ?_
            refine x_goto (np := 103) (x := 104) (by decide +kernel) ?_
            have q323 : h283 75 9 = h4 75 9 := jK 0 f284 rg_75_9_0_1 (by first | decide | omega) (by first | decide | omega) (by decide)
            have q324 : h283 75 8 = h4 75 8 := jK 0 f284 rg_75_8_0_1 (by first | decide | omega) (by first | decide | omega) (by decide)
            have q325 : h4 75 8 = h 75 8 := jK 0 f6 rg_75_8_0_1 (by first | decide | omega) (by first | decide | omega) (by decide)
            have m328 := Tq.fr hT f6 (by decide) (by decide)
            have m327 := Tq.fr m328 f284 (by decide) (by decide)
            have z326 := m327.1
            have e329 : h283 75 9 = sk tB tN (h 75 7) := (show h283 75 9 = h4 75 7 by first | decide | omega).trans c11
            have q330 : h283 75 9 = h4 75 9 := jK 0 f284 rg_75_9_0_1 (by first | decide | omega) (by first | decide | omega) (by decide)
            refine x_retI (np := 105) (x := 0) (by decide +kernel) (by decide) (Or.inl (by decide +kernel)) ⟨_, rfl, (by decide), ?_⟩
            exact ⟨j285, f292, (by first | decide | omega), (by first | decide | omega), (fun z => by first | decide | omega), (fun z => by first | decide | omega), (fun z => by first | decide | omega), (fun z => by first | decide | omega), (Nr.cast (Nr.nob (by first | decide | omega) (Ni.nb4 m289 (by first | decide | omega))) e329), (Eq.trans (show h283 75 9 = h4 75 9 by first | decide | omega) c12)⟩
          have q322 : ¬ (2147483651 < v319) := q322
          refine x_iload (np := 90) (x := 3) (by decide +kernel) rfl (by first | decide | omega) ?_
          refine x_iload (np := 91) (x := 1) (by decide +kernel) rfl la1 ?_
          refine x_icmp (k := 2) (tg := 99) (np := 94) (by decide +kernel) (by decide) (by first | decide | omega) la1 (fun q331 => ?_) (fun q332 => ?_)
          · have q331 : v281 < a1 := q331
            refine x_const (np := 100) (x := 9223372034707292159) (a := 2147483647) (by decide +kernel) (by decide) (by decide) ?_
            refine x_goto (np := 103) (x := 104) (by decide +kernel) ?_
            have q333 : h283 75 9 = h4 75 9 := jK 0 f284 rg_75_9_0_1 (by first | decide | omega) (by first | decide | omega) (by decide)
            have q334 : h283 75 8 = h4 75 8 := jK 0 f284 rg_75_8_0_1 (by first | decide | omega) (by first | decide | omega) (by decide)
            have q335 : h4 75 8 = h 75 8 := jK 0 f6 rg_75_8_0_1 (by first | decide | omega) (by first | decide | omega) (by decide)
            have m338 := Tq.fr hT f6 (by decide) (by decide)
            have m337 := Tq.fr m338 f284 (by decide) (by decide)
            have z336 := m337.1
            have e339 : h283 75 9 = sk tB tN (h 75 7) := (show h283 75 9 = h4 75 7 by first | decide | omega).trans c11
            have q340 : h283 75 9 = h4 75 9 := jK 0 f284 rg_75_9_0_1 (by first | decide | omega) (by first | decide | omega) (by decide)
            refine x_retI (np := 105) (x := 0) (by decide +kernel) (by decide) (Or.inl (by decide +kernel)) ⟨_, rfl, (by decide), ?_⟩
            exact ⟨j285, f292, (by first | decide | omega), (by first | decide | omega), (fun z => by first | decide | omega), (fun z => by first | decide | omega), (fun z => by first | decide | omega), (fun z => by first | decide | omega), (Nr.cast (Ni.rng m289 (by first | decide | omega) (by first | decide | omega) (fun z => by have z1 := z.1; have z2 := z.2.1; have z3 := z.2.2; omega) (by first | decide | omega) (by first | decide | omega)) e339), (Eq.trans (show h283 75 9 = h4 75 9 by first | decide | omega) c12)⟩
          have q332 : ¬ (v281 < a1) := q332
          refine x_iload (np := 95) (x := 3) (by decide +kernel) rfl (by first | decide | omega) ?_
          refine x_iload (np := 96) (x := 2) (by decide +kernel) rfl la2 ?_
          refine x_icmp (k := 5) (tg := 103) (np := 99) (by decide +kernel) (by decide) (by first | decide | omega) la2 (fun q341 => ?_) (fun q342 => ?_)
          · have q341 : v281 ≤ a2 := q341
            refine x_iload (np := 104) (x := 3) (by decide +kernel) rfl (by first | decide | omega) ?_
            have q343 : h283 75 9 = h4 75 9 := jK 0 f284 rg_75_9_0_1 (by first | decide | omega) (by first | decide | omega) (by decide)
            have q344 : h283 75 8 = h4 75 8 := jK 0 f284 rg_75_8_0_1 (by first | decide | omega) (by first | decide | omega) (by decide)
            have q345 : h4 75 8 = h 75 8 := jK 0 f6 rg_75_8_0_1 (by first | decide | omega) (by first | decide | omega) (by decide)
            have m348 := Tq.fr hT f6 (by decide) (by decide)
            have m347 := Tq.fr m348 f284 (by decide) (by decide)
            have z346 := m347.1
            have e349 : h283 75 9 = sk tB tN (h 75 7) := (show h283 75 9 = h4 75 7 by first | decide | omega).trans c11
            have q350 : h283 75 9 = h4 75 9 := jK 0 f284 rg_75_9_0_1 (by first | decide | omega) (by first | decide | omega) (by decide)
            refine x_retI (np := 105) (x := 0) (by decide +kernel) (by first | decide | omega) (Or.inl (by decide +kernel)) ⟨_, rfl, (by first | decide | omega), ?_⟩
            exact ⟨j285, f292, (by first | decide | omega), (by first | decide | omega), (fun z => by first | decide | omega), (fun z => by first | decide | omega), (fun z => by first | decide | omega), (fun z => by first | decide | omega), (Nr.cast (Ni.val m289 (by first | decide | omega) (by first | decide | omega) (fun z => by have z1 := z.1; have z2 := z.2.1; have z3 := z.2.2; omega) (by first | decide | omega) (by first | decide | omega) (by first | decide | omega) (by first | decide | omega)) e349), (Eq.trans (show h283 75 9 = h4 75 9 by first | decide | omega) c12)⟩
          have q342 : ¬ (v281 ≤ a2) := q342
          refine x_const (np := 100) (x := 9223372034707292159) (a := 2147483647) (by decide +kernel) (by decide) (by decide) ?_
          refine x_goto (np := 103) (x := 104) (by decide +kernel) ?_
          have q351 : h283 75 9 = h4 75 9 := jK 0 f284 rg_75_9_0_1 (by first | decide | omega) (by first | decide | omega) (by decide)
          have q352 : h283 75 8 = h4 75 8 := jK 0 f284 rg_75_8_0_1 (by first | decide | omega) (by first | decide | omega) (by decide)
          have q353 : h4 75 8 = h 75 8 := jK 0 f6 rg_75_8_0_1 (by first | decide | omega) (by first | decide | omega) (by decide)
          have m356 := Tq.fr hT f6 (by decide) (by decide)
          have m355 := Tq.fr m356 f284 (by decide) (by decide)
          have z354 := m355.1
          have e357 : h283 75 9 = sk tB tN (h 75 7) := (show h283 75 9 = h4 75 7 by first | decide | omega).trans c11
          have q358 : h283 75 9 = h4 75 9 := jK 0 f284 rg_75_9_0_1 (by first | decide | omega) (by first | decide | omega) (by decide)
          refine x_retI (np := 105) (x := 0) (by decide +kernel) (by decide) (Or.inl (by decide +kernel)) ⟨_, rfl, (by decide), ?_⟩
          exact ⟨j285, f292, (by first | decide | omega), (by first | decide | omega), (fun z => by first | decide | omega), (fun z => by first | decide | omega), (fun z => by first | decide | omega), (fun z => by first | decide | omega), (Nr.cast (Ni.rng m289 (by first | decide | omega) (by first | decide | omega) (fun z => by have z1 := z.1; have z2 := z.2.1; have z3 := z.2.2; omega) (by first | decide | omega) (by first | decide | omega)) e357), (Eq.trans (show h283 75 9 = h4 75 9 by first | decide | omega) c12)⟩
        have q302 : ¬ (2147483648 = 2147483648) := q302
        exfalso; omega
      have q300 : ¬ ((h 75 8) ≤ (h283 75 7)) := q300
      refine x_aload (np := 12) (x := 0) (by decide +kernel) rfl (x_nc_le (by decide)) ?_
      have q359 : h283 75 5 = 79 := by have z := jB (e := 5) 0 j285 rg_75_5_0_1 (by decide) (by decide); omega
      refine x_getR (np := 15) (x := 709) (f := 5) (q := 79) (by decide +kernel) (by decide) (by decide +kernel) q359 ?_
      refine x_aload (np := 16) (x := 0) (by decide +kernel) rfl (x_nc_le (by decide)) ?_
      refine x_getC (np := 19) (x := 711) (f := 7) (q := (h283 75 7)) (by decide +kernel) (by decide) (by decide +kernel) rfl (fun l360 => ?_)
      obtain ⟨u361, q362⟩ : ∃ z, (h283 75 7) = 2147483648 + z := ⟨(h283 75 7) - 2147483648, by first | decide | omega⟩
      have q363 : h283 79 u361 = h4 79 u361 := jK u361 f284 rg_79_0_1_400 (by first | decide | omega) (by first | decide | omega) (by decide)
      have q364 : h4 79 u361 = h 79 u361 := jK u361 f6 rg_79_0_1_400 (by first | decide | omega) (by first | decide | omega) (by decide)
      have b365 := jB (e := u361) u361 hJ rg_79_0_1_400 (by first | decide | omega) (by first | decide | omega)
      refine x_baldC (np := 20) (x := 0) (n := 400) (i := u361) (q := (h 79 u361)) (by decide +kernel) (by decide +kernel) (by first | decide | omega) (by first | decide | omega) (by decide) (q363.trans q364) (fun l366 => ?_)
      refine x_iload (np := 21) (x := 1) (by decide +kernel) rfl (by decide) ?_
      refine x_icmp (k := 2) (tg := 41) (np := 24) (by decide +kernel) (by decide) l366 (by decide) (fun q367 => ?_) (fun q368 => ?_)
      · have q367 : (h 79 u361) < 2147483696 := q367
        refine x_const (np := 42) (x := 9223372039002259456) (a := 2147483648) (by decide +kernel) (by decide) (by decide) ?_
        refine x_retI (np := 43) (x := 0) (by decide +kernel) (by decide) (Or.inr ⟨by decide +kernel, by first | decide | omega, by first | decide | omega⟩) ⟨_, rfl, (by decide), ?_⟩
        refine x_ifz (k := 0) (tg := 65) (np := 17) (by decide +kernel) (by decide) (by decide) (fun q369 => ?_) (fun q370 => ?_)
        · have q369 : 2147483648 = 2147483648 := q369
          refine x_aload (np := 66) (x := 0) (by decide +kernel) rfl (x_nc_le (by decide)) ?_
          refine x_getC (np := 69) (x := 711) (f := 7) (q := (h283 75 7)) (by decide +kernel) (by decide) (by decide +kernel) rfl (fun l371 => ?_)
          refine x_aload (np := 70) (x := 0) (by decide +kernel) rfl (x_nc_le (by decide)) ?_
          have q372 : h283 75 9 = h4 75 9 := jK 0 f284 rg_75_9_0_1 (by first | decide | omega) (by first | decide | omega) (by decide)
          refine x_getC (np := 73) (x := 713) (f := 9) (q := (h4 75 9)) (by decide +kernel) (by decide) (by decide +kernel) q372 (fun l373 => ?_)
          refine x_icmp (k := 0) (tg := 99) (np := 76) (by decide +kernel) (by decide) l294 l373 (fun q374 => ?_) (fun q375 => ?_)
          · have q374 : (h283 75 7) = (h4 75 9) := q374
            refine x_const (np := 100) (x := 9223372034707292159) (a := 2147483647) (by decide +kernel) (by decide) (by decide) ?_
            refine x_goto (np := 103) (x := 104) (by decide +kernel) ?_
            have q376 : h283 75 9 = h4 75 9 := jK 0 f284 rg_75_9_0_1 (by first | decide | omega) (by first | decide | omega) (by decide)
            have q377 : h283 75 8 = h4 75 8 := jK 0 f284 rg_75_8_0_1 (by first | decide | omega) (by first | decide | omega) (by decide)
            have q378 : h4 75 8 = h 75 8 := jK 0 f6 rg_75_8_0_1 (by first | decide | omega) (by first | decide | omega) (by decide)
            have m381 := Tq.fr hT f6 (by decide) (by decide)
            have m380 := Tq.fr m381 f284 (by decide) (by decide)
            have z379 := m380.1
            have q382 : h283 79 u361 = h4 79 u361 := jK u361 f284 rg_79_0_1_400 (by first | decide | omega) (by first | decide | omega) (by decide)
            have q383 : h4 79 u361 = h 79 u361 := jK u361 f6 rg_79_0_1_400 (by first | decide | omega) (by first | decide | omega) (by decide)
            have z384 := Tq.at (p := (h283 75 7)) (u := u361) m380 (by first | decide | omega) (by first | decide | omega)
            have e385 : h283 75 9 = sk tB tN (h 75 7) := (show h283 75 9 = h4 75 7 by first | decide | omega).trans c11
            have q386 : h283 75 9 = h4 75 9 := jK 0 f284 rg_75_9_0_1 (by first | decide | omega) (by first | decide | omega) (by decide)
            refine x_retI (np := 105) (x := 0) (by decide +kernel) (by decide) (Or.inl (by decide +kernel)) ⟨_, rfl, (by decide), ?_⟩
            exact ⟨j285, f292, (by first | decide | omega), (by first | decide | omega), (fun z => by first | decide | omega), (fun z => by first | decide | omega), (fun z => by first | decide | omega), (fun z => by first | decide | omega), (Nr.cast (Nr.nob (by first | decide | omega) (Ni.nb0 m289 (by first | decide | omega) (fun z => by have z1 := z.1; have z2 := z.2.1; have z3 := z.2.2; omega))) e385), (Eq.trans (show h283 75 9 = h4 75 9 by first | decide | omega) c12)⟩
          have q375 : ¬ ((h283 75 7) = (h4 75 9)) := q375
          refine x_aload (np := 77) (x := 0) (by decide +kernel) rfl (x_nc_le (by decide)) ?_
          refine x_getC (np := 80) (x := 711) (f := 7) (q := (h283 75 7)) (by decide +kernel) (by decide) (by decide +kernel) rfl (fun l387 => ?_)
          refine x_aload (np := 81) (x := 0) (by decide +kernel) rfl (x_nc_le (by decide)) ?_
          have q388 : h283 75 9 = h4 75 9 := jK 0 f284 rg_75_9_0_1 (by first | decide | omega) (by first | decide | omega) (by decide)
          refine x_getC (np := 84) (x := 713) (f := 9) (q := (h4 75 9)) (by decide +kernel) (by decide) (by decide +kernel) q388 (fun l389 => ?_)
          obtain ⟨v390, q391⟩ : ∃ z, z + (h4 75 9) = (h283 75 7) + 2147483648 := ⟨(h283 75 7) + 2147483648 - (h4 75 9), by first | decide | omega⟩
          refine x_isub (np := 85) (x := 0) (v := v390) (by decide +kernel) l294 l373 (by first | decide | omega) (by first | decide | omega) ?_
          refine x_const (np := 86) (x := 9223372051887161347) (a := 2147483651) (by decide +kernel) (by decide) (by decide) ?_
          refine x_icmp (k := 4) (tg := 99) (np := 89) (by decide +kernel) (by decide) (by first | decide | omega) (by decide) (fun q392 => ?_) (fun q393 => ?_)
          · have q392 : 2147483651 < v390 := q392
            refine x_const (np := 100) (x := 9223372034707292159) (a := 2147483647) (by decide +kernel) (by decide) (by decide) ?_
            refine x_goto (np := 103) (x := 104) (by decide +kernel) ?_
            have q394 : h283 75 9 = h4 75 9 := jK 0 f284 rg_75_9_0_1 (by first | decide | omega) (by first | decide | omega) (by decide)
            have q395 : h283 75 8 = h4 75 8 := jK 0 f284 rg_75_8_0_1 (by first | decide | omega) (by first | decide | omega) (by decide)
            have q396 : h4 75 8 = h 75 8 := jK 0 f6 rg_75_8_0_1 (by first | decide | omega) (by first | decide | omega) (by decide)
            have m399 := Tq.fr hT f6 (by decide) (by decide)
            have m398 := Tq.fr m399 f284 (by decide) (by decide)
            have z397 := m398.1
            have q400 : h283 79 u361 = h4 79 u361 := jK u361 f284 rg_79_0_1_400 (by first | decide | omega) (by first | decide | omega) (by decide)
            have q401 : h4 79 u361 = h 79 u361 := jK u361 f6 rg_79_0_1_400 (by first | decide | omega) (by first | decide | omega) (by decide)
            have z402 := Tq.at (p := (h283 75 7)) (u := u361) m398 (by first | decide | omega) (by first | decide | omega)
            have e403 : h283 75 9 = sk tB tN (h 75 7) := (show h283 75 9 = h4 75 7 by first | decide | omega).trans c11
            have q404 : h283 75 9 = h4 75 9 := jK 0 f284 rg_75_9_0_1 (by first | decide | omega) (by first | decide | omega) (by decide)
            refine x_retI (np := 105) (x := 0) (by decide +kernel) (by decide) (Or.inl (by decide +kernel)) ⟨_, rfl, (by decide), ?_⟩
            exact ⟨j285, f292, (by first | decide | omega), (by first | decide | omega), (fun z => by first | decide | omega), (fun z => by first | decide | omega), (fun z => by first | decide | omega), (fun z => by first | decide | omega), (Nr.cast (Nr.nob (by first | decide | omega) (Ni.nb4 m289 (by first | decide | omega))) e403), (Eq.trans (show h283 75 9 = h4 75 9 by first | decide | omega) c12)⟩
          have q393 : ¬ (2147483651 < v390) := q393
          refine x_iload (np := 90) (x := 3) (by decide +kernel) rfl (by first | decide | omega) ?_
          refine x_iload (np := 91) (x := 1) (by decide +kernel) rfl la1 ?_
          refine x_icmp (k := 2) (tg := 99) (np := 94) (by decide +kernel) (by decide) (by first | decide | omega) la1 (fun q405 => ?_) (fun q406 => ?_)
          · have q405 : v281 < a1 := q405
            refine x_const (np := 100) (x := 9223372034707292159) (a := 2147483647) (by decide +kernel) (by decide) (by decide) ?_
            refine x_goto (np := 103) (x := 104) (by decide +kernel) ?_
            have q407 : h283 75 9 = h4 75 9 := jK 0 f284 rg_75_9_0_1 (by first | decide | omega) (by first | decide | omega) (by decide)
            have q408 : h283 75 8 = h4 75 8 := jK 0 f284 rg_75_8_0_1 (by first | decide | omega) (by first | decide | omega) (by decide)
            have q409 : h4 75 8 = h 75 8 := jK 0 f6 rg_75_8_0_1 (by first | decide | omega) (by first | decide | omega) (by decide)
            have m412 := Tq.fr hT f6 (by decide) (by decide)
            have m411 := Tq.fr m412 f284 (by decide) (by decide)
            have z410 := m411.1
            have q413 : h283 79 u361 = h4 79 u361 := jK u361 f284 rg_79_0_1_400 (by first | decide | omega) (by first | decide | omega) (by decide)
            have q414 : h4 79 u361 = h 79 u361 := jK u361 f6 rg_79_0_1_400 (by first | decide | omega) (by first | decide | omega) (by decide)
            have z415 := Tq.at (p := (h283 75 7)) (u := u361) m411 (by first | decide | omega) (by first | decide | omega)
            have e416 : h283 75 9 = sk tB tN (h 75 7) := (show h283 75 9 = h4 75 7 by first | decide | omega).trans c11
            have q417 : h283 75 9 = h4 75 9 := jK 0 f284 rg_75_9_0_1 (by first | decide | omega) (by first | decide | omega) (by decide)
            refine x_retI (np := 105) (x := 0) (by decide +kernel) (by decide) (Or.inl (by decide +kernel)) ⟨_, rfl, (by decide), ?_⟩
            exact ⟨j285, f292, (by first | decide | omega), (by first | decide | omega), (fun z => by first | decide | omega), (fun z => by first | decide | omega), (fun z => by first | decide | omega), (fun z => by first | decide | omega), (Nr.cast (Ni.rng m289 (by first | decide | omega) (by first | decide | omega) (fun z => by have z1 := z.1; have z2 := z.2.1; have z3 := z.2.2; omega) (by first | decide | omega) (by first | decide | omega)) e416), (Eq.trans (show h283 75 9 = h4 75 9 by first | decide | omega) c12)⟩
          have q406 : ¬ (v281 < a1) := q406
          refine x_iload (np := 95) (x := 3) (by decide +kernel) rfl (by first | decide | omega) ?_
          refine x_iload (np := 96) (x := 2) (by decide +kernel) rfl la2 ?_
          refine x_icmp (k := 5) (tg := 103) (np := 99) (by decide +kernel) (by decide) (by first | decide | omega) la2 (fun q418 => ?_) (fun q419 => ?_)
          · have q418 : v281 ≤ a2 := q418
            refine x_iload (np := 104) (x := 3) (by decide +kernel) rfl (by first | decide | omega) ?_
            have q420 : h283 75 9 = h4 75 9 := jK 0 f284 rg_75_9_0_1 (by first | decide | omega) (by first | decide | omega) (by decide)
            have q421 : h283 75 8 = h4 75 8 := jK 0 f284 rg_75_8_0_1 (by first | decide | omega) (by first | decide | omega) (by decide)
            have q422 : h4 75 8 = h 75 8 := jK 0 f6 rg_75_8_0_1 (by first | decide | omega) (by first | decide | omega) (by decide)
            have m425 := Tq.fr hT f6 (by decide) (by decide)
            have m424 := Tq.fr m425 f284 (by decide) (by decide)
            have z423 := m424.1
            have q426 : h283 79 u361 = h4 79 u361 := jK u361 f284 rg_79_0_1_400 (by first | decide | omega) (by first | decide | omega) (by decide)
            have q427 : h4 79 u361 = h 79 u361 := jK u361 f6 rg_79_0_1_400 (by first | decide | omega) (by first | decide | omega) (by decide)
            have z428 := Tq.at (p := (h283 75 7)) (u := u361) m424 (by first | decide | omega) (by first | decide | omega)
            have e429 : h283 75 9 = sk tB tN (h 75 7) := (show h283 75 9 = h4 75 7 by first | decide | omega).trans c11
            have q430 : h283 75 9 = h4 75 9 := jK 0 f284 rg_75_9_0_1 (by first | decide | omega) (by first | decide | omega) (by decide)
            refine x_retI (np := 105) (x := 0) (by decide +kernel) (by first | decide | omega) (Or.inl (by decide +kernel)) ⟨_, rfl, (by first | decide | omega), ?_⟩
            exact ⟨j285, f292, (by first | decide | omega), (by first | decide | omega), (fun z => by first | decide | omega), (fun z => by first | decide | omega), (fun z => by first | decide | omega), (fun z => by first | decide | omega), (Nr.cast (Ni.val m289 (by first | decide | omega) (by first | decide | omega) (fun z => by have z1 := z.1; have z2 := z.2.1; have z3 := z.2.2; omega) (by first | decide | omega) (by first | decide | omega) (by first | decide | omega) (by first | decide | omega)) e429), (Eq.trans (show h283 75 9 = h4 75 9 by first | decide | omega) c12)⟩
          have q419 : ¬ (v281 ≤ a2) := q419
          refine x_const (np := 100) (x := 9223372034707292159) (a := 2147483647) (by decide +kernel) (by decide) (by decide) ?_
          refine x_goto (np := 103) (x := 104) (by decide +kernel) ?_
          have q431 : h283 75 9 = h4 75 9 := jK 0 f284 rg_75_9_0_1 (by first | decide | omega) (by first | decide | omega) (by decide)
          have q432 : h283 75 8 = h4 75 8 := jK 0 f284 rg_75_8_0_1 (by first | decide | omega) (by first | decide | omega) (by decide)
          have q433 : h4 75 8 = h 75 8 := jK 0 f6 rg_75_8_0_1 (by first | decide | omega) (by first | decide | omega) (by decide)
          have m436 := Tq.fr hT f6 (by decide) (by decide)
          have m435 := Tq.fr m436 f284 (by decide) (by decide)
          have z434 := m435.1
          have q437 : h283 79 u361 = h4 79 u361 := jK u361 f284 rg_79_0_1_400 (by first | decide | omega) (by first | decide | omega) (by decide)
          have q438 : h4 79 u361 = h 79 u361 := jK u361 f6 rg_79_0_1_400 (by first | decide | omega) (by first | decide | omega) (by decide)
          have z439 := Tq.at (p := (h283 75 7)) (u := u361) m435 (by first | decide | omega) (by first | decide | omega)
          have e440 : h283 75 9 = sk tB tN (h 75 7) := (show h283 75 9 = h4 75 7 by first | decide | omega).trans c11
          have q441 : h283 75 9 = h4 75 9 := jK 0 f284 rg_75_9_0_1 (by first | decide | omega) (by first | decide | omega) (by decide)
          refine x_retI (np := 105) (x := 0) (by decide +kernel) (by decide) (Or.inl (by decide +kernel)) ⟨_, rfl, (by decide), ?_⟩
          exact ⟨j285, f292, (by first | decide | omega), (by first | decide | omega), (fun z => by first | decide | omega), (fun z => by first | decide | omega), (fun z => by first | decide | omega), (fun z => by first | decide | omega), (Nr.cast (Ni.rng m289 (by first | decide | omega) (by first | decide | omega) (fun z => by have z1 := z.1; have z2 := z.2.1; have z3 := z.2.2; omega) (by first | decide | omega) (by first | decide | omega)) e440), (Eq.trans (show h283 75 9 = h4 75 9 by first | decide | omega) c12)⟩
        have q370 : ¬ (2147483648 = 2147483648) := q370
        exfalso; omega
      have q368 : ¬ ((h 79 u361) < 2147483696) := q368
      refine x_aload (np := 25) (x := 0) (by decide +kernel) rfl (x_nc_le (by decide)) ?_
      have q442 : h283 75 5 = 79 := by have z := jB (e := 5) 0 j285 rg_75_5_0_1 (by decide) (by decide); omega
      refine x_getR (np := 28) (x := 709) (f := 5) (q := 79) (by decide +kernel) (by decide) (by decide +kernel) q442 ?_
      refine x_aload (np := 29) (x := 0) (by decide +kernel) rfl (x_nc_le (by decide)) ?_
      refine x_getC (np := 32) (x := 711) (f := 7) (q := (h283 75 7)) (by decide +kernel) (by decide) (by decide +kernel) rfl (fun l443 => ?_)
      have q444 : h283 79 u361 = h4 79 u361 := jK u361 f284 rg_79_0_1_400 (by first | decide | omega) (by first | decide | omega) (by decide)
      have q445 : h4 79 u361 = h 79 u361 := jK u361 f6 rg_79_0_1_400 (by first | decide | omega) (by first | decide | omega) (by decide)
      refine x_baldC (np := 33) (x := 0) (n := 400) (i := u361) (q := (h 79 u361)) (by decide +kernel) (by decide +kernel) (by first | decide | omega) (by first | decide | omega) (by decide) (q444.trans q445) (fun l446 => ?_)
      refine x_iload (np := 34) (x := 2) (by decide +kernel) rfl (by decide) ?_
      refine x_icmp (k := 4) (tg := 41) (np := 37) (by decide +kernel) (by decide) l366 (by decide) (fun q447 => ?_) (fun q448 => ?_)
      · have q447 : 2147483705 < (h 79 u361) := q447
        refine x_const (np := 42) (x := 9223372039002259456) (a := 2147483648) (by decide +kernel) (by decide) (by decide) ?_
        refine x_retI (np := 43) (x := 0) (by decide +kernel) (by decide) (Or.inr ⟨by decide +kernel, by first | decide | omega, by first | decide | omega⟩) ⟨_, rfl, (by decide), ?_⟩
        refine x_ifz (k := 0) (tg := 65) (np := 17) (by decide +kernel) (by decide) (by decide) (fun q449 => ?_) (fun q450 => ?_)
        · have q449 : 2147483648 = 2147483648 := q449
          refine x_aload (np := 66) (x := 0) (by decide +kernel) rfl (x_nc_le (by decide)) ?_
          refine x_getC (np := 69) (x := 711) (f := 7) (q := (h283 75 7)) (by decide +kernel) (by decide) (by decide +kernel) rfl (fun l451 => ?_)
          refine x_aload (np := 70) (x := 0) (by decide +kernel) rfl (x_nc_le (by decide)) ?_
          have q452 : h283 75 9 = h4 75 9 := jK 0 f284 rg_75_9_0_1 (by first | decide | omega) (by first | decide | omega) (by decide)
          refine x_getC (np := 73) (x := 713) (f := 9) (q := (h4 75 9)) (by decide +kernel) (by decide) (by decide +kernel) q452 (fun l453 => ?_)
          refine x_icmp (k := 0) (tg := 99) (np := 76) (by decide +kernel) (by decide) l294 l453 (fun q454 => ?_) (fun q455 => ?_)
          · have q454 : (h283 75 7) = (h4 75 9) := q454
            refine x_const (np := 100) (x := 9223372034707292159) (a := 2147483647) (by decide +kernel) (by decide) (by decide) ?_
            refine x_goto (np := 103) (x := 104) (by decide +kernel) ?_
            have q456 : h283 75 9 = h4 75 9 := jK 0 f284 rg_75_9_0_1 (by first | decide | omega) (by first | decide | omega) (by decide)
            have q457 : h283 75 8 = h4 75 8 := jK 0 f284 rg_75_8_0_1 (by first | decide | omega) (by first | decide | omega) (by decide)
            have q458 : h4 75 8 = h 75 8 := jK 0 f6 rg_75_8_0_1 (by first | decide | omega) (by first | decide | omega) (by decide)
            have m461 := Tq.fr hT f6 (by decide) (by decide)
            have m460 := Tq.fr m461 f284 (by decide) (by decide)
            have z459 := m460.1
            have q462 : h283 79 u361 = h4 79 u361 := jK u361 f284 rg_79_0_1_400 (by first | decide | omega) (by first | decide | omega) (by decide)
            have q463 : h4 79 u361 = h 79 u361 := jK u361 f6 rg_79_0_1_400 (by first | decide | omega) (by first | decide | omega) (by decide)
            have z464 := Tq.at (p := (h283 75 7)) (u := u361) m460 (by first | decide | omega) (by first | decide | omega)
            have e465 : h283 75 9 = sk tB tN (h 75 7) := (show h283 75 9 = h4 75 7 by first | decide | omega).trans c11
            have q466 : h283 75 9 = h4 75 9 := jK 0 f284 rg_75_9_0_1 (by first | decide | omega) (by first | decide | omega) (by decide)
            refine x_retI (np := 105) (x := 0) (by decide +kernel) (by decide) (Or.inl (by decide +kernel)) ⟨_, rfl, (by decide), ?_⟩
            exact ⟨j285, f292, (by first | decide | omega), (by first | decide | omega), (fun z => by first | decide | omega), (fun z => by first | decide | omega), (fun z => by first | decide | omega), (fun z => by first | decide | omega), (Nr.cast (Nr.nob (by first | decide | omega) (Ni.nb0 m289 (by first | decide | omega) (fun z => by have z1 := z.1; have z2 := z.2.1; have z3 := z.2.2; omega))) e465), (Eq.trans (show h283 75 9 = h4 75 9 by first | decide | omega) c12)⟩
          have q455 : ¬ ((h283 75 7) = (h4 75 9)) := q455
          refine x_aload (np := 77) (x := 0) (by decide +kernel) rfl (x_nc_le (by decide)) ?_
          refine x_getC (np := 80) (x := 711) (f := 7) (q := (h283 75 7)) (by decide +kernel) (by decide) (by decide +kernel) rfl (fun l467 => ?_)
          refine x_aload (np := 81) (x := 0) (by decide +kernel) rfl (x_nc_le (by decide)) ?_
          have q468 : h283 75 9 = h4 75 9 := jK 0 f284 rg_75_9_0_1 (by first | decide | omega) (by first | decide | omega) (by decide)
          refine x_getC (np := 84) (x := 713) (f := 9) (q := (h4 75 9)) (by decide +kernel) (by decide) (by decide +kernel) q468 (fun l469 => ?_)
          obtain ⟨v470, q471⟩ : ∃ z, z + (h4 75 9) = (h283 75 7) + 2147483648 := ⟨(h283 75 7) + 2147483648 - (h4 75 9), by first | decide | omega⟩
          refine x_isub (np := 85) (x := 0) (v := v470) (by decide +kernel) l294 l453 (by first | decide | omega) (by first | decide | omega) ?_
          refine x_const (np := 86) (x := 9223372051887161347) (a := 2147483651) (by decide +kernel) (by decide) (by decide) ?_
          refine x_icmp (k := 4) (tg := 99) (np := 89) (by decide +kernel) (by decide) (by first | decide | omega) (by decide) (fun q472 => ?_) (fun q473 => ?_)
          · have q472 : 2147483651 < v470 := q472
            refine x_const (np := 100) (x := 9223372034707292159) (a := 2147483647) (by decide +kernel) (by decide) (by decide) ?_
            refine x_goto (np := 103) (x := 104) (by decide +kernel) ?_
            have q474 : h283 75 9 = h4 75 9 := jK 0 f284 rg_75_9_0_1 (by first | decide | omega) (by first | decide | omega) (by decide)
            have q475 : h283 75 8 = h4 75 8 := jK 0 f284 rg_75_8_0_1 (by first | decide | omega) (by first | decide | omega) (by decide)
            have q476 : h4 75 8 = h 75 8 := jK 0 f6 rg_75_8_0_1 (by first | decide | omega) (by first | decide | omega) (by decide)
            have m479 := Tq.fr hT f6 (by decide) (by decide)
            have m478 := Tq.fr m479 f284 (by decide) (by decide)
            have z477 := m478.1
            have q480 : h283 79 u361 = h4 79 u361 := jK u361 f284 rg_79_0_1_400 (by first | decide | omega) (by first | decide | omega) (by decide)
            have q481 : h4 79 u361 = h 79 u361 := jK u361 f6 rg_79_0_1_400 (by first | decide | omega) (by first | decide | omega) (by decide)
            have z482 := Tq.at (p := (h283 75 7)) (u := u361) m478 (by first | decide | omega) (by first | decide | omega)
            have e483 : h283 75 9 = sk tB tN (h 75 7) := (show h283 75 9 = h4 75 7 by first | decide | omega).trans c11
            have q484 : h283 75 9 = h4 75 9 := jK 0 f284 rg_75_9_0_1 (by first | decide | omega) (by first | decide | omega) (by decide)
            refine x_retI (np := 105) (x := 0) (by decide +kernel) (by decide) (Or.inl (by decide +kernel)) ⟨_, rfl, (by decide), ?_⟩
            exact ⟨j285, f292, (by first | decide | omega), (by first | decide | omega), (fun z => by first | decide | omega), (fun z => by first | decide | omega), (fun z => by first | decide | omega), (fun z => by first | decide | omega), (Nr.cast (Nr.nob (by first | decide | omega) (Ni.nb4 m289 (by first | decide | omega))) e483), (Eq.trans (show h283 75 9 = h4 75 9 by first | decide | omega) c12)⟩
          have q473 : ¬ (2147483651 < v470) := q473
          refine x_iload (np := 90) (x := 3) (by decide +kernel) rfl (by first | decide | omega) ?_
          refine x_iload (np := 91) (x := 1) (by decide +kernel) rfl la1 ?_
          refine x_icmp (k := 2) (tg := 99) (np := 94) (by decide +kernel) (by decide) (by first | decide | omega) la1 (fun q485 => ?_) (fun q486 => ?_)
          · have q485 : v281 < a1 := q485
            refine x_const (np := 100) (x := 9223372034707292159) (a := 2147483647) (by decide +kernel) (by decide) (by decide) ?_
            refine x_goto (np := 103) (x := 104) (by decide +kernel) ?_
            have q487 : h283 75 9 = h4 75 9 := jK 0 f284 rg_75_9_0_1 (by first | decide | omega) (by first | decide | omega) (by decide)
            have q488 : h283 75 8 = h4 75 8 := jK 0 f284 rg_75_8_0_1 (by first | decide | omega) (by first | decide | omega) (by decide)
            have q489 : h4 75 8 = h 75 8 := jK 0 f6 rg_75_8_0_1 (by first | decide | omega) (by first | decide | omega) (by decide)
            have m492 := Tq.fr hT f6 (by decide) (by decide)
            have m491 := Tq.fr m492 f284 (by decide) (by decide)
            have z490 := m491.1
            have q493 : h283 79 u361 = h4 79 u361 := jK u361 f284 rg_79_0_1_400 (by first | decide | omega) (by first | decide | omega) (by decide)
            have q494 : h4 79 u361 = h 79 u361 := jK u361 f6 rg_79_0_1_400 (by first | decide | omega) (by first | decide | omega) (by decide)
            have z495 := Tq.at (p := (h283 75 7)) (u := u361) m491 (by first | decide | omega) (by first | decide | omega)
            have e496 : h283 75 9 = sk tB tN (h 75 7) := (show h283 75 9 = h4 75 7 by first | decide | omega).trans c11
            have q497 : h283 75 9 = h4 75 9 := jK 0 f284 rg_75_9_0_1 (by first | decide | omega) (by first | decide | omega) (by decide)
            refine x_retI (np := 105) (x := 0) (by decide +kernel) (by decide) (Or.inl (by decide +kernel)) ⟨_, rfl, (by decide), ?_⟩
            exact ⟨j285, f292, (by first | decide | omega), (by first | decide | omega), (fun z => by first | decide | omega), (fun z => by first | decide | omega), (fun z => by first | decide | omega), (fun z => by first | decide | omega), (Nr.cast (Ni.rng m289 (by first | decide | omega) (by first | decide | omega) (fun z => by have z1 := z.1; have z2 := z.2.1; have z3 := z.2.2; omega) (by first | decide | omega) (by first | decide | omega)) e496), (Eq.trans (show h283 75 9 = h4 75 9 by first | decide | omega) c12)⟩
          have q486 : ¬ (v281 < a1) := q486
          refine x_iload (np := 95) (x := 3) (by decide +kernel) rfl (by first | decide | omega) ?_
          refine x_iload (np := 96) (x := 2) (by decide +kernel) rfl la2 ?_
          refine x_icmp (k := 5) (tg := 103) (np := 99) (by decide +kernel) (by decide) (by first | decide | omega) la2 (fun q498 => ?_) (fun q499 => ?_)
          · have q498 : v281 ≤ a2 := q498
            refine x_iload (np := 104) (x := 3) (by decide +kernel) rfl (by first | decide | omega) ?_
            have q500 : h283 75 9 = h4 75 9 := jK 0 f284 rg_75_9_0_1 (by first | decide | omega) (by first | decide | omega) (by decide)
            have q501 : h283 75 8 = h4 75 8 := jK 0 f284 rg_75_8_0_1 (by first | decide | omega) (by first | decide | omega) (by decide)
            have q502 : h4 75 8 = h 75 8 := jK 0 f6 rg_75_8_0_1 (by first | decide | omega) (by first | decide | omega) (by decide)
            have m505 := Tq.fr hT f6 (by decide) (by decide)
            have m504 := Tq.fr m505 f284 (by decide) (by decide)
            have z503 := m504.1
            have q506 : h283 79 u361 = h4 79 u361 := jK u361 f284 rg_79_0_1_400 (by first | decide | omega) (by first | decide | omega) (by decide)
            have q507 : h4 79 u361 = h 79 u361 := jK u361 f6 rg_79_0_1_400 (by first | decide | omega) (by first | decide | omega) (by decide)
            have z508 := Tq.at (p := (h283 75 7)) (u := u361) m504 (by first | decide | omega) (by first | decide | omega)
            have e509 : h283 75 9 = sk tB tN (h 75 7) := (show h283 75 9 = h4 75 7 by first | decide | omega).trans c11
            have q510 : h283 75 9 = h4 75 9 := jK 0 f284 rg_75_9_0_1 (by first | decide | omega) (by first | decide | omega) (by decide)
            refine x_retI (np := 105) (x := 0) (by decide +kernel) (by first | decide | omega) (Or.inl (by decide +kernel)) ⟨_, rfl, (by first | decide | omega), ?_⟩
            exact ⟨j285, f292, (by first | decide | omega), (by first | decide | omega), (fun z => by first | decide | omega), (fun z => by first | decide | omega), (fun z => by first | decide | omega), (fun z => by first | decide | omega), (Nr.cast (Ni.val m289 (by first | decide | omega) (by first | decide | omega) (fun z => by have z1 := z.1; have z2 := z.2.1; have z3 := z.2.2; omega) (by first | decide | omega) (by first | decide | omega) (by first | decide | omega) (by first | decide | omega)) e509), (Eq.trans (show h283 75 9 = h4 75 9 by first | decide | omega) c12)⟩
          have q499 : ¬ (v281 ≤ a2) := q499
          refine x_const (np := 100) (x := 9223372034707292159) (a := 2147483647) (by decide +kernel) (by decide) (by decide) ?_
          refine x_goto (np := 103) (x := 104) (by decide +kernel) ?_
          have q511 : h283 75 9 = h4 75 9 := jK 0 f284 rg_75_9_0_1 (by first | decide | omega) (by first | decide | omega) (by decide)
          have q512 : h283 75 8 = h4 75 8 := jK 0 f284 rg_75_8_0_1 (by first | decide | omega) (by first | decide | omega) (by decide)
          have q513 : h4 75 8 = h 75 8 := jK 0 f6 rg_75_8_0_1 (by first | decide | omega) (by first | decide | omega) (by decide)
          have m516 := Tq.fr hT f6 (by decide) (by decide)
          have m515 := Tq.fr m516 f284 (by decide) (by decide)
          have z514 := m515.1
          have q517 : h283 79 u361 = h4 79 u361 := jK u361 f284 rg_79_0_1_400 (by first | decide | omega) (by first | decide | omega) (by decide)
          have q518 : h4 79 u361 = h 79 u361 := jK u361 f6 rg_79_0_1_400 (by first | decide | omega) (by first | decide | omega) (by decide)
          have z519 := Tq.at (p := (h283 75 7)) (u := u361) m515 (by first | decide | omega) (by first | decide | omega)
          have e520 : h283 75 9 = sk tB tN (h 75 7) := (show h283 75 9 = h4 75 7 by first | decide | omega).trans c11
          have q521 : h283 75 9 = h4 75 9 := jK 0 f284 rg_75_9_0_1 (by first | decide | omega) (by first | decide | omega) (by decide)
          refine x_retI (np := 105) (x := 0) (by decide +kernel) (by decide) (Or.inl (by decide +kernel)) ⟨_, rfl, (by decide), ?_⟩
          exact ⟨j285, f292, (by first | decide | omega), (by first | decide | omega), (fun z => by first | decide | omega), (fun z => by first | decide | omega), (fun z => by first | decide | omega), (fun z => by first | decide | omega), (Nr.cast (Ni.rng m289 (by first | decide | omega) (by first | decide | omega) (fun z => by have z1 := z.1; have z2 := z.2.1; have z3 := z.2.2; omega) (by first | decide | omega) (by first | decide | omega)) e520), (Eq.trans (show h283 75 9 = h4 75 9 by first | decide | omega) c12)⟩
        have q450 : ¬ (2147483648 = 2147483648) := q450
        exfalso; omega
      have q448 : ¬ (2147483705 < (h 79 u361)) := q448
      refine x_const (np := 38) (x := 9223372043297226753) (a := 2147483649) (by decide +kernel) (by decide) (by decide) ?_
      refine x_goto (np := 41) (x := 42) (by decide +kernel) ?_
      refine x_retI (np := 43) (x := 0) (by decide +kernel) (by decide) (Or.inr ⟨by decide +kernel, by first | decide | omega, by first | decide | omega⟩) ⟨_, rfl, (by decide), ?_⟩
      refine x_ifz (k := 0) (tg := 65) (np := 17) (by decide +kernel) (by decide) (by decide) (fun q522 => ?_) (fun q523 => ?_)
      · have q522 : 2147483649 = 2147483648 := q522
        exfalso; omega
      have q523 : ¬ (2147483649 = 2147483648) := q523
      refine x_aload (np := 18) (x := 0) (by decide +kernel) rfl (x_nc_le (by decide)) ?_
      refine x_getC (np := 21) (x := 711) (f := 7) (q := (h283 75 7)) (by decide +kernel) (by decide) (by decide +kernel) rfl (fun l524 => ?_)
      refine x_aload (np := 22) (x := 0) (by decide +kernel) rfl (x_nc_le (by decide)) ?_
      have q525 : h283 75 9 = h4 75 9 := jK 0 f284 rg_75_9_0_1 (by first | decide | omega) (by first | decide | omega) (by decide)
      refine x_getC (np := 25) (x := 713) (f := 9) (q := (h4 75 9)) (by decide +kernel) (by decide) (by decide +kernel) q525 (fun l526 => ?_)
      obtain ⟨v527, q528⟩ : ∃ z, z + (h4 75 9) = (h283 75 7) + 2147483648 := ⟨(h283 75 7) + 2147483648 - (h4 75 9), by first | decide | omega⟩
      refine x_isub (np := 26) (x := 0) (v := v527) (by decide +kernel) l294 l526 (by first | decide | omega) (by first | decide | omega) ?_
      refine x_const (np := 27) (x := 9223372051887161347) (a := 2147483651) (by decide +kernel) (by decide) (by decide) ?_
      refine x_icmp (k := 3) (tg := 50) (np := 30) (by decide +kernel) (by decide) (by first | decide | omega) (by decide) (fun q529 => ?_) (fun q530 => ?_)
      · have q529 : 2147483651 ≤ v527 := q529
        refine x_iload (np := 51) (x := 3) (by decide +kernel) rfl (by first | decide | omega) ?_
        refine x_istore (np := 52) (x := 3) (lo' := [x_r 75, iv_c a1, iv_c a2, iv_c v281]) (by decide +kernel) (by first | decide | omega) (Nat.le_of_ble_eq_true rfl) rfl ?_
        refine x_aload (np := 53) (x := 0) (by decide +kernel) rfl (x_nc_le (by decide)) ?_
        refine x_dup (np := 54) (x := 0) (by decide +kernel) (by have z := x_nc_le (k := 75) (by decide); unfold x_r; omega) ?_
        refine x_getC (np := 57) (x := 711) (f := 7) (q := (h283 75 7)) (by decide +kernel) (by decide) (by decide +kernel) rfl (fun l531 => ?_)
        refine x_const (np := 58) (x := 9223372043297226753) (a := 2147483649) (by decide +kernel) (by decide) (by decide) ?_
        refine x_iadd (np := 59) (x := 0) (v := (1 + (h283 75 7))) (by decide +kernel) l294 (by decide) (by first | decide | omega) (by first | decide | omega) ?_
        refine x_putI (np := 62) (x := 711) (f := 7) (by decide +kernel) (by decide +kernel) (by first | decide | omega) (Or.inl (by decide)) ?_
        have j533 := jU (e := 7) (v := (1 + (h283 75 7))) 0 j285 rg_75_7_0_1 (by first | decide | omega) (by first | decide | omega) (by first | decide | omega)
        have f535 := jF (e := 7) (v := (1 + (h283 75 7))) 0 f292 rg_75_7_0_1 (by first | decide | omega) (by first | decide | omega) (by decide)
        have f536 := jF (e := 7) (v := (1 + (h283 75 7))) 0 f284 rg_75_7_0_1 (by first | decide | omega) (by first | decide | omega) (by decide)
        generalize e534 : x_up h283 75 7 (1 + (h283 75 7)) = h532 at j533 f535 f536 ⊢
        refine x_goto (np := 65) (x := 6) (by decide +kernel) ?_
        have q537 : h532 75 7 = (1 + (h283 75 7)) := by rw [← e534]; exact x_up_at
        have q538 : h532 75 7 = (1 + (h283 75 7)) := by rw [← e534]; exact x_up_at
        have q539 : h532 75 9 = h283 75 9 := by rw [← e534]; exact x_up_i (by first | decide | omega)
        have q540 : h283 75 9 = h4 75 9 := jK 0 f284 rg_75_9_0_1 (by first | decide | omega) (by first | decide | omega) (by decide)
        have q541 : h283 75 9 = h4 75 9 := jK 0 f284 rg_75_9_0_1 (by first | decide | omega) (by first | decide | omega) (by decide)
        have q542 : h532 75 7 = (1 + (h283 75 7)) := by rw [← e534]; exact x_up_at
        have q543 : h532 75 9 = h283 75 9 := by rw [← e534]; exact x_up_i (by first | decide | omega)
        have q544 : h283 75 9 = h4 75 9 := jK 0 f284 rg_75_9_0_1 (by first | decide | omega) (by first | decide | omega) (by decide)
        have q545 : h283 75 8 = h4 75 8 := jK 0 f284 rg_75_8_0_1 (by first | decide | omega) (by first | decide | omega) (by decide)
        have q546 : h4 75 8 = h 75 8 := jK 0 f6 rg_75_8_0_1 (by first | decide | omega) (by first | decide | omega) (by decide)
        have m549 := Tq.fr hT f6 (by decide) (by decide)
        have m548 := Tq.fr m549 f284 (by decide) (by decide)
        have z547 := m548.1
        have q550 : h283 79 u361 = h4 79 u361 := jK u361 f284 rg_79_0_1_400 (by first | decide | omega) (by first | decide | omega) (by decide)
        have q551 : h4 79 u361 = h 79 u361 := jK u361 f6 rg_79_0_1_400 (by first | decide | omega) (by first | decide | omega) (by decide)
        have z552 := Tq.at (p := (h283 75 7)) (u := u361) m548 (by first | decide | omega) (by first | decide | omega)
        have q553 : h283 75 9 = h4 75 9 := jK 0 f284 rg_75_9_0_1 (by first | decide | omega) (by first | decide | omega) (by decide)
        exact i291 v281 h532 (by first | decide | omega) (by first | decide | omega) (by first | decide | omega) (by first | decide | omega) j533 f536 (Ni.st3 m289 (by first | decide | omega) ⟨by first | decide | omega, by first | decide | omega, by first | decide | omega⟩ (by first | decide | omega) (by first | decide | omega) (by first | decide | omega))
      have q530 : ¬ (2147483651 ≤ v527) := q530
      have q554 : h283 75 9 = h4 75 9 := jK 0 f284 rg_75_9_0_1 (by first | decide | omega) (by first | decide | omega) (by decide)
      have b555 := Ni.lt m289 (by first | decide | omega)
      have b556 := Ni.ge m289
      refine x_const (np := 32) (x := 9223372081951932426) (a := 2147483658) (by decide +kernel) (by decide) (by decide) ?_
      refine x_iload (np := 33) (x := 3) (by decide +kernel) rfl (by first | decide | omega) ?_
      obtain ⟨u557, q558⟩ : ∃ z, v281 = 2147483648 + z := ⟨v281 - 2147483648, by first | decide | omega⟩
      refine x_imul (np := 34) (x := 0) (i := 10) (j := u557) (v := (2147483648 + 10 * u557)) (by decide +kernel) (by first | decide | omega) (by first | decide | omega) (by first | decide | omega) (by first | decide | omega) (by decide) (by first | decide | omega) ?_
      refine x_aload (np := 35) (x := 0) (by decide +kernel) rfl (x_nc_le (by decide)) ?_
      have q560 : h283 75 5 = 79 := by have z := jB (e := 5) 0 j285 rg_75_5_0_1 (by decide) (by decide); omega
      refine x_getR (np := 38) (x := 709) (f := 5) (q := 79) (by decide +kernel) (by decide) (by decide +kernel) q560 ?_
      refine x_aload (np := 39) (x := 0) (by decide +kernel) rfl (x_nc_le (by decide)) ?_
      refine x_getC (np := 42) (x := 711) (f := 7) (q := (h283 75 7)) (by decide +kernel) (by decide) (by decide +kernel) rfl (fun l561 => ?_)
      have q562 : h283 79 u361 = h4 79 u361 := jK u361 f284 rg_79_0_1_400 (by first | decide | omega) (by first | decide | omega) (by decide)
      have q563 : h4 79 u361 = h 79 u361 := jK u361 f6 rg_79_0_1_400 (by first | decide | omega) (by first | decide | omega) (by decide)
      refine x_baldC (np := 43) (x := 0) (n := 400) (i := u361) (q := (h 79 u361)) (by decide +kernel) (by decide +kernel) (by first | decide | omega) (by first | decide | omega) (by decide) (q562.trans q563) (fun l564 => ?_)
      refine x_iadd (np := 44) (x := 0) (v := (10 * u557 + (h 79 u361))) (by decide +kernel) (by first | decide | omega) l366 (by first | decide | omega) (by first | decide | omega) ?_
      refine x_const (np := 46) (x := 9223372245160689712) (a := 2147483696) (by decide +kernel) (by decide) (by decide) ?_
      obtain ⟨v565, q566⟩ : ∃ z, z + 2147483696 = (10 * u557 + (h 79 u361)) + 2147483648 := ⟨(10 * u557 + (h 79 u361)) + 2147483648 - 2147483696, by first | decide | omega⟩
      refine x_isub (np := 47) (x := 0) (v := v565) (by decide +kernel) (by first | decide | omega) (by decide) (by first | decide | omega) (by first | decide | omega) ?_
      refine x_goto (np := 50) (x := 51) (by decide +kernel) ?_
      refine x_istore (np := 52) (x := 3) (lo' := [x_r 75, iv_c a1, iv_c a2, iv_c v565]) (by decide +kernel) (by first | decide | omega) (Nat.le_of_ble_eq_true rfl) rfl ?_
      refine x_aload (np := 53) (x := 0) (by decide +kernel) rfl (x_nc_le (by decide)) ?_
      refine x_dup (np := 54) (x := 0) (by decide +kernel) (by have z := x_nc_le (k := 75) (by decide); unfold x_r; omega) ?_
      refine x_getC (np := 57) (x := 711) (f := 7) (q := (h283 75 7)) (by decide +kernel) (by decide) (by decide +kernel) rfl (fun l567 => ?_)
      refine x_const (np := 58) (x := 9223372043297226753) (a := 2147483649) (by decide +kernel) (by decide) (by decide) ?_
      refine x_iadd (np := 59) (x := 0) (v := (1 + (h283 75 7))) (by decide +kernel) l294 (by decide) (by first | decide | omega) (by first | decide | omega) ?_
      refine x_putI (np := 62) (x := 711) (f := 7) (by decide +kernel) (by decide +kernel) (by first | decide | omega) (Or.inl (by decide)) ?_
      have j569 := jU (e := 7) (v := (1 + (h283 75 7))) 0 j285 rg_75_7_0_1 (by first | decide | omega) (by first | decide | omega) (by first | decide | omega)
      have f571 := jF (e := 7) (v := (1 + (h283 75 7))) 0 f292 rg_75_7_0_1 (by first | decide | omega) (by first | decide | omega) (by decide)
      have f572 := jF (e := 7) (v := (1 + (h283 75 7))) 0 f284 rg_75_7_0_1 (by first | decide | omega) (by first | decide | omega) (by decide)
      generalize e570 : x_up h283 75 7 (1 + (h283 75 7)) = h568 at j569 f571 f572 ⊢
      refine x_goto (np := 65) (x := 6) (by decide +kernel) ?_
      have q573 : h568 75 7 = (1 + (h283 75 7)) := by rw [← e570]; exact x_up_at
      have q574 : h568 75 7 = (1 + (h283 75 7)) := by rw [← e570]; exact x_up_at
      have q575 : h568 75 9 = h283 75 9 := by rw [← e570]; exact x_up_i (by first | decide | omega)
      have q576 : h283 75 9 = h4 75 9 := jK 0 f284 rg_75_9_0_1 (by first | decide | omega) (by first | decide | omega) (by decide)
      have q577 : h283 75 9 = h4 75 9 := jK 0 f284 rg_75_9_0_1 (by first | decide | omega) (by first | decide | omega) (by decide)
      have q578 : h568 75 7 = (1 + (h283 75 7)) := by rw [← e570]; exact x_up_at
      have q579 : h568 75 9 = h283 75 9 := by rw [← e570]; exact x_up_i (by first | decide | omega)
      have q580 : h283 75 9 = h4 75 9 := jK 0 f284 rg_75_9_0_1 (by first | decide | omega) (by first | decide | omega) (by decide)
      have q581 : h283 75 8 = h4 75 8 := jK 0 f284 rg_75_8_0_1 (by first | decide | omega) (by first | decide | omega) (by decide)
      have q582 : h4 75 8 = h 75 8 := jK 0 f6 rg_75_8_0_1 (by first | decide | omega) (by first | decide | omega) (by decide)
      have m585 := Tq.fr hT f6 (by decide) (by decide)
      have m584 := Tq.fr m585 f284 (by decide) (by decide)
      have z583 := m584.1
      have q586 : h283 79 u361 = h4 79 u361 := jK u361 f284 rg_79_0_1_400 (by first | decide | omega) (by first | decide | omega) (by decide)
      have q587 : h4 79 u361 = h 79 u361 := jK u361 f6 rg_79_0_1_400 (by first | decide | omega) (by first | decide | omega) (by decide)
      have z588 := Tq.at (p := (h283 75 7)) (u := u361) m584 (by first | decide | omega) (by first | decide | omega)
      have q589 : h283 75 9 = h4 75 9 := jK 0 f284 rg_75_9_0_1 (by first | decide | omega) (by first | decide | omega) (by decide)
      exact i291 v565 h568 (by first | decide | omega) (by first | decide | omega) (by first | decide | omega) (by first | decide | omega) j569 f572 (Ni.st m289 (by first | decide | omega) ⟨by first | decide | omega, by first | decide | omega, by first | decide | omega⟩ (by first | decide | omega) (by first | decide | omega) (by first | decide | omega))
  exact p286 _ 2147483648 h4 (Nat.lt_succ_self _) (by first | decide | omega) (by first | decide | omega) (by first | decide | omega) j5 (Fr.refl _ _) (Ni.zero (by first | decide | omega) (by first | decide | omega))
set_option maxHeartbeats 0 in
/-- LentNamesModel.needs(Ljava/lang/String;)Z -/
theorem c172_75_S0 {sc : Nat × Nat} {d ia1 : Nat} {h : xh} {tB : Nat → Nat} {tN : Nat} (hJ : J h) (hia1 : ia1 < 32) (hT : Tq tB tN h) : X sc 172 (d + 5) (xI fun r h' => J h' ∧ Fr 5242881 h h' ∧ (2147483648 ≤ r ∧ r ≤ 2147483649) ∧ (h 75 7 + 0 ≤ h' 75 7) ∧ (r = 2147483649 → h 75 7 + 2 ≤ h' 75 7) ∧ Tw (Wd tB tN ia1 (sk tB tN (h 75 7))) tB tN (sk tB tN (h 75 7)) (iv_tl ia1) r (sk tB tN (h' 75 7)) ∧ h' 75 9 = sk tB tN (h 75 7)) 0 0 0 [x_r 75, x_b (ia1 + 1)] [] h := by
  have hF := Fr.refl 5242881 h
  refine x_aload (np := 1) (x := 0) (by decide +kernel) rfl (x_nc_le (by decide)) ?_
  refine x_cV (t := 6) (mj := 169) (n := 1) (rc := 12) (ml := 1) (nr := 0) (np := 4) (as := [x_r 75]) (rest := []) (lo1 := [x_r 75]) (by decide +kernel) (by decide) (by decide +kernel) (x_rb_of (by decide +kernel)) rfl rfl (x_wr (by decide) x_wn) x_wn (by decide) rfl (c169_75 hJ  hT) (fun h4 q3 => ?_)
  obtain ⟨j5, f6, c9, c10, c11, c12⟩ := q3
  have f13 := Fr.trans hF f6 (by decide)
  have b14 := jB (e := 7) 0 hJ rg_75_7_0_1 (by first | decide | omega) (by first | decide | omega)
  have b15 := jB (e := 9) 0 j5 rg_75_9_0_1 (by first | decide | omega) (by first | decide | omega)
  have b16 := jB (e := 7) 0 j5 rg_75_7_0_1 (by first | decide | omega) (by first | decide | omega)
  refine x_aload (np := 5) (x := 0) (by decide +kernel) rfl (x_nc_le (by decide)) ?_
  refine x_aloadB (i := ia1) (k4 := 1) rfl hia1 (by rw [tb_b172]; decide +kernel) ?_
  have m20 := Tq.fr hT f6 (by decide) (by decide)
  refine x_cP (t := 6) (mj := 170) (n := 2) (rc := 12) (ml := 4) (nr := 0) (np := 9) (as := [x_r 75, x_b (ia1 + 1)]) (rest := []) (lo1 := [x_r 75, x_b (ia1 + 1), 147573952589676412928, 147573952589676412928]) (by decide +kernel) (by decide) (by decide +kernel) (x_rb_of (by decide +kernel)) rfl rfl (x_wr (by decide) (x_wB hia1 x_wn)) x_wn (by decide) rfl (c170_75_S0 j5  hia1 m20) (fun v17 l18 q19 => ?_)
  obtain ⟨b23, c21, c22⟩ := q19
  have b24 := iv_tl_ge ia1 hia1
  refine x_retI (np := 10) (x := 0) (by decide +kernel) l18 (Or.inr ⟨by decide +kernel, by first | decide | omega, by first | decide | omega⟩) ⟨_, rfl, l18, ?_⟩
  exact ⟨j5, f13, (by first | decide | omega), (by first | decide | omega), (fun z => by first | decide | omega), (nd9 c11 c12 c22 hia1 (by first | decide | omega)), c11⟩
set_option maxHeartbeats 0 in
/-- LentNamesModel.passes(Ljava/lang/String;)Z -/
theorem c171_75_S0 {sc : Nat × Nat} {d ia1 : Nat} {h : xh} {tB : Nat → Nat} {tN : Nat} (hJ : J h) (hia1 : ia1 < 32) (hT : Tq tB tN h) : X sc 171 (d + 5) (xI fun r h' => J h' ∧ Fr 5242881 h h' ∧ (2147483648 ≤ r ∧ r ≤ 2147483649) ∧ (h 75 7 + 0 ≤ h' 75 7) ∧ (r = 2147483649 → h 75 7 + 2 ≤ h' 75 7) ∧ Tk (Wd tB tN ia1 (sk tB tN (h 75 7))) tB tN (sk tB tN (h 75 7)) (iv_tl ia1) r (sk tB tN (h' 75 7)) ∧ h' 75 9 = sk tB tN (h 75 7)) 0 0 0 [x_r 75, x_b (ia1 + 1)] [] h := by
  have hF := Fr.refl 5242881 h
  refine x_aload (np := 1) (x := 0) (by decide +kernel) rfl (x_nc_le (by decide)) ?_
  refine x_cV (t := 6) (mj := 169) (n := 1) (rc := 12) (ml := 1) (nr := 0) (np := 4) (as := [x_r 75]) (rest := []) (lo1 := [x_r 75]) (by decide +kernel) (by decide) (by decide +kernel) (x_rb_of (by decide +kernel)) rfl rfl (x_wr (by decide) x_wn) x_wn (by decide) rfl (c169_75 hJ  hT) (fun h4 q3 => ?_)
  obtain ⟨j5, f6, c9, c10, c11, c12⟩ := q3
  have f13 := Fr.trans hF f6 (by decide)
  have b14 := jB (e := 7) 0 hJ rg_75_7_0_1 (by first | decide | omega) (by first | decide | omega)
  have b15 := jB (e := 9) 0 j5 rg_75_9_0_1 (by first | decide | omega) (by first | decide | omega)
  have b16 := jB (e := 7) 0 j5 rg_75_7_0_1 (by first | decide | omega) (by first | decide | omega)
  refine x_aload (np := 5) (x := 0) (by decide +kernel) rfl (x_nc_le (by decide)) ?_
  refine x_aloadB (i := ia1) (k4 := 1) rfl hia1 (by rw [tb_b171]; decide +kernel) ?_
  have m20 := Tq.fr hT f6 (by decide) (by decide)
  refine x_cP (t := 6) (mj := 170) (n := 2) (rc := 12) (ml := 4) (nr := 0) (np := 9) (as := [x_r 75, x_b (ia1 + 1)]) (rest := []) (lo1 := [x_r 75, x_b (ia1 + 1), 147573952589676412928, 147573952589676412928]) (by decide +kernel) (by decide) (by decide +kernel) (x_rb_of (by decide +kernel)) rfl rfl (x_wr (by decide) (x_wB hia1 x_wn)) x_wn (by decide) rfl (c170_75_S0 j5  hia1 m20) (fun v17 l18 q19 => ?_)
  obtain ⟨b23, c21, c22⟩ := q19
  have b24 := iv_tl_ge ia1 hia1
  refine x_ifz (k := 0) (tg := 14) (np := 12) (by decide +kernel) (by decide) l18 (fun q25 => ?_) (fun q26 => ?_)
  · have q25 : v17 = 2147483648 := q25
    refine x_aload (np := 15) (x := 0) (by decide +kernel) rfl (x_nc_le (by decide)) ?_
    refine x_aload (np := 16) (x := 0) (by decide +kernel) rfl (x_nc_le (by decide)) ?_
    refine x_getC (np := 19) (x := 713) (f := 9) (q := (h4 75 9)) (by decide +kernel) (by decide) (by decide +kernel) rfl (fun l27 => ?_)
    refine x_putI (np := 22) (x := 711) (f := 7) (by decide +kernel) (by decide +kernel) l27 (Or.inl (by decide)) ?_
    have j29 := jU (e := 7) (v := (h4 75 9)) 0 j5 rg_75_7_0_1 (by first | decide | omega) (by first | decide | omega) (by first | decide | omega)
    have f31 := jF (e := 7) (v := (h4 75 9)) 0 f13 rg_75_7_0_1 (by first | decide | omega) (by first | decide | omega) (by decide)
    generalize e30 : x_up h4 75 7 (h4 75 9) = h28 at j29 f31 ⊢
    refine x_const (np := 23) (x := 9223372039002259456) (a := 2147483648) (by decide +kernel) (by decide) (by decide) ?_
    have q32 : h28 75 7 = (h4 75 9) := by rw [← e30]; exact x_up_at
    have q33 : h28 75 7 = (h4 75 9) := by rw [← e30]; exact x_up_at
    have q34 : h28 75 7 = (h4 75 9) := by rw [← e30]; exact x_up_at
    have q35 : h28 75 9 = h4 75 9 := by rw [← e30]; exact x_up_i (by first | decide | omega)
    refine x_retI (np := 24) (x := 0) (by decide +kernel) (by decide) (Or.inr ⟨by decide +kernel, by first | decide | omega, by first | decide | omega⟩) ⟨_, rfl, (by decide), ?_⟩
    exact ⟨j29, f31, (by first | decide | omega), (by first | decide | omega), (fun z => by first | decide | omega), (ps0 c11 c12 c22 (by first | decide | omega) hia1 (by first | decide | omega) (by first | decide | omega)), (Eq.trans (show h28 75 9 = h4 75 9 by first | decide | omega) c11)⟩
  have q26 : ¬ (v17 = 2147483648) := q26
  have b36 := c21 (by first | decide | omega)
  refine x_const (np := 13) (x := 9223372043297226753) (a := 2147483649) (by decide +kernel) (by decide) (by decide) ?_
  refine x_retI (np := 14) (x := 0) (by decide +kernel) (by decide) (Or.inr ⟨by decide +kernel, by first | decide | omega, by first | decide | omega⟩) ⟨_, rfl, (by decide), ?_⟩
  exact ⟨j5, f13, (by first | decide | omega), (by first | decide | omega), (fun z => by first | decide | omega), (ps1 c11 c12 c22 (by first | decide | omega) hia1 (by first | decide | omega)), c11⟩
set_option maxHeartbeats 0 in
/-- LentNamesModel.readSeen()Z -/
theorem c185_75 {sc : Nat × Nat} {d  : Nat} {h : xh} {tB : Nat → Nat} {tN : Nat} (hJ : J h) (hC : Cl h) (hT : Tq tB tN h) : X sc 185 (d + 6) (xI fun r h' => J h' ∧ Fr 273678337 h h' ∧ (2147483648 ≤ r ∧ r ≤ 2147483649) ∧ (r = 2147483649 → h' 78 0 = h 78 0) ∧ (r = 2147483649 → h' 78 1 = h 78 1) ∧ (r = 2147483649 → h' 78 2 = h 78 2) ∧ (r = 2147483649 → h' 78 3 = h 78 3) ∧ (r = 2147483649 → h' 78 4 = h 78 4) ∧ (r = 2147483649 → h' 78 5 = h 78 5 + 1) ∧ (r = 2147483649 → Cl h') ∧ ((h 78 5 = 2147483658 ∧ r = 2147483648) ∨ (h 78 5 ≠ 2147483658 ∧ seen9 tB tN (h 76 0) (sk tB tN (h 75 7)) (rs r (sk tB tN (h' 75 7))))) ∧ (r = 2147483648 → (h 78 5 = 2147483658 ∧ h' 75 9 = h 75 9) ∨ (h 78 5 ≠ 2147483658 ∧ seenF tB tN (h 76 0) (sk tB tN (h 75 7)) (h' 75 9)))) 0 0 0 [x_r 75, 147573952589676412928, 147573952589676412928, 147573952589676412928] [] h := by
  have hF := Fr.refl 273678337 h
  refine x_aload (np := 1) (x := 0) (by decide +kernel) rfl (x_nc_le (by decide)) ?_
  have q1 : h 75 3 = 78 := by have z := jB (e := 3) 0 hJ rg_75_3_0_1 (by decide) (by decide); omega
  refine x_getR (np := 4) (x := 707) (f := 3) (q := 78) (by decide +kernel) (by decide) (by decide +kernel) q1 ?_
  refine x_const (np := 5) (x := 9223372060477095941) (a := 2147483653) (by decide +kernel) (by decide) (by decide) ?_
  have b2 := jB (e := 5) 0 hJ rg_78_5_0_1 (by first | decide | omega) (by first | decide | omega)
  refine x_aldC (np := 6) (x := 0) (n := 290) (i := 5) (q := (h 78 5)) (by decide +kernel) (by decide +kernel) (by first | decide | omega) (by first | decide | omega) (by decide) rfl (fun l3 => ?_)
  refine x_const (np := 8) (x := 9223372081951932426) (a := 2147483658) (by decide +kernel) (by decide) (by decide) ?_
  refine x_icmp (k := 1) (tg := 13) (np := 11) (by decide +kernel) (by decide) l3 (by decide) (fun q4 => ?_) (fun q5 => ?_)
  · have q4 : (h 78 5) ≠ 2147483658 := q4
    refine x_const (np := 16) (x := 9223373112744083706) (a := 2147483898) (by decide +kernel) (by decide) (by decide) ?_
    refine x_const (np := 17) (x := 9223372056182128644) (a := 2147483652) (by decide +kernel) (by decide) (by decide) ?_
    refine x_aload (np := 18) (x := 0) (by decide +kernel) rfl (x_nc_le (by decide)) ?_
    have q6 : h 75 3 = 78 := by have z := jB (e := 3) 0 hJ rg_75_3_0_1 (by decide) (by decide); omega
    refine x_getR (np := 21) (x := 707) (f := 3) (q := 78) (by decide +kernel) (by decide) (by decide +kernel) q6 ?_
    refine x_const (np := 22) (x := 9223372060477095941) (a := 2147483653) (by decide +kernel) (by decide) (by decide) ?_
    refine x_aldC (np := 23) (x := 0) (n := 290) (i := 5) (q := (h 78 5)) (by decide +kernel) (by decide +kernel) (by first | decide | omega) (by first | decide | omega) (by decide) rfl (fun l7 => ?_)
    obtain ⟨u8, q9⟩ : ∃ z, (h 78 5) = 2147483648 + z := ⟨(h 78 5) - 2147483648, by first | decide | omega⟩
    refine x_imul (np := 24) (x := 0) (i := 4) (j := u8) (v := (2147483648 + 4 * u8)) (by decide +kernel) (by first | decide | omega) (by first | decide | omega) (by first | decide | omega) (by first | decide | omega) (by decide) l3 ?_
    refine x_iadd (np := 25) (x := 0) (v := (2147483898 + 4 * u8)) (by decide +kernel) (by decide) (by first | decide | omega) (by first | decide | omega) (by first | decide | omega) ?_
    refine x_istore (np := 26) (x := 1) (lo' := [x_r 75, iv_c (2147483898 + 4 * u8), 147573952589676412928, 147573952589676412928]) (by decide +kernel) (by first | decide | omega) (Nat.le_of_ble_eq_true rfl) rfl ?_
    refine x_aload (np := 27) (x := 0) (by decide +kernel) rfl (x_nc_le (by decide)) ?_
    refine x_iload (np := 28) (x := 1) (by decide +kernel) rfl (by first | decide | omega) ?_
    refine x_nI (t := 6) (mj := 177) (n := 2) (rc := 12) (ml := 2) (nr := 0) (np := 31) (as := [x_r 75, iv_c (2147483898 + 4 * u8)]) (rest := []) (lo1 := [x_r 75, iv_c (2147483898 + 4 * u8)]) (by decide +kernel) (by decide) (by decide +kernel) (x_rb_of (by decide +kernel)) rfl rfl (x_wr (by decide) (x_wi (by first | decide | omega) x_wn)) x_wn (by decide) rfl ?_
    refine x_aload (np := 1) (x := 0) (by decide +kernel) rfl (x_nc_le (by decide)) ?_
    refine x_iload (np := 2) (x := 1) (by decide +kernel) rfl (by first | decide | omega) ?_
    refine x_aload (np := 3) (x := 0) (by decide +kernel) rfl (x_nc_le (by decide)) ?_
    refine x_const (np := 4) (x := 9223372039002259456) (a := 2147483648) (by decide +kernel) (by decide) (by decide) ?_
    refine x_aload (np := 5) (x := 0) (by decide +kernel) rfl (x_nc_le (by decide)) ?_
    refine x_nI (t := 6) (mj := 157) (n := 1) (rc := 12) (ml := 1) (nr := 4) (np := 8) (as := [x_r 75]) (rest := [iv_c 2147483648, x_r 75, iv_c (2147483898 + 4 * u8), x_r 75]) (lo1 := [x_r 75]) (by decide +kernel) (by decide) (by decide +kernel) (x_rb_of (by decide +kernel)) rfl rfl (x_wr (by decide) x_wn) (x_wi (by decide) (x_wr (by decide) (x_wi (by first | decide | omega) (x_wr (by decide) x_wn)))) (by decide) rfl ?_
    refine x_aload (np := 1) (x := 0) (by decide +kernel) rfl (x_nc_le (by decide)) ?_
    have q11 : h 75 1 = 76 := by have z := jB (e := 1) 0 hJ rg_75_1_0_1 (by decide) (by decide); omega
    refine x_getR (np := 4) (x := 705) (f := 1) (q := 76) (by decide +kernel) (by decide) (by decide +kernel) q11 ?_
    refine x_const (np := 5) (x := 9223372039002259456) (a := 2147483648) (by decide +kernel) (by decide) (by decide) ?_
    have b12 := jB (e := 0) 0 hJ rg_76_0_0_1 (by first | decide | omega) (by first | decide | omega)
    refine x_aldC (np := 6) (x := 0) (n := 1952) (i := 0) (q := (h 76 0)) (by decide +kernel) (by decide +kernel) (by first | decide | omega) (by first | decide | omega) (by decide) rfl (fun l13 => ?_)
    refine x_retI (np := 7) (x := 0) (by decide +kernel) l13 (Or.inl (by decide +kernel)) ⟨_, rfl, l13, ?_⟩
    refine x_const (np := 9) (x := 9223372043297226753) (a := 2147483649) (by decide +kernel) (by decide) (by decide) ?_
    obtain ⟨v14, q15⟩ : ∃ z, z + 2147483649 = (h 76 0) + 2147483648 := ⟨(h 76 0) + 2147483648 - 2147483649, by first | decide | omega⟩
    refine x_isub (np := 10) (x := 0) (v := v14) (by decide +kernel) l13 (by decide) (by first | decide | omega) (by first | decide | omega) ?_
    refine x_cI (t := 6) (mj := 174) (n := 3) (rc := 12) (ml := 4) (nr := 2) (np := 13) (as := [x_r 75, iv_c 2147483648, iv_c v14]) (rest := [iv_c (2147483898 + 4 * u8), x_r 75]) (lo1 := [x_r 75, iv_c 2147483648, iv_c v14, 147573952589676412928]) (by decide +kernel) (by decide) (by decide +kernel) (x_rb_of (by decide +kernel)) rfl rfl (x_wr (by decide) (x_wi (by decide) (x_wi (by first | decide | omega) x_wn))) (x_wi (by first | decide | omega) (x_wr (by decide) x_wn)) (by decide) rfl (c174_75 hJ  (by first | decide | omega) (by first | decide | omega) hT) (fun v16 h19 l17 q18 => ?_)
    obtain ⟨j20, f21, b22, c23, c24, c25, c26, c27, c28, c29⟩ := q18
    have f30 := Fr.trans hF f21 (by decide)
    have b31 := jB (e := 7) 0 hJ rg_75_7_0_1 (by first | decide | omega) (by first | decide | omega)
    have b32 := jB (e := 7) 0 j20 rg_75_7_0_1 (by first | decide | omega) (by first | decide | omega)
    have b33 := c27 (by first | decide | omega)
    refine x_nI (t := 6) (mj := 176) (n := 3) (rc := 12) (ml := 3) (nr := 0) (np := 16) (as := [x_r 75, iv_c (2147483898 + 4 * u8), iv_c v16]) (rest := []) (lo1 := [x_r 75, iv_c (2147483898 + 4 * u8), iv_c v16]) (by decide +kernel) (by decide) (by decide +kernel) (x_rb_of (by decide +kernel)) rfl rfl (x_wr (by decide) (x_wi (by first | decide | omega) (x_wi l17 x_wn))) x_wn (by decide) rfl ?_
    refine x_aload (np := 1) (x := 0) (by decide +kernel) rfl (x_nc_le (by decide)) ?_
    have q34 : h19 75 3 = 78 := by have z := jB (e := 3) 0 j20 rg_75_3_0_1 (by decide) (by decide); omega
    refine x_getR (np := 4) (x := 707) (f := 3) (q := 78) (by decide +kernel) (by decide) (by decide +kernel) q34 ?_
    refine x_iload (np := 5) (x := 1) (by decide +kernel) rfl (by first | decide | omega) ?_
    refine x_iload (np := 6) (x := 2) (by decide +kernel) rfl l17 ?_
    refine x_ast (np := 7) (x := 0) (kd := 1) (n := 290) (i := (250 + 4 * u8)) (by decide +kernel) (Or.inl rfl) (by decide +kernel) (by first | decide | omega) (by first | decide | omega) (by decide) l17 (fun z => absurd z (by decide)) ?_
    have j36 := jU (e := (250 + 4 * u8)) (v := v16) u8 j20 rg_78_250_4_10 (by first | decide | omega) (by first | decide | omega) (by first | decide | omega)
    have f38 := jF (e := (250 + 4 * u8)) (v := v16) u8 f30 rg_78_250_4_10 (by first | decide | omega) (by first | decide | omega) (by decide)
    generalize e37 : x_up h19 78 (250 + 4 * u8) v16 = h35 at j36 f38 ⊢
    refine x_iload (np := 8) (x := 2) (by decide +kernel) rfl l17 ?_
    refine x_ifz (k := 2) (tg := 15) (np := 11) (by decide +kernel) (by decide) l17 (fun q39 => ?_) (fun q40 => ?_)
    · have q39 : v16 < 2147483648 := q39
      refine x_const (np := 16) (x := 9223372039002259456) (a := 2147483648) (by decide +kernel) (by decide) (by decide) ?_
      refine x_retI (np := 17) (x := 0) (by decide +kernel) (by decide) (Or.inr ⟨by decide +kernel, by first | decide | omega, by first | decide | omega⟩) ⟨_, rfl, (by decide), ?_⟩
      refine x_retI (np := 17) (x := 0) (by decide +kernel) (by decide) (Or.inr ⟨by decide +kernel, by first | decide | omega, by first | decide | omega⟩) ⟨_, rfl, (by decide), ?_⟩
      refine x_ifz (k := 0) (tg := 63) (np := 34) (by decide +kernel) (by decide) (by decide) (fun q41 => ?_) (fun q42 => ?_)
      · have q41 : 2147483648 = 2147483648 := q41
        refine x_const (np := 64) (x := 9223372039002259456) (a := 2147483648) (by decide +kernel) (by decide) (by decide) ?_
        have b43 := jB (e := 0) 0 hJ rg_78_0_0_1 (by first | decide | omega) (by first | decide | omega)
        have q44 : h35 78 0 = h19 78 0 := by rw [← e37]; exact x_up_i (by first | decide | omega)
        have q45 : h19 78 0 = h 78 0 := jK 0 f21 rg_78_0_0_1 (by first | decide | omega) (by first | decide | omega) (by decide)
        have q46 : h35 78 1 = h19 78 1 := by rw [← e37]; exact x_up_i (by first | decide | omega)
        have q47 : h19 78 1 = h 78 1 := jK 0 f21 rg_78_1_0_1 (by first | decide | omega) (by first | decide | omega) (by decide)
        have b48 := jB (e := 2) 0 hJ rg_78_2_0_1 (by first | decide | omega) (by first | decide | omega)
        have q49 : h35 78 2 = h19 78 2 := by rw [← e37]; exact x_up_i (by first | decide | omega)
        have q50 : h19 78 2 = h 78 2 := jK 0 f21 rg_78_2_0_1 (by first | decide | omega) (by first | decide | omega) (by decide)
        have b51 := jB (e := 3) 0 hJ rg_78_3_0_1 (by first | decide | omega) (by first | decide | omega)
        have q52 : h35 78 3 = h19 78 3 := by rw [← e37]; exact x_up_i (by first | decide | omega)
        have q53 : h19 78 3 = h 78 3 := jK 0 f21 rg_78_3_0_1 (by first | decide | omega) (by first | decide | omega) (by decide)
        have b54 := jB (e := 4) 0 hJ rg_78_4_0_1 (by first | decide | omega) (by first | decide | omega)
        have q55 : h35 78 4 = h19 78 4 := by rw [← e37]; exact x_up_i (by first | decide | omega)
        have q56 : h19 78 4 = h 78 4 := jK 0 f21 rg_78_4_0_1 (by first | decide | omega) (by first | decide | omega) (by decide)
        have q57 : h35 78 5 = h19 78 5 := by rw [← e37]; exact x_up_i (by first | decide | omega)
        have q58 : h19 78 5 = h 78 5 := jK 0 f21 rg_78_5_0_1 (by first | decide | omega) (by first | decide | omega) (by decide)
        have q59 : h35 75 9 = h19 75 9 := by rw [← e37]; exact x_up_k (by decide)
        have b60 := jB (e := 9) 0 j20 rg_75_9_0_1 (by first | decide | omega) (by first | decide | omega)
        refine x_retI (np := 65) (x := 0) (by decide +kernel) (by decide) (Or.inr ⟨by decide +kernel, by first | decide | omega, by first | decide | omega⟩) ⟨_, rfl, (by decide), ?_⟩
        exact ⟨j36, f38, (by first | decide | omega), (fun z => by first | decide | omega), (fun z => by first | decide | omega), (fun z => by first | decide | omega), (fun z => by first | decide | omega), (fun z => by first | decide | omega), (fun z => by first | decide | omega), (fun z => absurd z (by first | decide | omega)), (Or.inr ⟨by first | decide | omega, (nm9.f c28 (by first | decide | omega) (by first | decide | omega) rfl (by first | decide | omega) (by first | decide | omega))⟩), (fun _ => Or.inr ⟨by first | decide | omega, (mF.no c28 (by first | decide | omega) (by first | decide | omega) rfl (by first | decide | omega) (Eq.trans (show h35 75 9 = h19 75 9 by first | decide | omega) c29))⟩)⟩
      have q42 : ¬ (2147483648 = 2147483648) := q42
      exfalso; omega
    have q40 : ¬ (v16 < 2147483648) := q40
    have b61 := c24 (by first | decide | omega)
    have b62 := c25 (by first | decide | omega)
    have b63 := c26 (by first | decide | omega)
    refine x_const (np := 12) (x := 9223372043297226753) (a := 2147483649) (by decide +kernel) (by decide) (by decide) ?_
    refine x_goto (np := 15) (x := 16) (by decide +kernel) ?_
    refine x_retI (np := 17) (x := 0) (by decide +kernel) (by decide) (Or.inr ⟨by decide +kernel, by first | decide | omega, by first | decide | omega⟩) ⟨_, rfl, (by decide), ?_⟩
    refine x_retI (np := 17) (x := 0) (by decide +kernel) (by decide) (Or.inr ⟨by decide +kernel, by first | decide | omega, by first | decide | omega⟩) ⟨_, rfl, (by decide), ?_⟩
    refine x_ifz (k := 0) (tg := 63) (np := 34) (by decide +kernel) (by decide) (by decide) (fun q64 => ?_) (fun q65 => ?_)
    · have q64 : 2147483649 = 2147483648 := q64
      exfalso; omega
    have q65 : ¬ (2147483649 = 2147483648) := q65
    refine x_aload (np := 35) (x := 0) (by decide +kernel) rfl (x_nc_le (by decide)) ?_
    refine x_ldcB (i := 2) (idx := 147) (tx := "day") (by rw [tb_y185]; exact List.mem_of_getElem? (i := 37) rfl) (by decide) (by rw [tb_b185]; decide +kernel) ?_
    have m70 := Tq.fr hT f21 (by decide) (by decide)
    have m69 : Tq tB tN h35 := by rw [← e37]; exact Tq.oth m70 (by decide) (fun z => absurd z.1 (by decide))
    refine x_cI (t := 6) (mj := 172) (n := 2) (rc := 12) (ml := 2) (nr := 0) (np := 40) (as := [x_r 75, x_b (2 + 1)]) (rest := []) (lo1 := [x_r 75, x_b (2 + 1)]) (by decide +kernel) (by decide) (by decide +kernel) (x_rb_of (by decide +kernel)) rfl rfl (x_wr (by decide) (x_wB (by decide) x_wn)) x_wn (by decide) rfl (c172_75_S0 j36  (by decide) m69) (fun v66 h71 l67 q68 => ?_)
    obtain ⟨j72, f73, b74, c75, c76, c77, c78⟩ := q68
    have f79 := Fr.trans f38 f73 (by decide)
    have q80 : h35 75 7 = h19 75 7 := by rw [← e37]; exact x_up_k (by decide)
    have b81 := jB (e := 7) 0 j72 rg_75_7_0_1 (by first | decide | omega) (by first | decide | omega)
    have q82 : h35 75 7 = h19 75 7 := by rw [← e37]; exact x_up_k (by decide)
    refine x_ifz (k := 0) (tg := 63) (np := 43) (by decide +kernel) (by decide) l67 (fun q83 => ?_) (fun q84 => ?_)
    · have q83 : v66 = 2147483648 := q83
      refine x_const (np := 64) (x := 9223372039002259456) (a := 2147483648) (by decide +kernel) (by decide) (by decide) ?_
      have b85 := jB (e := 0) 0 hJ rg_78_0_0_1 (by first | decide | omega) (by first | decide | omega)
      have q86 : h71 78 0 = h35 78 0 := jK 0 f73 rg_78_0_0_1 (by first | decide | omega) (by first | decide | omega) (by decide)
      have q87 : h35 78 0 = h19 78 0 := by rw [← e37]; exact x_up_i (by first | decide | omega)
      have q88 : h19 78 0 = h 78 0 := jK 0 f21 rg_78_0_0_1 (by first | decide | omega) (by first | decide | omega) (by decide)
      have q89 : h71 78 1 = h35 78 1 := jK 0 f73 rg_78_1_0_1 (by first | decide | omega) (by first | decide | omega) (by decide)
      have q90 : h35 78 1 = h19 78 1 := by rw [← e37]; exact x_up_i (by first | decide | omega)
      have q91 : h19 78 1 = h 78 1 := jK 0 f21 rg_78_1_0_1 (by first | decide | omega) (by first | decide | omega) (by decide)
      have b92 := jB (e := 2) 0 hJ rg_78_2_0_1 (by first | decide | omega) (by first | decide | omega)
      have q93 : h71 78 2 = h35 78 2 := jK 0 f73 rg_78_2_0_1 (by first | decide | omega) (by first | decide | omega) (by decide)
      have q94 : h35 78 2 = h19 78 2 := by rw [← e37]; exact x_up_i (by first | decide | omega)
      have q95 : h19 78 2 = h 78 2 := jK 0 f21 rg_78_2_0_1 (by first | decide | omega) (by first | decide | omega) (by decide)
      have b96 := jB (e := 3) 0 hJ rg_78_3_0_1 (by first | decide | omega) (by first | decide | omega)
      have q97 : h71 78 3 = h35 78 3 := jK 0 f73 rg_78_3_0_1 (by first | decide | omega) (by first | decide | omega) (by decide)
      have q98 : h35 78 3 = h19 78 3 := by rw [← e37]; exact x_up_i (by first | decide | omega)
      have q99 : h19 78 3 = h 78 3 := jK 0 f21 rg_78_3_0_1 (by first | decide | omega) (by first | decide | omega) (by decide)
      have b100 := jB (e := 4) 0 hJ rg_78_4_0_1 (by first | decide | omega) (by first | decide | omega)
      have q101 : h71 78 4 = h35 78 4 := jK 0 f73 rg_78_4_0_1 (by first | decide | omega) (by first | decide | omega) (by decide)
      have q102 : h35 78 4 = h19 78 4 := by rw [← e37]; exact x_up_i (by first | decide | omega)
      have q103 : h19 78 4 = h 78 4 := jK 0 f21 rg_78_4_0_1 (by first | decide | omega) (by first | decide | omega) (by decide)
      have q104 : h71 78 5 = h35 78 5 := jK 0 f73 rg_78_5_0_1 (by first | decide | omega) (by first | decide | omega) (by decide)
      have q105 : h35 78 5 = h19 78 5 := by rw [← e37]; exact x_up_i (by first | decide | omega)
      have q106 : h19 78 5 = h 78 5 := jK 0 f21 rg_78_5_0_1 (by first | decide | omega) (by first | decide | omega) (by decide)
      have q107 : h35 75 7 = h19 75 7 := by rw [← e37]; exact x_up_k (by decide)
      have q108 : h35 75 7 = h19 75 7 := by rw [← e37]; exact x_up_k (by decide)
      refine x_retI (np := 65) (x := 0) (by decide +kernel) (by decide) (Or.inr ⟨by decide +kernel, by first | decide | omega, by first | decide | omega⟩) ⟨_, rfl, (by decide), ?_⟩
      exact ⟨j72, f79, (by first | decide | omega), (fun z => by first | decide | omega), (fun z => by first | decide | omega), (fun z => by first | decide | omega), (fun z => by first | decide | omega), (fun z => by first | decide | omega), (fun z => by first | decide | omega), (fun z => absurd z (by first | decide | omega)), (Or.inr ⟨by first | decide | omega, (nm9.y c28 (by first | decide | omega) (by first | decide | omega) rfl (by first | decide | omega) rfl (wd9.f (Tw.no c77 (by first | decide | omega)) (congrArg (sk tB tN) (show h35 75 7 = h19 75 7 by first | decide | omega)) (by first | decide | omega)))⟩), (fun _ => Or.inr ⟨by first | decide | omega, (mF.y c28 (by first | decide | omega) (by first | decide | omega) rfl (by first | decide | omega) rfl (wF.no (Tw.no c77 (by first | decide | omega)) (congrArg (sk tB tN) (show h35 75 7 = h19 75 7 by first | decide | omega)) c78))⟩)⟩
    have q84 : ¬ (v66 = 2147483648) := q84
    have b109 := c76 (by first | decide | omega)
    refine x_aload (np := 44) (x := 0) (by decide +kernel) rfl (x_nc_le (by decide)) ?_
    refine x_iload (np := 45) (x := 1) (by decide +kernel) rfl (by first | decide | omega) ?_
    refine x_const (np := 46) (x := 9223372043297226753) (a := 2147483649) (by decide +kernel) (by decide) (by decide) ?_
    refine x_iadd (np := 47) (x := 0) (v := (2147483899 + 4 * u8)) (by decide +kernel) (by first | decide | omega) (by decide) (by first | decide | omega) (by first | decide | omega) ?_
    refine x_const (np := 48) (x := 9223372039002259456) (a := 2147483648) (by decide +kernel) (by decide) (by decide) ?_
    refine x_nI (t := 6) (mj := 178) (n := 3) (rc := 12) (ml := 3) (nr := 0) (np := 51) (as := [x_r 75, iv_c (2147483899 + 4 * u8), iv_c 2147483648]) (rest := []) (lo1 := [x_r 75, iv_c (2147483899 + 4 * u8), iv_c 2147483648]) (by decide +kernel) (by decide) (by decide +kernel) (x_rb_of (by decide +kernel)) rfl rfl (x_wr (by decide) (x_wi (by first | decide | omega) (x_wi (by decide) x_wn))) x_wn (by decide) rfl ?_
    refine x_aload (np := 1) (x := 0) (by decide +kernel) rfl (x_nc_le (by decide)) ?_
    refine x_iload (np := 2) (x := 1) (by decide +kernel) rfl (by first | decide | omega) ?_
    refine x_aload (np := 3) (x := 0) (by decide +kernel) rfl (x_nc_le (by decide)) ?_
    refine x_iload (np := 4) (x := 2) (by decide +kernel) rfl (by decide) ?_
    refine x_const (np := 6) (x := 9223372086246899723) (a := 2147483659) (by decide +kernel) (by decide) (by decide) ?_
    have m113 := Tq.fr m69 f73 (by decide) (by decide)
    refine x_cI (t := 6) (mj := 174) (n := 3) (rc := 12) (ml := 4) (nr := 2) (np := 9) (as := [x_r 75, iv_c 2147483648, iv_c 2147483659]) (rest := [iv_c (2147483899 + 4 * u8), x_r 75]) (lo1 := [x_r 75, iv_c 2147483648, iv_c 2147483659, 147573952589676412928]) (by decide +kernel) (by decide) (by decide +kernel) (x_rb_of (by decide +kernel)) rfl rfl (x_wr (by decide) (x_wi (by decide) (x_wi (by decide) x_wn))) (x_wi (by first | decide | omega) (x_wr (by decide) x_wn)) (by decide) rfl (c174_75 j72  (by first | decide | omega) (by first | decide | omega) m113) (fun v110 h114 l111 q112 => ?_)
    obtain ⟨j115, f116, b117, c118, c119, c120, c121, c122, c123, c124⟩ := q112
    have f125 := Fr.trans f79 f116 (by decide)
    have b126 := jB (e := 7) 0 j115 rg_75_7_0_1 (by first | decide | omega) (by first | decide | omega)
    have b127 := c122 (by first | decide | omega)
    refine x_nI (t := 6) (mj := 176) (n := 3) (rc := 12) (ml := 3) (nr := 0) (np := 12) (as := [x_r 75, iv_c (2147483899 + 4 * u8), iv_c v110]) (rest := []) (lo1 := [x_r 75, iv_c (2147483899 + 4 * u8), iv_c v110]) (by decide +kernel) (by decide) (by decide +kernel) (x_rb_of (by decide +kernel)) rfl rfl (x_wr (by decide) (x_wi (by first | decide | omega) (x_wi l111 x_wn))) x_wn (by decide) rfl ?_
    refine x_aload (np := 1) (x := 0) (by decide +kernel) rfl (x_nc_le (by decide)) ?_
    have q128 : h114 75 3 = 78 := by have z := jB (e := 3) 0 j115 rg_75_3_0_1 (by decide) (by decide); omega
    refine x_getR (np := 4) (x := 707) (f := 3) (q := 78) (by decide +kernel) (by decide) (by decide +kernel) q128 ?_
    refine x_iload (np := 5) (x := 1) (by decide +kernel) rfl (by first | decide | omega) ?_
    refine x_iload (np := 6) (x := 2) (by decide +kernel) rfl l111 ?_
    refine x_ast (np := 7) (x := 0) (kd := 1) (n := 290) (i := (251 + 4 * u8)) (by decide +kernel) (Or.inl rfl) (by decide +kernel) (by first | decide | omega) (by first | decide | omega) (by decide) l111 (fun z => absurd z (by decide)) ?_
    have j130 := jU (e := (251 + 4 * u8)) (v := v110) u8 j115 rg_78_251_4_10 (by first | decide | omega) (by first | decide | omega) (by first | decide | omega)
    have f132 := jF (e := (251 + 4 * u8)) (v := v110) u8 f125 rg_78_251_4_10 (by first | decide | omega) (by first | decide | omega) (by decide)
    generalize e131 : x_up h114 78 (251 + 4 * u8) v110 = h129 at j130 f132 ⊢
    refine x_iload (np := 8) (x := 2) (by decide +kernel) rfl l111 ?_
    refine x_ifz (k := 2) (tg := 15) (np := 11) (by decide +kernel) (by decide) l111 (fun q133 => ?_) (fun q134 => ?_)
    · have q133 : v110 < 2147483648 := q133
      refine x_const (np := 16) (x := 9223372039002259456) (a := 2147483648) (by decide +kernel) (by decide) (by decide) ?_
      refine x_retI (np := 17) (x := 0) (by decide +kernel) (by decide) (Or.inr ⟨by decide +kernel, by first | decide | omega, by first | decide | omega⟩) ⟨_, rfl, (by decide), ?_⟩
      refine x_retI (np := 13) (x := 0) (by decide +kernel) (by decide) (Or.inr ⟨by decide +kernel, by first | decide | omega, by first | decide | omega⟩) ⟨_, rfl, (by decide), ?_⟩
      refine x_ifz (k := 0) (tg := 63) (np := 54) (by decide +kernel) (by decide) (by decide) (fun q135 => ?_) (fun q136 => ?_)
      · have q135 : 2147483648 = 2147483648 := q135
        refine x_const (np := 64) (x := 9223372039002259456) (a := 2147483648) (by decide +kernel) (by decide) (by decide) ?_
        have b137 := jB (e := 0) 0 hJ rg_78_0_0_1 (by first | decide | omega) (by first | decide | omega)
        have q138 : h129 78 0 = h114 78 0 := by rw [← e131]; exact x_up_i (by first | decide | omega)
        have q139 : h114 78 0 = h71 78 0 := jK 0 f116 rg_78_0_0_1 (by first | decide | omega) (by first | decide | omega) (by decide)
        have q140 : h71 78 0 = h35 78 0 := jK 0 f73 rg_78_0_0_1 (by first | decide | omega) (by first | decide | omega) (by decide)
        have q141 : h35 78 0 = h19 78 0 := by rw [← e37]; exact x_up_i (by first | decide | omega)
        have q142 : h19 78 0 = h 78 0 := jK 0 f21 rg_78_0_0_1 (by first | decide | omega) (by first | decide | omega) (by decide)
        have q143 : h129 78 1 = h114 78 1 := by rw [← e131]; exact x_up_i (by first | decide | omega)
        have q144 : h114 78 1 = h71 78 1 := jK 0 f116 rg_78_1_0_1 (by first | decide | omega) (by first | decide | omega) (by decide)
        have q145 : h71 78 1 = h35 78 1 := jK 0 f73 rg_78_1_0_1 (by first | decide | omega) (by first | decide | omega) (by decide)
        have q146 : h35 78 1 = h19 78 1 := by rw [← e37]; exact x_up_i (by first | decide | omega)
        have q147 : h19 78 1 = h 78 1 := jK 0 f21 rg_78_1_0_1 (by first | decide | omega) (by first | decide | omega) (by decide)
        have b148 := jB (e := 2) 0 hJ rg_78_2_0_1 (by first | decide | omega) (by first | decide | omega)
        have q149 : h129 78 2 = h114 78 2 := by rw [← e131]; exact x_up_i (by first | decide | omega)
        have q150 : h114 78 2 = h71 78 2 := jK 0 f116 rg_78_2_0_1 (by first | decide | omega) (by first | decide | omega) (by decide)
        have q151 : h71 78 2 = h35 78 2 := jK 0 f73 rg_78_2_0_1 (by first | decide | omega) (by first | decide | omega) (by decide)
        have q152 : h35 78 2 = h19 78 2 := by rw [← e37]; exact x_up_i (by first | decide | omega)
        have q153 : h19 78 2 = h 78 2 := jK 0 f21 rg_78_2_0_1 (by first | decide | omega) (by first | decide | omega) (by decide)
        have b154 := jB (e := 3) 0 hJ rg_78_3_0_1 (by first | decide | omega) (by first | decide | omega)
        have q155 : h129 78 3 = h114 78 3 := by rw [← e131]; exact x_up_i (by first | decide | omega)
        have q156 : h114 78 3 = h71 78 3 := jK 0 f116 rg_78_3_0_1 (by first | decide | omega) (by first | decide | omega) (by decide)
        have q157 : h71 78 3 = h35 78 3 := jK 0 f73 rg_78_3_0_1 (by first | decide | omega) (by first | decide | omega) (by decide)
        have q158 : h35 78 3 = h19 78 3 := by rw [← e37]; exact x_up_i (by first | decide | omega)
        have q159 : h19 78 3 = h 78 3 := jK 0 f21 rg_78_3_0_1 (by first | decide | omega) (by first | decide | omega) (by decide)
        have b160 := jB (e := 4) 0 hJ rg_78_4_0_1 (by first | decide | omega) (by first | decide | omega)
        have q161 : h129 78 4 = h114 78 4 := by rw [← e131]; exact x_up_i (by first | decide | omega)
        have q162 : h114 78 4 = h71 78 4 := jK 0 f116 rg_78_4_0_1 (by first | decide | omega) (by first | decide | omega) (by decide)
        have q163 : h71 78 4 = h35 78 4 := jK 0 f73 rg_78_4_0_1 (by first | decide | omega) (by first | decide | omega) (by decide)
        have q164 : h35 78 4 = h19 78 4 := by rw [← e37]; exact x_up_i (by first | decide | omega)
        have q165 : h19 78 4 = h 78 4 := jK 0 f21 rg_78_4_0_1 (by first | decide | omega) (by first | decide | omega) (by decide)
        have q166 : h129 78 5 = h114 78 5 := by rw [← e131]; exact x_up_i (by first | decide | omega)
        have q167 : h114 78 5 = h71 78 5 := jK 0 f116 rg_78_5_0_1 (by first | decide | omega) (by first | decide | omega) (by decide)
        have q168 : h71 78 5 = h35 78 5 := jK 0 f73 rg_78_5_0_1 (by first | decide | omega) (by first | decide | omega) (by decide)
        have q169 : h35 78 5 = h19 78 5 := by rw [← e37]; exact x_up_i (by first | decide | omega)
        have q170 : h19 78 5 = h 78 5 := jK 0 f21 rg_78_5_0_1 (by first | decide | omega) (by first | decide | omega) (by decide)
        have q171 : h35 75 7 = h19 75 7 := by rw [← e37]; exact x_up_k (by decide)
        obtain ⟨w172, e173⟩ := Tw.yes c77 (by first | decide | omega)
        have q174 : h35 75 7 = h19 75 7 := by rw [← e37]; exact x_up_k (by decide)
        obtain ⟨w175, e176⟩ := Tw.yes c77 (by first | decide | omega)
        have q177 : h129 75 9 = h114 75 9 := by rw [← e131]; exact x_up_k (by decide)
        have b178 := jB (e := 9) 0 j115 rg_75_9_0_1 (by first | decide | omega) (by first | decide | omega)
        refine x_retI (np := 65) (x := 0) (by decide +kernel) (by decide) (Or.inr ⟨by decide +kernel, by first | decide | omega, by first | decide | omega⟩) ⟨_, rfl, (by decide), ?_⟩
        exact ⟨j130, f132, (by first | decide | omega), (fun z => by first | decide | omega), (fun z => by first | decide | omega), (fun z => by first | decide | omega), (fun z => by first | decide | omega), (fun z => by first | decide | omega), (fun z => by first | decide | omega), (fun z => absurd z (by first | decide | omega)), (Or.inr ⟨by first | decide | omega, (nm9.y c28 (by first | decide | omega) (by first | decide | omega) rfl (by first | decide | omega) rfl (wd9.y w172 (congrArg (sk tB tN) (show h35 75 7 = h19 75 7 by first | decide | omega)) e173 rfl (nm9.f c123 (by first | decide | omega) (by first | decide | omega) rfl (by first | decide | omega) (by first | decide | omega))))⟩), (fun _ => Or.inr ⟨by first | decide | omega, (mF.y c28 (by first | decide | omega) (by first | decide | omega) rfl (by first | decide | omega) rfl (wF.y w175 (congrArg (sk tB tN) (show h35 75 7 = h19 75 7 by first | decide | omega)) e176 rfl (mF.no c123 (by first | decide | omega) (by first | decide | omega) rfl (by first | decide | omega) (Eq.trans (show h129 75 9 = h114 75 9 by first | decide | omega) c124))))⟩)⟩
      have q136 : ¬ (2147483648 = 2147483648) := q136
      exfalso; omega
    have q134 : ¬ (v110 < 2147483648) := q134
    have b179 := c119 (by first | decide | omega)
    have b180 := c120 (by first | decide | omega)
    have b181 := c121 (by first | decide | omega)
    refine x_const (np := 12) (x := 9223372043297226753) (a := 2147483649) (by decide +kernel) (by decide) (by decide) ?_
    refine x_goto (np := 15) (x := 16) (by decide +kernel) ?_
    refine x_retI (np := 17) (x := 0) (by decide +kernel) (by decide) (Or.inr ⟨by decide +kernel, by first | decide | omega, by first | decide | omega⟩) ⟨_, rfl, (by decide), ?_⟩
    refine x_retI (np := 13) (x := 0) (by decide +kernel) (by decide) (Or.inr ⟨by decide +kernel, by first | decide | omega, by first | decide | omega⟩) ⟨_, rfl, (by decide), ?_⟩
    refine x_ifz (k := 0) (tg := 63) (np := 54) (by decide +kernel) (by decide) (by decide) (fun q182 => ?_) (fun q183 => ?_)
    · have q182 : 2147483649 = 2147483648 := q182
      exfalso; omega
    have q183 : ¬ (2147483649 = 2147483648) := q183
    refine x_aload (np := 55) (x := 0) (by decide +kernel) rfl (x_nc_le (by decide)) ?_
    refine x_ldcB (i := 14) (idx := 177) (tx := "as") (by rw [tb_y185]; exact List.mem_of_getElem? (i := 53) rfl) (by decide) (by rw [tb_b185]; decide +kernel) ?_
    have m188 := Tq.fr m113 f116 (by decide) (by decide)
    have m187 : Tq tB tN h129 := by rw [← e131]; exact Tq.oth m188 (by decide) (fun z => absurd z.1 (by decide))
    refine x_cI (t := 6) (mj := 172) (n := 2) (rc := 12) (ml := 2) (nr := 0) (np := 60) (as := [x_r 75, x_b (14 + 1)]) (rest := []) (lo1 := [x_r 75, x_b (14 + 1)]) (by decide +kernel) (by decide) (by decide +kernel) (x_rb_of (by decide +kernel)) rfl rfl (x_wr (by decide) (x_wB (by decide) x_wn)) x_wn (by decide) rfl (c172_75_S0 j130  (by decide) m187) (fun v184 h189 l185 q186 => ?_)
    obtain ⟨j190, f191, b192, c193, c194, c195, c196⟩ := q186
    have f197 := Fr.trans f132 f191 (by decide)
    have q198 : h129 75 7 = h114 75 7 := by rw [← e131]; exact x_up_k (by decide)
    have b199 := jB (e := 7) 0 j190 rg_75_7_0_1 (by first | decide | omega) (by first | decide | omega)
    have q200 : h129 75 7 = h114 75 7 := by rw [← e131]; exact x_up_k (by decide)
    refine x_ifz (k := 1) (tg := 65) (np := 63) (by decide +kernel) (by decide) l185 (fun q201 => ?_) (fun q202 => ?_)
    · have q201 : v184 ≠ 2147483648 := q201
      have b203 := c194 (by first | decide | omega)
      refine x_aload (np := 66) (x := 0) (by decide +kernel) rfl (x_nc_le (by decide)) ?_
      have q204 : h189 75 3 = 78 := by have z := jB (e := 3) 0 j190 rg_75_3_0_1 (by decide) (by decide); omega
      refine x_getR (np := 69) (x := 707) (f := 3) (q := 78) (by decide +kernel) (by decide) (by decide +kernel) q204 ?_
      refine x_iload (np := 70) (x := 1) (by decide +kernel) rfl (by first | decide | omega) ?_
      refine x_const (np := 71) (x := 9223372047592194050) (a := 2147483650) (by decide +kernel) (by decide) (by decide) ?_
      refine x_iadd (np := 72) (x := 0) (v := (2147483900 + 4 * u8)) (by decide +kernel) (by first | decide | omega) (by decide) (by first | decide | omega) (by first | decide | omega) ?_
      refine x_const (np := 73) (x := 9223372039002259456) (a := 2147483648) (by decide +kernel) (by decide) (by decide) ?_
      refine x_ast (np := 74) (x := 0) (kd := 1) (n := 290) (i := (252 + 4 * u8)) (by decide +kernel) (Or.inl rfl) (by decide +kernel) (by first | decide | omega) (by first | decide | omega) (by decide) (by decide) (fun z => absurd z (by decide)) ?_
      have j206 := jU (e := (252 + 4 * u8)) (v := 2147483648) u8 j190 rg_78_252_4_10 (by first | decide | omega) (by first | decide | omega) (by first | decide | omega)
      have f208 := jF (e := (252 + 4 * u8)) (v := 2147483648) u8 f197 rg_78_252_4_10 (by first | decide | omega) (by first | decide | omega) (by decide)
      generalize e207 : x_up h189 78 (252 + 4 * u8) 2147483648 = h205 at j206 f208 ⊢
      refine x_const (np := 75) (x := 9223372043297226753) (a := 2147483649) (by decide +kernel) (by decide) (by decide) ?_
      refine x_istore (np := 76) (x := 2) (lo' := [x_r 75, iv_c (2147483898 + 4 * u8), iv_c 2147483649, 147573952589676412928]) (by decide +kernel) (by decide) (Nat.le_of_ble_eq_true rfl) rfl ?_
      have p367 : ∀ (n : Nat) (v361 : Nat) (w363 : Nat) (h364 : xh), 4294967296 - h364 75 7 < n → (2147483648 ≤ v361 ∧ v361 ≤ 2147483649) → h364 78 5 = h 78 5 → h364 78 0 = h 78 0 → h364 78 1 = h 78 1 → h364 78 2 = h 78 2 → h364 78 3 = h 78 3 → h364 78 4 = h 78 4 → J h364 → Fr 273678337 h205 h364 → Cl h364 → (v361 = 2147483649 → Bq tB tN (h 76 0 - 1) (sk tB tN (h364 75 7)) (sk tB tN (h189 75 7))) ∧ (v361 = 2147483648 → Bl tB tN (h 76 0 - 1) (sk tB tN (h189 75 7)) (some (sk tB tN (h364 75 7)))) → h364 78 (251 + 4 * u8) = v110 → (v361 = 2147483649 → Bqf tB tN (h 76 0 - 1) (sk tB tN (h364 75 7)) (sk tB tN (h189 75 7))) → X sc 185 (d + 6) (xI fun r h' => J h' ∧ Fr 273678337 h h' ∧ (2147483648 ≤ r ∧ r ≤ 2147483649) ∧ (r = 2147483649 → h' 78 0 = h 78 0) ∧ (r = 2147483649 → h' 78 1 = h 78 1) ∧ (r = 2147483649 → h' 78 2 = h 78 2) ∧ (r = 2147483649 → h' 78 3 = h 78 3) ∧ (r = 2147483649 → h' 78 4 = h 78 4) ∧ (r = 2147483649 → h' 78 5 = h 78 5 + 1) ∧ (r = 2147483649 → Cl h') ∧ ((h 78 5 = 2147483658 ∧ r = 2147483648) ∨ (h 78 5 ≠ 2147483658 ∧ seen9 tB tN (h 76 0) (sk tB tN (h 75 7)) (rs r (sk tB tN (h' 75 7))))) ∧ (r = 2147483648 → (h 78 5 = 2147483658 ∧ h' 75 9 = h 75 9) ∨ (h 78 5 ≠ 2147483658 ∧ seenF tB tN (h 76 0) (sk tB tN (h 75 7)) (h' 75 9)))) 0 0 76 [x_r 75, iv_c (2147483898 + 4 * u8), iv_c v361, w363] [] h364 := by
        intro n
        induction n with
        | zero => intro v361 w363 h364 q378; exact absurd q378 (Nat.not_lt_zero _)
        | succ n i379 =>
          intro v361 w363 h364 q378 b362 b368 b369 b370 b371 b372 b373 j366 f365 m377 m374 m375 m376
          have f380 := Fr.trans f208 f365 (by decide)
          have b381 := jB (e := 7) 0 j366 rg_75_7_0_1 (by first | decide | omega) (by first | decide | omega)
          refine x_iload (np := 77) (x := 2) (by decide +kernel) rfl (by first | decide | omega) ?_
          refine x_ifz (k := 0) (tg := 122) (np := 80) (by decide +kernel) (by decide) (by first | decide | omega) (fun q382 => ?_) (fun q383 => ?_)
          · have q382 : v361 = 2147483648 := q382
            refine x_aload (np := 123) (x := 0) (by decide +kernel) rfl (x_nc_le (by decide)) ?_
            refine x_ldcB (i := 16) (idx := 181) (tx := "known") (by rw [tb_y185]; exact List.mem_of_getElem? (i := 55) rfl) (by decide) (by rw [tb_b185]; decide +kernel) ?_
            have m389 := Tq.fr m187 f191 (by decide) (by decide)
            have m388 : Tq tB tN h205 := by rw [← e207]; exact Tq.oth m389 (by decide) (fun z => absurd z.1 (by decide))
            have m387 := Tq.fr m388 f365 (by decide) (by decide)
            refine x_cI (t := 6) (mj := 172) (n := 2) (rc := 12) (ml := 2) (nr := 0) (np := 128) (as := [x_r 75, x_b (16 + 1)]) (rest := []) (lo1 := [x_r 75, x_b (16 + 1)]) (by decide +kernel) (by decide) (by decide +kernel) (x_rb_of (by decide +kernel)) rfl rfl (x_wr (by decide) (x_wB (by decide) x_wn)) x_wn (by decide) rfl (c172_75_S0 j366  (by decide) m387) (fun v384 h390 l385 q386 => ?_)
            obtain ⟨j391, f392, b393, c394, c395, c396, c397⟩ := q386
            have f398 := Fr.trans f380 f392 (by decide)
            have b399 := jB (e := 7) 0 j391 rg_75_7_0_1 (by first | decide | omega) (by first | decide | omega)
            refine x_ifz (k := 0) (tg := 149) (np := 131) (by decide +kernel) (by decide) l385 (fun q400 => ?_) (fun q401 => ?_)
            · have q400 : v384 = 2147483648 := q400
              refine x_const (np := 150) (x := 9223372039002259456) (a := 2147483648) (by decide +kernel) (by decide) (by decide) ?_
              have b402 := jB (e := 0) 0 hJ rg_78_0_0_1 (by first | decide | omega) (by first | decide | omega)
              have q403 : h390 78 0 = h364 78 0 := jK 0 f392 rg_78_0_0_1 (by first | decide | omega) (by first | decide | omega) (by decide)
              have b404 := jB (e := 0) 0 j366 rg_78_0_0_1 (by first | decide | omega) (by first | decide | omega)
              have q405 : h390 78 1 = h364 78 1 := jK 0 f392 rg_78_1_0_1 (by first | decide | omega) (by first | decide | omega) (by decide)
              have b406 := jB (e := 2) 0 hJ rg_78_2_0_1 (by first | decide | omega) (by first | decide | omega)
              have q407 : h390 78 2 = h364 78 2 := jK 0 f392 rg_78_2_0_1 (by first | decide | omega) (by first | decide | omega) (by decide)
              have b408 := jB (e := 2) 0 j366 rg_78_2_0_1 (by first | decide | omega) (by first | decide | omega)
              have b409 := jB (e := 3) 0 hJ rg_78_3_0_1 (by first | decide | omega) (by first | decide | omega)
              have q410 : h390 78 3 = h364 78 3 := jK 0 f392 rg_78_3_0_1 (by first | decide | omega) (by first | decide | omega) (by decide)
              have b411 := jB (e := 3) 0 j366 rg_78_3_0_1 (by first | decide | omega) (by first | decide | omega)
              have b412 := jB (e := 4) 0 hJ rg_78_4_0_1 (by first | decide | omega) (by first | decide | omega)
              have q413 : h390 78 4 = h364 78 4 := jK 0 f392 rg_78_4_0_1 (by first | decide | omega) (by first | decide | omega) (by decide)
              have b414 := jB (e := 4) 0 j366 rg_78_4_0_1 (by first | decide | omega) (by first | decide | omega)
              have q415 : h390 78 5 = h364 78 5 := jK 0 f392 rg_78_5_0_1 (by first | decide | omega) (by first | decide | omega) (by decide)
              have b416 := jB (e := 5) 0 j366 rg_78_5_0_1 (by first | decide | omega) (by first | decide | omega)
              have y417 : Bl tB tN (h 76 0 - 1) (sk tB tN (h189 75 7)) (rs 2147483649 (sk tB tN (h364 75 7))) := by rw [rs1 rfl]; exact m374.2 (by first | decide | omega)
              have q418 : h35 75 7 = h19 75 7 := by rw [← e37]; exact x_up_k (by decide)
              obtain ⟨w419, e420⟩ := Tw.yes c77 (by first | decide | omega)
              have q421 : h129 75 7 = h114 75 7 := by rw [← e131]; exact x_up_k (by decide)
              obtain ⟨w422, e423⟩ := Tw.yes c195 (by first | decide | omega)
              have y424 : Bl tB tN (h 76 0 - 1) (sk tB tN (h189 75 7)) (rs 2147483649 (sk tB tN (h364 75 7))) := by rw [rs1 rfl]; exact m374.2 (by first | decide | omega)
              have q425 : h35 75 7 = h19 75 7 := by rw [← e37]; exact x_up_k (by decide)
              obtain ⟨w426, e427⟩ := Tw.yes c77 (by first | decide | omega)
              have q428 : h129 75 7 = h114 75 7 := by rw [← e131]; exact x_up_k (by decide)
              obtain ⟨w429, e430⟩ := Tw.yes c195 (by first | decide | omega)
              refine x_retI (np := 151) (x := 0) (by decide +kernel) (by decide) (Or.inr ⟨by decide +kernel, by first | decide | omega, by first | decide | omega⟩) ⟨_, rfl, (by decide), ?_⟩
              exact ⟨j391, f398, (by first | decide | omega), (fun z => by first | decide | omega), (fun z => by first | decide | omega), (fun z => by first | decide | omega), (fun z => by first | decide | omega), (fun z => by first | decide | omega), (fun z => by first | decide | omega), (fun z => absurd z (by first | decide | omega)), (Or.inr ⟨by first | decide | omega, (nm9.y c28 (by first | decide | omega) (by first | decide | omega) rfl (by first | decide | omega) rfl (wd9.y w419 (congrArg (sk tB tN) (show h35 75 7 = h19 75 7 by first | decide | omega)) e420 rfl (nm9.y c123 (by first | decide | omega) (by first | decide | omega) rfl (by first | decide | omega) rfl (wd9.y w422 (congrArg (sk tB tN) (show h129 75 7 = h114 75 7 by first | decide | omega)) e423 rfl (bl9.y y417 rfl rfl rfl rfl (wd9.f (Tw.no c396 (by first | decide | omega)) rfl (by first | decide | omega)))))))⟩), (fun _ => Or.inr ⟨by first | decide | omega, (mF.y c28 (by first | decide | omega) (by first | decide | omega) rfl (by first | decide | omega) rfl (wF.y w426 (congrArg (sk tB tN) (show h35 75 7 = h19 75 7 by first | decide | omega)) e427 rfl (mF.y c123 (by first | decide | omega) (by first | decide | omega) rfl (by first | decide | omega) rfl (wF.y w429 (congrArg (sk tB tN) (show h129 75 7 = h114 75 7 by first | decide | omega)) e430 rfl (bF.y y424 rfl rfl rfl rfl (wF.no (Tw.no c396 (by first | decide | omega)) rfl c397))))))⟩)⟩
            have q401 : ¬ (v384 = 2147483648) := q401
            have b431 := c395 (by first | decide | omega)
            refine x_aload (np := 132) (x := 0) (by decide +kernel) rfl (x_nc_le (by decide)) ?_
            refine x_iload (np := 133) (x := 1) (by decide +kernel) rfl (by first | decide | omega) ?_
            refine x_const (np := 134) (x := 9223372051887161347) (a := 2147483651) (by decide +kernel) (by decide) (by decide) ?_
            refine x_iadd (np := 135) (x := 0) (v := (2147483901 + 4 * u8)) (by decide +kernel) (by first | decide | omega) (by decide) (by first | decide | omega) (by first | decide | omega) ?_
            refine x_aload (np := 136) (x := 0) (by decide +kernel) rfl (x_nc_le (by decide)) ?_
            have q432 : h390 75 3 = 78 := by have z := jB (e := 3) 0 j391 rg_75_3_0_1 (by decide) (by decide); omega
            refine x_getR (np := 139) (x := 707) (f := 3) (q := 78) (by decide +kernel) (by decide) (by decide +kernel) q432 ?_
            refine x_iload (np := 140) (x := 1) (by decide +kernel) rfl (by first | decide | omega) ?_
            refine x_const (np := 141) (x := 9223372043297226753) (a := 2147483649) (by decide +kernel) (by decide) (by decide) ?_
            refine x_iadd (np := 142) (x := 0) (v := (2147483899 + 4 * u8)) (by decide +kernel) (by first | decide | omega) (by decide) (by first | decide | omega) (by first | decide | omega) ?_
            have q433 : h390 78 (251 + 4 * u8) = h364 78 (251 + 4 * u8) := jK u8 f392 rg_78_251_4_10 (by first | decide | omega) (by first | decide | omega) (by decide)
            refine x_aldC (np := 143) (x := 0) (n := 290) (i := (251 + 4 * u8)) (q := ((h364 78 (251 + 4 * u8)))) (by decide +kernel) (by decide +kernel) (by first | decide | omega) (by first | decide | omega) (by decide) q433 (fun l434 => ?_)
            refine x_nI (t := 6) (mj := 178) (n := 3) (rc := 12) (ml := 3) (nr := 0) (np := 146) (as := [x_r 75, iv_c (2147483901 + 4 * u8), iv_c ((h364 78 (251 + 4 * u8)))]) (rest := []) (lo1 := [x_r 75, iv_c (2147483901 + 4 * u8), iv_c ((h364 78 (251 + 4 * u8)))]) (by decide +kernel) (by decide) (by decide +kernel) (x_rb_of (by decide +kernel)) rfl rfl (x_wr (by decide) (x_wi (by first | decide | omega) (x_wi l434 x_wn))) x_wn (by decide) rfl ?_
            refine x_aload (np := 1) (x := 0) (by decide +kernel) rfl (x_nc_le (by decide)) ?_
            refine x_iload (np := 2) (x := 1) (by decide +kernel) rfl (by first | decide | omega) ?_
            refine x_aload (np := 3) (x := 0) (by decide +kernel) rfl (x_nc_le (by decide)) ?_
            refine x_iload (np := 4) (x := 2) (by decide +kernel) rfl l434 ?_
            refine x_const (np := 6) (x := 9223372086246899723) (a := 2147483659) (by decide +kernel) (by decide) (by decide) ?_
            have m438 := Tq.fr m387 f392 (by decide) (by decide)
            refine x_cI (t := 6) (mj := 174) (n := 3) (rc := 12) (ml := 4) (nr := 2) (np := 9) (as := [x_r 75, iv_c ((h364 78 (251 + 4 * u8))), iv_c 2147483659]) (rest := [iv_c (2147483901 + 4 * u8), x_r 75]) (lo1 := [x_r 75, iv_c ((h364 78 (251 + 4 * u8))), iv_c 2147483659, 147573952589676412928]) (by decide +kernel) (by decide) (by decide +kernel) (x_rb_of (by decide +kernel)) rfl rfl (x_wr (by decide) (x_wi l434 (x_wi (by decide) x_wn))) (x_wi (by first | decide | omega) (x_wr (by decide) x_wn)) (by decide) rfl (c174_75 j391  (by first | decide | omega) (by first | decide | omega) m438) (fun v435 h439 l436 q437 => ?_)
            obtain ⟨j440, f441, b442, c443, c444, c445, c446, c447, c448, c449⟩ := q437
            have f450 := Fr.trans f398 f441 (by decide)
            have b451 := jB (e := 7) 0 j440 rg_75_7_0_1 (by first | decide | omega) (by first | decide | omega)
            have b452 := c447 (by first | decide | omega)
            refine x_nI (t := 6) (mj := 176) (n := 3) (rc := 12) (ml := 3) (nr := 0) (np := 12) (as := [x_r 75, iv_c (2147483901 + 4 * u8), iv_c v435]) (rest := []) (lo1 := [x_r 75, iv_c (2147483901 + 4 * u8), iv_c v435]) (by decide +kernel) (by decide) (by decide +kernel) (x_rb_of (by decide +kernel)) rfl rfl (x_wr (by decide) (x_wi (by first | decide | omega) (x_wi l436 x_wn))) x_wn (by decide) rfl ?_
            refine x_aload (np := 1) (x := 0) (by decide +kernel) rfl (x_nc_le (by decide)) ?_
            have q453 : h439 75 3 = 78 := by have z := jB (e := 3) 0 j440 rg_75_3_0_1 (by decide) (by decide); omega
            refine x_getR (np := 4) (x := 707) (f := 3) (q := 78) (by decide +kernel) (by decide) (by decide +kernel) q453 ?_
            refine x_iload (np := 5) (x := 1) (by decide +kernel) rfl (by first | decide | omega) ?_
            refine x_iload (np := 6) (x := 2) (by decide +kernel) rfl l436 ?_
            refine x_ast (np := 7) (x := 0) (kd := 1) (n := 290) (i := (253 + 4 * u8)) (by decide +kernel) (Or.inl rfl) (by decide +kernel) (by first | decide | omega) (by first | decide | omega) (by decide) l436 (fun z => absurd z (by decide)) ?_
            have j455 := jU (e := (253 + 4 * u8)) (v := v435) u8 j440 rg_78_253_4_10 (by first | decide | omega) (by first | decide | omega) (by first | decide | omega)
            have f457 := jF (e := (253 + 4 * u8)) (v := v435) u8 f450 rg_78_253_4_10 (by first | decide | omega) (by first | decide | omega) (by decide)
            generalize e456 : x_up h439 78 (253 + 4 * u8) v435 = h454 at j455 f457 ⊢
            refine x_iload (np := 8) (x := 2) (by decide +kernel) rfl l436 ?_
            refine x_ifz (k := 2) (tg := 15) (np := 11) (by decide +kernel) (by decide) l436 (fun q458 => ?_) (fun q459 => ?_)
            · have q458 : v435 < 2147483648 := q458
              refine x_const (np := 16) (x := 9223372039002259456) (a := 2147483648) (by decide +kernel) (by decide) (by decide) ?_
              refine x_retI (np := 17) (x := 0) (by decide +kernel) (by decide) (Or.inr ⟨by decide +kernel, by first | decide | omega, by first | decide | omega⟩) ⟨_, rfl, (by decide), ?_⟩
              refine x_retI (np := 13) (x := 0) (by decide +kernel) (by decide) (Or.inr ⟨by decide +kernel, by first | decide | omega, by first | decide | omega⟩) ⟨_, rfl, (by decide), ?_⟩
              refine x_ifz (k := 1) (tg := 151) (np := 149) (by decide +kernel) (by decide) (by decide) (fun q460 => ?_) (fun q461 => ?_)
              · have q460 : 2147483648 ≠ 2147483648 := q460
                exfalso; omega
              have q461 : ¬ (2147483648 ≠ 2147483648) := q461
              refine x_const (np := 150) (x := 9223372039002259456) (a := 2147483648) (by decide +kernel) (by decide) (by decide) ?_
              have b462 := jB (e := 0) 0 hJ rg_78_0_0_1 (by first | decide | omega) (by first | decide | omega)
              have q463 : h454 78 0 = h439 78 0 := by rw [← e456]; exact x_up_i (by first | decide | omega)
              have q464 : h439 78 0 = h390 78 0 := jK 0 f441 rg_78_0_0_1 (by first | decide | omega) (by first | decide | omega) (by decide)
              have q465 : h390 78 0 = h364 78 0 := jK 0 f392 rg_78_0_0_1 (by first | decide | omega) (by first | decide | omega) (by decide)
              have b466 := jB (e := 0) 0 j366 rg_78_0_0_1 (by first | decide | omega) (by first | decide | omega)
              have q467 : h454 78 1 = h439 78 1 := by rw [← e456]; exact x_up_i (by first | decide | omega)
              have q468 : h439 78 1 = h390 78 1 := jK 0 f441 rg_78_1_0_1 (by first | decide | omega) (by first | decide | omega) (by decide)
              have q469 : h390 78 1 = h364 78 1 := jK 0 f392 rg_78_1_0_1 (by first | decide | omega) (by first | decide | omega) (by decide)
              have b470 := jB (e := 2) 0 hJ rg_78_2_0_1 (by first | decide | omega) (by first | decide | omega)
              have q471 : h454 78 2 = h439 78 2 := by rw [← e456]; exact x_up_i (by first | decide | omega)
              have q472 : h439 78 2 = h390 78 2 := jK 0 f441 rg_78_2_0_1 (by first | decide | omega) (by first | decide | omega) (by decide)
              have q473 : h390 78 2 = h364 78 2 := jK 0 f392 rg_78_2_0_1 (by first | decide | omega) (by first | decide | omega) (by decide)
              have b474 := jB (e := 2) 0 j366 rg_78_2_0_1 (by first | decide | omega) (by first | decide | omega)
              have b475 := jB (e := 3) 0 hJ rg_78_3_0_1 (by first | decide | omega) (by first | decide | omega)
              have q476 : h454 78 3 = h439 78 3 := by rw [← e456]; exact x_up_i (by first | decide | omega)
              have q477 : h439 78 3 = h390 78 3 := jK 0 f441 rg_78_3_0_1 (by first | decide | omega) (by first | decide | omega) (by decide)
              have q478 : h390 78 3 = h364 78 3 := jK 0 f392 rg_78_3_0_1 (by first | decide | omega) (by first | decide | omega) (by decide)
              have b479 := jB (e := 3) 0 j366 rg_78_3_0_1 (by first | decide | omega) (by first | decide | omega)
              have b480 := jB (e := 4) 0 hJ rg_78_4_0_1 (by first | decide | omega) (by first | decide | omega)
              have q481 : h454 78 4 = h439 78 4 := by rw [← e456]; exact x_up_i (by first | decide | omega)
              have q482 : h439 78 4 = h390 78 4 := jK 0 f441 rg_78_4_0_1 (by first | decide | omega) (by first | decide | omega) (by decide)
              have q483 : h390 78 4 = h364 78 4 := jK 0 f392 rg_78_4_0_1 (by first | decide | omega) (by first | decide | omega) (by decide)
              have b484 := jB (e := 4) 0 j366 rg_78_4_0_1 (by first | decide | omega) (by first | decide | omega)
              have q485 : h454 78 5 = h439 78 5 := by rw [← e456]; exact x_up_i (by first | decide | omega)
              have q486 : h439 78 5 = h390 78 5 := jK 0 f441 rg_78_5_0_1 (by first | decide | omega) (by first | decide | omega) (by decide)
              have q487 : h390 78 5 = h364 78 5 := jK 0 f392 rg_78_5_0_1 (by first | decide | omega) (by first | decide | omega) (by decide)
              have b488 := jB (e := 5) 0 j366 rg_78_5_0_1 (by first | decide | omega) (by first | decide | omega)
              have y489 : Bl tB tN (h 76 0 - 1) (sk tB tN (h189 75 7)) (rs 2147483649 (sk tB tN (h364 75 7))) := by rw [rs1 rfl]; exact m374.2 (by first | decide | omega)
              have q490 : h35 75 7 = h19 75 7 := by rw [← e37]; exact x_up_k (by decide)
              obtain ⟨w491, e492⟩ := Tw.yes c77 (by first | decide | omega)
              have q493 : h129 75 7 = h114 75 7 := by rw [← e131]; exact x_up_k (by decide)
              obtain ⟨w494, e495⟩ := Tw.yes c195 (by first | decide | omega)
              obtain ⟨w496, e497⟩ := Tw.yes c396 (by first | decide | omega)
              have y498 : Bl tB tN (h 76 0 - 1) (sk tB tN (h189 75 7)) (rs 2147483649 (sk tB tN (h364 75 7))) := by rw [rs1 rfl]; exact m374.2 (by first | decide | omega)
              obtain ⟨w499, e500⟩ := Tw.yes c396 (by first | decide | omega)
              have q501 : h454 75 9 = h439 75 9 := by rw [← e456]; exact x_up_k (by decide)
              have b502 := jB (e := 9) 0 j440 rg_75_9_0_1 (by first | decide | omega) (by first | decide | omega)
              have q503 : h35 75 7 = h19 75 7 := by rw [← e37]; exact x_up_k (by decide)
              obtain ⟨w504, e505⟩ := Tw.yes c77 (by first | decide | omega)
              have q506 : h129 75 7 = h114 75 7 := by rw [← e131]; exact x_up_k (by decide)
              obtain ⟨w507, e508⟩ := Tw.yes c195 (by first | decide | omega)
              refine x_retI (np := 151) (x := 0) (by decide +kernel) (by decide) (Or.inr ⟨by decide +kernel, by first | decide | omega, by first | decide | omega⟩) ⟨_, rfl, (by decide), ?_⟩
              exact ⟨j455, f457, (by first | decide | omega), (fun z => by first | decide | omega), (fun z => by first | decide | omega), (fun z => by first | decide | omega), (fun z => by first | decide | omega), (fun z => by first | decide | omega), (fun z => by first | decide | omega), (fun z => absurd z (by first | decide | omega)), (Or.inr ⟨by first | decide | omega, (nm9.y c28 (by first | decide | omega) (by first | decide | omega) rfl (by first | decide | omega) rfl (wd9.y w491 (congrArg (sk tB tN) (show h35 75 7 = h19 75 7 by first | decide | omega)) e492 rfl (nm9.y c123 (by first | decide | omega) (by first | decide | omega) rfl (by first | decide | omega) rfl (wd9.y w494 (congrArg (sk tB tN) (show h129 75 7 = h114 75 7 by first | decide | omega)) e495 rfl (bl9.y y489 rfl rfl rfl rfl (wd9.y w496 rfl e497 rfl (nm9.f c448 (by first | decide | omega) (by first | decide | omega) rfl (by first | decide | omega) (by first | decide | omega))))))))⟩), (fun _ => Or.inr ⟨by first | decide | omega, (mF.y c28 (by first | decide | omega) (by first | decide | omega) rfl (by first | decide | omega) rfl (wF.y w504 (congrArg (sk tB tN) (show h35 75 7 = h19 75 7 by first | decide | omega)) e505 rfl (mF.y c123 (by first | decide | omega) (by first | decide | omega) rfl (by first | decide | omega) rfl (wF.y w507 (congrArg (sk tB tN) (show h129 75 7 = h114 75 7 by first | decide | omega)) e508 rfl (bF.y y498 rfl rfl rfl rfl (wF.y w499 rfl e500 rfl (mF.no c448 (by first | decide | omega) (by first | decide | omega) rfl (by first | decide | omega) (Eq.trans (show h454 75 9 = h439 75 9 by first | decide | omega) c449))))))))⟩)⟩
            have q459 : ¬ (v435 < 2147483648) := q459
            have b509 := c444 (by first | decide | omega)
            have b510 := c445 (by first | decide | omega)
            have b511 := c446 (by first | decide | omega)
            refine x_const (np := 12) (x := 9223372043297226753) (a := 2147483649) (by decide +kernel) (by decide) (by decide) ?_
            refine x_goto (np := 15) (x := 16) (by decide +kernel) ?_
            refine x_retI (np := 17) (x := 0) (by decide +kernel) (by decide) (Or.inr ⟨by decide +kernel, by first | decide | omega, by first | decide | omega⟩) ⟨_, rfl, (by decide), ?_⟩
            refine x_retI (np := 13) (x := 0) (by decide +kernel) (by decide) (Or.inr ⟨by decide +kernel, by first | decide | omega, by first | decide | omega⟩) ⟨_, rfl, (by decide), ?_⟩
            refine x_ifz (k := 1) (tg := 151) (np := 149) (by decide +kernel) (by decide) (by decide) (fun q512 => ?_) (fun q513 => ?_)
            · have q512 : 2147483649 ≠ 2147483648 := q512
              refine x_aload (np := 152) (x := 0) (by decide +kernel) rfl (x_nc_le (by decide)) ?_
              have q514 : h454 75 3 = 78 := by have z := jB (e := 3) 0 j455 rg_75_3_0_1 (by decide) (by decide); omega
              refine x_getR (np := 155) (x := 707) (f := 3) (q := 78) (by decide +kernel) (by decide) (by decide +kernel) q514 ?_
              refine x_const (np := 156) (x := 9223372060477095941) (a := 2147483653) (by decide +kernel) (by decide) (by decide) ?_
              refine x_dup2 (np := 157) (x := 0) (by decide +kernel) (by have z := (iw_c_lt (a := 2147483653) (by decide)).1; omega) (by have z := x_nc_le (k := 78) (by decide); unfold x_r; omega) ?_
              have q515 : h454 78 5 = h439 78 5 := by rw [← e456]; exact x_up_i (by first | decide | omega)
              have q516 : h439 78 5 = h390 78 5 := jK 0 f441 rg_78_5_0_1 (by first | decide | omega) (by first | decide | omega) (by decide)
              have q517 : h390 78 5 = h364 78 5 := jK 0 f392 rg_78_5_0_1 (by first | decide | omega) (by first | decide | omega) (by decide)
              have b518 := jB (e := 5) 0 j366 rg_78_5_0_1 (by first | decide | omega) (by first | decide | omega)
              refine x_aldC (np := 158) (x := 0) (n := 290) (i := 5) (q := (h364 78 5)) (by decide +kernel) (by decide +kernel) (by first | decide | omega) (by first | decide | omega) (by decide) ((q515.trans q516).trans q517) (fun l519 => ?_)
              refine x_const (np := 159) (x := 9223372043297226753) (a := 2147483649) (by decide +kernel) (by decide) (by decide) ?_
              refine x_iadd (np := 160) (x := 0) (v := (1 + (h364 78 5))) (by decide +kernel) l519 (by decide) (by first | decide | omega) (by first | decide | omega) ?_
              refine x_ast (np := 161) (x := 0) (kd := 1) (n := 290) (i := 5) (by decide +kernel) (Or.inl rfl) (by decide +kernel) (by first | decide | omega) (by first | decide | omega) (by decide) (by first | decide | omega) (fun z => absurd z (by decide)) ?_
              have j521 := jU (e := 5) (v := (1 + (h364 78 5))) 0 j455 rg_78_5_0_1 (by first | decide | omega) (by first | decide | omega) (by first | decide | omega)
              have f523 := jF (e := 5) (v := (1 + (h364 78 5))) 0 f457 rg_78_5_0_1 (by first | decide | omega) (by first | decide | omega) (by decide)
              generalize e522 : x_up h454 78 5 (1 + (h364 78 5)) = h520 at j521 f523 ⊢
              refine x_const (np := 162) (x := 9223372043297226753) (a := 2147483649) (by decide +kernel) (by decide) (by decide) ?_
              have b524 := jB (e := 0) 0 hJ rg_78_0_0_1 (by first | decide | omega) (by first | decide | omega)
              have q525 : h520 78 0 = h454 78 0 := by rw [← e522]; exact x_up_i (by first | decide | omega)
              have q526 : h454 78 0 = h439 78 0 := by rw [← e456]; exact x_up_i (by first | decide | omega)
              have q527 : h439 78 0 = h390 78 0 := jK 0 f441 rg_78_0_0_1 (by first | decide | omega) (by first | decide | omega) (by decide)
              have q528 : h390 78 0 = h364 78 0 := jK 0 f392 rg_78_0_0_1 (by first | decide | omega) (by first | decide | omega) (by decide)
              have b529 := jB (e := 0) 0 j366 rg_78_0_0_1 (by first | decide | omega) (by first | decide | omega)
              have q530 : h520 78 1 = h454 78 1 := by rw [← e522]; exact x_up_i (by first | decide | omega)
              have q531 : h454 78 1 = h439 78 1 := by rw [← e456]; exact x_up_i (by first | decide | omega)
              have q532 : h439 78 1 = h390 78 1 := jK 0 f441 rg_78_1_0_1 (by first | decide | omega) (by first | decide | omega) (by decide)
              have q533 : h390 78 1 = h364 78 1 := jK 0 f392 rg_78_1_0_1 (by first | decide | omega) (by first | decide | omega) (by decide)
              have b534 := jB (e := 2) 0 hJ rg_78_2_0_1 (by first | decide | omega) (by first | decide | omega)
              have q535 : h520 78 2 = h454 78 2 := by rw [← e522]; exact x_up_i (by first | decide | omega)
              have q536 : h454 78 2 = h439 78 2 := by rw [← e456]; exact x_up_i (by first | decide | omega)
              have q537 : h439 78 2 = h390 78 2 := jK 0 f441 rg_78_2_0_1 (by first | decide | omega) (by first | decide | omega) (by decide)
              have q538 : h390 78 2 = h364 78 2 := jK 0 f392 rg_78_2_0_1 (by first | decide | omega) (by first | decide | omega) (by decide)
              have b539 := jB (e := 2) 0 j366 rg_78_2_0_1 (by first | decide | omega) (by first | decide | omega)
              have b540 := jB (e := 3) 0 hJ rg_78_3_0_1 (by first | decide | omega) (by first | decide | omega)
              have q541 : h520 78 3 = h454 78 3 := by rw [← e522]; exact x_up_i (by first | decide | omega)
              have q542 : h454 78 3 = h439 78 3 := by rw [← e456]; exact x_up_i (by first | decide | omega)
              have q543 : h439 78 3 = h390 78 3 := jK 0 f441 rg_78_3_0_1 (by first | decide | omega) (by first | decide | omega) (by decide)
              have q544 : h390 78 3 = h364 78 3 := jK 0 f392 rg_78_3_0_1 (by first | decide | omega) (by first | decide | omega) (by decide)
              have b545 := jB (e := 3) 0 j366 rg_78_3_0_1 (by first | decide | omega) (by first | decide | omega)
              have b546 := jB (e := 4) 0 hJ rg_78_4_0_1 (by first | decide | omega) (by first | decide | omega)
              have q547 : h520 78 4 = h454 78 4 := by rw [← e522]; exact x_up_i (by first | decide | omega)
              have q548 : h454 78 4 = h439 78 4 := by rw [← e456]; exact x_up_i (by first | decide | omega)
              have q549 : h439 78 4 = h390 78 4 := jK 0 f441 rg_78_4_0_1 (by first | decide | omega) (by first | decide | omega) (by decide)
              have q550 : h390 78 4 = h364 78 4 := jK 0 f392 rg_78_4_0_1 (by first | decide | omega) (by first | decide | omega) (by decide)
              have b551 := jB (e := 4) 0 j366 rg_78_4_0_1 (by first | decide | omega) (by first | decide | omega)
              have q552 : h520 78 5 = (1 + (h364 78 5)) := by rw [← e522]; exact x_up_at
              have m556 := Cl.fr m377 f392 (by decide)
              have m555 := Cl.fr m556 f441 (by decide)
              have m554 : Cl h454 := by rw [← e456]; exact Cl.upR (e := (253 + 4 * u8)) (v := v435) u8 m555 rg_76_253_4_10 (by first | decide | omega) (by first | decide | omega) (by first | decide | omega)
              have m553 : Cl h520 := by rw [← e522]; exact Cl.upR (e := 5) (v := (1 + (h364 78 5))) 0 m554 rg_76_5_0_1 (by first | decide | omega) (by first | decide | omega) (by first | decide | omega)
              have y557 : Bl tB tN (h 76 0 - 1) (sk tB tN (h189 75 7)) (rs 2147483649 (sk tB tN (h364 75 7))) := by rw [rs1 rfl]; exact m374.2 (by first | decide | omega)
              have q558 : h35 75 7 = h19 75 7 := by rw [← e37]; exact x_up_k (by decide)
              obtain ⟨w559, e560⟩ := Tw.yes c77 (by first | decide | omega)
              have q561 : h129 75 7 = h114 75 7 := by rw [← e131]; exact x_up_k (by decide)
              obtain ⟨w562, e563⟩ := Tw.yes c195 (by first | decide | omega)
              obtain ⟨w564, e565⟩ := Tw.yes c396 (by first | decide | omega)
              have q566 : h520 75 7 = h454 75 7 := by rw [← e522]; exact x_up_k (by decide)
              have q567 : h454 75 7 = h439 75 7 := by rw [← e456]; exact x_up_k (by decide)
              refine x_retI (np := 163) (x := 0) (by decide +kernel) (by decide) (Or.inr ⟨by decide +kernel, by first | decide | omega, by first | decide | omega⟩) ⟨_, rfl, (by decide), ?_⟩
              exact ⟨j521, f523, (by first | decide | omega), (fun z => by first | decide | omega), (fun z => by first | decide | omega), (fun z => by first | decide | omega), (fun z => by first | decide | omega), (fun z => by first | decide | omega), (fun z => by first | decide | omega), (fun _ => m553), (Or.inr ⟨by first | decide | omega, (nm9.y c28 (by first | decide | omega) (by first | decide | omega) rfl (by first | decide | omega) rfl (wd9.y w559 (congrArg (sk tB tN) (show h35 75 7 = h19 75 7 by first | decide | omega)) e560 rfl (nm9.y c123 (by first | decide | omega) (by first | decide | omega) rfl (by first | decide | omega) rfl (wd9.y w562 (congrArg (sk tB tN) (show h129 75 7 = h114 75 7 by first | decide | omega)) e563 rfl (bl9.y y557 rfl rfl rfl rfl (wd9.y w564 rfl e565 rfl (nm9.y c448 (by first | decide | omega) (by first | decide | omega) rfl (by first | decide | omega) rfl (fin9.mk (by first | decide | omega) (congrArg (sk tB tN) (show h439 75 7 = h520 75 7 by first | decide | omega))))))))))⟩), (fun z => absurd z (by first | decide | omega))⟩
            have q513 : ¬ (2147483649 ≠ 2147483648) := q513
            exfalso; omega
          have q383 : ¬ (v361 = 2147483648) := q383
          refine x_aload (np := 81) (x := 0) (by decide +kernel) rfl (x_nc_le (by decide)) ?_
          refine x_const (np := 82) (x := 9223372039002259456) (a := 2147483648) (by decide +kernel) (by decide) (by decide) ?_
          refine x_aload (np := 83) (x := 0) (by decide +kernel) rfl (x_nc_le (by decide)) ?_
          refine x_nI (t := 6) (mj := 157) (n := 1) (rc := 12) (ml := 1) (nr := 2) (np := 86) (as := [x_r 75]) (rest := [iv_c 2147483648, x_r 75]) (lo1 := [x_r 75]) (by decide +kernel) (by decide) (by decide +kernel) (x_rb_of (by decide +kernel)) rfl rfl (x_wr (by decide) x_wn) (x_wi (by decide) (x_wr (by decide) x_wn)) (by decide) rfl ?_
          refine x_aload (np := 1) (x := 0) (by decide +kernel) rfl (x_nc_le (by decide)) ?_
          have q568 : h364 75 1 = 76 := by have z := jB (e := 1) 0 j366 rg_75_1_0_1 (by decide) (by decide); omega
          refine x_getR (np := 4) (x := 705) (f := 1) (q := 76) (by decide +kernel) (by decide) (by decide +kernel) q568 ?_
          refine x_const (np := 5) (x := 9223372039002259456) (a := 2147483648) (by decide +kernel) (by decide) (by decide) ?_
          have q569 : h364 76 0 = h205 76 0 := jK 0 f365 rg_76_0_0_1 (by first | decide | omega) (by first | decide | omega) (by decide)
          have q570 : h205 76 0 = h189 76 0 := by rw [← e207]; exact x_up_k (by decide)
          have q571 : h189 76 0 = h129 76 0 := jK 0 f191 rg_76_0_0_1 (by first | decide | omega) (by first | decide | omega) (by decide)
          have q572 : h129 76 0 = h114 76 0 := by rw [← e131]; exact x_up_k (by decide)
          have q573 : h114 76 0 = h71 76 0 := jK 0 f116 rg_76_0_0_1 (by first | decide | omega) (by first | decide | omega) (by decide)
          have q574 : h71 76 0 = h35 76 0 := jK 0 f73 rg_76_0_0_1 (by first | decide | omega) (by first | decide | omega) (by decide)
          have q575 : h35 76 0 = h19 76 0 := by rw [← e37]; exact x_up_k (by decide)
          have q576 : h19 76 0 = h 76 0 := jK 0 f21 rg_76_0_0_1 (by first | decide | omega) (by first | decide | omega) (by decide)
          refine x_aldC (np := 6) (x := 0) (n := 1952) (i := 0) (q := (h 76 0)) (by decide +kernel) (by decide +kernel) (by first | decide | omega) (by first | decide | omega) (by decide) (((((((q569.trans q570).trans q571).trans q572).trans q573).trans q574).trans q575).trans q576) (fun l577 => ?_)
          refine x_retI (np := 7) (x := 0) (by decide +kernel) l13 (Or.inl (by decide +kernel)) ⟨_, rfl, l13, ?_⟩
          refine x_const (np := 87) (x := 9223372043297226753) (a := 2147483649) (by decide +kernel) (by decide) (by decide) ?_
          obtain ⟨v578, q579⟩ : ∃ z, z + 2147483649 = (h 76 0) + 2147483648 := ⟨(h 76 0) + 2147483648 - 2147483649, by first | decide | omega⟩
          refine x_isub (np := 88) (x := 0) (v := v578) (by decide +kernel) l13 (by decide) (by first | decide | omega) (by first | decide | omega) ?_
          have m585 := Tq.fr m187 f191 (by decide) (by decide)
          have m584 : Tq tB tN h205 := by rw [← e207]; exact Tq.oth m585 (by decide) (fun z => absurd z.1 (by decide))
          have m583 := Tq.fr m584 f365 (by decide) (by decide)
          refine x_cI (t := 6) (mj := 174) (n := 3) (rc := 12) (ml := 4) (nr := 0) (np := 91) (as := [x_r 75, iv_c 2147483648, iv_c v578]) (rest := []) (lo1 := [x_r 75, iv_c 2147483648, iv_c v578, 147573952589676412928]) (by decide +kernel) (by decide) (by decide +kernel) (x_rb_of (by decide +kernel)) rfl rfl (x_wr (by decide) (x_wi (by decide) (x_wi (by first | decide | omega) x_wn))) x_wn (by decide) rfl (c174_75 j366  (by first | decide | omega) (by first | decide | omega) m583) (fun v580 h586 l581 q582 => ?_)
          obtain ⟨j587, f588, b589, c590, c591, c592, c593, c594, c595, c596⟩ := q582
          have f597 := Fr.trans f380 f588 (by decide)
          have f598 := Fr.trans f365 f588 (by decide)
          have b599 := jB (e := 7) 0 j587 rg_75_7_0_1 (by first | decide | omega) (by first | decide | omega)
          have b600 := c594 (by first | decide | omega)
          refine x_istore (np := 92) (x := 3) (lo' := [x_r 75, iv_c (2147483898 + 4 * u8), iv_c v361, iv_c v580]) (by decide +kernel) l581 (Nat.le_of_ble_eq_true rfl) rfl ?_
          refine x_iload (np := 93) (x := 3) (by decide +kernel) rfl l581 ?_
          refine x_ifz (k := 3) (tg := 98) (np := 96) (by decide +kernel) (by decide) l581 (fun q601 => ?_) (fun q602 => ?_)
          · have q601 : 2147483648 ≤ v580 := q601
            have b603 := c591 (by first | decide | omega)
            have b604 := c592 (by first | decide | omega)
            have b605 := c593 (by first | decide | omega)
            refine x_aload (np := 99) (x := 0) (by decide +kernel) rfl (x_nc_le (by decide)) ?_
            have q606 : h586 75 3 = 78 := by have z := jB (e := 3) 0 j587 rg_75_3_0_1 (by decide) (by decide); omega
            refine x_getR (np := 102) (x := 707) (f := 3) (q := 78) (by decide +kernel) (by decide) (by decide +kernel) q606 ?_
            refine x_iload (np := 103) (x := 1) (by decide +kernel) rfl (by first | decide | omega) ?_
            refine x_const (np := 104) (x := 9223372047592194050) (a := 2147483650) (by decide +kernel) (by decide) (by decide) ?_
            refine x_iadd (np := 105) (x := 0) (v := (2147483900 + 4 * u8)) (by decide +kernel) (by first | decide | omega) (by decide) (by first | decide | omega) (by first | decide | omega) ?_
            refine x_dup2 (np := 106) (x := 0) (by decide +kernel) (by have z := (iw_c_lt (a := (2147483900 + 4 * u8)) (by first | decide | omega)).1; omega) (by have z := x_nc_le (k := 78) (by decide); unfold x_r; omega) ?_
            have q607 : h586 78 (252 + 4 * u8) = h364 78 (252 + 4 * u8) := jK u8 f588 rg_78_252_4_10 (by first | decide | omega) (by first | decide | omega) (by decide)
            refine x_aldC (np := 107) (x := 0) (n := 290) (i := (252 + 4 * u8)) (q := ((h364 78 (252 + 4 * u8)))) (by decide +kernel) (by decide +kernel) (by first | decide | omega) (by first | decide | omega) (by decide) q607 (fun l608 => ?_)
            refine x_const (np := 108) (x := 9223372043297226753) (a := 2147483649) (by decide +kernel) (by decide) (by decide) ?_
            refine x_iload (np := 109) (x := 3) (by decide +kernel) rfl l581 ?_
            refine x_any (np := 110) (k9 := 3) (by decide +kernel) (by decide) (by decide) l581 (fun v609 l610 => ?_)
            refine x_any (np := 111) (k9 := 1) (by decide +kernel) (by decide) l608 l610 (fun v611 l612 => ?_)
            refine x_ast (np := 112) (x := 0) (kd := 1) (n := 290) (i := (252 + 4 * u8)) (by decide +kernel) (Or.inl rfl) (by decide +kernel) (by first | decide | omega) (by first | decide | omega) (by decide) l612 (fun z => absurd z (by decide)) ?_
            have j614 := jU (e := (252 + 4 * u8)) (v := v611) u8 j587 rg_78_252_4_10 (by first | decide | omega) (by first | decide | omega) (by first | decide | omega)
            have f616 := jF (e := (252 + 4 * u8)) (v := v611) u8 f597 rg_78_252_4_10 (by first | decide | omega) (by first | decide | omega) (by decide)
            have f617 := jF (e := (252 + 4 * u8)) (v := v611) u8 f598 rg_78_252_4_10 (by first | decide | omega) (by first | decide | omega) (by decide)
            generalize e615 : x_up h586 78 (252 + 4 * u8) v611 = h613 at j614 f616 f617 ⊢
            refine x_aload (np := 113) (x := 0) (by decide +kernel) rfl (x_nc_le (by decide)) ?_
            refine x_ldcB (i := 15) (idx := 179) (tx := "or") (by rw [tb_y185]; exact List.mem_of_getElem? (i := 54) rfl) (by decide) (by rw [tb_b185]; decide +kernel) ?_
            have m622 := Tq.fr m583 f588 (by decide) (by decide)
            have m621 : Tq tB tN h613 := by rw [← e615]; exact Tq.oth m622 (by decide) (fun z => absurd z.1 (by decide))
            refine x_cI (t := 6) (mj := 171) (n := 2) (rc := 12) (ml := 2) (nr := 0) (np := 118) (as := [x_r 75, x_b (15 + 1)]) (rest := []) (lo1 := [x_r 75, x_b (15 + 1)]) (by decide +kernel) (by decide) (by decide +kernel) (x_rb_of (by decide +kernel)) rfl rfl (x_wr (by decide) (x_wB (by decide) x_wn)) x_wn (by decide) rfl (c171_75_S0 j614  (by decide) m621) (fun v618 h623 l619 q620 => ?_)
            obtain ⟨j624, f625, b626, c627, c628, c629, c630⟩ := q620
            have f631 := Fr.trans f616 f625 (by decide)
            have f632 := Fr.trans f617 f625 (by decide)
            have q633 : h613 75 7 = h586 75 7 := by rw [← e615]; exact x_up_k (by decide)
            have b634 := jB (e := 7) 0 j624 rg_75_7_0_1 (by first | decide | omega) (by first | decide | omega)
            have q635 : h613 75 7 = h586 75 7 := by rw [← e615]; exact x_up_k (by decide)
            refine x_istore (np := 119) (x := 2) (lo' := [x_r 75, iv_c (2147483898 + 4 * u8), iv_c v618, iv_c v580]) (by decide +kernel) l619 (Nat.le_of_ble_eq_true rfl) rfl ?_
            refine x_goto (np := 122) (x := 76) (by decide +kernel) ?_
            have q636 : h623 78 5 = h613 78 5 := jK 0 f625 rg_78_5_0_1 (by first | decide | omega) (by first | decide | omega) (by decide)
            have q637 : h613 78 5 = h586 78 5 := by rw [← e615]; exact x_up_i (by first | decide | omega)
            have q638 : h586 78 5 = h364 78 5 := jK 0 f588 rg_78_5_0_1 (by first | decide | omega) (by first | decide | omega) (by decide)
            have b639 := jB (e := 5) 0 j366 rg_78_5_0_1 (by first | decide | omega) (by first | decide | omega)
            have b640 := jB (e := 0) 0 hJ rg_78_0_0_1 (by first | decide | omega) (by first | decide | omega)
            have q641 : h623 78 0 = h613 78 0 := jK 0 f625 rg_78_0_0_1 (by first | decide | omega) (by first | decide | omega) (by decide)
            have q642 : h613 78 0 = h586 78 0 := by rw [← e615]; exact x_up_i (by first | decide | omega)
            have q643 : h586 78 0 = h364 78 0 := jK 0 f588 rg_78_0_0_1 (by first | decide | omega) (by first | decide | omega) (by decide)
            have b644 := jB (e := 0) 0 j366 rg_78_0_0_1 (by first | decide | omega) (by first | decide | omega)
            have q645 : h623 78 1 = h613 78 1 := jK 0 f625 rg_78_1_0_1 (by first | decide | omega) (by first | decide | omega) (by decide)
            have q646 : h613 78 1 = h586 78 1 := by rw [← e615]; exact x_up_i (by first | decide | omega)
            have q647 : h586 78 1 = h364 78 1 := jK 0 f588 rg_78_1_0_1 (by first | decide | omega) (by first | decide | omega) (by decide)
            have b648 := jB (e := 2) 0 hJ rg_78_2_0_1 (by first | decide | omega) (by first | decide | omega)
            have q649 : h623 78 2 = h613 78 2 := jK 0 f625 rg_78_2_0_1 (by first | decide | omega) (by first | decide | omega) (by decide)
            have q650 : h613 78 2 = h586 78 2 := by rw [← e615]; exact x_up_i (by first | decide | omega)
            have q651 : h586 78 2 = h364 78 2 := jK 0 f588 rg_78_2_0_1 (by first | decide | omega) (by first | decide | omega) (by decide)
            have b652 := jB (e := 2) 0 j366 rg_78_2_0_1 (by first | decide | omega) (by first | decide | omega)
            have b653 := jB (e := 3) 0 hJ rg_78_3_0_1 (by first | decide | omega) (by first | decide | omega)
            have q654 : h623 78 3 = h613 78 3 := jK 0 f625 rg_78_3_0_1 (by first | decide | omega) (by first | decide | omega) (by decide)
            have q655 : h613 78 3 = h586 78 3 := by rw [← e615]; exact x_up_i (by first | decide | omega)
            have q656 : h586 78 3 = h364 78 3 := jK 0 f588 rg_78_3_0_1 (by first | decide | omega) (by first | decide | omega) (by decide)
            have b657 := jB (e := 3) 0 j366 rg_78_3_0_1 (by first | decide | omega) (by first | decide | omega)
            have b658 := jB (e := 4) 0 hJ rg_78_4_0_1 (by first | decide | omega) (by first | decide | omega)
            have q659 : h623 78 4 = h613 78 4 := jK 0 f625 rg_78_4_0_1 (by first | decide | omega) (by first | decide | omega) (by decide)
            have q660 : h613 78 4 = h586 78 4 := by rw [← e615]; exact x_up_i (by first | decide | omega)
            have q661 : h586 78 4 = h364 78 4 := jK 0 f588 rg_78_4_0_1 (by first | decide | omega) (by first | decide | omega) (by decide)
            have b662 := jB (e := 4) 0 j366 rg_78_4_0_1 (by first | decide | omega) (by first | decide | omega)
            have m665 := Cl.fr m377 f588 (by decide)
            have m664 : Cl h613 := by rw [← e615]; exact Cl.upR (e := (252 + 4 * u8)) (v := v611) u8 m665 rg_76_252_4_10 (by first | decide | omega) (by first | decide | omega) (by first | decide | omega)
            have m663 := Cl.fr m664 f625 (by decide)
            have q666 : h613 75 7 = h586 75 7 := by rw [← e615]; exact x_up_k (by decide)
            have q667 : (v618 = 2147483649 → Bq tB tN (h 76 0 - 1) (sk tB tN (h623 75 7)) (sk tB tN (h189 75 7))) ∧ (v618 = 2147483648 → Bl tB tN (h 76 0 - 1) (sk tB tN (h189 75 7)) (some (sk tB tN (h623 75 7)))) := by
              rcases c629 with ⟨z1, z2, z3⟩ | ⟨z1, z2, z3⟩
              · exact ⟨fun _ => Bq.go (m374.1 (by first | decide | omega)) c595 (by first | decide | omega) (by first | decide | omega) rfl (by first | decide | omega) z2 (congrArg (sk tB tN) (show h613 75 7 = h586 75 7 by first | decide | omega)) z3 rfl, fun z => absurd z (by first | decide | omega)⟩
              · exact ⟨fun z => absurd z (by first | decide | omega), fun _ => by
                  have y := Bq.fin (R := 2147483649) (q' := sk tB tN (h623 75 7)) (m374.1 (by first | decide | omega)) c595 (by first | decide | omega) (by first | decide | omega) rfl (by first | decide | omega) z2 (congrArg (sk tB tN) (show h613 75 7 = h586 75 7 by first | decide | omega)) rfl (Eq.trans (Eq.symm (congrArg (sk tB tN) (show h613 75 7 = h586 75 7 by first | decide | omega))) (Eq.trans z3.symm rfl))
                  rw [rs1 rfl] at y
                  exact y⟩
            have q668 : h623 78 (251 + 4 * u8) = h613 78 (251 + 4 * u8) := jK u8 f625 rg_78_251_4_10 (by first | decide | omega) (by first | decide | omega) (by decide)
            have q669 : h613 78 (251 + 4 * u8) = h586 78 (251 + 4 * u8) := by rw [← e615]; exact x_up_i (by first | decide | omega)
            have q670 : h586 78 (251 + 4 * u8) = h364 78 (251 + 4 * u8) := jK u8 f588 rg_78_251_4_10 (by first | decide | omega) (by first | decide | omega) (by decide)
            have q671 : h613 75 7 = h586 75 7 := by rw [← e615]; exact x_up_k (by decide)
            have q672 : (v618 = 2147483649 → Bqf tB tN (h 76 0 - 1) (sk tB tN (h623 75 7)) (sk tB tN (h189 75 7))) := fun zz => by
              rcases c629 with ⟨z1, z2, z3⟩ | ⟨z1, z2, z3⟩
              · exact Bqf.go (m376 (by first | decide | omega)) c595 (by first | decide | omega) (by first | decide | omega) rfl (by first | decide | omega) z2 (congrArg (sk tB tN) (show h613 75 7 = h586 75 7 by first | decide | omega)) z3 rfl
              · exact absurd zz (by first | decide | omega)
            exact i379 v618 (iv_c v580) h623 (by first | decide | omega) (by first | decide | omega) (by first | decide | omega) (by first | decide | omega) (by first | decide | omega) (by first | decide | omega) (by first | decide | omega) (by first | decide | omega) j624 f632 m663 q667 (by first | decide | omega) q672
          have q602 : ¬ (2147483648 ≤ v580) := q602
          refine x_const (np := 97) (x := 9223372039002259456) (a := 2147483648) (by decide +kernel) (by decide) (by decide) ?_
          have b673 := jB (e := 0) 0 hJ rg_78_0_0_1 (by first | decide | omega) (by first | decide | omega)
          have q674 : h586 78 0 = h364 78 0 := jK 0 f588 rg_78_0_0_1 (by first | decide | omega) (by first | decide | omega) (by decide)
          have b675 := jB (e := 0) 0 j366 rg_78_0_0_1 (by first | decide | omega) (by first | decide | omega)
          have q676 : h586 78 1 = h364 78 1 := jK 0 f588 rg_78_1_0_1 (by first | decide | omega) (by first | decide | omega) (by decide)
          have b677 := jB (e := 2) 0 hJ rg_78_2_0_1 (by first | decide | omega) (by first | decide | omega)
          have q678 : h586 78 2 = h364 78 2 := jK 0 f588 rg_78_2_0_1 (by first | decide | omega) (by first | decide | omega) (by decide)
          have b679 := jB (e := 2) 0 j366 rg_78_2_0_1 (by first | decide | omega) (by first | decide | omega)
          have b680 := jB (e := 3) 0 hJ rg_78_3_0_1 (by first | decide | omega) (by first | decide | omega)
          have q681 : h586 78 3 = h364 78 3 := jK 0 f588 rg_78_3_0_1 (by first | decide | omega) (by first | decide | omega) (by decide)
          have b682 := jB (e := 3) 0 j366 rg_78_3_0_1 (by first | decide | omega) (by first | decide | omega)
          have b683 := jB (e := 4) 0 hJ rg_78_4_0_1 (by first | decide | omega) (by first | decide | omega)
          have q684 : h586 78 4 = h364 78 4 := jK 0 f588 rg_78_4_0_1 (by first | decide | omega) (by first | decide | omega) (by decide)
          have b685 := jB (e := 4) 0 j366 rg_78_4_0_1 (by first | decide | omega) (by first | decide | omega)
          have q686 : h586 78 5 = h364 78 5 := jK 0 f588 rg_78_5_0_1 (by first | decide | omega) (by first | decide | omega) (by decide)
          have b687 := jB (e := 5) 0 j366 rg_78_5_0_1 (by first | decide | omega) (by first | decide | omega)
          have y688 := Bq.no (R := 2147483648) (q' := 0) (m374.1 (by first | decide | omega)) c595 (by first | decide | omega) (by first | decide | omega) rfl (by first | decide | omega) rfl
          have q689 : h35 75 7 = h19 75 7 := by rw [← e37]; exact x_up_k (by decide)
          obtain ⟨w690, e691⟩ := Tw.yes c77 (by first | decide | omega)
          have q692 : h129 75 7 = h114 75 7 := by rw [← e131]; exact x_up_k (by decide)
          obtain ⟨w693, e694⟩ := Tw.yes c195 (by first | decide | omega)
          have y695 := Bqf.no (f := h586 75 9) (m376 (by first | decide | omega)) c595 (by first | decide | omega) (by first | decide | omega) rfl (by first | decide | omega) c596
          have q696 : h35 75 7 = h19 75 7 := by rw [← e37]; exact x_up_k (by decide)
          obtain ⟨w697, e698⟩ := Tw.yes c77 (by first | decide | omega)
          have q699 : h129 75 7 = h114 75 7 := by rw [← e131]; exact x_up_k (by decide)
          obtain ⟨w700, e701⟩ := Tw.yes c195 (by first | decide | omega)
          refine x_retI (np := 98) (x := 0) (by decide +kernel) (by decide) (Or.inr ⟨by decide +kernel, by first | decide | omega, by first | decide | omega⟩) ⟨_, rfl, (by decide), ?_⟩
          exact ⟨j587, f597, (by first | decide | omega), (fun z => by first | decide | omega), (fun z => by first | decide | omega), (fun z => by first | decide | omega), (fun z => by first | decide | omega), (fun z => by first | decide | omega), (fun z => by first | decide | omega), (fun z => absurd z (by first | decide | omega)), (Or.inr ⟨by first | decide | omega, (nm9.y c28 (by first | decide | omega) (by first | decide | omega) rfl (by first | decide | omega) rfl (wd9.y w690 (congrArg (sk tB tN) (show h35 75 7 = h19 75 7 by first | decide | omega)) e691 rfl (nm9.y c123 (by first | decide | omega) (by first | decide | omega) rfl (by first | decide | omega) rfl (wd9.y w693 (congrArg (sk tB tN) (show h129 75 7 = h114 75 7 by first | decide | omega)) e694 rfl (bl9.f y688 rfl rfl rfl (by first | decide | omega))))))⟩), (fun _ => Or.inr ⟨by first | decide | omega, (mF.y c28 (by first | decide | omega) (by first | decide | omega) rfl (by first | decide | omega) rfl (wF.y w697 (congrArg (sk tB tN) (show h35 75 7 = h19 75 7 by first | decide | omega)) e698 rfl (mF.y c123 (by first | decide | omega) (by first | decide | omega) rfl (by first | decide | omega) rfl (wF.y w700 (congrArg (sk tB tN) (show h129 75 7 = h114 75 7 by first | decide | omega)) e701 rfl (bF.no y695 rfl rfl rfl)))))⟩)⟩
      have q702 : h205 78 5 = h189 78 5 := by rw [← e207]; exact x_up_i (by first | decide | omega)
      have q703 : h189 78 5 = h129 78 5 := jK 0 f191 rg_78_5_0_1 (by first | decide | omega) (by first | decide | omega) (by decide)
      have q704 : h129 78 5 = h114 78 5 := by rw [← e131]; exact x_up_i (by first | decide | omega)
      have q705 : h114 78 5 = h71 78 5 := jK 0 f116 rg_78_5_0_1 (by first | decide | omega) (by first | decide | omega) (by decide)
      have q706 : h71 78 5 = h35 78 5 := jK 0 f73 rg_78_5_0_1 (by first | decide | omega) (by first | decide | omega) (by decide)
      have q707 : h35 78 5 = h19 78 5 := by rw [← e37]; exact x_up_i (by first | decide | omega)
      have q708 : h19 78 5 = h 78 5 := jK 0 f21 rg_78_5_0_1 (by first | decide | omega) (by first | decide | omega) (by decide)
      have b709 := jB (e := 0) 0 hJ rg_78_0_0_1 (by first | decide | omega) (by first | decide | omega)
      have q710 : h205 78 0 = h189 78 0 := by rw [← e207]; exact x_up_i (by first | decide | omega)
      have q711 : h189 78 0 = h129 78 0 := jK 0 f191 rg_78_0_0_1 (by first | decide | omega) (by first | decide | omega) (by decide)
      have q712 : h129 78 0 = h114 78 0 := by rw [← e131]; exact x_up_i (by first | decide | omega)
      have q713 : h114 78 0 = h71 78 0 := jK 0 f116 rg_78_0_0_1 (by first | decide | omega) (by first | decide | omega) (by decide)
      have q714 : h71 78 0 = h35 78 0 := jK 0 f73 rg_78_0_0_1 (by first | decide | omega) (by first | decide | omega) (by decide)
      have q715 : h35 78 0 = h19 78 0 := by rw [← e37]; exact x_up_i (by first | decide | omega)
      have q716 : h19 78 0 = h 78 0 := jK 0 f21 rg_78_0_0_1 (by first | decide | omega) (by first | decide | omega) (by decide)
      have q717 : h205 78 1 = h189 78 1 := by rw [← e207]; exact x_up_i (by first | decide | omega)
      have q718 : h189 78 1 = h129 78 1 := jK 0 f191 rg_78_1_0_1 (by first | decide | omega) (by first | decide | omega) (by decide)
      have q719 : h129 78 1 = h114 78 1 := by rw [← e131]; exact x_up_i (by first | decide | omega)
      have q720 : h114 78 1 = h71 78 1 := jK 0 f116 rg_78_1_0_1 (by first | decide | omega) (by first | decide | omega) (by decide)
      have q721 : h71 78 1 = h35 78 1 := jK 0 f73 rg_78_1_0_1 (by first | decide | omega) (by first | decide | omega) (by decide)
      have q722 : h35 78 1 = h19 78 1 := by rw [← e37]; exact x_up_i (by first | decide | omega)
      have q723 : h19 78 1 = h 78 1 := jK 0 f21 rg_78_1_0_1 (by first | decide | omega) (by first | decide | omega) (by decide)
      have b724 := jB (e := 2) 0 hJ rg_78_2_0_1 (by first | decide | omega) (by first | decide | omega)
      have q725 : h205 78 2 = h189 78 2 := by rw [← e207]; exact x_up_i (by first | decide | omega)
      have q726 : h189 78 2 = h129 78 2 := jK 0 f191 rg_78_2_0_1 (by first | decide | omega) (by first | decide | omega) (by decide)
      have q727 : h129 78 2 = h114 78 2 := by rw [← e131]; exact x_up_i (by first | decide | omega)
      have q728 : h114 78 2 = h71 78 2 := jK 0 f116 rg_78_2_0_1 (by first | decide | omega) (by first | decide | omega) (by decide)
      have q729 : h71 78 2 = h35 78 2 := jK 0 f73 rg_78_2_0_1 (by first | decide | omega) (by first | decide | omega) (by decide)
      have q730 : h35 78 2 = h19 78 2 := by rw [← e37]; exact x_up_i (by first | decide | omega)
      have q731 : h19 78 2 = h 78 2 := jK 0 f21 rg_78_2_0_1 (by first | decide | omega) (by first | decide | omega) (by decide)
      have b732 := jB (e := 3) 0 hJ rg_78_3_0_1 (by first | decide | omega) (by first | decide | omega)
      have q733 : h205 78 3 = h189 78 3 := by rw [← e207]; exact x_up_i (by first | decide | omega)
      have q734 : h189 78 3 = h129 78 3 := jK 0 f191 rg_78_3_0_1 (by first | decide | omega) (by first | decide | omega) (by decide)
      have q735 : h129 78 3 = h114 78 3 := by rw [← e131]; exact x_up_i (by first | decide | omega)
      have q736 : h114 78 3 = h71 78 3 := jK 0 f116 rg_78_3_0_1 (by first | decide | omega) (by first | decide | omega) (by decide)
      have q737 : h71 78 3 = h35 78 3 := jK 0 f73 rg_78_3_0_1 (by first | decide | omega) (by first | decide | omega) (by decide)
      have q738 : h35 78 3 = h19 78 3 := by rw [← e37]; exact x_up_i (by first | decide | omega)
      have q739 : h19 78 3 = h 78 3 := jK 0 f21 rg_78_3_0_1 (by first | decide | omega) (by first | decide | omega) (by decide)
      have b740 := jB (e := 4) 0 hJ rg_78_4_0_1 (by first | decide | omega) (by first | decide | omega)
      have q741 : h205 78 4 = h189 78 4 := by rw [← e207]; exact x_up_i (by first | decide | omega)
      have q742 : h189 78 4 = h129 78 4 := jK 0 f191 rg_78_4_0_1 (by first | decide | omega) (by first | decide | omega) (by decide)
      have q743 : h129 78 4 = h114 78 4 := by rw [← e131]; exact x_up_i (by first | decide | omega)
      have q744 : h114 78 4 = h71 78 4 := jK 0 f116 rg_78_4_0_1 (by first | decide | omega) (by first | decide | omega) (by decide)
      have q745 : h71 78 4 = h35 78 4 := jK 0 f73 rg_78_4_0_1 (by first | decide | omega) (by first | decide | omega) (by decide)
      have q746 : h35 78 4 = h19 78 4 := by rw [← e37]; exact x_up_i (by first | decide | omega)
      have q747 : h19 78 4 = h 78 4 := jK 0 f21 rg_78_4_0_1 (by first | decide | omega) (by first | decide | omega) (by decide)
      have m754 := Cl.fr hC f21 (by decide)
      have m753 : Cl h35 := by rw [← e37]; exact Cl.upR (e := (250 + 4 * u8)) (v := v16) u8 m754 rg_76_250_4_10 (by first | decide | omega) (by first | decide | omega) (by first | decide | omega)
      have m752 := Cl.fr m753 f73 (by decide)
      have m751 := Cl.fr m752 f116 (by decide)
      have m750 : Cl h129 := by rw [← e131]; exact Cl.upR (e := (251 + 4 * u8)) (v := v110) u8 m751 rg_76_251_4_10 (by first | decide | omega) (by first | decide | omega) (by first | decide | omega)
      have m749 := Cl.fr m750 f191 (by decide)
      have m748 : Cl h205 := by rw [← e207]; exact Cl.upR (e := (252 + 4 * u8)) (v := 2147483648) u8 m749 rg_76_252_4_10 (by first | decide | omega) (by first | decide | omega) (by first | decide | omega)
      have q755 : h205 75 7 = h189 75 7 := by rw [← e207]; exact x_up_k (by decide)
      have q756 : h205 78 (251 + 4 * u8) = h189 78 (251 + 4 * u8) := by rw [← e207]; exact x_up_i (by first | decide | omega)
      have q757 : h189 78 (251 + 4 * u8) = h129 78 (251 + 4 * u8) := jK u8 f191 rg_78_251_4_10 (by first | decide | omega) (by first | decide | omega) (by decide)
      have q758 : h129 78 (251 + 4 * u8) = v110 := by rw [← e131]; exact x_up_at
      have q759 : h205 75 7 = h189 75 7 := by rw [← e207]; exact x_up_k (by decide)
      exact p367 _ 2147483649 147573952589676412928 h205 (Nat.lt_succ_self _) (by first | decide | omega) (by first | decide | omega) (by first | decide | omega) (by first | decide | omega) (by first | decide | omega) (by first | decide | omega) (by first | decide | omega) j206 (Fr.refl _ _) m748 ⟨fun _ => Bq.zero (congrArg (sk tB tN) (show h205 75 7 = h189 75 7 by first | decide | omega)), fun z => absurd z (by first | decide | omega)⟩ (by first | decide | omega) (fun _ => Bqf.zero (congrArg (sk tB tN) (show h205 75 7 = h189 75 7 by first | decide | omega)))
    have q202 : ¬ (v184 ≠ 2147483648) := q202
    refine x_const (np := 64) (x := 9223372039002259456) (a := 2147483648) (by decide +kernel) (by decide) (by decide) ?_
    have b760 := jB (e := 0) 0 hJ rg_78_0_0_1 (by first | decide | omega) (by first | decide | omega)
    have q761 : h189 78 0 = h129 78 0 := jK 0 f191 rg_78_0_0_1 (by first | decide | omega) (by first | decide | omega) (by decide)
    have q762 : h129 78 0 = h114 78 0 := by rw [← e131]; exact x_up_i (by first | decide | omega)
    have q763 : h114 78 0 = h71 78 0 := jK 0 f116 rg_78_0_0_1 (by first | decide | omega) (by first | decide | omega) (by decide)
    have q764 : h71 78 0 = h35 78 0 := jK 0 f73 rg_78_0_0_1 (by first | decide | omega) (by first | decide | omega) (by decide)
    have q765 : h35 78 0 = h19 78 0 := by rw [← e37]; exact x_up_i (by first | decide | omega)
    have q766 : h19 78 0 = h 78 0 := jK 0 f21 rg_78_0_0_1 (by first | decide | omega) (by first | decide | omega) (by decide)
    have q767 : h189 78 1 = h129 78 1 := jK 0 f191 rg_78_1_0_1 (by first | decide | omega) (by first | decide | omega) (by decide)
    have q768 : h129 78 1 = h114 78 1 := by rw [← e131]; exact x_up_i (by first | decide | omega)
    have q769 : h114 78 1 = h71 78 1 := jK 0 f116 rg_78_1_0_1 (by first | decide | omega) (by first | decide | omega) (by decide)
    have q770 : h71 78 1 = h35 78 1 := jK 0 f73 rg_78_1_0_1 (by first | decide | omega) (by first | decide | omega) (by decide)
    have q771 : h35 78 1 = h19 78 1 := by rw [← e37]; exact x_up_i (by first | decide | omega)
    have q772 : h19 78 1 = h 78 1 := jK 0 f21 rg_78_1_0_1 (by first | decide | omega) (by first | decide | omega) (by decide)
    have b773 := jB (e := 2) 0 hJ rg_78_2_0_1 (by first | decide | omega) (by first | decide | omega)
    have q774 : h189 78 2 = h129 78 2 := jK 0 f191 rg_78_2_0_1 (by first | decide | omega) (by first | decide | omega) (by decide)
    have q775 : h129 78 2 = h114 78 2 := by rw [← e131]; exact x_up_i (by first | decide | omega)
    have q776 : h114 78 2 = h71 78 2 := jK 0 f116 rg_78_2_0_1 (by first | decide | omega) (by first | decide | omega) (by decide)
    have q777 : h71 78 2 = h35 78 2 := jK 0 f73 rg_78_2_0_1 (by first | decide | omega) (by first | decide | omega) (by decide)
    have q778 : h35 78 2 = h19 78 2 := by rw [← e37]; exact x_up_i (by first | decide | omega)
    have q779 : h19 78 2 = h 78 2 := jK 0 f21 rg_78_2_0_1 (by first | decide | omega) (by first | decide | omega) (by decide)
    have b780 := jB (e := 3) 0 hJ rg_78_3_0_1 (by first | decide | omega) (by first | decide | omega)
    have q781 : h189 78 3 = h129 78 3 := jK 0 f191 rg_78_3_0_1 (by first | decide | omega) (by first | decide | omega) (by decide)
    have q782 : h129 78 3 = h114 78 3 := by rw [← e131]; exact x_up_i (by first | decide | omega)
    have q783 : h114 78 3 = h71 78 3 := jK 0 f116 rg_78_3_0_1 (by first | decide | omega) (by first | decide | omega) (by decide)
    have q784 : h71 78 3 = h35 78 3 := jK 0 f73 rg_78_3_0_1 (by first | decide | omega) (by first | decide | omega) (by decide)
    have q785 : h35 78 3 = h19 78 3 := by rw [← e37]; exact x_up_i (by first | decide | omega)
    have q786 : h19 78 3 = h 78 3 := jK 0 f21 rg_78_3_0_1 (by first | decide | omega) (by first | decide | omega) (by decide)
    have b787 := jB (e := 4) 0 hJ rg_78_4_0_1 (by first | decide | omega) (by first | decide | omega)
    have q788 : h189 78 4 = h129 78 4 := jK 0 f191 rg_78_4_0_1 (by first | decide | omega) (by first | decide | omega) (by decide)
    have q789 : h129 78 4 = h114 78 4 := by rw [← e131]; exact x_up_i (by first | decide | omega)
    have q790 : h114 78 4 = h71 78 4 := jK 0 f116 rg_78_4_0_1 (by first | decide | omega) (by first | decide | omega) (by decide)
    have q791 : h71 78 4 = h35 78 4 := jK 0 f73 rg_78_4_0_1 (by first | decide | omega) (by first | decide | omega) (by decide)
    have q792 : h35 78 4 = h19 78 4 := by rw [← e37]; exact x_up_i (by first | decide | omega)
    have q793 : h19 78 4 = h 78 4 := jK 0 f21 rg_78_4_0_1 (by first | decide | omega) (by first | decide | omega) (by decide)
    have q794 : h189 78 5 = h129 78 5 := jK 0 f191 rg_78_5_0_1 (by first | decide | omega) (by first | decide | omega) (by decide)
    have q795 : h129 78 5 = h114 78 5 := by rw [← e131]; exact x_up_i (by first | decide | omega)
    have q796 : h114 78 5 = h71 78 5 := jK 0 f116 rg_78_5_0_1 (by first | decide | omega) (by first | decide | omega) (by decide)
    have q797 : h71 78 5 = h35 78 5 := jK 0 f73 rg_78_5_0_1 (by first | decide | omega) (by first | decide | omega) (by decide)
    have q798 : h35 78 5 = h19 78 5 := by rw [← e37]; exact x_up_i (by first | decide | omega)
    have q799 : h19 78 5 = h 78 5 := jK 0 f21 rg_78_5_0_1 (by first | decide | omega) (by first | decide | omega) (by decide)
    have q800 : h35 75 7 = h19 75 7 := by rw [← e37]; exact x_up_k (by decide)
    obtain ⟨w801, e802⟩ := Tw.yes c77 (by first | decide | omega)
    have q803 : h129 75 7 = h114 75 7 := by rw [← e131]; exact x_up_k (by decide)
    have q804 : h35 75 7 = h19 75 7 := by rw [← e37]; exact x_up_k (by decide)
    obtain ⟨w805, e806⟩ := Tw.yes c77 (by first | decide | omega)
    have q807 : h129 75 7 = h114 75 7 := by rw [← e131]; exact x_up_k (by decide)
    refine x_retI (np := 65) (x := 0) (by decide +kernel) (by decide) (Or.inr ⟨by decide +kernel, by first | decide | omega, by first | decide | omega⟩) ⟨_, rfl, (by decide), ?_⟩
    exact ⟨j190, f197, (by first | decide | omega), (fun z => by first | decide | omega), (fun z => by first | decide | omega), (fun z => by first | decide | omega), (fun z => by first | decide | omega), (fun z => by first | decide | omega), (fun z => by first | decide | omega), (fun z => absurd z (by first | decide | omega)), (Or.inr ⟨by first | decide | omega, (nm9.y c28 (by first | decide | omega) (by first | decide | omega) rfl (by first | decide | omega) rfl (wd9.y w801 (congrArg (sk tB tN) (show h35 75 7 = h19 75 7 by first | decide | omega)) e802 rfl (nm9.y c123 (by first | decide | omega) (by first | decide | omega) rfl (by first | decide | omega) rfl (wd9.f (Tw.no c195 (by first | decide | omega)) (congrArg (sk tB tN) (show h129 75 7 = h114 75 7 by first | decide | omega)) (by first | decide | omega)))))⟩), (fun _ => Or.inr ⟨by first | decide | omega, (mF.y c28 (by first | decide | omega) (by first | decide | omega) rfl (by first | decide | omega) rfl (wF.y w805 (congrArg (sk tB tN) (show h35 75 7 = h19 75 7 by first | decide | omega)) e806 rfl (mF.y c123 (by first | decide | omega) (by first | decide | omega) rfl (by first | decide | omega) rfl (wF.no (Tw.no c195 (by first | decide | omega)) (congrArg (sk tB tN) (show h129 75 7 = h114 75 7 by first | decide | omega)) c196))))⟩)⟩
  have q5 : ¬ ((h 78 5) ≠ 2147483658) := q5
  refine x_const (np := 12) (x := 9223372039002259456) (a := 2147483648) (by decide +kernel) (by decide) (by decide) ?_
  have b808 := jB (e := 0) 0 hJ rg_78_0_0_1 (by first | decide | omega) (by first | decide | omega)
  have b809 := jB (e := 2) 0 hJ rg_78_2_0_1 (by first | decide | omega) (by first | decide | omega)
  have b810 := jB (e := 3) 0 hJ rg_78_3_0_1 (by first | decide | omega) (by first | decide | omega)
  have b811 := jB (e := 4) 0 hJ rg_78_4_0_1 (by first | decide | omega) (by first | decide | omega)
  have b812 := jB (e := 0) 0 hJ rg_76_0_0_1 (by first | decide | omega) (by first | decide | omega)
  refine x_retI (np := 13) (x := 0) (by decide +kernel) (by decide) (Or.inr ⟨by decide +kernel, by first | decide | omega, by first | decide | omega⟩) ⟨_, rfl, (by decide), ?_⟩
  exact ⟨hJ, hF, (by first | decide | omega), (fun z => by first | decide | omega), (fun z => by first | decide | omega), (fun z => by first | decide | omega), (fun z => by first | decide | omega), (fun z => by first | decide | omega), (fun z => by first | decide | omega), (fun z => absurd z (by first | decide | omega)), (Or.inl ⟨by first | decide | omega, by first | decide | omega⟩), (fun _ => Or.inl ⟨by first | decide | omega, rfl⟩)⟩
set_option maxHeartbeats 0 in
/-- LentNamesModel.readDebt()Z -/
theorem c184_75 {sc : Nat × Nat} {d  : Nat} {h : xh} {tB : Nat → Nat} {tN : Nat} (hJ : J h) (hC : Cl h) (hT : Tq tB tN h) : X sc 184 (d + 6) (xI fun r h' => J h' ∧ Fr 273678337 h h' ∧ (2147483648 ≤ r ∧ r ≤ 2147483649) ∧ (r = 2147483649 → h' 78 0 = h 78 0) ∧ (r = 2147483649 → h' 78 1 = h 78 1) ∧ (r = 2147483649 → h' 78 2 = h 78 2) ∧ (r = 2147483649 → h' 78 3 = h 78 3) ∧ (r = 2147483649 → h' 78 4 = h 78 4 + 1) ∧ (r = 2147483649 → h' 78 5 = h 78 5) ∧ (r = 2147483649 → Cl h') ∧ ((h 78 4 = 2147483658 ∧ r = 2147483648) ∨ (h 78 4 ≠ 2147483658 ∧ debt9 tB tN (h 76 0) (sk tB tN (h 75 7)) (rs r (sk tB tN (h' 75 7))))) ∧ (r = 2147483648 → (h 78 4 = 2147483658 ∧ h' 75 9 = h 75 9) ∨ (h 78 4 ≠ 2147483658 ∧ debtF tB tN (h 76 0) (sk tB tN (h 75 7)) (h' 75 9)))) 0 0 0 [x_r 75, 147573952589676412928] [] h := by
  have hF := Fr.refl 273678337 h
  refine x_aload (np := 1) (x := 0) (by decide +kernel) rfl (x_nc_le (by decide)) ?_
  have q1 : h 75 3 = 78 := by have z := jB (e := 3) 0 hJ rg_75_3_0_1 (by decide) (by decide); omega
  refine x_getR (np := 4) (x := 707) (f := 3) (q := 78) (by decide +kernel) (by decide) (by decide +kernel) q1 ?_
  refine x_const (np := 5) (x := 9223372056182128644) (a := 2147483652) (by decide +kernel) (by decide) (by decide) ?_
  have b2 := jB (e := 4) 0 hJ rg_78_4_0_1 (by first | decide | omega) (by first | decide | omega)
  refine x_aldC (np := 6) (x := 0) (n := 290) (i := 4) (q := (h 78 4)) (by decide +kernel) (by decide +kernel) (by first | decide | omega) (by first | decide | omega) (by decide) rfl (fun l3 => ?_)
  refine x_const (np := 8) (x := 9223372081951932426) (a := 2147483658) (by decide +kernel) (by decide) (by decide) ?_
  refine x_icmp (k := 1) (tg := 13) (np := 11) (by decide +kernel) (by decide) l3 (by decide) (fun q4 => ?_) (fun q5 => ?_)
  · have q4 : (h 78 4) ≠ 2147483658 := q4
    refine x_const (np := 16) (x := 9223372897995718856) (a := 2147483848) (by decide +kernel) (by decide) (by decide) ?_
    refine x_const (np := 17) (x := 9223372060477095941) (a := 2147483653) (by decide +kernel) (by decide) (by decide) ?_
    refine x_aload (np := 18) (x := 0) (by decide +kernel) rfl (x_nc_le (by decide)) ?_
    have q6 : h 75 3 = 78 := by have z := jB (e := 3) 0 hJ rg_75_3_0_1 (by decide) (by decide); omega
    refine x_getR (np := 21) (x := 707) (f := 3) (q := 78) (by decide +kernel) (by decide) (by decide +kernel) q6 ?_
    refine x_const (np := 22) (x := 9223372056182128644) (a := 2147483652) (by decide +kernel) (by decide) (by decide) ?_
    refine x_aldC (np := 23) (x := 0) (n := 290) (i := 4) (q := (h 78 4)) (by decide +kernel) (by decide +kernel) (by first | decide | omega) (by first | decide | omega) (by decide) rfl (fun l7 => ?_)
    obtain ⟨u8, q9⟩ : ∃ z, (h 78 4) = 2147483648 + z := ⟨(h 78 4) - 2147483648, by first | decide | omega⟩
    refine x_imul (np := 24) (x := 0) (i := 5) (j := u8) (v := (2147483648 + 5 * u8)) (by decide +kernel) (by first | decide | omega) (by first | decide | omega) (by first | decide | omega) (by first | decide | omega) (by decide) l3 ?_
    refine x_iadd (np := 25) (x := 0) (v := (2147483848 + 5 * u8)) (by decide +kernel) (by decide) (by first | decide | omega) (by first | decide | omega) (by first | decide | omega) ?_
    refine x_istore (np := 26) (x := 1) (lo' := [x_r 75, iv_c (2147483848 + 5 * u8)]) (by decide +kernel) (by first | decide | omega) (Nat.le_of_ble_eq_true rfl) rfl ?_
    refine x_aload (np := 27) (x := 0) (by decide +kernel) rfl (x_nc_le (by decide)) ?_
    refine x_cV (t := 6) (mj := 169) (n := 1) (rc := 12) (ml := 1) (nr := 0) (np := 30) (as := [x_r 75]) (rest := []) (lo1 := [x_r 75]) (by decide +kernel) (by decide) (by decide +kernel) (x_rb_of (by decide +kernel)) rfl rfl (x_wr (by decide) x_wn) x_wn (by decide) rfl (c169_75 hJ  hT) (fun h14 q13 => ?_)
    obtain ⟨j15, f16, c19, c20, c21, c22⟩ := q13
    have f23 := Fr.trans hF f16 (by decide)
    have b24 := jB (e := 7) 0 hJ rg_75_7_0_1 (by first | decide | omega) (by first | decide | omega)
    have b25 := jB (e := 9) 0 j15 rg_75_9_0_1 (by first | decide | omega) (by first | decide | omega)
    have b26 := jB (e := 7) 0 j15 rg_75_7_0_1 (by first | decide | omega) (by first | decide | omega)
    refine x_aload (np := 31) (x := 0) (by decide +kernel) rfl (x_nc_le (by decide)) ?_
    have q27 : h14 75 3 = 78 := by have z := jB (e := 3) 0 j15 rg_75_3_0_1 (by decide) (by decide); omega
    refine x_getR (np := 34) (x := 707) (f := 3) (q := 78) (by decide +kernel) (by decide) (by decide +kernel) q27 ?_
    refine x_iload (np := 35) (x := 1) (by decide +kernel) rfl (by first | decide | omega) ?_
    refine x_aload (np := 36) (x := 0) (by decide +kernel) rfl (x_nc_le (by decide)) ?_
    refine x_ldcB (i := 10) (idx := 169) (tx := "name") (by rw [tb_y184]; exact List.mem_of_getElem? (i := 48) rfl) (by decide) (by rw [tb_b184]; decide +kernel) ?_
    have m31 := Tq.fr hT f16 (by decide) (by decide)
    refine x_cP (t := 6) (mj := 170) (n := 2) (rc := 12) (ml := 4) (nr := 2) (np := 41) (as := [x_r 75, x_b (10 + 1)]) (rest := [iv_c (2147483848 + 5 * u8), x_r 78]) (lo1 := [x_r 75, x_b (10 + 1), 147573952589676412928, 147573952589676412928]) (by decide +kernel) (by decide) (by decide +kernel) (x_rb_of (by decide +kernel)) rfl rfl (x_wr (by decide) (x_wB (by decide) x_wn)) (x_wi (by first | decide | omega) (x_wr (by decide) x_wn)) (by decide) rfl (c170_75_S0 j15  (by decide) m31) (fun v28 l29 q30 => ?_)
    obtain ⟨b34, c32, c33⟩ := q30
    have b35 : iv_tl 10 = 4 := by decide
    refine x_ifz (k := 0) (tg := 48) (np := 44) (by decide +kernel) (by decide) l29 (fun q36 => ?_) (fun q37 => ?_)
    · have q36 : v28 = 2147483648 := q36
      refine x_const (np := 49) (x := 9223372039002259456) (a := 2147483648) (by decide +kernel) (by decide) (by decide) ?_
      refine x_ast (np := 50) (x := 0) (kd := 1) (n := 290) (i := (200 + 5 * u8)) (by decide +kernel) (Or.inl rfl) (by decide +kernel) (by first | decide | omega) (by first | decide | omega) (by decide) (by decide) (fun z => absurd z (by decide)) ?_
      have j39 := jU (e := (200 + 5 * u8)) (v := 2147483648) u8 j15 rg_78_200_5_10 (by first | decide | omega) (by first | decide | omega) (by first | decide | omega)
      have f41 := jF (e := (200 + 5 * u8)) (v := 2147483648) u8 f23 rg_78_200_5_10 (by first | decide | omega) (by first | decide | omega) (by decide)
      generalize e40 : x_up h14 78 (200 + 5 * u8) 2147483648 = h38 at j39 f41 ⊢
      refine x_aload (np := 51) (x := 0) (by decide +kernel) rfl (x_nc_le (by decide)) ?_
      have q42 : h38 75 3 = 78 := by have z := jB (e := 3) 0 j39 rg_75_3_0_1 (by decide) (by decide); omega
      refine x_getR (np := 54) (x := 707) (f := 3) (q := 78) (by decide +kernel) (by decide) (by decide +kernel) q42 ?_
      refine x_iload (np := 55) (x := 1) (by decide +kernel) rfl (by first | decide | omega) ?_
      have q43 : h38 78 (200 + 5 * u8) = 2147483648 := by rw [← e40]; exact x_up_at
      refine x_aldC (np := 56) (x := 0) (n := 290) (i := (200 + 5 * u8)) (q := 2147483648) (by decide +kernel) (by decide +kernel) (by first | decide | omega) (by first | decide | omega) (by decide) q43 (fun l44 => ?_)
      refine x_ifz (k := 1) (tg := 70) (np := 59) (by decide +kernel) (by decide) (by decide) (fun q45 => ?_) (fun q46 => ?_)
      · have q45 : 2147483648 ≠ 2147483648 := q45
        exfalso; omega
      have q46 : ¬ (2147483648 ≠ 2147483648) := q46
      refine x_aload (np := 60) (x := 0) (by decide +kernel) rfl (x_nc_le (by decide)) ?_
      refine x_ldcB (i := 9) (idx := 171) (tx := "body") (by rw [tb_y184]; exact List.mem_of_getElem? (i := 49) rfl) (by decide) (by rw [tb_b184]; decide +kernel) ?_
      have m50 : Tq tB tN h38 := by rw [← e40]; exact Tq.oth m31 (by decide) (fun z => absurd z.1 (by decide))
      refine x_cP (t := 6) (mj := 170) (n := 2) (rc := 12) (ml := 4) (nr := 0) (np := 65) (as := [x_r 75, x_b (9 + 1)]) (rest := []) (lo1 := [x_r 75, x_b (9 + 1), 147573952589676412928, 147573952589676412928]) (by decide +kernel) (by decide) (by decide +kernel) (x_rb_of (by decide +kernel)) rfl rfl (x_wr (by decide) (x_wB (by decide) x_wn)) x_wn (by decide) rfl (c170_75_S0 j39  (by decide) m50) (fun v47 l48 q49 => ?_)
      obtain ⟨b53, c51, c52⟩ := q49
      have q54 : h38 75 7 = h14 75 7 := by rw [← e40]; exact x_up_k (by decide)
      have q55 : h38 75 9 = h14 75 9 := by rw [← e40]; exact x_up_k (by decide)
      have b56 : iv_tl 9 = 4 := by decide
      refine x_ifz (k := 1) (tg := 70) (np := 68) (by decide +kernel) (by decide) l48 (fun q57 => ?_) (fun q58 => ?_)
      · have q57 : v47 ≠ 2147483648 := q57
        have b59 := c51 (by first | decide | omega)
        refine x_aload (np := 71) (x := 0) (by decide +kernel) rfl (x_nc_le (by decide)) ?_
        refine x_iload (np := 72) (x := 1) (by decide +kernel) rfl (by first | decide | omega) ?_
        refine x_const (np := 73) (x := 9223372043297226753) (a := 2147483649) (by decide +kernel) (by decide) (by decide) ?_
        refine x_iadd (np := 74) (x := 0) (v := (2147483849 + 5 * u8)) (by decide +kernel) (by first | decide | omega) (by decide) (by first | decide | omega) (by first | decide | omega) ?_
        refine x_nI (t := 6) (mj := 177) (n := 2) (rc := 12) (ml := 2) (nr := 0) (np := 77) (as := [x_r 75, iv_c (2147483849 + 5 * u8)]) (rest := []) (lo1 := [x_r 75, iv_c (2147483849 + 5 * u8)]) (by decide +kernel) (by decide) (by decide +kernel) (x_rb_of (by decide +kernel)) rfl rfl (x_wr (by decide) (x_wi (by first | decide | omega) x_wn)) x_wn (by decide) rfl ?_
        refine x_aload (np := 1) (x := 0) (by decide +kernel) rfl (x_nc_le (by decide)) ?_
        refine x_iload (np := 2) (x := 1) (by decide +kernel) rfl (by first | decide | omega) ?_
        refine x_aload (np := 3) (x := 0) (by decide +kernel) rfl (x_nc_le (by decide)) ?_
        refine x_const (np := 4) (x := 9223372039002259456) (a := 2147483648) (by decide +kernel) (by decide) (by decide) ?_
        refine x_aload (np := 5) (x := 0) (by decide +kernel) rfl (x_nc_le (by decide)) ?_
        refine x_nI (t := 6) (mj := 157) (n := 1) (rc := 12) (ml := 1) (nr := 4) (np := 8) (as := [x_r 75]) (rest := [iv_c 2147483648, x_r 75, iv_c (2147483849 + 5 * u8), x_r 75]) (lo1 := [x_r 75]) (by decide +kernel) (by decide) (by decide +kernel) (x_rb_of (by decide +kernel)) rfl rfl (x_wr (by decide) x_wn) (x_wi (by decide) (x_wr (by decide) (x_wi (by first | decide | omega) (x_wr (by decide) x_wn)))) (by decide) rfl ?_
        refine x_aload (np := 1) (x := 0) (by decide +kernel) rfl (x_nc_le (by decide)) ?_
        have q60 : h38 75 1 = 76 := by have z := jB (e := 1) 0 j39 rg_75_1_0_1 (by decide) (by decide); omega
        refine x_getR (np := 4) (x := 705) (f := 1) (q := 76) (by decide +kernel) (by decide) (by decide +kernel) q60 ?_
        refine x_const (np := 5) (x := 9223372039002259456) (a := 2147483648) (by decide +kernel) (by decide) (by decide) ?_
        have q61 : h38 76 0 = h14 76 0 := by rw [← e40]; exact x_up_k (by decide)
        have q62 : h14 76 0 = h 76 0 := jK 0 f16 rg_76_0_0_1 (by first | decide | omega) (by first | decide | omega) (by decide)
        have b63 := jB (e := 0) 0 hJ rg_76_0_0_1 (by first | decide | omega) (by first | decide | omega)
        refine x_aldC (np := 6) (x := 0) (n := 1952) (i := 0) (q := (h 76 0)) (by decide +kernel) (by decide +kernel) (by first | decide | omega) (by first | decide | omega) (by decide) (q61.trans q62) (fun l64 => ?_)
        refine x_retI (np := 7) (x := 0) (by decide +kernel) l64 (Or.inl (by decide +kernel)) ⟨_, rfl, l64, ?_⟩
        refine x_const (np := 9) (x := 9223372043297226753) (a := 2147483649) (by decide +kernel) (by decide) (by decide) ?_
        obtain ⟨v65, q66⟩ : ∃ z, z + 2147483649 = (h 76 0) + 2147483648 := ⟨(h 76 0) + 2147483648 - 2147483649, by first | decide | omega⟩
        refine x_isub (np := 10) (x := 0) (v := v65) (by decide +kernel) l64 (by decide) (by first | decide | omega) (by first | decide | omega) ?_
        refine x_cI (t := 6) (mj := 174) (n := 3) (rc := 12) (ml := 4) (nr := 2) (np := 13) (as := [x_r 75, iv_c 2147483648, iv_c v65]) (rest := [iv_c (2147483849 + 5 * u8), x_r 75]) (lo1 := [x_r 75, iv_c 2147483648, iv_c v65, 147573952589676412928]) (by decide +kernel) (by decide) (by decide +kernel) (x_rb_of (by decide +kernel)) rfl rfl (x_wr (by decide) (x_wi (by decide) (x_wi (by first | decide | omega) x_wn))) (x_wi (by first | decide | omega) (x_wr (by decide) x_wn)) (by decide) rfl (c174_75 j39  (by first | decide | omega) (by first | decide | omega) m50) (fun v67 h70 l68 q69 => ?_)
        obtain ⟨j71, f72, b73, c74, c75, c76, c77, c78, c79, c80⟩ := q69
        have f81 := Fr.trans f41 f72 (by decide)
        have q82 : h38 75 7 = h14 75 7 := by rw [← e40]; exact x_up_k (by decide)
        have b83 := jB (e := 7) 0 j71 rg_75_7_0_1 (by first | decide | omega) (by first | decide | omega)
        have q84 : h38 75 7 = h14 75 7 := by rw [← e40]; exact x_up_k (by decide)
        have b85 := c78 (by first | decide | omega)
        refine x_nI (t := 6) (mj := 176) (n := 3) (rc := 12) (ml := 3) (nr := 0) (np := 16) (as := [x_r 75, iv_c (2147483849 + 5 * u8), iv_c v67]) (rest := []) (lo1 := [x_r 75, iv_c (2147483849 + 5 * u8), iv_c v67]) (by decide +kernel) (by decide) (by decide +kernel) (x_rb_of (by decide +kernel)) rfl rfl (x_wr (by decide) (x_wi (by first | decide | omega) (x_wi l68 x_wn))) x_wn (by decide) rfl ?_
        refine x_aload (np := 1) (x := 0) (by decide +kernel) rfl (x_nc_le (by decide)) ?_
        have q86 : h70 75 3 = 78 := by have z := jB (e := 3) 0 j71 rg_75_3_0_1 (by decide) (by decide); omega
        refine x_getR (np := 4) (x := 707) (f := 3) (q := 78) (by decide +kernel) (by decide) (by decide +kernel) q86 ?_
        refine x_iload (np := 5) (x := 1) (by decide +kernel) rfl (by first | decide | omega) ?_
        refine x_iload (np := 6) (x := 2) (by decide +kernel) rfl l68 ?_
        refine x_ast (np := 7) (x := 0) (kd := 1) (n := 290) (i := (201 + 5 * u8)) (by decide +kernel) (Or.inl rfl) (by decide +kernel) (by first | decide | omega) (by first | decide | omega) (by decide) l68 (fun z => absurd z (by decide)) ?_
        have j88 := jU (e := (201 + 5 * u8)) (v := v67) u8 j71 rg_78_201_5_10 (by first | decide | omega) (by first | decide | omega) (by first | decide | omega)
        have f90 := jF (e := (201 + 5 * u8)) (v := v67) u8 f81 rg_78_201_5_10 (by first | decide | omega) (by first | decide | omega) (by decide)
        generalize e89 : x_up h70 78 (201 + 5 * u8) v67 = h87 at j88 f90 ⊢
        refine x_iload (np := 8) (x := 2) (by decide +kernel) rfl l68 ?_
        refine x_ifz (k := 2) (tg := 15) (np := 11) (by decide +kernel) (by decide) l68 (fun q91 => ?_) (fun q92 => ?_)
        · have q91 : v67 < 2147483648 := q91
          refine x_const (np := 16) (x := 9223372039002259456) (a := 2147483648) (by decide +kernel) (by decide) (by decide) ?_
          refine x_retI (np := 17) (x := 0) (by decide +kernel) (by decide) (Or.inr ⟨by decide +kernel, by first | decide | omega, by first | decide | omega⟩) ⟨_, rfl, (by decide), ?_⟩
          refine x_retI (np := 17) (x := 0) (by decide +kernel) (by decide) (Or.inr ⟨by decide +kernel, by first | decide | omega, by first | decide | omega⟩) ⟨_, rfl, (by decide), ?_⟩
          refine x_ifz (k := 0) (tg := 154) (np := 80) (by decide +kernel) (by decide) (by decide) (fun q93 => ?_) (fun q94 => ?_)
          · have q93 : 2147483648 = 2147483648 := q93
            refine x_const (np := 155) (x := 9223372039002259456) (a := 2147483648) (by decide +kernel) (by decide) (by decide) ?_
            have b95 := jB (e := 0) 0 hJ rg_78_0_0_1 (by first | decide | omega) (by first | decide | omega)
            have q96 : h87 78 0 = h70 78 0 := by rw [← e89]; exact x_up_i (by first | decide | omega)
            have q97 : h70 78 0 = h38 78 0 := jK 0 f72 rg_78_0_0_1 (by first | decide | omega) (by first | decide | omega) (by decide)
            have q98 : h38 78 0 = h14 78 0 := by rw [← e40]; exact x_up_i (by first | decide | omega)
            have q99 : h14 78 0 = h 78 0 := jK 0 f16 rg_78_0_0_1 (by first | decide | omega) (by first | decide | omega) (by decide)
            have q100 : h87 78 1 = h70 78 1 := by rw [← e89]; exact x_up_i (by first | decide | omega)
            have q101 : h70 78 1 = h38 78 1 := jK 0 f72 rg_78_1_0_1 (by first | decide | omega) (by first | decide | omega) (by decide)
            have q102 : h38 78 1 = h14 78 1 := by rw [← e40]; exact x_up_i (by first | decide | omega)
            have q103 : h14 78 1 = h 78 1 := jK 0 f16 rg_78_1_0_1 (by first | decide | omega) (by first | decide | omega) (by decide)
            have b104 := jB (e := 2) 0 hJ rg_78_2_0_1 (by first | decide | omega) (by first | decide | omega)
            have q105 : h87 78 2 = h70 78 2 := by rw [← e89]; exact x_up_i (by first | decide | omega)
            have q106 : h70 78 2 = h38 78 2 := jK 0 f72 rg_78_2_0_1 (by first | decide | omega) (by first | decide | omega) (by decide)
            have q107 : h38 78 2 = h14 78 2 := by rw [← e40]; exact x_up_i (by first | decide | omega)
            have q108 : h14 78 2 = h 78 2 := jK 0 f16 rg_78_2_0_1 (by first | decide | omega) (by first | decide | omega) (by decide)
            have b109 := jB (e := 3) 0 hJ rg_78_3_0_1 (by first | decide | omega) (by first | decide | omega)
            have q110 : h87 78 3 = h70 78 3 := by rw [← e89]; exact x_up_i (by first | decide | omega)
            have q111 : h70 78 3 = h38 78 3 := jK 0 f72 rg_78_3_0_1 (by first | decide | omega) (by first | decide | omega) (by decide)
            have q112 : h38 78 3 = h14 78 3 := by rw [← e40]; exact x_up_i (by first | decide | omega)
            have q113 : h14 78 3 = h 78 3 := jK 0 f16 rg_78_3_0_1 (by first | decide | omega) (by first | decide | omega) (by decide)
            have q114 : h87 78 4 = h70 78 4 := by rw [← e89]; exact x_up_i (by first | decide | omega)
            have q115 : h70 78 4 = h38 78 4 := jK 0 f72 rg_78_4_0_1 (by first | decide | omega) (by first | decide | omega) (by decide)
            have q116 : h38 78 4 = h14 78 4 := by rw [← e40]; exact x_up_i (by first | decide | omega)
            have q117 : h14 78 4 = h 78 4 := jK 0 f16 rg_78_4_0_1 (by first | decide | omega) (by first | decide | omega) (by decide)
            have b118 := jB (e := 5) 0 hJ rg_78_5_0_1 (by first | decide | omega) (by first | decide | omega)
            have q119 : h87 78 5 = h70 78 5 := by rw [← e89]; exact x_up_i (by first | decide | omega)
            have q120 : h70 78 5 = h38 78 5 := jK 0 f72 rg_78_5_0_1 (by first | decide | omega) (by first | decide | omega) (by decide)
            have q121 : h38 78 5 = h14 78 5 := by rw [← e40]; exact x_up_i (by first | decide | omega)
            have q122 : h14 78 5 = h 78 5 := jK 0 f16 rg_78_5_0_1 (by first | decide | omega) (by first | decide | omega) (by decide)
            have w123 : ¬ Wd tB tN 10 (sk tB tN (h 75 7)) := by rw [← c21]; exact Wd.no (by decide) (Is.no c33 (by first | decide | omega)) c22
            have q124 : h38 75 7 = h14 75 7 := by rw [← e40]; exact x_up_k (by decide)
            have q125 : h38 75 9 = h14 75 9 := by rw [← e40]; exact x_up_k (by decide)
            have c126 : Is (Wm tB 9 (h14 75 9) (h14 75 7)) v47 := by rw [show h14 75 9 = h38 75 9 by first | decide | omega, show h14 75 7 = h38 75 7 by first | decide | omega]; exact c52
            have y127 := Is.yes c126 (by first | decide | omega)
            have w128 : Wd tB tN 9 (sk tB tN (h 75 7)) := by rw [← c21]; exact Wd.of' (by decide) y127 c22
            have e129 : sk tB tN (h14 75 7) = sk tB tN ((sk tB tN (h 75 7)) + iv_tl 9) := by rw [← c21, ← y127.1]
            have q130 : h38 75 7 = h14 75 7 := by rw [← e40]; exact x_up_k (by decide)
            have w131 : ¬ Wd tB tN 10 (sk tB tN (h 75 7)) := by rw [← c21]; exact Wd.no (by decide) (Is.no c33 (by first | decide | omega)) c22
            have q132 : h38 75 7 = h14 75 7 := by rw [← e40]; exact x_up_k (by decide)
            have q133 : h38 75 9 = h14 75 9 := by rw [← e40]; exact x_up_k (by decide)
            have c134 : Is (Wm tB 9 (h14 75 9) (h14 75 7)) v47 := by rw [show h14 75 9 = h38 75 9 by first | decide | omega, show h14 75 7 = h38 75 7 by first | decide | omega]; exact c52
            have y135 := Is.yes c134 (by first | decide | omega)
            have w136 : Wd tB tN 9 (sk tB tN (h 75 7)) := by rw [← c21]; exact Wd.of' (by decide) y135 c22
            have e137 : sk tB tN (h14 75 7) = sk tB tN ((sk tB tN (h 75 7)) + iv_tl 9) := by rw [← c21, ← y135.1]
            have q138 : h38 75 7 = h14 75 7 := by rw [← e40]; exact x_up_k (by decide)
            have q139 : h87 75 9 = h70 75 9 := by rw [← e89]; exact x_up_k (by decide)
            have b140 := jB (e := 9) 0 j71 rg_75_9_0_1 (by first | decide | omega) (by first | decide | omega)
            refine x_retI (np := 156) (x := 0) (by decide +kernel) (by decide) (Or.inr ⟨by decide +kernel, by first | decide | omega, by first | decide | omega⟩) ⟨_, rfl, (by decide), ?_⟩
            exact ⟨j88, f90, (by first | decide | omega), (fun z => by first | decide | omega), (fun z => by first | decide | omega), (fun z => by first | decide | omega), (fun z => by first | decide | omega), (fun z => by first | decide | omega), (fun z => by first | decide | omega), (fun z => absurd z (by first | decide | omega)), (Or.inr ⟨by first | decide | omega, (or9.y w128 rfl e129 rfl (nm9.f c79 (by first | decide | omega) (by first | decide | omega) (congrArg (sk tB tN) (show h38 75 7 = h14 75 7 by first | decide | omega)) (by first | decide | omega) (by first | decide | omega)))⟩), (fun _ => Or.inr ⟨by first | decide | omega, (oF.y w136 rfl e137 rfl (mF.no c79 (by first | decide | omega) (by first | decide | omega) (congrArg (sk tB tN) (show h38 75 7 = h14 75 7 by first | decide | omega)) (by first | decide | omega) (Eq.trans (show h87 75 9 = h70 75 9 by first | decide | omega) c80)))⟩)⟩
          have q94 : ¬ (2147483648 = 2147483648) := q94
          exfalso; omega
        have q92 : ¬ (v67 < 2147483648) := q92
        have b141 := c75 (by first | decide | omega)
        have b142 := c76 (by first | decide | omega)
        have b143 := c77 (by first | decide | omega)
        refine x_const (np := 12) (x := 9223372043297226753) (a := 2147483649) (by decide +kernel) (by decide) (by decide) ?_
        refine x_goto (np := 15) (x := 16) (by decide +kernel) ?_
        refine x_retI (np := 17) (x := 0) (by decide +kernel) (by decide) (Or.inr ⟨by decide +kernel, by first | decide | omega, by first | decide | omega⟩) ⟨_, rfl, (by decide), ?_⟩
        refine x_retI (np := 17) (x := 0) (by decide +kernel) (by decide) (Or.inr ⟨by decide +kernel, by first | decide | omega, by first | decide | omega⟩) ⟨_, rfl, (by decide), ?_⟩
        refine x_ifz (k := 0) (tg := 154) (np := 80) (by decide +kernel) (by decide) (by decide) (fun q144 => ?_) (fun q145 => ?_)
        · have q144 : 2147483649 = 2147483648 := q144
          exfalso; omega
        have q145 : ¬ (2147483649 = 2147483648) := q145
        refine x_aload (np := 81) (x := 0) (by decide +kernel) rfl (x_nc_le (by decide)) ?_
        refine x_ldcB (i := 2) (idx := 147) (tx := "day") (by rw [tb_y184]; exact List.mem_of_getElem? (i := 37) rfl) (by decide) (by rw [tb_b184]; decide +kernel) ?_
        have m150 := Tq.fr m50 f72 (by decide) (by decide)
        have m149 : Tq tB tN h87 := by rw [← e89]; exact Tq.oth m150 (by decide) (fun z => absurd z.1 (by decide))
        refine x_cI (t := 6) (mj := 172) (n := 2) (rc := 12) (ml := 2) (nr := 0) (np := 86) (as := [x_r 75, x_b (2 + 1)]) (rest := []) (lo1 := [x_r 75, x_b (2 + 1)]) (by decide +kernel) (by decide) (by decide +kernel) (x_rb_of (by decide +kernel)) rfl rfl (x_wr (by decide) (x_wB (by decide) x_wn)) x_wn (by decide) rfl (c172_75_S0 j88  (by decide) m149) (fun v146 h151 l147 q148 => ?_)
        obtain ⟨j152, f153, b154, c155, c156, c157, c158⟩ := q148
        have f159 := Fr.trans f90 f153 (by decide)
        have q160 : h87 75 7 = h70 75 7 := by rw [← e89]; exact x_up_k (by decide)
        have b161 := jB (e := 7) 0 j152 rg_75_7_0_1 (by first | decide | omega) (by first | decide | omega)
        have q162 : h87 75 7 = h70 75 7 := by rw [← e89]; exact x_up_k (by decide)
        refine x_ifz (k := 0) (tg := 154) (np := 89) (by decide +kernel) (by decide) l147 (fun q163 => ?_) (fun q164 => ?_)
        · have q163 : v146 = 2147483648 := q163
          refine x_const (np := 155) (x := 9223372039002259456) (a := 2147483648) (by decide +kernel) (by decide) (by decide) ?_
          have b165 := jB (e := 0) 0 hJ rg_78_0_0_1 (by first | decide | omega) (by first | decide | omega)
          have q166 : h151 78 0 = h87 78 0 := jK 0 f153 rg_78_0_0_1 (by first | decide | omega) (by first | decide | omega) (by decide)
          have q167 : h87 78 0 = h70 78 0 := by rw [← e89]; exact x_up_i (by first | decide | omega)
          have q168 : h70 78 0 = h38 78 0 := jK 0 f72 rg_78_0_0_1 (by first | decide | omega) (by first | decide | omega) (by decide)
          have q169 : h38 78 0 = h14 78 0 := by rw [← e40]; exact x_up_i (by first | decide | omega)
          have q170 : h14 78 0 = h 78 0 := jK 0 f16 rg_78_0_0_1 (by first | decide | omega) (by first | decide | omega) (by decide)
          have q171 : h151 78 1 = h87 78 1 := jK 0 f153 rg_78_1_0_1 (by first | decide | omega) (by first | decide | omega) (by decide)
          have q172 : h87 78 1 = h70 78 1 := by rw [← e89]; exact x_up_i (by first | decide | omega)
          have q173 : h70 78 1 = h38 78 1 := jK 0 f72 rg_78_1_0_1 (by first | decide | omega) (by first | decide | omega) (by decide)
          have q174 : h38 78 1 = h14 78 1 := by rw [← e40]; exact x_up_i (by first | decide | omega)
          have q175 : h14 78 1 = h 78 1 := jK 0 f16 rg_78_1_0_1 (by first | decide | omega) (by first | decide | omega) (by decide)
          have b176 := jB (e := 2) 0 hJ rg_78_2_0_1 (by first | decide | omega) (by first | decide | omega)
          have q177 : h151 78 2 = h87 78 2 := jK 0 f153 rg_78_2_0_1 (by first | decide | omega) (by first | decide | omega) (by decide)
          have q178 : h87 78 2 = h70 78 2 := by rw [← e89]; exact x_up_i (by first | decide | omega)
          have q179 : h70 78 2 = h38 78 2 := jK 0 f72 rg_78_2_0_1 (by first | decide | omega) (by first | decide | omega) (by decide)
          have q180 : h38 78 2 = h14 78 2 := by rw [← e40]; exact x_up_i (by first | decide | omega)
          have q181 : h14 78 2 = h 78 2 := jK 0 f16 rg_78_2_0_1 (by first | decide | omega) (by first | decide | omega) (by decide)
          have b182 := jB (e := 3) 0 hJ rg_78_3_0_1 (by first | decide | omega) (by first | decide | omega)
          have q183 : h151 78 3 = h87 78 3 := jK 0 f153 rg_78_3_0_1 (by first | decide | omega) (by first | decide | omega) (by decide)
          have q184 : h87 78 3 = h70 78 3 := by rw [← e89]; exact x_up_i (by first | decide | omega)
          have q185 : h70 78 3 = h38 78 3 := jK 0 f72 rg_78_3_0_1 (by first | decide | omega) (by first | decide | omega) (by decide)
          have q186 : h38 78 3 = h14 78 3 := by rw [← e40]; exact x_up_i (by first | decide | omega)
          have q187 : h14 78 3 = h 78 3 := jK 0 f16 rg_78_3_0_1 (by first | decide | omega) (by first | decide | omega) (by decide)
          have q188 : h151 78 4 = h87 78 4 := jK 0 f153 rg_78_4_0_1 (by first | decide | omega) (by first | decide | omega) (by decide)
          have q189 : h87 78 4 = h70 78 4 := by rw [← e89]; exact x_up_i (by first | decide | omega)
          have q190 : h70 78 4 = h38 78 4 := jK 0 f72 rg_78_4_0_1 (by first | decide | omega) (by first | decide | omega) (by decide)
          have q191 : h38 78 4 = h14 78 4 := by rw [← e40]; exact x_up_i (by first | decide | omega)
          have q192 : h14 78 4 = h 78 4 := jK 0 f16 rg_78_4_0_1 (by first | decide | omega) (by first | decide | omega) (by decide)
          have b193 := jB (e := 5) 0 hJ rg_78_5_0_1 (by first | decide | omega) (by first | decide | omega)
          have q194 : h151 78 5 = h87 78 5 := jK 0 f153 rg_78_5_0_1 (by first | decide | omega) (by first | decide | omega) (by decide)
          have q195 : h87 78 5 = h70 78 5 := by rw [← e89]; exact x_up_i (by first | decide | omega)
          have q196 : h70 78 5 = h38 78 5 := jK 0 f72 rg_78_5_0_1 (by first | decide | omega) (by first | decide | omega) (by decide)
          have q197 : h38 78 5 = h14 78 5 := by rw [← e40]; exact x_up_i (by first | decide | omega)
          have q198 : h14 78 5 = h 78 5 := jK 0 f16 rg_78_5_0_1 (by first | decide | omega) (by first | decide | omega) (by decide)
          have w199 : ¬ Wd tB tN 10 (sk tB tN (h 75 7)) := by rw [← c21]; exact Wd.no (by decide) (Is.no c33 (by first | decide | omega)) c22
          have q200 : h38 75 7 = h14 75 7 := by rw [← e40]; exact x_up_k (by decide)
          have q201 : h38 75 9 = h14 75 9 := by rw [← e40]; exact x_up_k (by decide)
          have c202 : Is (Wm tB 9 (h14 75 9) (h14 75 7)) v47 := by rw [show h14 75 9 = h38 75 9 by first | decide | omega, show h14 75 7 = h38 75 7 by first | decide | omega]; exact c52
          have y203 := Is.yes c202 (by first | decide | omega)
          have w204 : Wd tB tN 9 (sk tB tN (h 75 7)) := by rw [← c21]; exact Wd.of' (by decide) y203 c22
          have e205 : sk tB tN (h14 75 7) = sk tB tN ((sk tB tN (h 75 7)) + iv_tl 9) := by rw [← c21, ← y203.1]
          have q206 : h38 75 7 = h14 75 7 := by rw [← e40]; exact x_up_k (by decide)
          have q207 : h87 75 7 = h70 75 7 := by rw [← e89]; exact x_up_k (by decide)
          have w208 : ¬ Wd tB tN 10 (sk tB tN (h 75 7)) := by rw [← c21]; exact Wd.no (by decide) (Is.no c33 (by first | decide | omega)) c22
          have q209 : h38 75 7 = h14 75 7 := by rw [← e40]; exact x_up_k (by decide)
          have q210 : h38 75 9 = h14 75 9 := by rw [← e40]; exact x_up_k (by decide)
          have c211 : Is (Wm tB 9 (h14 75 9) (h14 75 7)) v47 := by rw [show h14 75 9 = h38 75 9 by first | decide | omega, show h14 75 7 = h38 75 7 by first | decide | omega]; exact c52
          have y212 := Is.yes c211 (by first | decide | omega)
          have w213 : Wd tB tN 9 (sk tB tN (h 75 7)) := by rw [← c21]; exact Wd.of' (by decide) y212 c22
          have e214 : sk tB tN (h14 75 7) = sk tB tN ((sk tB tN (h 75 7)) + iv_tl 9) := by rw [← c21, ← y212.1]
          have q215 : h38 75 7 = h14 75 7 := by rw [← e40]; exact x_up_k (by decide)
          have q216 : h87 75 7 = h70 75 7 := by rw [← e89]; exact x_up_k (by decide)
          refine x_retI (np := 156) (x := 0) (by decide +kernel) (by decide) (Or.inr ⟨by decide +kernel, by first | decide | omega, by first | decide | omega⟩) ⟨_, rfl, (by decide), ?_⟩
          exact ⟨j152, f159, (by first | decide | omega), (fun z => by first | decide | omega), (fun z => by first | decide | omega), (fun z => by first | decide | omega), (fun z => by first | decide | omega), (fun z => by first | decide | omega), (fun z => by first | decide | omega), (fun z => absurd z (by first | decide | omega)), (Or.inr ⟨by first | decide | omega, (or9.y w204 rfl e205 rfl (nm9.y c79 (by first | decide | omega) (by first | decide | omega) (congrArg (sk tB tN) (show h38 75 7 = h14 75 7 by first | decide | omega)) (by first | decide | omega) rfl (wd9.f (Tw.no c157 (by first | decide | omega)) (congrArg (sk tB tN) (show h87 75 7 = h70 75 7 by first | decide | omega)) (by first | decide | omega))))⟩), (fun _ => Or.inr ⟨by first | decide | omega, (oF.y w213 rfl e214 rfl (mF.y c79 (by first | decide | omega) (by first | decide | omega) (congrArg (sk tB tN) (show h38 75 7 = h14 75 7 by first | decide | omega)) (by first | decide | omega) rfl (wF.no (Tw.no c157 (by first | decide | omega)) (congrArg (sk tB tN) (show h87 75 7 = h70 75 7 by first | decide | omega)) c158)))⟩)⟩
        have q164 : ¬ (v146 = 2147483648) := q164
        have b217 := c156 (by first | decide | omega)
        refine x_aload (np := 90) (x := 0) (by decide +kernel) rfl (x_nc_le (by decide)) ?_
        refine x_iload (np := 91) (x := 1) (by decide +kernel) rfl (by first | decide | omega) ?_
        refine x_const (np := 92) (x := 9223372047592194050) (a := 2147483650) (by decide +kernel) (by decide) (by decide) ?_
        refine x_iadd (np := 93) (x := 0) (v := (2147483850 + 5 * u8)) (by decide +kernel) (by first | decide | omega) (by decide) (by first | decide | omega) (by first | decide | omega) ?_
        refine x_const (np := 94) (x := 9223372039002259456) (a := 2147483648) (by decide +kernel) (by decide) (by decide) ?_
        refine x_nI (t := 6) (mj := 178) (n := 3) (rc := 12) (ml := 3) (nr := 0) (np := 97) (as := [x_r 75, iv_c (2147483850 + 5 * u8), iv_c 2147483648]) (rest := []) (lo1 := [x_r 75, iv_c (2147483850 + 5 * u8), iv_c 2147483648]) (by decide +kernel) (by decide) (by decide +kernel) (x_rb_of (by decide +kernel)) rfl rfl (x_wr (by decide) (x_wi (by first | decide | omega) (x_wi (by decide) x_wn))) x_wn (by decide) rfl ?_
        refine x_aload (np := 1) (x := 0) (by decide +kernel) rfl (x_nc_le (by decide)) ?_
        refine x_iload (np := 2) (x := 1) (by decide +kernel) rfl (by first | decide | omega) ?_
        refine x_aload (np := 3) (x := 0) (by decide +kernel) rfl (x_nc_le (by decide)) ?_
        refine x_iload (np := 4) (x := 2) (by decide +kernel) rfl (by decide) ?_
        refine x_const (np := 6) (x := 9223372086246899723) (a := 2147483659) (by decide +kernel) (by decide) (by decide) ?_
        have m221 := Tq.fr m149 f153 (by decide) (by decide)
        refine x_cI (t := 6) (mj := 174) (n := 3) (rc := 12) (ml := 4) (nr := 2) (np := 9) (as := [x_r 75, iv_c 2147483648, iv_c 2147483659]) (rest := [iv_c (2147483850 + 5 * u8), x_r 75]) (lo1 := [x_r 75, iv_c 2147483648, iv_c 2147483659, 147573952589676412928]) (by decide +kernel) (by decide) (by decide +kernel) (x_rb_of (by decide +kernel)) rfl rfl (x_wr (by decide) (x_wi (by decide) (x_wi (by decide) x_wn))) (x_wi (by first | decide | omega) (x_wr (by decide) x_wn)) (by decide) rfl (c174_75 j152  (by first | decide | omega) (by first | decide | omega) m221) (fun v218 h222 l219 q220 => ?_)
        obtain ⟨j223, f224, b225, c226, c227, c228, c229, c230, c231, c232⟩ := q220
        have f233 := Fr.trans f159 f224 (by decide)
        have b234 := jB (e := 7) 0 j223 rg_75_7_0_1 (by first | decide | omega) (by first | decide | omega)
        have b235 := c230 (by first | decide | omega)
        refine x_nI (t := 6) (mj := 176) (n := 3) (rc := 12) (ml := 3) (nr := 0) (np := 12) (as := [x_r 75, iv_c (2147483850 + 5 * u8), iv_c v218]) (rest := []) (lo1 := [x_r 75, iv_c (2147483850 + 5 * u8), iv_c v218]) (by decide +kernel) (by decide) (by decide +kernel) (x_rb_of (by decide +kernel)) rfl rfl (x_wr (by decide) (x_wi (by first | decide | omega) (x_wi l219 x_wn))) x_wn (by decide) rfl ?_
        refine x_aload (np := 1) (x := 0) (by decide +kernel) rfl (x_nc_le (by decide)) ?_
        have q236 : h222 75 3 = 78 := by have z := jB (e := 3) 0 j223 rg_75_3_0_1 (by decide) (by decide); omega
        refine x_getR (np := 4) (x := 707) (f := 3) (q := 78) (by decide +kernel) (by decide) (by decide +kernel) q236 ?_
        refine x_iload (np := 5) (x := 1) (by decide +kernel) rfl (by first | decide | omega) ?_
        refine x_iload (np := 6) (x := 2) (by decide +kernel) rfl l219 ?_
        refine x_ast (np := 7) (x := 0) (kd := 1) (n := 290) (i := (202 + 5 * u8)) (by decide +kernel) (Or.inl rfl) (by decide +kernel) (by first | decide | omega) (by first | decide | omega) (by decide) l219 (fun z => absurd z (by decide)) ?_
        have j238 := jU (e := (202 + 5 * u8)) (v := v218) u8 j223 rg_78_202_5_10 (by first | decide | omega) (by first | decide | omega) (by first | decide | omega)
        have f240 := jF (e := (202 + 5 * u8)) (v := v218) u8 f233 rg_78_202_5_10 (by first | decide | omega) (by first | decide | omega) (by decide)
        generalize e239 : x_up h222 78 (202 + 5 * u8) v218 = h237 at j238 f240 ⊢
        refine x_iload (np := 8) (x := 2) (by decide +kernel) rfl l219 ?_
        refine x_ifz (k := 2) (tg := 15) (np := 11) (by decide +kernel) (by decide) l219 (fun q241 => ?_) (fun q242 => ?_)
        · have q241 : v218 < 2147483648 := q241
          refine x_const (np := 16) (x := 9223372039002259456) (a := 2147483648) (by decide +kernel) (by decide) (by decide) ?_
          refine x_retI (np := 17) (x := 0) (by decide +kernel) (by decide) (Or.inr ⟨by decide +kernel, by first | decide | omega, by first | decide | omega⟩) ⟨_, rfl, (by decide), ?_⟩
          refine x_retI (np := 13) (x := 0) (by decide +kernel) (by decide) (Or.inr ⟨by decide +kernel, by first | decide | omega, by first | decide | omega⟩) ⟨_, rfl, (by decide), ?_⟩
          refine x_ifz (k := 0) (tg := 154) (np := 100) (by decide +kernel) (by decide) (by decide) (fun q243 => ?_) (fun q244 => ?_)
          · have q243 : 2147483648 = 2147483648 := q243
            refine x_const (np := 155) (x := 9223372039002259456) (a := 2147483648) (by decide +kernel) (by decide) (by decide) ?_
            have b245 := jB (e := 0) 0 hJ rg_78_0_0_1 (by first | decide | omega) (by first | decide | omega)
            have q246 : h237 78 0 = h222 78 0 := by rw [← e239]; exact x_up_i (by first | decide | omega)
            have q247 : h222 78 0 = h151 78 0 := jK 0 f224 rg_78_0_0_1 (by first | decide | omega) (by first | decide | omega) (by decide)
            have q248 : h151 78 0 = h87 78 0 := jK 0 f153 rg_78_0_0_1 (by first | decide | omega) (by first | decide | omega) (by decide)
            have q249 : h87 78 0 = h70 78 0 := by rw [← e89]; exact x_up_i (by first | decide | omega)
            have q250 : h70 78 0 = h38 78 0 := jK 0 f72 rg_78_0_0_1 (by first | decide | omega) (by first | decide | omega) (by decide)
            have q251 : h38 78 0 = h14 78 0 := by rw [← e40]; exact x_up_i (by first | decide | omega)
            have q252 : h14 78 0 = h 78 0 := jK 0 f16 rg_78_0_0_1 (by first | decide | omega) (by first | decide | omega) (by decide)
            have q253 : h237 78 1 = h222 78 1 := by rw [← e239]; exact x_up_i (by first | decide | omega)
            have q254 : h222 78 1 = h151 78 1 := jK 0 f224 rg_78_1_0_1 (by first | decide | omega) (by first | decide | omega) (by decide)
            have q255 : h151 78 1 = h87 78 1 := jK 0 f153 rg_78_1_0_1 (by first | decide | omega) (by first | decide | omega) (by decide)
            have q256 : h87 78 1 = h70 78 1 := by rw [← e89]; exact x_up_i (by first | decide | omega)
            have q257 : h70 78 1 = h38 78 1 := jK 0 f72 rg_78_1_0_1 (by first | decide | omega) (by first | decide | omega) (by decide)
            have q258 : h38 78 1 = h14 78 1 := by rw [← e40]; exact x_up_i (by first | decide | omega)
            have q259 : h14 78 1 = h 78 1 := jK 0 f16 rg_78_1_0_1 (by first | decide | omega) (by first | decide | omega) (by decide)
            have b260 := jB (e := 2) 0 hJ rg_78_2_0_1 (by first | decide | omega) (by first | decide | omega)
            have q261 : h237 78 2 = h222 78 2 := by rw [← e239]; exact x_up_i (by first | decide | omega)
            have q262 : h222 78 2 = h151 78 2 := jK 0 f224 rg_78_2_0_1 (by first | decide | omega) (by first | decide | omega) (by decide)
            have q263 : h151 78 2 = h87 78 2 := jK 0 f153 rg_78_2_0_1 (by first | decide | omega) (by first | decide | omega) (by decide)
            have q264 : h87 78 2 = h70 78 2 := by rw [← e89]; exact x_up_i (by first | decide | omega)
            have q265 : h70 78 2 = h38 78 2 := jK 0 f72 rg_78_2_0_1 (by first | decide | omega) (by first | decide | omega) (by decide)
            have q266 : h38 78 2 = h14 78 2 := by rw [← e40]; exact x_up_i (by first | decide | omega)
            have q267 : h14 78 2 = h 78 2 := jK 0 f16 rg_78_2_0_1 (by first | decide | omega) (by first | decide | omega) (by decide)
            have b268 := jB (e := 3) 0 hJ rg_78_3_0_1 (by first | decide | omega) (by first | decide | omega)
            have q269 : h237 78 3 = h222 78 3 := by rw [← e239]; exact x_up_i (by first | decide | omega)
            have q270 : h222 78 3 = h151 78 3 := jK 0 f224 rg_78_3_0_1 (by first | decide | omega) (by first | decide | omega) (by decide)
            have q271 : h151 78 3 = h87 78 3 := jK 0 f153 rg_78_3_0_1 (by first | decide | omega) (by first | decide | omega) (by decide)
            have q272 : h87 78 3 = h70 78 3 := by rw [← e89]; exact x_up_i (by first | decide | omega)
            have q273 : h70 78 3 = h38 78 3 := jK 0 f72 rg_78_3_0_1 (by first | decide | omega) (by first | decide | omega) (by decide)
            have q274 : h38 78 3 = h14 78 3 := by rw [← e40]; exact x_up_i (by first | decide | omega)
            have q275 : h14 78 3 = h 78 3 := jK 0 f16 rg_78_3_0_1 (by first | decide | omega) (by first | decide | omega) (by decide)
            have q276 : h237 78 4 = h222 78 4 := by rw [← e239]; exact x_up_i (by first | decide | omega)
            have q277 : h222 78 4 = h151 78 4 := jK 0 f224 rg_78_4_0_1 (by first | decide | omega) (by first | decide | omega) (by decide)
            have q278 : h151 78 4 = h87 78 4 := jK 0 f153 rg_78_4_0_1 (by first | decide | omega) (by first | decide | omega) (by decide)
            have q279 : h87 78 4 = h70 78 4 := by rw [← e89]; exact x_up_i (by first | decide | omega)
            have q280 : h70 78 4 = h38 78 4 := jK 0 f72 rg_78_4_0_1 (by first | decide | omega) (by first | decide | omega) (by decide)
            have q281 : h38 78 4 = h14 78 4 := by rw [← e40]; exact x_up_i (by first | decide | omega)
            have q282 : h14 78 4 = h 78 4 := jK 0 f16 rg_78_4_0_1 (by first | decide | omega) (by first | decide | omega) (by decide)
            have b283 := jB (e := 5) 0 hJ rg_78_5_0_1 (by first | decide | omega) (by first | decide | omega)
            have q284 : h237 78 5 = h222 78 5 := by rw [← e239]; exact x_up_i (by first | decide | omega)
            have q285 : h222 78 5 = h151 78 5 := jK 0 f224 rg_78_5_0_1 (by first | decide | omega) (by first | decide | omega) (by decide)
            have q286 : h151 78 5 = h87 78 5 := jK 0 f153 rg_78_5_0_1 (by first | decide | omega) (by first | decide | omega) (by decide)
            have q287 : h87 78 5 = h70 78 5 := by rw [← e89]; exact x_up_i (by first | decide | omega)
            have q288 : h70 78 5 = h38 78 5 := jK 0 f72 rg_78_5_0_1 (by first | decide | omega) (by first | decide | omega) (by decide)
            have q289 : h38 78 5 = h14 78 5 := by rw [← e40]; exact x_up_i (by first | decide | omega)
            have q290 : h14 78 5 = h 78 5 := jK 0 f16 rg_78_5_0_1 (by first | decide | omega) (by first | decide | omega) (by decide)
            have w291 : ¬ Wd tB tN 10 (sk tB tN (h 75 7)) := by rw [← c21]; exact Wd.no (by decide) (Is.no c33 (by first | decide | omega)) c22
            have q292 : h38 75 7 = h14 75 7 := by rw [← e40]; exact x_up_k (by decide)
            have q293 : h38 75 9 = h14 75 9 := by rw [← e40]; exact x_up_k (by decide)
            have c294 : Is (Wm tB 9 (h14 75 9) (h14 75 7)) v47 := by rw [show h14 75 9 = h38 75 9 by first | decide | omega, show h14 75 7 = h38 75 7 by first | decide | omega]; exact c52
            have y295 := Is.yes c294 (by first | decide | omega)
            have w296 : Wd tB tN 9 (sk tB tN (h 75 7)) := by rw [← c21]; exact Wd.of' (by decide) y295 c22
            have e297 : sk tB tN (h14 75 7) = sk tB tN ((sk tB tN (h 75 7)) + iv_tl 9) := by rw [← c21, ← y295.1]
            have q298 : h38 75 7 = h14 75 7 := by rw [← e40]; exact x_up_k (by decide)
            have q299 : h87 75 7 = h70 75 7 := by rw [← e89]; exact x_up_k (by decide)
            obtain ⟨w300, e301⟩ := Tw.yes c157 (by first | decide | omega)
            have w302 : ¬ Wd tB tN 10 (sk tB tN (h 75 7)) := by rw [← c21]; exact Wd.no (by decide) (Is.no c33 (by first | decide | omega)) c22
            have q303 : h38 75 7 = h14 75 7 := by rw [← e40]; exact x_up_k (by decide)
            have q304 : h38 75 9 = h14 75 9 := by rw [← e40]; exact x_up_k (by decide)
            have c305 : Is (Wm tB 9 (h14 75 9) (h14 75 7)) v47 := by rw [show h14 75 9 = h38 75 9 by first | decide | omega, show h14 75 7 = h38 75 7 by first | decide | omega]; exact c52
            have y306 := Is.yes c305 (by first | decide | omega)
            have w307 : Wd tB tN 9 (sk tB tN (h 75 7)) := by rw [← c21]; exact Wd.of' (by decide) y306 c22
            have e308 : sk tB tN (h14 75 7) = sk tB tN ((sk tB tN (h 75 7)) + iv_tl 9) := by rw [← c21, ← y306.1]
            have q309 : h38 75 7 = h14 75 7 := by rw [← e40]; exact x_up_k (by decide)
            have q310 : h87 75 7 = h70 75 7 := by rw [← e89]; exact x_up_k (by decide)
            obtain ⟨w311, e312⟩ := Tw.yes c157 (by first | decide | omega)
            have q313 : h237 75 9 = h222 75 9 := by rw [← e239]; exact x_up_k (by decide)
            have b314 := jB (e := 9) 0 j223 rg_75_9_0_1 (by first | decide | omega) (by first | decide | omega)
            refine x_retI (np := 156) (x := 0) (by decide +kernel) (by decide) (Or.inr ⟨by decide +kernel, by first | decide | omega, by first | decide | omega⟩) ⟨_, rfl, (by decide), ?_⟩
            exact ⟨j238, f240, (by first | decide | omega), (fun z => by first | decide | omega), (fun z => by first | decide | omega), (fun z => by first | decide | omega), (fun z => by first | decide | omega), (fun z => by first | decide | omega), (fun z => by first | decide | omega), (fun z => absurd z (by first | decide | omega)), (Or.inr ⟨by first | decide | omega, (or9.y w296 rfl e297 rfl (nm9.y c79 (by first | decide | omega) (by first | decide | omega) (congrArg (sk tB tN) (show h38 75 7 = h14 75 7 by first | decide | omega)) (by first | decide | omega) rfl (wd9.y w300 (congrArg (sk tB tN) (show h87 75 7 = h70 75 7 by first | decide | omega)) e301 rfl (nm9.f c231 (by first | decide | omega) (by first | decide | omega) rfl (by first | decide | omega) (by first | decide | omega)))))⟩), (fun _ => Or.inr ⟨by first | decide | omega, (oF.y w307 rfl e308 rfl (mF.y c79 (by first | decide | omega) (by first | decide | omega) (congrArg (sk tB tN) (show h38 75 7 = h14 75 7 by first | decide | omega)) (by first | decide | omega) rfl (wF.y w311 (congrArg (sk tB tN) (show h87 75 7 = h70 75 7 by first | decide | omega)) e312 rfl (mF.no c231 (by first | decide | omega) (by first | decide | omega) rfl (by first | decide | omega) (Eq.trans (show h237 75 9 = h222 75 9 by first | decide | omega) c232)))))⟩)⟩
          have q244 : ¬ (2147483648 = 2147483648) := q244
          exfalso; omega
        have q242 : ¬ (v218 < 2147483648) := q242
        have b315 := c227 (by first | decide | omega)
        have b316 := c228 (by first | decide | omega)
        have b317 := c229 (by first | decide | omega)
        refine x_const (np := 12) (x := 9223372043297226753) (a := 2147483649) (by decide +kernel) (by decide) (by decide) ?_
        refine x_goto (np := 15) (x := 16) (by decide +kernel) ?_
        refine x_retI (np := 17) (x := 0) (by decide +kernel) (by decide) (Or.inr ⟨by decide +kernel, by first | decide | omega, by first | decide | omega⟩) ⟨_, rfl, (by decide), ?_⟩
        refine x_retI (np := 13) (x := 0) (by decide +kernel) (by decide) (Or.inr ⟨by decide +kernel, by first | decide | omega, by first | decide | omega⟩) ⟨_, rfl, (by decide), ?_⟩
        refine x_ifz (k := 0) (tg := 154) (np := 100) (by decide +kernel) (by decide) (by decide) (fun q318 => ?_) (fun q319 => ?_)
        · have q318 : 2147483649 = 2147483648 := q318
          exfalso; omega
        have q319 : ¬ (2147483649 = 2147483648) := q319
        refine x_aload (np := 101) (x := 0) (by decide +kernel) rfl (x_nc_le (by decide)) ?_
        refine x_ldcB (i := 11) (idx := 173) (tx := "judged") (by rw [tb_y184]; exact List.mem_of_getElem? (i := 50) rfl) (by decide) (by rw [tb_b184]; decide +kernel) ?_
        have m324 := Tq.fr m221 f224 (by decide) (by decide)
        have m323 : Tq tB tN h237 := by rw [← e239]; exact Tq.oth m324 (by decide) (fun z => absurd z.1 (by decide))
        refine x_cI (t := 6) (mj := 172) (n := 2) (rc := 12) (ml := 2) (nr := 0) (np := 106) (as := [x_r 75, x_b (11 + 1)]) (rest := []) (lo1 := [x_r 75, x_b (11 + 1)]) (by decide +kernel) (by decide) (by decide +kernel) (x_rb_of (by decide +kernel)) rfl rfl (x_wr (by decide) (x_wB (by decide) x_wn)) x_wn (by decide) rfl (c172_75_S0 j238  (by decide) m323) (fun v320 h325 l321 q322 => ?_)
        obtain ⟨j326, f327, b328, c329, c330, c331, c332⟩ := q322
        have f333 := Fr.trans f240 f327 (by decide)
        have q334 : h237 75 7 = h222 75 7 := by rw [← e239]; exact x_up_k (by decide)
        have b335 := jB (e := 7) 0 j326 rg_75_7_0_1 (by first | decide | omega) (by first | decide | omega)
        have q336 : h237 75 7 = h222 75 7 := by rw [← e239]; exact x_up_k (by decide)
        refine x_ifz (k := 0) (tg := 154) (np := 109) (by decide +kernel) (by decide) l321 (fun q337 => ?_) (fun q338 => ?_)
        · have q337 : v320 = 2147483648 := q337
          refine x_const (np := 155) (x := 9223372039002259456) (a := 2147483648) (by decide +kernel) (by decide) (by decide) ?_
          have b339 := jB (e := 0) 0 hJ rg_78_0_0_1 (by first | decide | omega) (by first | decide | omega)
          have q340 : h325 78 0 = h237 78 0 := jK 0 f327 rg_78_0_0_1 (by first | decide | omega) (by first | decide | omega) (by decide)
          have q341 : h237 78 0 = h222 78 0 := by rw [← e239]; exact x_up_i (by first | decide | omega)
          have q342 : h222 78 0 = h151 78 0 := jK 0 f224 rg_78_0_0_1 (by first | decide | omega) (by first | decide | omega) (by decide)
          have q343 : h151 78 0 = h87 78 0 := jK 0 f153 rg_78_0_0_1 (by first | decide | omega) (by first | decide | omega) (by decide)
          have q344 : h87 78 0 = h70 78 0 := by rw [← e89]; exact x_up_i (by first | decide | omega)
          have q345 : h70 78 0 = h38 78 0 := jK 0 f72 rg_78_0_0_1 (by first | decide | omega) (by first | decide | omega) (by decide)
          have q346 : h38 78 0 = h14 78 0 := by rw [← e40]; exact x_up_i (by first | decide | omega)
          have q347 : h14 78 0 = h 78 0 := jK 0 f16 rg_78_0_0_1 (by first | decide | omega) (by first | decide | omega) (by decide)
          have q348 : h325 78 1 = h237 78 1 := jK 0 f327 rg_78_1_0_1 (by first | decide | omega) (by first | decide | omega) (by decide)
          have q349 : h237 78 1 = h222 78 1 := by rw [← e239]; exact x_up_i (by first | decide | omega)
          have q350 : h222 78 1 = h151 78 1 := jK 0 f224 rg_78_1_0_1 (by first | decide | omega) (by first | decide | omega) (by decide)
          have q351 : h151 78 1 = h87 78 1 := jK 0 f153 rg_78_1_0_1 (by first | decide | omega) (by first | decide | omega) (by decide)
          have q352 : h87 78 1 = h70 78 1 := by rw [← e89]; exact x_up_i (by first | decide | omega)
          have q353 : h70 78 1 = h38 78 1 := jK 0 f72 rg_78_1_0_1 (by first | decide | omega) (by first | decide | omega) (by decide)
          have q354 : h38 78 1 = h14 78 1 := by rw [← e40]; exact x_up_i (by first | decide | omega)
          have q355 : h14 78 1 = h 78 1 := jK 0 f16 rg_78_1_0_1 (by first | decide | omega) (by first | decide | omega) (by decide)
          have b356 := jB (e := 2) 0 hJ rg_78_2_0_1 (by first | decide | omega) (by first | decide | omega)
          have q357 : h325 78 2 = h237 78 2 := jK 0 f327 rg_78_2_0_1 (by first | decide | omega) (by first | decide | omega) (by decide)
          have q358 : h237 78 2 = h222 78 2 := by rw [← e239]; exact x_up_i (by first | decide | omega)
          have q359 : h222 78 2 = h151 78 2 := jK 0 f224 rg_78_2_0_1 (by first | decide | omega) (by first | decide | omega) (by decide)
          have q360 : h151 78 2 = h87 78 2 := jK 0 f153 rg_78_2_0_1 (by first | decide | omega) (by first | decide | omega) (by decide)
          have q361 : h87 78 2 = h70 78 2 := by rw [← e89]; exact x_up_i (by first | decide | omega)
          have q362 : h70 78 2 = h38 78 2 := jK 0 f72 rg_78_2_0_1 (by first | decide | omega) (by first | decide | omega) (by decide)
          have q363 : h38 78 2 = h14 78 2 := by rw [← e40]; exact x_up_i (by first | decide | omega)
          have q364 : h14 78 2 = h 78 2 := jK 0 f16 rg_78_2_0_1 (by first | decide | omega) (by first | decide | omega) (by decide)
          have b365 := jB (e := 3) 0 hJ rg_78_3_0_1 (by first | decide | omega) (by first | decide | omega)
          have q366 : h325 78 3 = h237 78 3 := jK 0 f327 rg_78_3_0_1 (by first | decide | omega) (by first | decide | omega) (by decide)
          have q367 : h237 78 3 = h222 78 3 := by rw [← e239]; exact x_up_i (by first | decide | omega)
          have q368 : h222 78 3 = h151 78 3 := jK 0 f224 rg_78_3_0_1 (by first | decide | omega) (by first | decide | omega) (by decide)
          have q369 : h151 78 3 = h87 78 3 := jK 0 f153 rg_78_3_0_1 (by first | decide | omega) (by first | decide | omega) (by decide)
          have q370 : h87 78 3 = h70 78 3 := by rw [← e89]; exact x_up_i (by first | decide | omega)
          have q371 : h70 78 3 = h38 78 3 := jK 0 f72 rg_78_3_0_1 (by first | decide | omega) (by first | decide | omega) (by decide)
          have q372 : h38 78 3 = h14 78 3 := by rw [← e40]; exact x_up_i (by first | decide | omega)
          have q373 : h14 78 3 = h 78 3 := jK 0 f16 rg_78_3_0_1 (by first | decide | omega) (by first | decide | omega) (by decide)
          have q374 : h325 78 4 = h237 78 4 := jK 0 f327 rg_78_4_0_1 (by first | decide | omega) (by first | decide | omega) (by decide)
          have q375 : h237 78 4 = h222 78 4 := by rw [← e239]; exact x_up_i (by first | decide | omega)
          have q376 : h222 78 4 = h151 78 4 := jK 0 f224 rg_78_4_0_1 (by first | decide | omega) (by first | decide | omega) (by decide)
          have q377 : h151 78 4 = h87 78 4 := jK 0 f153 rg_78_4_0_1 (by first | decide | omega) (by first | decide | omega) (by decide)
          have q378 : h87 78 4 = h70 78 4 := by rw [← e89]; exact x_up_i (by first | decide | omega)
          have q379 : h70 78 4 = h38 78 4 := jK 0 f72 rg_78_4_0_1 (by first | decide | omega) (by first | decide | omega) (by decide)
          have q380 : h38 78 4 = h14 78 4 := by rw [← e40]; exact x_up_i (by first | decide | omega)
          have q381 : h14 78 4 = h 78 4 := jK 0 f16 rg_78_4_0_1 (by first | decide | omega) (by first | decide | omega) (by decide)
          have b382 := jB (e := 5) 0 hJ rg_78_5_0_1 (by first | decide | omega) (by first | decide | omega)
          have q383 : h325 78 5 = h237 78 5 := jK 0 f327 rg_78_5_0_1 (by first | decide | omega) (by first | decide | omega) (by decide)
          have q384 : h237 78 5 = h222 78 5 := by rw [← e239]; exact x_up_i (by first | decide | omega)
          have q385 : h222 78 5 = h151 78 5 := jK 0 f224 rg_78_5_0_1 (by first | decide | omega) (by first | decide | omega) (by decide)
          have q386 : h151 78 5 = h87 78 5 := jK 0 f153 rg_78_5_0_1 (by first | decide | omega) (by first | decide | omega) (by decide)
          have q387 : h87 78 5 = h70 78 5 := by rw [← e89]; exact x_up_i (by first | decide | omega)
          have q388 : h70 78 5 = h38 78 5 := jK 0 f72 rg_78_5_0_1 (by first | decide | omega) (by first | decide | omega) (by decide)
          have q389 : h38 78 5 = h14 78 5 := by rw [← e40]; exact x_up_i (by first | decide | omega)
          have q390 : h14 78 5 = h 78 5 := jK 0 f16 rg_78_5_0_1 (by first | decide | omega) (by first | decide | omega) (by decide)
          have w391 : ¬ Wd tB tN 10 (sk tB tN (h 75 7)) := by rw [← c21]; exact Wd.no (by decide) (Is.no c33 (by first | decide | omega)) c22
          have q392 : h38 75 7 = h14 75 7 := by rw [← e40]; exact x_up_k (by decide)
          have q393 : h38 75 9 = h14 75 9 := by rw [← e40]; exact x_up_k (by decide)
          have c394 : Is (Wm tB 9 (h14 75 9) (h14 75 7)) v47 := by rw [show h14 75 9 = h38 75 9 by first | decide | omega, show h14 75 7 = h38 75 7 by first | decide | omega]; exact c52
          have y395 := Is.yes c394 (by first | decide | omega)
          have w396 : Wd tB tN 9 (sk tB tN (h 75 7)) := by rw [← c21]; exact Wd.of' (by decide) y395 c22
          have e397 : sk tB tN (h14 75 7) = sk tB tN ((sk tB tN (h 75 7)) + iv_tl 9) := by rw [← c21, ← y395.1]
          have q398 : h38 75 7 = h14 75 7 := by rw [← e40]; exact x_up_k (by decide)
          have q399 : h87 75 7 = h70 75 7 := by rw [← e89]; exact x_up_k (by decide)
          obtain ⟨w400, e401⟩ := Tw.yes c157 (by first | decide | omega)
          have q402 : h237 75 7 = h222 75 7 := by rw [← e239]; exact x_up_k (by decide)
          have w403 : ¬ Wd tB tN 10 (sk tB tN (h 75 7)) := by rw [← c21]; exact Wd.no (by decide) (Is.no c33 (by first | decide | omega)) c22
          have q404 : h38 75 7 = h14 75 7 := by rw [← e40]; exact x_up_k (by decide)
          have q405 : h38 75 9 = h14 75 9 := by rw [← e40]; exact x_up_k (by decide)
          have c406 : Is (Wm tB 9 (h14 75 9) (h14 75 7)) v47 := by rw [show h14 75 9 = h38 75 9 by first | decide | omega, show h14 75 7 = h38 75 7 by first | decide | omega]; exact c52
          have y407 := Is.yes c406 (by first | decide | omega)
          have w408 : Wd tB tN 9 (sk tB tN (h 75 7)) := by rw [← c21]; exact Wd.of' (by decide) y407 c22
          have e409 : sk tB tN (h14 75 7) = sk tB tN ((sk tB tN (h 75 7)) + iv_tl 9) := by rw [← c21, ← y407.1]
          have q410 : h38 75 7 = h14 75 7 := by rw [← e40]; exact x_up_k (by decide)
          have q411 : h87 75 7 = h70 75 7 := by rw [← e89]; exact x_up_k (by decide)
          obtain ⟨w412, e413⟩ := Tw.yes c157 (by first | decide | omega)
          have q414 : h237 75 7 = h222 75 7 := by rw [← e239]; exact x_up_k (by decide)
          refine x_retI (np := 156) (x := 0) (by decide +kernel) (by decide) (Or.inr ⟨by decide +kernel, by first | decide | omega, by first | decide | omega⟩) ⟨_, rfl, (by decide), ?_⟩
          exact ⟨j326, f333, (by first | decide | omega), (fun z => by first | decide | omega), (fun z => by first | decide | omega), (fun z => by first | decide | omega), (fun z => by first | decide | omega), (fun z => by first | decide | omega), (fun z => by first | decide | omega), (fun z => absurd z (by first | decide | omega)), (Or.inr ⟨by first | decide | omega, (or9.y w396 rfl e397 rfl (nm9.y c79 (by first | decide | omega) (by first | decide | omega) (congrArg (sk tB tN) (show h38 75 7 = h14 75 7 by first | decide | omega)) (by first | decide | omega) rfl (wd9.y w400 (congrArg (sk tB tN) (show h87 75 7 = h70 75 7 by first | decide | omega)) e401 rfl (nm9.y c231 (by first | decide | omega) (by first | decide | omega) rfl (by first | decide | omega) rfl (wd9.f (Tw.no c331 (by first | decide | omega)) (congrArg (sk tB tN) (show h237 75 7 = h222 75 7 by first | decide | omega)) (by first | decide | omega))))))⟩), (fun _ => Or.inr ⟨by first | decide | omega, (oF.y w408 rfl e409 rfl (mF.y c79 (by first | decide | omega) (by first | decide | omega) (congrArg (sk tB tN) (show h38 75 7 = h14 75 7 by first | decide | omega)) (by first | decide | omega) rfl (wF.y w412 (congrArg (sk tB tN) (show h87 75 7 = h70 75 7 by first | decide | omega)) e413 rfl (mF.y c231 (by first | decide | omega) (by first | decide | omega) rfl (by first | decide | omega) rfl (wF.no (Tw.no c331 (by first | decide | omega)) (congrArg (sk tB tN) (show h237 75 7 = h222 75 7 by first | decide | omega)) c332)))))⟩)⟩
        have q338 : ¬ (v320 = 2147483648) := q338
        have b415 := c330 (by first | decide | omega)
        refine x_aload (np := 110) (x := 0) (by decide +kernel) rfl (x_nc_le (by decide)) ?_
        refine x_iload (np := 111) (x := 1) (by decide +kernel) rfl (by first | decide | omega) ?_
        refine x_const (np := 112) (x := 9223372051887161347) (a := 2147483651) (by decide +kernel) (by decide) (by decide) ?_
        refine x_iadd (np := 113) (x := 0) (v := (2147483851 + 5 * u8)) (by decide +kernel) (by first | decide | omega) (by decide) (by first | decide | omega) (by first | decide | omega) ?_
        refine x_aload (np := 114) (x := 0) (by decide +kernel) rfl (x_nc_le (by decide)) ?_
        have q416 : h325 75 3 = 78 := by have z := jB (e := 3) 0 j326 rg_75_3_0_1 (by decide) (by decide); omega
        refine x_getR (np := 117) (x := 707) (f := 3) (q := 78) (by decide +kernel) (by decide) (by decide +kernel) q416 ?_
        refine x_iload (np := 118) (x := 1) (by decide +kernel) rfl (by first | decide | omega) ?_
        refine x_const (np := 119) (x := 9223372047592194050) (a := 2147483650) (by decide +kernel) (by decide) (by decide) ?_
        refine x_iadd (np := 120) (x := 0) (v := (2147483850 + 5 * u8)) (by decide +kernel) (by first | decide | omega) (by decide) (by first | decide | omega) (by first | decide | omega) ?_
        have q417 : h325 78 (202 + 5 * u8) = h237 78 (202 + 5 * u8) := jK u8 f327 rg_78_202_5_10 (by first | decide | omega) (by first | decide | omega) (by decide)
        have q418 : h237 78 (202 + 5 * u8) = v218 := by rw [← e239]; exact x_up_at
        refine x_aldC (np := 121) (x := 0) (n := 290) (i := (202 + 5 * u8)) (q := v218) (by decide +kernel) (by decide +kernel) (by first | decide | omega) (by first | decide | omega) (by decide) (q417.trans q418) (fun l419 => ?_)
        refine x_nI (t := 6) (mj := 178) (n := 3) (rc := 12) (ml := 3) (nr := 0) (np := 124) (as := [x_r 75, iv_c (2147483851 + 5 * u8), iv_c v218]) (rest := []) (lo1 := [x_r 75, iv_c (2147483851 + 5 * u8), iv_c v218]) (by decide +kernel) (by decide) (by decide +kernel) (x_rb_of (by decide +kernel)) rfl rfl (x_wr (by decide) (x_wi (by first | decide | omega) (x_wi l219 x_wn))) x_wn (by decide) rfl ?_
        refine x_aload (np := 1) (x := 0) (by decide +kernel) rfl (x_nc_le (by decide)) ?_
        refine x_iload (np := 2) (x := 1) (by decide +kernel) rfl (by first | decide | omega) ?_
        refine x_aload (np := 3) (x := 0) (by decide +kernel) rfl (x_nc_le (by decide)) ?_
        refine x_iload (np := 4) (x := 2) (by decide +kernel) rfl l219 ?_
        refine x_const (np := 6) (x := 9223372086246899723) (a := 2147483659) (by decide +kernel) (by decide) (by decide) ?_
        have m423 := Tq.fr m323 f327 (by decide) (by decide)
        refine x_cI (t := 6) (mj := 174) (n := 3) (rc := 12) (ml := 4) (nr := 2) (np := 9) (as := [x_r 75, iv_c v218, iv_c 2147483659]) (rest := [iv_c (2147483851 + 5 * u8), x_r 75]) (lo1 := [x_r 75, iv_c v218, iv_c 2147483659, 147573952589676412928]) (by decide +kernel) (by decide) (by decide +kernel) (x_rb_of (by decide +kernel)) rfl rfl (x_wr (by decide) (x_wi l219 (x_wi (by decide) x_wn))) (x_wi (by first | decide | omega) (x_wr (by decide) x_wn)) (by decide) rfl (c174_75 j326  (by first | decide | omega) (by first | decide | omega) m423) (fun v420 h424 l421 q422 => ?_)
        obtain ⟨j425, f426, b427, c428, c429, c430, c431, c432, c433, c434⟩ := q422
        have f435 := Fr.trans f333 f426 (by decide)
        have b436 := jB (e := 7) 0 j425 rg_75_7_0_1 (by first | decide | omega) (by first | decide | omega)
        have b437 := c432 (by first | decide | omega)
        refine x_nI (t := 6) (mj := 176) (n := 3) (rc := 12) (ml := 3) (nr := 0) (np := 12) (as := [x_r 75, iv_c (2147483851 + 5 * u8), iv_c v420]) (rest := []) (lo1 := [x_r 75, iv_c (2147483851 + 5 * u8), iv_c v420]) (by decide +kernel) (by decide) (by decide +kernel) (x_rb_of (by decide +kernel)) rfl rfl (x_wr (by decide) (x_wi (by first | decide | omega) (x_wi l421 x_wn))) x_wn (by decide) rfl ?_
        refine x_aload (np := 1) (x := 0) (by decide +kernel) rfl (x_nc_le (by decide)) ?_
        have q438 : h424 75 3 = 78 := by have z := jB (e := 3) 0 j425 rg_75_3_0_1 (by decide) (by decide); omega
        refine x_getR (np := 4) (x := 707) (f := 3) (q := 78) (by decide +kernel) (by decide) (by decide +kernel) q438 ?_
        refine x_iload (np := 5) (x := 1) (by decide +kernel) rfl (by first | decide | omega) ?_
        refine x_iload (np := 6) (x := 2) (by decide +kernel) rfl l421 ?_
        refine x_ast (np := 7) (x := 0) (kd := 1) (n := 290) (i := (203 + 5 * u8)) (by decide +kernel) (Or.inl rfl) (by decide +kernel) (by first | decide | omega) (by first | decide | omega) (by decide) l421 (fun z => absurd z (by decide)) ?_
        have j440 := jU (e := (203 + 5 * u8)) (v := v420) u8 j425 rg_78_203_5_10 (by first | decide | omega) (by first | decide | omega) (by first | decide | omega)
        have f442 := jF (e := (203 + 5 * u8)) (v := v420) u8 f435 rg_78_203_5_10 (by first | decide | omega) (by first | decide | omega) (by decide)
        generalize e441 : x_up h424 78 (203 + 5 * u8) v420 = h439 at j440 f442 ⊢
        refine x_iload (np := 8) (x := 2) (by decide +kernel) rfl l421 ?_
        refine x_ifz (k := 2) (tg := 15) (np := 11) (by decide +kernel) (by decide) l421 (fun q443 => ?_) (fun q444 => ?_)
        · have q443 : v420 < 2147483648 := q443
          refine x_const (np := 16) (x := 9223372039002259456) (a := 2147483648) (by decide +kernel) (by decide) (by decide) ?_
          refine x_retI (np := 17) (x := 0) (by decide +kernel) (by decide) (Or.inr ⟨by decide +kernel, by first | decide | omega, by first | decide | omega⟩) ⟨_, rfl, (by decide), ?_⟩
          refine x_retI (np := 13) (x := 0) (by decide +kernel) (by decide) (Or.inr ⟨by decide +kernel, by first | decide | omega, by first | decide | omega⟩) ⟨_, rfl, (by decide), ?_⟩
          refine x_ifz (k := 0) (tg := 154) (np := 127) (by decide +kernel) (by decide) (by decide) (fun q445 => ?_) (fun q446 => ?_)
          · have q445 : 2147483648 = 2147483648 := q445
            refine x_const (np := 155) (x := 9223372039002259456) (a := 2147483648) (by decide +kernel) (by decide) (by decide) ?_
            have b447 := jB (e := 0) 0 hJ rg_78_0_0_1 (by first | decide | omega) (by first | decide | omega)
            have q448 : h439 78 0 = h424 78 0 := by rw [← e441]; exact x_up_i (by first | decide | omega)
            have q449 : h424 78 0 = h325 78 0 := jK 0 f426 rg_78_0_0_1 (by first | decide | omega) (by first | decide | omega) (by decide)
            have q450 : h325 78 0 = h237 78 0 := jK 0 f327 rg_78_0_0_1 (by first | decide | omega) (by first | decide | omega) (by decide)
            have q451 : h237 78 0 = h222 78 0 := by rw [← e239]; exact x_up_i (by first | decide | omega)
            have q452 : h222 78 0 = h151 78 0 := jK 0 f224 rg_78_0_0_1 (by first | decide | omega) (by first | decide | omega) (by decide)
            have q453 : h151 78 0 = h87 78 0 := jK 0 f153 rg_78_0_0_1 (by first | decide | omega) (by first | decide | omega) (by decide)
            have q454 : h87 78 0 = h70 78 0 := by rw [← e89]; exact x_up_i (by first | decide | omega)
            have q455 : h70 78 0 = h38 78 0 := jK 0 f72 rg_78_0_0_1 (by first | decide | omega) (by first | decide | omega) (by decide)
            have q456 : h38 78 0 = h14 78 0 := by rw [← e40]; exact x_up_i (by first | decide | omega)
            have q457 : h14 78 0 = h 78 0 := jK 0 f16 rg_78_0_0_1 (by first | decide | omega) (by first | decide | omega) (by decide)
            have q458 : h439 78 1 = h424 78 1 := by rw [← e441]; exact x_up_i (by first | decide | omega)
            have q459 : h424 78 1 = h325 78 1 := jK 0 f426 rg_78_1_0_1 (by first | decide | omega) (by first | decide | omega) (by decide)
            have q460 : h325 78 1 = h237 78 1 := jK 0 f327 rg_78_1_0_1 (by first | decide | omega) (by first | decide | omega) (by decide)
            have q461 : h237 78 1 = h222 78 1 := by rw [← e239]; exact x_up_i (by first | decide | omega)
            have q462 : h222 78 1 = h151 78 1 := jK 0 f224 rg_78_1_0_1 (by first | decide | omega) (by first | decide | omega) (by decide)
            have q463 : h151 78 1 = h87 78 1 := jK 0 f153 rg_78_1_0_1 (by first | decide | omega) (by first | decide | omega) (by decide)
            have q464 : h87 78 1 = h70 78 1 := by rw [← e89]; exact x_up_i (by first | decide | omega)
            have q465 : h70 78 1 = h38 78 1 := jK 0 f72 rg_78_1_0_1 (by first | decide | omega) (by first | decide | omega) (by decide)
            have q466 : h38 78 1 = h14 78 1 := by rw [← e40]; exact x_up_i (by first | decide | omega)
            have q467 : h14 78 1 = h 78 1 := jK 0 f16 rg_78_1_0_1 (by first | decide | omega) (by first | decide | omega) (by decide)
            have b468 := jB (e := 2) 0 hJ rg_78_2_0_1 (by first | decide | omega) (by first | decide | omega)
            have q469 : h439 78 2 = h424 78 2 := by rw [← e441]; exact x_up_i (by first | decide | omega)
            have q470 : h424 78 2 = h325 78 2 := jK 0 f426 rg_78_2_0_1 (by first | decide | omega) (by first | decide | omega) (by decide)
            have q471 : h325 78 2 = h237 78 2 := jK 0 f327 rg_78_2_0_1 (by first | decide | omega) (by first | decide | omega) (by decide)
            have q472 : h237 78 2 = h222 78 2 := by rw [← e239]; exact x_up_i (by first | decide | omega)
            have q473 : h222 78 2 = h151 78 2 := jK 0 f224 rg_78_2_0_1 (by first | decide | omega) (by first | decide | omega) (by decide)
            have q474 : h151 78 2 = h87 78 2 := jK 0 f153 rg_78_2_0_1 (by first | decide | omega) (by first | decide | omega) (by decide)
            have q475 : h87 78 2 = h70 78 2 := by rw [← e89]; exact x_up_i (by first | decide | omega)
            have q476 : h70 78 2 = h38 78 2 := jK 0 f72 rg_78_2_0_1 (by first | decide | omega) (by first | decide | omega) (by decide)
            have q477 : h38 78 2 = h14 78 2 := by rw [← e40]; exact x_up_i (by first | decide | omega)
            have q478 : h14 78 2 = h 78 2 := jK 0 f16 rg_78_2_0_1 (by first | decide | omega) (by first | decide | omega) (by decide)
            have b479 := jB (e := 3) 0 hJ rg_78_3_0_1 (by first | decide | omega) (by first | decide | omega)
            have q480 : h439 78 3 = h424 78 3 := by rw [← e441]; exact x_up_i (by first | decide | omega)
            have q481 : h424 78 3 = h325 78 3 := jK 0 f426 rg_78_3_0_1 (by first | decide | omega) (by first | decide | omega) (by decide)
            have q482 : h325 78 3 = h237 78 3 := jK 0 f327 rg_78_3_0_1 (by first | decide | omega) (by first | decide | omega) (by decide)
            have q483 : h237 78 3 = h222 78 3 := by rw [← e239]; exact x_up_i (by first | decide | omega)
            have q484 : h222 78 3 = h151 78 3 := jK 0 f224 rg_78_3_0_1 (by first | decide | omega) (by first | decide | omega) (by decide)
            have q485 : h151 78 3 = h87 78 3 := jK 0 f153 rg_78_3_0_1 (by first | decide | omega) (by first | decide | omega) (by decide)
            have q486 : h87 78 3 = h70 78 3 := by rw [← e89]; exact x_up_i (by first | decide | omega)
            have q487 : h70 78 3 = h38 78 3 := jK 0 f72 rg_78_3_0_1 (by first | decide | omega) (by first | decide | omega) (by decide)
            have q488 : h38 78 3 = h14 78 3 := by rw [← e40]; exact x_up_i (by first | decide | omega)
            have q489 : h14 78 3 = h 78 3 := jK 0 f16 rg_78_3_0_1 (by first | decide | omega) (by first | decide | omega) (by decide)
            have q490 : h439 78 4 = h424 78 4 := by rw [← e441]; exact x_up_i (by first | decide | omega)
            have q491 : h424 78 4 = h325 78 4 := jK 0 f426 rg_78_4_0_1 (by first | decide | omega) (by first | decide | omega) (by decide)
            have q492 : h325 78 4 = h237 78 4 := jK 0 f327 rg_78_4_0_1 (by first | decide | omega) (by first | decide | omega) (by decide)
            have q493 : h237 78 4 = h222 78 4 := by rw [← e239]; exact x_up_i (by first | decide | omega)
            have q494 : h222 78 4 = h151 78 4 := jK 0 f224 rg_78_4_0_1 (by first | decide | omega) (by first | decide | omega) (by decide)
            have q495 : h151 78 4 = h87 78 4 := jK 0 f153 rg_78_4_0_1 (by first | decide | omega) (by first | decide | omega) (by decide)
            have q496 : h87 78 4 = h70 78 4 := by rw [← e89]; exact x_up_i (by first | decide | omega)
            have q497 : h70 78 4 = h38 78 4 := jK 0 f72 rg_78_4_0_1 (by first | decide | omega) (by first | decide | omega) (by decide)
            have q498 : h38 78 4 = h14 78 4 := by rw [← e40]; exact x_up_i (by first | decide | omega)
            have q499 : h14 78 4 = h 78 4 := jK 0 f16 rg_78_4_0_1 (by first | decide | omega) (by first | decide | omega) (by decide)
            have b500 := jB (e := 5) 0 hJ rg_78_5_0_1 (by first | decide | omega) (by first | decide | omega)
            have q501 : h439 78 5 = h424 78 5 := by rw [← e441]; exact x_up_i (by first | decide | omega)
            have q502 : h424 78 5 = h325 78 5 := jK 0 f426 rg_78_5_0_1 (by first | decide | omega) (by first | decide | omega) (by decide)
            have q503 : h325 78 5 = h237 78 5 := jK 0 f327 rg_78_5_0_1 (by first | decide | omega) (by first | decide | omega) (by decide)
            have q504 : h237 78 5 = h222 78 5 := by rw [← e239]; exact x_up_i (by first | decide | omega)
            have q505 : h222 78 5 = h151 78 5 := jK 0 f224 rg_78_5_0_1 (by first | decide | omega) (by first | decide | omega) (by decide)
            have q506 : h151 78 5 = h87 78 5 := jK 0 f153 rg_78_5_0_1 (by first | decide | omega) (by first | decide | omega) (by decide)
            have q507 : h87 78 5 = h70 78 5 := by rw [← e89]; exact x_up_i (by first | decide | omega)
            have q508 : h70 78 5 = h38 78 5 := jK 0 f72 rg_78_5_0_1 (by first | decide | omega) (by first | decide | omega) (by decide)
            have q509 : h38 78 5 = h14 78 5 := by rw [← e40]; exact x_up_i (by first | decide | omega)
            have q510 : h14 78 5 = h 78 5 := jK 0 f16 rg_78_5_0_1 (by first | decide | omega) (by first | decide | omega) (by decide)
            have w511 : ¬ Wd tB tN 10 (sk tB tN (h 75 7)) := by rw [← c21]; exact Wd.no (by decide) (Is.no c33 (by first | decide | omega)) c22
            have q512 : h38 75 7 = h14 75 7 := by rw [← e40]; exact x_up_k (by decide)
            have q513 : h38 75 9 = h14 75 9 := by rw [← e40]; exact x_up_k (by decide)
            have c514 : Is (Wm tB 9 (h14 75 9) (h14 75 7)) v47 := by rw [show h14 75 9 = h38 75 9 by first | decide | omega, show h14 75 7 = h38 75 7 by first | decide | omega]; exact c52
            have y515 := Is.yes c514 (by first | decide | omega)
            have w516 : Wd tB tN 9 (sk tB tN (h 75 7)) := by rw [← c21]; exact Wd.of' (by decide) y515 c22
            have e517 : sk tB tN (h14 75 7) = sk tB tN ((sk tB tN (h 75 7)) + iv_tl 9) := by rw [← c21, ← y515.1]
            have q518 : h38 75 7 = h14 75 7 := by rw [← e40]; exact x_up_k (by decide)
            have q519 : h87 75 7 = h70 75 7 := by rw [← e89]; exact x_up_k (by decide)
            obtain ⟨w520, e521⟩ := Tw.yes c157 (by first | decide | omega)
            have q522 : h237 75 7 = h222 75 7 := by rw [← e239]; exact x_up_k (by decide)
            obtain ⟨w523, e524⟩ := Tw.yes c331 (by first | decide | omega)
            have w525 : ¬ Wd tB tN 10 (sk tB tN (h 75 7)) := by rw [← c21]; exact Wd.no (by decide) (Is.no c33 (by first | decide | omega)) c22
            have q526 : h38 75 7 = h14 75 7 := by rw [← e40]; exact x_up_k (by decide)
            have q527 : h38 75 9 = h14 75 9 := by rw [← e40]; exact x_up_k (by decide)
            have c528 : Is (Wm tB 9 (h14 75 9) (h14 75 7)) v47 := by rw [show h14 75 9 = h38 75 9 by first | decide | omega, show h14 75 7 = h38 75 7 by first | decide | omega]; exact c52
            have y529 := Is.yes c528 (by first | decide | omega)
            have w530 : Wd tB tN 9 (sk tB tN (h 75 7)) := by rw [← c21]; exact Wd.of' (by decide) y529 c22
            have e531 : sk tB tN (h14 75 7) = sk tB tN ((sk tB tN (h 75 7)) + iv_tl 9) := by rw [← c21, ← y529.1]
            have q532 : h38 75 7 = h14 75 7 := by rw [← e40]; exact x_up_k (by decide)
            have q533 : h87 75 7 = h70 75 7 := by rw [← e89]; exact x_up_k (by decide)
            obtain ⟨w534, e535⟩ := Tw.yes c157 (by first | decide | omega)
            have q536 : h237 75 7 = h222 75 7 := by rw [← e239]; exact x_up_k (by decide)
            obtain ⟨w537, e538⟩ := Tw.yes c331 (by first | decide | omega)
            have q539 : h439 75 9 = h424 75 9 := by rw [← e441]; exact x_up_k (by decide)
            have b540 := jB (e := 9) 0 j425 rg_75_9_0_1 (by first | decide | omega) (by first | decide | omega)
            refine x_retI (np := 156) (x := 0) (by decide +kernel) (by decide) (Or.inr ⟨by decide +kernel, by first | decide | omega, by first | decide | omega⟩) ⟨_, rfl, (by decide), ?_⟩
            exact ⟨j440, f442, (by first | decide | omega), (fun z => by first | decide | omega), (fun z => by first | decide | omega), (fun z => by first | decide | omega), (fun z => by first | decide | omega), (fun z => by first | decide | omega), (fun z => by first | decide | omega), (fun z => absurd z (by first | decide | omega)), (Or.inr ⟨by first | decide | omega, (or9.y w516 rfl e517 rfl (nm9.y c79 (by first | decide | omega) (by first | decide | omega) (congrArg (sk tB tN) (show h38 75 7 = h14 75 7 by first | decide | omega)) (by first | decide | omega) rfl (wd9.y w520 (congrArg (sk tB tN) (show h87 75 7 = h70 75 7 by first | decide | omega)) e521 rfl (nm9.y c231 (by first | decide | omega) (by first | decide | omega) rfl (by first | decide | omega) rfl (wd9.y w523 (congrArg (sk tB tN) (show h237 75 7 = h222 75 7 by first | decide | omega)) e524 rfl (nm9.f c433 (by first | decide | omega) (by first | decide | omega) rfl (by first | decide | omega) (by first | decide | omega)))))))⟩), (fun _ => Or.inr ⟨by first | decide | omega, (oF.y w530 rfl e531 rfl (mF.y c79 (by first | decide | omega) (by first | decide | omega) (congrArg (sk tB tN) (show h38 75 7 = h14 75 7 by first | decide | omega)) (by first | decide | omega) rfl (wF.y w534 (congrArg (sk tB tN) (show h87 75 7 = h70 75 7 by first | decide | omega)) e535 rfl (mF.y c231 (by first | decide | omega) (by first | decide | omega) rfl (by first | decide | omega) rfl (wF.y w537 (congrArg (sk tB tN) (show h237 75 7 = h222 75 7 by first | decide | omega)) e538 rfl (mF.no c433 (by first | decide | omega) (by first | decide | omega) rfl (by first | decide | omega) (Eq.trans (show h439 75 9 = h424 75 9 by first | decide | omega) c434)))))))⟩)⟩
          have q446 : ¬ (2147483648 = 2147483648) := q446
          exfalso; omega
        have q444 : ¬ (v420 < 2147483648) := q444
        have b541 := c429 (by first | decide | omega)
        have b542 := c430 (by first | decide | omega)
        have b543 := c431 (by first | decide | omega)
        refine x_const (np := 12) (x := 9223372043297226753) (a := 2147483649) (by decide +kernel) (by decide) (by decide) ?_
        refine x_goto (np := 15) (x := 16) (by decide +kernel) ?_
        refine x_retI (np := 17) (x := 0) (by decide +kernel) (by decide) (Or.inr ⟨by decide +kernel, by first | decide | omega, by first | decide | omega⟩) ⟨_, rfl, (by decide), ?_⟩
        refine x_retI (np := 13) (x := 0) (by decide +kernel) (by decide) (Or.inr ⟨by decide +kernel, by first | decide | omega, by first | decide | omega⟩) ⟨_, rfl, (by decide), ?_⟩
        refine x_ifz (k := 0) (tg := 154) (np := 127) (by decide +kernel) (by decide) (by decide) (fun q544 => ?_) (fun q545 => ?_)
        · have q544 : 2147483649 = 2147483648 := q544
          exfalso; omega
        have q545 : ¬ (2147483649 = 2147483648) := q545
        refine x_aload (np := 128) (x := 0) (by decide +kernel) rfl (x_nc_le (by decide)) ?_
        refine x_ldcB (i := 12) (idx := 175) (tx := "of") (by rw [tb_y184]; exact List.mem_of_getElem? (i := 51) rfl) (by decide) (by rw [tb_b184]; decide +kernel) ?_
        have m550 := Tq.fr m423 f426 (by decide) (by decide)
        have m549 : Tq tB tN h439 := by rw [← e441]; exact Tq.oth m550 (by decide) (fun z => absurd z.1 (by decide))
        refine x_cI (t := 6) (mj := 172) (n := 2) (rc := 12) (ml := 2) (nr := 0) (np := 133) (as := [x_r 75, x_b (12 + 1)]) (rest := []) (lo1 := [x_r 75, x_b (12 + 1)]) (by decide +kernel) (by decide) (by decide +kernel) (x_rb_of (by decide +kernel)) rfl rfl (x_wr (by decide) (x_wB (by decide) x_wn)) x_wn (by decide) rfl (c172_75_S0 j440  (by decide) m549) (fun v546 h551 l547 q548 => ?_)
        obtain ⟨j552, f553, b554, c555, c556, c557, c558⟩ := q548
        have f559 := Fr.trans f442 f553 (by decide)
        have q560 : h439 75 7 = h424 75 7 := by rw [← e441]; exact x_up_k (by decide)
        have b561 := jB (e := 7) 0 j552 rg_75_7_0_1 (by first | decide | omega) (by first | decide | omega)
        have q562 : h439 75 7 = h424 75 7 := by rw [← e441]; exact x_up_k (by decide)
        refine x_ifz (k := 0) (tg := 154) (np := 136) (by decide +kernel) (by decide) l547 (fun q563 => ?_) (fun q564 => ?_)
        · have q563 : v546 = 2147483648 := q563
          refine x_const (np := 155) (x := 9223372039002259456) (a := 2147483648) (by decide +kernel) (by decide) (by decide) ?_
          have b565 := jB (e := 0) 0 hJ rg_78_0_0_1 (by first | decide | omega) (by first | decide | omega)
          have q566 : h551 78 0 = h439 78 0 := jK 0 f553 rg_78_0_0_1 (by first | decide | omega) (by first | decide | omega) (by decide)
          have q567 : h439 78 0 = h424 78 0 := by rw [← e441]; exact x_up_i (by first | decide | omega)
          have q568 : h424 78 0 = h325 78 0 := jK 0 f426 rg_78_0_0_1 (by first | decide | omega) (by first | decide | omega) (by decide)
          have q569 : h325 78 0 = h237 78 0 := jK 0 f327 rg_78_0_0_1 (by first | decide | omega) (by first | decide | omega) (by decide)
          have q570 : h237 78 0 = h222 78 0 := by rw [← e239]; exact x_up_i (by first | decide | omega)
          have q571 : h222 78 0 = h151 78 0 := jK 0 f224 rg_78_0_0_1 (by first | decide | omega) (by first | decide | omega) (by decide)
          have q572 : h151 78 0 = h87 78 0 := jK 0 f153 rg_78_0_0_1 (by first | decide | omega) (by first | decide | omega) (by decide)
          have q573 : h87 78 0 = h70 78 0 := by rw [← e89]; exact x_up_i (by first | decide | omega)
          have q574 : h70 78 0 = h38 78 0 := jK 0 f72 rg_78_0_0_1 (by first | decide | omega) (by first | decide | omega) (by decide)
          have q575 : h38 78 0 = h14 78 0 := by rw [← e40]; exact x_up_i (by first | decide | omega)
          have q576 : h14 78 0 = h 78 0 := jK 0 f16 rg_78_0_0_1 (by first | decide | omega) (by first | decide | omega) (by decide)
          have q577 : h551 78 1 = h439 78 1 := jK 0 f553 rg_78_1_0_1 (by first | decide | omega) (by first | decide | omega) (by decide)
          have q578 : h439 78 1 = h424 78 1 := by rw [← e441]; exact x_up_i (by first | decide | omega)
          have q579 : h424 78 1 = h325 78 1 := jK 0 f426 rg_78_1_0_1 (by first | decide | omega) (by first | decide | omega) (by decide)
          have q580 : h325 78 1 = h237 78 1 := jK 0 f327 rg_78_1_0_1 (by first | decide | omega) (by first | decide | omega) (by decide)
          have q581 : h237 78 1 = h222 78 1 := by rw [← e239]; exact x_up_i (by first | decide | omega)
          have q582 : h222 78 1 = h151 78 1 := jK 0 f224 rg_78_1_0_1 (by first | decide | omega) (by first | decide | omega) (by decide)
          have q583 : h151 78 1 = h87 78 1 := jK 0 f153 rg_78_1_0_1 (by first | decide | omega) (by first | decide | omega) (by decide)
          have q584 : h87 78 1 = h70 78 1 := by rw [← e89]; exact x_up_i (by first | decide | omega)
          have q585 : h70 78 1 = h38 78 1 := jK 0 f72 rg_78_1_0_1 (by first | decide | omega) (by first | decide | omega) (by decide)
          have q586 : h38 78 1 = h14 78 1 := by rw [← e40]; exact x_up_i (by first | decide | omega)
          have q587 : h14 78 1 = h 78 1 := jK 0 f16 rg_78_1_0_1 (by first | decide | omega) (by first | decide | omega) (by decide)
          have b588 := jB (e := 2) 0 hJ rg_78_2_0_1 (by first | decide | omega) (by first | decide | omega)
          have q589 : h551 78 2 = h439 78 2 := jK 0 f553 rg_78_2_0_1 (by first | decide | omega) (by first | decide | omega) (by decide)
          have q590 : h439 78 2 = h424 78 2 := by rw [← e441]; exact x_up_i (by first | decide | omega)
          have q591 : h424 78 2 = h325 78 2 := jK 0 f426 rg_78_2_0_1 (by first | decide | omega) (by first | decide | omega) (by decide)
          have q592 : h325 78 2 = h237 78 2 := jK 0 f327 rg_78_2_0_1 (by first | decide | omega) (by first | decide | omega) (by decide)
          have q593 : h237 78 2 = h222 78 2 := by rw [← e239]; exact x_up_i (by first | decide | omega)
          have q594 : h222 78 2 = h151 78 2 := jK 0 f224 rg_78_2_0_1 (by first | decide | omega) (by first | decide | omega) (by decide)
          have q595 : h151 78 2 = h87 78 2 := jK 0 f153 rg_78_2_0_1 (by first | decide | omega) (by first | decide | omega) (by decide)
          have q596 : h87 78 2 = h70 78 2 := by rw [← e89]; exact x_up_i (by first | decide | omega)
          have q597 : h70 78 2 = h38 78 2 := jK 0 f72 rg_78_2_0_1 (by first | decide | omega) (by first | decide | omega) (by decide)
          have q598 : h38 78 2 = h14 78 2 := by rw [← e40]; exact x_up_i (by first | decide | omega)
          have q599 : h14 78 2 = h 78 2 := jK 0 f16 rg_78_2_0_1 (by first | decide | omega) (by first | decide | omega) (by decide)
          have b600 := jB (e := 3) 0 hJ rg_78_3_0_1 (by first | decide | omega) (by first | decide | omega)
          have q601 : h551 78 3 = h439 78 3 := jK 0 f553 rg_78_3_0_1 (by first | decide | omega) (by first | decide | omega) (by decide)
          have q602 : h439 78 3 = h424 78 3 := by rw [← e441]; exact x_up_i (by first | decide | omega)
          have q603 : h424 78 3 = h325 78 3 := jK 0 f426 rg_78_3_0_1 (by first | decide | omega) (by first | decide | omega) (by decide)
          have q604 : h325 78 3 = h237 78 3 := jK 0 f327 rg_78_3_0_1 (by first | decide | omega) (by first | decide | omega) (by decide)
          have q605 : h237 78 3 = h222 78 3 := by rw [← e239]; exact x_up_i (by first | decide | omega)
          have q606 : h222 78 3 = h151 78 3 := jK 0 f224 rg_78_3_0_1 (by first | decide | omega) (by first | decide | omega) (by decide)
          have q607 : h151 78 3 = h87 78 3 := jK 0 f153 rg_78_3_0_1 (by first | decide | omega) (by first | decide | omega) (by decide)
          have q608 : h87 78 3 = h70 78 3 := by rw [← e89]; exact x_up_i (by first | decide | omega)
          have q609 : h70 78 3 = h38 78 3 := jK 0 f72 rg_78_3_0_1 (by first | decide | omega) (by first | decide | omega) (by decide)
          have q610 : h38 78 3 = h14 78 3 := by rw [← e40]; exact x_up_i (by first | decide | omega)
          have q611 : h14 78 3 = h 78 3 := jK 0 f16 rg_78_3_0_1 (by first | decide | omega) (by first | decide | omega) (by decide)
          have q612 : h551 78 4 = h439 78 4 := jK 0 f553 rg_78_4_0_1 (by first | decide | omega) (by first | decide | omega) (by decide)
          have q613 : h439 78 4 = h424 78 4 := by rw [← e441]; exact x_up_i (by first | decide | omega)
          have q614 : h424 78 4 = h325 78 4 := jK 0 f426 rg_78_4_0_1 (by first | decide | omega) (by first | decide | omega) (by decide)
          have q615 : h325 78 4 = h237 78 4 := jK 0 f327 rg_78_4_0_1 (by first | decide | omega) (by first | decide | omega) (by decide)
          have q616 : h237 78 4 = h222 78 4 := by rw [← e239]; exact x_up_i (by first | decide | omega)
          have q617 : h222 78 4 = h151 78 4 := jK 0 f224 rg_78_4_0_1 (by first | decide | omega) (by first | decide | omega) (by decide)
          have q618 : h151 78 4 = h87 78 4 := jK 0 f153 rg_78_4_0_1 (by first | decide | omega) (by first | decide | omega) (by decide)
          have q619 : h87 78 4 = h70 78 4 := by rw [← e89]; exact x_up_i (by first | decide | omega)
          have q620 : h70 78 4 = h38 78 4 := jK 0 f72 rg_78_4_0_1 (by first | decide | omega) (by first | decide | omega) (by decide)
          have q621 : h38 78 4 = h14 78 4 := by rw [← e40]; exact x_up_i (by first | decide | omega)
          have q622 : h14 78 4 = h 78 4 := jK 0 f16 rg_78_4_0_1 (by first | decide | omega) (by first | decide | omega) (by decide)
          have b623 := jB (e := 5) 0 hJ rg_78_5_0_1 (by first | decide | omega) (by first | decide | omega)
          have q624 : h551 78 5 = h439 78 5 := jK 0 f553 rg_78_5_0_1 (by first | decide | omega) (by first | decide | omega) (by decide)
          have q625 : h439 78 5 = h424 78 5 := by rw [← e441]; exact x_up_i (by first | decide | omega)
          have q626 : h424 78 5 = h325 78 5 := jK 0 f426 rg_78_5_0_1 (by first | decide | omega) (by first | decide | omega) (by decide)
          have q627 : h325 78 5 = h237 78 5 := jK 0 f327 rg_78_5_0_1 (by first | decide | omega) (by first | decide | omega) (by decide)
          have q628 : h237 78 5 = h222 78 5 := by rw [← e239]; exact x_up_i (by first | decide | omega)
          have q629 : h222 78 5 = h151 78 5 := jK 0 f224 rg_78_5_0_1 (by first | decide | omega) (by first | decide | omega) (by decide)
          have q630 : h151 78 5 = h87 78 5 := jK 0 f153 rg_78_5_0_1 (by first | decide | omega) (by first | decide | omega) (by decide)
          have q631 : h87 78 5 = h70 78 5 := by rw [← e89]; exact x_up_i (by first | decide | omega)
          have q632 : h70 78 5 = h38 78 5 := jK 0 f72 rg_78_5_0_1 (by first | decide | omega) (by first | decide | omega) (by decide)
          have q633 : h38 78 5 = h14 78 5 := by rw [← e40]; exact x_up_i (by first | decide | omega)
          have q634 : h14 78 5 = h 78 5 := jK 0 f16 rg_78_5_0_1 (by first | decide | omega) (by first | decide | omega) (by decide)
          have w635 : ¬ Wd tB tN 10 (sk tB tN (h 75 7)) := by rw [← c21]; exact Wd.no (by decide) (Is.no c33 (by first | decide | omega)) c22
          have q636 : h38 75 7 = h14 75 7 := by rw [← e40]; exact x_up_k (by decide)
          have q637 : h38 75 9 = h14 75 9 := by rw [← e40]; exact x_up_k (by decide)
          have c638 : Is (Wm tB 9 (h14 75 9) (h14 75 7)) v47 := by rw [show h14 75 9 = h38 75 9 by first | decide | omega, show h14 75 7 = h38 75 7 by first | decide | omega]; exact c52
          have y639 := Is.yes c638 (by first | decide | omega)
          have w640 : Wd tB tN 9 (sk tB tN (h 75 7)) := by rw [← c21]; exact Wd.of' (by decide) y639 c22
          have e641 : sk tB tN (h14 75 7) = sk tB tN ((sk tB tN (h 75 7)) + iv_tl 9) := by rw [← c21, ← y639.1]
          have q642 : h38 75 7 = h14 75 7 := by rw [← e40]; exact x_up_k (by decide)
          have q643 : h87 75 7 = h70 75 7 := by rw [← e89]; exact x_up_k (by decide)
          obtain ⟨w644, e645⟩ := Tw.yes c157 (by first | decide | omega)
          have q646 : h237 75 7 = h222 75 7 := by rw [← e239]; exact x_up_k (by decide)
          obtain ⟨w647, e648⟩ := Tw.yes c331 (by first | decide | omega)
          have q649 : h439 75 7 = h424 75 7 := by rw [← e441]; exact x_up_k (by decide)
          have w650 : ¬ Wd tB tN 10 (sk tB tN (h 75 7)) := by rw [← c21]; exact Wd.no (by decide) (Is.no c33 (by first | decide | omega)) c22
          have q651 : h38 75 7 = h14 75 7 := by rw [← e40]; exact x_up_k (by decide)
          have q652 : h38 75 9 = h14 75 9 := by rw [← e40]; exact x_up_k (by decide)
          have c653 : Is (Wm tB 9 (h14 75 9) (h14 75 7)) v47 := by rw [show h14 75 9 = h38 75 9 by first | decide | omega, show h14 75 7 = h38 75 7 by first | decide | omega]; exact c52
          have y654 := Is.yes c653 (by first | decide | omega)
          have w655 : Wd tB tN 9 (sk tB tN (h 75 7)) := by rw [← c21]; exact Wd.of' (by decide) y654 c22
          have e656 : sk tB tN (h14 75 7) = sk tB tN ((sk tB tN (h 75 7)) + iv_tl 9) := by rw [← c21, ← y654.1]
          have q657 : h38 75 7 = h14 75 7 := by rw [← e40]; exact x_up_k (by decide)
          have q658 : h87 75 7 = h70 75 7 := by rw [← e89]; exact x_up_k (by decide)
          obtain ⟨w659, e660⟩ := Tw.yes c157 (by first | decide | omega)
          have q661 : h237 75 7 = h222 75 7 := by rw [← e239]; exact x_up_k (by decide)
          obtain ⟨w662, e663⟩ := Tw.yes c331 (by first | decide | omega)
          have q664 : h439 75 7 = h424 75 7 := by rw [← e441]; exact x_up_k (by decide)
          refine x_retI (np := 156) (x := 0) (by decide +kernel) (by decide) (Or.inr ⟨by decide +kernel, by first | decide | omega, by first | decide | omega⟩) ⟨_, rfl, (by decide), ?_⟩
          exact ⟨j552, f559, (by first | decide | omega), (fun z => by first | decide | omega), (fun z => by first | decide | omega), (fun z => by first | decide | omega), (fun z => by first | decide | omega), (fun z => by first | decide | omega), (fun z => by first | decide | omega), (fun z => absurd z (by first | decide | omega)), (Or.inr ⟨by first | decide | omega, (or9.y w640 rfl e641 rfl (nm9.y c79 (by first | decide | omega) (by first | decide | omega) (congrArg (sk tB tN) (show h38 75 7 = h14 75 7 by first | decide | omega)) (by first | decide | omega) rfl (wd9.y w644 (congrArg (sk tB tN) (show h87 75 7 = h70 75 7 by first | decide | omega)) e645 rfl (nm9.y c231 (by first | decide | omega) (by first | decide | omega) rfl (by first | decide | omega) rfl (wd9.y w647 (congrArg (sk tB tN) (show h237 75 7 = h222 75 7 by first | decide | omega)) e648 rfl (nm9.y c433 (by first | decide | omega) (by first | decide | omega) rfl (by first | decide | omega) rfl (wd9.f (Tw.no c557 (by first | decide | omega)) (congrArg (sk tB tN) (show h439 75 7 = h424 75 7 by first | decide | omega)) (by first | decide | omega))))))))⟩), (fun _ => Or.inr ⟨by first | decide | omega, (oF.y w655 rfl e656 rfl (mF.y c79 (by first | decide | omega) (by first | decide | omega) (congrArg (sk tB tN) (show h38 75 7 = h14 75 7 by first | decide | omega)) (by first | decide | omega) rfl (wF.y w659 (congrArg (sk tB tN) (show h87 75 7 = h70 75 7 by first | decide | omega)) e660 rfl (mF.y c231 (by first | decide | omega) (by first | decide | omega) rfl (by first | decide | omega) rfl (wF.y w662 (congrArg (sk tB tN) (show h237 75 7 = h222 75 7 by first | decide | omega)) e663 rfl (mF.y c433 (by first | decide | omega) (by first | decide | omega) rfl (by first | decide | omega) rfl (wF.no (Tw.no c557 (by first | decide | omega)) (congrArg (sk tB tN) (show h439 75 7 = h424 75 7 by first | decide | omega)) c558)))))))⟩)⟩
        have q564 : ¬ (v546 = 2147483648) := q564
        have b665 := c556 (by first | decide | omega)
        refine x_aload (np := 137) (x := 0) (by decide +kernel) rfl (x_nc_le (by decide)) ?_
        refine x_iload (np := 138) (x := 1) (by decide +kernel) rfl (by first | decide | omega) ?_
        refine x_const (np := 139) (x := 9223372056182128644) (a := 2147483652) (by decide +kernel) (by decide) (by decide) ?_
        refine x_iadd (np := 140) (x := 0) (v := (2147483852 + 5 * u8)) (by decide +kernel) (by first | decide | omega) (by decide) (by first | decide | omega) (by first | decide | omega) ?_
        refine x_aload (np := 141) (x := 0) (by decide +kernel) rfl (x_nc_le (by decide)) ?_
        refine x_const (np := 142) (x := 9223372039002259456) (a := 2147483648) (by decide +kernel) (by decide) (by decide) ?_
        refine x_const (np := 145) (x := 9223376329674589159) (a := 2147484647) (by decide +kernel) (by decide) (by decide) ?_
        have m669 := Tq.fr m549 f553 (by decide) (by decide)
        refine x_cI (t := 6) (mj := 174) (n := 3) (rc := 12) (ml := 4) (nr := 2) (np := 148) (as := [x_r 75, iv_c 2147483648, iv_c 2147484647]) (rest := [iv_c (2147483852 + 5 * u8), x_r 75]) (lo1 := [x_r 75, iv_c 2147483648, iv_c 2147484647, 147573952589676412928]) (by decide +kernel) (by decide) (by decide +kernel) (x_rb_of (by decide +kernel)) rfl rfl (x_wr (by decide) (x_wi (by decide) (x_wi (by decide) x_wn))) (x_wi (by first | decide | omega) (x_wr (by decide) x_wn)) (by decide) rfl (c174_75 j552  (by first | decide | omega) (by first | decide | omega) m669) (fun v666 h670 l667 q668 => ?_)
        obtain ⟨j671, f672, b673, c674, c675, c676, c677, c678, c679, c680⟩ := q668
        have f681 := Fr.trans f559 f672 (by decide)
        have b682 := jB (e := 7) 0 j671 rg_75_7_0_1 (by first | decide | omega) (by first | decide | omega)
        have b683 := c678 (by first | decide | omega)
        refine x_nI (t := 6) (mj := 176) (n := 3) (rc := 12) (ml := 3) (nr := 0) (np := 151) (as := [x_r 75, iv_c (2147483852 + 5 * u8), iv_c v666]) (rest := []) (lo1 := [x_r 75, iv_c (2147483852 + 5 * u8), iv_c v666]) (by decide +kernel) (by decide) (by decide +kernel) (x_rb_of (by decide +kernel)) rfl rfl (x_wr (by decide) (x_wi (by first | decide | omega) (x_wi l667 x_wn))) x_wn (by decide) rfl ?_
        refine x_aload (np := 1) (x := 0) (by decide +kernel) rfl (x_nc_le (by decide)) ?_
        have q684 : h670 75 3 = 78 := by have z := jB (e := 3) 0 j671 rg_75_3_0_1 (by decide) (by decide); omega
        refine x_getR (np := 4) (x := 707) (f := 3) (q := 78) (by decide +kernel) (by decide) (by decide +kernel) q684 ?_
        refine x_iload (np := 5) (x := 1) (by decide +kernel) rfl (by first | decide | omega) ?_
        refine x_iload (np := 6) (x := 2) (by decide +kernel) rfl l667 ?_
        refine x_ast (np := 7) (x := 0) (kd := 1) (n := 290) (i := (204 + 5 * u8)) (by decide +kernel) (Or.inl rfl) (by decide +kernel) (by first | decide | omega) (by first | decide | omega) (by decide) l667 (fun z => absurd z (by decide)) ?_
        have j686 := jU (e := (204 + 5 * u8)) (v := v666) u8 j671 rg_78_204_5_10 (by first | decide | omega) (by first | decide | omega) (by first | decide | omega)
        have f688 := jF (e := (204 + 5 * u8)) (v := v666) u8 f681 rg_78_204_5_10 (by first | decide | omega) (by first | decide | omega) (by decide)
        generalize e687 : x_up h670 78 (204 + 5 * u8) v666 = h685 at j686 f688 ⊢
        refine x_iload (np := 8) (x := 2) (by decide +kernel) rfl l667 ?_
        refine x_ifz (k := 2) (tg := 15) (np := 11) (by decide +kernel) (by decide) l667 (fun q689 => ?_) (fun q690 => ?_)
        · have q689 : v666 < 2147483648 := q689
          refine x_const (np := 16) (x := 9223372039002259456) (a := 2147483648) (by decide +kernel) (by decide) (by decide) ?_
          refine x_retI (np := 17) (x := 0) (by decide +kernel) (by decide) (Or.inr ⟨by decide +kernel, by first | decide | omega, by first | decide | omega⟩) ⟨_, rfl, (by decide), ?_⟩
          refine x_ifz (k := 1) (tg := 156) (np := 154) (by decide +kernel) (by decide) (by decide) (fun q691 => ?_) (fun q692 => ?_)
          · have q691 : 2147483648 ≠ 2147483648 := q691
            exfalso; omega
          have q692 : ¬ (2147483648 ≠ 2147483648) := q692
          refine x_const (np := 155) (x := 9223372039002259456) (a := 2147483648) (by decide +kernel) (by decide) (by decide) ?_
          have b693 := jB (e := 0) 0 hJ rg_78_0_0_1 (by first | decide | omega) (by first | decide | omega)
          have q694 : h685 78 0 = h670 78 0 := by rw [← e687]; exact x_up_i (by first | decide | omega)
          have q695 : h670 78 0 = h551 78 0 := jK 0 f672 rg_78_0_0_1 (by first | decide | omega) (by first | decide | omega) (by decide)
          have q696 : h551 78 0 = h439 78 0 := jK 0 f553 rg_78_0_0_1 (by first | decide | omega) (by first | decide | omega) (by decide)
          have q697 : h439 78 0 = h424 78 0 := by rw [← e441]; exact x_up_i (by first | decide | omega)
          have q698 : h424 78 0 = h325 78 0 := jK 0 f426 rg_78_0_0_1 (by first | decide | omega) (by first | decide | omega) (by decide)
          have q699 : h325 78 0 = h237 78 0 := jK 0 f327 rg_78_0_0_1 (by first | decide | omega) (by first | decide | omega) (by decide)
          have q700 : h237 78 0 = h222 78 0 := by rw [← e239]; exact x_up_i (by first | decide | omega)
          have q701 : h222 78 0 = h151 78 0 := jK 0 f224 rg_78_0_0_1 (by first | decide | omega) (by first | decide | omega) (by decide)
          have q702 : h151 78 0 = h87 78 0 := jK 0 f153 rg_78_0_0_1 (by first | decide | omega) (by first | decide | omega) (by decide)
          have q703 : h87 78 0 = h70 78 0 := by rw [← e89]; exact x_up_i (by first | decide | omega)
          have q704 : h70 78 0 = h38 78 0 := jK 0 f72 rg_78_0_0_1 (by first | decide | omega) (by first | decide | omega) (by decide)
          have q705 : h38 78 0 = h14 78 0 := by rw [← e40]; exact x_up_i (by first | decide | omega)
          have q706 : h14 78 0 = h 78 0 := jK 0 f16 rg_78_0_0_1 (by first | decide | omega) (by first | decide | omega) (by decide)
          have q707 : h685 78 1 = h670 78 1 := by rw [← e687]; exact x_up_i (by first | decide | omega)
          have q708 : h670 78 1 = h551 78 1 := jK 0 f672 rg_78_1_0_1 (by first | decide | omega) (by first | decide | omega) (by decide)
          have q709 : h551 78 1 = h439 78 1 := jK 0 f553 rg_78_1_0_1 (by first | decide | omega) (by first | decide | omega) (by decide)
          have q710 : h439 78 1 = h424 78 1 := by rw [← e441]; exact x_up_i (by first | decide | omega)
          have q711 : h424 78 1 = h325 78 1 := jK 0 f426 rg_78_1_0_1 (by first | decide | omega) (by first | decide | omega) (by decide)
          have q712 : h325 78 1 = h237 78 1 := jK 0 f327 rg_78_1_0_1 (by first | decide | omega) (by first | decide | omega) (by decide)
          have q713 : h237 78 1 = h222 78 1 := by rw [← e239]; exact x_up_i (by first | decide | omega)
          have q714 : h222 78 1 = h151 78 1 := jK 0 f224 rg_78_1_0_1 (by first | decide | omega) (by first | decide | omega) (by decide)
          have q715 : h151 78 1 = h87 78 1 := jK 0 f153 rg_78_1_0_1 (by first | decide | omega) (by first | decide | omega) (by decide)
          have q716 : h87 78 1 = h70 78 1 := by rw [← e89]; exact x_up_i (by first | decide | omega)
          have q717 : h70 78 1 = h38 78 1 := jK 0 f72 rg_78_1_0_1 (by first | decide | omega) (by first | decide | omega) (by decide)
          have q718 : h38 78 1 = h14 78 1 := by rw [← e40]; exact x_up_i (by first | decide | omega)
          have q719 : h14 78 1 = h 78 1 := jK 0 f16 rg_78_1_0_1 (by first | decide | omega) (by first | decide | omega) (by decide)
          have b720 := jB (e := 2) 0 hJ rg_78_2_0_1 (by first | decide | omega) (by first | decide | omega)
          have q721 : h685 78 2 = h670 78 2 := by rw [← e687]; exact x_up_i (by first | decide | omega)
          have q722 : h670 78 2 = h551 78 2 := jK 0 f672 rg_78_2_0_1 (by first | decide | omega) (by first | decide | omega) (by decide)
          have q723 : h551 78 2 = h439 78 2 := jK 0 f553 rg_78_2_0_1 (by first | decide | omega) (by first | decide | omega) (by decide)
          have q724 : h439 78 2 = h424 78 2 := by rw [← e441]; exact x_up_i (by first | decide | omega)
          have q725 : h424 78 2 = h325 78 2 := jK 0 f426 rg_78_2_0_1 (by first | decide | omega) (by first | decide | omega) (by decide)
          have q726 : h325 78 2 = h237 78 2 := jK 0 f327 rg_78_2_0_1 (by first | decide | omega) (by first | decide | omega) (by decide)
          have q727 : h237 78 2 = h222 78 2 := by rw [← e239]; exact x_up_i (by first | decide | omega)
          have q728 : h222 78 2 = h151 78 2 := jK 0 f224 rg_78_2_0_1 (by first | decide | omega) (by first | decide | omega) (by decide)
          have q729 : h151 78 2 = h87 78 2 := jK 0 f153 rg_78_2_0_1 (by first | decide | omega) (by first | decide | omega) (by decide)
          have q730 : h87 78 2 = h70 78 2 := by rw [← e89]; exact x_up_i (by first | decide | omega)
          have q731 : h70 78 2 = h38 78 2 := jK 0 f72 rg_78_2_0_1 (by first | decide | omega) (by first | decide | omega) (by decide)
          have q732 : h38 78 2 = h14 78 2 := by rw [← e40]; exact x_up_i (by first | decide | omega)
          have q733 : h14 78 2 = h 78 2 := jK 0 f16 rg_78_2_0_1 (by first | decide | omega) (by first | decide | omega) (by decide)
          have b734 := jB (e := 3) 0 hJ rg_78_3_0_1 (by first | decide | omega) (by first | decide | omega)
          have q735 : h685 78 3 = h670 78 3 := by rw [← e687]; exact x_up_i (by first | decide | omega)
          have q736 : h670 78 3 = h551 78 3 := jK 0 f672 rg_78_3_0_1 (by first | decide | omega) (by first | decide | omega) (by decide)
          have q737 : h551 78 3 = h439 78 3 := jK 0 f553 rg_78_3_0_1 (by first | decide | omega) (by first | decide | omega) (by decide)
          have q738 : h439 78 3 = h424 78 3 := by rw [← e441]; exact x_up_i (by first | decide | omega)
          have q739 : h424 78 3 = h325 78 3 := jK 0 f426 rg_78_3_0_1 (by first | decide | omega) (by first | decide | omega) (by decide)
          have q740 : h325 78 3 = h237 78 3 := jK 0 f327 rg_78_3_0_1 (by first | decide | omega) (by first | decide | omega) (by decide)
          have q741 : h237 78 3 = h222 78 3 := by rw [← e239]; exact x_up_i (by first | decide | omega)
          have q742 : h222 78 3 = h151 78 3 := jK 0 f224 rg_78_3_0_1 (by first | decide | omega) (by first | decide | omega) (by decide)
          have q743 : h151 78 3 = h87 78 3 := jK 0 f153 rg_78_3_0_1 (by first | decide | omega) (by first | decide | omega) (by decide)
          have q744 : h87 78 3 = h70 78 3 := by rw [← e89]; exact x_up_i (by first | decide | omega)
          have q745 : h70 78 3 = h38 78 3 := jK 0 f72 rg_78_3_0_1 (by first | decide | omega) (by first | decide | omega) (by decide)
          have q746 : h38 78 3 = h14 78 3 := by rw [← e40]; exact x_up_i (by first | decide | omega)
          have q747 : h14 78 3 = h 78 3 := jK 0 f16 rg_78_3_0_1 (by first | decide | omega) (by first | decide | omega) (by decide)
          have q748 : h685 78 4 = h670 78 4 := by rw [← e687]; exact x_up_i (by first | decide | omega)
          have q749 : h670 78 4 = h551 78 4 := jK 0 f672 rg_78_4_0_1 (by first | decide | omega) (by first | decide | omega) (by decide)
          have q750 : h551 78 4 = h439 78 4 := jK 0 f553 rg_78_4_0_1 (by first | decide | omega) (by first | decide | omega) (by decide)
          have q751 : h439 78 4 = h424 78 4 := by rw [← e441]; exact x_up_i (by first | decide | omega)
          have q752 : h424 78 4 = h325 78 4 := jK 0 f426 rg_78_4_0_1 (by first | decide | omega) (by first | decide | omega) (by decide)
          have q753 : h325 78 4 = h237 78 4 := jK 0 f327 rg_78_4_0_1 (by first | decide | omega) (by first | decide | omega) (by decide)
          have q754 : h237 78 4 = h222 78 4 := by rw [← e239]; exact x_up_i (by first | decide | omega)
          have q755 : h222 78 4 = h151 78 4 := jK 0 f224 rg_78_4_0_1 (by first | decide | omega) (by first | decide | omega) (by decide)
          have q756 : h151 78 4 = h87 78 4 := jK 0 f153 rg_78_4_0_1 (by first | decide | omega) (by first | decide | omega) (by decide)
          have q757 : h87 78 4 = h70 78 4 := by rw [← e89]; exact x_up_i (by first | decide | omega)
          have q758 : h70 78 4 = h38 78 4 := jK 0 f72 rg_78_4_0_1 (by first | decide | omega) (by first | decide | omega) (by decide)
          have q759 : h38 78 4 = h14 78 4 := by rw [← e40]; exact x_up_i (by first | decide | omega)
          have q760 : h14 78 4 = h 78 4 := jK 0 f16 rg_78_4_0_1 (by first | decide | omega) (by first | decide | omega) (by decide)
          have b761 := jB (e := 5) 0 hJ rg_78_5_0_1 (by first | decide | omega) (by first | decide | omega)
          have q762 : h685 78 5 = h670 78 5 := by rw [← e687]; exact x_up_i (by first | decide | omega)
          have q763 : h670 78 5 = h551 78 5 := jK 0 f672 rg_78_5_0_1 (by first | decide | omega) (by first | decide | omega) (by decide)
          have q764 : h551 78 5 = h439 78 5 := jK 0 f553 rg_78_5_0_1 (by first | decide | omega) (by first | decide | omega) (by decide)
          have q765 : h439 78 5 = h424 78 5 := by rw [← e441]; exact x_up_i (by first | decide | omega)
          have q766 : h424 78 5 = h325 78 5 := jK 0 f426 rg_78_5_0_1 (by first | decide | omega) (by first | decide | omega) (by decide)
          have q767 : h325 78 5 = h237 78 5 := jK 0 f327 rg_78_5_0_1 (by first | decide | omega) (by first | decide | omega) (by decide)
          have q768 : h237 78 5 = h222 78 5 := by rw [← e239]; exact x_up_i (by first | decide | omega)
          have q769 : h222 78 5 = h151 78 5 := jK 0 f224 rg_78_5_0_1 (by first | decide | omega) (by first | decide | omega) (by decide)
          have q770 : h151 78 5 = h87 78 5 := jK 0 f153 rg_78_5_0_1 (by first | decide | omega) (by first | decide | omega) (by decide)
          have q771 : h87 78 5 = h70 78 5 := by rw [← e89]; exact x_up_i (by first | decide | omega)
          have q772 : h70 78 5 = h38 78 5 := jK 0 f72 rg_78_5_0_1 (by first | decide | omega) (by first | decide | omega) (by decide)
          have q773 : h38 78 5 = h14 78 5 := by rw [← e40]; exact x_up_i (by first | decide | omega)
          have q774 : h14 78 5 = h 78 5 := jK 0 f16 rg_78_5_0_1 (by first | decide | omega) (by first | decide | omega) (by decide)
          have w775 : ¬ Wd tB tN 10 (sk tB tN (h 75 7)) := by rw [← c21]; exact Wd.no (by decide) (Is.no c33 (by first | decide | omega)) c22
          have q776 : h38 75 7 = h14 75 7 := by rw [← e40]; exact x_up_k (by decide)
          have q777 : h38 75 9 = h14 75 9 := by rw [← e40]; exact x_up_k (by decide)
          have c778 : Is (Wm tB 9 (h14 75 9) (h14 75 7)) v47 := by rw [show h14 75 9 = h38 75 9 by first | decide | omega, show h14 75 7 = h38 75 7 by first | decide | omega]; exact c52
          have y779 := Is.yes c778 (by first | decide | omega)
          have w780 : Wd tB tN 9 (sk tB tN (h 75 7)) := by rw [← c21]; exact Wd.of' (by decide) y779 c22
          have e781 : sk tB tN (h14 75 7) = sk tB tN ((sk tB tN (h 75 7)) + iv_tl 9) := by rw [← c21, ← y779.1]
          have q782 : h38 75 7 = h14 75 7 := by rw [← e40]; exact x_up_k (by decide)
          have q783 : h87 75 7 = h70 75 7 := by rw [← e89]; exact x_up_k (by decide)
          obtain ⟨w784, e785⟩ := Tw.yes c157 (by first | decide | omega)
          have q786 : h237 75 7 = h222 75 7 := by rw [← e239]; exact x_up_k (by decide)
          obtain ⟨w787, e788⟩ := Tw.yes c331 (by first | decide | omega)
          have q789 : h439 75 7 = h424 75 7 := by rw [← e441]; exact x_up_k (by decide)
          obtain ⟨w790, e791⟩ := Tw.yes c557 (by first | decide | omega)
          have w792 : ¬ Wd tB tN 10 (sk tB tN (h 75 7)) := by rw [← c21]; exact Wd.no (by decide) (Is.no c33 (by first | decide | omega)) c22
          have q793 : h38 75 7 = h14 75 7 := by rw [← e40]; exact x_up_k (by decide)
          have q794 : h38 75 9 = h14 75 9 := by rw [← e40]; exact x_up_k (by decide)
          have c795 : Is (Wm tB 9 (h14 75 9) (h14 75 7)) v47 := by rw [show h14 75 9 = h38 75 9 by first | decide | omega, show h14 75 7 = h38 75 7 by first | decide | omega]; exact c52
          have y796 := Is.yes c795 (by first | decide | omega)
          have w797 : Wd tB tN 9 (sk tB tN (h 75 7)) := by rw [← c21]; exact Wd.of' (by decide) y796 c22
          have e798 : sk tB tN (h14 75 7) = sk tB tN ((sk tB tN (h 75 7)) + iv_tl 9) := by rw [← c21, ← y796.1]
          have q799 : h38 75 7 = h14 75 7 := by rw [← e40]; exact x_up_k (by decide)
          have q800 : h87 75 7 = h70 75 7 := by rw [← e89]; exact x_up_k (by decide)
          obtain ⟨w801, e802⟩ := Tw.yes c157 (by first | decide | omega)
          have q803 : h237 75 7 = h222 75 7 := by rw [← e239]; exact x_up_k (by decide)
          obtain ⟨w804, e805⟩ := Tw.yes c331 (by first | decide | omega)
          have q806 : h439 75 7 = h424 75 7 := by rw [← e441]; exact x_up_k (by decide)
          obtain ⟨w807, e808⟩ := Tw.yes c557 (by first | decide | omega)
          have q809 : h685 75 9 = h670 75 9 := by rw [← e687]; exact x_up_k (by decide)
          have b810 := jB (e := 9) 0 j671 rg_75_9_0_1 (by first | decide | omega) (by first | decide | omega)
          refine x_retI (np := 156) (x := 0) (by decide +kernel) (by decide) (Or.inr ⟨by decide +kernel, by first | decide | omega, by first | decide | omega⟩) ⟨_, rfl, (by decide), ?_⟩
          exact ⟨j686, f688, (by first | decide | omega), (fun z => by first | decide | omega), (fun z => by first | decide | omega), (fun z => by first | decide | omega), (fun z => by first | decide | omega), (fun z => by first | decide | omega), (fun z => by first | decide | omega), (fun z => absurd z (by first | decide | omega)), (Or.inr ⟨by first | decide | omega, (or9.y w780 rfl e781 rfl (nm9.y c79 (by first | decide | omega) (by first | decide | omega) (congrArg (sk tB tN) (show h38 75 7 = h14 75 7 by first | decide | omega)) (by first | decide | omega) rfl (wd9.y w784 (congrArg (sk tB tN) (show h87 75 7 = h70 75 7 by first | decide | omega)) e785 rfl (nm9.y c231 (by first | decide | omega) (by first | decide | omega) rfl (by first | decide | omega) rfl (wd9.y w787 (congrArg (sk tB tN) (show h237 75 7 = h222 75 7 by first | decide | omega)) e788 rfl (nm9.y c433 (by first | decide | omega) (by first | decide | omega) rfl (by first | decide | omega) rfl (wd9.y w790 (congrArg (sk tB tN) (show h439 75 7 = h424 75 7 by first | decide | omega)) e791 rfl (nm9.f c679 (by first | decide | omega) (by first | decide | omega) rfl (by first | decide | omega) (by first | decide | omega)))))))))⟩), (fun _ => Or.inr ⟨by first | decide | omega, (oF.y w797 rfl e798 rfl (mF.y c79 (by first | decide | omega) (by first | decide | omega) (congrArg (sk tB tN) (show h38 75 7 = h14 75 7 by first | decide | omega)) (by first | decide | omega) rfl (wF.y w801 (congrArg (sk tB tN) (show h87 75 7 = h70 75 7 by first | decide | omega)) e802 rfl (mF.y c231 (by first | decide | omega) (by first | decide | omega) rfl (by first | decide | omega) rfl (wF.y w804 (congrArg (sk tB tN) (show h237 75 7 = h222 75 7 by first | decide | omega)) e805 rfl (mF.y c433 (by first | decide | omega) (by first | decide | omega) rfl (by first | decide | omega) rfl (wF.y w807 (congrArg (sk tB tN) (show h439 75 7 = h424 75 7 by first | decide | omega)) e808 rfl (mF.no c679 (by first | decide | omega) (by first | decide | omega) rfl (by first | decide | omega) (Eq.trans (show h685 75 9 = h670 75 9 by first | decide | omega) c680)))))))))⟩)⟩
        have q690 : ¬ (v666 < 2147483648) := q690
        have b811 := c675 (by first | decide | omega)
        have b812 := c676 (by first | decide | omega)
        have b813 := c677 (by first | decide | omega)
        refine x_const (np := 12) (x := 9223372043297226753) (a := 2147483649) (by decide +kernel) (by decide) (by decide) ?_
        refine x_goto (np := 15) (x := 16) (by decide +kernel) ?_
        refine x_retI (np := 17) (x := 0) (by decide +kernel) (by decide) (Or.inr ⟨by decide +kernel, by first | decide | omega, by first | decide | omega⟩) ⟨_, rfl, (by decide), ?_⟩
        refine x_ifz (k := 1) (tg := 156) (np := 154) (by decide +kernel) (by decide) (by decide) (fun q814 => ?_) (fun q815 => ?_)
        · have q814 : 2147483649 ≠ 2147483648 := q814
          refine x_aload (np := 157) (x := 0) (by decide +kernel) rfl (x_nc_le (by decide)) ?_
          have q816 : h685 75 3 = 78 := by have z := jB (e := 3) 0 j686 rg_75_3_0_1 (by decide) (by decide); omega
          refine x_getR (np := 160) (x := 707) (f := 3) (q := 78) (by decide +kernel) (by decide) (by decide +kernel) q816 ?_
          refine x_const (np := 161) (x := 9223372056182128644) (a := 2147483652) (by decide +kernel) (by decide) (by decide) ?_
          refine x_dup2 (np := 162) (x := 0) (by decide +kernel) (by have z := (iw_c_lt (a := 2147483652) (by decide)).1; omega) (by have z := x_nc_le (k := 78) (by decide); unfold x_r; omega) ?_
          have q817 : h685 78 4 = h670 78 4 := by rw [← e687]; exact x_up_i (by first | decide | omega)
          have q818 : h670 78 4 = h551 78 4 := jK 0 f672 rg_78_4_0_1 (by first | decide | omega) (by first | decide | omega) (by decide)
          have q819 : h551 78 4 = h439 78 4 := jK 0 f553 rg_78_4_0_1 (by first | decide | omega) (by first | decide | omega) (by decide)
          have q820 : h439 78 4 = h424 78 4 := by rw [← e441]; exact x_up_i (by first | decide | omega)
          have q821 : h424 78 4 = h325 78 4 := jK 0 f426 rg_78_4_0_1 (by first | decide | omega) (by first | decide | omega) (by decide)
          have q822 : h325 78 4 = h237 78 4 := jK 0 f327 rg_78_4_0_1 (by first | decide | omega) (by first | decide | omega) (by decide)
          have q823 : h237 78 4 = h222 78 4 := by rw [← e239]; exact x_up_i (by first | decide | omega)
          have q824 : h222 78 4 = h151 78 4 := jK 0 f224 rg_78_4_0_1 (by first | decide | omega) (by first | decide | omega) (by decide)
          have q825 : h151 78 4 = h87 78 4 := jK 0 f153 rg_78_4_0_1 (by first | decide | omega) (by first | decide | omega) (by decide)
          have q826 : h87 78 4 = h70 78 4 := by rw [← e89]; exact x_up_i (by first | decide | omega)
          have q827 : h70 78 4 = h38 78 4 := jK 0 f72 rg_78_4_0_1 (by first | decide | omega) (by first | decide | omega) (by decide)
          have q828 : h38 78 4 = h14 78 4 := by rw [← e40]; exact x_up_i (by first | decide | omega)
          have q829 : h14 78 4 = h 78 4 := jK 0 f16 rg_78_4_0_1 (by first | decide | omega) (by first | decide | omega) (by decide)
          refine x_aldC (np := 163) (x := 0) (n := 290) (i := 4) (q := (h 78 4)) (by decide +kernel) (by decide +kernel) (by first | decide | omega) (by first | decide | omega) (by decide) ((((((((((((q817.trans q818).trans q819).trans q820).trans q821).trans q822).trans q823).trans q824).trans q825).trans q826).trans q827).trans q828).trans q829) (fun l830 => ?_)
          refine x_const (np := 164) (x := 9223372043297226753) (a := 2147483649) (by decide +kernel) (by decide) (by decide) ?_
          refine x_iadd (np := 165) (x := 0) (v := (1 + (h 78 4))) (by decide +kernel) l3 (by decide) (by first | decide | omega) (by first | decide | omega) ?_
          refine x_ast (np := 166) (x := 0) (kd := 1) (n := 290) (i := 4) (by decide +kernel) (Or.inl rfl) (by decide +kernel) (by first | decide | omega) (by first | decide | omega) (by decide) (by first | decide | omega) (fun z => absurd z (by decide)) ?_
          have j832 := jU (e := 4) (v := (1 + (h 78 4))) 0 j686 rg_78_4_0_1 (by first | decide | omega) (by first | decide | omega) (by first | decide | omega)
          have f834 := jF (e := 4) (v := (1 + (h 78 4))) 0 f688 rg_78_4_0_1 (by first | decide | omega) (by first | decide | omega) (by decide)
          generalize e833 : x_up h685 78 4 (1 + (h 78 4)) = h831 at j832 f834 ⊢
          refine x_const (np := 167) (x := 9223372043297226753) (a := 2147483649) (by decide +kernel) (by decide) (by decide) ?_
          have b835 := jB (e := 0) 0 hJ rg_78_0_0_1 (by first | decide | omega) (by first | decide | omega)
          have q836 : h831 78 0 = h685 78 0 := by rw [← e833]; exact x_up_i (by first | decide | omega)
          have q837 : h685 78 0 = h670 78 0 := by rw [← e687]; exact x_up_i (by first | decide | omega)
          have q838 : h670 78 0 = h551 78 0 := jK 0 f672 rg_78_0_0_1 (by first | decide | omega) (by first | decide | omega) (by decide)
          have q839 : h551 78 0 = h439 78 0 := jK 0 f553 rg_78_0_0_1 (by first | decide | omega) (by first | decide | omega) (by decide)
          have q840 : h439 78 0 = h424 78 0 := by rw [← e441]; exact x_up_i (by first | decide | omega)
          have q841 : h424 78 0 = h325 78 0 := jK 0 f426 rg_78_0_0_1 (by first | decide | omega) (by first | decide | omega) (by decide)
          have q842 : h325 78 0 = h237 78 0 := jK 0 f327 rg_78_0_0_1 (by first | decide | omega) (by first | decide | omega) (by decide)
          have q843 : h237 78 0 = h222 78 0 := by rw [← e239]; exact x_up_i (by first | decide | omega)
          have q844 : h222 78 0 = h151 78 0 := jK 0 f224 rg_78_0_0_1 (by first | decide | omega) (by first | decide | omega) (by decide)
          have q845 : h151 78 0 = h87 78 0 := jK 0 f153 rg_78_0_0_1 (by first | decide | omega) (by first | decide | omega) (by decide)
          have q846 : h87 78 0 = h70 78 0 := by rw [← e89]; exact x_up_i (by first | decide | omega)
          have q847 : h70 78 0 = h38 78 0 := jK 0 f72 rg_78_0_0_1 (by first | decide | omega) (by first | decide | omega) (by decide)
          have q848 : h38 78 0 = h14 78 0 := by rw [← e40]; exact x_up_i (by first | decide | omega)
          have q849 : h14 78 0 = h 78 0 := jK 0 f16 rg_78_0_0_1 (by first | decide | omega) (by first | decide | omega) (by decide)
          have q850 : h831 78 1 = h685 78 1 := by rw [← e833]; exact x_up_i (by first | decide | omega)
          have q851 : h685 78 1 = h670 78 1 := by rw [← e687]; exact x_up_i (by first | decide | omega)
          have q852 : h670 78 1 = h551 78 1 := jK 0 f672 rg_78_1_0_1 (by first | decide | omega) (by first | decide | omega) (by decide)
          have q853 : h551 78 1 = h439 78 1 := jK 0 f553 rg_78_1_0_1 (by first | decide | omega) (by first | decide | omega) (by decide)
          have q854 : h439 78 1 = h424 78 1 := by rw [← e441]; exact x_up_i (by first | decide | omega)
          have q855 : h424 78 1 = h325 78 1 := jK 0 f426 rg_78_1_0_1 (by first | decide | omega) (by first | decide | omega) (by decide)
          have q856 : h325 78 1 = h237 78 1 := jK 0 f327 rg_78_1_0_1 (by first | decide | omega) (by first | decide | omega) (by decide)
          have q857 : h237 78 1 = h222 78 1 := by rw [← e239]; exact x_up_i (by first | decide | omega)
          have q858 : h222 78 1 = h151 78 1 := jK 0 f224 rg_78_1_0_1 (by first | decide | omega) (by first | decide | omega) (by decide)
          have q859 : h151 78 1 = h87 78 1 := jK 0 f153 rg_78_1_0_1 (by first | decide | omega) (by first | decide | omega) (by decide)
          have q860 : h87 78 1 = h70 78 1 := by rw [← e89]; exact x_up_i (by first | decide | omega)
          have q861 : h70 78 1 = h38 78 1 := jK 0 f72 rg_78_1_0_1 (by first | decide | omega) (by first | decide | omega) (by decide)
          have q862 : h38 78 1 = h14 78 1 := by rw [← e40]; exact x_up_i (by first | decide | omega)
          have q863 : h14 78 1 = h 78 1 := jK 0 f16 rg_78_1_0_1 (by first | decide | omega) (by first | decide | omega) (by decide)
          have b864 := jB (e := 2) 0 hJ rg_78_2_0_1 (by first | decide | omega) (by first | decide | omega)
          have q865 : h831 78 2 = h685 78 2 := by rw [← e833]; exact x_up_i (by first | decide | omega)
          have q866 : h685 78 2 = h670 78 2 := by rw [← e687]; exact x_up_i (by first | decide | omega)
          have q867 : h670 78 2 = h551 78 2 := jK 0 f672 rg_78_2_0_1 (by first | decide | omega) (by first | decide | omega) (by decide)
          have q868 : h551 78 2 = h439 78 2 := jK 0 f553 rg_78_2_0_1 (by first | decide | omega) (by first | decide | omega) (by decide)
          have q869 : h439 78 2 = h424 78 2 := by rw [← e441]; exact x_up_i (by first | decide | omega)
          have q870 : h424 78 2 = h325 78 2 := jK 0 f426 rg_78_2_0_1 (by first | decide | omega) (by first | decide | omega) (by decide)
          have q871 : h325 78 2 = h237 78 2 := jK 0 f327 rg_78_2_0_1 (by first | decide | omega) (by first | decide | omega) (by decide)
          have q872 : h237 78 2 = h222 78 2 := by rw [← e239]; exact x_up_i (by first | decide | omega)
          have q873 : h222 78 2 = h151 78 2 := jK 0 f224 rg_78_2_0_1 (by first | decide | omega) (by first | decide | omega) (by decide)
          have q874 : h151 78 2 = h87 78 2 := jK 0 f153 rg_78_2_0_1 (by first | decide | omega) (by first | decide | omega) (by decide)
          have q875 : h87 78 2 = h70 78 2 := by rw [← e89]; exact x_up_i (by first | decide | omega)
          have q876 : h70 78 2 = h38 78 2 := jK 0 f72 rg_78_2_0_1 (by first | decide | omega) (by first | decide | omega) (by decide)
          have q877 : h38 78 2 = h14 78 2 := by rw [← e40]; exact x_up_i (by first | decide | omega)
          have q878 : h14 78 2 = h 78 2 := jK 0 f16 rg_78_2_0_1 (by first | decide | omega) (by first | decide | omega) (by decide)
          have b879 := jB (e := 3) 0 hJ rg_78_3_0_1 (by first | decide | omega) (by first | decide | omega)
          have q880 : h831 78 3 = h685 78 3 := by rw [← e833]; exact x_up_i (by first | decide | omega)
          have q881 : h685 78 3 = h670 78 3 := by rw [← e687]; exact x_up_i (by first | decide | omega)
          have q882 : h670 78 3 = h551 78 3 := jK 0 f672 rg_78_3_0_1 (by first | decide | omega) (by first | decide | omega) (by decide)
          have q883 : h551 78 3 = h439 78 3 := jK 0 f553 rg_78_3_0_1 (by first | decide | omega) (by first | decide | omega) (by decide)
          have q884 : h439 78 3 = h424 78 3 := by rw [← e441]; exact x_up_i (by first | decide | omega)
          have q885 : h424 78 3 = h325 78 3 := jK 0 f426 rg_78_3_0_1 (by first | decide | omega) (by first | decide | omega) (by decide)
          have q886 : h325 78 3 = h237 78 3 := jK 0 f327 rg_78_3_0_1 (by first | decide | omega) (by first | decide | omega) (by decide)
          have q887 : h237 78 3 = h222 78 3 := by rw [← e239]; exact x_up_i (by first | decide | omega)
          have q888 : h222 78 3 = h151 78 3 := jK 0 f224 rg_78_3_0_1 (by first | decide | omega) (by first | decide | omega) (by decide)
          have q889 : h151 78 3 = h87 78 3 := jK 0 f153 rg_78_3_0_1 (by first | decide | omega) (by first | decide | omega) (by decide)
          have q890 : h87 78 3 = h70 78 3 := by rw [← e89]; exact x_up_i (by first | decide | omega)
          have q891 : h70 78 3 = h38 78 3 := jK 0 f72 rg_78_3_0_1 (by first | decide | omega) (by first | decide | omega) (by decide)
          have q892 : h38 78 3 = h14 78 3 := by rw [← e40]; exact x_up_i (by first | decide | omega)
          have q893 : h14 78 3 = h 78 3 := jK 0 f16 rg_78_3_0_1 (by first | decide | omega) (by first | decide | omega) (by decide)
          have q894 : h831 78 4 = (1 + (h 78 4)) := by rw [← e833]; exact x_up_at
          have b895 := jB (e := 5) 0 hJ rg_78_5_0_1 (by first | decide | omega) (by first | decide | omega)
          have q896 : h831 78 5 = h685 78 5 := by rw [← e833]; exact x_up_i (by first | decide | omega)
          have q897 : h685 78 5 = h670 78 5 := by rw [← e687]; exact x_up_i (by first | decide | omega)
          have q898 : h670 78 5 = h551 78 5 := jK 0 f672 rg_78_5_0_1 (by first | decide | omega) (by first | decide | omega) (by decide)
          have q899 : h551 78 5 = h439 78 5 := jK 0 f553 rg_78_5_0_1 (by first | decide | omega) (by first | decide | omega) (by decide)
          have q900 : h439 78 5 = h424 78 5 := by rw [← e441]; exact x_up_i (by first | decide | omega)
          have q901 : h424 78 5 = h325 78 5 := jK 0 f426 rg_78_5_0_1 (by first | decide | omega) (by first | decide | omega) (by decide)
          have q902 : h325 78 5 = h237 78 5 := jK 0 f327 rg_78_5_0_1 (by first | decide | omega) (by first | decide | omega) (by decide)
          have q903 : h237 78 5 = h222 78 5 := by rw [← e239]; exact x_up_i (by first | decide | omega)
          have q904 : h222 78 5 = h151 78 5 := jK 0 f224 rg_78_5_0_1 (by first | decide | omega) (by first | decide | omega) (by decide)
          have q905 : h151 78 5 = h87 78 5 := jK 0 f153 rg_78_5_0_1 (by first | decide | omega) (by first | decide | omega) (by decide)
          have q906 : h87 78 5 = h70 78 5 := by rw [← e89]; exact x_up_i (by first | decide | omega)
          have q907 : h70 78 5 = h38 78 5 := jK 0 f72 rg_78_5_0_1 (by first | decide | omega) (by first | decide | omega) (by decide)
          have q908 : h38 78 5 = h14 78 5 := by rw [← e40]; exact x_up_i (by first | decide | omega)
          have q909 : h14 78 5 = h 78 5 := jK 0 f16 rg_78_5_0_1 (by first | decide | omega) (by first | decide | omega) (by decide)
          have m923 := Cl.fr hC f16 (by decide)
          have m922 : Cl h38 := by rw [← e40]; exact Cl.upR (e := (200 + 5 * u8)) (v := 2147483648) u8 m923 rg_76_200_5_10 (by first | decide | omega) (by first | decide | omega) (by first | decide | omega)
          have m921 := Cl.fr m922 f72 (by decide)
          have m920 : Cl h87 := by rw [← e89]; exact Cl.upR (e := (201 + 5 * u8)) (v := v67) u8 m921 rg_76_201_5_10 (by first | decide | omega) (by first | decide | omega) (by first | decide | omega)
          have m919 := Cl.fr m920 f153 (by decide)
          have m918 := Cl.fr m919 f224 (by decide)
          have m917 : Cl h237 := by rw [← e239]; exact Cl.upR (e := (202 + 5 * u8)) (v := v218) u8 m918 rg_76_202_5_10 (by first | decide | omega) (by first | decide | omega) (by first | decide | omega)
          have m916 := Cl.fr m917 f327 (by decide)
          have m915 := Cl.fr m916 f426 (by decide)
          have m914 : Cl h439 := by rw [← e441]; exact Cl.upR (e := (203 + 5 * u8)) (v := v420) u8 m915 rg_76_203_5_10 (by first | decide | omega) (by first | decide | omega) (by first | decide | omega)
          have m913 := Cl.fr m914 f553 (by decide)
          have m912 := Cl.fr m913 f672 (by decide)
          have m911 : Cl h685 := by rw [← e687]; exact Cl.upR (e := (204 + 5 * u8)) (v := v666) u8 m912 rg_76_204_5_10 (by first | decide | omega) (by first | decide | omega) (by first | decide | omega)
          have m910 : Cl h831 := by rw [← e833]; exact Cl.upR (e := 4) (v := (1 + (h 78 4))) 0 m911 rg_76_4_0_1 (by first | decide | omega) (by first | decide | omega) (by first | decide | omega)
          have w924 : ¬ Wd tB tN 10 (sk tB tN (h 75 7)) := by rw [← c21]; exact Wd.no (by decide) (Is.no c33 (by first | decide | omega)) c22
          have q925 : h38 75 7 = h14 75 7 := by rw [← e40]; exact x_up_k (by decide)
          have q926 : h38 75 9 = h14 75 9 := by rw [← e40]; exact x_up_k (by decide)
          have c927 : Is (Wm tB 9 (h14 75 9) (h14 75 7)) v47 := by rw [show h14 75 9 = h38 75 9 by first | decide | omega, show h14 75 7 = h38 75 7 by first | decide | omega]; exact c52
          have y928 := Is.yes c927 (by first | decide | omega)
          have w929 : Wd tB tN 9 (sk tB tN (h 75 7)) := by rw [← c21]; exact Wd.of' (by decide) y928 c22
          have e930 : sk tB tN (h14 75 7) = sk tB tN ((sk tB tN (h 75 7)) + iv_tl 9) := by rw [← c21, ← y928.1]
          have q931 : h38 75 7 = h14 75 7 := by rw [← e40]; exact x_up_k (by decide)
          have q932 : h87 75 7 = h70 75 7 := by rw [← e89]; exact x_up_k (by decide)
          obtain ⟨w933, e934⟩ := Tw.yes c157 (by first | decide | omega)
          have q935 : h237 75 7 = h222 75 7 := by rw [← e239]; exact x_up_k (by decide)
          obtain ⟨w936, e937⟩ := Tw.yes c331 (by first | decide | omega)
          have q938 : h439 75 7 = h424 75 7 := by rw [← e441]; exact x_up_k (by decide)
          obtain ⟨w939, e940⟩ := Tw.yes c557 (by first | decide | omega)
          have q941 : h831 75 7 = h685 75 7 := by rw [← e833]; exact x_up_k (by decide)
          have q942 : h685 75 7 = h670 75 7 := by rw [← e687]; exact x_up_k (by decide)
          refine x_retI (np := 168) (x := 0) (by decide +kernel) (by decide) (Or.inr ⟨by decide +kernel, by first | decide | omega, by first | decide | omega⟩) ⟨_, rfl, (by decide), ?_⟩
          exact ⟨j832, f834, (by first | decide | omega), (fun z => by first | decide | omega), (fun z => by first | decide | omega), (fun z => by first | decide | omega), (fun z => by first | decide | omega), (fun z => by first | decide | omega), (fun z => by first | decide | omega), (fun _ => m910), (Or.inr ⟨by first | decide | omega, (or9.y w929 rfl e930 rfl (nm9.y c79 (by first | decide | omega) (by first | decide | omega) (congrArg (sk tB tN) (show h38 75 7 = h14 75 7 by first | decide | omega)) (by first | decide | omega) rfl (wd9.y w933 (congrArg (sk tB tN) (show h87 75 7 = h70 75 7 by first | decide | omega)) e934 rfl (nm9.y c231 (by first | decide | omega) (by first | decide | omega) rfl (by first | decide | omega) rfl (wd9.y w936 (congrArg (sk tB tN) (show h237 75 7 = h222 75 7 by first | decide | omega)) e937 rfl (nm9.y c433 (by first | decide | omega) (by first | decide | omega) rfl (by first | decide | omega) rfl (wd9.y w939 (congrArg (sk tB tN) (show h439 75 7 = h424 75 7 by first | decide | omega)) e940 rfl (nm9.y c679 (by first | decide | omega) (by first | decide | omega) rfl (by first | decide | omega) rfl (fin9.mk (by first | decide | omega) (congrArg (sk tB tN) (show h670 75 7 = h831 75 7 by first | decide | omega)))))))))))⟩), (fun z => absurd z (by first | decide | omega))⟩
        have q815 : ¬ (2147483649 ≠ 2147483648) := q815
        exfalso; omega
      have q58 : ¬ (v47 ≠ 2147483648) := q58
      refine x_const (np := 69) (x := 9223372039002259456) (a := 2147483648) (by decide +kernel) (by decide) (by decide) ?_
      have b943 := jB (e := 0) 0 hJ rg_78_0_0_1 (by first | decide | omega) (by first | decide | omega)
      have q944 : h38 78 0 = h14 78 0 := by rw [← e40]; exact x_up_i (by first | decide | omega)
      have q945 : h14 78 0 = h 78 0 := jK 0 f16 rg_78_0_0_1 (by first | decide | omega) (by first | decide | omega) (by decide)
      have q946 : h38 78 1 = h14 78 1 := by rw [← e40]; exact x_up_i (by first | decide | omega)
      have q947 : h14 78 1 = h 78 1 := jK 0 f16 rg_78_1_0_1 (by first | decide | omega) (by first | decide | omega) (by decide)
      have b948 := jB (e := 2) 0 hJ rg_78_2_0_1 (by first | decide | omega) (by first | decide | omega)
      have q949 : h38 78 2 = h14 78 2 := by rw [← e40]; exact x_up_i (by first | decide | omega)
      have q950 : h14 78 2 = h 78 2 := jK 0 f16 rg_78_2_0_1 (by first | decide | omega) (by first | decide | omega) (by decide)
      have b951 := jB (e := 3) 0 hJ rg_78_3_0_1 (by first | decide | omega) (by first | decide | omega)
      have q952 : h38 78 3 = h14 78 3 := by rw [← e40]; exact x_up_i (by first | decide | omega)
      have q953 : h14 78 3 = h 78 3 := jK 0 f16 rg_78_3_0_1 (by first | decide | omega) (by first | decide | omega) (by decide)
      have q954 : h38 78 4 = h14 78 4 := by rw [← e40]; exact x_up_i (by first | decide | omega)
      have q955 : h14 78 4 = h 78 4 := jK 0 f16 rg_78_4_0_1 (by first | decide | omega) (by first | decide | omega) (by decide)
      have b956 := jB (e := 5) 0 hJ rg_78_5_0_1 (by first | decide | omega) (by first | decide | omega)
      have q957 : h38 78 5 = h14 78 5 := by rw [← e40]; exact x_up_i (by first | decide | omega)
      have q958 : h14 78 5 = h 78 5 := jK 0 f16 rg_78_5_0_1 (by first | decide | omega) (by first | decide | omega) (by decide)
      have b959 := jB (e := 0) 0 hJ rg_76_0_0_1 (by first | decide | omega) (by first | decide | omega)
      have w960 : ¬ Wd tB tN 10 (sk tB tN (h 75 7)) := by rw [← c21]; exact Wd.no (by decide) (Is.no c33 (by first | decide | omega)) c22
      have q961 : h38 75 7 = h14 75 7 := by rw [← e40]; exact x_up_k (by decide)
      have q962 : h38 75 9 = h14 75 9 := by rw [← e40]; exact x_up_k (by decide)
      have c963 : Is (Wm tB 9 (h14 75 9) (h14 75 7)) v47 := by rw [show h14 75 9 = h38 75 9 by first | decide | omega, show h14 75 7 = h38 75 7 by first | decide | omega]; exact c52
      have w964 : ¬ Wd tB tN 9 (sk tB tN (h 75 7)) := by rw [← c21]; exact Wd.no (by decide) (Is.no c963 (by first | decide | omega)) c22
      have w965 : ¬ Wd tB tN 10 (sk tB tN (h 75 7)) := by rw [← c21]; exact Wd.no (by decide) (Is.no c33 (by first | decide | omega)) c22
      have q966 : h38 75 7 = h14 75 7 := by rw [← e40]; exact x_up_k (by decide)
      have q967 : h38 75 9 = h14 75 9 := by rw [← e40]; exact x_up_k (by decide)
      have c968 : Is (Wm tB 9 (h14 75 9) (h14 75 7)) v47 := by rw [show h14 75 9 = h38 75 9 by first | decide | omega, show h14 75 7 = h38 75 7 by first | decide | omega]; exact c52
      have w969 : ¬ Wd tB tN 9 (sk tB tN (h 75 7)) := by rw [← c21]; exact Wd.no (by decide) (Is.no c968 (by first | decide | omega)) c22
      have q970 : h38 75 9 = h14 75 9 := by rw [← e40]; exact x_up_k (by decide)
      refine x_retI (np := 70) (x := 0) (by decide +kernel) (by decide) (Or.inr ⟨by decide +kernel, by first | decide | omega, by first | decide | omega⟩) ⟨_, rfl, (by decide), ?_⟩
      exact ⟨j39, f41, (by first | decide | omega), (fun z => by first | decide | omega), (fun z => by first | decide | omega), (fun z => by first | decide | omega), (fun z => by first | decide | omega), (fun z => by first | decide | omega), (fun z => by first | decide | omega), (fun z => absurd z (by first | decide | omega)), (Or.inr ⟨by first | decide | omega, (or9.f w964 rfl rfl (wd9.f w960 rfl (by first | decide | omega)))⟩), (fun _ => Or.inr ⟨by first | decide | omega, (oF.no w969 rfl rfl (wF.no w965 rfl (Eq.trans (show h38 75 9 = h14 75 9 by first | decide | omega) c21)))⟩)⟩
    have q37 : ¬ (v28 = 2147483648) := q37
    have b971 := c32 (by first | decide | omega)
    refine x_const (np := 45) (x := 9223372043297226753) (a := 2147483649) (by decide +kernel) (by decide) (by decide) ?_
    refine x_goto (np := 48) (x := 49) (by decide +kernel) ?_
    refine x_ast (np := 50) (x := 0) (kd := 1) (n := 290) (i := (200 + 5 * u8)) (by decide +kernel) (Or.inl rfl) (by decide +kernel) (by first | decide | omega) (by first | decide | omega) (by decide) (by decide) (fun z => absurd z (by decide)) ?_
    have j973 := jU (e := (200 + 5 * u8)) (v := 2147483649) u8 j15 rg_78_200_5_10 (by first | decide | omega) (by first | decide | omega) (by first | decide | omega)
    have f975 := jF (e := (200 + 5 * u8)) (v := 2147483649) u8 f23 rg_78_200_5_10 (by first | decide | omega) (by first | decide | omega) (by decide)
    generalize e974 : x_up h14 78 (200 + 5 * u8) 2147483649 = h972 at j973 f975 ⊢
    refine x_aload (np := 51) (x := 0) (by decide +kernel) rfl (x_nc_le (by decide)) ?_
    have q976 : h972 75 3 = 78 := by have z := jB (e := 3) 0 j973 rg_75_3_0_1 (by decide) (by decide); omega
    refine x_getR (np := 54) (x := 707) (f := 3) (q := 78) (by decide +kernel) (by decide) (by decide +kernel) q976 ?_
    refine x_iload (np := 55) (x := 1) (by decide +kernel) rfl (by first | decide | omega) ?_
    have q977 : h972 78 (200 + 5 * u8) = 2147483649 := by rw [← e974]; exact x_up_at
    refine x_aldC (np := 56) (x := 0) (n := 290) (i := (200 + 5 * u8)) (q := 2147483649) (by decide +kernel) (by decide +kernel) (by first | decide | omega) (by first | decide | omega) (by decide) q977 (fun l978 => ?_)
    refine x_ifz (k := 1) (tg := 70) (np := 59) (by decide +kernel) (by decide) (by decide) (fun q979 => ?_) (fun q980 => ?_)
    · have q979 : 2147483649 ≠ 2147483648 := q979
      refine x_aload (np := 71) (x := 0) (by decide +kernel) rfl (x_nc_le (by decide)) ?_
      refine x_iload (np := 72) (x := 1) (by decide +kernel) rfl (by first | decide | omega) ?_
      refine x_const (np := 73) (x := 9223372043297226753) (a := 2147483649) (by decide +kernel) (by decide) (by decide) ?_
      refine x_iadd (np := 74) (x := 0) (v := (2147483849 + 5 * u8)) (by decide +kernel) (by first | decide | omega) (by decide) (by first | decide | omega) (by first | decide | omega) ?_
      refine x_nI (t := 6) (mj := 177) (n := 2) (rc := 12) (ml := 2) (nr := 0) (np := 77) (as := [x_r 75, iv_c (2147483849 + 5 * u8)]) (rest := []) (lo1 := [x_r 75, iv_c (2147483849 + 5 * u8)]) (by decide +kernel) (by decide) (by decide +kernel) (x_rb_of (by decide +kernel)) rfl rfl (x_wr (by decide) (x_wi (by first | decide | omega) x_wn)) x_wn (by decide) rfl ?_
      refine x_aload (np := 1) (x := 0) (by decide +kernel) rfl (x_nc_le (by decide)) ?_
      refine x_iload (np := 2) (x := 1) (by decide +kernel) rfl (by first | decide | omega) ?_
      refine x_aload (np := 3) (x := 0) (by decide +kernel) rfl (x_nc_le (by decide)) ?_
      refine x_const (np := 4) (x := 9223372039002259456) (a := 2147483648) (by decide +kernel) (by decide) (by decide) ?_
      refine x_aload (np := 5) (x := 0) (by decide +kernel) rfl (x_nc_le (by decide)) ?_
      refine x_nI (t := 6) (mj := 157) (n := 1) (rc := 12) (ml := 1) (nr := 4) (np := 8) (as := [x_r 75]) (rest := [iv_c 2147483648, x_r 75, iv_c (2147483849 + 5 * u8), x_r 75]) (lo1 := [x_r 75]) (by decide +kernel) (by decide) (by decide +kernel) (x_rb_of (by decide +kernel)) rfl rfl (x_wr (by decide) x_wn) (x_wi (by decide) (x_wr (by decide) (x_wi (by first | decide | omega) (x_wr (by decide) x_wn)))) (by decide) rfl ?_
      refine x_aload (np := 1) (x := 0) (by decide +kernel) rfl (x_nc_le (by decide)) ?_
      have q981 : h972 75 1 = 76 := by have z := jB (e := 1) 0 j973 rg_75_1_0_1 (by decide) (by decide); omega
      refine x_getR (np := 4) (x := 705) (f := 1) (q := 76) (by decide +kernel) (by decide) (by decide +kernel) q981 ?_
      refine x_const (np := 5) (x := 9223372039002259456) (a := 2147483648) (by decide +kernel) (by decide) (by decide) ?_
      have q982 : h972 76 0 = h14 76 0 := by rw [← e974]; exact x_up_k (by decide)
      have q983 : h14 76 0 = h 76 0 := jK 0 f16 rg_76_0_0_1 (by first | decide | omega) (by first | decide | omega) (by decide)
      have b984 := jB (e := 0) 0 hJ rg_76_0_0_1 (by first | decide | omega) (by first | decide | omega)
      refine x_aldC (np := 6) (x := 0) (n := 1952) (i := 0) (q := (h 76 0)) (by decide +kernel) (by decide +kernel) (by first | decide | omega) (by first | decide | omega) (by decide) (q982.trans q983) (fun l985 => ?_)
      refine x_retI (np := 7) (x := 0) (by decide +kernel) l985 (Or.inl (by decide +kernel)) ⟨_, rfl, l985, ?_⟩
      refine x_const (np := 9) (x := 9223372043297226753) (a := 2147483649) (by decide +kernel) (by decide) (by decide) ?_
      obtain ⟨v986, q987⟩ : ∃ z, z + 2147483649 = (h 76 0) + 2147483648 := ⟨(h 76 0) + 2147483648 - 2147483649, by first | decide | omega⟩
      refine x_isub (np := 10) (x := 0) (v := v986) (by decide +kernel) l985 (by decide) (by first | decide | omega) (by first | decide | omega) ?_
      have m991 : Tq tB tN h972 := by rw [← e974]; exact Tq.oth m31 (by decide) (fun z => absurd z.1 (by decide))
      refine x_cI (t := 6) (mj := 174) (n := 3) (rc := 12) (ml := 4) (nr := 2) (np := 13) (as := [x_r 75, iv_c 2147483648, iv_c v986]) (rest := [iv_c (2147483849 + 5 * u8), x_r 75]) (lo1 := [x_r 75, iv_c 2147483648, iv_c v986, 147573952589676412928]) (by decide +kernel) (by decide) (by decide +kernel) (x_rb_of (by decide +kernel)) rfl rfl (x_wr (by decide) (x_wi (by decide) (x_wi (by first | decide | omega) x_wn))) (x_wi (by first | decide | omega) (x_wr (by decide) x_wn)) (by decide) rfl (c174_75 j973  (by first | decide | omega) (by first | decide | omega) m991) (fun v988 h992 l989 q990 => ?_)
      obtain ⟨j993, f994, b995, c996, c997, c998, c999, c1000, c1001, c1002⟩ := q990
      have f1003 := Fr.trans f975 f994 (by decide)
      have q1004 : h972 75 7 = h14 75 7 := by rw [← e974]; exact x_up_k (by decide)
      have b1005 := jB (e := 7) 0 j993 rg_75_7_0_1 (by first | decide | omega) (by first | decide | omega)
      have q1006 : h972 75 7 = h14 75 7 := by rw [← e974]; exact x_up_k (by decide)
      have b1007 := c1000 (by first | decide | omega)
      refine x_nI (t := 6) (mj := 176) (n := 3) (rc := 12) (ml := 3) (nr := 0) (np := 16) (as := [x_r 75, iv_c (2147483849 + 5 * u8), iv_c v988]) (rest := []) (lo1 := [x_r 75, iv_c (2147483849 + 5 * u8), iv_c v988]) (by decide +kernel) (by decide) (by decide +kernel) (x_rb_of (by decide +kernel)) rfl rfl (x_wr (by decide) (x_wi (by first | decide | omega) (x_wi l989 x_wn))) x_wn (by decide) rfl ?_
      refine x_aload (np := 1) (x := 0) (by decide +kernel) rfl (x_nc_le (by decide)) ?_
      have q1008 : h992 75 3 = 78 := by have z := jB (e := 3) 0 j993 rg_75_3_0_1 (by decide) (by decide); omega
      refine x_getR (np := 4) (x := 707) (f := 3) (q := 78) (by decide +kernel) (by decide) (by decide +kernel) q1008 ?_
      refine x_iload (np := 5) (x := 1) (by decide +kernel) rfl (by first | decide | omega) ?_
      refine x_iload (np := 6) (x := 2) (by decide +kernel) rfl l989 ?_
      refine x_ast (np := 7) (x := 0) (kd := 1) (n := 290) (i := (201 + 5 * u8)) (by decide +kernel) (Or.inl rfl) (by decide +kernel) (by first | decide | omega) (by first | decide | omega) (by decide) l989 (fun z => absurd z (by decide)) ?_
      have j1010 := jU (e := (201 + 5 * u8)) (v := v988) u8 j993 rg_78_201_5_10 (by first | decide | omega) (by first | decide | omega) (by first | decide | omega)
      have f1012 := jF (e := (201 + 5 * u8)) (v := v988) u8 f1003 rg_78_201_5_10 (by first | decide | omega) (by first | decide | omega) (by decide)
      generalize e1011 : x_up h992 78 (201 + 5 * u8) v988 = h1009 at j1010 f1012 ⊢
      refine x_iload (np := 8) (x := 2) (by decide +kernel) rfl l989 ?_
      refine x_ifz (k := 2) (tg := 15) (np := 11) (by decide +kernel) (by decide) l989 (fun q1013 => ?_) (fun q1014 => ?_)
      · have q1013 : v988 < 2147483648 := q1013
        refine x_const (np := 16) (x := 9223372039002259456) (a := 2147483648) (by decide +kernel) (by decide) (by decide) ?_
        refine x_retI (np := 17) (x := 0) (by decide +kernel) (by decide) (Or.inr ⟨by decide +kernel, by first | decide | omega, by first | decide | omega⟩) ⟨_, rfl, (by decide), ?_⟩
        refine x_retI (np := 17) (x := 0) (by decide +kernel) (by decide) (Or.inr ⟨by decide +kernel, by first | decide | omega, by first | decide | omega⟩) ⟨_, rfl, (by decide), ?_⟩
        refine x_ifz (k := 0) (tg := 154) (np := 80) (by decide +kernel) (by decide) (by decide) (fun q1015 => ?_) (fun q1016 => ?_)
        · have q1015 : 2147483648 = 2147483648 := q1015
          refine x_const (np := 155) (x := 9223372039002259456) (a := 2147483648) (by decide +kernel) (by decide) (by decide) ?_
          have b1017 := jB (e := 0) 0 hJ rg_78_0_0_1 (by first | decide | omega) (by first | decide | omega)
          have q1018 : h1009 78 0 = h992 78 0 := by rw [← e1011]; exact x_up_i (by first | decide | omega)
          have q1019 : h992 78 0 = h972 78 0 := jK 0 f994 rg_78_0_0_1 (by first | decide | omega) (by first | decide | omega) (by decide)
          have q1020 : h972 78 0 = h14 78 0 := by rw [← e974]; exact x_up_i (by first | decide | omega)
          have q1021 : h14 78 0 = h 78 0 := jK 0 f16 rg_78_0_0_1 (by first | decide | omega) (by first | decide | omega) (by decide)
          have q1022 : h1009 78 1 = h992 78 1 := by rw [← e1011]; exact x_up_i (by first | decide | omega)
          have q1023 : h992 78 1 = h972 78 1 := jK 0 f994 rg_78_1_0_1 (by first | decide | omega) (by first | decide | omega) (by decide)
          have q1024 : h972 78 1 = h14 78 1 := by rw [← e974]; exact x_up_i (by first | decide | omega)
          have q1025 : h14 78 1 = h 78 1 := jK 0 f16 rg_78_1_0_1 (by first | decide | omega) (by first | decide | omega) (by decide)
          have b1026 := jB (e := 2) 0 hJ rg_78_2_0_1 (by first | decide | omega) (by first | decide | omega)
          have q1027 : h1009 78 2 = h992 78 2 := by rw [← e1011]; exact x_up_i (by first | decide | omega)
          have q1028 : h992 78 2 = h972 78 2 := jK 0 f994 rg_78_2_0_1 (by first | decide | omega) (by first | decide | omega) (by decide)
          have q1029 : h972 78 2 = h14 78 2 := by rw [← e974]; exact x_up_i (by first | decide | omega)
          have q1030 : h14 78 2 = h 78 2 := jK 0 f16 rg_78_2_0_1 (by first | decide | omega) (by first | decide | omega) (by decide)
          have b1031 := jB (e := 3) 0 hJ rg_78_3_0_1 (by first | decide | omega) (by first | decide | omega)
          have q1032 : h1009 78 3 = h992 78 3 := by rw [← e1011]; exact x_up_i (by first | decide | omega)
          have q1033 : h992 78 3 = h972 78 3 := jK 0 f994 rg_78_3_0_1 (by first | decide | omega) (by first | decide | omega) (by decide)
          have q1034 : h972 78 3 = h14 78 3 := by rw [← e974]; exact x_up_i (by first | decide | omega)
          have q1035 : h14 78 3 = h 78 3 := jK 0 f16 rg_78_3_0_1 (by first | decide | omega) (by first | decide | omega) (by decide)
          have q1036 : h1009 78 4 = h992 78 4 := by rw [← e1011]; exact x_up_i (by first | decide | omega)
          have q1037 : h992 78 4 = h972 78 4 := jK 0 f994 rg_78_4_0_1 (by first | decide | omega) (by first | decide | omega) (by decide)
          have q1038 : h972 78 4 = h14 78 4 := by rw [← e974]; exact x_up_i (by first | decide | omega)
          have q1039 : h14 78 4 = h 78 4 := jK 0 f16 rg_78_4_0_1 (by first | decide | omega) (by first | decide | omega) (by decide)
          have b1040 := jB (e := 5) 0 hJ rg_78_5_0_1 (by first | decide | omega) (by first | decide | omega)
          have q1041 : h1009 78 5 = h992 78 5 := by rw [← e1011]; exact x_up_i (by first | decide | omega)
          have q1042 : h992 78 5 = h972 78 5 := jK 0 f994 rg_78_5_0_1 (by first | decide | omega) (by first | decide | omega) (by decide)
          have q1043 : h972 78 5 = h14 78 5 := by rw [← e974]; exact x_up_i (by first | decide | omega)
          have q1044 : h14 78 5 = h 78 5 := jK 0 f16 rg_78_5_0_1 (by first | decide | omega) (by first | decide | omega) (by decide)
          have y1045 := Is.yes c33 (by first | decide | omega)
          have w1046 : Wd tB tN 10 (sk tB tN (h 75 7)) := by rw [← c21]; exact Wd.of' (by decide) y1045 c22
          have e1047 : sk tB tN (h14 75 7) = sk tB tN ((sk tB tN (h 75 7)) + iv_tl 10) := by rw [← c21, ← y1045.1]
          have q1048 : h972 75 7 = h14 75 7 := by rw [← e974]; exact x_up_k (by decide)
          have y1049 := Is.yes c33 (by first | decide | omega)
          have w1050 : Wd tB tN 10 (sk tB tN (h 75 7)) := by rw [← c21]; exact Wd.of' (by decide) y1049 c22
          have e1051 : sk tB tN (h14 75 7) = sk tB tN ((sk tB tN (h 75 7)) + iv_tl 10) := by rw [← c21, ← y1049.1]
          have q1052 : h972 75 7 = h14 75 7 := by rw [← e974]; exact x_up_k (by decide)
          have q1053 : h1009 75 9 = h992 75 9 := by rw [← e1011]; exact x_up_k (by decide)
          have b1054 := jB (e := 9) 0 j993 rg_75_9_0_1 (by first | decide | omega) (by first | decide | omega)
          refine x_retI (np := 156) (x := 0) (by decide +kernel) (by decide) (Or.inr ⟨by decide +kernel, by first | decide | omega, by first | decide | omega⟩) ⟨_, rfl, (by decide), ?_⟩
          exact ⟨j1010, f1012, (by first | decide | omega), (fun z => by first | decide | omega), (fun z => by first | decide | omega), (fun z => by first | decide | omega), (fun z => by first | decide | omega), (fun z => by first | decide | omega), (fun z => by first | decide | omega), (fun z => absurd z (by first | decide | omega)), (Or.inr ⟨by first | decide | omega, (or9.f (wd_910 w1046) rfl rfl (wd9.y w1046 rfl e1047 rfl (nm9.f c1001 (by first | decide | omega) (by first | decide | omega) (congrArg (sk tB tN) (show h972 75 7 = h14 75 7 by first | decide | omega)) (by first | decide | omega) (by first | decide | omega))))⟩), (fun _ => Or.inr ⟨by first | decide | omega, (oF.no (wd_910 w1050) rfl rfl (wF.y w1050 rfl e1051 rfl (mF.no c1001 (by first | decide | omega) (by first | decide | omega) (congrArg (sk tB tN) (show h972 75 7 = h14 75 7 by first | decide | omega)) (by first | decide | omega) (Eq.trans (show h1009 75 9 = h992 75 9 by first | decide | omega) c1002))))⟩)⟩
        have q1016 : ¬ (2147483648 = 2147483648) := q1016
        exfalso; omega
      have q1014 : ¬ (v988 < 2147483648) := q1014
      have b1055 := c997 (by first | decide | omega)
      have b1056 := c998 (by first | decide | omega)
      have b1057 := c999 (by first | decide | omega)
      refine x_const (np := 12) (x := 9223372043297226753) (a := 2147483649) (by decide +kernel) (by decide) (by decide) ?_
      refine x_goto (np := 15) (x := 16) (by decide +kernel) ?_
      refine x_retI (np := 17) (x := 0) (by decide +kernel) (by decide) (Or.inr ⟨by decide +kernel, by first | decide | omega, by first | decide | omega⟩) ⟨_, rfl, (by decide), ?_⟩
      refine x_retI (np := 17) (x := 0) (by decide +kernel) (by decide) (Or.inr ⟨by decide +kernel, by first | decide | omega, by first | decide | omega⟩) ⟨_, rfl, (by decide), ?_⟩
      refine x_ifz (k := 0) (tg := 154) (np := 80) (by decide +kernel) (by decide) (by decide) (fun q1058 => ?_) (fun q1059 => ?_)
      · have q1058 : 2147483649 = 2147483648 := q1058
        exfalso; omega
      have q1059 : ¬ (2147483649 = 2147483648) := q1059
      refine x_aload (np := 81) (x := 0) (by decide +kernel) rfl (x_nc_le (by decide)) ?_
      refine x_ldcB (i := 2) (idx := 147) (tx := "day") (by rw [tb_y184]; exact List.mem_of_getElem? (i := 37) rfl) (by decide) (by rw [tb_b184]; decide +kernel) ?_
      have m1064 := Tq.fr m991 f994 (by decide) (by decide)
      have m1063 : Tq tB tN h1009 := by rw [← e1011]; exact Tq.oth m1064 (by decide) (fun z => absurd z.1 (by decide))
      refine x_cI (t := 6) (mj := 172) (n := 2) (rc := 12) (ml := 2) (nr := 0) (np := 86) (as := [x_r 75, x_b (2 + 1)]) (rest := []) (lo1 := [x_r 75, x_b (2 + 1)]) (by decide +kernel) (by decide) (by decide +kernel) (x_rb_of (by decide +kernel)) rfl rfl (x_wr (by decide) (x_wB (by decide) x_wn)) x_wn (by decide) rfl (c172_75_S0 j1010  (by decide) m1063) (fun v1060 h1065 l1061 q1062 => ?_)
      obtain ⟨j1066, f1067, b1068, c1069, c1070, c1071, c1072⟩ := q1062
      have f1073 := Fr.trans f1012 f1067 (by decide)
      have q1074 : h1009 75 7 = h992 75 7 := by rw [← e1011]; exact x_up_k (by decide)
      have b1075 := jB (e := 7) 0 j1066 rg_75_7_0_1 (by first | decide | omega) (by first | decide | omega)
      have q1076 : h1009 75 7 = h992 75 7 := by rw [← e1011]; exact x_up_k (by decide)
      refine x_ifz (k := 0) (tg := 154) (np := 89) (by decide +kernel) (by decide) l1061 (fun q1077 => ?_) (fun q1078 => ?_)
      · have q1077 : v1060 = 2147483648 := q1077
        refine x_const (np := 155) (x := 9223372039002259456) (a := 2147483648) (by decide +kernel) (by decide) (by decide) ?_
        have b1079 := jB (e := 0) 0 hJ rg_78_0_0_1 (by first | decide | omega) (by first | decide | omega)
        have q1080 : h1065 78 0 = h1009 78 0 := jK 0 f1067 rg_78_0_0_1 (by first | decide | omega) (by first | decide | omega) (by decide)
        have q1081 : h1009 78 0 = h992 78 0 := by rw [← e1011]; exact x_up_i (by first | decide | omega)
        have q1082 : h992 78 0 = h972 78 0 := jK 0 f994 rg_78_0_0_1 (by first | decide | omega) (by first | decide | omega) (by decide)
        have q1083 : h972 78 0 = h14 78 0 := by rw [← e974]; exact x_up_i (by first | decide | omega)
        have q1084 : h14 78 0 = h 78 0 := jK 0 f16 rg_78_0_0_1 (by first | decide | omega) (by first | decide | omega) (by decide)
        have q1085 : h1065 78 1 = h1009 78 1 := jK 0 f1067 rg_78_1_0_1 (by first | decide | omega) (by first | decide | omega) (by decide)
        have q1086 : h1009 78 1 = h992 78 1 := by rw [← e1011]; exact x_up_i (by first | decide | omega)
        have q1087 : h992 78 1 = h972 78 1 := jK 0 f994 rg_78_1_0_1 (by first | decide | omega) (by first | decide | omega) (by decide)
        have q1088 : h972 78 1 = h14 78 1 := by rw [← e974]; exact x_up_i (by first | decide | omega)
        have q1089 : h14 78 1 = h 78 1 := jK 0 f16 rg_78_1_0_1 (by first | decide | omega) (by first | decide | omega) (by decide)
        have b1090 := jB (e := 2) 0 hJ rg_78_2_0_1 (by first | decide | omega) (by first | decide | omega)
        have q1091 : h1065 78 2 = h1009 78 2 := jK 0 f1067 rg_78_2_0_1 (by first | decide | omega) (by first | decide | omega) (by decide)
        have q1092 : h1009 78 2 = h992 78 2 := by rw [← e1011]; exact x_up_i (by first | decide | omega)
        have q1093 : h992 78 2 = h972 78 2 := jK 0 f994 rg_78_2_0_1 (by first | decide | omega) (by first | decide | omega) (by decide)
        have q1094 : h972 78 2 = h14 78 2 := by rw [← e974]; exact x_up_i (by first | decide | omega)
        have q1095 : h14 78 2 = h 78 2 := jK 0 f16 rg_78_2_0_1 (by first | decide | omega) (by first | decide | omega) (by decide)
        have b1096 := jB (e := 3) 0 hJ rg_78_3_0_1 (by first | decide | omega) (by first | decide | omega)
        have q1097 : h1065 78 3 = h1009 78 3 := jK 0 f1067 rg_78_3_0_1 (by first | decide | omega) (by first | decide | omega) (by decide)
        have q1098 : h1009 78 3 = h992 78 3 := by rw [← e1011]; exact x_up_i (by first | decide | omega)
        have q1099 : h992 78 3 = h972 78 3 := jK 0 f994 rg_78_3_0_1 (by first | decide | omega) (by first | decide | omega) (by decide)
        have q1100 : h972 78 3 = h14 78 3 := by rw [← e974]; exact x_up_i (by first | decide | omega)
        have q1101 : h14 78 3 = h 78 3 := jK 0 f16 rg_78_3_0_1 (by first | decide | omega) (by first | decide | omega) (by decide)
        have q1102 : h1065 78 4 = h1009 78 4 := jK 0 f1067 rg_78_4_0_1 (by first | decide | omega) (by first | decide | omega) (by decide)
        have q1103 : h1009 78 4 = h992 78 4 := by rw [← e1011]; exact x_up_i (by first | decide | omega)
        have q1104 : h992 78 4 = h972 78 4 := jK 0 f994 rg_78_4_0_1 (by first | decide | omega) (by first | decide | omega) (by decide)
        have q1105 : h972 78 4 = h14 78 4 := by rw [← e974]; exact x_up_i (by first | decide | omega)
        have q1106 : h14 78 4 = h 78 4 := jK 0 f16 rg_78_4_0_1 (by first | decide | omega) (by first | decide | omega) (by decide)
        have b1107 := jB (e := 5) 0 hJ rg_78_5_0_1 (by first | decide | omega) (by first | decide | omega)
        have q1108 : h1065 78 5 = h1009 78 5 := jK 0 f1067 rg_78_5_0_1 (by first | decide | omega) (by first | decide | omega) (by decide)
        have q1109 : h1009 78 5 = h992 78 5 := by rw [← e1011]; exact x_up_i (by first | decide | omega)
        have q1110 : h992 78 5 = h972 78 5 := jK 0 f994 rg_78_5_0_1 (by first | decide | omega) (by first | decide | omega) (by decide)
        have q1111 : h972 78 5 = h14 78 5 := by rw [← e974]; exact x_up_i (by first | decide | omega)
        have q1112 : h14 78 5 = h 78 5 := jK 0 f16 rg_78_5_0_1 (by first | decide | omega) (by first | decide | omega) (by decide)
        have y1113 := Is.yes c33 (by first | decide | omega)
        have w1114 : Wd tB tN 10 (sk tB tN (h 75 7)) := by rw [← c21]; exact Wd.of' (by decide) y1113 c22
        have e1115 : sk tB tN (h14 75 7) = sk tB tN ((sk tB tN (h 75 7)) + iv_tl 10) := by rw [← c21, ← y1113.1]
        have q1116 : h972 75 7 = h14 75 7 := by rw [← e974]; exact x_up_k (by decide)
        have q1117 : h1009 75 7 = h992 75 7 := by rw [← e1011]; exact x_up_k (by decide)
        have y1118 := Is.yes c33 (by first | decide | omega)
        have w1119 : Wd tB tN 10 (sk tB tN (h 75 7)) := by rw [← c21]; exact Wd.of' (by decide) y1118 c22
        have e1120 : sk tB tN (h14 75 7) = sk tB tN ((sk tB tN (h 75 7)) + iv_tl 10) := by rw [← c21, ← y1118.1]
        have q1121 : h972 75 7 = h14 75 7 := by rw [← e974]; exact x_up_k (by decide)
        have q1122 : h1009 75 7 = h992 75 7 := by rw [← e1011]; exact x_up_k (by decide)
        refine x_retI (np := 156) (x := 0) (by decide +kernel) (by decide) (Or.inr ⟨by decide +kernel, by first | decide | omega, by first | decide | omega⟩) ⟨_, rfl, (by decide), ?_⟩
        exact ⟨j1066, f1073, (by first | decide | omega), (fun z => by first | decide | omega), (fun z => by first | decide | omega), (fun z => by first | decide | omega), (fun z => by first | decide | omega), (fun z => by first | decide | omega), (fun z => by first | decide | omega), (fun z => absurd z (by first | decide | omega)), (Or.inr ⟨by first | decide | omega, (or9.f (wd_910 w1114) rfl rfl (wd9.y w1114 rfl e1115 rfl (nm9.y c1001 (by first | decide | omega) (by first | decide | omega) (congrArg (sk tB tN) (show h972 75 7 = h14 75 7 by first | decide | omega)) (by first | decide | omega) rfl (wd9.f (Tw.no c1071 (by first | decide | omega)) (congrArg (sk tB tN) (show h1009 75 7 = h992 75 7 by first | decide | omega)) (by first | decide | omega)))))⟩), (fun _ => Or.inr ⟨by first | decide | omega, (oF.no (wd_910 w1119) rfl rfl (wF.y w1119 rfl e1120 rfl (mF.y c1001 (by first | decide | omega) (by first | decide | omega) (congrArg (sk tB tN) (show h972 75 7 = h14 75 7 by first | decide | omega)) (by first | decide | omega) rfl (wF.no (Tw.no c1071 (by first | decide | omega)) (congrArg (sk tB tN) (show h1009 75 7 = h992 75 7 by first | decide | omega)) c1072))))⟩)⟩
      have q1078 : ¬ (v1060 = 2147483648) := q1078
      have b1123 := c1070 (by first | decide | omega)
      refine x_aload (np := 90) (x := 0) (by decide +kernel) rfl (x_nc_le (by decide)) ?_
      refine x_iload (np := 91) (x := 1) (by decide +kernel) rfl (by first | decide | omega) ?_
      refine x_const (np := 92) (x := 9223372047592194050) (a := 2147483650) (by decide +kernel) (by decide) (by decide) ?_
      refine x_iadd (np := 93) (x := 0) (v := (2147483850 + 5 * u8)) (by decide +kernel) (by first | decide | omega) (by decide) (by first | decide | omega) (by first | decide | omega) ?_
      refine x_const (np := 94) (x := 9223372039002259456) (a := 2147483648) (by decide +kernel) (by decide) (by decide) ?_
      refine x_nI (t := 6) (mj := 178) (n := 3) (rc := 12) (ml := 3) (nr := 0) (np := 97) (as := [x_r 75, iv_c (2147483850 + 5 * u8), iv_c 2147483648]) (rest := []) (lo1 := [x_r 75, iv_c (2147483850 + 5 * u8), iv_c 2147483648]) (by decide +kernel) (by decide) (by decide +kernel) (x_rb_of (by decide +kernel)) rfl rfl (x_wr (by decide) (x_wi (by first | decide | omega) (x_wi (by decide) x_wn))) x_wn (by decide) rfl ?_
      refine x_aload (np := 1) (x := 0) (by decide +kernel) rfl (x_nc_le (by decide)) ?_
      refine x_iload (np := 2) (x := 1) (by decide +kernel) rfl (by first | decide | omega) ?_
      refine x_aload (np := 3) (x := 0) (by decide +kernel) rfl (x_nc_le (by decide)) ?_
      refine x_iload (np := 4) (x := 2) (by decide +kernel) rfl (by decide) ?_
      refine x_const (np := 6) (x := 9223372086246899723) (a := 2147483659) (by decide +kernel) (by decide) (by decide) ?_
      have m1127 := Tq.fr m1063 f1067 (by decide) (by decide)
      refine x_cI (t := 6) (mj := 174) (n := 3) (rc := 12) (ml := 4) (nr := 2) (np := 9) (as := [x_r 75, iv_c 2147483648, iv_c 2147483659]) (rest := [iv_c (2147483850 + 5 * u8), x_r 75]) (lo1 := [x_r 75, iv_c 2147483648, iv_c 2147483659, 147573952589676412928]) (by decide +kernel) (by decide) (by decide +kernel) (x_rb_of (by decide +kernel)) rfl rfl (x_wr (by decide) (x_wi (by decide) (x_wi (by decide) x_wn))) (x_wi (by first | decide | omega) (x_wr (by decide) x_wn)) (by decide) rfl (c174_75 j1066  (by first | decide | omega) (by first | decide | omega) m1127) (fun v1124 h1128 l1125 q1126 => ?_)
      obtain ⟨j1129, f1130, b1131, c1132, c1133, c1134, c1135, c1136, c1137, c1138⟩ := q1126
      have f1139 := Fr.trans f1073 f1130 (by decide)
      have b1140 := jB (e := 7) 0 j1129 rg_75_7_0_1 (by first | decide | omega) (by first | decide | omega)
      have b1141 := c1136 (by first | decide | omega)
      refine x_nI (t := 6) (mj := 176) (n := 3) (rc := 12) (ml := 3) (nr := 0) (np := 12) (as := [x_r 75, iv_c (2147483850 + 5 * u8), iv_c v1124]) (rest := []) (lo1 := [x_r 75, iv_c (2147483850 + 5 * u8), iv_c v1124]) (by decide +kernel) (by decide) (by decide +kernel) (x_rb_of (by decide +kernel)) rfl rfl (x_wr (by decide) (x_wi (by first | decide | omega) (x_wi l1125 x_wn))) x_wn (by decide) rfl ?_
      refine x_aload (np := 1) (x := 0) (by decide +kernel) rfl (x_nc_le (by decide)) ?_
      have q1142 : h1128 75 3 = 78 := by have z := jB (e := 3) 0 j1129 rg_75_3_0_1 (by decide) (by decide); omega
      refine x_getR (np := 4) (x := 707) (f := 3) (q := 78) (by decide +kernel) (by decide) (by decide +kernel) q1142 ?_
      refine x_iload (np := 5) (x := 1) (by decide +kernel) rfl (by first | decide | omega) ?_
      refine x_iload (np := 6) (x := 2) (by decide +kernel) rfl l1125 ?_
      refine x_ast (np := 7) (x := 0) (kd := 1) (n := 290) (i := (202 + 5 * u8)) (by decide +kernel) (Or.inl rfl) (by decide +kernel) (by first | decide | omega) (by first | decide | omega) (by decide) l1125 (fun z => absurd z (by decide)) ?_
      have j1144 := jU (e := (202 + 5 * u8)) (v := v1124) u8 j1129 rg_78_202_5_10 (by first | decide | omega) (by first | decide | omega) (by first | decide | omega)
      have f1146 := jF (e := (202 + 5 * u8)) (v := v1124) u8 f1139 rg_78_202_5_10 (by first | decide | omega) (by first | decide | omega) (by decide)
      generalize e1145 : x_up h1128 78 (202 + 5 * u8) v1124 = h1143 at j1144 f1146 ⊢
      refine x_iload (np := 8) (x := 2) (by decide +kernel) rfl l1125 ?_
      refine x_ifz (k := 2) (tg := 15) (np := 11) (by decide +kernel) (by decide) l1125 (fun q1147 => ?_) (fun q1148 => ?_)
      · have q1147 : v1124 < 2147483648 := q1147
        refine x_const (np := 16) (x := 9223372039002259456) (a := 2147483648) (by decide +kernel) (by decide) (by decide) ?_
        refine x_retI (np := 17) (x := 0) (by decide +kernel) (by decide) (Or.inr ⟨by decide +kernel, by first | decide | omega, by first | decide | omega⟩) ⟨_, rfl, (by decide), ?_⟩
        refine x_retI (np := 13) (x := 0) (by decide +kernel) (by decide) (Or.inr ⟨by decide +kernel, by first | decide | omega, by first | decide | omega⟩) ⟨_, rfl, (by decide), ?_⟩
        refine x_ifz (k := 0) (tg := 154) (np := 100) (by decide +kernel) (by decide) (by decide) (fun q1149 => ?_) (fun q1150 => ?_)
        · have q1149 : 2147483648 = 2147483648 := q1149
          refine x_const (np := 155) (x := 9223372039002259456) (a := 2147483648) (by decide +kernel) (by decide) (by decide) ?_
          have b1151 := jB (e := 0) 0 hJ rg_78_0_0_1 (by first | decide | omega) (by first | decide | omega)
          have q1152 : h1143 78 0 = h1128 78 0 := by rw [← e1145]; exact x_up_i (by first | decide | omega)
          have q1153 : h1128 78 0 = h1065 78 0 := jK 0 f1130 rg_78_0_0_1 (by first | decide | omega) (by first | decide | omega) (by decide)
          have q1154 : h1065 78 0 = h1009 78 0 := jK 0 f1067 rg_78_0_0_1 (by first | decide | omega) (by first | decide | omega) (by decide)
          have q1155 : h1009 78 0 = h992 78 0 := by rw [← e1011]; exact x_up_i (by first | decide | omega)
          have q1156 : h992 78 0 = h972 78 0 := jK 0 f994 rg_78_0_0_1 (by first | decide | omega) (by first | decide | omega) (by decide)
          have q1157 : h972 78 0 = h14 78 0 := by rw [← e974]; exact x_up_i (by first | decide | omega)
          have q1158 : h14 78 0 = h 78 0 := jK 0 f16 rg_78_0_0_1 (by first | decide | omega) (by first | decide | omega) (by decide)
          have q1159 : h1143 78 1 = h1128 78 1 := by rw [← e1145]; exact x_up_i (by first | decide | omega)
          have q1160 : h1128 78 1 = h1065 78 1 := jK 0 f1130 rg_78_1_0_1 (by first | decide | omega) (by first | decide | omega) (by decide)
          have q1161 : h1065 78 1 = h1009 78 1 := jK 0 f1067 rg_78_1_0_1 (by first | decide | omega) (by first | decide | omega) (by decide)
          have q1162 : h1009 78 1 = h992 78 1 := by rw [← e1011]; exact x_up_i (by first | decide | omega)
          have q1163 : h992 78 1 = h972 78 1 := jK 0 f994 rg_78_1_0_1 (by first | decide | omega) (by first | decide | omega) (by decide)
          have q1164 : h972 78 1 = h14 78 1 := by rw [← e974]; exact x_up_i (by first | decide | omega)
          have q1165 : h14 78 1 = h 78 1 := jK 0 f16 rg_78_1_0_1 (by first | decide | omega) (by first | decide | omega) (by decide)
          have b1166 := jB (e := 2) 0 hJ rg_78_2_0_1 (by first | decide | omega) (by first | decide | omega)
          have q1167 : h1143 78 2 = h1128 78 2 := by rw [← e1145]; exact x_up_i (by first | decide | omega)
          have q1168 : h1128 78 2 = h1065 78 2 := jK 0 f1130 rg_78_2_0_1 (by first | decide | omega) (by first | decide | omega) (by decide)
          have q1169 : h1065 78 2 = h1009 78 2 := jK 0 f1067 rg_78_2_0_1 (by first | decide | omega) (by first | decide | omega) (by decide)
          have q1170 : h1009 78 2 = h992 78 2 := by rw [← e1011]; exact x_up_i (by first | decide | omega)
          have q1171 : h992 78 2 = h972 78 2 := jK 0 f994 rg_78_2_0_1 (by first | decide | omega) (by first | decide | omega) (by decide)
          have q1172 : h972 78 2 = h14 78 2 := by rw [← e974]; exact x_up_i (by first | decide | omega)
          have q1173 : h14 78 2 = h 78 2 := jK 0 f16 rg_78_2_0_1 (by first | decide | omega) (by first | decide | omega) (by decide)
          have b1174 := jB (e := 3) 0 hJ rg_78_3_0_1 (by first | decide | omega) (by first | decide | omega)
          have q1175 : h1143 78 3 = h1128 78 3 := by rw [← e1145]; exact x_up_i (by first | decide | omega)
          have q1176 : h1128 78 3 = h1065 78 3 := jK 0 f1130 rg_78_3_0_1 (by first | decide | omega) (by first | decide | omega) (by decide)
          have q1177 : h1065 78 3 = h1009 78 3 := jK 0 f1067 rg_78_3_0_1 (by first | decide | omega) (by first | decide | omega) (by decide)
          have q1178 : h1009 78 3 = h992 78 3 := by rw [← e1011]; exact x_up_i (by first | decide | omega)
          have q1179 : h992 78 3 = h972 78 3 := jK 0 f994 rg_78_3_0_1 (by first | decide | omega) (by first | decide | omega) (by decide)
          have q1180 : h972 78 3 = h14 78 3 := by rw [← e974]; exact x_up_i (by first | decide | omega)
          have q1181 : h14 78 3 = h 78 3 := jK 0 f16 rg_78_3_0_1 (by first | decide | omega) (by first | decide | omega) (by decide)
          have q1182 : h1143 78 4 = h1128 78 4 := by rw [← e1145]; exact x_up_i (by first | decide | omega)
          have q1183 : h1128 78 4 = h1065 78 4 := jK 0 f1130 rg_78_4_0_1 (by first | decide | omega) (by first | decide | omega) (by decide)
          have q1184 : h1065 78 4 = h1009 78 4 := jK 0 f1067 rg_78_4_0_1 (by first | decide | omega) (by first | decide | omega) (by decide)
          have q1185 : h1009 78 4 = h992 78 4 := by rw [← e1011]; exact x_up_i (by first | decide | omega)
          have q1186 : h992 78 4 = h972 78 4 := jK 0 f994 rg_78_4_0_1 (by first | decide | omega) (by first | decide | omega) (by decide)
          have q1187 : h972 78 4 = h14 78 4 := by rw [← e974]; exact x_up_i (by first | decide | omega)
          have q1188 : h14 78 4 = h 78 4 := jK 0 f16 rg_78_4_0_1 (by first | decide | omega) (by first | decide | omega) (by decide)
          have b1189 := jB (e := 5) 0 hJ rg_78_5_0_1 (by first | decide | omega) (by first | decide | omega)
          have q1190 : h1143 78 5 = h1128 78 5 := by rw [← e1145]; exact x_up_i (by first | decide | omega)
          have q1191 : h1128 78 5 = h1065 78 5 := jK 0 f1130 rg_78_5_0_1 (by first | decide | omega) (by first | decide | omega) (by decide)
          have q1192 : h1065 78 5 = h1009 78 5 := jK 0 f1067 rg_78_5_0_1 (by first | decide | omega) (by first | decide | omega) (by decide)
          have q1193 : h1009 78 5 = h992 78 5 := by rw [← e1011]; exact x_up_i (by first | decide | omega)
          have q1194 : h992 78 5 = h972 78 5 := jK 0 f994 rg_78_5_0_1 (by first | decide | omega) (by first | decide | omega) (by decide)
          have q1195 : h972 78 5 = h14 78 5 := by rw [← e974]; exact x_up_i (by first | decide | omega)
          have q1196 : h14 78 5 = h 78 5 := jK 0 f16 rg_78_5_0_1 (by first | decide | omega) (by first | decide | omega) (by decide)
          have y1197 := Is.yes c33 (by first | decide | omega)
          have w1198 : Wd tB tN 10 (sk tB tN (h 75 7)) := by rw [← c21]; exact Wd.of' (by decide) y1197 c22
          have e1199 : sk tB tN (h14 75 7) = sk tB tN ((sk tB tN (h 75 7)) + iv_tl 10) := by rw [← c21, ← y1197.1]
          have q1200 : h972 75 7 = h14 75 7 := by rw [← e974]; exact x_up_k (by decide)
          have q1201 : h1009 75 7 = h992 75 7 := by rw [← e1011]; exact x_up_k (by decide)
          obtain ⟨w1202, e1203⟩ := Tw.yes c1071 (by first | decide | omega)
          have y1204 := Is.yes c33 (by first | decide | omega)
          have w1205 : Wd tB tN 10 (sk tB tN (h 75 7)) := by rw [← c21]; exact Wd.of' (by decide) y1204 c22
          have e1206 : sk tB tN (h14 75 7) = sk tB tN ((sk tB tN (h 75 7)) + iv_tl 10) := by rw [← c21, ← y1204.1]
          have q1207 : h972 75 7 = h14 75 7 := by rw [← e974]; exact x_up_k (by decide)
          have q1208 : h1009 75 7 = h992 75 7 := by rw [← e1011]; exact x_up_k (by decide)
          obtain ⟨w1209, e1210⟩ := Tw.yes c1071 (by first | decide | omega)
          have q1211 : h1143 75 9 = h1128 75 9 := by rw [← e1145]; exact x_up_k (by decide)
          have b1212 := jB (e := 9) 0 j1129 rg_75_9_0_1 (by first | decide | omega) (by first | decide | omega)
          refine x_retI (np := 156) (x := 0) (by decide +kernel) (by decide) (Or.inr ⟨by decide +kernel, by first | decide | omega, by first | decide | omega⟩) ⟨_, rfl, (by decide), ?_⟩
          exact ⟨j1144, f1146, (by first | decide | omega), (fun z => by first | decide | omega), (fun z => by first | decide | omega), (fun z => by first | decide | omega), (fun z => by first | decide | omega), (fun z => by first | decide | omega), (fun z => by first | decide | omega), (fun z => absurd z (by first | decide | omega)), (Or.inr ⟨by first | decide | omega, (or9.f (wd_910 w1198) rfl rfl (wd9.y w1198 rfl e1199 rfl (nm9.y c1001 (by first | decide | omega) (by first | decide | omega) (congrArg (sk tB tN) (show h972 75 7 = h14 75 7 by first | decide | omega)) (by first | decide | omega) rfl (wd9.y w1202 (congrArg (sk tB tN) (show h1009 75 7 = h992 75 7 by first | decide | omega)) e1203 rfl (nm9.f c1137 (by first | decide | omega) (by first | decide | omega) rfl (by first | decide | omega) (by first | decide | omega))))))⟩), (fun _ => Or.inr ⟨by first | decide | omega, (oF.no (wd_910 w1205) rfl rfl (wF.y w1205 rfl e1206 rfl (mF.y c1001 (by first | decide | omega) (by first | decide | omega) (congrArg (sk tB tN) (show h972 75 7 = h14 75 7 by first | decide | omega)) (by first | decide | omega) rfl (wF.y w1209 (congrArg (sk tB tN) (show h1009 75 7 = h992 75 7 by first | decide | omega)) e1210 rfl (mF.no c1137 (by first | decide | omega) (by first | decide | omega) rfl (by first | decide | omega) (Eq.trans (show h1143 75 9 = h1128 75 9 by first | decide | omega) c1138))))))⟩)⟩
        have q1150 : ¬ (2147483648 = 2147483648) := q1150
        exfalso; omega
      have q1148 : ¬ (v1124 < 2147483648) := q1148
      have b1213 := c1133 (by first | decide | omega)
      have b1214 := c1134 (by first | decide | omega)
      have b1215 := c1135 (by first | decide | omega)
      refine x_const (np := 12) (x := 9223372043297226753) (a := 2147483649) (by decide +kernel) (by decide) (by decide) ?_
      refine x_goto (np := 15) (x := 16) (by decide +kernel) ?_
      refine x_retI (np := 17) (x := 0) (by decide +kernel) (by decide) (Or.inr ⟨by decide +kernel, by first | decide | omega, by first | decide | omega⟩) ⟨_, rfl, (by decide), ?_⟩
      refine x_retI (np := 13) (x := 0) (by decide +kernel) (by decide) (Or.inr ⟨by decide +kernel, by first | decide | omega, by first | decide | omega⟩) ⟨_, rfl, (by decide), ?_⟩
      refine x_ifz (k := 0) (tg := 154) (np := 100) (by decide +kernel) (by decide) (by decide) (fun q1216 => ?_) (fun q1217 => ?_)
      · have q1216 : 2147483649 = 2147483648 := q1216
        exfalso; omega
      have q1217 : ¬ (2147483649 = 2147483648) := q1217
      refine x_aload (np := 101) (x := 0) (by decide +kernel) rfl (x_nc_le (by decide)) ?_
      refine x_ldcB (i := 11) (idx := 173) (tx := "judged") (by rw [tb_y184]; exact List.mem_of_getElem? (i := 50) rfl) (by decide) (by rw [tb_b184]; decide +kernel) ?_
      have m1222 := Tq.fr m1127 f1130 (by decide) (by decide)
      have m1221 : Tq tB tN h1143 := by rw [← e1145]; exact Tq.oth m1222 (by decide) (fun z => absurd z.1 (by decide))
      refine x_cI (t := 6) (mj := 172) (n := 2) (rc := 12) (ml := 2) (nr := 0) (np := 106) (as := [x_r 75, x_b (11 + 1)]) (rest := []) (lo1 := [x_r 75, x_b (11 + 1)]) (by decide +kernel) (by decide) (by decide +kernel) (x_rb_of (by decide +kernel)) rfl rfl (x_wr (by decide) (x_wB (by decide) x_wn)) x_wn (by decide) rfl (c172_75_S0 j1144  (by decide) m1221) (fun v1218 h1223 l1219 q1220 => ?_)
      obtain ⟨j1224, f1225, b1226, c1227, c1228, c1229, c1230⟩ := q1220
      have f1231 := Fr.trans f1146 f1225 (by decide)
      have q1232 : h1143 75 7 = h1128 75 7 := by rw [← e1145]; exact x_up_k (by decide)
      have b1233 := jB (e := 7) 0 j1224 rg_75_7_0_1 (by first | decide | omega) (by first | decide | omega)
      have q1234 : h1143 75 7 = h1128 75 7 := by rw [← e1145]; exact x_up_k (by decide)
      refine x_ifz (k := 0) (tg := 154) (np := 109) (by decide +kernel) (by decide) l1219 (fun q1235 => ?_) (fun q1236 => ?_)
      · have q1235 : v1218 = 2147483648 := q1235
        refine x_const (np := 155) (x := 9223372039002259456) (a := 2147483648) (by decide +kernel) (by decide) (by decide) ?_
        have b1237 := jB (e := 0) 0 hJ rg_78_0_0_1 (by first | decide | omega) (by first | decide | omega)
        have q1238 : h1223 78 0 = h1143 78 0 := jK 0 f1225 rg_78_0_0_1 (by first | decide | omega) (by first | decide | omega) (by decide)
        have q1239 : h1143 78 0 = h1128 78 0 := by rw [← e1145]; exact x_up_i (by first | decide | omega)
        have q1240 : h1128 78 0 = h1065 78 0 := jK 0 f1130 rg_78_0_0_1 (by first | decide | omega) (by first | decide | omega) (by decide)
        have q1241 : h1065 78 0 = h1009 78 0 := jK 0 f1067 rg_78_0_0_1 (by first | decide | omega) (by first | decide | omega) (by decide)
        have q1242 : h1009 78 0 = h992 78 0 := by rw [← e1011]; exact x_up_i (by first | decide | omega)
        have q1243 : h992 78 0 = h972 78 0 := jK 0 f994 rg_78_0_0_1 (by first | decide | omega) (by first | decide | omega) (by decide)
        have q1244 : h972 78 0 = h14 78 0 := by rw [← e974]; exact x_up_i (by first | decide | omega)
        have q1245 : h14 78 0 = h 78 0 := jK 0 f16 rg_78_0_0_1 (by first | decide | omega) (by first | decide | omega) (by decide)
        have q1246 : h1223 78 1 = h1143 78 1 := jK 0 f1225 rg_78_1_0_1 (by first | decide | omega) (by first | decide | omega) (by decide)
        have q1247 : h1143 78 1 = h1128 78 1 := by rw [← e1145]; exact x_up_i (by first | decide | omega)
        have q1248 : h1128 78 1 = h1065 78 1 := jK 0 f1130 rg_78_1_0_1 (by first | decide | omega) (by first | decide | omega) (by decide)
        have q1249 : h1065 78 1 = h1009 78 1 := jK 0 f1067 rg_78_1_0_1 (by first | decide | omega) (by first | decide | omega) (by decide)
        have q1250 : h1009 78 1 = h992 78 1 := by rw [← e1011]; exact x_up_i (by first | decide | omega)
        have q1251 : h992 78 1 = h972 78 1 := jK 0 f994 rg_78_1_0_1 (by first | decide | omega) (by first | decide | omega) (by decide)
        have q1252 : h972 78 1 = h14 78 1 := by rw [← e974]; exact x_up_i (by first | decide | omega)
        have q1253 : h14 78 1 = h 78 1 := jK 0 f16 rg_78_1_0_1 (by first | decide | omega) (by first | decide | omega) (by decide)
        have b1254 := jB (e := 2) 0 hJ rg_78_2_0_1 (by first | decide | omega) (by first | decide | omega)
        have q1255 : h1223 78 2 = h1143 78 2 := jK 0 f1225 rg_78_2_0_1 (by first | decide | omega) (by first | decide | omega) (by decide)
        have q1256 : h1143 78 2 = h1128 78 2 := by rw [← e1145]; exact x_up_i (by first | decide | omega)
        have q1257 : h1128 78 2 = h1065 78 2 := jK 0 f1130 rg_78_2_0_1 (by first | decide | omega) (by first | decide | omega) (by decide)
        have q1258 : h1065 78 2 = h1009 78 2 := jK 0 f1067 rg_78_2_0_1 (by first | decide | omega) (by first | decide | omega) (by decide)
        have q1259 : h1009 78 2 = h992 78 2 := by rw [← e1011]; exact x_up_i (by first | decide | omega)
        have q1260 : h992 78 2 = h972 78 2 := jK 0 f994 rg_78_2_0_1 (by first | decide | omega) (by first | decide | omega) (by decide)
        have q1261 : h972 78 2 = h14 78 2 := by rw [← e974]; exact x_up_i (by first | decide | omega)
        have q1262 : h14 78 2 = h 78 2 := jK 0 f16 rg_78_2_0_1 (by first | decide | omega) (by first | decide | omega) (by decide)
        have b1263 := jB (e := 3) 0 hJ rg_78_3_0_1 (by first | decide | omega) (by first | decide | omega)
        have q1264 : h1223 78 3 = h1143 78 3 := jK 0 f1225 rg_78_3_0_1 (by first | decide | omega) (by first | decide | omega) (by decide)
        have q1265 : h1143 78 3 = h1128 78 3 := by rw [← e1145]; exact x_up_i (by first | decide | omega)
        have q1266 : h1128 78 3 = h1065 78 3 := jK 0 f1130 rg_78_3_0_1 (by first | decide | omega) (by first | decide | omega) (by decide)
        have q1267 : h1065 78 3 = h1009 78 3 := jK 0 f1067 rg_78_3_0_1 (by first | decide | omega) (by first | decide | omega) (by decide)
        have q1268 : h1009 78 3 = h992 78 3 := by rw [← e1011]; exact x_up_i (by first | decide | omega)
        have q1269 : h992 78 3 = h972 78 3 := jK 0 f994 rg_78_3_0_1 (by first | decide | omega) (by first | decide | omega) (by decide)
        have q1270 : h972 78 3 = h14 78 3 := by rw [← e974]; exact x_up_i (by first | decide | omega)
        have q1271 : h14 78 3 = h 78 3 := jK 0 f16 rg_78_3_0_1 (by first | decide | omega) (by first | decide | omega) (by decide)
        have q1272 : h1223 78 4 = h1143 78 4 := jK 0 f1225 rg_78_4_0_1 (by first | decide | omega) (by first | decide | omega) (by decide)
        have q1273 : h1143 78 4 = h1128 78 4 := by rw [← e1145]; exact x_up_i (by first | decide | omega)
        have q1274 : h1128 78 4 = h1065 78 4 := jK 0 f1130 rg_78_4_0_1 (by first | decide | omega) (by first | decide | omega) (by decide)
        have q1275 : h1065 78 4 = h1009 78 4 := jK 0 f1067 rg_78_4_0_1 (by first | decide | omega) (by first | decide | omega) (by decide)
        have q1276 : h1009 78 4 = h992 78 4 := by rw [← e1011]; exact x_up_i (by first | decide | omega)
        have q1277 : h992 78 4 = h972 78 4 := jK 0 f994 rg_78_4_0_1 (by first | decide | omega) (by first | decide | omega) (by decide)
        have q1278 : h972 78 4 = h14 78 4 := by rw [← e974]; exact x_up_i (by first | decide | omega)
        have q1279 : h14 78 4 = h 78 4 := jK 0 f16 rg_78_4_0_1 (by first | decide | omega) (by first | decide | omega) (by decide)
        have b1280 := jB (e := 5) 0 hJ rg_78_5_0_1 (by first | decide | omega) (by first | decide | omega)
        have q1281 : h1223 78 5 = h1143 78 5 := jK 0 f1225 rg_78_5_0_1 (by first | decide | omega) (by first | decide | omega) (by decide)
        have q1282 : h1143 78 5 = h1128 78 5 := by rw [← e1145]; exact x_up_i (by first | decide | omega)
        have q1283 : h1128 78 5 = h1065 78 5 := jK 0 f1130 rg_78_5_0_1 (by first | decide | omega) (by first | decide | omega) (by decide)
        have q1284 : h1065 78 5 = h1009 78 5 := jK 0 f1067 rg_78_5_0_1 (by first | decide | omega) (by first | decide | omega) (by decide)
        have q1285 : h1009 78 5 = h992 78 5 := by rw [← e1011]; exact x_up_i (by first | decide | omega)
        have q1286 : h992 78 5 = h972 78 5 := jK 0 f994 rg_78_5_0_1 (by first | decide | omega) (by first | decide | omega) (by decide)
        have q1287 : h972 78 5 = h14 78 5 := by rw [← e974]; exact x_up_i (by first | decide | omega)
        have q1288 : h14 78 5 = h 78 5 := jK 0 f16 rg_78_5_0_1 (by first | decide | omega) (by first | decide | omega) (by decide)
        have y1289 := Is.yes c33 (by first | decide | omega)
        have w1290 : Wd tB tN 10 (sk tB tN (h 75 7)) := by rw [← c21]; exact Wd.of' (by decide) y1289 c22
        have e1291 : sk tB tN (h14 75 7) = sk tB tN ((sk tB tN (h 75 7)) + iv_tl 10) := by rw [← c21, ← y1289.1]
        have q1292 : h972 75 7 = h14 75 7 := by rw [← e974]; exact x_up_k (by decide)
        have q1293 : h1009 75 7 = h992 75 7 := by rw [← e1011]; exact x_up_k (by decide)
        obtain ⟨w1294, e1295⟩ := Tw.yes c1071 (by first | decide | omega)
        have q1296 : h1143 75 7 = h1128 75 7 := by rw [← e1145]; exact x_up_k (by decide)
        have y1297 := Is.yes c33 (by first | decide | omega)
        have w1298 : Wd tB tN 10 (sk tB tN (h 75 7)) := by rw [← c21]; exact Wd.of' (by decide) y1297 c22
        have e1299 : sk tB tN (h14 75 7) = sk tB tN ((sk tB tN (h 75 7)) + iv_tl 10) := by rw [← c21, ← y1297.1]
        have q1300 : h972 75 7 = h14 75 7 := by rw [← e974]; exact x_up_k (by decide)
        have q1301 : h1009 75 7 = h992 75 7 := by rw [← e1011]; exact x_up_k (by decide)
        obtain ⟨w1302, e1303⟩ := Tw.yes c1071 (by first | decide | omega)
        have q1304 : h1143 75 7 = h1128 75 7 := by rw [← e1145]; exact x_up_k (by decide)
        refine x_retI (np := 156) (x := 0) (by decide +kernel) (by decide) (Or.inr ⟨by decide +kernel, by first | decide | omega, by first | decide | omega⟩) ⟨_, rfl, (by decide), ?_⟩
        exact ⟨j1224, f1231, (by first | decide | omega), (fun z => by first | decide | omega), (fun z => by first | decide | omega), (fun z => by first | decide | omega), (fun z => by first | decide | omega), (fun z => by first | decide | omega), (fun z => by first | decide | omega), (fun z => absurd z (by first | decide | omega)), (Or.inr ⟨by first | decide | omega, (or9.f (wd_910 w1290) rfl rfl (wd9.y w1290 rfl e1291 rfl (nm9.y c1001 (by first | decide | omega) (by first | decide | omega) (congrArg (sk tB tN) (show h972 75 7 = h14 75 7 by first | decide | omega)) (by first | decide | omega) rfl (wd9.y w1294 (congrArg (sk tB tN) (show h1009 75 7 = h992 75 7 by first | decide | omega)) e1295 rfl (nm9.y c1137 (by first | decide | omega) (by first | decide | omega) rfl (by first | decide | omega) rfl (wd9.f (Tw.no c1229 (by first | decide | omega)) (congrArg (sk tB tN) (show h1143 75 7 = h1128 75 7 by first | decide | omega)) (by first | decide | omega)))))))⟩), (fun _ => Or.inr ⟨by first | decide | omega, (oF.no (wd_910 w1298) rfl rfl (wF.y w1298 rfl e1299 rfl (mF.y c1001 (by first | decide | omega) (by first | decide | omega) (congrArg (sk tB tN) (show h972 75 7 = h14 75 7 by first | decide | omega)) (by first | decide | omega) rfl (wF.y w1302 (congrArg (sk tB tN) (show h1009 75 7 = h992 75 7 by first | decide | omega)) e1303 rfl (mF.y c1137 (by first | decide | omega) (by first | decide | omega) rfl (by first | decide | omega) rfl (wF.no (Tw.no c1229 (by first | decide | omega)) (congrArg (sk tB tN) (show h1143 75 7 = h1128 75 7 by first | decide | omega)) c1230))))))⟩)⟩
      have q1236 : ¬ (v1218 = 2147483648) := q1236
      have b1305 := c1228 (by first | decide | omega)
      refine x_aload (np := 110) (x := 0) (by decide +kernel) rfl (x_nc_le (by decide)) ?_
      refine x_iload (np := 111) (x := 1) (by decide +kernel) rfl (by first | decide | omega) ?_
      refine x_const (np := 112) (x := 9223372051887161347) (a := 2147483651) (by decide +kernel) (by decide) (by decide) ?_
      refine x_iadd (np := 113) (x := 0) (v := (2147483851 + 5 * u8)) (by decide +kernel) (by first | decide | omega) (by decide) (by first | decide | omega) (by first | decide | omega) ?_
      refine x_aload (np := 114) (x := 0) (by decide +kernel) rfl (x_nc_le (by decide)) ?_
      have q1306 : h1223 75 3 = 78 := by have z := jB (e := 3) 0 j1224 rg_75_3_0_1 (by decide) (by decide); omega
      refine x_getR (np := 117) (x := 707) (f := 3) (q := 78) (by decide +kernel) (by decide) (by decide +kernel) q1306 ?_
      refine x_iload (np := 118) (x := 1) (by decide +kernel) rfl (by first | decide | omega) ?_
      refine x_const (np := 119) (x := 9223372047592194050) (a := 2147483650) (by decide +kernel) (by decide) (by decide) ?_
      refine x_iadd (np := 120) (x := 0) (v := (2147483850 + 5 * u8)) (by decide +kernel) (by first | decide | omega) (by decide) (by first | decide | omega) (by first | decide | omega) ?_
      have q1307 : h1223 78 (202 + 5 * u8) = h1143 78 (202 + 5 * u8) := jK u8 f1225 rg_78_202_5_10 (by first | decide | omega) (by first | decide | omega) (by decide)
      have q1308 : h1143 78 (202 + 5 * u8) = v1124 := by rw [← e1145]; exact x_up_at
      refine x_aldC (np := 121) (x := 0) (n := 290) (i := (202 + 5 * u8)) (q := v1124) (by decide +kernel) (by decide +kernel) (by first | decide | omega) (by first | decide | omega) (by decide) (q1307.trans q1308) (fun l1309 => ?_)
      refine x_nI (t := 6) (mj := 178) (n := 3) (rc := 12) (ml := 3) (nr := 0) (np := 124) (as := [x_r 75, iv_c (2147483851 + 5 * u8), iv_c v1124]) (rest := []) (lo1 := [x_r 75, iv_c (2147483851 + 5 * u8), iv_c v1124]) (by decide +kernel) (by decide) (by decide +kernel) (x_rb_of (by decide +kernel)) rfl rfl (x_wr (by decide) (x_wi (by first | decide | omega) (x_wi l1125 x_wn))) x_wn (by decide) rfl ?_
      refine x_aload (np := 1) (x := 0) (by decide +kernel) rfl (x_nc_le (by decide)) ?_
      refine x_iload (np := 2) (x := 1) (by decide +kernel) rfl (by first | decide | omega) ?_
      refine x_aload (np := 3) (x := 0) (by decide +kernel) rfl (x_nc_le (by decide)) ?_
      refine x_iload (np := 4) (x := 2) (by decide +kernel) rfl l1125 ?_
      refine x_const (np := 6) (x := 9223372086246899723) (a := 2147483659) (by decide +kernel) (by decide) (by decide) ?_
      have m1313 := Tq.fr m1221 f1225 (by decide) (by decide)
      refine x_cI (t := 6) (mj := 174) (n := 3) (rc := 12) (ml := 4) (nr := 2) (np := 9) (as := [x_r 75, iv_c v1124, iv_c 2147483659]) (rest := [iv_c (2147483851 + 5 * u8), x_r 75]) (lo1 := [x_r 75, iv_c v1124, iv_c 2147483659, 147573952589676412928]) (by decide +kernel) (by decide) (by decide +kernel) (x_rb_of (by decide +kernel)) rfl rfl (x_wr (by decide) (x_wi l1125 (x_wi (by decide) x_wn))) (x_wi (by first | decide | omega) (x_wr (by decide) x_wn)) (by decide) rfl (c174_75 j1224  (by first | decide | omega) (by first | decide | omega) m1313) (fun v1310 h1314 l1311 q1312 => ?_)
      obtain ⟨j1315, f1316, b1317, c1318, c1319, c1320, c1321, c1322, c1323, c1324⟩ := q1312
      have f1325 := Fr.trans f1231 f1316 (by decide)
      have b1326 := jB (e := 7) 0 j1315 rg_75_7_0_1 (by first | decide | omega) (by first | decide | omega)
      have b1327 := c1322 (by first | decide | omega)
      refine x_nI (t := 6) (mj := 176) (n := 3) (rc := 12) (ml := 3) (nr := 0) (np := 12) (as := [x_r 75, iv_c (2147483851 + 5 * u8), iv_c v1310]) (rest := []) (lo1 := [x_r 75, iv_c (2147483851 + 5 * u8), iv_c v1310]) (by decide +kernel) (by decide) (by decide +kernel) (x_rb_of (by decide +kernel)) rfl rfl (x_wr (by decide) (x_wi (by first | decide | omega) (x_wi l1311 x_wn))) x_wn (by decide) rfl ?_
      refine x_aload (np := 1) (x := 0) (by decide +kernel) rfl (x_nc_le (by decide)) ?_
      have q1328 : h1314 75 3 = 78 := by have z := jB (e := 3) 0 j1315 rg_75_3_0_1 (by decide) (by decide); omega
      refine x_getR (np := 4) (x := 707) (f := 3) (q := 78) (by decide +kernel) (by decide) (by decide +kernel) q1328 ?_
      refine x_iload (np := 5) (x := 1) (by decide +kernel) rfl (by first | decide | omega) ?_
      refine x_iload (np := 6) (x := 2) (by decide +kernel) rfl l1311 ?_
      refine x_ast (np := 7) (x := 0) (kd := 1) (n := 290) (i := (203 + 5 * u8)) (by decide +kernel) (Or.inl rfl) (by decide +kernel) (by first | decide | omega) (by first | decide | omega) (by decide) l1311 (fun z => absurd z (by decide)) ?_
      have j1330 := jU (e := (203 + 5 * u8)) (v := v1310) u8 j1315 rg_78_203_5_10 (by first | decide | omega) (by first | decide | omega) (by first | decide | omega)
      have f1332 := jF (e := (203 + 5 * u8)) (v := v1310) u8 f1325 rg_78_203_5_10 (by first | decide | omega) (by first | decide | omega) (by decide)
      generalize e1331 : x_up h1314 78 (203 + 5 * u8) v1310 = h1329 at j1330 f1332 ⊢
      refine x_iload (np := 8) (x := 2) (by decide +kernel) rfl l1311 ?_
      refine x_ifz (k := 2) (tg := 15) (np := 11) (by decide +kernel) (by decide) l1311 (fun q1333 => ?_) (fun q1334 => ?_)
      · have q1333 : v1310 < 2147483648 := q1333
        refine x_const (np := 16) (x := 9223372039002259456) (a := 2147483648) (by decide +kernel) (by decide) (by decide) ?_
        refine x_retI (np := 17) (x := 0) (by decide +kernel) (by decide) (Or.inr ⟨by decide +kernel, by first | decide | omega, by first | decide | omega⟩) ⟨_, rfl, (by decide), ?_⟩
        refine x_retI (np := 13) (x := 0) (by decide +kernel) (by decide) (Or.inr ⟨by decide +kernel, by first | decide | omega, by first | decide | omega⟩) ⟨_, rfl, (by decide), ?_⟩
        refine x_ifz (k := 0) (tg := 154) (np := 127) (by decide +kernel) (by decide) (by decide) (fun q1335 => ?_) (fun q1336 => ?_)
        · have q1335 : 2147483648 = 2147483648 := q1335
          refine x_const (np := 155) (x := 9223372039002259456) (a := 2147483648) (by decide +kernel) (by decide) (by decide) ?_
          have b1337 := jB (e := 0) 0 hJ rg_78_0_0_1 (by first | decide | omega) (by first | decide | omega)
          have q1338 : h1329 78 0 = h1314 78 0 := by rw [← e1331]; exact x_up_i (by first | decide | omega)
          have q1339 : h1314 78 0 = h1223 78 0 := jK 0 f1316 rg_78_0_0_1 (by first | decide | omega) (by first | decide | omega) (by decide)
          have q1340 : h1223 78 0 = h1143 78 0 := jK 0 f1225 rg_78_0_0_1 (by first | decide | omega) (by first | decide | omega) (by decide)
          have q1341 : h1143 78 0 = h1128 78 0 := by rw [← e1145]; exact x_up_i (by first | decide | omega)
          have q1342 : h1128 78 0 = h1065 78 0 := jK 0 f1130 rg_78_0_0_1 (by first | decide | omega) (by first | decide | omega) (by decide)
          have q1343 : h1065 78 0 = h1009 78 0 := jK 0 f1067 rg_78_0_0_1 (by first | decide | omega) (by first | decide | omega) (by decide)
          have q1344 : h1009 78 0 = h992 78 0 := by rw [← e1011]; exact x_up_i (by first | decide | omega)
          have q1345 : h992 78 0 = h972 78 0 := jK 0 f994 rg_78_0_0_1 (by first | decide | omega) (by first | decide | omega) (by decide)
          have q1346 : h972 78 0 = h14 78 0 := by rw [← e974]; exact x_up_i (by first | decide | omega)
          have q1347 : h14 78 0 = h 78 0 := jK 0 f16 rg_78_0_0_1 (by first | decide | omega) (by first | decide | omega) (by decide)
          have q1348 : h1329 78 1 = h1314 78 1 := by rw [← e1331]; exact x_up_i (by first | decide | omega)
          have q1349 : h1314 78 1 = h1223 78 1 := jK 0 f1316 rg_78_1_0_1 (by first | decide | omega) (by first | decide | omega) (by decide)
          have q1350 : h1223 78 1 = h1143 78 1 := jK 0 f1225 rg_78_1_0_1 (by first | decide | omega) (by first | decide | omega) (by decide)
          have q1351 : h1143 78 1 = h1128 78 1 := by rw [← e1145]; exact x_up_i (by first | decide | omega)
          have q1352 : h1128 78 1 = h1065 78 1 := jK 0 f1130 rg_78_1_0_1 (by first | decide | omega) (by first | decide | omega) (by decide)
          have q1353 : h1065 78 1 = h1009 78 1 := jK 0 f1067 rg_78_1_0_1 (by first | decide | omega) (by first | decide | omega) (by decide)
          have q1354 : h1009 78 1 = h992 78 1 := by rw [← e1011]; exact x_up_i (by first | decide | omega)
          have q1355 : h992 78 1 = h972 78 1 := jK 0 f994 rg_78_1_0_1 (by first | decide | omega) (by first | decide | omega) (by decide)
          have q1356 : h972 78 1 = h14 78 1 := by rw [← e974]; exact x_up_i (by first | decide | omega)
          have q1357 : h14 78 1 = h 78 1 := jK 0 f16 rg_78_1_0_1 (by first | decide | omega) (by first | decide | omega) (by decide)
          have b1358 := jB (e := 2) 0 hJ rg_78_2_0_1 (by first | decide | omega) (by first | decide | omega)
          have q1359 : h1329 78 2 = h1314 78 2 := by rw [← e1331]; exact x_up_i (by first | decide | omega)
          have q1360 : h1314 78 2 = h1223 78 2 := jK 0 f1316 rg_78_2_0_1 (by first | decide | omega) (by first | decide | omega) (by decide)
          have q1361 : h1223 78 2 = h1143 78 2 := jK 0 f1225 rg_78_2_0_1 (by first | decide | omega) (by first | decide | omega) (by decide)
          have q1362 : h1143 78 2 = h1128 78 2 := by rw [← e1145]; exact x_up_i (by first | decide | omega)
          have q1363 : h1128 78 2 = h1065 78 2 := jK 0 f1130 rg_78_2_0_1 (by first | decide | omega) (by first | decide | omega) (by decide)
          have q1364 : h1065 78 2 = h1009 78 2 := jK 0 f1067 rg_78_2_0_1 (by first | decide | omega) (by first | decide | omega) (by decide)
          have q1365 : h1009 78 2 = h992 78 2 := by rw [← e1011]; exact x_up_i (by first | decide | omega)
          have q1366 : h992 78 2 = h972 78 2 := jK 0 f994 rg_78_2_0_1 (by first | decide | omega) (by first | decide | omega) (by decide)
          have q1367 : h972 78 2 = h14 78 2 := by rw [← e974]; exact x_up_i (by first | decide | omega)
          have q1368 : h14 78 2 = h 78 2 := jK 0 f16 rg_78_2_0_1 (by first | decide | omega) (by first | decide | omega) (by decide)
          have b1369 := jB (e := 3) 0 hJ rg_78_3_0_1 (by first | decide | omega) (by first | decide | omega)
          have q1370 : h1329 78 3 = h1314 78 3 := by rw [← e1331]; exact x_up_i (by first | decide | omega)
          have q1371 : h1314 78 3 = h1223 78 3 := jK 0 f1316 rg_78_3_0_1 (by first | decide | omega) (by first | decide | omega) (by decide)
          have q1372 : h1223 78 3 = h1143 78 3 := jK 0 f1225 rg_78_3_0_1 (by first | decide | omega) (by first | decide | omega) (by decide)
          have q1373 : h1143 78 3 = h1128 78 3 := by rw [← e1145]; exact x_up_i (by first | decide | omega)
          have q1374 : h1128 78 3 = h1065 78 3 := jK 0 f1130 rg_78_3_0_1 (by first | decide | omega) (by first | decide | omega) (by decide)
          have q1375 : h1065 78 3 = h1009 78 3 := jK 0 f1067 rg_78_3_0_1 (by first | decide | omega) (by first | decide | omega) (by decide)
          have q1376 : h1009 78 3 = h992 78 3 := by rw [← e1011]; exact x_up_i (by first | decide | omega)
          have q1377 : h992 78 3 = h972 78 3 := jK 0 f994 rg_78_3_0_1 (by first | decide | omega) (by first | decide | omega) (by decide)
          have q1378 : h972 78 3 = h14 78 3 := by rw [← e974]; exact x_up_i (by first | decide | omega)
          have q1379 : h14 78 3 = h 78 3 := jK 0 f16 rg_78_3_0_1 (by first | decide | omega) (by first | decide | omega) (by decide)
          have q1380 : h1329 78 4 = h1314 78 4 := by rw [← e1331]; exact x_up_i (by first | decide | omega)
          have q1381 : h1314 78 4 = h1223 78 4 := jK 0 f1316 rg_78_4_0_1 (by first | decide | omega) (by first | decide | omega) (by decide)
          have q1382 : h1223 78 4 = h1143 78 4 := jK 0 f1225 rg_78_4_0_1 (by first | decide | omega) (by first | decide | omega) (by decide)
          have q1383 : h1143 78 4 = h1128 78 4 := by rw [← e1145]; exact x_up_i (by first | decide | omega)
          have q1384 : h1128 78 4 = h1065 78 4 := jK 0 f1130 rg_78_4_0_1 (by first | decide | omega) (by first | decide | omega) (by decide)
          have q1385 : h1065 78 4 = h1009 78 4 := jK 0 f1067 rg_78_4_0_1 (by first | decide | omega) (by first | decide | omega) (by decide)
          have q1386 : h1009 78 4 = h992 78 4 := by rw [← e1011]; exact x_up_i (by first | decide | omega)
          have q1387 : h992 78 4 = h972 78 4 := jK 0 f994 rg_78_4_0_1 (by first | decide | omega) (by first | decide | omega) (by decide)
          have q1388 : h972 78 4 = h14 78 4 := by rw [← e974]; exact x_up_i (by first | decide | omega)
          have q1389 : h14 78 4 = h 78 4 := jK 0 f16 rg_78_4_0_1 (by first | decide | omega) (by first | decide | omega) (by decide)
          have b1390 := jB (e := 5) 0 hJ rg_78_5_0_1 (by first | decide | omega) (by first | decide | omega)
          have q1391 : h1329 78 5 = h1314 78 5 := by rw [← e1331]; exact x_up_i (by first | decide | omega)
          have q1392 : h1314 78 5 = h1223 78 5 := jK 0 f1316 rg_78_5_0_1 (by first | decide | omega) (by first | decide | omega) (by decide)
          have q1393 : h1223 78 5 = h1143 78 5 := jK 0 f1225 rg_78_5_0_1 (by first | decide | omega) (by first | decide | omega) (by decide)
          have q1394 : h1143 78 5 = h1128 78 5 := by rw [← e1145]; exact x_up_i (by first | decide | omega)
          have q1395 : h1128 78 5 = h1065 78 5 := jK 0 f1130 rg_78_5_0_1 (by first | decide | omega) (by first | decide | omega) (by decide)
          have q1396 : h1065 78 5 = h1009 78 5 := jK 0 f1067 rg_78_5_0_1 (by first | decide | omega) (by first | decide | omega) (by decide)
          have q1397 : h1009 78 5 = h992 78 5 := by rw [← e1011]; exact x_up_i (by first | decide | omega)
          have q1398 : h992 78 5 = h972 78 5 := jK 0 f994 rg_78_5_0_1 (by first | decide | omega) (by first | decide | omega) (by decide)
          have q1399 : h972 78 5 = h14 78 5 := by rw [← e974]; exact x_up_i (by first | decide | omega)
          have q1400 : h14 78 5 = h 78 5 := jK 0 f16 rg_78_5_0_1 (by first | decide | omega) (by first | decide | omega) (by decide)
          have y1401 := Is.yes c33 (by first | decide | omega)
          have w1402 : Wd tB tN 10 (sk tB tN (h 75 7)) := by rw [← c21]; exact Wd.of' (by decide) y1401 c22
          have e1403 : sk tB tN (h14 75 7) = sk tB tN ((sk tB tN (h 75 7)) + iv_tl 10) := by rw [← c21, ← y1401.1]
          have q1404 : h972 75 7 = h14 75 7 := by rw [← e974]; exact x_up_k (by decide)
          have q1405 : h1009 75 7 = h992 75 7 := by rw [← e1011]; exact x_up_k (by decide)
          obtain ⟨w1406, e1407⟩ := Tw.yes c1071 (by first | decide | omega)
          have q1408 : h1143 75 7 = h1128 75 7 := by rw [← e1145]; exact x_up_k (by decide)
          obtain ⟨w1409, e1410⟩ := Tw.yes c1229 (by first | decide | omega)
          have y1411 := Is.yes c33 (by first | decide | omega)
          have w1412 : Wd tB tN 10 (sk tB tN (h 75 7)) := by rw [← c21]; exact Wd.of' (by decide) y1411 c22
          have e1413 : sk tB tN (h14 75 7) = sk tB tN ((sk tB tN (h 75 7)) + iv_tl 10) := by rw [← c21, ← y1411.1]
          have q1414 : h972 75 7 = h14 75 7 := by rw [← e974]; exact x_up_k (by decide)
          have q1415 : h1009 75 7 = h992 75 7 := by rw [← e1011]; exact x_up_k (by decide)
          obtain ⟨w1416, e1417⟩ := Tw.yes c1071 (by first | decide | omega)
          have q1418 : h1143 75 7 = h1128 75 7 := by rw [← e1145]; exact x_up_k (by decide)
          obtain ⟨w1419, e1420⟩ := Tw.yes c1229 (by first | decide | omega)
          have q1421 : h1329 75 9 = h1314 75 9 := by rw [← e1331]; exact x_up_k (by decide)
          have b1422 := jB (e := 9) 0 j1315 rg_75_9_0_1 (by first | decide | omega) (by first | decide | omega)
          refine x_retI (np := 156) (x := 0) (by decide +kernel) (by decide) (Or.inr ⟨by decide +kernel, by first | decide | omega, by first | decide | omega⟩) ⟨_, rfl, (by decide), ?_⟩
          exact ⟨j1330, f1332, (by first | decide | omega), (fun z => by first | decide | omega), (fun z => by first | decide | omega), (fun z => by first | decide | omega), (fun z => by first | decide | omega), (fun z => by first | decide | omega), (fun z => by first | decide | omega), (fun z => absurd z (by first | decide | omega)), (Or.inr ⟨by first | decide | omega, (or9.f (wd_910 w1402) rfl rfl (wd9.y w1402 rfl e1403 rfl (nm9.y c1001 (by first | decide | omega) (by first | decide | omega) (congrArg (sk tB tN) (show h972 75 7 = h14 75 7 by first | decide | omega)) (by first | decide | omega) rfl (wd9.y w1406 (congrArg (sk tB tN) (show h1009 75 7 = h992 75 7 by first | decide | omega)) e1407 rfl (nm9.y c1137 (by first | decide | omega) (by first | decide | omega) rfl (by first | decide | omega) rfl (wd9.y w1409 (congrArg (sk tB tN) (show h1143 75 7 = h1128 75 7 by first | decide | omega)) e1410 rfl (nm9.f c1323 (by first | decide | omega) (by first | decide | omega) rfl (by first | decide | omega) (by first | decide | omega))))))))⟩), (fun _ => Or.inr ⟨by first | decide | omega, (oF.no (wd_910 w1412) rfl rfl (wF.y w1412 rfl e1413 rfl (mF.y c1001 (by first | decide | omega) (by first | decide | omega) (congrArg (sk tB tN) (show h972 75 7 = h14 75 7 by first | decide | omega)) (by first | decide | omega) rfl (wF.y w1416 (congrArg (sk tB tN) (show h1009 75 7 = h992 75 7 by first | decide | omega)) e1417 rfl (mF.y c1137 (by first | decide | omega) (by first | decide | omega) rfl (by first | decide | omega) rfl (wF.y w1419 (congrArg (sk tB tN) (show h1143 75 7 = h1128 75 7 by first | decide | omega)) e1420 rfl (mF.no c1323 (by first | decide | omega) (by first | decide | omega) rfl (by first | decide | omega) (Eq.trans (show h1329 75 9 = h1314 75 9 by first | decide | omega) c1324))))))))⟩)⟩
        have q1336 : ¬ (2147483648 = 2147483648) := q1336
        exfalso; omega
      have q1334 : ¬ (v1310 < 2147483648) := q1334
      have b1423 := c1319 (by first | decide | omega)
      have b1424 := c1320 (by first | decide | omega)
      have b1425 := c1321 (by first | decide | omega)
      refine x_const (np := 12) (x := 9223372043297226753) (a := 2147483649) (by decide +kernel) (by decide) (by decide) ?_
      refine x_goto (np := 15) (x := 16) (by decide +kernel) ?_
      refine x_retI (np := 17) (x := 0) (by decide +kernel) (by decide) (Or.inr ⟨by decide +kernel, by first | decide | omega, by first | decide | omega⟩) ⟨_, rfl, (by decide), ?_⟩
      refine x_retI (np := 13) (x := 0) (by decide +kernel) (by decide) (Or.inr ⟨by decide +kernel, by first | decide | omega, by first | decide | omega⟩) ⟨_, rfl, (by decide), ?_⟩
      refine x_ifz (k := 0) (tg := 154) (np := 127) (by decide +kernel) (by decide) (by decide) (fun q1426 => ?_) (fun q1427 => ?_)
      · have q1426 : 2147483649 = 2147483648 := q1426
        exfalso; omega
      have q1427 : ¬ (2147483649 = 2147483648) := q1427
      refine x_aload (np := 128) (x := 0) (by decide +kernel) rfl (x_nc_le (by decide)) ?_
      refine x_ldcB (i := 12) (idx := 175) (tx := "of") (by rw [tb_y184]; exact List.mem_of_getElem? (i := 51) rfl) (by decide) (by rw [tb_b184]; decide +kernel) ?_
      have m1432 := Tq.fr m1313 f1316 (by decide) (by decide)
      have m1431 : Tq tB tN h1329 := by rw [← e1331]; exact Tq.oth m1432 (by decide) (fun z => absurd z.1 (by decide))
      refine x_cI (t := 6) (mj := 172) (n := 2) (rc := 12) (ml := 2) (nr := 0) (np := 133) (as := [x_r 75, x_b (12 + 1)]) (rest := []) (lo1 := [x_r 75, x_b (12 + 1)]) (by decide +kernel) (by decide) (by decide +kernel) (x_rb_of (by decide +kernel)) rfl rfl (x_wr (by decide) (x_wB (by decide) x_wn)) x_wn (by decide) rfl (c172_75_S0 j1330  (by decide) m1431) (fun v1428 h1433 l1429 q1430 => ?_)
      obtain ⟨j1434, f1435, b1436, c1437, c1438, c1439, c1440⟩ := q1430
      have f1441 := Fr.trans f1332 f1435 (by decide)
      have q1442 : h1329 75 7 = h1314 75 7 := by rw [← e1331]; exact x_up_k (by decide)
      have b1443 := jB (e := 7) 0 j1434 rg_75_7_0_1 (by first | decide | omega) (by first | decide | omega)
      have q1444 : h1329 75 7 = h1314 75 7 := by rw [← e1331]; exact x_up_k (by decide)
      refine x_ifz (k := 0) (tg := 154) (np := 136) (by decide +kernel) (by decide) l1429 (fun q1445 => ?_) (fun q1446 => ?_)
      · have q1445 : v1428 = 2147483648 := q1445
        refine x_const (np := 155) (x := 9223372039002259456) (a := 2147483648) (by decide +kernel) (by decide) (by decide) ?_
        have b1447 := jB (e := 0) 0 hJ rg_78_0_0_1 (by first | decide | omega) (by first | decide | omega)
        have q1448 : h1433 78 0 = h1329 78 0 := jK 0 f1435 rg_78_0_0_1 (by first | decide | omega) (by first | decide | omega) (by decide)
        have q1449 : h1329 78 0 = h1314 78 0 := by rw [← e1331]; exact x_up_i (by first | decide | omega)
        have q1450 : h1314 78 0 = h1223 78 0 := jK 0 f1316 rg_78_0_0_1 (by first | decide | omega) (by first | decide | omega) (by decide)
        have q1451 : h1223 78 0 = h1143 78 0 := jK 0 f1225 rg_78_0_0_1 (by first | decide | omega) (by first | decide | omega) (by decide)
        have q1452 : h1143 78 0 = h1128 78 0 := by rw [← e1145]; exact x_up_i (by first | decide | omega)
        have q1453 : h1128 78 0 = h1065 78 0 := jK 0 f1130 rg_78_0_0_1 (by first | decide | omega) (by first | decide | omega) (by decide)
        have q1454 : h1065 78 0 = h1009 78 0 := jK 0 f1067 rg_78_0_0_1 (by first | decide | omega) (by first | decide | omega) (by decide)
        have q1455 : h1009 78 0 = h992 78 0 := by rw [← e1011]; exact x_up_i (by first | decide | omega)
        have q1456 : h992 78 0 = h972 78 0 := jK 0 f994 rg_78_0_0_1 (by first | decide | omega) (by first | decide | omega) (by decide)
        have q1457 : h972 78 0 = h14 78 0 := by rw [← e974]; exact x_up_i (by first | decide | omega)
        have q1458 : h14 78 0 = h 78 0 := jK 0 f16 rg_78_0_0_1 (by first | decide | omega) (by first | decide | omega) (by decide)
        have q1459 : h1433 78 1 = h1329 78 1 := jK 0 f1435 rg_78_1_0_1 (by first | decide | omega) (by first | decide | omega) (by decide)
        have q1460 : h1329 78 1 = h1314 78 1 := by rw [← e1331]; exact x_up_i (by first | decide | omega)
        have q1461 : h1314 78 1 = h1223 78 1 := jK 0 f1316 rg_78_1_0_1 (by first | decide | omega) (by first | decide | omega) (by decide)
        have q1462 : h1223 78 1 = h1143 78 1 := jK 0 f1225 rg_78_1_0_1 (by first | decide | omega) (by first | decide | omega) (by decide)
        have q1463 : h1143 78 1 = h1128 78 1 := by rw [← e1145]; exact x_up_i (by first | decide | omega)
        have q1464 : h1128 78 1 = h1065 78 1 := jK 0 f1130 rg_78_1_0_1 (by first | decide | omega) (by first | decide | omega) (by decide)
        have q1465 : h1065 78 1 = h1009 78 1 := jK 0 f1067 rg_78_1_0_1 (by first | decide | omega) (by first | decide | omega) (by decide)
        have q1466 : h1009 78 1 = h992 78 1 := by rw [← e1011]; exact x_up_i (by first | decide | omega)
        have q1467 : h992 78 1 = h972 78 1 := jK 0 f994 rg_78_1_0_1 (by first | decide | omega) (by first | decide | omega) (by decide)
        have q1468 : h972 78 1 = h14 78 1 := by rw [← e974]; exact x_up_i (by first | decide | omega)
        have q1469 : h14 78 1 = h 78 1 := jK 0 f16 rg_78_1_0_1 (by first | decide | omega) (by first | decide | omega) (by decide)
        have b1470 := jB (e := 2) 0 hJ rg_78_2_0_1 (by first | decide | omega) (by first | decide | omega)
        have q1471 : h1433 78 2 = h1329 78 2 := jK 0 f1435 rg_78_2_0_1 (by first | decide | omega) (by first | decide | omega) (by decide)
        have q1472 : h1329 78 2 = h1314 78 2 := by rw [← e1331]; exact x_up_i (by first | decide | omega)
        have q1473 : h1314 78 2 = h1223 78 2 := jK 0 f1316 rg_78_2_0_1 (by first | decide | omega) (by first | decide | omega) (by decide)
        have q1474 : h1223 78 2 = h1143 78 2 := jK 0 f1225 rg_78_2_0_1 (by first | decide | omega) (by first | decide | omega) (by decide)
        have q1475 : h1143 78 2 = h1128 78 2 := by rw [← e1145]; exact x_up_i (by first | decide | omega)
        have q1476 : h1128 78 2 = h1065 78 2 := jK 0 f1130 rg_78_2_0_1 (by first | decide | omega) (by first | decide | omega) (by decide)
        have q1477 : h1065 78 2 = h1009 78 2 := jK 0 f1067 rg_78_2_0_1 (by first | decide | omega) (by first | decide | omega) (by decide)
        have q1478 : h1009 78 2 = h992 78 2 := by rw [← e1011]; exact x_up_i (by first | decide | omega)
        have q1479 : h992 78 2 = h972 78 2 := jK 0 f994 rg_78_2_0_1 (by first | decide | omega) (by first | decide | omega) (by decide)
        have q1480 : h972 78 2 = h14 78 2 := by rw [← e974]; exact x_up_i (by first | decide | omega)
        have q1481 : h14 78 2 = h 78 2 := jK 0 f16 rg_78_2_0_1 (by first | decide | omega) (by first | decide | omega) (by decide)
        have b1482 := jB (e := 3) 0 hJ rg_78_3_0_1 (by first | decide | omega) (by first | decide | omega)
        have q1483 : h1433 78 3 = h1329 78 3 := jK 0 f1435 rg_78_3_0_1 (by first | decide | omega) (by first | decide | omega) (by decide)
        have q1484 : h1329 78 3 = h1314 78 3 := by rw [← e1331]; exact x_up_i (by first | decide | omega)
        have q1485 : h1314 78 3 = h1223 78 3 := jK 0 f1316 rg_78_3_0_1 (by first | decide | omega) (by first | decide | omega) (by decide)
        have q1486 : h1223 78 3 = h1143 78 3 := jK 0 f1225 rg_78_3_0_1 (by first | decide | omega) (by first | decide | omega) (by decide)
        have q1487 : h1143 78 3 = h1128 78 3 := by rw [← e1145]; exact x_up_i (by first | decide | omega)
        have q1488 : h1128 78 3 = h1065 78 3 := jK 0 f1130 rg_78_3_0_1 (by first | decide | omega) (by first | decide | omega) (by decide)
        have q1489 : h1065 78 3 = h1009 78 3 := jK 0 f1067 rg_78_3_0_1 (by first | decide | omega) (by first | decide | omega) (by decide)
        have q1490 : h1009 78 3 = h992 78 3 := by rw [← e1011]; exact x_up_i (by first | decide | omega)
        have q1491 : h992 78 3 = h972 78 3 := jK 0 f994 rg_78_3_0_1 (by first | decide | omega) (by first | decide | omega) (by decide)
        have q1492 : h972 78 3 = h14 78 3 := by rw [← e974]; exact x_up_i (by first | decide | omega)
        have q1493 : h14 78 3 = h 78 3 := jK 0 f16 rg_78_3_0_1 (by first | decide | omega) (by first | decide | omega) (by decide)
        have q1494 : h1433 78 4 = h1329 78 4 := jK 0 f1435 rg_78_4_0_1 (by first | decide | omega) (by first | decide | omega) (by decide)
        have q1495 : h1329 78 4 = h1314 78 4 := by rw [← e1331]; exact x_up_i (by first | decide | omega)
        have q1496 : h1314 78 4 = h1223 78 4 := jK 0 f1316 rg_78_4_0_1 (by first | decide | omega) (by first | decide | omega) (by decide)
        have q1497 : h1223 78 4 = h1143 78 4 := jK 0 f1225 rg_78_4_0_1 (by first | decide | omega) (by first | decide | omega) (by decide)
        have q1498 : h1143 78 4 = h1128 78 4 := by rw [← e1145]; exact x_up_i (by first | decide | omega)
        have q1499 : h1128 78 4 = h1065 78 4 := jK 0 f1130 rg_78_4_0_1 (by first | decide | omega) (by first | decide | omega) (by decide)
        have q1500 : h1065 78 4 = h1009 78 4 := jK 0 f1067 rg_78_4_0_1 (by first | decide | omega) (by first | decide | omega) (by decide)
        have q1501 : h1009 78 4 = h992 78 4 := by rw [← e1011]; exact x_up_i (by first | decide | omega)
        have q1502 : h992 78 4 = h972 78 4 := jK 0 f994 rg_78_4_0_1 (by first | decide | omega) (by first | decide | omega) (by decide)
        have q1503 : h972 78 4 = h14 78 4 := by rw [← e974]; exact x_up_i (by first | decide | omega)
        have q1504 : h14 78 4 = h 78 4 := jK 0 f16 rg_78_4_0_1 (by first | decide | omega) (by first | decide | omega) (by decide)
        have b1505 := jB (e := 5) 0 hJ rg_78_5_0_1 (by first | decide | omega) (by first | decide | omega)
        have q1506 : h1433 78 5 = h1329 78 5 := jK 0 f1435 rg_78_5_0_1 (by first | decide | omega) (by first | decide | omega) (by decide)
        have q1507 : h1329 78 5 = h1314 78 5 := by rw [← e1331]; exact x_up_i (by first | decide | omega)
        have q1508 : h1314 78 5 = h1223 78 5 := jK 0 f1316 rg_78_5_0_1 (by first | decide | omega) (by first | decide | omega) (by decide)
        have q1509 : h1223 78 5 = h1143 78 5 := jK 0 f1225 rg_78_5_0_1 (by first | decide | omega) (by first | decide | omega) (by decide)
        have q1510 : h1143 78 5 = h1128 78 5 := by rw [← e1145]; exact x_up_i (by first | decide | omega)
        have q1511 : h1128 78 5 = h1065 78 5 := jK 0 f1130 rg_78_5_0_1 (by first | decide | omega) (by first | decide | omega) (by decide)
        have q1512 : h1065 78 5 = h1009 78 5 := jK 0 f1067 rg_78_5_0_1 (by first | decide | omega) (by first | decide | omega) (by decide)
        have q1513 : h1009 78 5 = h992 78 5 := by rw [← e1011]; exact x_up_i (by first | decide | omega)
        have q1514 : h992 78 5 = h972 78 5 := jK 0 f994 rg_78_5_0_1 (by first | decide | omega) (by first | decide | omega) (by decide)
        have q1515 : h972 78 5 = h14 78 5 := by rw [← e974]; exact x_up_i (by first | decide | omega)
        have q1516 : h14 78 5 = h 78 5 := jK 0 f16 rg_78_5_0_1 (by first | decide | omega) (by first | decide | omega) (by decide)
        have y1517 := Is.yes c33 (by first | decide | omega)
        have w1518 : Wd tB tN 10 (sk tB tN (h 75 7)) := by rw [← c21]; exact Wd.of' (by decide) y1517 c22
        have e1519 : sk tB tN (h14 75 7) = sk tB tN ((sk tB tN (h 75 7)) + iv_tl 10) := by rw [← c21, ← y1517.1]
        have q1520 : h972 75 7 = h14 75 7 := by rw [← e974]; exact x_up_k (by decide)
        have q1521 : h1009 75 7 = h992 75 7 := by rw [← e1011]; exact x_up_k (by decide)
        obtain ⟨w1522, e1523⟩ := Tw.yes c1071 (by first | decide | omega)
        have q1524 : h1143 75 7 = h1128 75 7 := by rw [← e1145]; exact x_up_k (by decide)
        obtain ⟨w1525, e1526⟩ := Tw.yes c1229 (by first | decide | omega)
        have q1527 : h1329 75 7 = h1314 75 7 := by rw [← e1331]; exact x_up_k (by decide)
        have y1528 := Is.yes c33 (by first | decide | omega)
        have w1529 : Wd tB tN 10 (sk tB tN (h 75 7)) := by rw [← c21]; exact Wd.of' (by decide) y1528 c22
        have e1530 : sk tB tN (h14 75 7) = sk tB tN ((sk tB tN (h 75 7)) + iv_tl 10) := by rw [← c21, ← y1528.1]
        have q1531 : h972 75 7 = h14 75 7 := by rw [← e974]; exact x_up_k (by decide)
        have q1532 : h1009 75 7 = h992 75 7 := by rw [← e1011]; exact x_up_k (by decide)
        obtain ⟨w1533, e1534⟩ := Tw.yes c1071 (by first | decide | omega)
        have q1535 : h1143 75 7 = h1128 75 7 := by rw [← e1145]; exact x_up_k (by decide)
        obtain ⟨w1536, e1537⟩ := Tw.yes c1229 (by first | decide | omega)
        have q1538 : h1329 75 7 = h1314 75 7 := by rw [← e1331]; exact x_up_k (by decide)
        refine x_retI (np := 156) (x := 0) (by decide +kernel) (by decide) (Or.inr ⟨by decide +kernel, by first | decide | omega, by first | decide | omega⟩) ⟨_, rfl, (by decide), ?_⟩
        exact ⟨j1434, f1441, (by first | decide | omega), (fun z => by first | decide | omega), (fun z => by first | decide | omega), (fun z => by first | decide | omega), (fun z => by first | decide | omega), (fun z => by first | decide | omega), (fun z => by first | decide | omega), (fun z => absurd z (by first | decide | omega)), (Or.inr ⟨by first | decide | omega, (or9.f (wd_910 w1518) rfl rfl (wd9.y w1518 rfl e1519 rfl (nm9.y c1001 (by first | decide | omega) (by first | decide | omega) (congrArg (sk tB tN) (show h972 75 7 = h14 75 7 by first | decide | omega)) (by first | decide | omega) rfl (wd9.y w1522 (congrArg (sk tB tN) (show h1009 75 7 = h992 75 7 by first | decide | omega)) e1523 rfl (nm9.y c1137 (by first | decide | omega) (by first | decide | omega) rfl (by first | decide | omega) rfl (wd9.y w1525 (congrArg (sk tB tN) (show h1143 75 7 = h1128 75 7 by first | decide | omega)) e1526 rfl (nm9.y c1323 (by first | decide | omega) (by first | decide | omega) rfl (by first | decide | omega) rfl (wd9.f (Tw.no c1439 (by first | decide | omega)) (congrArg (sk tB tN) (show h1329 75 7 = h1314 75 7 by first | decide | omega)) (by first | decide | omega)))))))))⟩), (fun _ => Or.inr ⟨by first | decide | omega, (oF.no (wd_910 w1529) rfl rfl (wF.y w1529 rfl e1530 rfl (mF.y c1001 (by first | decide | omega) (by first | decide | omega) (congrArg (sk tB tN) (show h972 75 7 = h14 75 7 by first | decide | omega)) (by first | decide | omega) rfl (wF.y w1533 (congrArg (sk tB tN) (show h1009 75 7 = h992 75 7 by first | decide | omega)) e1534 rfl (mF.y c1137 (by first | decide | omega) (by first | decide | omega) rfl (by first | decide | omega) rfl (wF.y w1536 (congrArg (sk tB tN) (show h1143 75 7 = h1128 75 7 by first | decide | omega)) e1537 rfl (mF.y c1323 (by first | decide | omega) (by first | decide | omega) rfl (by first | decide | omega) rfl (wF.no (Tw.no c1439 (by first | decide | omega)) (congrArg (sk tB tN) (show h1329 75 7 = h1314 75 7 by first | decide | omega)) c1440))))))))⟩)⟩
      have q1446 : ¬ (v1428 = 2147483648) := q1446
      have b1539 := c1438 (by first | decide | omega)
      refine x_aload (np := 137) (x := 0) (by decide +kernel) rfl (x_nc_le (by decide)) ?_
      refine x_iload (np := 138) (x := 1) (by decide +kernel) rfl (by first | decide | omega) ?_
      refine x_const (np := 139) (x := 9223372056182128644) (a := 2147483652) (by decide +kernel) (by decide) (by decide) ?_
      refine x_iadd (np := 140) (x := 0) (v := (2147483852 + 5 * u8)) (by decide +kernel) (by first | decide | omega) (by decide) (by first | decide | omega) (by first | decide | omega) ?_
      refine x_aload (np := 141) (x := 0) (by decide +kernel) rfl (x_nc_le (by decide)) ?_
      refine x_const (np := 142) (x := 9223372039002259456) (a := 2147483648) (by decide +kernel) (by decide) (by decide) ?_
      refine x_const (np := 145) (x := 9223376329674589159) (a := 2147484647) (by decide +kernel) (by decide) (by decide) ?_
      have m1543 := Tq.fr m1431 f1435 (by decide) (by decide)
      refine x_cI (t := 6) (mj := 174) (n := 3) (rc := 12) (ml := 4) (nr := 2) (np := 148) (as := [x_r 75, iv_c 2147483648, iv_c 2147484647]) (rest := [iv_c (2147483852 + 5 * u8), x_r 75]) (lo1 := [x_r 75, iv_c 2147483648, iv_c 2147484647, 147573952589676412928]) (by decide +kernel) (by decide) (by decide +kernel) (x_rb_of (by decide +kernel)) rfl rfl (x_wr (by decide) (x_wi (by decide) (x_wi (by decide) x_wn))) (x_wi (by first | decide | omega) (x_wr (by decide) x_wn)) (by decide) rfl (c174_75 j1434  (by first | decide | omega) (by first | decide | omega) m1543) (fun v1540 h1544 l1541 q1542 => ?_)
      obtain ⟨j1545, f1546, b1547, c1548, c1549, c1550, c1551, c1552, c1553, c1554⟩ := q1542
      have f1555 := Fr.trans f1441 f1546 (by decide)
      have b1556 := jB (e := 7) 0 j1545 rg_75_7_0_1 (by first | decide | omega) (by first | decide | omega)
      have b1557 := c1552 (by first | decide | omega)
      refine x_nI (t := 6) (mj := 176) (n := 3) (rc := 12) (ml := 3) (nr := 0) (np := 151) (as := [x_r 75, iv_c (2147483852 + 5 * u8), iv_c v1540]) (rest := []) (lo1 := [x_r 75, iv_c (2147483852 + 5 * u8), iv_c v1540]) (by decide +kernel) (by decide) (by decide +kernel) (x_rb_of (by decide +kernel)) rfl rfl (x_wr (by decide) (x_wi (by first | decide | omega) (x_wi l1541 x_wn))) x_wn (by decide) rfl ?_
      refine x_aload (np := 1) (x := 0) (by decide +kernel) rfl (x_nc_le (by decide)) ?_
      have q1558 : h1544 75 3 = 78 := by have z := jB (e := 3) 0 j1545 rg_75_3_0_1 (by decide) (by decide); omega
      refine x_getR (np := 4) (x := 707) (f := 3) (q := 78) (by decide +kernel) (by decide) (by decide +kernel) q1558 ?_
      refine x_iload (np := 5) (x := 1) (by decide +kernel) rfl (by first | decide | omega) ?_
      refine x_iload (np := 6) (x := 2) (by decide +kernel) rfl l1541 ?_
      refine x_ast (np := 7) (x := 0) (kd := 1) (n := 290) (i := (204 + 5 * u8)) (by decide +kernel) (Or.inl rfl) (by decide +kernel) (by first | decide | omega) (by first | decide | omega) (by decide) l1541 (fun z => absurd z (by decide)) ?_
      have j1560 := jU (e := (204 + 5 * u8)) (v := v1540) u8 j1545 rg_78_204_5_10 (by first | decide | omega) (by first | decide | omega) (by first | decide | omega)
      have f1562 := jF (e := (204 + 5 * u8)) (v := v1540) u8 f1555 rg_78_204_5_10 (by first | decide | omega) (by first | decide | omega) (by decide)
      generalize e1561 : x_up h1544 78 (204 + 5 * u8) v1540 = h1559 at j1560 f1562 ⊢
      refine x_iload (np := 8) (x := 2) (by decide +kernel) rfl l1541 ?_
      refine x_ifz (k := 2) (tg := 15) (np := 11) (by decide +kernel) (by decide) l1541 (fun q1563 => ?_) (fun q1564 => ?_)
      · have q1563 : v1540 < 2147483648 := q1563
        refine x_const (np := 16) (x := 9223372039002259456) (a := 2147483648) (by decide +kernel) (by decide) (by decide) ?_
        refine x_retI (np := 17) (x := 0) (by decide +kernel) (by decide) (Or.inr ⟨by decide +kernel, by first | decide | omega, by first | decide | omega⟩) ⟨_, rfl, (by decide), ?_⟩
        refine x_ifz (k := 1) (tg := 156) (np := 154) (by decide +kernel) (by decide) (by decide) (fun q1565 => ?_) (fun q1566 => ?_)
        · have q1565 : 2147483648 ≠ 2147483648 := q1565
          exfalso; omega
        have q1566 : ¬ (2147483648 ≠ 2147483648) := q1566
        refine x_const (np := 155) (x := 9223372039002259456) (a := 2147483648) (by decide +kernel) (by decide) (by decide) ?_
        have b1567 := jB (e := 0) 0 hJ rg_78_0_0_1 (by first | decide | omega) (by first | decide | omega)
        have q1568 : h1559 78 0 = h1544 78 0 := by rw [← e1561]; exact x_up_i (by first | decide | omega)
        have q1569 : h1544 78 0 = h1433 78 0 := jK 0 f1546 rg_78_0_0_1 (by first | decide | omega) (by first | decide | omega) (by decide)
        have q1570 : h1433 78 0 = h1329 78 0 := jK 0 f1435 rg_78_0_0_1 (by first | decide | omega) (by first | decide | omega) (by decide)
        have q1571 : h1329 78 0 = h1314 78 0 := by rw [← e1331]; exact x_up_i (by first | decide | omega)
        have q1572 : h1314 78 0 = h1223 78 0 := jK 0 f1316 rg_78_0_0_1 (by first | decide | omega) (by first | decide | omega) (by decide)
        have q1573 : h1223 78 0 = h1143 78 0 := jK 0 f1225 rg_78_0_0_1 (by first | decide | omega) (by first | decide | omega) (by decide)
        have q1574 : h1143 78 0 = h1128 78 0 := by rw [← e1145]; exact x_up_i (by first | decide | omega)
        have q1575 : h1128 78 0 = h1065 78 0 := jK 0 f1130 rg_78_0_0_1 (by first | decide | omega) (by first | decide | omega) (by decide)
        have q1576 : h1065 78 0 = h1009 78 0 := jK 0 f1067 rg_78_0_0_1 (by first | decide | omega) (by first | decide | omega) (by decide)
        have q1577 : h1009 78 0 = h992 78 0 := by rw [← e1011]; exact x_up_i (by first | decide | omega)
        have q1578 : h992 78 0 = h972 78 0 := jK 0 f994 rg_78_0_0_1 (by first | decide | omega) (by first | decide | omega) (by decide)
        have q1579 : h972 78 0 = h14 78 0 := by rw [← e974]; exact x_up_i (by first | decide | omega)
        have q1580 : h14 78 0 = h 78 0 := jK 0 f16 rg_78_0_0_1 (by first | decide | omega) (by first | decide | omega) (by decide)
        have q1581 : h1559 78 1 = h1544 78 1 := by rw [← e1561]; exact x_up_i (by first | decide | omega)
        have q1582 : h1544 78 1 = h1433 78 1 := jK 0 f1546 rg_78_1_0_1 (by first | decide | omega) (by first | decide | omega) (by decide)
        have q1583 : h1433 78 1 = h1329 78 1 := jK 0 f1435 rg_78_1_0_1 (by first | decide | omega) (by first | decide | omega) (by decide)
        have q1584 : h1329 78 1 = h1314 78 1 := by rw [← e1331]; exact x_up_i (by first | decide | omega)
        have q1585 : h1314 78 1 = h1223 78 1 := jK 0 f1316 rg_78_1_0_1 (by first | decide | omega) (by first | decide | omega) (by decide)
        have q1586 : h1223 78 1 = h1143 78 1 := jK 0 f1225 rg_78_1_0_1 (by first | decide | omega) (by first | decide | omega) (by decide)
        have q1587 : h1143 78 1 = h1128 78 1 := by rw [← e1145]; exact x_up_i (by first | decide | omega)
        have q1588 : h1128 78 1 = h1065 78 1 := jK 0 f1130 rg_78_1_0_1 (by first | decide | omega) (by first | decide | omega) (by decide)
        have q1589 : h1065 78 1 = h1009 78 1 := jK 0 f1067 rg_78_1_0_1 (by first | decide | omega) (by first | decide | omega) (by decide)
        have q1590 : h1009 78 1 = h992 78 1 := by rw [← e1011]; exact x_up_i (by first | decide | omega)
        have q1591 : h992 78 1 = h972 78 1 := jK 0 f994 rg_78_1_0_1 (by first | decide | omega) (by first | decide | omega) (by decide)
        have q1592 : h972 78 1 = h14 78 1 := by rw [← e974]; exact x_up_i (by first | decide | omega)
        have q1593 : h14 78 1 = h 78 1 := jK 0 f16 rg_78_1_0_1 (by first | decide | omega) (by first | decide | omega) (by decide)
        have b1594 := jB (e := 2) 0 hJ rg_78_2_0_1 (by first | decide | omega) (by first | decide | omega)
        have q1595 : h1559 78 2 = h1544 78 2 := by rw [← e1561]; exact x_up_i (by first | decide | omega)
        have q1596 : h1544 78 2 = h1433 78 2 := jK 0 f1546 rg_78_2_0_1 (by first | decide | omega) (by first | decide | omega) (by decide)
        have q1597 : h1433 78 2 = h1329 78 2 := jK 0 f1435 rg_78_2_0_1 (by first | decide | omega) (by first | decide | omega) (by decide)
        have q1598 : h1329 78 2 = h1314 78 2 := by rw [← e1331]; exact x_up_i (by first | decide | omega)
        have q1599 : h1314 78 2 = h1223 78 2 := jK 0 f1316 rg_78_2_0_1 (by first | decide | omega) (by first | decide | omega) (by decide)
        have q1600 : h1223 78 2 = h1143 78 2 := jK 0 f1225 rg_78_2_0_1 (by first | decide | omega) (by first | decide | omega) (by decide)
        have q1601 : h1143 78 2 = h1128 78 2 := by rw [← e1145]; exact x_up_i (by first | decide | omega)
        have q1602 : h1128 78 2 = h1065 78 2 := jK 0 f1130 rg_78_2_0_1 (by first | decide | omega) (by first | decide | omega) (by decide)
        have q1603 : h1065 78 2 = h1009 78 2 := jK 0 f1067 rg_78_2_0_1 (by first | decide | omega) (by first | decide | omega) (by decide)
        have q1604 : h1009 78 2 = h992 78 2 := by rw [← e1011]; exact x_up_i (by first | decide | omega)
        have q1605 : h992 78 2 = h972 78 2 := jK 0 f994 rg_78_2_0_1 (by first | decide | omega) (by first | decide | omega) (by decide)
        have q1606 : h972 78 2 = h14 78 2 := by rw [← e974]; exact x_up_i (by first | decide | omega)
        have q1607 : h14 78 2 = h 78 2 := jK 0 f16 rg_78_2_0_1 (by first | decide | omega) (by first | decide | omega) (by decide)
        have b1608 := jB (e := 3) 0 hJ rg_78_3_0_1 (by first | decide | omega) (by first | decide | omega)
        have q1609 : h1559 78 3 = h1544 78 3 := by rw [← e1561]; exact x_up_i (by first | decide | omega)
        have q1610 : h1544 78 3 = h1433 78 3 := jK 0 f1546 rg_78_3_0_1 (by first | decide | omega) (by first | decide | omega) (by decide)
        have q1611 : h1433 78 3 = h1329 78 3 := jK 0 f1435 rg_78_3_0_1 (by first | decide | omega) (by first | decide | omega) (by decide)
        have q1612 : h1329 78 3 = h1314 78 3 := by rw [← e1331]; exact x_up_i (by first | decide | omega)
        have q1613 : h1314 78 3 = h1223 78 3 := jK 0 f1316 rg_78_3_0_1 (by first | decide | omega) (by first | decide | omega) (by decide)
        have q1614 : h1223 78 3 = h1143 78 3 := jK 0 f1225 rg_78_3_0_1 (by first | decide | omega) (by first | decide | omega) (by decide)
        have q1615 : h1143 78 3 = h1128 78 3 := by rw [← e1145]; exact x_up_i (by first | decide | omega)
        have q1616 : h1128 78 3 = h1065 78 3 := jK 0 f1130 rg_78_3_0_1 (by first | decide | omega) (by first | decide | omega) (by decide)
        have q1617 : h1065 78 3 = h1009 78 3 := jK 0 f1067 rg_78_3_0_1 (by first | decide | omega) (by first | decide | omega) (by decide)
        have q1618 : h1009 78 3 = h992 78 3 := by rw [← e1011]; exact x_up_i (by first | decide | omega)
        have q1619 : h992 78 3 = h972 78 3 := jK 0 f994 rg_78_3_0_1 (by first | decide | omega) (by first | decide | omega) (by decide)
        have q1620 : h972 78 3 = h14 78 3 := by rw [← e974]; exact x_up_i (by first | decide | omega)
        have q1621 : h14 78 3 = h 78 3 := jK 0 f16 rg_78_3_0_1 (by first | decide | omega) (by first | decide | omega) (by decide)
        have q1622 : h1559 78 4 = h1544 78 4 := by rw [← e1561]; exact x_up_i (by first | decide | omega)
        have q1623 : h1544 78 4 = h1433 78 4 := jK 0 f1546 rg_78_4_0_1 (by first | decide | omega) (by first | decide | omega) (by decide)
        have q1624 : h1433 78 4 = h1329 78 4 := jK 0 f1435 rg_78_4_0_1 (by first | decide | omega) (by first | decide | omega) (by decide)
        have q1625 : h1329 78 4 = h1314 78 4 := by rw [← e1331]; exact x_up_i (by first | decide | omega)
        have q1626 : h1314 78 4 = h1223 78 4 := jK 0 f1316 rg_78_4_0_1 (by first | decide | omega) (by first | decide | omega) (by decide)
        have q1627 : h1223 78 4 = h1143 78 4 := jK 0 f1225 rg_78_4_0_1 (by first | decide | omega) (by first | decide | omega) (by decide)
        have q1628 : h1143 78 4 = h1128 78 4 := by rw [← e1145]; exact x_up_i (by first | decide | omega)
        have q1629 : h1128 78 4 = h1065 78 4 := jK 0 f1130 rg_78_4_0_1 (by first | decide | omega) (by first | decide | omega) (by decide)
        have q1630 : h1065 78 4 = h1009 78 4 := jK 0 f1067 rg_78_4_0_1 (by first | decide | omega) (by first | decide | omega) (by decide)
        have q1631 : h1009 78 4 = h992 78 4 := by rw [← e1011]; exact x_up_i (by first | decide | omega)
        have q1632 : h992 78 4 = h972 78 4 := jK 0 f994 rg_78_4_0_1 (by first | decide | omega) (by first | decide | omega) (by decide)
        have q1633 : h972 78 4 = h14 78 4 := by rw [← e974]; exact x_up_i (by first | decide | omega)
        have q1634 : h14 78 4 = h 78 4 := jK 0 f16 rg_78_4_0_1 (by first | decide | omega) (by first | decide | omega) (by decide)
        have b1635 := jB (e := 5) 0 hJ rg_78_5_0_1 (by first | decide | omega) (by first | decide | omega)
        have q1636 : h1559 78 5 = h1544 78 5 := by rw [← e1561]; exact x_up_i (by first | decide | omega)
        have q1637 : h1544 78 5 = h1433 78 5 := jK 0 f1546 rg_78_5_0_1 (by first | decide | omega) (by first | decide | omega) (by decide)
        have q1638 : h1433 78 5 = h1329 78 5 := jK 0 f1435 rg_78_5_0_1 (by first | decide | omega) (by first | decide | omega) (by decide)
        have q1639 : h1329 78 5 = h1314 78 5 := by rw [← e1331]; exact x_up_i (by first | decide | omega)
        have q1640 : h1314 78 5 = h1223 78 5 := jK 0 f1316 rg_78_5_0_1 (by first | decide | omega) (by first | decide | omega) (by decide)
        have q1641 : h1223 78 5 = h1143 78 5 := jK 0 f1225 rg_78_5_0_1 (by first | decide | omega) (by first | decide | omega) (by decide)
        have q1642 : h1143 78 5 = h1128 78 5 := by rw [← e1145]; exact x_up_i (by first | decide | omega)
        have q1643 : h1128 78 5 = h1065 78 5 := jK 0 f1130 rg_78_5_0_1 (by first | decide | omega) (by first | decide | omega) (by decide)
        have q1644 : h1065 78 5 = h1009 78 5 := jK 0 f1067 rg_78_5_0_1 (by first | decide | omega) (by first | decide | omega) (by decide)
        have q1645 : h1009 78 5 = h992 78 5 := by rw [← e1011]; exact x_up_i (by first | decide | omega)
        have q1646 : h992 78 5 = h972 78 5 := jK 0 f994 rg_78_5_0_1 (by first | decide | omega) (by first | decide | omega) (by decide)
        have q1647 : h972 78 5 = h14 78 5 := by rw [← e974]; exact x_up_i (by first | decide | omega)
        have q1648 : h14 78 5 = h 78 5 := jK 0 f16 rg_78_5_0_1 (by first | decide | omega) (by first | decide | omega) (by decide)
        have y1649 := Is.yes c33 (by first | decide | omega)
        have w1650 : Wd tB tN 10 (sk tB tN (h 75 7)) := by rw [← c21]; exact Wd.of' (by decide) y1649 c22
        have e1651 : sk tB tN (h14 75 7) = sk tB tN ((sk tB tN (h 75 7)) + iv_tl 10) := by rw [← c21, ← y1649.1]
        have q1652 : h972 75 7 = h14 75 7 := by rw [← e974]; exact x_up_k (by decide)
        have q1653 : h1009 75 7 = h992 75 7 := by rw [← e1011]; exact x_up_k (by decide)
        obtain ⟨w1654, e1655⟩ := Tw.yes c1071 (by first | decide | omega)
        have q1656 : h1143 75 7 = h1128 75 7 := by rw [← e1145]; exact x_up_k (by decide)
        obtain ⟨w1657, e1658⟩ := Tw.yes c1229 (by first | decide | omega)
        have q1659 : h1329 75 7 = h1314 75 7 := by rw [← e1331]; exact x_up_k (by decide)
        obtain ⟨w1660, e1661⟩ := Tw.yes c1439 (by first | decide | omega)
        have y1662 := Is.yes c33 (by first | decide | omega)
        have w1663 : Wd tB tN 10 (sk tB tN (h 75 7)) := by rw [← c21]; exact Wd.of' (by decide) y1662 c22
        have e1664 : sk tB tN (h14 75 7) = sk tB tN ((sk tB tN (h 75 7)) + iv_tl 10) := by rw [← c21, ← y1662.1]
        have q1665 : h972 75 7 = h14 75 7 := by rw [← e974]; exact x_up_k (by decide)
        have q1666 : h1009 75 7 = h992 75 7 := by rw [← e1011]; exact x_up_k (by decide)
        obtain ⟨w1667, e1668⟩ := Tw.yes c1071 (by first | decide | omega)
        have q1669 : h1143 75 7 = h1128 75 7 := by rw [← e1145]; exact x_up_k (by decide)
        obtain ⟨w1670, e1671⟩ := Tw.yes c1229 (by first | decide | omega)
        have q1672 : h1329 75 7 = h1314 75 7 := by rw [← e1331]; exact x_up_k (by decide)
        obtain ⟨w1673, e1674⟩ := Tw.yes c1439 (by first | decide | omega)
        have q1675 : h1559 75 9 = h1544 75 9 := by rw [← e1561]; exact x_up_k (by decide)
        have b1676 := jB (e := 9) 0 j1545 rg_75_9_0_1 (by first | decide | omega) (by first | decide | omega)
        refine x_retI (np := 156) (x := 0) (by decide +kernel) (by decide) (Or.inr ⟨by decide +kernel, by first | decide | omega, by first | decide | omega⟩) ⟨_, rfl, (by decide), ?_⟩
        exact ⟨j1560, f1562, (by first | decide | omega), (fun z => by first | decide | omega), (fun z => by first | decide | omega), (fun z => by first | decide | omega), (fun z => by first | decide | omega), (fun z => by first | decide | omega), (fun z => by first | decide | omega), (fun z => absurd z (by first | decide | omega)), (Or.inr ⟨by first | decide | omega, (or9.f (wd_910 w1650) rfl rfl (wd9.y w1650 rfl e1651 rfl (nm9.y c1001 (by first | decide | omega) (by first | decide | omega) (congrArg (sk tB tN) (show h972 75 7 = h14 75 7 by first | decide | omega)) (by first | decide | omega) rfl (wd9.y w1654 (congrArg (sk tB tN) (show h1009 75 7 = h992 75 7 by first | decide | omega)) e1655 rfl (nm9.y c1137 (by first | decide | omega) (by first | decide | omega) rfl (by first | decide | omega) rfl (wd9.y w1657 (congrArg (sk tB tN) (show h1143 75 7 = h1128 75 7 by first | decide | omega)) e1658 rfl (nm9.y c1323 (by first | decide | omega) (by first | decide | omega) rfl (by first | decide | omega) rfl (wd9.y w1660 (congrArg (sk tB tN) (show h1329 75 7 = h1314 75 7 by first | decide | omega)) e1661 rfl (nm9.f c1553 (by first | decide | omega) (by first | decide | omega) rfl (by first | decide | omega) (by first | decide | omega))))))))))⟩), (fun _ => Or.inr ⟨by first | decide | omega, (oF.no (wd_910 w1663) rfl rfl (wF.y w1663 rfl e1664 rfl (mF.y c1001 (by first | decide | omega) (by first | decide | omega) (congrArg (sk tB tN) (show h972 75 7 = h14 75 7 by first | decide | omega)) (by first | decide | omega) rfl (wF.y w1667 (congrArg (sk tB tN) (show h1009 75 7 = h992 75 7 by first | decide | omega)) e1668 rfl (mF.y c1137 (by first | decide | omega) (by first | decide | omega) rfl (by first | decide | omega) rfl (wF.y w1670 (congrArg (sk tB tN) (show h1143 75 7 = h1128 75 7 by first | decide | omega)) e1671 rfl (mF.y c1323 (by first | decide | omega) (by first | decide | omega) rfl (by first | decide | omega) rfl (wF.y w1673 (congrArg (sk tB tN) (show h1329 75 7 = h1314 75 7 by first | decide | omega)) e1674 rfl (mF.no c1553 (by first | decide | omega) (by first | decide | omega) rfl (by first | decide | omega) (Eq.trans (show h1559 75 9 = h1544 75 9 by first | decide | omega) c1554))))))))))⟩)⟩
      have q1564 : ¬ (v1540 < 2147483648) := q1564
      have b1677 := c1549 (by first | decide | omega)
      have b1678 := c1550 (by first | decide | omega)
      have b1679 := c1551 (by first | decide | omega)
      refine x_const (np := 12) (x := 9223372043297226753) (a := 2147483649) (by decide +kernel) (by decide) (by decide) ?_
      refine x_goto (np := 15) (x := 16) (by decide +kernel) ?_
      refine x_retI (np := 17) (x := 0) (by decide +kernel) (by decide) (Or.inr ⟨by decide +kernel, by first | decide | omega, by first | decide | omega⟩) ⟨_, rfl, (by decide), ?_⟩
      refine x_ifz (k := 1) (tg := 156) (np := 154) (by decide +kernel) (by decide) (by decide) (fun q1680 => ?_) (fun q1681 => ?_)
      · have q1680 : 2147483649 ≠ 2147483648 := q1680
        refine x_aload (np := 157) (x := 0) (by decide +kernel) rfl (x_nc_le (by decide)) ?_
        have q1682 : h1559 75 3 = 78 := by have z := jB (e := 3) 0 j1560 rg_75_3_0_1 (by decide) (by decide); omega
        refine x_getR (np := 160) (x := 707) (f := 3) (q := 78) (by decide +kernel) (by decide) (by decide +kernel) q1682 ?_
        refine x_const (np := 161) (x := 9223372056182128644) (a := 2147483652) (by decide +kernel) (by decide) (by decide) ?_
        refine x_dup2 (np := 162) (x := 0) (by decide +kernel) (by have z := (iw_c_lt (a := 2147483652) (by decide)).1; omega) (by have z := x_nc_le (k := 78) (by decide); unfold x_r; omega) ?_
        have q1683 : h1559 78 4 = h1544 78 4 := by rw [← e1561]; exact x_up_i (by first | decide | omega)
        have q1684 : h1544 78 4 = h1433 78 4 := jK 0 f1546 rg_78_4_0_1 (by first | decide | omega) (by first | decide | omega) (by decide)
        have q1685 : h1433 78 4 = h1329 78 4 := jK 0 f1435 rg_78_4_0_1 (by first | decide | omega) (by first | decide | omega) (by decide)
        have q1686 : h1329 78 4 = h1314 78 4 := by rw [← e1331]; exact x_up_i (by first | decide | omega)
        have q1687 : h1314 78 4 = h1223 78 4 := jK 0 f1316 rg_78_4_0_1 (by first | decide | omega) (by first | decide | omega) (by decide)
        have q1688 : h1223 78 4 = h1143 78 4 := jK 0 f1225 rg_78_4_0_1 (by first | decide | omega) (by first | decide | omega) (by decide)
        have q1689 : h1143 78 4 = h1128 78 4 := by rw [← e1145]; exact x_up_i (by first | decide | omega)
        have q1690 : h1128 78 4 = h1065 78 4 := jK 0 f1130 rg_78_4_0_1 (by first | decide | omega) (by first | decide | omega) (by decide)
        have q1691 : h1065 78 4 = h1009 78 4 := jK 0 f1067 rg_78_4_0_1 (by first | decide | omega) (by first | decide | omega) (by decide)
        have q1692 : h1009 78 4 = h992 78 4 := by rw [← e1011]; exact x_up_i (by first | decide | omega)
        have q1693 : h992 78 4 = h972 78 4 := jK 0 f994 rg_78_4_0_1 (by first | decide | omega) (by first | decide | omega) (by decide)
        have q1694 : h972 78 4 = h14 78 4 := by rw [← e974]; exact x_up_i (by first | decide | omega)
        have q1695 : h14 78 4 = h 78 4 := jK 0 f16 rg_78_4_0_1 (by first | decide | omega) (by first | decide | omega) (by decide)
        refine x_aldC (np := 163) (x := 0) (n := 290) (i := 4) (q := (h 78 4)) (by decide +kernel) (by decide +kernel) (by first | decide | omega) (by first | decide | omega) (by decide) ((((((((((((q1683.trans q1684).trans q1685).trans q1686).trans q1687).trans q1688).trans q1689).trans q1690).trans q1691).trans q1692).trans q1693).trans q1694).trans q1695) (fun l1696 => ?_)
        refine x_const (np := 164) (x := 9223372043297226753) (a := 2147483649) (by decide +kernel) (by decide) (by decide) ?_
        refine x_iadd (np := 165) (x := 0) (v := (1 + (h 78 4))) (by decide +kernel) l3 (by decide) (by first | decide | omega) (by first | decide | omega) ?_
        refine x_ast (np := 166) (x := 0) (kd := 1) (n := 290) (i := 4) (by decide +kernel) (Or.inl rfl) (by decide +kernel) (by first | decide | omega) (by first | decide | omega) (by decide) (by first | decide | omega) (fun z => absurd z (by decide)) ?_
        have j1698 := jU (e := 4) (v := (1 + (h 78 4))) 0 j1560 rg_78_4_0_1 (by first | decide | omega) (by first | decide | omega) (by first | decide | omega)
        have f1700 := jF (e := 4) (v := (1 + (h 78 4))) 0 f1562 rg_78_4_0_1 (by first | decide | omega) (by first | decide | omega) (by decide)
        generalize e1699 : x_up h1559 78 4 (1 + (h 78 4)) = h1697 at j1698 f1700 ⊢
        refine x_const (np := 167) (x := 9223372043297226753) (a := 2147483649) (by decide +kernel) (by decide) (by decide) ?_
        have b1701 := jB (e := 0) 0 hJ rg_78_0_0_1 (by first | decide | omega) (by first | decide | omega)
        have q1702 : h1697 78 0 = h1559 78 0 := by rw [← e1699]; exact x_up_i (by first | decide | omega)
        have q1703 : h1559 78 0 = h1544 78 0 := by rw [← e1561]; exact x_up_i (by first | decide | omega)
        have q1704 : h1544 78 0 = h1433 78 0 := jK 0 f1546 rg_78_0_0_1 (by first | decide | omega) (by first | decide | omega) (by decide)
        have q1705 : h1433 78 0 = h1329 78 0 := jK 0 f1435 rg_78_0_0_1 (by first | decide | omega) (by first | decide | omega) (by decide)
        have q1706 : h1329 78 0 = h1314 78 0 := by rw [← e1331]; exact x_up_i (by first | decide | omega)
        have q1707 : h1314 78 0 = h1223 78 0 := jK 0 f1316 rg_78_0_0_1 (by first | decide | omega) (by first | decide | omega) (by decide)
        have q1708 : h1223 78 0 = h1143 78 0 := jK 0 f1225 rg_78_0_0_1 (by first | decide | omega) (by first | decide | omega) (by decide)
        have q1709 : h1143 78 0 = h1128 78 0 := by rw [← e1145]; exact x_up_i (by first | decide | omega)
        have q1710 : h1128 78 0 = h1065 78 0 := jK 0 f1130 rg_78_0_0_1 (by first | decide | omega) (by first | decide | omega) (by decide)
        have q1711 : h1065 78 0 = h1009 78 0 := jK 0 f1067 rg_78_0_0_1 (by first | decide | omega) (by first | decide | omega) (by decide)
        have q1712 : h1009 78 0 = h992 78 0 := by rw [← e1011]; exact x_up_i (by first | decide | omega)
        have q1713 : h992 78 0 = h972 78 0 := jK 0 f994 rg_78_0_0_1 (by first | decide | omega) (by first | decide | omega) (by decide)
        have q1714 : h972 78 0 = h14 78 0 := by rw [← e974]; exact x_up_i (by first | decide | omega)
        have q1715 : h14 78 0 = h 78 0 := jK 0 f16 rg_78_0_0_1 (by first | decide | omega) (by first | decide | omega) (by decide)
        have q1716 : h1697 78 1 = h1559 78 1 := by rw [← e1699]; exact x_up_i (by first | decide | omega)
        have q1717 : h1559 78 1 = h1544 78 1 := by rw [← e1561]; exact x_up_i (by first | decide | omega)
        have q1718 : h1544 78 1 = h1433 78 1 := jK 0 f1546 rg_78_1_0_1 (by first | decide | omega) (by first | decide | omega) (by decide)
        have q1719 : h1433 78 1 = h1329 78 1 := jK 0 f1435 rg_78_1_0_1 (by first | decide | omega) (by first | decide | omega) (by decide)
        have q1720 : h1329 78 1 = h1314 78 1 := by rw [← e1331]; exact x_up_i (by first | decide | omega)
        have q1721 : h1314 78 1 = h1223 78 1 := jK 0 f1316 rg_78_1_0_1 (by first | decide | omega) (by first | decide | omega) (by decide)
        have q1722 : h1223 78 1 = h1143 78 1 := jK 0 f1225 rg_78_1_0_1 (by first | decide | omega) (by first | decide | omega) (by decide)
        have q1723 : h1143 78 1 = h1128 78 1 := by rw [← e1145]; exact x_up_i (by first | decide | omega)
        have q1724 : h1128 78 1 = h1065 78 1 := jK 0 f1130 rg_78_1_0_1 (by first | decide | omega) (by first | decide | omega) (by decide)
        have q1725 : h1065 78 1 = h1009 78 1 := jK 0 f1067 rg_78_1_0_1 (by first | decide | omega) (by first | decide | omega) (by decide)
        have q1726 : h1009 78 1 = h992 78 1 := by rw [← e1011]; exact x_up_i (by first | decide | omega)
        have q1727 : h992 78 1 = h972 78 1 := jK 0 f994 rg_78_1_0_1 (by first | decide | omega) (by first | decide | omega) (by decide)
        have q1728 : h972 78 1 = h14 78 1 := by rw [← e974]; exact x_up_i (by first | decide | omega)
        have q1729 : h14 78 1 = h 78 1 := jK 0 f16 rg_78_1_0_1 (by first | decide | omega) (by first | decide | omega) (by decide)
        have b1730 := jB (e := 2) 0 hJ rg_78_2_0_1 (by first | decide | omega) (by first | decide | omega)
        have q1731 : h1697 78 2 = h1559 78 2 := by rw [← e1699]; exact x_up_i (by first | decide | omega)
        have q1732 : h1559 78 2 = h1544 78 2 := by rw [← e1561]; exact x_up_i (by first | decide | omega)
        have q1733 : h1544 78 2 = h1433 78 2 := jK 0 f1546 rg_78_2_0_1 (by first | decide | omega) (by first | decide | omega) (by decide)
        have q1734 : h1433 78 2 = h1329 78 2 := jK 0 f1435 rg_78_2_0_1 (by first | decide | omega) (by first | decide | omega) (by decide)
        have q1735 : h1329 78 2 = h1314 78 2 := by rw [← e1331]; exact x_up_i (by first | decide | omega)
        have q1736 : h1314 78 2 = h1223 78 2 := jK 0 f1316 rg_78_2_0_1 (by first | decide | omega) (by first | decide | omega) (by decide)
        have q1737 : h1223 78 2 = h1143 78 2 := jK 0 f1225 rg_78_2_0_1 (by first | decide | omega) (by first | decide | omega) (by decide)
        have q1738 : h1143 78 2 = h1128 78 2 := by rw [← e1145]; exact x_up_i (by first | decide | omega)
        have q1739 : h1128 78 2 = h1065 78 2 := jK 0 f1130 rg_78_2_0_1 (by first | decide | omega) (by first | decide | omega) (by decide)
        have q1740 : h1065 78 2 = h1009 78 2 := jK 0 f1067 rg_78_2_0_1 (by first | decide | omega) (by first | decide | omega) (by decide)
        have q1741 : h1009 78 2 = h992 78 2 := by rw [← e1011]; exact x_up_i (by first | decide | omega)
        have q1742 : h992 78 2 = h972 78 2 := jK 0 f994 rg_78_2_0_1 (by first | decide | omega) (by first | decide | omega) (by decide)
        have q1743 : h972 78 2 = h14 78 2 := by rw [← e974]; exact x_up_i (by first | decide | omega)
        have q1744 : h14 78 2 = h 78 2 := jK 0 f16 rg_78_2_0_1 (by first | decide | omega) (by first | decide | omega) (by decide)
        have b1745 := jB (e := 3) 0 hJ rg_78_3_0_1 (by first | decide | omega) (by first | decide | omega)
        have q1746 : h1697 78 3 = h1559 78 3 := by rw [← e1699]; exact x_up_i (by first | decide | omega)
        have q1747 : h1559 78 3 = h1544 78 3 := by rw [← e1561]; exact x_up_i (by first | decide | omega)
        have q1748 : h1544 78 3 = h1433 78 3 := jK 0 f1546 rg_78_3_0_1 (by first | decide | omega) (by first | decide | omega) (by decide)
        have q1749 : h1433 78 3 = h1329 78 3 := jK 0 f1435 rg_78_3_0_1 (by first | decide | omega) (by first | decide | omega) (by decide)
        have q1750 : h1329 78 3 = h1314 78 3 := by rw [← e1331]; exact x_up_i (by first | decide | omega)
        have q1751 : h1314 78 3 = h1223 78 3 := jK 0 f1316 rg_78_3_0_1 (by first | decide | omega) (by first | decide | omega) (by decide)
        have q1752 : h1223 78 3 = h1143 78 3 := jK 0 f1225 rg_78_3_0_1 (by first | decide | omega) (by first | decide | omega) (by decide)
        have q1753 : h1143 78 3 = h1128 78 3 := by rw [← e1145]; exact x_up_i (by first | decide | omega)
        have q1754 : h1128 78 3 = h1065 78 3 := jK 0 f1130 rg_78_3_0_1 (by first | decide | omega) (by first | decide | omega) (by decide)
        have q1755 : h1065 78 3 = h1009 78 3 := jK 0 f1067 rg_78_3_0_1 (by first | decide | omega) (by first | decide | omega) (by decide)
        have q1756 : h1009 78 3 = h992 78 3 := by rw [← e1011]; exact x_up_i (by first | decide | omega)
        have q1757 : h992 78 3 = h972 78 3 := jK 0 f994 rg_78_3_0_1 (by first | decide | omega) (by first | decide | omega) (by decide)
        have q1758 : h972 78 3 = h14 78 3 := by rw [← e974]; exact x_up_i (by first | decide | omega)
        have q1759 : h14 78 3 = h 78 3 := jK 0 f16 rg_78_3_0_1 (by first | decide | omega) (by first | decide | omega) (by decide)
        have q1760 : h1697 78 4 = (1 + (h 78 4)) := by rw [← e1699]; exact x_up_at
        have b1761 := jB (e := 5) 0 hJ rg_78_5_0_1 (by first | decide | omega) (by first | decide | omega)
        have q1762 : h1697 78 5 = h1559 78 5 := by rw [← e1699]; exact x_up_i (by first | decide | omega)
        have q1763 : h1559 78 5 = h1544 78 5 := by rw [← e1561]; exact x_up_i (by first | decide | omega)
        have q1764 : h1544 78 5 = h1433 78 5 := jK 0 f1546 rg_78_5_0_1 (by first | decide | omega) (by first | decide | omega) (by decide)
        have q1765 : h1433 78 5 = h1329 78 5 := jK 0 f1435 rg_78_5_0_1 (by first | decide | omega) (by first | decide | omega) (by decide)
        have q1766 : h1329 78 5 = h1314 78 5 := by rw [← e1331]; exact x_up_i (by first | decide | omega)
        have q1767 : h1314 78 5 = h1223 78 5 := jK 0 f1316 rg_78_5_0_1 (by first | decide | omega) (by first | decide | omega) (by decide)
        have q1768 : h1223 78 5 = h1143 78 5 := jK 0 f1225 rg_78_5_0_1 (by first | decide | omega) (by first | decide | omega) (by decide)
        have q1769 : h1143 78 5 = h1128 78 5 := by rw [← e1145]; exact x_up_i (by first | decide | omega)
        have q1770 : h1128 78 5 = h1065 78 5 := jK 0 f1130 rg_78_5_0_1 (by first | decide | omega) (by first | decide | omega) (by decide)
        have q1771 : h1065 78 5 = h1009 78 5 := jK 0 f1067 rg_78_5_0_1 (by first | decide | omega) (by first | decide | omega) (by decide)
        have q1772 : h1009 78 5 = h992 78 5 := by rw [← e1011]; exact x_up_i (by first | decide | omega)
        have q1773 : h992 78 5 = h972 78 5 := jK 0 f994 rg_78_5_0_1 (by first | decide | omega) (by first | decide | omega) (by decide)
        have q1774 : h972 78 5 = h14 78 5 := by rw [← e974]; exact x_up_i (by first | decide | omega)
        have q1775 : h14 78 5 = h 78 5 := jK 0 f16 rg_78_5_0_1 (by first | decide | omega) (by first | decide | omega) (by decide)
        have m1789 := Cl.fr hC f16 (by decide)
        have m1788 : Cl h972 := by rw [← e974]; exact Cl.upR (e := (200 + 5 * u8)) (v := 2147483649) u8 m1789 rg_76_200_5_10 (by first | decide | omega) (by first | decide | omega) (by first | decide | omega)
        have m1787 := Cl.fr m1788 f994 (by decide)
        have m1786 : Cl h1009 := by rw [← e1011]; exact Cl.upR (e := (201 + 5 * u8)) (v := v988) u8 m1787 rg_76_201_5_10 (by first | decide | omega) (by first | decide | omega) (by first | decide | omega)
        have m1785 := Cl.fr m1786 f1067 (by decide)
        have m1784 := Cl.fr m1785 f1130 (by decide)
        have m1783 : Cl h1143 := by rw [← e1145]; exact Cl.upR (e := (202 + 5 * u8)) (v := v1124) u8 m1784 rg_76_202_5_10 (by first | decide | omega) (by first | decide | omega) (by first | decide | omega)
        have m1782 := Cl.fr m1783 f1225 (by decide)
        have m1781 := Cl.fr m1782 f1316 (by decide)
        have m1780 : Cl h1329 := by rw [← e1331]; exact Cl.upR (e := (203 + 5 * u8)) (v := v1310) u8 m1781 rg_76_203_5_10 (by first | decide | omega) (by first | decide | omega) (by first | decide | omega)
        have m1779 := Cl.fr m1780 f1435 (by decide)
        have m1778 := Cl.fr m1779 f1546 (by decide)
        have m1777 : Cl h1559 := by rw [← e1561]; exact Cl.upR (e := (204 + 5 * u8)) (v := v1540) u8 m1778 rg_76_204_5_10 (by first | decide | omega) (by first | decide | omega) (by first | decide | omega)
        have m1776 : Cl h1697 := by rw [← e1699]; exact Cl.upR (e := 4) (v := (1 + (h 78 4))) 0 m1777 rg_76_4_0_1 (by first | decide | omega) (by first | decide | omega) (by first | decide | omega)
        have y1790 := Is.yes c33 (by first | decide | omega)
        have w1791 : Wd tB tN 10 (sk tB tN (h 75 7)) := by rw [← c21]; exact Wd.of' (by decide) y1790 c22
        have e1792 : sk tB tN (h14 75 7) = sk tB tN ((sk tB tN (h 75 7)) + iv_tl 10) := by rw [← c21, ← y1790.1]
        have q1793 : h972 75 7 = h14 75 7 := by rw [← e974]; exact x_up_k (by decide)
        have q1794 : h1009 75 7 = h992 75 7 := by rw [← e1011]; exact x_up_k (by decide)
        obtain ⟨w1795, e1796⟩ := Tw.yes c1071 (by first | decide | omega)
        have q1797 : h1143 75 7 = h1128 75 7 := by rw [← e1145]; exact x_up_k (by decide)
        obtain ⟨w1798, e1799⟩ := Tw.yes c1229 (by first | decide | omega)
        have q1800 : h1329 75 7 = h1314 75 7 := by rw [← e1331]; exact x_up_k (by decide)
        obtain ⟨w1801, e1802⟩ := Tw.yes c1439 (by first | decide | omega)
        have q1803 : h1697 75 7 = h1559 75 7 := by rw [← e1699]; exact x_up_k (by decide)
        have q1804 : h1559 75 7 = h1544 75 7 := by rw [← e1561]; exact x_up_k (by decide)
        refine x_retI (np := 168) (x := 0) (by decide +kernel) (by decide) (Or.inr ⟨by decide +kernel, by first | decide | omega, by first | decide | omega⟩) ⟨_, rfl, (by decide), ?_⟩
        exact ⟨j1698, f1700, (by first | decide | omega), (fun z => by first | decide | omega), (fun z => by first | decide | omega), (fun z => by first | decide | omega), (fun z => by first | decide | omega), (fun z => by first | decide | omega), (fun z => by first | decide | omega), (fun _ => m1776), (Or.inr ⟨by first | decide | omega, (or9.f (wd_910 w1791) rfl rfl (wd9.y w1791 rfl e1792 rfl (nm9.y c1001 (by first | decide | omega) (by first | decide | omega) (congrArg (sk tB tN) (show h972 75 7 = h14 75 7 by first | decide | omega)) (by first | decide | omega) rfl (wd9.y w1795 (congrArg (sk tB tN) (show h1009 75 7 = h992 75 7 by first | decide | omega)) e1796 rfl (nm9.y c1137 (by first | decide | omega) (by first | decide | omega) rfl (by first | decide | omega) rfl (wd9.y w1798 (congrArg (sk tB tN) (show h1143 75 7 = h1128 75 7 by first | decide | omega)) e1799 rfl (nm9.y c1323 (by first | decide | omega) (by first | decide | omega) rfl (by first | decide | omega) rfl (wd9.y w1801 (congrArg (sk tB tN) (show h1329 75 7 = h1314 75 7 by first | decide | omega)) e1802 rfl (nm9.y c1553 (by first | decide | omega) (by first | decide | omega) rfl (by first | decide | omega) rfl (fin9.mk (by first | decide | omega) (congrArg (sk tB tN) (show h1544 75 7 = h1697 75 7 by first | decide | omega))))))))))))⟩), (fun z => absurd z (by first | decide | omega))⟩
      have q1681 : ¬ (2147483649 ≠ 2147483648) := q1681
      exfalso; omega
    have q980 : ¬ (2147483649 ≠ 2147483648) := q980
    exfalso; omega
  have q5 : ¬ ((h 78 4) ≠ 2147483658) := q5
  refine x_const (np := 12) (x := 9223372039002259456) (a := 2147483648) (by decide +kernel) (by decide) (by decide) ?_
  have b1805 := jB (e := 0) 0 hJ rg_78_0_0_1 (by first | decide | omega) (by first | decide | omega)
  have b1806 := jB (e := 2) 0 hJ rg_78_2_0_1 (by first | decide | omega) (by first | decide | omega)
  have b1807 := jB (e := 3) 0 hJ rg_78_3_0_1 (by first | decide | omega) (by first | decide | omega)
  have b1808 := jB (e := 5) 0 hJ rg_78_5_0_1 (by first | decide | omega) (by first | decide | omega)
  have b1809 := jB (e := 0) 0 hJ rg_76_0_0_1 (by first | decide | omega) (by first | decide | omega)
  refine x_retI (np := 13) (x := 0) (by decide +kernel) (by decide) (Or.inr ⟨by decide +kernel, by first | decide | omega, by first | decide | omega⟩) ⟨_, rfl, (by decide), ?_⟩
  exact ⟨hJ, hF, (by first | decide | omega), (fun z => by first | decide | omega), (fun z => by first | decide | omega), (fun z => by first | decide | omega), (fun z => by first | decide | omega), (fun z => by first | decide | omega), (fun z => by first | decide | omega), (fun z => absurd z (by first | decide | omega)), (Or.inl ⟨by first | decide | omega, by first | decide | omega⟩), (fun _ => Or.inl ⟨by first | decide | omega, rfl⟩)⟩
