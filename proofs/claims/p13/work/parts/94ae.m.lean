/-! ===== methods ===== -/
set_option maxHeartbeats 0 in
/-- LentNamesModel.end(I)Z -/
theorem c166_75 {sc : Nat × Nat} {d a1 : Nat} {h : xh} (hJ : J h) (ba1 : 0 ≤ a1 ∧ a1 ≤ 4294967295) : X sc 166 d (xI fun r h' => J h' ∧ Fr 655360 h h' ∧ (2147483648 ≤ r ∧ r ≤ 2147483649) ∧ ((a1 < 2147483648 ∨ h 75 6 < a1) → r = 2147483648 ∧ h' 75 6 = h 75 6) ∧ ((2147483648 ≤ a1 ∧ a1 ≤ h 75 6) → r = 2147483649 ∧ h' 75 6 = a1)) 0 0 0 [x_r 75, iv_c a1] [] h := by
  have la1 : a1 < 4294967296 := by first | decide | omega
  have hF := Fr.refl 655360 h
  refine x_aload (np := 1) (x := 0) (by decide +kernel) rfl (x_nc_le (by decide)) ?_
  refine x_const (np := 2) (x := 9223372039002259456) (a := 2147483648) (by decide +kernel) (by decide) (by decide) ?_
  refine x_putI (np := 5) (x := 704) (f := 0) (by decide +kernel) (by decide +kernel) (by decide) (Or.inl (by decide)) ?_
  have j2 := jU (e := 0) (v := 2147483648) 0 hJ rg_75_0_0_1 (by first | decide | omega) (by first | decide | omega) (by first | decide | omega)
  have f4 := jF (e := 0) (v := 2147483648) 0 hF rg_75_0_0_1 (by first | decide | omega) (by first | decide | omega) (by decide)
  generalize e3 : x_up h 75 0 2147483648 = h1 at j2 f4 ⊢
  refine x_iload (np := 6) (x := 1) (by decide +kernel) rfl la1 ?_
  refine x_ifz (k := 2) (tg := 17) (np := 9) (by decide +kernel) (by decide) la1 (fun q5 => ?_) (fun q6 => ?_)
  · have q5 : a1 < 2147483648 := q5
    refine x_const (np := 18) (x := 9223372039002259456) (a := 2147483648) (by decide +kernel) (by decide) (by decide) ?_
    have b7 := jB (e := 6) 0 hJ rg_75_6_0_1 (by first | decide | omega) (by first | decide | omega)
    have q8 : h1 75 6 = h 75 6 := by rw [← e3]; exact x_up_i (by first | decide | omega)
    have q9 : h1 75 6 = h 75 6 := by rw [← e3]; exact x_up_i (by first | decide | omega)
    refine x_retI (np := 19) (x := 0) (by decide +kernel) (by decide) (Or.inr ⟨by decide +kernel, by first | decide | omega, by first | decide | omega⟩) ⟨_, rfl, (by decide), ?_⟩
    exact ⟨j2, f4, (by first | decide | omega), (fun z => by first | decide | omega), (fun z => by first | decide | omega)⟩
  have q6 : ¬ (a1 < 2147483648) := q6
  refine x_iload (np := 10) (x := 1) (by decide +kernel) rfl la1 ?_
  refine x_aload (np := 11) (x := 0) (by decide +kernel) rfl (x_nc_le (by decide)) ?_
  have q10 : h1 75 6 = h 75 6 := by rw [← e3]; exact x_up_i (by first | decide | omega)
  have b11 := jB (e := 6) 0 hJ rg_75_6_0_1 (by first | decide | omega) (by first | decide | omega)
  refine x_getC (np := 14) (x := 710) (f := 6) (q := (h 75 6)) (by decide +kernel) (by decide) (by decide +kernel) q10 (fun l12 => ?_)
  refine x_icmp (k := 5) (tg := 19) (np := 17) (by decide +kernel) (by decide) la1 l12 (fun q13 => ?_) (fun q14 => ?_)
  · have q13 : a1 ≤ (h 75 6) := q13
    refine x_aload (np := 20) (x := 0) (by decide +kernel) rfl (x_nc_le (by decide)) ?_
    refine x_iload (np := 21) (x := 1) (by decide +kernel) rfl la1 ?_
    refine x_putI (np := 24) (x := 710) (f := 6) (by decide +kernel) (by decide +kernel) la1 (Or.inl (by decide)) ?_
    have j16 := jU (e := 6) (v := a1) 0 j2 rg_75_6_0_1 (by first | decide | omega) (by first | decide | omega) (by first | decide | omega)
    have f18 := jF (e := 6) (v := a1) 0 f4 rg_75_6_0_1 (by first | decide | omega) (by first | decide | omega) (by decide)
    generalize e17 : x_up h1 75 6 a1 = h15 at j16 f18 ⊢
    refine x_const (np := 25) (x := 9223372043297226753) (a := 2147483649) (by decide +kernel) (by decide) (by decide) ?_
    have q19 : h15 75 6 = a1 := by rw [← e17]; exact x_up_at
    have q20 : h15 75 6 = a1 := by rw [← e17]; exact x_up_at
    refine x_retI (np := 26) (x := 0) (by decide +kernel) (by decide) (Or.inr ⟨by decide +kernel, by first | decide | omega, by first | decide | omega⟩) ⟨_, rfl, (by decide), ?_⟩
    exact ⟨j16, f18, (by first | decide | omega), (fun z => by first | decide | omega), (fun z => by first | decide | omega)⟩
  have q14 : ¬ (a1 ≤ (h 75 6)) := q14
  refine x_const (np := 18) (x := 9223372039002259456) (a := 2147483648) (by decide +kernel) (by decide) (by decide) ?_
  have q21 : h1 75 6 = h 75 6 := by rw [← e3]; exact x_up_i (by first | decide | omega)
  have q22 : h1 75 6 = h 75 6 := by rw [← e3]; exact x_up_i (by first | decide | omega)
  refine x_retI (np := 19) (x := 0) (by decide +kernel) (by decide) (Or.inr ⟨by decide +kernel, by first | decide | omega, by first | decide | omega⟩) ⟨_, rfl, (by decide), ?_⟩
  exact ⟨j2, f4, (by first | decide | omega), (fun z => by first | decide | omega), (fun z => by first | decide | omega)⟩
set_option maxHeartbeats 0 in
/-- LentNamesModel.fault()I -/
theorem c175_75 {sc : Nat × Nat} {d  : Nat} {h : xh} (hJ : J h) : X sc 175 d (xI fun r h' => J h' ∧ Fr 131072 h h' ∧ (0 ≤ r ∧ r ≤ 4294967295)) 0 0 0 [x_r 75] [] h := by
  have hF := Fr.refl 131072 h
  refine x_aload (np := 1) (x := 0) (by decide +kernel) rfl (x_nc_le (by decide)) ?_
  refine x_const (np := 2) (x := 9223372039002259456) (a := 2147483648) (by decide +kernel) (by decide) (by decide) ?_
  refine x_putI (np := 5) (x := 704) (f := 0) (by decide +kernel) (by decide +kernel) (by decide) (Or.inl (by decide)) ?_
  have j2 := jU (e := 0) (v := 2147483648) 0 hJ rg_75_0_0_1 (by first | decide | omega) (by first | decide | omega) (by first | decide | omega)
  have f4 := jF (e := 0) (v := 2147483648) 0 hF rg_75_0_0_1 (by first | decide | omega) (by first | decide | omega) (by decide)
  generalize e3 : x_up h 75 0 2147483648 = h1 at j2 f4 ⊢
  refine x_aload (np := 6) (x := 0) (by decide +kernel) rfl (x_nc_le (by decide)) ?_
  have q5 : h1 75 11 = h 75 11 := by rw [← e3]; exact x_up_i (by first | decide | omega)
  refine x_getC (np := 9) (x := 715) (f := 11) (q := (h 75 11)) (by decide +kernel) (by decide) (by decide +kernel) q5 (fun l6 => ?_)
  refine x_retI (np := 10) (x := 0) (by decide +kernel) l6 (Or.inl (by decide +kernel)) ⟨_, rfl, l6, ?_⟩
  exact ⟨j2, f4, (by first | decide | omega)⟩
set_option maxHeartbeats 0 in
/-- LentNamesModel.blanks()V -/
theorem c168_75 {sc : Nat × Nat} {d  : Nat} {h : xh} {tB : Nat → Nat} {tN : Nat} (hJ : J h) (hT : Tq tB tN h) : X sc 168 (d + 1) (xV fun h' => J h' ∧ Fr 5242881 h h' ∧ (h 75 7 + 0 ≤ h' 75 7) ∧ (h' 75 9 = h' 75 7) ∧ h' 75 7 = sk tB tN (h 75 7)) 0 0 0 [x_r 75] [] h := by
  have hF := Fr.refl 5242881 h
  have p76 : ∀ (n : Nat) (h73 : xh), 4294967296 - h73 75 7 < n → h 75 7 ≤ h73 75 7 → J h73 → Fr 1048576 h h73 → sk tB tN (h 75 7) = sk tB tN (h73 75 7) → X sc 168 (d + 1) (xV fun h' => J h' ∧ Fr 5242881 h h' ∧ (h 75 7 + 0 ≤ h' 75 7) ∧ (h' 75 9 = h' 75 7) ∧ h' 75 7 = sk tB tN (h 75 7)) 0 0 0 [x_r 75] [] h73 := by
    intro n
    induction n with
    | zero => intro h73 q79; exact absurd q79 (Nat.not_lt_zero _)
    | succ n i80 =>
      intro h73 q79 b77 j75 f74 m78
      have f81 := Fr.trans hF f74 (by decide)
      refine x_aload (np := 1) (x := 0) (by decide +kernel) rfl (x_nc_le (by decide)) ?_
      refine x_const (np := 3) (x := 9223372176441212960) (a := 2147483680) (by decide +kernel) (by decide) (by decide) ?_
      refine x_const (np := 5) (x := 9223372176441212960) (a := 2147483680) (by decide +kernel) (by decide) (by decide) ?_
      refine x_nI (t := 6) (mj := 167) (n := 3) (rc := 12) (ml := 3) (nr := 0) (np := 8) (as := [x_r 75, iv_c 2147483680, iv_c 2147483680]) (rest := []) (lo1 := [x_r 75, iv_c 2147483680, iv_c 2147483680]) (by decide +kernel) (by decide) (by decide +kernel) (x_rb_of (by decide +kernel)) rfl rfl (x_wr (by decide) (x_wi (by decide) (x_wi (by decide) x_wn))) x_wn (by decide) rfl ?_
      refine x_aload (np := 1) (x := 0) (by decide +kernel) rfl (x_nc_le (by decide)) ?_
      have b82 := jB (e := 7) 0 j75 rg_75_7_0_1 (by first | decide | omega) (by first | decide | omega)
      refine x_getC (np := 4) (x := 711) (f := 7) (q := (h73 75 7)) (by decide +kernel) (by decide) (by decide +kernel) rfl (fun l83 => ?_)
      refine x_aload (np := 5) (x := 0) (by decide +kernel) rfl (x_nc_le (by decide)) ?_
      have q84 : h73 75 8 = h 75 8 := jK 0 f74 rg_75_8_0_1 (by first | decide | omega) (by first | decide | omega) (by decide)
      have b85 := jB (e := 8) 0 hJ rg_75_8_0_1 (by first | decide | omega) (by first | decide | omega)
      refine x_getC (np := 8) (x := 712) (f := 8) (q := (h 75 8)) (by decide +kernel) (by decide) (by decide +kernel) q84 (fun l86 => ?_)
      refine x_icmp (k := 3) (tg := 41) (np := 11) (by decide +kernel) (by decide) l83 l86 (fun q87 => ?_) (fun q88 => ?_)
      · have q87 : (h 75 8) ≤ (h73 75 7) := q87
        refine x_const (np := 42) (x := 9223372039002259456) (a := 2147483648) (by decide +kernel) (by decide) (by decide) ?_
        refine x_retI (np := 43) (x := 0) (by decide +kernel) (by decide) (Or.inr ⟨by decide +kernel, by first | decide | omega, by first | decide | omega⟩) ⟨_, rfl, (by decide), ?_⟩
        refine x_ifz (k := 0) (tg := 24) (np := 11) (by decide +kernel) (by decide) (by decide) (fun q89 => ?_) (fun q90 => ?_)
        · have q89 : 2147483648 = 2147483648 := q89
          refine x_aload (np := 25) (x := 0) (by decide +kernel) rfl (x_nc_le (by decide)) ?_
          refine x_aload (np := 26) (x := 0) (by decide +kernel) rfl (x_nc_le (by decide)) ?_
          refine x_getC (np := 29) (x := 711) (f := 7) (q := (h73 75 7)) (by decide +kernel) (by decide) (by decide +kernel) rfl (fun l91 => ?_)
          refine x_putI (np := 32) (x := 713) (f := 9) (by decide +kernel) (by decide +kernel) l83 (Or.inl (by decide)) ?_
          have j93 := jU (e := 9) (v := (h73 75 7)) 0 j75 rg_75_9_0_1 (by first | decide | omega) (by first | decide | omega) (by first | decide | omega)
          have f95 := jF (e := 9) (v := (h73 75 7)) 0 f81 rg_75_9_0_1 (by first | decide | omega) (by first | decide | omega) (by decide)
          generalize e94 : x_up h73 75 9 (h73 75 7) = h92 at j93 f95 ⊢
          have b96 := jB (e := 7) 0 hJ rg_75_7_0_1 (by first | decide | omega) (by first | decide | omega)
          have q97 : h92 75 7 = h73 75 7 := by rw [← e94]; exact x_up_i (by first | decide | omega)
          have q98 : h92 75 7 = h73 75 7 := by rw [← e94]; exact x_up_i (by first | decide | omega)
          have q99 : h92 75 9 = (h73 75 7) := by rw [← e94]; exact x_up_at
          have q100 : h92 75 7 = h73 75 7 := by rw [← e94]; exact x_up_i (by first | decide | omega)
          have q101 : h73 75 8 = h 75 8 := jK 0 f74 rg_75_8_0_1 (by first | decide | omega) (by first | decide | omega) (by decide)
          have m103 := Tq.fr hT f74 (by decide) (by decide)
          have z102 := m103.1
          refine x_retV (np := 33) (x := 0) (by decide +kernel) (by decide +kernel) ⟨rfl, ?_⟩
          exact ⟨j93, f95, (by first | decide | omega), (by first | decide | omega), ((show h92 75 7 = h73 75 7 by first | decide | omega).trans (m78.trans (sk_stop (by first | decide | omega))).symm)⟩
        have q90 : ¬ (2147483648 = 2147483648) := q90
        exfalso; omega
      have q88 : ¬ ((h 75 8) ≤ (h73 75 7)) := q88
      refine x_aload (np := 12) (x := 0) (by decide +kernel) rfl (x_nc_le (by decide)) ?_
      have q104 : h73 75 5 = 79 := by have z := jB (e := 5) 0 j75 rg_75_5_0_1 (by decide) (by decide); omega
      refine x_getR (np := 15) (x := 709) (f := 5) (q := 79) (by decide +kernel) (by decide) (by decide +kernel) q104 ?_
      refine x_aload (np := 16) (x := 0) (by decide +kernel) rfl (x_nc_le (by decide)) ?_
      refine x_getC (np := 19) (x := 711) (f := 7) (q := (h73 75 7)) (by decide +kernel) (by decide) (by decide +kernel) rfl (fun l105 => ?_)
      obtain ⟨u106, q107⟩ : ∃ z, (h73 75 7) = 2147483648 + z := ⟨(h73 75 7) - 2147483648, by first | decide | omega⟩
      have q108 : h73 79 u106 = h 79 u106 := jK u106 f74 rg_79_0_1_400 (by first | decide | omega) (by first | decide | omega) (by decide)
      have b109 := jB (e := u106) u106 hJ rg_79_0_1_400 (by first | decide | omega) (by first | decide | omega)
      refine x_baldC (np := 20) (x := 0) (n := 400) (i := u106) (q := (h 79 u106)) (by decide +kernel) (by decide +kernel) (by first | decide | omega) (by first | decide | omega) (by decide) q108 (fun l110 => ?_)
      refine x_iload (np := 21) (x := 1) (by decide +kernel) rfl (by decide) ?_
      refine x_icmp (k := 2) (tg := 41) (np := 24) (by decide +kernel) (by decide) l110 (by decide) (fun q111 => ?_) (fun q112 => ?_)
      · have q111 : (h 79 u106) < 2147483680 := q111
        refine x_const (np := 42) (x := 9223372039002259456) (a := 2147483648) (by decide +kernel) (by decide) (by decide) ?_
        refine x_retI (np := 43) (x := 0) (by decide +kernel) (by decide) (Or.inr ⟨by decide +kernel, by first | decide | omega, by first | decide | omega⟩) ⟨_, rfl, (by decide), ?_⟩
        refine x_ifz (k := 0) (tg := 24) (np := 11) (by decide +kernel) (by decide) (by decide) (fun q113 => ?_) (fun q114 => ?_)
        · have q113 : 2147483648 = 2147483648 := q113
          refine x_aload (np := 25) (x := 0) (by decide +kernel) rfl (x_nc_le (by decide)) ?_
          refine x_aload (np := 26) (x := 0) (by decide +kernel) rfl (x_nc_le (by decide)) ?_
          refine x_getC (np := 29) (x := 711) (f := 7) (q := (h73 75 7)) (by decide +kernel) (by decide) (by decide +kernel) rfl (fun l115 => ?_)
          refine x_putI (np := 32) (x := 713) (f := 9) (by decide +kernel) (by decide +kernel) l83 (Or.inl (by decide)) ?_
          have j117 := jU (e := 9) (v := (h73 75 7)) 0 j75 rg_75_9_0_1 (by first | decide | omega) (by first | decide | omega) (by first | decide | omega)
          have f119 := jF (e := 9) (v := (h73 75 7)) 0 f81 rg_75_9_0_1 (by first | decide | omega) (by first | decide | omega) (by decide)
          generalize e118 : x_up h73 75 9 (h73 75 7) = h116 at j117 f119 ⊢
          have b120 := jB (e := 7) 0 hJ rg_75_7_0_1 (by first | decide | omega) (by first | decide | omega)
          have q121 : h116 75 7 = h73 75 7 := by rw [← e118]; exact x_up_i (by first | decide | omega)
          have q122 : h116 75 7 = h73 75 7 := by rw [← e118]; exact x_up_i (by first | decide | omega)
          have q123 : h116 75 9 = (h73 75 7) := by rw [← e118]; exact x_up_at
          have q124 : h116 75 7 = h73 75 7 := by rw [← e118]; exact x_up_i (by first | decide | omega)
          have q125 : h73 75 8 = h 75 8 := jK 0 f74 rg_75_8_0_1 (by first | decide | omega) (by first | decide | omega) (by decide)
          have m127 := Tq.fr hT f74 (by decide) (by decide)
          have z126 := m127.1
          have q128 : h73 79 u106 = h 79 u106 := jK u106 f74 rg_79_0_1_400 (by first | decide | omega) (by first | decide | omega) (by decide)
          have z129 := Tq.at (p := (h73 75 7)) (u := u106) m127 (by first | decide | omega) (by first | decide | omega)
          refine x_retV (np := 33) (x := 0) (by decide +kernel) (by decide +kernel) ⟨rfl, ?_⟩
          exact ⟨j117, f119, (by first | decide | omega), (by first | decide | omega), ((show h116 75 7 = h73 75 7 by first | decide | omega).trans (m78.trans (sk_stop (by first | decide | omega))).symm)⟩
        have q114 : ¬ (2147483648 = 2147483648) := q114
        exfalso; omega
      have q112 : ¬ ((h 79 u106) < 2147483680) := q112
      refine x_aload (np := 25) (x := 0) (by decide +kernel) rfl (x_nc_le (by decide)) ?_
      have q130 : h73 75 5 = 79 := by have z := jB (e := 5) 0 j75 rg_75_5_0_1 (by decide) (by decide); omega
      refine x_getR (np := 28) (x := 709) (f := 5) (q := 79) (by decide +kernel) (by decide) (by decide +kernel) q130 ?_
      refine x_aload (np := 29) (x := 0) (by decide +kernel) rfl (x_nc_le (by decide)) ?_
      refine x_getC (np := 32) (x := 711) (f := 7) (q := (h73 75 7)) (by decide +kernel) (by decide) (by decide +kernel) rfl (fun l131 => ?_)
      have q132 : h73 79 u106 = h 79 u106 := jK u106 f74 rg_79_0_1_400 (by first | decide | omega) (by first | decide | omega) (by decide)
      refine x_baldC (np := 33) (x := 0) (n := 400) (i := u106) (q := (h 79 u106)) (by decide +kernel) (by decide +kernel) (by first | decide | omega) (by first | decide | omega) (by decide) q132 (fun l133 => ?_)
      refine x_iload (np := 34) (x := 2) (by decide +kernel) rfl (by decide) ?_
      refine x_icmp (k := 4) (tg := 41) (np := 37) (by decide +kernel) (by decide) l110 (by decide) (fun q134 => ?_) (fun q135 => ?_)
      · have q134 : 2147483680 < (h 79 u106) := q134
        refine x_const (np := 42) (x := 9223372039002259456) (a := 2147483648) (by decide +kernel) (by decide) (by decide) ?_
        refine x_retI (np := 43) (x := 0) (by decide +kernel) (by decide) (Or.inr ⟨by decide +kernel, by first | decide | omega, by first | decide | omega⟩) ⟨_, rfl, (by decide), ?_⟩
        refine x_ifz (k := 0) (tg := 24) (np := 11) (by decide +kernel) (by decide) (by decide) (fun q136 => ?_) (fun q137 => ?_)
        · have q136 : 2147483648 = 2147483648 := q136
          refine x_aload (np := 25) (x := 0) (by decide +kernel) rfl (x_nc_le (by decide)) ?_
          refine x_aload (np := 26) (x := 0) (by decide +kernel) rfl (x_nc_le (by decide)) ?_
          refine x_getC (np := 29) (x := 711) (f := 7) (q := (h73 75 7)) (by decide +kernel) (by decide) (by decide +kernel) rfl (fun l138 => ?_)
          refine x_putI (np := 32) (x := 713) (f := 9) (by decide +kernel) (by decide +kernel) l83 (Or.inl (by decide)) ?_
          have j140 := jU (e := 9) (v := (h73 75 7)) 0 j75 rg_75_9_0_1 (by first | decide | omega) (by first | decide | omega) (by first | decide | omega)
          have f142 := jF (e := 9) (v := (h73 75 7)) 0 f81 rg_75_9_0_1 (by first | decide | omega) (by first | decide | omega) (by decide)
          generalize e141 : x_up h73 75 9 (h73 75 7) = h139 at j140 f142 ⊢
          have b143 := jB (e := 7) 0 hJ rg_75_7_0_1 (by first | decide | omega) (by first | decide | omega)
          have q144 : h139 75 7 = h73 75 7 := by rw [← e141]; exact x_up_i (by first | decide | omega)
          have q145 : h139 75 7 = h73 75 7 := by rw [← e141]; exact x_up_i (by first | decide | omega)
          have q146 : h139 75 9 = (h73 75 7) := by rw [← e141]; exact x_up_at
          have q147 : h139 75 7 = h73 75 7 := by rw [← e141]; exact x_up_i (by first | decide | omega)
          have q148 : h73 75 8 = h 75 8 := jK 0 f74 rg_75_8_0_1 (by first | decide | omega) (by first | decide | omega) (by decide)
          have m150 := Tq.fr hT f74 (by decide) (by decide)
          have z149 := m150.1
          have q151 : h73 79 u106 = h 79 u106 := jK u106 f74 rg_79_0_1_400 (by first | decide | omega) (by first | decide | omega) (by decide)
          have z152 := Tq.at (p := (h73 75 7)) (u := u106) m150 (by first | decide | omega) (by first | decide | omega)
          refine x_retV (np := 33) (x := 0) (by decide +kernel) (by decide +kernel) ⟨rfl, ?_⟩
          exact ⟨j140, f142, (by first | decide | omega), (by first | decide | omega), ((show h139 75 7 = h73 75 7 by first | decide | omega).trans (m78.trans (sk_stop (by first | decide | omega))).symm)⟩
        have q137 : ¬ (2147483648 = 2147483648) := q137
        exfalso; omega
      have q135 : ¬ (2147483680 < (h 79 u106)) := q135
      refine x_const (np := 38) (x := 9223372043297226753) (a := 2147483649) (by decide +kernel) (by decide) (by decide) ?_
      refine x_goto (np := 41) (x := 42) (by decide +kernel) ?_
      refine x_retI (np := 43) (x := 0) (by decide +kernel) (by decide) (Or.inr ⟨by decide +kernel, by first | decide | omega, by first | decide | omega⟩) ⟨_, rfl, (by decide), ?_⟩
      refine x_ifz (k := 0) (tg := 24) (np := 11) (by decide +kernel) (by decide) (by decide) (fun q153 => ?_) (fun q154 => ?_)
      · have q153 : 2147483649 = 2147483648 := q153
        exfalso; omega
      have q154 : ¬ (2147483649 = 2147483648) := q154
      refine x_aload (np := 12) (x := 0) (by decide +kernel) rfl (x_nc_le (by decide)) ?_
      refine x_dup (np := 13) (x := 0) (by decide +kernel) (by have z := x_nc_le (k := 75) (by decide); unfold x_r; omega) ?_
      refine x_getC (np := 16) (x := 711) (f := 7) (q := (h73 75 7)) (by decide +kernel) (by decide) (by decide +kernel) rfl (fun l155 => ?_)
      refine x_const (np := 17) (x := 9223372043297226753) (a := 2147483649) (by decide +kernel) (by decide) (by decide) ?_
      refine x_iadd (np := 18) (x := 0) (v := (1 + (h73 75 7))) (by decide +kernel) l83 (by decide) (by first | decide | omega) (by first | decide | omega) ?_
      refine x_putI (np := 21) (x := 711) (f := 7) (by decide +kernel) (by decide +kernel) (by first | decide | omega) (Or.inl (by decide)) ?_
      have j157 := jU (e := 7) (v := (1 + (h73 75 7))) 0 j75 rg_75_7_0_1 (by first | decide | omega) (by first | decide | omega) (by first | decide | omega)
      have f159 := jF (e := 7) (v := (1 + (h73 75 7))) 0 f81 rg_75_7_0_1 (by first | decide | omega) (by first | decide | omega) (by decide)
      have f160 := jF (e := 7) (v := (1 + (h73 75 7))) 0 f74 rg_75_7_0_1 (by first | decide | omega) (by first | decide | omega) (by decide)
      generalize e158 : x_up h73 75 7 (1 + (h73 75 7)) = h156 at j157 f159 f160 ⊢
      refine x_goto (np := 24) (x := 0) (by decide +kernel) ?_
      have q161 : h156 75 7 = (1 + (h73 75 7)) := by rw [← e158]; exact x_up_at
      have b162 := jB (e := 7) 0 hJ rg_75_7_0_1 (by first | decide | omega) (by first | decide | omega)
      have q163 : h156 75 7 = (1 + (h73 75 7)) := by rw [← e158]; exact x_up_at
      have q164 : h73 75 8 = h 75 8 := jK 0 f74 rg_75_8_0_1 (by first | decide | omega) (by first | decide | omega) (by decide)
      have m166 := Tq.fr hT f74 (by decide) (by decide)
      have z165 := m166.1
      have q167 : h73 79 u106 = h 79 u106 := jK u106 f74 rg_79_0_1_400 (by first | decide | omega) (by first | decide | omega) (by decide)
      have z168 := Tq.at (p := (h73 75 7)) (u := u106) m166 (by first | decide | omega) (by first | decide | omega)
      have q169 : h156 75 7 = (1 + (h73 75 7)) := by rw [← e158]; exact x_up_at
      exact i80  h156 (by first | decide | omega) (by first | decide | omega) j157 f160 (m78.trans ((sk_step (by first | decide | omega) (by first | decide | omega)).trans (congrArg (sk tB tN) (show h73 75 7 + 1 = h156 75 7 by first | decide | omega))))
  have b170 := jB (e := 7) 0 hJ rg_75_7_0_1 (by first | decide | omega) (by first | decide | omega)
  exact p76 _  h (Nat.lt_succ_self _) (by first | decide | omega) hJ (Fr.refl _ _) rfl
set_option maxHeartbeats 0 in
/-- LentNamesModel.letters()V -/
theorem c169_75 {sc : Nat × Nat} {d  : Nat} {h : xh} {tB : Nat → Nat} {tN : Nat} (hJ : J h) (hT : Tq tB tN h) : X sc 169 (d + 2) (xV fun h' => J h' ∧ Fr 5242881 h h' ∧ (h 75 7 ≤ h' 75 9) ∧ (h' 75 9 ≤ h' 75 7) ∧ h' 75 9 = sk tB tN (h 75 7) ∧ h' 75 7 = le9 tB tN (h' 75 9)) 0 0 0 [x_r 75] [] h := by
  have hF := Fr.refl 5242881 h
  refine x_aload (np := 1) (x := 0) (by decide +kernel) rfl (x_nc_le (by decide)) ?_
  refine x_cV (t := 6) (mj := 168) (n := 1) (rc := 12) (ml := 1) (nr := 0) (np := 4) (as := [x_r 75]) (rest := []) (lo1 := [x_r 75]) (by decide +kernel) (by decide) (by decide +kernel) (x_rb_of (by decide +kernel)) rfl rfl (x_wr (by decide) x_wn) x_wn (by decide) rfl (c168_75 hJ  hT) (fun h4 q3 => ?_)
  obtain ⟨j5, f6, c9, c10, c11⟩ := q3
  have f12 := Fr.trans hF f6 (by decide)
  have b13 := jB (e := 7) 0 hJ rg_75_7_0_1 (by first | decide | omega) (by first | decide | omega)
  have b14 := jB (e := 7) 0 j5 rg_75_7_0_1 (by first | decide | omega) (by first | decide | omega)
  have b15 := jB (e := 9) 0 j5 rg_75_9_0_1 (by first | decide | omega) (by first | decide | omega)
  have p96 : ∀ (n : Nat) (h93 : xh), 4294967296 - h93 75 7 < n → h 75 7 ≤ h93 75 9 → h93 75 9 ≤ h93 75 7 → J h93 → Fr 1048576 h4 h93 → h93 75 9 = sk tB tN (h 75 7) ∧ le9 tB tN (h93 75 9) = le9 tB tN (h93 75 7) → X sc 169 (d + 2) (xV fun h' => J h' ∧ Fr 5242881 h h' ∧ (h 75 7 ≤ h' 75 9) ∧ (h' 75 9 ≤ h' 75 7) ∧ h' 75 9 = sk tB tN (h 75 7) ∧ h' 75 7 = le9 tB tN (h' 75 9)) 0 0 4 [x_r 75] [] h93 := by
    intro n
    induction n with
    | zero => intro h93 q100; exact absurd q100 (Nat.not_lt_zero _)
    | succ n i101 =>
      intro h93 q100 b97 b98 j95 f94 m99
      have f102 := Fr.trans f12 f94 (by decide)
      refine x_aload (np := 5) (x := 0) (by decide +kernel) rfl (x_nc_le (by decide)) ?_
      refine x_const (np := 7) (x := 9223372455614087265) (a := 2147483745) (by decide +kernel) (by decide) (by decide) ?_
      refine x_const (np := 9) (x := 9223372562988269690) (a := 2147483770) (by decide +kernel) (by decide) (by decide) ?_
      refine x_nI (t := 6) (mj := 167) (n := 3) (rc := 12) (ml := 3) (nr := 0) (np := 12) (as := [x_r 75, iv_c 2147483745, iv_c 2147483770]) (rest := []) (lo1 := [x_r 75, iv_c 2147483745, iv_c 2147483770]) (by decide +kernel) (by decide) (by decide +kernel) (x_rb_of (by decide +kernel)) rfl rfl (x_wr (by decide) (x_wi (by decide) (x_wi (by decide) x_wn))) x_wn (by decide) rfl ?_
      refine x_aload (np := 1) (x := 0) (by decide +kernel) rfl (x_nc_le (by decide)) ?_
      have b103 := jB (e := 7) 0 j95 rg_75_7_0_1 (by first | decide | omega) (by first | decide | omega)
      refine x_getC (np := 4) (x := 711) (f := 7) (q := (h93 75 7)) (by decide +kernel) (by decide) (by decide +kernel) rfl (fun l104 => ?_)
      refine x_aload (np := 5) (x := 0) (by decide +kernel) rfl (x_nc_le (by decide)) ?_
      have q105 : h93 75 8 = h4 75 8 := jK 0 f94 rg_75_8_0_1 (by first | decide | omega) (by first | decide | omega) (by decide)
      have q106 : h4 75 8 = h 75 8 := jK 0 f6 rg_75_8_0_1 (by first | decide | omega) (by first | decide | omega) (by decide)
      have b107 := jB (e := 8) 0 hJ rg_75_8_0_1 (by first | decide | omega) (by first | decide | omega)
      refine x_getC (np := 8) (x := 712) (f := 8) (q := (h 75 8)) (by decide +kernel) (by decide) (by decide +kernel) (q105.trans q106) (fun l108 => ?_)
      refine x_icmp (k := 3) (tg := 41) (np := 11) (by decide +kernel) (by decide) l104 l108 (fun q109 => ?_) (fun q110 => ?_)
      · have q109 : (h 75 8) ≤ (h93 75 7) := q109
        refine x_const (np := 42) (x := 9223372039002259456) (a := 2147483648) (by decide +kernel) (by decide) (by decide) ?_
        refine x_retI (np := 43) (x := 0) (by decide +kernel) (by decide) (Or.inr ⟨by decide +kernel, by first | decide | omega, by first | decide | omega⟩) ⟨_, rfl, (by decide), ?_⟩
        refine x_ifz (k := 0) (tg := 28) (np := 15) (by decide +kernel) (by decide) (by decide) (fun q111 => ?_) (fun q112 => ?_)
        · have q111 : 2147483648 = 2147483648 := q111
          have q113 : h93 75 9 = h4 75 9 := jK 0 f94 rg_75_9_0_1 (by first | decide | omega) (by first | decide | omega) (by decide)
          have q114 : h93 75 9 = h4 75 9 := jK 0 f94 rg_75_9_0_1 (by first | decide | omega) (by first | decide | omega) (by decide)
          have q115 : h93 75 8 = h4 75 8 := jK 0 f94 rg_75_8_0_1 (by first | decide | omega) (by first | decide | omega) (by decide)
          have q116 : h4 75 8 = h 75 8 := jK 0 f6 rg_75_8_0_1 (by first | decide | omega) (by first | decide | omega) (by decide)
          have m119 := Tq.fr hT f6 (by decide) (by decide)
          have m118 := Tq.fr m119 f94 (by decide) (by decide)
          have z117 := m118.1
          refine x_retV (np := 29) (x := 0) (by decide +kernel) (by decide +kernel) ⟨rfl, ?_⟩
          exact ⟨j95, f102, (by first | decide | omega), (by first | decide | omega), m99.1, ((m99.2.trans (le9_stop (fun z => by have z1 := z.1; have z2 := z.2.1; have z3 := z.2.2; omega))).symm)⟩
        have q112 : ¬ (2147483648 = 2147483648) := q112
        exfalso; omega
      have q110 : ¬ ((h 75 8) ≤ (h93 75 7)) := q110
      refine x_aload (np := 12) (x := 0) (by decide +kernel) rfl (x_nc_le (by decide)) ?_
      have q120 : h93 75 5 = 79 := by have z := jB (e := 5) 0 j95 rg_75_5_0_1 (by decide) (by decide); omega
      refine x_getR (np := 15) (x := 709) (f := 5) (q := 79) (by decide +kernel) (by decide) (by decide +kernel) q120 ?_
      refine x_aload (np := 16) (x := 0) (by decide +kernel) rfl (x_nc_le (by decide)) ?_
      refine x_getC (np := 19) (x := 711) (f := 7) (q := (h93 75 7)) (by decide +kernel) (by decide) (by decide +kernel) rfl (fun l121 => ?_)
      obtain ⟨u122, q123⟩ : ∃ z, (h93 75 7) = 2147483648 + z := ⟨(h93 75 7) - 2147483648, by first | decide | omega⟩
      have q124 : h93 79 u122 = h4 79 u122 := jK u122 f94 rg_79_0_1_400 (by first | decide | omega) (by first | decide | omega) (by decide)
      have q125 : h4 79 u122 = h 79 u122 := jK u122 f6 rg_79_0_1_400 (by first | decide | omega) (by first | decide | omega) (by decide)
      have b126 := jB (e := u122) u122 hJ rg_79_0_1_400 (by first | decide | omega) (by first | decide | omega)
      refine x_baldC (np := 20) (x := 0) (n := 400) (i := u122) (q := (h 79 u122)) (by decide +kernel) (by decide +kernel) (by first | decide | omega) (by first | decide | omega) (by decide) (q124.trans q125) (fun l127 => ?_)
      refine x_iload (np := 21) (x := 1) (by decide +kernel) rfl (by decide) ?_
      refine x_icmp (k := 2) (tg := 41) (np := 24) (by decide +kernel) (by decide) l127 (by decide) (fun q128 => ?_) (fun q129 => ?_)
      · have q128 : (h 79 u122) < 2147483745 := q128
        refine x_const (np := 42) (x := 9223372039002259456) (a := 2147483648) (by decide +kernel) (by decide) (by decide) ?_
        refine x_retI (np := 43) (x := 0) (by decide +kernel) (by decide) (Or.inr ⟨by decide +kernel, by first | decide | omega, by first | decide | omega⟩) ⟨_, rfl, (by decide), ?_⟩
        refine x_ifz (k := 0) (tg := 28) (np := 15) (by decide +kernel) (by decide) (by decide) (fun q130 => ?_) (fun q131 => ?_)
        · have q130 : 2147483648 = 2147483648 := q130
          have q132 : h93 75 9 = h4 75 9 := jK 0 f94 rg_75_9_0_1 (by first | decide | omega) (by first | decide | omega) (by decide)
          have q133 : h93 75 9 = h4 75 9 := jK 0 f94 rg_75_9_0_1 (by first | decide | omega) (by first | decide | omega) (by decide)
          have q134 : h93 75 8 = h4 75 8 := jK 0 f94 rg_75_8_0_1 (by first | decide | omega) (by first | decide | omega) (by decide)
          have q135 : h4 75 8 = h 75 8 := jK 0 f6 rg_75_8_0_1 (by first | decide | omega) (by first | decide | omega) (by decide)
          have m138 := Tq.fr hT f6 (by decide) (by decide)
          have m137 := Tq.fr m138 f94 (by decide) (by decide)
          have z136 := m137.1
          have q139 : h93 79 u122 = h4 79 u122 := jK u122 f94 rg_79_0_1_400 (by first | decide | omega) (by first | decide | omega) (by decide)
          have q140 : h4 79 u122 = h 79 u122 := jK u122 f6 rg_79_0_1_400 (by first | decide | omega) (by first | decide | omega) (by decide)
          have z141 := Tq.at (p := (h93 75 7)) (u := u122) m137 (by first | decide | omega) (by first | decide | omega)
          refine x_retV (np := 29) (x := 0) (by decide +kernel) (by decide +kernel) ⟨rfl, ?_⟩
          exact ⟨j95, f102, (by first | decide | omega), (by first | decide | omega), m99.1, ((m99.2.trans (le9_stop (fun z => by have z1 := z.1; have z2 := z.2.1; have z3 := z.2.2; omega))).symm)⟩
        have q131 : ¬ (2147483648 = 2147483648) := q131
        exfalso; omega
      have q129 : ¬ ((h 79 u122) < 2147483745) := q129
      refine x_aload (np := 25) (x := 0) (by decide +kernel) rfl (x_nc_le (by decide)) ?_
      have q142 : h93 75 5 = 79 := by have z := jB (e := 5) 0 j95 rg_75_5_0_1 (by decide) (by decide); omega
      refine x_getR (np := 28) (x := 709) (f := 5) (q := 79) (by decide +kernel) (by decide) (by decide +kernel) q142 ?_
      refine x_aload (np := 29) (x := 0) (by decide +kernel) rfl (x_nc_le (by decide)) ?_
      refine x_getC (np := 32) (x := 711) (f := 7) (q := (h93 75 7)) (by decide +kernel) (by decide) (by decide +kernel) rfl (fun l143 => ?_)
      have q144 : h93 79 u122 = h4 79 u122 := jK u122 f94 rg_79_0_1_400 (by first | decide | omega) (by first | decide | omega) (by decide)
      have q145 : h4 79 u122 = h 79 u122 := jK u122 f6 rg_79_0_1_400 (by first | decide | omega) (by first | decide | omega) (by decide)
      refine x_baldC (np := 33) (x := 0) (n := 400) (i := u122) (q := (h 79 u122)) (by decide +kernel) (by decide +kernel) (by first | decide | omega) (by first | decide | omega) (by decide) (q144.trans q145) (fun l146 => ?_)
      refine x_iload (np := 34) (x := 2) (by decide +kernel) rfl (by decide) ?_
      refine x_icmp (k := 4) (tg := 41) (np := 37) (by decide +kernel) (by decide) l127 (by decide) (fun q147 => ?_) (fun q148 => ?_)
      · have q147 : 2147483770 < (h 79 u122) := q147
        refine x_const (np := 42) (x := 9223372039002259456) (a := 2147483648) (by decide +kernel) (by decide) (by decide) ?_
        refine x_retI (np := 43) (x := 0) (by decide +kernel) (by decide) (Or.inr ⟨by decide +kernel, by first | decide | omega, by first | decide | omega⟩) ⟨_, rfl, (by decide), ?_⟩
        refine x_ifz (k := 0) (tg := 28) (np := 15) (by decide +kernel) (by decide) (by decide) (fun q149 => ?_) (fun q150 => ?_)
        · have q149 : 2147483648 = 2147483648 := q149
          have q151 : h93 75 9 = h4 75 9 := jK 0 f94 rg_75_9_0_1 (by first | decide | omega) (by first | decide | omega) (by decide)
          have q152 : h93 75 9 = h4 75 9 := jK 0 f94 rg_75_9_0_1 (by first | decide | omega) (by first | decide | omega) (by decide)
          have q153 : h93 75 8 = h4 75 8 := jK 0 f94 rg_75_8_0_1 (by first | decide | omega) (by first | decide | omega) (by decide)
          have q154 : h4 75 8 = h 75 8 := jK 0 f6 rg_75_8_0_1 (by first | decide | omega) (by first | decide | omega) (by decide)
          have m157 := Tq.fr hT f6 (by decide) (by decide)
          have m156 := Tq.fr m157 f94 (by decide) (by decide)
          have z155 := m156.1
          have q158 : h93 79 u122 = h4 79 u122 := jK u122 f94 rg_79_0_1_400 (by first | decide | omega) (by first | decide | omega) (by decide)
          have q159 : h4 79 u122 = h 79 u122 := jK u122 f6 rg_79_0_1_400 (by first | decide | omega) (by first | decide | omega) (by decide)
          have z160 := Tq.at (p := (h93 75 7)) (u := u122) m156 (by first | decide | omega) (by first | decide | omega)
          refine x_retV (np := 29) (x := 0) (by decide +kernel) (by decide +kernel) ⟨rfl, ?_⟩
          exact ⟨j95, f102, (by first | decide | omega), (by first | decide | omega), m99.1, ((m99.2.trans (le9_stop (fun z => by have z1 := z.1; have z2 := z.2.1; have z3 := z.2.2; omega))).symm)⟩
        have q150 : ¬ (2147483648 = 2147483648) := q150
        exfalso; omega
      have q148 : ¬ (2147483770 < (h 79 u122)) := q148
      refine x_const (np := 38) (x := 9223372043297226753) (a := 2147483649) (by decide +kernel) (by decide) (by decide) ?_
      refine x_goto (np := 41) (x := 42) (by decide +kernel) ?_
      refine x_retI (np := 43) (x := 0) (by decide +kernel) (by decide) (Or.inr ⟨by decide +kernel, by first | decide | omega, by first | decide | omega⟩) ⟨_, rfl, (by decide), ?_⟩
      refine x_ifz (k := 0) (tg := 28) (np := 15) (by decide +kernel) (by decide) (by decide) (fun q161 => ?_) (fun q162 => ?_)
      · have q161 : 2147483649 = 2147483648 := q161
        exfalso; omega
      have q162 : ¬ (2147483649 = 2147483648) := q162
      refine x_aload (np := 16) (x := 0) (by decide +kernel) rfl (x_nc_le (by decide)) ?_
      refine x_dup (np := 17) (x := 0) (by decide +kernel) (by have z := x_nc_le (k := 75) (by decide); unfold x_r; omega) ?_
      refine x_getC (np := 20) (x := 711) (f := 7) (q := (h93 75 7)) (by decide +kernel) (by decide) (by decide +kernel) rfl (fun l163 => ?_)
      refine x_const (np := 21) (x := 9223372043297226753) (a := 2147483649) (by decide +kernel) (by decide) (by decide) ?_
      refine x_iadd (np := 22) (x := 0) (v := (1 + (h93 75 7))) (by decide +kernel) l104 (by decide) (by first | decide | omega) (by first | decide | omega) ?_
      refine x_putI (np := 25) (x := 711) (f := 7) (by decide +kernel) (by decide +kernel) (by first | decide | omega) (Or.inl (by decide)) ?_
      have j165 := jU (e := 7) (v := (1 + (h93 75 7))) 0 j95 rg_75_7_0_1 (by first | decide | omega) (by first | decide | omega) (by first | decide | omega)
      have f167 := jF (e := 7) (v := (1 + (h93 75 7))) 0 f102 rg_75_7_0_1 (by first | decide | omega) (by first | decide | omega) (by decide)
      have f168 := jF (e := 7) (v := (1 + (h93 75 7))) 0 f94 rg_75_7_0_1 (by first | decide | omega) (by first | decide | omega) (by decide)
      generalize e166 : x_up h93 75 7 (1 + (h93 75 7)) = h164 at j165 f167 f168 ⊢
      refine x_goto (np := 28) (x := 4) (by decide +kernel) ?_
      have q169 : h164 75 7 = (1 + (h93 75 7)) := by rw [← e166]; exact x_up_at
      have q170 : h164 75 7 = (1 + (h93 75 7)) := by rw [← e166]; exact x_up_at
      have q171 : h164 75 9 = h93 75 9 := by rw [← e166]; exact x_up_i (by first | decide | omega)
      have q172 : h93 75 9 = h4 75 9 := jK 0 f94 rg_75_9_0_1 (by first | decide | omega) (by first | decide | omega) (by decide)
      have q173 : h93 75 8 = h4 75 8 := jK 0 f94 rg_75_8_0_1 (by first | decide | omega) (by first | decide | omega) (by decide)
      have q174 : h4 75 8 = h 75 8 := jK 0 f6 rg_75_8_0_1 (by first | decide | omega) (by first | decide | omega) (by decide)
      have m177 := Tq.fr hT f6 (by decide) (by decide)
      have m176 := Tq.fr m177 f94 (by decide) (by decide)
      have z175 := m176.1
      have q178 : h93 79 u122 = h4 79 u122 := jK u122 f94 rg_79_0_1_400 (by first | decide | omega) (by first | decide | omega) (by decide)
      have q179 : h4 79 u122 = h 79 u122 := jK u122 f6 rg_79_0_1_400 (by first | decide | omega) (by first | decide | omega) (by decide)
      have z180 := Tq.at (p := (h93 75 7)) (u := u122) m176 (by first | decide | omega) (by first | decide | omega)
      have q181 : h164 75 7 = (1 + (h93 75 7)) := by rw [← e166]; exact x_up_at
      have q182 : h164 75 9 = h93 75 9 := by rw [← e166]; exact x_up_i (by first | decide | omega)
      have q183 : h93 75 9 = h4 75 9 := jK 0 f94 rg_75_9_0_1 (by first | decide | omega) (by first | decide | omega) (by decide)
      have q184 : h93 75 9 = h4 75 9 := jK 0 f94 rg_75_9_0_1 (by first | decide | omega) (by first | decide | omega) (by decide)
      exact i101  h164 (by first | decide | omega) (by first | decide | omega) (by first | decide | omega) j165 f168 ⟨(show h164 75 9 = h93 75 9 by first | decide | omega).trans m99.1, (congrArg (le9 tB tN) (show h164 75 9 = h93 75 9 by first | decide | omega)).trans (m99.2.trans ((le9_step ⟨by first | decide | omega, by first | decide | omega, by first | decide | omega⟩).trans (congrArg (le9 tB tN) (show h93 75 7 + 1 = h164 75 7 by first | decide | omega))))⟩
  exact p96 _  h4 (Nat.lt_succ_self _) (by first | decide | omega) (by first | decide | omega) j5 (Fr.refl _ _) ⟨(show h4 75 9 = h4 75 7 by first | decide | omega).trans c11, congrArg (le9 tB tN) (show h4 75 9 = h4 75 7 by first | decide | omega)⟩
set_option maxHeartbeats 0 in
/-- LentNamesModel.isWord(Ljava/lang/String;)Z -/
theorem c170_75_S0 {sc : Nat × Nat} {d ia1 : Nat} {h : xh} {tB : Nat → Nat} {tN : Nat} (hJ : J h) (hia1 : ia1 < 32) (hT : Tq tB tN h) : X sc 170 (d + 4) (xI fun r h' => h' = h ∧ (2147483648 ≤ r ∧ r ≤ 2147483649) ∧ (r = 2147483649 → h 75 7 = h 75 9 + iv_tl ia1) ∧ Is (Wm tB ia1 (h 75 9) (h 75 7)) r) 0 0 0 [x_r 75, x_b (ia1 + 1), 147573952589676412928, 147573952589676412928] [] h := by
  refine x_aload (np := 1) (x := 0) (by decide +kernel) rfl (x_nc_le (by decide)) ?_
  have b1 := jB (e := 7) 0 hJ rg_75_7_0_1 (by first | decide | omega) (by first | decide | omega)
  refine x_getC (np := 4) (x := 711) (f := 7) (q := (h 75 7)) (by decide +kernel) (by decide) (by decide +kernel) rfl (fun l2 => ?_)
  refine x_aload (np := 5) (x := 0) (by decide +kernel) rfl (x_nc_le (by decide)) ?_
  have b3 := jB (e := 9) 0 hJ rg_75_9_0_1 (by first | decide | omega) (by first | decide | omega)
  refine x_getC (np := 8) (x := 713) (f := 9) (q := (h 75 9)) (by decide +kernel) (by decide) (by decide +kernel) rfl (fun l4 => ?_)
  obtain ⟨v5, q6⟩ : ∃ z, z + (h 75 9) = (h 75 7) + 2147483648 := ⟨(h 75 7) + 2147483648 - (h 75 9), by first | decide | omega⟩
  refine x_isub (np := 9) (x := 0) (v := v5) (by decide +kernel) l2 l4 (by first | decide | omega) (by first | decide | omega) ?_
  refine x_aloadB (i := ia1) (k4 := 1) rfl hia1 (by rw [tb_b170]; decide +kernel) ?_
  have b7 := (iv_tl_lt ia1 hia1).1
  have b8 := iv_tl_ge ia1 hia1
  refine x_len (by decide +kernel) (by rw [tb_y170]; exact sl_Ml) hia1 (by rw [tb_b170]; decide +kernel) (Nat.le_trans (x_wi (by first | decide | omega) x_wn) (by decide)) ?_
  refine x_icmp (k := 1) (tg := 20) (np := 16) (by decide +kernel) (by decide) (by first | decide | omega) (by first | decide | omega) (fun q9 => ?_) (fun q10 => ?_)
  · have q9 : v5 ≠ (2147483648 + (iv_tl ia1)) := q9
    refine x_const (np := 21) (x := 9223372039002259456) (a := 2147483648) (by decide +kernel) (by decide) (by decide) ?_
    refine x_istore (np := 22) (x := 2) (lo' := [x_r 75, x_b (ia1 + 1), iv_c 2147483648, 147573952589676412928]) (by decide +kernel) (by decide) (Nat.le_of_ble_eq_true rfl) rfl ?_
    refine x_const (np := 23) (x := 9223372039002259456) (a := 2147483648) (by decide +kernel) (by decide) (by decide) ?_
    refine x_istore (np := 24) (x := 3) (lo' := [x_r 75, x_b (ia1 + 1), iv_c 2147483648, iv_c 2147483648]) (by decide +kernel) (by decide) (Nat.le_of_ble_eq_true rfl) rfl ?_
    have p21 : ∀ (n : Nat) (v17 : Nat) (v19 : Nat), 0 < n → (2147483648 ≤ v17 ∧ v17 ≤ 2147483648) → (2147483648 ≤ v19 ∧ v19 ≤ 2147483648) → Wi tB ia1 (h 75 9) (h 75 7) v17 v19 → X sc 170 (d + 4) (xI fun r h' => h' = h ∧ (2147483648 ≤ r ∧ r ≤ 2147483649) ∧ (r = 2147483649 → h 75 7 = h 75 9 + iv_tl ia1) ∧ Is (Wm tB ia1 (h 75 9) (h 75 7)) r) 0 0 24 [x_r 75, x_b (ia1 + 1), iv_c v17, iv_c v19] [] h := by
      intro n
      induction n with
      | zero => intro v17 v19 q23; exact absurd q23 (Nat.not_lt_zero _)
      | succ n i24 =>
        intro v17 v19 q23 b18 b20 m22
        refine x_iload (np := 25) (x := 2) (by decide +kernel) rfl (by first | decide | omega) ?_
        refine x_ifz (k := 0) (tg := 67) (np := 28) (by decide +kernel) (by decide) (by first | decide | omega) (fun q25 => ?_) (fun q26 => ?_)
        · have q25 : v17 = 2147483648 := q25
          refine x_iload (np := 68) (x := 2) (by decide +kernel) rfl (by first | decide | omega) ?_
          have b27 := iv_tl_ge ia1 hia1
          refine x_retI (np := 69) (x := 0) (by decide +kernel) (by first | decide | omega) (Or.inr ⟨by decide +kernel, by first | decide | omega, by first | decide | omega⟩) ⟨_, rfl, (by first | decide | omega), ?_⟩
          exact ⟨rfl, (by first | decide | omega), (fun z => by first | decide | omega), (Wi.is m22 (by first | decide | omega) (by first | decide | omega))⟩
        have q26 : ¬ (v17 = 2147483648) := q26
        exfalso; omega
    exact p21 _ 2147483648 2147483648 (Nat.lt_succ_self _) (by first | decide | omega) (by first | decide | omega) (Wi.in0 (by first | decide | omega) (by first | decide | omega))
  have q10 : ¬ (v5 ≠ (2147483648 + (iv_tl ia1))) := q10
  refine x_const (np := 17) (x := 9223372043297226753) (a := 2147483649) (by decide +kernel) (by decide) (by decide) ?_
  refine x_goto (np := 20) (x := 21) (by decide +kernel) ?_
  refine x_istore (np := 22) (x := 2) (lo' := [x_r 75, x_b (ia1 + 1), iv_c 2147483649, 147573952589676412928]) (by decide +kernel) (by decide) (Nat.le_of_ble_eq_true rfl) rfl ?_
  refine x_const (np := 23) (x := 9223372039002259456) (a := 2147483648) (by decide +kernel) (by decide) (by decide) ?_
  refine x_istore (np := 24) (x := 3) (lo' := [x_r 75, x_b (ia1 + 1), iv_c 2147483649, iv_c 2147483648]) (by decide +kernel) (by decide) (Nat.le_of_ble_eq_true rfl) rfl ?_
  have p354 : ∀ (n : Nat) (v350 : Nat) (v352 : Nat), 4294967296 - v352 < n → (2147483648 ≤ v350 ∧ v350 ≤ 2147483649) → (2147483648 ≤ v352 ∧ v352 ≤ 2147483667) → Wi tB ia1 (h 75 9) (h 75 7) v350 v352 → X sc 170 (d + 4) (xI fun r h' => h' = h ∧ (2147483648 ≤ r ∧ r ≤ 2147483649) ∧ (r = 2147483649 → h 75 7 = h 75 9 + iv_tl ia1) ∧ Is (Wm tB ia1 (h 75 9) (h 75 7)) r) 0 0 24 [x_r 75, x_b (ia1 + 1), iv_c v350, iv_c v352] [] h := by
    intro n
    induction n with
    | zero => intro v350 v352 q356; exact absurd q356 (Nat.not_lt_zero _)
    | succ n i357 =>
      intro v350 v352 q356 b351 b353 m355
      refine x_iload (np := 25) (x := 2) (by decide +kernel) rfl (by first | decide | omega) ?_
      refine x_ifz (k := 0) (tg := 67) (np := 28) (by decide +kernel) (by decide) (by first | decide | omega) (fun q358 => ?_) (fun q359 => ?_)
      · have q358 : v350 = 2147483648 := q358
        refine x_iload (np := 68) (x := 2) (by decide +kernel) rfl (by first | decide | omega) ?_
        have b360 := iv_tl_ge ia1 hia1
        refine x_retI (np := 69) (x := 0) (by decide +kernel) (by first | decide | omega) (Or.inr ⟨by decide +kernel, by first | decide | omega, by first | decide | omega⟩) ⟨_, rfl, (by first | decide | omega), ?_⟩
        exact ⟨rfl, (by first | decide | omega), (fun z => by first | decide | omega), (Wi.is m355 (by first | decide | omega) (by first | decide | omega))⟩
      have q359 : ¬ (v350 = 2147483648) := q359
      refine x_iload (np := 29) (x := 3) (by decide +kernel) rfl (by first | decide | omega) ?_
      refine x_aloadB (i := ia1) (k4 := 1) rfl hia1 (by rw [tb_b170]; decide +kernel) ?_
      have b361 := (iv_tl_lt ia1 hia1).1
      have b362 := iv_tl_ge ia1 hia1
      refine x_len (by decide +kernel) (by rw [tb_y170]; exact sl_Ml) hia1 (by rw [tb_b170]; decide +kernel) (Nat.le_trans (x_wi (by first | decide | omega) x_wn) (by decide)) ?_
      refine x_icmp (k := 3) (tg := 67) (np := 36) (by decide +kernel) (by decide) (by first | decide | omega) (by first | decide | omega) (fun q363 => ?_) (fun q364 => ?_)
      · have q363 : (2147483648 + (iv_tl ia1)) ≤ v352 := q363
        refine x_iload (np := 68) (x := 2) (by decide +kernel) rfl (by first | decide | omega) ?_
        have b365 := iv_tl_ge ia1 hia1
        refine x_retI (np := 69) (x := 0) (by decide +kernel) (by first | decide | omega) (Or.inr ⟨by decide +kernel, by first | decide | omega, by first | decide | omega⟩) ⟨_, rfl, (by first | decide | omega), ?_⟩
        exact ⟨rfl, (by first | decide | omega), (fun z => by first | decide | omega), (Wi.is m355 (by first | decide | omega) (by first | decide | omega))⟩
      have q364 : ¬ ((2147483648 + (iv_tl ia1)) ≤ v352) := q364
      refine x_aload (np := 37) (x := 0) (by decide +kernel) rfl (x_nc_le (by decide)) ?_
      have q366 : h 75 5 = 79 := by have z := jB (e := 5) 0 hJ rg_75_5_0_1 (by decide) (by decide); omega
      refine x_getR (np := 40) (x := 709) (f := 5) (q := 79) (by decide +kernel) (by decide) (by decide +kernel) q366 ?_
      refine x_aload (np := 41) (x := 0) (by decide +kernel) rfl (x_nc_le (by decide)) ?_
      refine x_getC (np := 44) (x := 713) (f := 9) (q := (h 75 9)) (by decide +kernel) (by decide) (by decide +kernel) rfl (fun l367 => ?_)
      refine x_iload (np := 45) (x := 3) (by decide +kernel) rfl (by first | decide | omega) ?_
      obtain ⟨v368, q369⟩ : ∃ z, z + 2147483648 = (h 75 9) + v352 := ⟨(h 75 9) + v352 - 2147483648, by first | decide | omega⟩
      refine x_iadd (np := 46) (x := 0) (v := v368) (by decide +kernel) l4 (by first | decide | omega) (by first | decide | omega) (by first | decide | omega) ?_
      obtain ⟨u370, q371⟩ : ∃ z, v368 = 2147483648 + z := ⟨v368 - 2147483648, by first | decide | omega⟩
      have b372 := jB (e := u370) u370 hJ rg_79_0_1_400 (by first | decide | omega) (by first | decide | omega)
      refine x_baldC (np := 47) (x := 0) (n := 400) (i := u370) (q := (h 79 u370)) (by decide +kernel) (by decide +kernel) (by first | decide | omega) (by first | decide | omega) (by decide) rfl (fun l373 => ?_)
      refine x_aloadB (i := ia1) (k4 := 1) rfl hia1 (by rw [tb_b170]; decide +kernel) ?_
      refine x_iload (np := 49) (x := 3) (by decide +kernel) rfl (by first | decide | omega) ?_
      obtain ⟨u375, q376⟩ : ∃ z, v352 = 2147483648 + z := ⟨v352 - 2147483648, by first | decide | omega⟩
      have b374 := (iv_tl_lt ia1 hia1).2 u375 (by first | decide | omega)
      refine x_chr (j := u375) (by decide +kernel) (by rw [tb_y170]; exact sl_Mc) hia1 (by first | decide | omega) (by first | decide | omega) (by rw [tb_b170]; decide +kernel) (Nat.le_trans (x_wi l373 x_wn) (by decide)) ?_
      refine x_icmp (k := 1) (tg := 59) (np := 55) (by decide +kernel) (by decide) l373 (by first | decide | omega) (fun q377 => ?_) (fun q378 => ?_)
      · have q377 : (h 79 u370) ≠ (2147483648 + (iv_tc ia1 u375)) := q377
        refine x_const (np := 60) (x := 9223372039002259456) (a := 2147483648) (by decide +kernel) (by decide) (by decide) ?_
        refine x_istore (np := 61) (x := 2) (lo' := [x_r 75, x_b (ia1 + 1), iv_c 2147483648, iv_c v352]) (by decide +kernel) (by decide) (Nat.le_of_ble_eq_true rfl) rfl ?_
        refine x_iinc (np := 64) (i := 3) (j := 2147483649) (v := (1 + v352)) (lo' := [x_r 75, x_b (ia1 + 1), iv_c 2147483648, iv_c (1 + v352)]) (by decide +kernel) (by decide) (by decide) rfl (by first | decide | omega) (by first | decide | omega) (by first | decide | omega) rfl ?_
        refine x_goto (np := 67) (x := 24) (by decide +kernel) ?_
        have z379 := Tq.at (p := (h 75 9 + u375)) (u := u370) hT (by first | decide | omega) (by first | decide | omega)
        exact i357 2147483648 (1 + v352) (by first | decide | omega) (by first | decide | omega) (by first | decide | omega) (Wi.st0 (x := u375) (by first | decide | omega) (by first | decide | omega) (by first | decide | omega))
      have q378 : ¬ ((h 79 u370) ≠ (2147483648 + (iv_tc ia1 u375))) := q378
      refine x_const (np := 56) (x := 9223372043297226753) (a := 2147483649) (by decide +kernel) (by decide) (by decide) ?_
      refine x_goto (np := 59) (x := 60) (by decide +kernel) ?_
      refine x_istore (np := 61) (x := 2) (lo' := [x_r 75, x_b (ia1 + 1), iv_c 2147483649, iv_c v352]) (by decide +kernel) (by decide) (Nat.le_of_ble_eq_true rfl) rfl ?_
      refine x_iinc (np := 64) (i := 3) (j := 2147483649) (v := (1 + v352)) (lo' := [x_r 75, x_b (ia1 + 1), iv_c 2147483649, iv_c (1 + v352)]) (by decide +kernel) (by decide) (by decide) rfl (by first | decide | omega) (by first | decide | omega) (by first | decide | omega) rfl ?_
      refine x_goto (np := 67) (x := 24) (by decide +kernel) ?_
      have z380 := Tq.at (p := (h 75 9 + u375)) (u := u370) hT (by first | decide | omega) (by first | decide | omega)
      exact i357 2147483649 (1 + v352) (by first | decide | omega) (by first | decide | omega) (by first | decide | omega) (Wi.st1 (x := u375) m355 (by first | decide | omega) (by first | decide | omega) (by first | decide | omega) (by first | decide | omega) (by first | decide | omega))
  exact p354 _ 2147483649 2147483648 (Nat.lt_succ_self _) (by first | decide | omega) (by first | decide | omega) (Wi.in1 (by first | decide | omega) (by first | decide | omega) (by first | decide | omega))
set_option maxHeartbeats 0 in
/-- LentNamesModel.number(II)I -/
theorem c174_75 {sc : Nat × Nat} {d a1 a2 : Nat} {h : xh} {tB : Nat → Nat} {tN : Nat} (hJ : J h) (ba1 : 2147483648 ≤ a1 ∧ a1 ≤ 2147483659) (ba2 : 2147483647 ≤ a2 ∧ a2 ≤ 2147484769) (hT : Tq tB tN h) : X sc 174 (d + 2) (xI fun r h' => J h' ∧ Fr 5242881 h h' ∧ (2147483647 ≤ r ∧ r ≤ 2147484769) ∧ (h 75 7 + 0 ≤ h' 75 7) ∧ (2147483648 ≤ r → h 75 7 + 1 ≤ h' 75 7) ∧ (2147483648 ≤ r → r ≤ a2) ∧ (2147483648 ≤ r → a1 ≤ r) ∧ (2147483647 ≤ a2 → r ≤ a2) ∧ Nr tB tN a1 a2 (sk tB tN (h 75 7)) r (sk tB tN (h' 75 7))) 0 0 0 [x_r 75, iv_c a1, iv_c a2, 147573952589676412928] [] h := by
  have la1 : a1 < 4294967296 := by first | decide | omega
  have la2 : a2 < 4294967296 := by first | decide | omega
  have hF := Fr.refl 5242881 h
  refine x_aload (np := 1) (x := 0) (by decide +kernel) rfl (x_nc_le (by decide)) ?_
  refine x_cV (t := 6) (mj := 168) (n := 1) (rc := 12) (ml := 1) (nr := 0) (np := 4) (as := [x_r 75]) (rest := []) (lo1 := [x_r 75]) (by decide +kernel) (by decide) (by decide +kernel) (x_rb_of (by decide +kernel)) rfl rfl (x_wr (by decide) x_wn) x_wn (by decide) rfl (c168_75 hJ  hT) (fun h4 q3 => ?_)
  obtain ⟨j5, f6, c9, c10, c11⟩ := q3
  have f12 := Fr.trans hF f6 (by decide)
  have b13 := jB (e := 7) 0 hJ rg_75_7_0_1 (by first | decide | omega) (by first | decide | omega)
  have b14 := jB (e := 7) 0 j5 rg_75_7_0_1 (by first | decide | omega) (by first | decide | omega)
  have b15 := jB (e := 9) 0 j5 rg_75_9_0_1 (by first | decide | omega) (by first | decide | omega)
  refine x_const (np := 5) (x := 9223372039002259456) (a := 2147483648) (by decide +kernel) (by decide) (by decide) ?_
  refine x_istore (np := 6) (x := 3) (lo' := [x_r 75, iv_c a1, iv_c a2, iv_c 2147483648]) (by decide +kernel) (by decide) (Nat.le_of_ble_eq_true rfl) rfl ?_
  have p285 : ∀ (n : Nat) (v280 : Nat) (h282 : xh), 4294967296 - h282 75 7 < n → (2147483648 ≤ v280 ∧ v280 ≤ 2147484769) → h 75 7 ≤ h282 75 9 → h282 75 9 ≤ h282 75 7 → J h282 → Fr 1048576 h4 h282 → Ni tB tN (h282 75 9) (h282 75 7) v280 → X sc 174 (d + 2) (xI fun r h' => J h' ∧ Fr 5242881 h h' ∧ (2147483647 ≤ r ∧ r ≤ 2147484769) ∧ (h 75 7 + 0 ≤ h' 75 7) ∧ (2147483648 ≤ r → h 75 7 + 1 ≤ h' 75 7) ∧ (2147483648 ≤ r → r ≤ a2) ∧ (2147483648 ≤ r → a1 ≤ r) ∧ (2147483647 ≤ a2 → r ≤ a2) ∧ Nr tB tN a1 a2 (sk tB tN (h 75 7)) r (sk tB tN (h' 75 7))) 0 0 6 [x_r 75, iv_c a1, iv_c a2, iv_c v280] [] h282 := by
    intro n
    induction n with
    | zero => intro v280 h282 q289; exact absurd q289 (Nat.not_lt_zero _)
    | succ n i290 =>
      intro v280 h282 q289 b281 b286 b287 j284 f283 m288
      have f291 := Fr.trans f12 f283 (by decide)
      refine x_aload (np := 7) (x := 0) (by decide +kernel) rfl (x_nc_le (by decide)) ?_
      refine x_const (np := 9) (x := 9223372245160689712) (a := 2147483696) (by decide +kernel) (by decide) (by decide) ?_
      refine x_const (np := 11) (x := 9223372283815395385) (a := 2147483705) (by decide +kernel) (by decide) (by decide) ?_
      refine x_nI (t := 6) (mj := 167) (n := 3) (rc := 12) (ml := 3) (nr := 0) (np := 14) (as := [x_r 75, iv_c 2147483696, iv_c 2147483705]) (rest := []) (lo1 := [x_r 75, iv_c 2147483696, iv_c 2147483705]) (by decide +kernel) (by decide) (by decide +kernel) (x_rb_of (by decide +kernel)) rfl rfl (x_wr (by decide) (x_wi (by decide) (x_wi (by decide) x_wn))) x_wn (by decide) rfl ?_
      refine x_aload (np := 1) (x := 0) (by decide +kernel) rfl (x_nc_le (by decide)) ?_
      have b292 := jB (e := 7) 0 j284 rg_75_7_0_1 (by first | decide | omega) (by first | decide | omega)
      refine x_getC (np := 4) (x := 711) (f := 7) (q := (h282 75 7)) (by decide +kernel) (by decide) (by decide +kernel) rfl (fun l293 => ?_)
      refine x_aload (np := 5) (x := 0) (by decide +kernel) rfl (x_nc_le (by decide)) ?_
      have q294 : h282 75 8 = h4 75 8 := jK 0 f283 rg_75_8_0_1 (by first | decide | omega) (by first | decide | omega) (by decide)
      have q295 : h4 75 8 = h 75 8 := jK 0 f6 rg_75_8_0_1 (by first | decide | omega) (by first | decide | omega) (by decide)
      have b296 := jB (e := 8) 0 hJ rg_75_8_0_1 (by first | decide | omega) (by first | decide | omega)
      refine x_getC (np := 8) (x := 712) (f := 8) (q := (h 75 8)) (by decide +kernel) (by decide) (by decide +kernel) (q294.trans q295) (fun l297 => ?_)
      refine x_icmp (k := 3) (tg := 41) (np := 11) (by decide +kernel) (by decide) l293 l297 (fun q298 => ?_) (fun q299 => ?_)
      · have q298 : (h 75 8) ≤ (h282 75 7) := q298
        refine x_const (np := 42) (x := 9223372039002259456) (a := 2147483648) (by decide +kernel) (by decide) (by decide) ?_
        refine x_retI (np := 43) (x := 0) (by decide +kernel) (by decide) (Or.inr ⟨by decide +kernel, by first | decide | omega, by first | decide | omega⟩) ⟨_, rfl, (by decide), ?_⟩
        refine x_ifz (k := 0) (tg := 65) (np := 17) (by decide +kernel) (by decide) (by decide) (fun q300 => ?_) (fun q301 => ?_)
        · have q300 : 2147483648 = 2147483648 := q300
          refine x_aload (np := 66) (x := 0) (by decide +kernel) rfl (x_nc_le (by decide)) ?_
          refine x_getC (np := 69) (x := 711) (f := 7) (q := (h282 75 7)) (by decide +kernel) (by decide) (by decide +kernel) rfl (fun l302 => ?_)
          refine x_aload (np := 70) (x := 0) (by decide +kernel) rfl (x_nc_le (by decide)) ?_
          have q303 : h282 75 9 = h4 75 9 := jK 0 f283 rg_75_9_0_1 (by first | decide | omega) (by first | decide | omega) (by decide)
          refine x_getC (np := 73) (x := 713) (f := 9) (q := (h4 75 9)) (by decide +kernel) (by decide) (by decide +kernel) q303 (fun l304 => ?_)
          refine x_icmp (k := 0) (tg := 99) (np := 76) (by decide +kernel) (by decide) l293 l304 (fun q305 => ?_) (fun q306 => ?_)
          · have q305 : (h282 75 7) = (h4 75 9) := q305
            refine x_const (np := 100) (x := 9223372034707292159) (a := 2147483647) (by decide +kernel) (by decide) (by decide) ?_
            refine x_goto (np := 103) (x := 104) (by decide +kernel) ?_
            have q307 : h282 75 9 = h4 75 9 := jK 0 f283 rg_75_9_0_1 (by first | decide | omega) (by first | decide | omega) (by decide)
            have q308 : h282 75 8 = h4 75 8 := jK 0 f283 rg_75_8_0_1 (by first | decide | omega) (by first | decide | omega) (by decide)
            have q309 : h4 75 8 = h 75 8 := jK 0 f6 rg_75_8_0_1 (by first | decide | omega) (by first | decide | omega) (by decide)
            have m312 := Tq.fr hT f6 (by decide) (by decide)
            have m311 := Tq.fr m312 f283 (by decide) (by decide)
            have z310 := m311.1
            have e313 : h282 75 9 = sk tB tN (h 75 7) := (show h282 75 9 = h4 75 7 by first | decide | omega).trans c11
            refine x_retI (np := 105) (x := 0) (by decide +kernel) (by decide) (Or.inl (by decide +kernel)) ⟨_, rfl, (by decide), ?_⟩
            exact ⟨j284, f291, (by first | decide | omega), (by first | decide | omega), (fun z => by first | decide | omega), (fun z => by first | decide | omega), (fun z => by first | decide | omega), (fun z => by first | decide | omega), (Nr.cast (Nr.nob (by first | decide | omega) (Ni.nb0 m288 (by first | decide | omega) (fun z => by have z1 := z.1; have z2 := z.2.1; have z3 := z.2.2; omega))) e313)⟩
          have q306 : ¬ ((h282 75 7) = (h4 75 9)) := q306
          refine x_aload (np := 77) (x := 0) (by decide +kernel) rfl (x_nc_le (by decide)) ?_
          refine x_getC (np := 80) (x := 711) (f := 7) (q := (h282 75 7)) (by decide +kernel) (by decide) (by decide +kernel) rfl (fun l314 => ?_)
          refine x_aload (np := 81) (x := 0) (by decide +kernel) rfl (x_nc_le (by decide)) ?_
          have q315 : h282 75 9 = h4 75 9 := jK 0 f283 rg_75_9_0_1 (by first | decide | omega) (by first | decide | omega) (by decide)
          refine x_getC (np := 84) (x := 713) (f := 9) (q := (h4 75 9)) (by decide +kernel) (by decide) (by decide +kernel) q315 (fun l316 => ?_)
          obtain ⟨v317, q318⟩ : ∃ z, z + (h4 75 9) = (h282 75 7) + 2147483648 := ⟨(h282 75 7) + 2147483648 - (h4 75 9), by first | decide | omega⟩
          refine x_isub (np := 85) (x := 0) (v := v317) (by decide +kernel) l293 l304 (by first | decide | omega) (by first | decide | omega) ?_
          refine x_const (np := 86) (x := 9223372051887161347) (a := 2147483651) (by decide +kernel) (by decide) (by decide) ?_
          refine x_icmp (k := 4) (tg := 99) (np := 89) (by decide +kernel) (by decide) (by first | decide | omega) (by decide) (fun q319 => ?_) (fun q320 => ?_)
          · have q319 : 2147483651 < v317 := q319
            refine x_const (np := 100) (x := 9223372034707292159) (a := 2147483647) (by decide +kernel) (by decide) (by decide) ?_
            refine x_goto (np := 103) (x := 104) (by decide +kernel) ?_
            have q321 : h282 75 9 = h4 75 9 := jK 0 f283 rg_75_9_0_1 (by first | decide | omega) (by first | decide | omega) (by decide)
            have q322 : h282 75 8 = h4 75 8 := jK 0 f283 rg_75_8_0_1 (by first | decide | omega) (by first | decide | omega) (by decide)
            have q323 : h4 75 8 = h 75 8 := jK 0 f6 rg_75_8_0_1 (by first | decide | omega) (by first | decide | omega) (by decide)
            have m326 := Tq.fr hT f6 (by decide) (by decide)
            have m325 := Tq.fr m326 f283 (by decide) (by decide)
            have z324 := m325.1
            have e327 : h282 75 9 = sk tB tN (h 75 7) := (show h282 75 9 = h4 75 7 by first | decide | omega).trans c11
            refine x_retI (np := 105) (x := 0) (by decide +kernel) (by decide) (Or.inl (by decide +kernel)) ⟨_, rfl, (by decide), ?_⟩
            exact ⟨j284, f291, (by first | decide | omega), (by first | decide | omega), (fun z => by first | decide | omega), (fun z => by first | decide | omega), (fun z => by first | decide | omega), (fun z => by first | decide | omega), (Nr.cast (Nr.nob (by first | decide | omega) (Ni.nb4 m288 (by first | decide | omega))) e327)⟩
          have q320 : ¬ (2147483651 < v317) := q320
          refine x_iload (np := 90) (x := 3) (by decide +kernel) rfl (by first | decide | omega) ?_
          refine x_iload (np := 91) (x := 1) (by decide +kernel) rfl la1 ?_
          refine x_icmp (k := 2) (tg := 99) (np := 94) (by decide +kernel) (by decide) (by first | decide | omega) la1 (fun q328 => ?_) (fun q329 => ?_)
          · have q328 : v280 < a1 := q328
            refine x_const (np := 100) (x := 9223372034707292159) (a := 2147483647) (by decide +kernel) (by decide) (by decide) ?_
            refine x_goto (np := 103) (x := 104) (by decide +kernel) ?_
            have q330 : h282 75 9 = h4 75 9 := jK 0 f283 rg_75_9_0_1 (by first | decide | omega) (by first | decide | omega) (by decide)
            have q331 : h282 75 8 = h4 75 8 := jK 0 f283 rg_75_8_0_1 (by first | decide | omega) (by first | decide | omega) (by decide)
            have q332 : h4 75 8 = h 75 8 := jK 0 f6 rg_75_8_0_1 (by first | decide | omega) (by first | decide | omega) (by decide)
            have m335 := Tq.fr hT f6 (by decide) (by decide)
            have m334 := Tq.fr m335 f283 (by decide) (by decide)
            have z333 := m334.1
            have e336 : h282 75 9 = sk tB tN (h 75 7) := (show h282 75 9 = h4 75 7 by first | decide | omega).trans c11
            refine x_retI (np := 105) (x := 0) (by decide +kernel) (by decide) (Or.inl (by decide +kernel)) ⟨_, rfl, (by decide), ?_⟩
            exact ⟨j284, f291, (by first | decide | omega), (by first | decide | omega), (fun z => by first | decide | omega), (fun z => by first | decide | omega), (fun z => by first | decide | omega), (fun z => by first | decide | omega), (Nr.cast (Ni.rng m288 (by first | decide | omega) (by first | decide | omega) (fun z => by have z1 := z.1; have z2 := z.2.1; have z3 := z.2.2; omega) (by first | decide | omega) (by first | decide | omega)) e336)⟩
          have q329 : ¬ (v280 < a1) := q329
          refine x_iload (np := 95) (x := 3) (by decide +kernel) rfl (by first | decide | omega) ?_
          refine x_iload (np := 96) (x := 2) (by decide +kernel) rfl la2 ?_
          refine x_icmp (k := 5) (tg := 103) (np := 99) (by decide +kernel) (by decide) (by first | decide | omega) la2 (fun q337 => ?_) (fun q338 => ?_)
          · have q337 : v280 ≤ a2 := q337
            refine x_iload (np := 104) (x := 3) (by decide +kernel) rfl (by first | decide | omega) ?_
            have q339 : h282 75 9 = h4 75 9 := jK 0 f283 rg_75_9_0_1 (by first | decide | omega) (by first | decide | omega) (by decide)
            have q340 : h282 75 8 = h4 75 8 := jK 0 f283 rg_75_8_0_1 (by first | decide | omega) (by first | decide | omega) (by decide)
            have q341 : h4 75 8 = h 75 8 := jK 0 f6 rg_75_8_0_1 (by first | decide | omega) (by first | decide | omega) (by decide)
            have m344 := Tq.fr hT f6 (by decide) (by decide)
            have m343 := Tq.fr m344 f283 (by decide) (by decide)
            have z342 := m343.1
            have e345 : h282 75 9 = sk tB tN (h 75 7) := (show h282 75 9 = h4 75 7 by first | decide | omega).trans c11
            refine x_retI (np := 105) (x := 0) (by decide +kernel) (by first | decide | omega) (Or.inl (by decide +kernel)) ⟨_, rfl, (by first | decide | omega), ?_⟩
            exact ⟨j284, f291, (by first | decide | omega), (by first | decide | omega), (fun z => by first | decide | omega), (fun z => by first | decide | omega), (fun z => by first | decide | omega), (fun z => by first | decide | omega), (Nr.cast (Ni.val m288 (by first | decide | omega) (by first | decide | omega) (fun z => by have z1 := z.1; have z2 := z.2.1; have z3 := z.2.2; omega) (by first | decide | omega) (by first | decide | omega) (by first | decide | omega) (by first | decide | omega)) e345)⟩
          have q338 : ¬ (v280 ≤ a2) := q338
          refine x_const (np := 100) (x := 9223372034707292159) (a := 2147483647) (by decide +kernel) (by decide) (by decide) ?_
          refine x_goto (np := 103) (x := 104) (by decide +kernel) ?_
          have q346 : h282 75 9 = h4 75 9 := jK 0 f283 rg_75_9_0_1 (by first | decide | omega) (by first | decide | omega) (by decide)
          have q347 : h282 75 8 = h4 75 8 := jK 0 f283 rg_75_8_0_1 (by first | decide | omega) (by first | decide | omega) (by decide)
          have q348 : h4 75 8 = h 75 8 := jK 0 f6 rg_75_8_0_1 (by first | decide | omega) (by first | decide | omega) (by decide)
          have m351 := Tq.fr hT f6 (by decide) (by decide)
          have m350 := Tq.fr m351 f283 (by decide) (by decide)
          have z349 := m350.1
          have e352 : h282 75 9 = sk tB tN (h 75 7) := (show h282 75 9 = h4 75 7 by first | decide | omega).trans c11
          refine x_retI (np := 105) (x := 0) (by decide +kernel) (by decide) (Or.inl (by decide +kernel)) ⟨_, rfl, (by decide), ?_⟩
          exact ⟨j284, f291, (by first | decide | omega), (by first | decide | omega), (fun z => by first | decide | omega), (fun z => by first | decide | omega), (fun z => by first | decide | omega), (fun z => by first | decide | omega), (Nr.cast (Ni.rng m288 (by first | decide | omega) (by first | decide | omega) (fun z => by have z1 := z.1; have z2 := z.2.1; have z3 := z.2.2; omega) (by first | decide | omega) (by first | decide | omega)) e352)⟩
        have q301 : ¬ (2147483648 = 2147483648) := q301
        exfalso; omega
      have q299 : ¬ ((h 75 8) ≤ (h282 75 7)) := q299
      refine x_aload (np := 12) (x := 0) (by decide +kernel) rfl (x_nc_le (by decide)) ?_
      have q353 : h282 75 5 = 79 := by have z := jB (e := 5) 0 j284 rg_75_5_0_1 (by decide) (by decide); omega
      refine x_getR (np := 15) (x := 709) (f := 5) (q := 79) (by decide +kernel) (by decide) (by decide +kernel) q353 ?_
      refine x_aload (np := 16) (x := 0) (by decide +kernel) rfl (x_nc_le (by decide)) ?_
      refine x_getC (np := 19) (x := 711) (f := 7) (q := (h282 75 7)) (by decide +kernel) (by decide) (by decide +kernel) rfl (fun l354 => ?_)
      obtain ⟨u355, q356⟩ : ∃ z, (h282 75 7) = 2147483648 + z := ⟨(h282 75 7) - 2147483648, by first | decide | omega⟩
      have q357 : h282 79 u355 = h4 79 u355 := jK u355 f283 rg_79_0_1_400 (by first | decide | omega) (by first | decide | omega) (by decide)
      have q358 : h4 79 u355 = h 79 u355 := jK u355 f6 rg_79_0_1_400 (by first | decide | omega) (by first | decide | omega) (by decide)
      have b359 := jB (e := u355) u355 hJ rg_79_0_1_400 (by first | decide | omega) (by first | decide | omega)
      refine x_baldC (np := 20) (x := 0) (n := 400) (i := u355) (q := (h 79 u355)) (by decide +kernel) (by decide +kernel) (by first | decide | omega) (by first | decide | omega) (by decide) (q357.trans q358) (fun l360 => ?_)
      refine x_iload (np := 21) (x := 1) (by decide +kernel) rfl (by decide) ?_
      refine x_icmp (k := 2) (tg := 41) (np := 24) (by decide +kernel) (by decide) l360 (by decide) (fun q361 => ?_) (fun q362 => ?_)
      · have q361 : (h 79 u355) < 2147483696 := q361
        refine x_const (np := 42) (x := 9223372039002259456) (a := 2147483648) (by decide +kernel) (by decide) (by decide) ?_
        refine x_retI (np := 43) (x := 0) (by decide +kernel) (by decide) (Or.inr ⟨by decide +kernel, by first | decide | omega, by first | decide | omega⟩) ⟨_, rfl, (by decide), ?_⟩
        refine x_ifz (k := 0) (tg := 65) (np := 17) (by decide +kernel) (by decide) (by decide) (fun q363 => ?_) (fun q364 => ?_)
        · have q363 : 2147483648 = 2147483648 := q363
          refine x_aload (np := 66) (x := 0) (by decide +kernel) rfl (x_nc_le (by decide)) ?_
          refine x_getC (np := 69) (x := 711) (f := 7) (q := (h282 75 7)) (by decide +kernel) (by decide) (by decide +kernel) rfl (fun l365 => ?_)
          refine x_aload (np := 70) (x := 0) (by decide +kernel) rfl (x_nc_le (by decide)) ?_
          have q366 : h282 75 9 = h4 75 9 := jK 0 f283 rg_75_9_0_1 (by first | decide | omega) (by first | decide | omega) (by decide)
          refine x_getC (np := 73) (x := 713) (f := 9) (q := (h4 75 9)) (by decide +kernel) (by decide) (by decide +kernel) q366 (fun l367 => ?_)
          refine x_icmp (k := 0) (tg := 99) (np := 76) (by decide +kernel) (by decide) l293 l367 (fun q368 => ?_) (fun q369 => ?_)
          · have q368 : (h282 75 7) = (h4 75 9) := q368
            refine x_const (np := 100) (x := 9223372034707292159) (a := 2147483647) (by decide +kernel) (by decide) (by decide) ?_
            refine x_goto (np := 103) (x := 104) (by decide +kernel) ?_
            have q370 : h282 75 9 = h4 75 9 := jK 0 f283 rg_75_9_0_1 (by first | decide | omega) (by first | decide | omega) (by decide)
            have q371 : h282 75 8 = h4 75 8 := jK 0 f283 rg_75_8_0_1 (by first | decide | omega) (by first | decide | omega) (by decide)
            have q372 : h4 75 8 = h 75 8 := jK 0 f6 rg_75_8_0_1 (by first | decide | omega) (by first | decide | omega) (by decide)
            have m375 := Tq.fr hT f6 (by decide) (by decide)
            have m374 := Tq.fr m375 f283 (by decide) (by decide)
            have z373 := m374.1
            have q376 : h282 79 u355 = h4 79 u355 := jK u355 f283 rg_79_0_1_400 (by first | decide | omega) (by first | decide | omega) (by decide)
            have q377 : h4 79 u355 = h 79 u355 := jK u355 f6 rg_79_0_1_400 (by first | decide | omega) (by first | decide | omega) (by decide)
            have z378 := Tq.at (p := (h282 75 7)) (u := u355) m374 (by first | decide | omega) (by first | decide | omega)
            have e379 : h282 75 9 = sk tB tN (h 75 7) := (show h282 75 9 = h4 75 7 by first | decide | omega).trans c11
            refine x_retI (np := 105) (x := 0) (by decide +kernel) (by decide) (Or.inl (by decide +kernel)) ⟨_, rfl, (by decide), ?_⟩
            exact ⟨j284, f291, (by first | decide | omega), (by first | decide | omega), (fun z => by first | decide | omega), (fun z => by first | decide | omega), (fun z => by first | decide | omega), (fun z => by first | decide | omega), (Nr.cast (Nr.nob (by first | decide | omega) (Ni.nb0 m288 (by first | decide | omega) (fun z => by have z1 := z.1; have z2 := z.2.1; have z3 := z.2.2; omega))) e379)⟩
          have q369 : ¬ ((h282 75 7) = (h4 75 9)) := q369
          refine x_aload (np := 77) (x := 0) (by decide +kernel) rfl (x_nc_le (by decide)) ?_
          refine x_getC (np := 80) (x := 711) (f := 7) (q := (h282 75 7)) (by decide +kernel) (by decide) (by decide +kernel) rfl (fun l380 => ?_)
          refine x_aload (np := 81) (x := 0) (by decide +kernel) rfl (x_nc_le (by decide)) ?_
          have q381 : h282 75 9 = h4 75 9 := jK 0 f283 rg_75_9_0_1 (by first | decide | omega) (by first | decide | omega) (by decide)
          refine x_getC (np := 84) (x := 713) (f := 9) (q := (h4 75 9)) (by decide +kernel) (by decide) (by decide +kernel) q381 (fun l382 => ?_)
          obtain ⟨v383, q384⟩ : ∃ z, z + (h4 75 9) = (h282 75 7) + 2147483648 := ⟨(h282 75 7) + 2147483648 - (h4 75 9), by first | decide | omega⟩
          refine x_isub (np := 85) (x := 0) (v := v383) (by decide +kernel) l293 l367 (by first | decide | omega) (by first | decide | omega) ?_
          refine x_const (np := 86) (x := 9223372051887161347) (a := 2147483651) (by decide +kernel) (by decide) (by decide) ?_
          refine x_icmp (k := 4) (tg := 99) (np := 89) (by decide +kernel) (by decide) (by first | decide | omega) (by decide) (fun q385 => ?_) (fun q386 => ?_)
          · have q385 : 2147483651 < v383 := q385
            refine x_const (np := 100) (x := 9223372034707292159) (a := 2147483647) (by decide +kernel) (by decide) (by decide) ?_
            refine x_goto (np := 103) (x := 104) (by decide +kernel) ?_
            have q387 : h282 75 9 = h4 75 9 := jK 0 f283 rg_75_9_0_1 (by first | decide | omega) (by first | decide | omega) (by decide)
            have q388 : h282 75 8 = h4 75 8 := jK 0 f283 rg_75_8_0_1 (by first | decide | omega) (by first | decide | omega) (by decide)
            have q389 : h4 75 8 = h 75 8 := jK 0 f6 rg_75_8_0_1 (by first | decide | omega) (by first | decide | omega) (by decide)
            have m392 := Tq.fr hT f6 (by decide) (by decide)
            have m391 := Tq.fr m392 f283 (by decide) (by decide)
            have z390 := m391.1
            have q393 : h282 79 u355 = h4 79 u355 := jK u355 f283 rg_79_0_1_400 (by first | decide | omega) (by first | decide | omega) (by decide)
            have q394 : h4 79 u355 = h 79 u355 := jK u355 f6 rg_79_0_1_400 (by first | decide | omega) (by first | decide | omega) (by decide)
            have z395 := Tq.at (p := (h282 75 7)) (u := u355) m391 (by first | decide | omega) (by first | decide | omega)
            have e396 : h282 75 9 = sk tB tN (h 75 7) := (show h282 75 9 = h4 75 7 by first | decide | omega).trans c11
            refine x_retI (np := 105) (x := 0) (by decide +kernel) (by decide) (Or.inl (by decide +kernel)) ⟨_, rfl, (by decide), ?_⟩
            exact ⟨j284, f291, (by first | decide | omega), (by first | decide | omega), (fun z => by first | decide | omega), (fun z => by first | decide | omega), (fun z => by first | decide | omega), (fun z => by first | decide | omega), (Nr.cast (Nr.nob (by first | decide | omega) (Ni.nb4 m288 (by first | decide | omega))) e396)⟩
          have q386 : ¬ (2147483651 < v383) := q386
          refine x_iload (np := 90) (x := 3) (by decide +kernel) rfl (by first | decide | omega) ?_
          refine x_iload (np := 91) (x := 1) (by decide +kernel) rfl la1 ?_
          refine x_icmp (k := 2) (tg := 99) (np := 94) (by decide +kernel) (by decide) (by first | decide | omega) la1 (fun q397 => ?_) (fun q398 => ?_)
          · have q397 : v280 < a1 := q397
            refine x_const (np := 100) (x := 9223372034707292159) (a := 2147483647) (by decide +kernel) (by decide) (by decide) ?_
            refine x_goto (np := 103) (x := 104) (by decide +kernel) ?_
            have q399 : h282 75 9 = h4 75 9 := jK 0 f283 rg_75_9_0_1 (by first | decide | omega) (by first | decide | omega) (by decide)
            have q400 : h282 75 8 = h4 75 8 := jK 0 f283 rg_75_8_0_1 (by first | decide | omega) (by first | decide | omega) (by decide)
            have q401 : h4 75 8 = h 75 8 := jK 0 f6 rg_75_8_0_1 (by first | decide | omega) (by first | decide | omega) (by decide)
            have m404 := Tq.fr hT f6 (by decide) (by decide)
            have m403 := Tq.fr m404 f283 (by decide) (by decide)
            have z402 := m403.1
            have q405 : h282 79 u355 = h4 79 u355 := jK u355 f283 rg_79_0_1_400 (by first | decide | omega) (by first | decide | omega) (by decide)
            have q406 : h4 79 u355 = h 79 u355 := jK u355 f6 rg_79_0_1_400 (by first | decide | omega) (by first | decide | omega) (by decide)
            have z407 := Tq.at (p := (h282 75 7)) (u := u355) m403 (by first | decide | omega) (by first | decide | omega)
            have e408 : h282 75 9 = sk tB tN (h 75 7) := (show h282 75 9 = h4 75 7 by first | decide | omega).trans c11
            refine x_retI (np := 105) (x := 0) (by decide +kernel) (by decide) (Or.inl (by decide +kernel)) ⟨_, rfl, (by decide), ?_⟩
            exact ⟨j284, f291, (by first | decide | omega), (by first | decide | omega), (fun z => by first | decide | omega), (fun z => by first | decide | omega), (fun z => by first | decide | omega), (fun z => by first | decide | omega), (Nr.cast (Ni.rng m288 (by first | decide | omega) (by first | decide | omega) (fun z => by have z1 := z.1; have z2 := z.2.1; have z3 := z.2.2; omega) (by first | decide | omega) (by first | decide | omega)) e408)⟩
          have q398 : ¬ (v280 < a1) := q398
          refine x_iload (np := 95) (x := 3) (by decide +kernel) rfl (by first | decide | omega) ?_
          refine x_iload (np := 96) (x := 2) (by decide +kernel) rfl la2 ?_
          refine x_icmp (k := 5) (tg := 103) (np := 99) (by decide +kernel) (by decide) (by first | decide | omega) la2 (fun q409 => ?_) (fun q410 => ?_)
          · have q409 : v280 ≤ a2 := q409
            refine x_iload (np := 104) (x := 3) (by decide +kernel) rfl (by first | decide | omega) ?_
            have q411 : h282 75 9 = h4 75 9 := jK 0 f283 rg_75_9_0_1 (by first | decide | omega) (by first | decide | omega) (by decide)
            have q412 : h282 75 8 = h4 75 8 := jK 0 f283 rg_75_8_0_1 (by first | decide | omega) (by first | decide | omega) (by decide)
            have q413 : h4 75 8 = h 75 8 := jK 0 f6 rg_75_8_0_1 (by first | decide | omega) (by first | decide | omega) (by decide)
            have m416 := Tq.fr hT f6 (by decide) (by decide)
            have m415 := Tq.fr m416 f283 (by decide) (by decide)
            have z414 := m415.1
            have q417 : h282 79 u355 = h4 79 u355 := jK u355 f283 rg_79_0_1_400 (by first | decide | omega) (by first | decide | omega) (by decide)
            have q418 : h4 79 u355 = h 79 u355 := jK u355 f6 rg_79_0_1_400 (by first | decide | omega) (by first | decide | omega) (by decide)
            have z419 := Tq.at (p := (h282 75 7)) (u := u355) m415 (by first | decide | omega) (by first | decide | omega)
            have e420 : h282 75 9 = sk tB tN (h 75 7) := (show h282 75 9 = h4 75 7 by first | decide | omega).trans c11
            refine x_retI (np := 105) (x := 0) (by decide +kernel) (by first | decide | omega) (Or.inl (by decide +kernel)) ⟨_, rfl, (by first | decide | omega), ?_⟩
            exact ⟨j284, f291, (by first | decide | omega), (by first | decide | omega), (fun z => by first | decide | omega), (fun z => by first | decide | omega), (fun z => by first | decide | omega), (fun z => by first | decide | omega), (Nr.cast (Ni.val m288 (by first | decide | omega) (by first | decide | omega) (fun z => by have z1 := z.1; have z2 := z.2.1; have z3 := z.2.2; omega) (by first | decide | omega) (by first | decide | omega) (by first | decide | omega) (by first | decide | omega)) e420)⟩
          have q410 : ¬ (v280 ≤ a2) := q410
          refine x_const (np := 100) (x := 9223372034707292159) (a := 2147483647) (by decide +kernel) (by decide) (by decide) ?_
          refine x_goto (np := 103) (x := 104) (by decide +kernel) ?_
          have q421 : h282 75 9 = h4 75 9 := jK 0 f283 rg_75_9_0_1 (by first | decide | omega) (by first | decide | omega) (by decide)
          have q422 : h282 75 8 = h4 75 8 := jK 0 f283 rg_75_8_0_1 (by first | decide | omega) (by first | decide | omega) (by decide)
          have q423 : h4 75 8 = h 75 8 := jK 0 f6 rg_75_8_0_1 (by first | decide | omega) (by first | decide | omega) (by decide)
          have m426 := Tq.fr hT f6 (by decide) (by decide)
          have m425 := Tq.fr m426 f283 (by decide) (by decide)
          have z424 := m425.1
          have q427 : h282 79 u355 = h4 79 u355 := jK u355 f283 rg_79_0_1_400 (by first | decide | omega) (by first | decide | omega) (by decide)
          have q428 : h4 79 u355 = h 79 u355 := jK u355 f6 rg_79_0_1_400 (by first | decide | omega) (by first | decide | omega) (by decide)
          have z429 := Tq.at (p := (h282 75 7)) (u := u355) m425 (by first | decide | omega) (by first | decide | omega)
          have e430 : h282 75 9 = sk tB tN (h 75 7) := (show h282 75 9 = h4 75 7 by first | decide | omega).trans c11
          refine x_retI (np := 105) (x := 0) (by decide +kernel) (by decide) (Or.inl (by decide +kernel)) ⟨_, rfl, (by decide), ?_⟩
          exact ⟨j284, f291, (by first | decide | omega), (by first | decide | omega), (fun z => by first | decide | omega), (fun z => by first | decide | omega), (fun z => by first | decide | omega), (fun z => by first | decide | omega), (Nr.cast (Ni.rng m288 (by first | decide | omega) (by first | decide | omega) (fun z => by have z1 := z.1; have z2 := z.2.1; have z3 := z.2.2; omega) (by first | decide | omega) (by first | decide | omega)) e430)⟩
        have q364 : ¬ (2147483648 = 2147483648) := q364
        exfalso; omega
      have q362 : ¬ ((h 79 u355) < 2147483696) := q362
      refine x_aload (np := 25) (x := 0) (by decide +kernel) rfl (x_nc_le (by decide)) ?_
      have q431 : h282 75 5 = 79 := by have z := jB (e := 5) 0 j284 rg_75_5_0_1 (by decide) (by decide); omega
      refine x_getR (np := 28) (x := 709) (f := 5) (q := 79) (by decide +kernel) (by decide) (by decide +kernel) q431 ?_
      refine x_aload (np := 29) (x := 0) (by decide +kernel) rfl (x_nc_le (by decide)) ?_
      refine x_getC (np := 32) (x := 711) (f := 7) (q := (h282 75 7)) (by decide +kernel) (by decide) (by decide +kernel) rfl (fun l432 => ?_)
      have q433 : h282 79 u355 = h4 79 u355 := jK u355 f283 rg_79_0_1_400 (by first | decide | omega) (by first | decide | omega) (by decide)
      have q434 : h4 79 u355 = h 79 u355 := jK u355 f6 rg_79_0_1_400 (by first | decide | omega) (by first | decide | omega) (by decide)
      refine x_baldC (np := 33) (x := 0) (n := 400) (i := u355) (q := (h 79 u355)) (by decide +kernel) (by decide +kernel) (by first | decide | omega) (by first | decide | omega) (by decide) (q433.trans q434) (fun l435 => ?_)
      refine x_iload (np := 34) (x := 2) (by decide +kernel) rfl (by decide) ?_
      refine x_icmp (k := 4) (tg := 41) (np := 37) (by decide +kernel) (by decide) l360 (by decide) (fun q436 => ?_) (fun q437 => ?_)
      · have q436 : 2147483705 < (h 79 u355) := q436
        refine x_const (np := 42) (x := 9223372039002259456) (a := 2147483648) (by decide +kernel) (by decide) (by decide) ?_
        refine x_retI (np := 43) (x := 0) (by decide +kernel) (by decide) (Or.inr ⟨by decide +kernel, by first | decide | omega, by first | decide | omega⟩) ⟨_, rfl, (by decide), ?_⟩
        refine x_ifz (k := 0) (tg := 65) (np := 17) (by decide +kernel) (by decide) (by decide) (fun q438 => ?_) (fun q439 => ?_)
        · have q438 : 2147483648 = 2147483648 := q438
          refine x_aload (np := 66) (x := 0) (by decide +kernel) rfl (x_nc_le (by decide)) ?_
          refine x_getC (np := 69) (x := 711) (f := 7) (q := (h282 75 7)) (by decide +kernel) (by decide) (by decide +kernel) rfl (fun l440 => ?_)
          refine x_aload (np := 70) (x := 0) (by decide +kernel) rfl (x_nc_le (by decide)) ?_
          have q441 : h282 75 9 = h4 75 9 := jK 0 f283 rg_75_9_0_1 (by first | decide | omega) (by first | decide | omega) (by decide)
          refine x_getC (np := 73) (x := 713) (f := 9) (q := (h4 75 9)) (by decide +kernel) (by decide) (by decide +kernel) q441 (fun l442 => ?_)
          refine x_icmp (k := 0) (tg := 99) (np := 76) (by decide +kernel) (by decide) l293 l442 (fun q443 => ?_) (fun q444 => ?_)
          · have q443 : (h282 75 7) = (h4 75 9) := q443
            refine x_const (np := 100) (x := 9223372034707292159) (a := 2147483647) (by decide +kernel) (by decide) (by decide) ?_
            refine x_goto (np := 103) (x := 104) (by decide +kernel) ?_
            have q445 : h282 75 9 = h4 75 9 := jK 0 f283 rg_75_9_0_1 (by first | decide | omega) (by first | decide | omega) (by decide)
            have q446 : h282 75 8 = h4 75 8 := jK 0 f283 rg_75_8_0_1 (by first | decide | omega) (by first | decide | omega) (by decide)
            have q447 : h4 75 8 = h 75 8 := jK 0 f6 rg_75_8_0_1 (by first | decide | omega) (by first | decide | omega) (by decide)
            have m450 := Tq.fr hT f6 (by decide) (by decide)
            have m449 := Tq.fr m450 f283 (by decide) (by decide)
            have z448 := m449.1
            have q451 : h282 79 u355 = h4 79 u355 := jK u355 f283 rg_79_0_1_400 (by first | decide | omega) (by first | decide | omega) (by decide)
            have q452 : h4 79 u355 = h 79 u355 := jK u355 f6 rg_79_0_1_400 (by first | decide | omega) (by first | decide | omega) (by decide)
            have z453 := Tq.at (p := (h282 75 7)) (u := u355) m449 (by first | decide | omega) (by first | decide | omega)
            have e454 : h282 75 9 = sk tB tN (h 75 7) := (show h282 75 9 = h4 75 7 by first | decide | omega).trans c11
            refine x_retI (np := 105) (x := 0) (by decide +kernel) (by decide) (Or.inl (by decide +kernel)) ⟨_, rfl, (by decide), ?_⟩
            exact ⟨j284, f291, (by first | decide | omega), (by first | decide | omega), (fun z => by first | decide | omega), (fun z => by first | decide | omega), (fun z => by first | decide | omega), (fun z => by first | decide | omega), (Nr.cast (Nr.nob (by first | decide | omega) (Ni.nb0 m288 (by first | decide | omega) (fun z => by have z1 := z.1; have z2 := z.2.1; have z3 := z.2.2; omega))) e454)⟩
          have q444 : ¬ ((h282 75 7) = (h4 75 9)) := q444
          refine x_aload (np := 77) (x := 0) (by decide +kernel) rfl (x_nc_le (by decide)) ?_
          refine x_getC (np := 80) (x := 711) (f := 7) (q := (h282 75 7)) (by decide +kernel) (by decide) (by decide +kernel) rfl (fun l455 => ?_)
          refine x_aload (np := 81) (x := 0) (by decide +kernel) rfl (x_nc_le (by decide)) ?_
          have q456 : h282 75 9 = h4 75 9 := jK 0 f283 rg_75_9_0_1 (by first | decide | omega) (by first | decide | omega) (by decide)
          refine x_getC (np := 84) (x := 713) (f := 9) (q := (h4 75 9)) (by decide +kernel) (by decide) (by decide +kernel) q456 (fun l457 => ?_)
          obtain ⟨v458, q459⟩ : ∃ z, z + (h4 75 9) = (h282 75 7) + 2147483648 := ⟨(h282 75 7) + 2147483648 - (h4 75 9), by first | decide | omega⟩
          refine x_isub (np := 85) (x := 0) (v := v458) (by decide +kernel) l293 l442 (by first | decide | omega) (by first | decide | omega) ?_
          refine x_const (np := 86) (x := 9223372051887161347) (a := 2147483651) (by decide +kernel) (by decide) (by decide) ?_
          refine x_icmp (k := 4) (tg := 99) (np := 89) (by decide +kernel) (by decide) (by first | decide | omega) (by decide) (fun q460 => ?_) (fun q461 => ?_)
          · have q460 : 2147483651 < v458 := q460
            refine x_const (np := 100) (x := 9223372034707292159) (a := 2147483647) (by decide +kernel) (by decide) (by decide) ?_
            refine x_goto (np := 103) (x := 104) (by decide +kernel) ?_
            have q462 : h282 75 9 = h4 75 9 := jK 0 f283 rg_75_9_0_1 (by first | decide | omega) (by first | decide | omega) (by decide)
            have q463 : h282 75 8 = h4 75 8 := jK 0 f283 rg_75_8_0_1 (by first | decide | omega) (by first | decide | omega) (by decide)
            have q464 : h4 75 8 = h 75 8 := jK 0 f6 rg_75_8_0_1 (by first | decide | omega) (by first | decide | omega) (by decide)
            have m467 := Tq.fr hT f6 (by decide) (by decide)
            have m466 := Tq.fr m467 f283 (by decide) (by decide)
            have z465 := m466.1
            have q468 : h282 79 u355 = h4 79 u355 := jK u355 f283 rg_79_0_1_400 (by first | decide | omega) (by first | decide | omega) (by decide)
            have q469 : h4 79 u355 = h 79 u355 := jK u355 f6 rg_79_0_1_400 (by first | decide | omega) (by first | decide | omega) (by decide)
            have z470 := Tq.at (p := (h282 75 7)) (u := u355) m466 (by first | decide | omega) (by first | decide | omega)
            have e471 : h282 75 9 = sk tB tN (h 75 7) := (show h282 75 9 = h4 75 7 by first | decide | omega).trans c11
            refine x_retI (np := 105) (x := 0) (by decide +kernel) (by decide) (Or.inl (by decide +kernel)) ⟨_, rfl, (by decide), ?_⟩
            exact ⟨j284, f291, (by first | decide | omega), (by first | decide | omega), (fun z => by first | decide | omega), (fun z => by first | decide | omega), (fun z => by first | decide | omega), (fun z => by first | decide | omega), (Nr.cast (Nr.nob (by first | decide | omega) (Ni.nb4 m288 (by first | decide | omega))) e471)⟩
          have q461 : ¬ (2147483651 < v458) := q461
          refine x_iload (np := 90) (x := 3) (by decide +kernel) rfl (by first | decide | omega) ?_
          refine x_iload (np := 91) (x := 1) (by decide +kernel) rfl la1 ?_
          refine x_icmp (k := 2) (tg := 99) (np := 94) (by decide +kernel) (by decide) (by first | decide | omega) la1 (fun q472 => ?_) (fun q473 => ?_)
          · have q472 : v280 < a1 := q472
            refine x_const (np := 100) (x := 9223372034707292159) (a := 2147483647) (by decide +kernel) (by decide) (by decide) ?_
            refine x_goto (np := 103) (x := 104) (by decide +kernel) ?_
            have q474 : h282 75 9 = h4 75 9 := jK 0 f283 rg_75_9_0_1 (by first | decide | omega) (by first | decide | omega) (by decide)
            have q475 : h282 75 8 = h4 75 8 := jK 0 f283 rg_75_8_0_1 (by first | decide | omega) (by first | decide | omega) (by decide)
            have q476 : h4 75 8 = h 75 8 := jK 0 f6 rg_75_8_0_1 (by first | decide | omega) (by first | decide | omega) (by decide)
            have m479 := Tq.fr hT f6 (by decide) (by decide)
            have m478 := Tq.fr m479 f283 (by decide) (by decide)
            have z477 := m478.1
            have q480 : h282 79 u355 = h4 79 u355 := jK u355 f283 rg_79_0_1_400 (by first | decide | omega) (by first | decide | omega) (by decide)
            have q481 : h4 79 u355 = h 79 u355 := jK u355 f6 rg_79_0_1_400 (by first | decide | omega) (by first | decide | omega) (by decide)
            have z482 := Tq.at (p := (h282 75 7)) (u := u355) m478 (by first | decide | omega) (by first | decide | omega)
            have e483 : h282 75 9 = sk tB tN (h 75 7) := (show h282 75 9 = h4 75 7 by first | decide | omega).trans c11
            refine x_retI (np := 105) (x := 0) (by decide +kernel) (by decide) (Or.inl (by decide +kernel)) ⟨_, rfl, (by decide), ?_⟩
            exact ⟨j284, f291, (by first | decide | omega), (by first | decide | omega), (fun z => by first | decide | omega), (fun z => by first | decide | omega), (fun z => by first | decide | omega), (fun z => by first | decide | omega), (Nr.cast (Ni.rng m288 (by first | decide | omega) (by first | decide | omega) (fun z => by have z1 := z.1; have z2 := z.2.1; have z3 := z.2.2; omega) (by first | decide | omega) (by first | decide | omega)) e483)⟩
          have q473 : ¬ (v280 < a1) := q473
          refine x_iload (np := 95) (x := 3) (by decide +kernel) rfl (by first | decide | omega) ?_
          refine x_iload (np := 96) (x := 2) (by decide +kernel) rfl la2 ?_
          refine x_icmp (k := 5) (tg := 103) (np := 99) (by decide +kernel) (by decide) (by first | decide | omega) la2 (fun q484 => ?_) (fun q485 => ?_)
          · have q484 : v280 ≤ a2 := q484
            refine x_iload (np := 104) (x := 3) (by decide +kernel) rfl (by first | decide | omega) ?_
            have q486 : h282 75 9 = h4 75 9 := jK 0 f283 rg_75_9_0_1 (by first | decide | omega) (by first | decide | omega) (by decide)
            have q487 : h282 75 8 = h4 75 8 := jK 0 f283 rg_75_8_0_1 (by first | decide | omega) (by first | decide | omega) (by decide)
            have q488 : h4 75 8 = h 75 8 := jK 0 f6 rg_75_8_0_1 (by first | decide | omega) (by first | decide | omega) (by decide)
            have m491 := Tq.fr hT f6 (by decide) (by decide)
            have m490 := Tq.fr m491 f283 (by decide) (by decide)
            have z489 := m490.1
            have q492 : h282 79 u355 = h4 79 u355 := jK u355 f283 rg_79_0_1_400 (by first | decide | omega) (by first | decide | omega) (by decide)
            have q493 : h4 79 u355 = h 79 u355 := jK u355 f6 rg_79_0_1_400 (by first | decide | omega) (by first | decide | omega) (by decide)
            have z494 := Tq.at (p := (h282 75 7)) (u := u355) m490 (by first | decide | omega) (by first | decide | omega)
            have e495 : h282 75 9 = sk tB tN (h 75 7) := (show h282 75 9 = h4 75 7 by first | decide | omega).trans c11
            refine x_retI (np := 105) (x := 0) (by decide +kernel) (by first | decide | omega) (Or.inl (by decide +kernel)) ⟨_, rfl, (by first | decide | omega), ?_⟩
            exact ⟨j284, f291, (by first | decide | omega), (by first | decide | omega), (fun z => by first | decide | omega), (fun z => by first | decide | omega), (fun z => by first | decide | omega), (fun z => by first | decide | omega), (Nr.cast (Ni.val m288 (by first | decide | omega) (by first | decide | omega) (fun z => by have z1 := z.1; have z2 := z.2.1; have z3 := z.2.2; omega) (by first | decide | omega) (by first | decide | omega) (by first | decide | omega) (by first | decide | omega)) e495)⟩
          have q485 : ¬ (v280 ≤ a2) := q485
          refine x_const (np := 100) (x := 9223372034707292159) (a := 2147483647) (by decide +kernel) (by decide) (by decide) ?_
          refine x_goto (np := 103) (x := 104) (by decide +kernel) ?_
          have q496 : h282 75 9 = h4 75 9 := jK 0 f283 rg_75_9_0_1 (by first | decide | omega) (by first | decide | omega) (by decide)
          have q497 : h282 75 8 = h4 75 8 := jK 0 f283 rg_75_8_0_1 (by first | decide | omega) (by first | decide | omega) (by decide)
          have q498 : h4 75 8 = h 75 8 := jK 0 f6 rg_75_8_0_1 (by first | decide | omega) (by first | decide | omega) (by decide)
          have m501 := Tq.fr hT f6 (by decide) (by decide)
          have m500 := Tq.fr m501 f283 (by decide) (by decide)
          have z499 := m500.1
          have q502 : h282 79 u355 = h4 79 u355 := jK u355 f283 rg_79_0_1_400 (by first | decide | omega) (by first | decide | omega) (by decide)
          have q503 : h4 79 u355 = h 79 u355 := jK u355 f6 rg_79_0_1_400 (by first | decide | omega) (by first | decide | omega) (by decide)
          have z504 := Tq.at (p := (h282 75 7)) (u := u355) m500 (by first | decide | omega) (by first | decide | omega)
          have e505 : h282 75 9 = sk tB tN (h 75 7) := (show h282 75 9 = h4 75 7 by first | decide | omega).trans c11
          refine x_retI (np := 105) (x := 0) (by decide +kernel) (by decide) (Or.inl (by decide +kernel)) ⟨_, rfl, (by decide), ?_⟩
          exact ⟨j284, f291, (by first | decide | omega), (by first | decide | omega), (fun z => by first | decide | omega), (fun z => by first | decide | omega), (fun z => by first | decide | omega), (fun z => by first | decide | omega), (Nr.cast (Ni.rng m288 (by first | decide | omega) (by first | decide | omega) (fun z => by have z1 := z.1; have z2 := z.2.1; have z3 := z.2.2; omega) (by first | decide | omega) (by first | decide | omega)) e505)⟩
        have q439 : ¬ (2147483648 = 2147483648) := q439
        exfalso; omega
      have q437 : ¬ (2147483705 < (h 79 u355)) := q437
      refine x_const (np := 38) (x := 9223372043297226753) (a := 2147483649) (by decide +kernel) (by decide) (by decide) ?_
      refine x_goto (np := 41) (x := 42) (by decide +kernel) ?_
      refine x_retI (np := 43) (x := 0) (by decide +kernel) (by decide) (Or.inr ⟨by decide +kernel, by first | decide | omega, by first | decide | omega⟩) ⟨_, rfl, (by decide), ?_⟩
      refine x_ifz (k := 0) (tg := 65) (np := 17) (by decide +kernel) (by decide) (by decide) (fun q506 => ?_) (fun q507 => ?_)
      · have q506 : 2147483649 = 2147483648 := q506
        exfalso; omega
      have q507 : ¬ (2147483649 = 2147483648) := q507
      refine x_aload (np := 18) (x := 0) (by decide +kernel) rfl (x_nc_le (by decide)) ?_
      refine x_getC (np := 21) (x := 711) (f := 7) (q := (h282 75 7)) (by decide +kernel) (by decide) (by decide +kernel) rfl (fun l508 => ?_)
      refine x_aload (np := 22) (x := 0) (by decide +kernel) rfl (x_nc_le (by decide)) ?_
      have q509 : h282 75 9 = h4 75 9 := jK 0 f283 rg_75_9_0_1 (by first | decide | omega) (by first | decide | omega) (by decide)
      refine x_getC (np := 25) (x := 713) (f := 9) (q := (h4 75 9)) (by decide +kernel) (by decide) (by decide +kernel) q509 (fun l510 => ?_)
      obtain ⟨v511, q512⟩ : ∃ z, z + (h4 75 9) = (h282 75 7) + 2147483648 := ⟨(h282 75 7) + 2147483648 - (h4 75 9), by first | decide | omega⟩
      refine x_isub (np := 26) (x := 0) (v := v511) (by decide +kernel) l293 l510 (by first | decide | omega) (by first | decide | omega) ?_
      refine x_const (np := 27) (x := 9223372051887161347) (a := 2147483651) (by decide +kernel) (by decide) (by decide) ?_
      refine x_icmp (k := 3) (tg := 50) (np := 30) (by decide +kernel) (by decide) (by first | decide | omega) (by decide) (fun q513 => ?_) (fun q514 => ?_)
      · have q513 : 2147483651 ≤ v511 := q513
        refine x_iload (np := 51) (x := 3) (by decide +kernel) rfl (by first | decide | omega) ?_
        refine x_istore (np := 52) (x := 3) (lo' := [x_r 75, iv_c a1, iv_c a2, iv_c v280]) (by decide +kernel) (by first | decide | omega) (Nat.le_of_ble_eq_true rfl) rfl ?_
        refine x_aload (np := 53) (x := 0) (by decide +kernel) rfl (x_nc_le (by decide)) ?_
        refine x_dup (np := 54) (x := 0) (by decide +kernel) (by have z := x_nc_le (k := 75) (by decide); unfold x_r; omega) ?_
        refine x_getC (np := 57) (x := 711) (f := 7) (q := (h282 75 7)) (by decide +kernel) (by decide) (by decide +kernel) rfl (fun l515 => ?_)
        refine x_const (np := 58) (x := 9223372043297226753) (a := 2147483649) (by decide +kernel) (by decide) (by decide) ?_
        refine x_iadd (np := 59) (x := 0) (v := (1 + (h282 75 7))) (by decide +kernel) l293 (by decide) (by first | decide | omega) (by first | decide | omega) ?_
        refine x_putI (np := 62) (x := 711) (f := 7) (by decide +kernel) (by decide +kernel) (by first | decide | omega) (Or.inl (by decide)) ?_
        have j517 := jU (e := 7) (v := (1 + (h282 75 7))) 0 j284 rg_75_7_0_1 (by first | decide | omega) (by first | decide | omega) (by first | decide | omega)
        have f519 := jF (e := 7) (v := (1 + (h282 75 7))) 0 f291 rg_75_7_0_1 (by first | decide | omega) (by first | decide | omega) (by decide)
        have f520 := jF (e := 7) (v := (1 + (h282 75 7))) 0 f283 rg_75_7_0_1 (by first | decide | omega) (by first | decide | omega) (by decide)
        generalize e518 : x_up h282 75 7 (1 + (h282 75 7)) = h516 at j517 f519 f520 ⊢
        refine x_goto (np := 65) (x := 6) (by decide +kernel) ?_
        have q521 : h516 75 7 = (1 + (h282 75 7)) := by rw [← e518]; exact x_up_at
        have q522 : h516 75 7 = (1 + (h282 75 7)) := by rw [← e518]; exact x_up_at
        have q523 : h516 75 9 = h282 75 9 := by rw [← e518]; exact x_up_i (by first | decide | omega)
        have q524 : h282 75 9 = h4 75 9 := jK 0 f283 rg_75_9_0_1 (by first | decide | omega) (by first | decide | omega) (by decide)
        have q525 : h282 75 9 = h4 75 9 := jK 0 f283 rg_75_9_0_1 (by first | decide | omega) (by first | decide | omega) (by decide)
        have q526 : h516 75 7 = (1 + (h282 75 7)) := by rw [← e518]; exact x_up_at
        have q527 : h516 75 9 = h282 75 9 := by rw [← e518]; exact x_up_i (by first | decide | omega)
        have q528 : h282 75 9 = h4 75 9 := jK 0 f283 rg_75_9_0_1 (by first | decide | omega) (by first | decide | omega) (by decide)
        have q529 : h282 75 8 = h4 75 8 := jK 0 f283 rg_75_8_0_1 (by first | decide | omega) (by first | decide | omega) (by decide)
        have q530 : h4 75 8 = h 75 8 := jK 0 f6 rg_75_8_0_1 (by first | decide | omega) (by first | decide | omega) (by decide)
        have m533 := Tq.fr hT f6 (by decide) (by decide)
        have m532 := Tq.fr m533 f283 (by decide) (by decide)
        have z531 := m532.1
        have q534 : h282 79 u355 = h4 79 u355 := jK u355 f283 rg_79_0_1_400 (by first | decide | omega) (by first | decide | omega) (by decide)
        have q535 : h4 79 u355 = h 79 u355 := jK u355 f6 rg_79_0_1_400 (by first | decide | omega) (by first | decide | omega) (by decide)
        have z536 := Tq.at (p := (h282 75 7)) (u := u355) m532 (by first | decide | omega) (by first | decide | omega)
        have q537 : h282 75 9 = h4 75 9 := jK 0 f283 rg_75_9_0_1 (by first | decide | omega) (by first | decide | omega) (by decide)
        exact i290 v280 h516 (by first | decide | omega) (by first | decide | omega) (by first | decide | omega) (by first | decide | omega) j517 f520 (Ni.st3 m288 (by first | decide | omega) ⟨by first | decide | omega, by first | decide | omega, by first | decide | omega⟩ (by first | decide | omega) (by first | decide | omega) (by first | decide | omega))
      have q514 : ¬ (2147483651 ≤ v511) := q514
      have q538 : h282 75 9 = h4 75 9 := jK 0 f283 rg_75_9_0_1 (by first | decide | omega) (by first | decide | omega) (by decide)
      have b539 := Ni.lt m288 (by first | decide | omega)
      have b540 := Ni.ge m288
      refine x_const (np := 32) (x := 9223372081951932426) (a := 2147483658) (by decide +kernel) (by decide) (by decide) ?_
      refine x_iload (np := 33) (x := 3) (by decide +kernel) rfl (by first | decide | omega) ?_
      obtain ⟨u541, q542⟩ : ∃ z, v280 = 2147483648 + z := ⟨v280 - 2147483648, by first | decide | omega⟩
      refine x_imul (np := 34) (x := 0) (i := 10) (j := u541) (v := (2147483648 + 10 * u541)) (by decide +kernel) (by first | decide | omega) (by first | decide | omega) (by first | decide | omega) (by first | decide | omega) (by decide) (by first | decide | omega) ?_
      refine x_aload (np := 35) (x := 0) (by decide +kernel) rfl (x_nc_le (by decide)) ?_
      have q544 : h282 75 5 = 79 := by have z := jB (e := 5) 0 j284 rg_75_5_0_1 (by decide) (by decide); omega
      refine x_getR (np := 38) (x := 709) (f := 5) (q := 79) (by decide +kernel) (by decide) (by decide +kernel) q544 ?_
      refine x_aload (np := 39) (x := 0) (by decide +kernel) rfl (x_nc_le (by decide)) ?_
      refine x_getC (np := 42) (x := 711) (f := 7) (q := (h282 75 7)) (by decide +kernel) (by decide) (by decide +kernel) rfl (fun l545 => ?_)
      have q546 : h282 79 u355 = h4 79 u355 := jK u355 f283 rg_79_0_1_400 (by first | decide | omega) (by first | decide | omega) (by decide)
      have q547 : h4 79 u355 = h 79 u355 := jK u355 f6 rg_79_0_1_400 (by first | decide | omega) (by first | decide | omega) (by decide)
      refine x_baldC (np := 43) (x := 0) (n := 400) (i := u355) (q := (h 79 u355)) (by decide +kernel) (by decide +kernel) (by first | decide | omega) (by first | decide | omega) (by decide) (q546.trans q547) (fun l548 => ?_)
      refine x_iadd (np := 44) (x := 0) (v := (10 * u541 + (h 79 u355))) (by decide +kernel) (by first | decide | omega) l360 (by first | decide | omega) (by first | decide | omega) ?_
      refine x_const (np := 46) (x := 9223372245160689712) (a := 2147483696) (by decide +kernel) (by decide) (by decide) ?_
      obtain ⟨v549, q550⟩ : ∃ z, z + 2147483696 = (10 * u541 + (h 79 u355)) + 2147483648 := ⟨(10 * u541 + (h 79 u355)) + 2147483648 - 2147483696, by first | decide | omega⟩
      refine x_isub (np := 47) (x := 0) (v := v549) (by decide +kernel) (by first | decide | omega) (by decide) (by first | decide | omega) (by first | decide | omega) ?_
      refine x_goto (np := 50) (x := 51) (by decide +kernel) ?_
      refine x_istore (np := 52) (x := 3) (lo' := [x_r 75, iv_c a1, iv_c a2, iv_c v549]) (by decide +kernel) (by first | decide | omega) (Nat.le_of_ble_eq_true rfl) rfl ?_
      refine x_aload (np := 53) (x := 0) (by decide +kernel) rfl (x_nc_le (by decide)) ?_
      refine x_dup (np := 54) (x := 0) (by decide +kernel) (by have z := x_nc_le (k := 75) (by decide); unfold x_r; omega) ?_
      refine x_getC (np := 57) (x := 711) (f := 7) (q := (h282 75 7)) (by decide +kernel) (by decide) (by decide +kernel) rfl (fun l551 => ?_)
      refine x_const (np := 58) (x := 9223372043297226753) (a := 2147483649) (by decide +kernel) (by decide) (by decide) ?_
      refine x_iadd (np := 59) (x := 0) (v := (1 + (h282 75 7))) (by decide +kernel) l293 (by decide) (by first | decide | omega) (by first | decide | omega) ?_
      refine x_putI (np := 62) (x := 711) (f := 7) (by decide +kernel) (by decide +kernel) (by first | decide | omega) (Or.inl (by decide)) ?_
      have j553 := jU (e := 7) (v := (1 + (h282 75 7))) 0 j284 rg_75_7_0_1 (by first | decide | omega) (by first | decide | omega) (by first | decide | omega)
      have f555 := jF (e := 7) (v := (1 + (h282 75 7))) 0 f291 rg_75_7_0_1 (by first | decide | omega) (by first | decide | omega) (by decide)
      have f556 := jF (e := 7) (v := (1 + (h282 75 7))) 0 f283 rg_75_7_0_1 (by first | decide | omega) (by first | decide | omega) (by decide)
      generalize e554 : x_up h282 75 7 (1 + (h282 75 7)) = h552 at j553 f555 f556 ⊢
      refine x_goto (np := 65) (x := 6) (by decide +kernel) ?_
      have q557 : h552 75 7 = (1 + (h282 75 7)) := by rw [← e554]; exact x_up_at
      have q558 : h552 75 7 = (1 + (h282 75 7)) := by rw [← e554]; exact x_up_at
      have q559 : h552 75 9 = h282 75 9 := by rw [← e554]; exact x_up_i (by first | decide | omega)
      have q560 : h282 75 9 = h4 75 9 := jK 0 f283 rg_75_9_0_1 (by first | decide | omega) (by first | decide | omega) (by decide)
      have q561 : h282 75 9 = h4 75 9 := jK 0 f283 rg_75_9_0_1 (by first | decide | omega) (by first | decide | omega) (by decide)
      have q562 : h552 75 7 = (1 + (h282 75 7)) := by rw [← e554]; exact x_up_at
      have q563 : h552 75 9 = h282 75 9 := by rw [← e554]; exact x_up_i (by first | decide | omega)
      have q564 : h282 75 9 = h4 75 9 := jK 0 f283 rg_75_9_0_1 (by first | decide | omega) (by first | decide | omega) (by decide)
      have q565 : h282 75 8 = h4 75 8 := jK 0 f283 rg_75_8_0_1 (by first | decide | omega) (by first | decide | omega) (by decide)
      have q566 : h4 75 8 = h 75 8 := jK 0 f6 rg_75_8_0_1 (by first | decide | omega) (by first | decide | omega) (by decide)
      have m569 := Tq.fr hT f6 (by decide) (by decide)
      have m568 := Tq.fr m569 f283 (by decide) (by decide)
      have z567 := m568.1
      have q570 : h282 79 u355 = h4 79 u355 := jK u355 f283 rg_79_0_1_400 (by first | decide | omega) (by first | decide | omega) (by decide)
      have q571 : h4 79 u355 = h 79 u355 := jK u355 f6 rg_79_0_1_400 (by first | decide | omega) (by first | decide | omega) (by decide)
      have z572 := Tq.at (p := (h282 75 7)) (u := u355) m568 (by first | decide | omega) (by first | decide | omega)
      have q573 : h282 75 9 = h4 75 9 := jK 0 f283 rg_75_9_0_1 (by first | decide | omega) (by first | decide | omega) (by decide)
      exact i290 v549 h552 (by first | decide | omega) (by first | decide | omega) (by first | decide | omega) (by first | decide | omega) j553 f556 (Ni.st m288 (by first | decide | omega) ⟨by first | decide | omega, by first | decide | omega, by first | decide | omega⟩ (by first | decide | omega) (by first | decide | omega) (by first | decide | omega))
  exact p285 _ 2147483648 h4 (Nat.lt_succ_self _) (by first | decide | omega) (by first | decide | omega) (by first | decide | omega) j5 (Fr.refl _ _) (Ni.zero (by first | decide | omega) (by first | decide | omega))
set_option maxHeartbeats 0 in
/-- LentNamesModel.needs(Ljava/lang/String;)Z -/
theorem c172_75_S0 {sc : Nat × Nat} {d ia1 : Nat} {h : xh} {tB : Nat → Nat} {tN : Nat} (hJ : J h) (hia1 : ia1 < 32) (hT : Tq tB tN h) : X sc 172 (d + 5) (xI fun r h' => J h' ∧ Fr 5242881 h h' ∧ (2147483648 ≤ r ∧ r ≤ 2147483649) ∧ (h 75 7 + 0 ≤ h' 75 7) ∧ (r = 2147483649 → h 75 7 + 2 ≤ h' 75 7) ∧ Tw (Wd tB tN ia1 (sk tB tN (h 75 7))) tB tN (sk tB tN (h 75 7)) (iv_tl ia1) r (sk tB tN (h' 75 7))) 0 0 0 [x_r 75, x_b (ia1 + 1)] [] h := by
  have hF := Fr.refl 5242881 h
  refine x_aload (np := 1) (x := 0) (by decide +kernel) rfl (x_nc_le (by decide)) ?_
  refine x_cV (t := 6) (mj := 169) (n := 1) (rc := 12) (ml := 1) (nr := 0) (np := 4) (as := [x_r 75]) (rest := []) (lo1 := [x_r 75]) (by decide +kernel) (by decide) (by decide +kernel) (x_rb_of (by decide +kernel)) rfl rfl (x_wr (by decide) x_wn) x_wn (by decide) rfl (c169_75 hJ  hT) (fun h4 q3 => ?_)
  obtain ⟨j5, f6, c9, c10, c11, c12⟩ := q3
  have f13 := Fr.trans hF f6 (by decide)
  have b14 := jB (e := 7) 0 hJ rg_75_7_0_1 (by first | decide | omega) (by first | decide | omega)
  have b15 := jB (e := 9) 0 j5 rg_75_9_0_1 (by first | decide | omega) (by first | decide | omega)
  have b16 := jB (e := 7) 0 j5 rg_75_7_0_1 (by first | decide | omega) (by first | decide | omega)
  refine x_aload (np := 5) (x := 0) (by decide +kernel) rfl (x_nc_le (by decide)) ?_
  refine x_aloadB (i := ia1) (k4 := 1) rfl hia1 (by rw [tb_b172]; decide +kernel) ?_
  have m20 := Tq.fr hT f6 (by decide) (by decide)
  refine x_cP (t := 6) (mj := 170) (n := 2) (rc := 12) (ml := 4) (nr := 0) (np := 9) (as := [x_r 75, x_b (ia1 + 1)]) (rest := []) (lo1 := [x_r 75, x_b (ia1 + 1), 147573952589676412928, 147573952589676412928]) (by decide +kernel) (by decide) (by decide +kernel) (x_rb_of (by decide +kernel)) rfl rfl (x_wr (by decide) (x_wB hia1 x_wn)) x_wn (by decide) rfl (c170_75_S0 j5  hia1 m20) (fun v17 l18 q19 => ?_)
  obtain ⟨b23, c21, c22⟩ := q19
  have b24 := iv_tl_ge ia1 hia1
  refine x_retI (np := 10) (x := 0) (by decide +kernel) l18 (Or.inr ⟨by decide +kernel, by first | decide | omega, by first | decide | omega⟩) ⟨_, rfl, l18, ?_⟩
  exact ⟨j5, f13, (by first | decide | omega), (by first | decide | omega), (fun z => by first | decide | omega), (nd9 c11 c12 c22 hia1 (by first | decide | omega))⟩
set_option maxHeartbeats 0 in
/-- LentNamesModel.passes(Ljava/lang/String;)Z -/
theorem c171_75_S0 {sc : Nat × Nat} {d ia1 : Nat} {h : xh} {tB : Nat → Nat} {tN : Nat} (hJ : J h) (hia1 : ia1 < 32) (hT : Tq tB tN h) : X sc 171 (d + 5) (xI fun r h' => J h' ∧ Fr 5242881 h h' ∧ (2147483648 ≤ r ∧ r ≤ 2147483649) ∧ (h 75 7 + 0 ≤ h' 75 7) ∧ (r = 2147483649 → h 75 7 + 2 ≤ h' 75 7) ∧ Tk (Wd tB tN ia1 (sk tB tN (h 75 7))) tB tN (sk tB tN (h 75 7)) (iv_tl ia1) r (sk tB tN (h' 75 7))) 0 0 0 [x_r 75, x_b (ia1 + 1)] [] h := by
  have hF := Fr.refl 5242881 h
  refine x_aload (np := 1) (x := 0) (by decide +kernel) rfl (x_nc_le (by decide)) ?_
  refine x_cV (t := 6) (mj := 169) (n := 1) (rc := 12) (ml := 1) (nr := 0) (np := 4) (as := [x_r 75]) (rest := []) (lo1 := [x_r 75]) (by decide +kernel) (by decide) (by decide +kernel) (x_rb_of (by decide +kernel)) rfl rfl (x_wr (by decide) x_wn) x_wn (by decide) rfl (c169_75 hJ  hT) (fun h4 q3 => ?_)
  obtain ⟨j5, f6, c9, c10, c11, c12⟩ := q3
  have f13 := Fr.trans hF f6 (by decide)
  have b14 := jB (e := 7) 0 hJ rg_75_7_0_1 (by first | decide | omega) (by first | decide | omega)
  have b15 := jB (e := 9) 0 j5 rg_75_9_0_1 (by first | decide | omega) (by first | decide | omega)
  have b16 := jB (e := 7) 0 j5 rg_75_7_0_1 (by first | decide | omega) (by first | decide | omega)
  refine x_aload (np := 5) (x := 0) (by decide +kernel) rfl (x_nc_le (by decide)) ?_
  refine x_aloadB (i := ia1) (k4 := 1) rfl hia1 (by rw [tb_b171]; decide +kernel) ?_
  have m20 := Tq.fr hT f6 (by decide) (by decide)
  refine x_cP (t := 6) (mj := 170) (n := 2) (rc := 12) (ml := 4) (nr := 0) (np := 9) (as := [x_r 75, x_b (ia1 + 1)]) (rest := []) (lo1 := [x_r 75, x_b (ia1 + 1), 147573952589676412928, 147573952589676412928]) (by decide +kernel) (by decide) (by decide +kernel) (x_rb_of (by decide +kernel)) rfl rfl (x_wr (by decide) (x_wB hia1 x_wn)) x_wn (by decide) rfl (c170_75_S0 j5  hia1 m20) (fun v17 l18 q19 => ?_)
  obtain ⟨b23, c21, c22⟩ := q19
  have b24 := iv_tl_ge ia1 hia1
  refine x_ifz (k := 0) (tg := 14) (np := 12) (by decide +kernel) (by decide) l18 (fun q25 => ?_) (fun q26 => ?_)
  · have q25 : v17 = 2147483648 := q25
    refine x_aload (np := 15) (x := 0) (by decide +kernel) rfl (x_nc_le (by decide)) ?_
    refine x_aload (np := 16) (x := 0) (by decide +kernel) rfl (x_nc_le (by decide)) ?_
    refine x_getC (np := 19) (x := 713) (f := 9) (q := (h4 75 9)) (by decide +kernel) (by decide) (by decide +kernel) rfl (fun l27 => ?_)
    refine x_putI (np := 22) (x := 711) (f := 7) (by decide +kernel) (by decide +kernel) l27 (Or.inl (by decide)) ?_
    have j29 := jU (e := 7) (v := (h4 75 9)) 0 j5 rg_75_7_0_1 (by first | decide | omega) (by first | decide | omega) (by first | decide | omega)
    have f31 := jF (e := 7) (v := (h4 75 9)) 0 f13 rg_75_7_0_1 (by first | decide | omega) (by first | decide | omega) (by decide)
    generalize e30 : x_up h4 75 7 (h4 75 9) = h28 at j29 f31 ⊢
    refine x_const (np := 23) (x := 9223372039002259456) (a := 2147483648) (by decide +kernel) (by decide) (by decide) ?_
    have q32 : h28 75 7 = (h4 75 9) := by rw [← e30]; exact x_up_at
    have q33 : h28 75 7 = (h4 75 9) := by rw [← e30]; exact x_up_at
    have q34 : h28 75 7 = (h4 75 9) := by rw [← e30]; exact x_up_at
    refine x_retI (np := 24) (x := 0) (by decide +kernel) (by decide) (Or.inr ⟨by decide +kernel, by first | decide | omega, by first | decide | omega⟩) ⟨_, rfl, (by decide), ?_⟩
    exact ⟨j29, f31, (by first | decide | omega), (by first | decide | omega), (fun z => by first | decide | omega), (ps0 c11 c12 c22 (by first | decide | omega) hia1 (by first | decide | omega) (by first | decide | omega))⟩
  have q26 : ¬ (v17 = 2147483648) := q26
  have b35 := c21 (by first | decide | omega)
  refine x_const (np := 13) (x := 9223372043297226753) (a := 2147483649) (by decide +kernel) (by decide) (by decide) ?_
  refine x_retI (np := 14) (x := 0) (by decide +kernel) (by decide) (Or.inr ⟨by decide +kernel, by first | decide | omega, by first | decide | omega⟩) ⟨_, rfl, (by decide), ?_⟩
  exact ⟨j5, f13, (by first | decide | omega), (by first | decide | omega), (fun z => by first | decide | omega), (ps1 c11 c12 c22 (by first | decide | omega) hia1 (by first | decide | omega))⟩
set_option maxHeartbeats 0 in
/-- LentNamesModel.readSeen()Z -/
theorem c185_75 {sc : Nat × Nat} {d  : Nat} {h : xh} {tB : Nat → Nat} {tN : Nat} (hJ : J h) (hC : Cl h) (hT : Tq tB tN h) : X sc 185 (d + 6) (xI fun r h' => J h' ∧ Fr 9223372037128454145 h h' ∧ (2147483648 ≤ r ∧ r ≤ 2147483649) ∧ (r = 2147483649 → h' 78 0 = h 78 0) ∧ (r = 2147483649 → h' 78 1 = h 78 1) ∧ (r = 2147483649 → h' 78 2 = h 78 2) ∧ (r = 2147483649 → h' 78 3 = h 78 3) ∧ (r = 2147483649 → h' 78 4 = h 78 4) ∧ (r = 2147483649 → h' 78 5 = h 78 5 + 1) ∧ (r = 2147483649 → Cl h') ∧ ((h 78 5 = 2147483658 ∧ r = 2147483648) ∨ (h 78 5 ≠ 2147483658 ∧ seen9 tB tN (h 76 0) (sk tB tN (h 75 7)) (rs r (sk tB tN (h' 75 7))))) ∧ (r = 2147483649 → Sx tB tN (h 76 0) (h 78 5) (sk tB tN (h 75 7)) (ab (adr h) (bdr h)) (ab (adr h') (bdr h')))) 0 0 0 [x_r 75, 147573952589676412928, 147573952589676412928, 147573952589676412928] [] h := by
  have hF := Fr.refl 9223372037128454145 h
  refine x_aload (np := 1) (x := 0) (by decide +kernel) rfl (x_nc_le (by decide)) ?_
  have q1 : h 75 3 = 78 := by have z := jB (e := 3) 0 hJ rg_75_3_0_1 (by decide) (by decide); omega
  refine x_getR (np := 4) (x := 707) (f := 3) (q := 78) (by decide +kernel) (by decide) (by decide +kernel) q1 ?_
  refine x_const (np := 5) (x := 9223372060477095941) (a := 2147483653) (by decide +kernel) (by decide) (by decide) ?_
  have b2 := jB (e := 5) 0 hJ rg_78_5_0_1 (by first | decide | omega) (by first | decide | omega)
  refine x_aldC (np := 6) (x := 0) (n := 290) (i := 5) (q := (h 78 5)) (by decide +kernel) (by decide +kernel) (by first | decide | omega) (by first | decide | omega) (by decide) rfl (fun l3 => ?_)
  refine x_const (np := 8) (x := 9223372081951932426) (a := 2147483658) (by decide +kernel) (by decide) (by decide) ?_
  refine x_icmp (k := 1) (tg := 13) (np := 11) (by decide +kernel) (by decide) l3 (by decide) (fun q4 => ?_) (fun q5 => ?_)
  · have q4 : (h 78 5) ≠ 2147483658 := q4
    refine x_const (np := 16) (x := 9223373112744083706) (a := 2147483898) (by decide +kernel) (by decide) (by decide) ?_
    refine x_const (np := 17) (x := 9223372056182128644) (a := 2147483652) (by decide +kernel) (by decide) (by decide) ?_
    refine x_aload (np := 18) (x := 0) (by decide +kernel) rfl (x_nc_le (by decide)) ?_
    have q6 : h 75 3 = 78 := by have z := jB (e := 3) 0 hJ rg_75_3_0_1 (by decide) (by decide); omega
    refine x_getR (np := 21) (x := 707) (f := 3) (q := 78) (by decide +kernel) (by decide) (by decide +kernel) q6 ?_
    refine x_const (np := 22) (x := 9223372060477095941) (a := 2147483653) (by decide +kernel) (by decide) (by decide) ?_
    refine x_aldC (np := 23) (x := 0) (n := 290) (i := 5) (q := (h 78 5)) (by decide +kernel) (by decide +kernel) (by first | decide | omega) (by first | decide | omega) (by decide) rfl (fun l7 => ?_)
    obtain ⟨u8, q9⟩ : ∃ z, (h 78 5) = 2147483648 + z := ⟨(h 78 5) - 2147483648, by first | decide | omega⟩
    refine x_imul (np := 24) (x := 0) (i := 4) (j := u8) (v := (2147483648 + 4 * u8)) (by decide +kernel) (by first | decide | omega) (by first | decide | omega) (by first | decide | omega) (by first | decide | omega) (by decide) l3 ?_
    refine x_iadd (np := 25) (x := 0) (v := (2147483898 + 4 * u8)) (by decide +kernel) (by decide) (by first | decide | omega) (by first | decide | omega) (by first | decide | omega) ?_
    refine x_istore (np := 26) (x := 1) (lo' := [x_r 75, iv_c (2147483898 + 4 * u8), 147573952589676412928, 147573952589676412928]) (by decide +kernel) (by first | decide | omega) (Nat.le_of_ble_eq_true rfl) rfl ?_
    refine x_aload (np := 27) (x := 0) (by decide +kernel) rfl (x_nc_le (by decide)) ?_
    refine x_iload (np := 28) (x := 1) (by decide +kernel) rfl (by first | decide | omega) ?_
    refine x_nI (t := 6) (mj := 177) (n := 2) (rc := 12) (ml := 2) (nr := 0) (np := 31) (as := [x_r 75, iv_c (2147483898 + 4 * u8)]) (rest := []) (lo1 := [x_r 75, iv_c (2147483898 + 4 * u8)]) (by decide +kernel) (by decide) (by decide +kernel) (x_rb_of (by decide +kernel)) rfl rfl (x_wr (by decide) (x_wi (by first | decide | omega) x_wn)) x_wn (by decide) rfl ?_
    refine x_aload (np := 1) (x := 0) (by decide +kernel) rfl (x_nc_le (by decide)) ?_
    refine x_iload (np := 2) (x := 1) (by decide +kernel) rfl (by first | decide | omega) ?_
    refine x_aload (np := 3) (x := 0) (by decide +kernel) rfl (x_nc_le (by decide)) ?_
    refine x_const (np := 4) (x := 9223372039002259456) (a := 2147483648) (by decide +kernel) (by decide) (by decide) ?_
    refine x_aload (np := 5) (x := 0) (by decide +kernel) rfl (x_nc_le (by decide)) ?_
    refine x_nI (t := 6) (mj := 157) (n := 1) (rc := 12) (ml := 1) (nr := 4) (np := 8) (as := [x_r 75]) (rest := [iv_c 2147483648, x_r 75, iv_c (2147483898 + 4 * u8), x_r 75]) (lo1 := [x_r 75]) (by decide +kernel) (by decide) (by decide +kernel) (x_rb_of (by decide +kernel)) rfl rfl (x_wr (by decide) x_wn) (x_wi (by decide) (x_wr (by decide) (x_wi (by first | decide | omega) (x_wr (by decide) x_wn)))) (by decide) rfl ?_
    refine x_aload (np := 1) (x := 0) (by decide +kernel) rfl (x_nc_le (by decide)) ?_
    have q11 : h 75 1 = 76 := by have z := jB (e := 1) 0 hJ rg_75_1_0_1 (by decide) (by decide); omega
    refine x_getR (np := 4) (x := 705) (f := 1) (q := 76) (by decide +kernel) (by decide) (by decide +kernel) q11 ?_
    refine x_const (np := 5) (x := 9223372039002259456) (a := 2147483648) (by decide +kernel) (by decide) (by decide) ?_
    have b12 := jB (e := 0) 0 hJ rg_76_0_0_1 (by first | decide | omega) (by first | decide | omega)
    refine x_aldC (np := 6) (x := 0) (n := 1952) (i := 0) (q := (h 76 0)) (by decide +kernel) (by decide +kernel) (by first | decide | omega) (by first | decide | omega) (by decide) rfl (fun l13 => ?_)
    refine x_retI (np := 7) (x := 0) (by decide +kernel) l13 (Or.inl (by decide +kernel)) ⟨_, rfl, l13, ?_⟩
    refine x_const (np := 9) (x := 9223372043297226753) (a := 2147483649) (by decide +kernel) (by decide) (by decide) ?_
    obtain ⟨v14, q15⟩ : ∃ z, z + 2147483649 = (h 76 0) + 2147483648 := ⟨(h 76 0) + 2147483648 - 2147483649, by first | decide | omega⟩
    refine x_isub (np := 10) (x := 0) (v := v14) (by decide +kernel) l13 (by decide) (by first | decide | omega) (by first | decide | omega) ?_
    refine x_cI (t := 6) (mj := 174) (n := 3) (rc := 12) (ml := 4) (nr := 2) (np := 13) (as := [x_r 75, iv_c 2147483648, iv_c v14]) (rest := [iv_c (2147483898 + 4 * u8), x_r 75]) (lo1 := [x_r 75, iv_c 2147483648, iv_c v14, 147573952589676412928]) (by decide +kernel) (by decide) (by decide +kernel) (x_rb_of (by decide +kernel)) rfl rfl (x_wr (by decide) (x_wi (by decide) (x_wi (by first | decide | omega) x_wn))) (x_wi (by first | decide | omega) (x_wr (by decide) x_wn)) (by decide) rfl (c174_75 hJ  (by first | decide | omega) (by first | decide | omega) hT) (fun v16 h19 l17 q18 => ?_)
    obtain ⟨j20, f21, b22, c23, c24, c25, c26, c27, c28⟩ := q18
    have f29 := Fr.trans hF f21 (by decide)
    have b30 := jB (e := 7) 0 hJ rg_75_7_0_1 (by first | decide | omega) (by first | decide | omega)
    have b31 := jB (e := 7) 0 j20 rg_75_7_0_1 (by first | decide | omega) (by first | decide | omega)
    have b32 := c27 (by first | decide | omega)
    refine x_nI (t := 6) (mj := 176) (n := 3) (rc := 12) (ml := 3) (nr := 0) (np := 16) (as := [x_r 75, iv_c (2147483898 + 4 * u8), iv_c v16]) (rest := []) (lo1 := [x_r 75, iv_c (2147483898 + 4 * u8), iv_c v16]) (by decide +kernel) (by decide) (by decide +kernel) (x_rb_of (by decide +kernel)) rfl rfl (x_wr (by decide) (x_wi (by first | decide | omega) (x_wi l17 x_wn))) x_wn (by decide) rfl ?_
    refine x_aload (np := 1) (x := 0) (by decide +kernel) rfl (x_nc_le (by decide)) ?_
    have q33 : h19 75 3 = 78 := by have z := jB (e := 3) 0 j20 rg_75_3_0_1 (by decide) (by decide); omega
    refine x_getR (np := 4) (x := 707) (f := 3) (q := 78) (by decide +kernel) (by decide) (by decide +kernel) q33 ?_
    refine x_iload (np := 5) (x := 1) (by decide +kernel) rfl (by first | decide | omega) ?_
    refine x_iload (np := 6) (x := 2) (by decide +kernel) rfl l17 ?_
    refine x_ast (np := 7) (x := 0) (kd := 1) (n := 290) (i := (250 + 4 * u8)) (by decide +kernel) (Or.inl rfl) (by decide +kernel) (by first | decide | omega) (by first | decide | omega) (by decide) l17 (fun z => absurd z (by decide)) ?_
    have j35 := jU (e := (250 + 4 * u8)) (v := v16) u8 j20 rg_78_250_4_10 (by first | decide | omega) (by first | decide | omega) (by first | decide | omega)
    have f37 := jF (e := (250 + 4 * u8)) (v := v16) u8 f29 rg_78_250_4_10 (by first | decide | omega) (by first | decide | omega) (by decide)
    generalize e36 : x_up h19 78 (250 + 4 * u8) v16 = h34 at j35 f37 ⊢
    refine x_iload (np := 8) (x := 2) (by decide +kernel) rfl l17 ?_
    refine x_ifz (k := 2) (tg := 15) (np := 11) (by decide +kernel) (by decide) l17 (fun q38 => ?_) (fun q39 => ?_)
    · have q38 : v16 < 2147483648 := q38
      refine x_const (np := 16) (x := 9223372039002259456) (a := 2147483648) (by decide +kernel) (by decide) (by decide) ?_
      refine x_retI (np := 17) (x := 0) (by decide +kernel) (by decide) (Or.inr ⟨by decide +kernel, by first | decide | omega, by first | decide | omega⟩) ⟨_, rfl, (by decide), ?_⟩
      refine x_retI (np := 17) (x := 0) (by decide +kernel) (by decide) (Or.inr ⟨by decide +kernel, by first | decide | omega, by first | decide | omega⟩) ⟨_, rfl, (by decide), ?_⟩
      refine x_ifz (k := 0) (tg := 63) (np := 34) (by decide +kernel) (by decide) (by decide) (fun q40 => ?_) (fun q41 => ?_)
      · have q40 : 2147483648 = 2147483648 := q40
        refine x_const (np := 64) (x := 9223372039002259456) (a := 2147483648) (by decide +kernel) (by decide) (by decide) ?_
        have b42 := jB (e := 0) 0 hJ rg_78_0_0_1 (by first | decide | omega) (by first | decide | omega)
        have q43 : h34 78 0 = h19 78 0 := by rw [← e36]; exact x_up_i (by first | decide | omega)
        have q44 : h19 78 0 = h 78 0 := jK 0 f21 rg_78_0_0_1 (by first | decide | omega) (by first | decide | omega) (by decide)
        have q45 : h34 78 1 = h19 78 1 := by rw [← e36]; exact x_up_i (by first | decide | omega)
        have q46 : h19 78 1 = h 78 1 := jK 0 f21 rg_78_1_0_1 (by first | decide | omega) (by first | decide | omega) (by decide)
        have b47 := jB (e := 2) 0 hJ rg_78_2_0_1 (by first | decide | omega) (by first | decide | omega)
        have q48 : h34 78 2 = h19 78 2 := by rw [← e36]; exact x_up_i (by first | decide | omega)
        have q49 : h19 78 2 = h 78 2 := jK 0 f21 rg_78_2_0_1 (by first | decide | omega) (by first | decide | omega) (by decide)
        have b50 := jB (e := 3) 0 hJ rg_78_3_0_1 (by first | decide | omega) (by first | decide | omega)
        have q51 : h34 78 3 = h19 78 3 := by rw [← e36]; exact x_up_i (by first | decide | omega)
        have q52 : h19 78 3 = h 78 3 := jK 0 f21 rg_78_3_0_1 (by first | decide | omega) (by first | decide | omega) (by decide)
        have b53 := jB (e := 4) 0 hJ rg_78_4_0_1 (by first | decide | omega) (by first | decide | omega)
        have q54 : h34 78 4 = h19 78 4 := by rw [← e36]; exact x_up_i (by first | decide | omega)
        have q55 : h19 78 4 = h 78 4 := jK 0 f21 rg_78_4_0_1 (by first | decide | omega) (by first | decide | omega) (by decide)
        have q56 : h34 78 5 = h19 78 5 := by rw [← e36]; exact x_up_i (by first | decide | omega)
        have q57 : h19 78 5 = h 78 5 := jK 0 f21 rg_78_5_0_1 (by first | decide | omega) (by first | decide | omega) (by decide)
        refine x_retI (np := 65) (x := 0) (by decide +kernel) (by decide) (Or.inr ⟨by decide +kernel, by first | decide | omega, by first | decide | omega⟩) ⟨_, rfl, (by decide), ?_⟩
        exact ⟨j35, f37, (by first | decide | omega), (fun z => by first | decide | omega), (fun z => by first | decide | omega), (fun z => by first | decide | omega), (fun z => by first | decide | omega), (fun z => by first | decide | omega), (fun z => by first | decide | omega), (fun z => absurd z (by first | decide | omega)), (Or.inr ⟨by first | decide | omega, (nm9.f c28 (by first | decide | omega) (by first | decide | omega) rfl (by first | decide | omega) (by first | decide | omega))⟩), (fun z => absurd z (by first | decide | omega))⟩
      have q41 : ¬ (2147483648 = 2147483648) := q41
      exfalso; omega
    have q39 : ¬ (v16 < 2147483648) := q39
    have b58 := c24 (by first | decide | omega)
    have b59 := c25 (by first | decide | omega)
    have b60 := c26 (by first | decide | omega)
    refine x_const (np := 12) (x := 9223372043297226753) (a := 2147483649) (by decide +kernel) (by decide) (by decide) ?_
    refine x_goto (np := 15) (x := 16) (by decide +kernel) ?_
    refine x_retI (np := 17) (x := 0) (by decide +kernel) (by decide) (Or.inr ⟨by decide +kernel, by first | decide | omega, by first | decide | omega⟩) ⟨_, rfl, (by decide), ?_⟩
    refine x_retI (np := 17) (x := 0) (by decide +kernel) (by decide) (Or.inr ⟨by decide +kernel, by first | decide | omega, by first | decide | omega⟩) ⟨_, rfl, (by decide), ?_⟩
    refine x_ifz (k := 0) (tg := 63) (np := 34) (by decide +kernel) (by decide) (by decide) (fun q61 => ?_) (fun q62 => ?_)
    · have q61 : 2147483649 = 2147483648 := q61
      exfalso; omega
    have q62 : ¬ (2147483649 = 2147483648) := q62
    refine x_aload (np := 35) (x := 0) (by decide +kernel) rfl (x_nc_le (by decide)) ?_
    refine x_ldcB (i := 2) (idx := 147) (tx := "day") (by rw [tb_y185]; exact List.mem_of_getElem? (i := 37) rfl) (by decide) (by rw [tb_b185]; decide +kernel) ?_
    have m67 := Tq.fr hT f21 (by decide) (by decide)
    have m66 : Tq tB tN h34 := by rw [← e36]; exact Tq.oth m67 (by decide) (fun z => absurd z.1 (by decide))
    refine x_cI (t := 6) (mj := 172) (n := 2) (rc := 12) (ml := 2) (nr := 0) (np := 40) (as := [x_r 75, x_b (2 + 1)]) (rest := []) (lo1 := [x_r 75, x_b (2 + 1)]) (by decide +kernel) (by decide) (by decide +kernel) (x_rb_of (by decide +kernel)) rfl rfl (x_wr (by decide) (x_wB (by decide) x_wn)) x_wn (by decide) rfl (c172_75_S0 j35  (by decide) m66) (fun v63 h68 l64 q65 => ?_)
    obtain ⟨j69, f70, b71, c72, c73, c74⟩ := q65
    have f75 := Fr.trans f37 f70 (by decide)
    have q76 : h34 75 7 = h19 75 7 := by rw [← e36]; exact x_up_k (by decide)
    have b77 := jB (e := 7) 0 j69 rg_75_7_0_1 (by first | decide | omega) (by first | decide | omega)
    have q78 : h34 75 7 = h19 75 7 := by rw [← e36]; exact x_up_k (by decide)
    refine x_ifz (k := 0) (tg := 63) (np := 43) (by decide +kernel) (by decide) l64 (fun q79 => ?_) (fun q80 => ?_)
    · have q79 : v63 = 2147483648 := q79
      refine x_const (np := 64) (x := 9223372039002259456) (a := 2147483648) (by decide +kernel) (by decide) (by decide) ?_
      have b81 := jB (e := 0) 0 hJ rg_78_0_0_1 (by first | decide | omega) (by first | decide | omega)
      have q82 : h68 78 0 = h34 78 0 := jK 0 f70 rg_78_0_0_1 (by first | decide | omega) (by first | decide | omega) (by decide)
      have q83 : h34 78 0 = h19 78 0 := by rw [← e36]; exact x_up_i (by first | decide | omega)
      have q84 : h19 78 0 = h 78 0 := jK 0 f21 rg_78_0_0_1 (by first | decide | omega) (by first | decide | omega) (by decide)
      have q85 : h68 78 1 = h34 78 1 := jK 0 f70 rg_78_1_0_1 (by first | decide | omega) (by first | decide | omega) (by decide)
      have q86 : h34 78 1 = h19 78 1 := by rw [← e36]; exact x_up_i (by first | decide | omega)
      have q87 : h19 78 1 = h 78 1 := jK 0 f21 rg_78_1_0_1 (by first | decide | omega) (by first | decide | omega) (by decide)
      have b88 := jB (e := 2) 0 hJ rg_78_2_0_1 (by first | decide | omega) (by first | decide | omega)
      have q89 : h68 78 2 = h34 78 2 := jK 0 f70 rg_78_2_0_1 (by first | decide | omega) (by first | decide | omega) (by decide)
      have q90 : h34 78 2 = h19 78 2 := by rw [← e36]; exact x_up_i (by first | decide | omega)
      have q91 : h19 78 2 = h 78 2 := jK 0 f21 rg_78_2_0_1 (by first | decide | omega) (by first | decide | omega) (by decide)
      have b92 := jB (e := 3) 0 hJ rg_78_3_0_1 (by first | decide | omega) (by first | decide | omega)
      have q93 : h68 78 3 = h34 78 3 := jK 0 f70 rg_78_3_0_1 (by first | decide | omega) (by first | decide | omega) (by decide)
      have q94 : h34 78 3 = h19 78 3 := by rw [← e36]; exact x_up_i (by first | decide | omega)
      have q95 : h19 78 3 = h 78 3 := jK 0 f21 rg_78_3_0_1 (by first | decide | omega) (by first | decide | omega) (by decide)
      have b96 := jB (e := 4) 0 hJ rg_78_4_0_1 (by first | decide | omega) (by first | decide | omega)
      have q97 : h68 78 4 = h34 78 4 := jK 0 f70 rg_78_4_0_1 (by first | decide | omega) (by first | decide | omega) (by decide)
      have q98 : h34 78 4 = h19 78 4 := by rw [← e36]; exact x_up_i (by first | decide | omega)
      have q99 : h19 78 4 = h 78 4 := jK 0 f21 rg_78_4_0_1 (by first | decide | omega) (by first | decide | omega) (by decide)
      have q100 : h68 78 5 = h34 78 5 := jK 0 f70 rg_78_5_0_1 (by first | decide | omega) (by first | decide | omega) (by decide)
      have q101 : h34 78 5 = h19 78 5 := by rw [← e36]; exact x_up_i (by first | decide | omega)
      have q102 : h19 78 5 = h 78 5 := jK 0 f21 rg_78_5_0_1 (by first | decide | omega) (by first | decide | omega) (by decide)
      have q103 : h34 75 7 = h19 75 7 := by rw [← e36]; exact x_up_k (by decide)
      refine x_retI (np := 65) (x := 0) (by decide +kernel) (by decide) (Or.inr ⟨by decide +kernel, by first | decide | omega, by first | decide | omega⟩) ⟨_, rfl, (by decide), ?_⟩
      exact ⟨j69, f75, (by first | decide | omega), (fun z => by first | decide | omega), (fun z => by first | decide | omega), (fun z => by first | decide | omega), (fun z => by first | decide | omega), (fun z => by first | decide | omega), (fun z => by first | decide | omega), (fun z => absurd z (by first | decide | omega)), (Or.inr ⟨by first | decide | omega, (nm9.y c28 (by first | decide | omega) (by first | decide | omega) rfl (by first | decide | omega) rfl (wd9.f (Tw.no c74 (by first | decide | omega)) (congrArg (sk tB tN) (show h34 75 7 = h19 75 7 by first | decide | omega)) (by first | decide | omega)))⟩), (fun z => absurd z (by first | decide | omega))⟩
    have q80 : ¬ (v63 = 2147483648) := q80
    have b104 := c73 (by first | decide | omega)
    refine x_aload (np := 44) (x := 0) (by decide +kernel) rfl (x_nc_le (by decide)) ?_
    refine x_iload (np := 45) (x := 1) (by decide +kernel) rfl (by first | decide | omega) ?_
    refine x_const (np := 46) (x := 9223372043297226753) (a := 2147483649) (by decide +kernel) (by decide) (by decide) ?_
    refine x_iadd (np := 47) (x := 0) (v := (2147483899 + 4 * u8)) (by decide +kernel) (by first | decide | omega) (by decide) (by first | decide | omega) (by first | decide | omega) ?_
    refine x_const (np := 48) (x := 9223372039002259456) (a := 2147483648) (by decide +kernel) (by decide) (by decide) ?_
    refine x_nI (t := 6) (mj := 178) (n := 3) (rc := 12) (ml := 3) (nr := 0) (np := 51) (as := [x_r 75, iv_c (2147483899 + 4 * u8), iv_c 2147483648]) (rest := []) (lo1 := [x_r 75, iv_c (2147483899 + 4 * u8), iv_c 2147483648]) (by decide +kernel) (by decide) (by decide +kernel) (x_rb_of (by decide +kernel)) rfl rfl (x_wr (by decide) (x_wi (by first | decide | omega) (x_wi (by decide) x_wn))) x_wn (by decide) rfl ?_
    refine x_aload (np := 1) (x := 0) (by decide +kernel) rfl (x_nc_le (by decide)) ?_
    refine x_iload (np := 2) (x := 1) (by decide +kernel) rfl (by first | decide | omega) ?_
    refine x_aload (np := 3) (x := 0) (by decide +kernel) rfl (x_nc_le (by decide)) ?_
    refine x_iload (np := 4) (x := 2) (by decide +kernel) rfl (by decide) ?_
    refine x_const (np := 6) (x := 9223372086246899723) (a := 2147483659) (by decide +kernel) (by decide) (by decide) ?_
    have m108 := Tq.fr m66 f70 (by decide) (by decide)
    refine x_cI (t := 6) (mj := 174) (n := 3) (rc := 12) (ml := 4) (nr := 2) (np := 9) (as := [x_r 75, iv_c 2147483648, iv_c 2147483659]) (rest := [iv_c (2147483899 + 4 * u8), x_r 75]) (lo1 := [x_r 75, iv_c 2147483648, iv_c 2147483659, 147573952589676412928]) (by decide +kernel) (by decide) (by decide +kernel) (x_rb_of (by decide +kernel)) rfl rfl (x_wr (by decide) (x_wi (by decide) (x_wi (by decide) x_wn))) (x_wi (by first | decide | omega) (x_wr (by decide) x_wn)) (by decide) rfl (c174_75 j69  (by first | decide | omega) (by first | decide | omega) m108) (fun v105 h109 l106 q107 => ?_)
    obtain ⟨j110, f111, b112, c113, c114, c115, c116, c117, c118⟩ := q107
    have f119 := Fr.trans f75 f111 (by decide)
    have b120 := jB (e := 7) 0 j110 rg_75_7_0_1 (by first | decide | omega) (by first | decide | omega)
    have b121 := c117 (by first | decide | omega)
    refine x_nI (t := 6) (mj := 176) (n := 3) (rc := 12) (ml := 3) (nr := 0) (np := 12) (as := [x_r 75, iv_c (2147483899 + 4 * u8), iv_c v105]) (rest := []) (lo1 := [x_r 75, iv_c (2147483899 + 4 * u8), iv_c v105]) (by decide +kernel) (by decide) (by decide +kernel) (x_rb_of (by decide +kernel)) rfl rfl (x_wr (by decide) (x_wi (by first | decide | omega) (x_wi l106 x_wn))) x_wn (by decide) rfl ?_
    refine x_aload (np := 1) (x := 0) (by decide +kernel) rfl (x_nc_le (by decide)) ?_
    have q122 : h109 75 3 = 78 := by have z := jB (e := 3) 0 j110 rg_75_3_0_1 (by decide) (by decide); omega
    refine x_getR (np := 4) (x := 707) (f := 3) (q := 78) (by decide +kernel) (by decide) (by decide +kernel) q122 ?_
    refine x_iload (np := 5) (x := 1) (by decide +kernel) rfl (by first | decide | omega) ?_
    refine x_iload (np := 6) (x := 2) (by decide +kernel) rfl l106 ?_
    refine x_ast (np := 7) (x := 0) (kd := 1) (n := 290) (i := (251 + 4 * u8)) (by decide +kernel) (Or.inl rfl) (by decide +kernel) (by first | decide | omega) (by first | decide | omega) (by decide) l106 (fun z => absurd z (by decide)) ?_
    have j124 := jU (e := (251 + 4 * u8)) (v := v105) u8 j110 rg_78_251_4_10 (by first | decide | omega) (by first | decide | omega) (by first | decide | omega)
    have f126 := jF (e := (251 + 4 * u8)) (v := v105) u8 f119 rg_78_251_4_10 (by first | decide | omega) (by first | decide | omega) (by decide)
    generalize e125 : x_up h109 78 (251 + 4 * u8) v105 = h123 at j124 f126 ⊢
    refine x_iload (np := 8) (x := 2) (by decide +kernel) rfl l106 ?_
    refine x_ifz (k := 2) (tg := 15) (np := 11) (by decide +kernel) (by decide) l106 (fun q127 => ?_) (fun q128 => ?_)
    · have q127 : v105 < 2147483648 := q127
      refine x_const (np := 16) (x := 9223372039002259456) (a := 2147483648) (by decide +kernel) (by decide) (by decide) ?_
      refine x_retI (np := 17) (x := 0) (by decide +kernel) (by decide) (Or.inr ⟨by decide +kernel, by first | decide | omega, by first | decide | omega⟩) ⟨_, rfl, (by decide), ?_⟩
      refine x_retI (np := 13) (x := 0) (by decide +kernel) (by decide) (Or.inr ⟨by decide +kernel, by first | decide | omega, by first | decide | omega⟩) ⟨_, rfl, (by decide), ?_⟩
      refine x_ifz (k := 0) (tg := 63) (np := 54) (by decide +kernel) (by decide) (by decide) (fun q129 => ?_) (fun q130 => ?_)
      · have q129 : 2147483648 = 2147483648 := q129
        refine x_const (np := 64) (x := 9223372039002259456) (a := 2147483648) (by decide +kernel) (by decide) (by decide) ?_
        have b131 := jB (e := 0) 0 hJ rg_78_0_0_1 (by first | decide | omega) (by first | decide | omega)
        have q132 : h123 78 0 = h109 78 0 := by rw [← e125]; exact x_up_i (by first | decide | omega)
        have q133 : h109 78 0 = h68 78 0 := jK 0 f111 rg_78_0_0_1 (by first | decide | omega) (by first | decide | omega) (by decide)
        have q134 : h68 78 0 = h34 78 0 := jK 0 f70 rg_78_0_0_1 (by first | decide | omega) (by first | decide | omega) (by decide)
        have q135 : h34 78 0 = h19 78 0 := by rw [← e36]; exact x_up_i (by first | decide | omega)
        have q136 : h19 78 0 = h 78 0 := jK 0 f21 rg_78_0_0_1 (by first | decide | omega) (by first | decide | omega) (by decide)
        have q137 : h123 78 1 = h109 78 1 := by rw [← e125]; exact x_up_i (by first | decide | omega)
        have q138 : h109 78 1 = h68 78 1 := jK 0 f111 rg_78_1_0_1 (by first | decide | omega) (by first | decide | omega) (by decide)
        have q139 : h68 78 1 = h34 78 1 := jK 0 f70 rg_78_1_0_1 (by first | decide | omega) (by first | decide | omega) (by decide)
        have q140 : h34 78 1 = h19 78 1 := by rw [← e36]; exact x_up_i (by first | decide | omega)
        have q141 : h19 78 1 = h 78 1 := jK 0 f21 rg_78_1_0_1 (by first | decide | omega) (by first | decide | omega) (by decide)
        have b142 := jB (e := 2) 0 hJ rg_78_2_0_1 (by first | decide | omega) (by first | decide | omega)
        have q143 : h123 78 2 = h109 78 2 := by rw [← e125]; exact x_up_i (by first | decide | omega)
        have q144 : h109 78 2 = h68 78 2 := jK 0 f111 rg_78_2_0_1 (by first | decide | omega) (by first | decide | omega) (by decide)
        have q145 : h68 78 2 = h34 78 2 := jK 0 f70 rg_78_2_0_1 (by first | decide | omega) (by first | decide | omega) (by decide)
        have q146 : h34 78 2 = h19 78 2 := by rw [← e36]; exact x_up_i (by first | decide | omega)
        have q147 : h19 78 2 = h 78 2 := jK 0 f21 rg_78_2_0_1 (by first | decide | omega) (by first | decide | omega) (by decide)
        have b148 := jB (e := 3) 0 hJ rg_78_3_0_1 (by first | decide | omega) (by first | decide | omega)
        have q149 : h123 78 3 = h109 78 3 := by rw [← e125]; exact x_up_i (by first | decide | omega)
        have q150 : h109 78 3 = h68 78 3 := jK 0 f111 rg_78_3_0_1 (by first | decide | omega) (by first | decide | omega) (by decide)
        have q151 : h68 78 3 = h34 78 3 := jK 0 f70 rg_78_3_0_1 (by first | decide | omega) (by first | decide | omega) (by decide)
        have q152 : h34 78 3 = h19 78 3 := by rw [← e36]; exact x_up_i (by first | decide | omega)
        have q153 : h19 78 3 = h 78 3 := jK 0 f21 rg_78_3_0_1 (by first | decide | omega) (by first | decide | omega) (by decide)
        have b154 := jB (e := 4) 0 hJ rg_78_4_0_1 (by first | decide | omega) (by first | decide | omega)
        have q155 : h123 78 4 = h109 78 4 := by rw [← e125]; exact x_up_i (by first | decide | omega)
        have q156 : h109 78 4 = h68 78 4 := jK 0 f111 rg_78_4_0_1 (by first | decide | omega) (by first | decide | omega) (by decide)
        have q157 : h68 78 4 = h34 78 4 := jK 0 f70 rg_78_4_0_1 (by first | decide | omega) (by first | decide | omega) (by decide)
        have q158 : h34 78 4 = h19 78 4 := by rw [← e36]; exact x_up_i (by first | decide | omega)
        have q159 : h19 78 4 = h 78 4 := jK 0 f21 rg_78_4_0_1 (by first | decide | omega) (by first | decide | omega) (by decide)
        have q160 : h123 78 5 = h109 78 5 := by rw [← e125]; exact x_up_i (by first | decide | omega)
        have q161 : h109 78 5 = h68 78 5 := jK 0 f111 rg_78_5_0_1 (by first | decide | omega) (by first | decide | omega) (by decide)
        have q162 : h68 78 5 = h34 78 5 := jK 0 f70 rg_78_5_0_1 (by first | decide | omega) (by first | decide | omega) (by decide)
        have q163 : h34 78 5 = h19 78 5 := by rw [← e36]; exact x_up_i (by first | decide | omega)
        have q164 : h19 78 5 = h 78 5 := jK 0 f21 rg_78_5_0_1 (by first | decide | omega) (by first | decide | omega) (by decide)
        have q165 : h34 75 7 = h19 75 7 := by rw [← e36]; exact x_up_k (by decide)
        obtain ⟨w166, e167⟩ := Tw.yes c74 (by first | decide | omega)
        refine x_retI (np := 65) (x := 0) (by decide +kernel) (by decide) (Or.inr ⟨by decide +kernel, by first | decide | omega, by first | decide | omega⟩) ⟨_, rfl, (by decide), ?_⟩
        exact ⟨j124, f126, (by first | decide | omega), (fun z => by first | decide | omega), (fun z => by first | decide | omega), (fun z => by first | decide | omega), (fun z => by first | decide | omega), (fun z => by first | decide | omega), (fun z => by first | decide | omega), (fun z => absurd z (by first | decide | omega)), (Or.inr ⟨by first | decide | omega, (nm9.y c28 (by first | decide | omega) (by first | decide | omega) rfl (by first | decide | omega) rfl (wd9.y w166 (congrArg (sk tB tN) (show h34 75 7 = h19 75 7 by first | decide | omega)) e167 rfl (nm9.f c118 (by first | decide | omega) (by first | decide | omega) rfl (by first | decide | omega) (by first | decide | omega))))⟩), (fun z => absurd z (by first | decide | omega))⟩
      have q130 : ¬ (2147483648 = 2147483648) := q130
      exfalso; omega
    have q128 : ¬ (v105 < 2147483648) := q128
    have b168 := c114 (by first | decide | omega)
    have b169 := c115 (by first | decide | omega)
    have b170 := c116 (by first | decide | omega)
    refine x_const (np := 12) (x := 9223372043297226753) (a := 2147483649) (by decide +kernel) (by decide) (by decide) ?_
    refine x_goto (np := 15) (x := 16) (by decide +kernel) ?_
    refine x_retI (np := 17) (x := 0) (by decide +kernel) (by decide) (Or.inr ⟨by decide +kernel, by first | decide | omega, by first | decide | omega⟩) ⟨_, rfl, (by decide), ?_⟩
    refine x_retI (np := 13) (x := 0) (by decide +kernel) (by decide) (Or.inr ⟨by decide +kernel, by first | decide | omega, by first | decide | omega⟩) ⟨_, rfl, (by decide), ?_⟩
    refine x_ifz (k := 0) (tg := 63) (np := 54) (by decide +kernel) (by decide) (by decide) (fun q171 => ?_) (fun q172 => ?_)
    · have q171 : 2147483649 = 2147483648 := q171
      exfalso; omega
    have q172 : ¬ (2147483649 = 2147483648) := q172
    refine x_aload (np := 55) (x := 0) (by decide +kernel) rfl (x_nc_le (by decide)) ?_
    refine x_ldcB (i := 14) (idx := 177) (tx := "as") (by rw [tb_y185]; exact List.mem_of_getElem? (i := 53) rfl) (by decide) (by rw [tb_b185]; decide +kernel) ?_
    have m177 := Tq.fr m108 f111 (by decide) (by decide)
    have m176 : Tq tB tN h123 := by rw [← e125]; exact Tq.oth m177 (by decide) (fun z => absurd z.1 (by decide))
    refine x_cI (t := 6) (mj := 172) (n := 2) (rc := 12) (ml := 2) (nr := 0) (np := 60) (as := [x_r 75, x_b (14 + 1)]) (rest := []) (lo1 := [x_r 75, x_b (14 + 1)]) (by decide +kernel) (by decide) (by decide +kernel) (x_rb_of (by decide +kernel)) rfl rfl (x_wr (by decide) (x_wB (by decide) x_wn)) x_wn (by decide) rfl (c172_75_S0 j124  (by decide) m176) (fun v173 h178 l174 q175 => ?_)
    obtain ⟨j179, f180, b181, c182, c183, c184⟩ := q175
    have f185 := Fr.trans f126 f180 (by decide)
    have q186 : h123 75 7 = h109 75 7 := by rw [← e125]; exact x_up_k (by decide)
    have b187 := jB (e := 7) 0 j179 rg_75_7_0_1 (by first | decide | omega) (by first | decide | omega)
    have q188 : h123 75 7 = h109 75 7 := by rw [← e125]; exact x_up_k (by decide)
    refine x_ifz (k := 1) (tg := 65) (np := 63) (by decide +kernel) (by decide) l174 (fun q189 => ?_) (fun q190 => ?_)
    · have q189 : v173 ≠ 2147483648 := q189
      have b191 := c183 (by first | decide | omega)
      refine x_aload (np := 66) (x := 0) (by decide +kernel) rfl (x_nc_le (by decide)) ?_
      have q192 : h178 75 3 = 78 := by have z := jB (e := 3) 0 j179 rg_75_3_0_1 (by decide) (by decide); omega
      refine x_getR (np := 69) (x := 707) (f := 3) (q := 78) (by decide +kernel) (by decide) (by decide +kernel) q192 ?_
      refine x_iload (np := 70) (x := 1) (by decide +kernel) rfl (by first | decide | omega) ?_
      refine x_const (np := 71) (x := 9223372047592194050) (a := 2147483650) (by decide +kernel) (by decide) (by decide) ?_
      refine x_iadd (np := 72) (x := 0) (v := (2147483900 + 4 * u8)) (by decide +kernel) (by first | decide | omega) (by decide) (by first | decide | omega) (by first | decide | omega) ?_
      refine x_const (np := 73) (x := 9223372039002259456) (a := 2147483648) (by decide +kernel) (by decide) (by decide) ?_
      refine x_ast (np := 74) (x := 0) (kd := 1) (n := 290) (i := (252 + 4 * u8)) (by decide +kernel) (Or.inl rfl) (by decide +kernel) (by first | decide | omega) (by first | decide | omega) (by decide) (by decide) (fun z => absurd z (by decide)) ?_
      have j194 := jU (e := (252 + 4 * u8)) (v := 2147483648) u8 j179 rg_78_252_4_10 (by first | decide | omega) (by first | decide | omega) (by first | decide | omega)
      have f196 := jF (e := (252 + 4 * u8)) (v := 2147483648) u8 f185 rg_78_252_4_10 (by first | decide | omega) (by first | decide | omega) (by decide)
      generalize e195 : x_up h178 78 (252 + 4 * u8) 2147483648 = h193 at j194 f196 ⊢
      refine x_const (np := 75) (x := 9223372043297226753) (a := 2147483649) (by decide +kernel) (by decide) (by decide) ?_
      refine x_istore (np := 76) (x := 2) (lo' := [x_r 75, iv_c (2147483898 + 4 * u8), iv_c 2147483649, 147573952589676412928]) (by decide +kernel) (by decide) (Nat.le_of_ble_eq_true rfl) rfl ?_
      have p350 : ∀ (n : Nat) (v344 : Nat) (w346 : Nat) (h347 : xh), 4294967296 - h347 75 7 < n → (2147483648 ≤ v344 ∧ v344 ≤ 2147483649) → h347 78 5 = h 78 5 → h347 78 0 = h 78 0 → h347 78 1 = h 78 1 → h347 78 2 = h 78 2 → h347 78 3 = h 78 3 → h347 78 4 = h 78 4 → J h347 → Fr 9223372036860018689 h193 h347 → Cl h347 → (v344 = 2147483649 → Bq tB tN (h 76 0 - 1) (sk tB tN (h347 75 7)) (sk tB tN (h178 75 7))) ∧ (v344 = 2147483648 → Bl tB tN (h 76 0 - 1) (sk tB tN (h178 75 7)) (some (sk tB tN (h347 75 7)))) → h347 78 (251 + 4 * u8) = v105 → (v344 = 2147483649 → Bw tB tN (h 76 0 - 1) (sk tB tN (h347 75 7)) (h347 78 (252 + 4 * u8)) (sk tB tN (h178 75 7)) 2147483648) ∧ (v344 = 2147483648 → Bv tB tN (h 76 0 - 1) (sk tB tN (h178 75 7)) 2147483648 (sk tB tN (h347 75 7)) (h347 78 (252 + 4 * u8))) → (∀ u, u < 10 → adr h347 u = adr h178 u) → (∀ u, u < 10 → u ≠ u8 → bdr h347 u = bdr h178 u) → X sc 185 (d + 6) (xI fun r h' => J h' ∧ Fr 9223372037128454145 h h' ∧ (2147483648 ≤ r ∧ r ≤ 2147483649) ∧ (r = 2147483649 → h' 78 0 = h 78 0) ∧ (r = 2147483649 → h' 78 1 = h 78 1) ∧ (r = 2147483649 → h' 78 2 = h 78 2) ∧ (r = 2147483649 → h' 78 3 = h 78 3) ∧ (r = 2147483649 → h' 78 4 = h 78 4) ∧ (r = 2147483649 → h' 78 5 = h 78 5 + 1) ∧ (r = 2147483649 → Cl h') ∧ ((h 78 5 = 2147483658 ∧ r = 2147483648) ∨ (h 78 5 ≠ 2147483658 ∧ seen9 tB tN (h 76 0) (sk tB tN (h 75 7)) (rs r (sk tB tN (h' 75 7))))) ∧ (r = 2147483649 → Sx tB tN (h 76 0) (h 78 5) (sk tB tN (h 75 7)) (ab (adr h) (bdr h)) (ab (adr h') (bdr h')))) 0 0 76 [x_r 75, iv_c (2147483898 + 4 * u8), iv_c v344, w346] [] h347 := by
        intro n
        induction n with
        | zero => intro v344 w346 h347 q363; exact absurd q363 (Nat.not_lt_zero _)
        | succ n i364 =>
          intro v344 w346 h347 q363 b345 b351 b352 b353 b354 b355 b356 j349 f348 m362 m357 m358 m359 m360 m361
          have f365 := Fr.trans f196 f348 (by decide)
          have b366 := jB (e := 7) 0 j349 rg_75_7_0_1 (by first | decide | omega) (by first | decide | omega)
          refine x_iload (np := 77) (x := 2) (by decide +kernel) rfl (by first | decide | omega) ?_
          refine x_ifz (k := 0) (tg := 122) (np := 80) (by decide +kernel) (by decide) (by first | decide | omega) (fun q367 => ?_) (fun q368 => ?_)
          · have q367 : v344 = 2147483648 := q367
            refine x_aload (np := 123) (x := 0) (by decide +kernel) rfl (x_nc_le (by decide)) ?_
            refine x_ldcB (i := 16) (idx := 181) (tx := "known") (by rw [tb_y185]; exact List.mem_of_getElem? (i := 55) rfl) (by decide) (by rw [tb_b185]; decide +kernel) ?_
            have m374 := Tq.fr m176 f180 (by decide) (by decide)
            have m373 : Tq tB tN h193 := by rw [← e195]; exact Tq.oth m374 (by decide) (fun z => absurd z.1 (by decide))
            have m372 := Tq.fr m373 f348 (by decide) (by decide)
            refine x_cI (t := 6) (mj := 172) (n := 2) (rc := 12) (ml := 2) (nr := 0) (np := 128) (as := [x_r 75, x_b (16 + 1)]) (rest := []) (lo1 := [x_r 75, x_b (16 + 1)]) (by decide +kernel) (by decide) (by decide +kernel) (x_rb_of (by decide +kernel)) rfl rfl (x_wr (by decide) (x_wB (by decide) x_wn)) x_wn (by decide) rfl (c172_75_S0 j349  (by decide) m372) (fun v369 h375 l370 q371 => ?_)
            obtain ⟨j376, f377, b378, c379, c380, c381⟩ := q371
            have f382 := Fr.trans f365 f377 (by decide)
            have b383 := jB (e := 7) 0 j376 rg_75_7_0_1 (by first | decide | omega) (by first | decide | omega)
            refine x_ifz (k := 0) (tg := 149) (np := 131) (by decide +kernel) (by decide) l370 (fun q384 => ?_) (fun q385 => ?_)
            · have q384 : v369 = 2147483648 := q384
              refine x_const (np := 150) (x := 9223372039002259456) (a := 2147483648) (by decide +kernel) (by decide) (by decide) ?_
              have b386 := jB (e := 0) 0 hJ rg_78_0_0_1 (by first | decide | omega) (by first | decide | omega)
              have q387 : h375 78 0 = h347 78 0 := jK 0 f377 rg_78_0_0_1 (by first | decide | omega) (by first | decide | omega) (by decide)
              have q388 : h347 78 0 = h193 78 0 := jK 0 f348 rg_78_0_0_1 (by first | decide | omega) (by first | decide | omega) (by decide)
              have q389 : h193 78 0 = h178 78 0 := by rw [← e195]; exact x_up_i (by first | decide | omega)
              have q390 : h178 78 0 = h123 78 0 := jK 0 f180 rg_78_0_0_1 (by first | decide | omega) (by first | decide | omega) (by decide)
              have q391 : h123 78 0 = h109 78 0 := by rw [← e125]; exact x_up_i (by first | decide | omega)
              have q392 : h109 78 0 = h68 78 0 := jK 0 f111 rg_78_0_0_1 (by first | decide | omega) (by first | decide | omega) (by decide)
              have q393 : h68 78 0 = h34 78 0 := jK 0 f70 rg_78_0_0_1 (by first | decide | omega) (by first | decide | omega) (by decide)
              have q394 : h34 78 0 = h19 78 0 := by rw [← e36]; exact x_up_i (by first | decide | omega)
              have q395 : h19 78 0 = h 78 0 := jK 0 f21 rg_78_0_0_1 (by first | decide | omega) (by first | decide | omega) (by decide)
              have q396 : h375 78 1 = h347 78 1 := jK 0 f377 rg_78_1_0_1 (by first | decide | omega) (by first | decide | omega) (by decide)
              have q397 : h347 78 1 = h193 78 1 := jK 0 f348 rg_78_1_0_1 (by first | decide | omega) (by first | decide | omega) (by decide)
              have q398 : h193 78 1 = h178 78 1 := by rw [← e195]; exact x_up_i (by first | decide | omega)
              have q399 : h178 78 1 = h123 78 1 := jK 0 f180 rg_78_1_0_1 (by first | decide | omega) (by first | decide | omega) (by decide)
              have q400 : h123 78 1 = h109 78 1 := by rw [← e125]; exact x_up_i (by first | decide | omega)
              have q401 : h109 78 1 = h68 78 1 := jK 0 f111 rg_78_1_0_1 (by first | decide | omega) (by first | decide | omega) (by decide)
              have q402 : h68 78 1 = h34 78 1 := jK 0 f70 rg_78_1_0_1 (by first | decide | omega) (by first | decide | omega) (by decide)
              have q403 : h34 78 1 = h19 78 1 := by rw [← e36]; exact x_up_i (by first | decide | omega)
              have q404 : h19 78 1 = h 78 1 := jK 0 f21 rg_78_1_0_1 (by first | decide | omega) (by first | decide | omega) (by decide)
              have b405 := jB (e := 2) 0 hJ rg_78_2_0_1 (by first | decide | omega) (by first | decide | omega)
              have q406 : h375 78 2 = h347 78 2 := jK 0 f377 rg_78_2_0_1 (by first | decide | omega) (by first | decide | omega) (by decide)
              have q407 : h347 78 2 = h193 78 2 := jK 0 f348 rg_78_2_0_1 (by first | decide | omega) (by first | decide | omega) (by decide)
              have q408 : h193 78 2 = h178 78 2 := by rw [← e195]; exact x_up_i (by first | decide | omega)
              have q409 : h178 78 2 = h123 78 2 := jK 0 f180 rg_78_2_0_1 (by first | decide | omega) (by first | decide | omega) (by decide)
              have q410 : h123 78 2 = h109 78 2 := by rw [← e125]; exact x_up_i (by first | decide | omega)
              have q411 : h109 78 2 = h68 78 2 := jK 0 f111 rg_78_2_0_1 (by first | decide | omega) (by first | decide | omega) (by decide)
              have q412 : h68 78 2 = h34 78 2 := jK 0 f70 rg_78_2_0_1 (by first | decide | omega) (by first | decide | omega) (by decide)
              have q413 : h34 78 2 = h19 78 2 := by rw [← e36]; exact x_up_i (by first | decide | omega)
              have q414 : h19 78 2 = h 78 2 := jK 0 f21 rg_78_2_0_1 (by first | decide | omega) (by first | decide | omega) (by decide)
              have b415 := jB (e := 3) 0 hJ rg_78_3_0_1 (by first | decide | omega) (by first | decide | omega)
              have q416 : h375 78 3 = h347 78 3 := jK 0 f377 rg_78_3_0_1 (by first | decide | omega) (by first | decide | omega) (by decide)
              have q417 : h347 78 3 = h193 78 3 := jK 0 f348 rg_78_3_0_1 (by first | decide | omega) (by first | decide | omega) (by decide)
              have q418 : h193 78 3 = h178 78 3 := by rw [← e195]; exact x_up_i (by first | decide | omega)
              have q419 : h178 78 3 = h123 78 3 := jK 0 f180 rg_78_3_0_1 (by first | decide | omega) (by first | decide | omega) (by decide)
              have q420 : h123 78 3 = h109 78 3 := by rw [← e125]; exact x_up_i (by first | decide | omega)
              have q421 : h109 78 3 = h68 78 3 := jK 0 f111 rg_78_3_0_1 (by first | decide | omega) (by first | decide | omega) (by decide)
              have q422 : h68 78 3 = h34 78 3 := jK 0 f70 rg_78_3_0_1 (by first | decide | omega) (by first | decide | omega) (by decide)
              have q423 : h34 78 3 = h19 78 3 := by rw [← e36]; exact x_up_i (by first | decide | omega)
              have q424 : h19 78 3 = h 78 3 := jK 0 f21 rg_78_3_0_1 (by first | decide | omega) (by first | decide | omega) (by decide)
              have b425 := jB (e := 4) 0 hJ rg_78_4_0_1 (by first | decide | omega) (by first | decide | omega)
              have q426 : h375 78 4 = h347 78 4 := jK 0 f377 rg_78_4_0_1 (by first | decide | omega) (by first | decide | omega) (by decide)
              have q427 : h347 78 4 = h193 78 4 := jK 0 f348 rg_78_4_0_1 (by first | decide | omega) (by first | decide | omega) (by decide)
              have q428 : h193 78 4 = h178 78 4 := by rw [← e195]; exact x_up_i (by first | decide | omega)
              have q429 : h178 78 4 = h123 78 4 := jK 0 f180 rg_78_4_0_1 (by first | decide | omega) (by first | decide | omega) (by decide)
              have q430 : h123 78 4 = h109 78 4 := by rw [← e125]; exact x_up_i (by first | decide | omega)
              have q431 : h109 78 4 = h68 78 4 := jK 0 f111 rg_78_4_0_1 (by first | decide | omega) (by first | decide | omega) (by decide)
              have q432 : h68 78 4 = h34 78 4 := jK 0 f70 rg_78_4_0_1 (by first | decide | omega) (by first | decide | omega) (by decide)
              have q433 : h34 78 4 = h19 78 4 := by rw [← e36]; exact x_up_i (by first | decide | omega)
              have q434 : h19 78 4 = h 78 4 := jK 0 f21 rg_78_4_0_1 (by first | decide | omega) (by first | decide | omega) (by decide)
              have q435 : h375 78 5 = h347 78 5 := jK 0 f377 rg_78_5_0_1 (by first | decide | omega) (by first | decide | omega) (by decide)
              have q436 : h347 78 5 = h193 78 5 := jK 0 f348 rg_78_5_0_1 (by first | decide | omega) (by first | decide | omega) (by decide)
              have q437 : h193 78 5 = h178 78 5 := by rw [← e195]; exact x_up_i (by first | decide | omega)
              have q438 : h178 78 5 = h123 78 5 := jK 0 f180 rg_78_5_0_1 (by first | decide | omega) (by first | decide | omega) (by decide)
              have q439 : h123 78 5 = h109 78 5 := by rw [← e125]; exact x_up_i (by first | decide | omega)
              have q440 : h109 78 5 = h68 78 5 := jK 0 f111 rg_78_5_0_1 (by first | decide | omega) (by first | decide | omega) (by decide)
              have q441 : h68 78 5 = h34 78 5 := jK 0 f70 rg_78_5_0_1 (by first | decide | omega) (by first | decide | omega) (by decide)
              have q442 : h34 78 5 = h19 78 5 := by rw [← e36]; exact x_up_i (by first | decide | omega)
              have q443 : h19 78 5 = h 78 5 := jK 0 f21 rg_78_5_0_1 (by first | decide | omega) (by first | decide | omega) (by decide)
              have y444 : Bl tB tN (h 76 0 - 1) (sk tB tN (h178 75 7)) (rs 2147483649 (sk tB tN (h347 75 7))) := by rw [rs1 rfl]; exact m357.2 (by first | decide | omega)
              have q445 : h34 75 7 = h19 75 7 := by rw [← e36]; exact x_up_k (by decide)
              obtain ⟨w446, e447⟩ := Tw.yes c74 (by first | decide | omega)
              have q448 : h123 75 7 = h109 75 7 := by rw [← e125]; exact x_up_k (by decide)
              obtain ⟨w449, e450⟩ := Tw.yes c184 (by first | decide | omega)
              refine x_retI (np := 151) (x := 0) (by decide +kernel) (by decide) (Or.inr ⟨by decide +kernel, by first | decide | omega, by first | decide | omega⟩) ⟨_, rfl, (by decide), ?_⟩
              exact ⟨j376, f382, (by first | decide | omega), (fun z => by first | decide | omega), (fun z => by first | decide | omega), (fun z => by first | decide | omega), (fun z => by first | decide | omega), (fun z => by first | decide | omega), (fun z => by first | decide | omega), (fun z => absurd z (by first | decide | omega)), (Or.inr ⟨by first | decide | omega, (nm9.y c28 (by first | decide | omega) (by first | decide | omega) rfl (by first | decide | omega) rfl (wd9.y w446 (congrArg (sk tB tN) (show h34 75 7 = h19 75 7 by first | decide | omega)) e447 rfl (nm9.y c118 (by first | decide | omega) (by first | decide | omega) rfl (by first | decide | omega) rfl (wd9.y w449 (congrArg (sk tB tN) (show h123 75 7 = h109 75 7 by first | decide | omega)) e450 rfl (bl9.y y444 rfl rfl rfl rfl (wd9.f (Tw.no c381 (by first | decide | omega)) rfl (by first | decide | omega)))))))⟩), (fun z => absurd z (by first | decide | omega))⟩
            have q385 : ¬ (v369 = 2147483648) := q385
            have b451 := c380 (by first | decide | omega)
            refine x_aload (np := 132) (x := 0) (by decide +kernel) rfl (x_nc_le (by decide)) ?_
            refine x_iload (np := 133) (x := 1) (by decide +kernel) rfl (by first | decide | omega) ?_
            refine x_const (np := 134) (x := 9223372051887161347) (a := 2147483651) (by decide +kernel) (by decide) (by decide) ?_
            refine x_iadd (np := 135) (x := 0) (v := (2147483901 + 4 * u8)) (by decide +kernel) (by first | decide | omega) (by decide) (by first | decide | omega) (by first | decide | omega) ?_
            refine x_aload (np := 136) (x := 0) (by decide +kernel) rfl (x_nc_le (by decide)) ?_
            have q452 : h375 75 3 = 78 := by have z := jB (e := 3) 0 j376 rg_75_3_0_1 (by decide) (by decide); omega
            refine x_getR (np := 139) (x := 707) (f := 3) (q := 78) (by decide +kernel) (by decide) (by decide +kernel) q452 ?_
            refine x_iload (np := 140) (x := 1) (by decide +kernel) rfl (by first | decide | omega) ?_
            refine x_const (np := 141) (x := 9223372043297226753) (a := 2147483649) (by decide +kernel) (by decide) (by decide) ?_
            refine x_iadd (np := 142) (x := 0) (v := (2147483899 + 4 * u8)) (by decide +kernel) (by first | decide | omega) (by decide) (by first | decide | omega) (by first | decide | omega) ?_
            have q453 : h375 78 (251 + 4 * u8) = h347 78 (251 + 4 * u8) := jK u8 f377 rg_78_251_4_10 (by first | decide | omega) (by first | decide | omega) (by decide)
            refine x_aldC (np := 143) (x := 0) (n := 290) (i := (251 + 4 * u8)) (q := ((h347 78 (251 + 4 * u8)))) (by decide +kernel) (by decide +kernel) (by first | decide | omega) (by first | decide | omega) (by decide) q453 (fun l454 => ?_)
            refine x_nI (t := 6) (mj := 178) (n := 3) (rc := 12) (ml := 3) (nr := 0) (np := 146) (as := [x_r 75, iv_c (2147483901 + 4 * u8), iv_c ((h347 78 (251 + 4 * u8)))]) (rest := []) (lo1 := [x_r 75, iv_c (2147483901 + 4 * u8), iv_c ((h347 78 (251 + 4 * u8)))]) (by decide +kernel) (by decide) (by decide +kernel) (x_rb_of (by decide +kernel)) rfl rfl (x_wr (by decide) (x_wi (by first | decide | omega) (x_wi l454 x_wn))) x_wn (by decide) rfl ?_
            refine x_aload (np := 1) (x := 0) (by decide +kernel) rfl (x_nc_le (by decide)) ?_
            refine x_iload (np := 2) (x := 1) (by decide +kernel) rfl (by first | decide | omega) ?_
            refine x_aload (np := 3) (x := 0) (by decide +kernel) rfl (x_nc_le (by decide)) ?_
            refine x_iload (np := 4) (x := 2) (by decide +kernel) rfl l454 ?_
            refine x_const (np := 6) (x := 9223372086246899723) (a := 2147483659) (by decide +kernel) (by decide) (by decide) ?_
            have m458 := Tq.fr m372 f377 (by decide) (by decide)
            refine x_cI (t := 6) (mj := 174) (n := 3) (rc := 12) (ml := 4) (nr := 2) (np := 9) (as := [x_r 75, iv_c ((h347 78 (251 + 4 * u8))), iv_c 2147483659]) (rest := [iv_c (2147483901 + 4 * u8), x_r 75]) (lo1 := [x_r 75, iv_c ((h347 78 (251 + 4 * u8))), iv_c 2147483659, 147573952589676412928]) (by decide +kernel) (by decide) (by decide +kernel) (x_rb_of (by decide +kernel)) rfl rfl (x_wr (by decide) (x_wi l454 (x_wi (by decide) x_wn))) (x_wi (by first | decide | omega) (x_wr (by decide) x_wn)) (by decide) rfl (c174_75 j376  (by first | decide | omega) (by first | decide | omega) m458) (fun v455 h459 l456 q457 => ?_)
            obtain ⟨j460, f461, b462, c463, c464, c465, c466, c467, c468⟩ := q457
            have f469 := Fr.trans f382 f461 (by decide)
            have b470 := jB (e := 7) 0 j460 rg_75_7_0_1 (by first | decide | omega) (by first | decide | omega)
            have b471 := c467 (by first | decide | omega)
            refine x_nI (t := 6) (mj := 176) (n := 3) (rc := 12) (ml := 3) (nr := 0) (np := 12) (as := [x_r 75, iv_c (2147483901 + 4 * u8), iv_c v455]) (rest := []) (lo1 := [x_r 75, iv_c (2147483901 + 4 * u8), iv_c v455]) (by decide +kernel) (by decide) (by decide +kernel) (x_rb_of (by decide +kernel)) rfl rfl (x_wr (by decide) (x_wi (by first | decide | omega) (x_wi l456 x_wn))) x_wn (by decide) rfl ?_
            refine x_aload (np := 1) (x := 0) (by decide +kernel) rfl (x_nc_le (by decide)) ?_
            have q472 : h459 75 3 = 78 := by have z := jB (e := 3) 0 j460 rg_75_3_0_1 (by decide) (by decide); omega
            refine x_getR (np := 4) (x := 707) (f := 3) (q := 78) (by decide +kernel) (by decide) (by decide +kernel) q472 ?_
            refine x_iload (np := 5) (x := 1) (by decide +kernel) rfl (by first | decide | omega) ?_
            refine x_iload (np := 6) (x := 2) (by decide +kernel) rfl l456 ?_
            refine x_ast (np := 7) (x := 0) (kd := 1) (n := 290) (i := (253 + 4 * u8)) (by decide +kernel) (Or.inl rfl) (by decide +kernel) (by first | decide | omega) (by first | decide | omega) (by decide) l456 (fun z => absurd z (by decide)) ?_
            have j474 := jU (e := (253 + 4 * u8)) (v := v455) u8 j460 rg_78_253_4_10 (by first | decide | omega) (by first | decide | omega) (by first | decide | omega)
            have f476 := jF (e := (253 + 4 * u8)) (v := v455) u8 f469 rg_78_253_4_10 (by first | decide | omega) (by first | decide | omega) (by decide)
            generalize e475 : x_up h459 78 (253 + 4 * u8) v455 = h473 at j474 f476 ⊢
            refine x_iload (np := 8) (x := 2) (by decide +kernel) rfl l456 ?_
            refine x_ifz (k := 2) (tg := 15) (np := 11) (by decide +kernel) (by decide) l456 (fun q477 => ?_) (fun q478 => ?_)
            · have q477 : v455 < 2147483648 := q477
              refine x_const (np := 16) (x := 9223372039002259456) (a := 2147483648) (by decide +kernel) (by decide) (by decide) ?_
              refine x_retI (np := 17) (x := 0) (by decide +kernel) (by decide) (Or.inr ⟨by decide +kernel, by first | decide | omega, by first | decide | omega⟩) ⟨_, rfl, (by decide), ?_⟩
              refine x_retI (np := 13) (x := 0) (by decide +kernel) (by decide) (Or.inr ⟨by decide +kernel, by first | decide | omega, by first | decide | omega⟩) ⟨_, rfl, (by decide), ?_⟩
              refine x_ifz (k := 1) (tg := 151) (np := 149) (by decide +kernel) (by decide) (by decide) (fun q479 => ?_) (fun q480 => ?_)
              · have q479 : 2147483648 ≠ 2147483648 := q479
                exfalso; omega
              have q480 : ¬ (2147483648 ≠ 2147483648) := q480
              refine x_const (np := 150) (x := 9223372039002259456) (a := 2147483648) (by decide +kernel) (by decide) (by decide) ?_
              have b481 := jB (e := 0) 0 hJ rg_78_0_0_1 (by first | decide | omega) (by first | decide | omega)
              have q482 : h473 78 0 = h459 78 0 := by rw [← e475]; exact x_up_i (by first | decide | omega)
              have q483 : h459 78 0 = h375 78 0 := jK 0 f461 rg_78_0_0_1 (by first | decide | omega) (by first | decide | omega) (by decide)
              have q484 : h375 78 0 = h347 78 0 := jK 0 f377 rg_78_0_0_1 (by first | decide | omega) (by first | decide | omega) (by decide)
              have q485 : h347 78 0 = h193 78 0 := jK 0 f348 rg_78_0_0_1 (by first | decide | omega) (by first | decide | omega) (by decide)
              have q486 : h193 78 0 = h178 78 0 := by rw [← e195]; exact x_up_i (by first | decide | omega)
              have q487 : h178 78 0 = h123 78 0 := jK 0 f180 rg_78_0_0_1 (by first | decide | omega) (by first | decide | omega) (by decide)
              have q488 : h123 78 0 = h109 78 0 := by rw [← e125]; exact x_up_i (by first | decide | omega)
              have q489 : h109 78 0 = h68 78 0 := jK 0 f111 rg_78_0_0_1 (by first | decide | omega) (by first | decide | omega) (by decide)
              have q490 : h68 78 0 = h34 78 0 := jK 0 f70 rg_78_0_0_1 (by first | decide | omega) (by first | decide | omega) (by decide)
              have q491 : h34 78 0 = h19 78 0 := by rw [← e36]; exact x_up_i (by first | decide | omega)
              have q492 : h19 78 0 = h 78 0 := jK 0 f21 rg_78_0_0_1 (by first | decide | omega) (by first | decide | omega) (by decide)
              have q493 : h473 78 1 = h459 78 1 := by rw [← e475]; exact x_up_i (by first | decide | omega)
              have q494 : h459 78 1 = h375 78 1 := jK 0 f461 rg_78_1_0_1 (by first | decide | omega) (by first | decide | omega) (by decide)
              have q495 : h375 78 1 = h347 78 1 := jK 0 f377 rg_78_1_0_1 (by first | decide | omega) (by first | decide | omega) (by decide)
              have q496 : h347 78 1 = h193 78 1 := jK 0 f348 rg_78_1_0_1 (by first | decide | omega) (by first | decide | omega) (by decide)
              have q497 : h193 78 1 = h178 78 1 := by rw [← e195]; exact x_up_i (by first | decide | omega)
              have q498 : h178 78 1 = h123 78 1 := jK 0 f180 rg_78_1_0_1 (by first | decide | omega) (by first | decide | omega) (by decide)
              have q499 : h123 78 1 = h109 78 1 := by rw [← e125]; exact x_up_i (by first | decide | omega)
              have q500 : h109 78 1 = h68 78 1 := jK 0 f111 rg_78_1_0_1 (by first | decide | omega) (by first | decide | omega) (by decide)
              have q501 : h68 78 1 = h34 78 1 := jK 0 f70 rg_78_1_0_1 (by first | decide | omega) (by first | decide | omega) (by decide)
              have q502 : h34 78 1 = h19 78 1 := by rw [← e36]; exact x_up_i (by first | decide | omega)
              have q503 : h19 78 1 = h 78 1 := jK 0 f21 rg_78_1_0_1 (by first | decide | omega) (by first | decide | omega) (by decide)
              have b504 := jB (e := 2) 0 hJ rg_78_2_0_1 (by first | decide | omega) (by first | decide | omega)
              have q505 : h473 78 2 = h459 78 2 := by rw [← e475]; exact x_up_i (by first | decide | omega)
              have q506 : h459 78 2 = h375 78 2 := jK 0 f461 rg_78_2_0_1 (by first | decide | omega) (by first | decide | omega) (by decide)
              have q507 : h375 78 2 = h347 78 2 := jK 0 f377 rg_78_2_0_1 (by first | decide | omega) (by first | decide | omega) (by decide)
              have q508 : h347 78 2 = h193 78 2 := jK 0 f348 rg_78_2_0_1 (by first | decide | omega) (by first | decide | omega) (by decide)
              have q509 : h193 78 2 = h178 78 2 := by rw [← e195]; exact x_up_i (by first | decide | omega)
              have q510 : h178 78 2 = h123 78 2 := jK 0 f180 rg_78_2_0_1 (by first | decide | omega) (by first | decide | omega) (by decide)
              have q511 : h123 78 2 = h109 78 2 := by rw [← e125]; exact x_up_i (by first | decide | omega)
              have q512 : h109 78 2 = h68 78 2 := jK 0 f111 rg_78_2_0_1 (by first | decide | omega) (by first | decide | omega) (by decide)
              have q513 : h68 78 2 = h34 78 2 := jK 0 f70 rg_78_2_0_1 (by first | decide | omega) (by first | decide | omega) (by decide)
              have q514 : h34 78 2 = h19 78 2 := by rw [← e36]; exact x_up_i (by first | decide | omega)
              have q515 : h19 78 2 = h 78 2 := jK 0 f21 rg_78_2_0_1 (by first | decide | omega) (by first | decide | omega) (by decide)
              have b516 := jB (e := 3) 0 hJ rg_78_3_0_1 (by first | decide | omega) (by first | decide | omega)
              have q517 : h473 78 3 = h459 78 3 := by rw [← e475]; exact x_up_i (by first | decide | omega)
              have q518 : h459 78 3 = h375 78 3 := jK 0 f461 rg_78_3_0_1 (by first | decide | omega) (by first | decide | omega) (by decide)
              have q519 : h375 78 3 = h347 78 3 := jK 0 f377 rg_78_3_0_1 (by first | decide | omega) (by first | decide | omega) (by decide)
              have q520 : h347 78 3 = h193 78 3 := jK 0 f348 rg_78_3_0_1 (by first | decide | omega) (by first | decide | omega) (by decide)
              have q521 : h193 78 3 = h178 78 3 := by rw [← e195]; exact x_up_i (by first | decide | omega)
              have q522 : h178 78 3 = h123 78 3 := jK 0 f180 rg_78_3_0_1 (by first | decide | omega) (by first | decide | omega) (by decide)
              have q523 : h123 78 3 = h109 78 3 := by rw [← e125]; exact x_up_i (by first | decide | omega)
              have q524 : h109 78 3 = h68 78 3 := jK 0 f111 rg_78_3_0_1 (by first | decide | omega) (by first | decide | omega) (by decide)
              have q525 : h68 78 3 = h34 78 3 := jK 0 f70 rg_78_3_0_1 (by first | decide | omega) (by first | decide | omega) (by decide)
              have q526 : h34 78 3 = h19 78 3 := by rw [← e36]; exact x_up_i (by first | decide | omega)
              have q527 : h19 78 3 = h 78 3 := jK 0 f21 rg_78_3_0_1 (by first | decide | omega) (by first | decide | omega) (by decide)
              have b528 := jB (e := 4) 0 hJ rg_78_4_0_1 (by first | decide | omega) (by first | decide | omega)
              have q529 : h473 78 4 = h459 78 4 := by rw [← e475]; exact x_up_i (by first | decide | omega)
              have q530 : h459 78 4 = h375 78 4 := jK 0 f461 rg_78_4_0_1 (by first | decide | omega) (by first | decide | omega) (by decide)
              have q531 : h375 78 4 = h347 78 4 := jK 0 f377 rg_78_4_0_1 (by first | decide | omega) (by first | decide | omega) (by decide)
              have q532 : h347 78 4 = h193 78 4 := jK 0 f348 rg_78_4_0_1 (by first | decide | omega) (by first | decide | omega) (by decide)
              have q533 : h193 78 4 = h178 78 4 := by rw [← e195]; exact x_up_i (by first | decide | omega)
              have q534 : h178 78 4 = h123 78 4 := jK 0 f180 rg_78_4_0_1 (by first | decide | omega) (by first | decide | omega) (by decide)
              have q535 : h123 78 4 = h109 78 4 := by rw [← e125]; exact x_up_i (by first | decide | omega)
              have q536 : h109 78 4 = h68 78 4 := jK 0 f111 rg_78_4_0_1 (by first | decide | omega) (by first | decide | omega) (by decide)
              have q537 : h68 78 4 = h34 78 4 := jK 0 f70 rg_78_4_0_1 (by first | decide | omega) (by first | decide | omega) (by decide)
              have q538 : h34 78 4 = h19 78 4 := by rw [← e36]; exact x_up_i (by first | decide | omega)
              have q539 : h19 78 4 = h 78 4 := jK 0 f21 rg_78_4_0_1 (by first | decide | omega) (by first | decide | omega) (by decide)
              have q540 : h473 78 5 = h459 78 5 := by rw [← e475]; exact x_up_i (by first | decide | omega)
              have q541 : h459 78 5 = h375 78 5 := jK 0 f461 rg_78_5_0_1 (by first | decide | omega) (by first | decide | omega) (by decide)
              have q542 : h375 78 5 = h347 78 5 := jK 0 f377 rg_78_5_0_1 (by first | decide | omega) (by first | decide | omega) (by decide)
              have q543 : h347 78 5 = h193 78 5 := jK 0 f348 rg_78_5_0_1 (by first | decide | omega) (by first | decide | omega) (by decide)
              have q544 : h193 78 5 = h178 78 5 := by rw [← e195]; exact x_up_i (by first | decide | omega)
              have q545 : h178 78 5 = h123 78 5 := jK 0 f180 rg_78_5_0_1 (by first | decide | omega) (by first | decide | omega) (by decide)
              have q546 : h123 78 5 = h109 78 5 := by rw [← e125]; exact x_up_i (by first | decide | omega)
              have q547 : h109 78 5 = h68 78 5 := jK 0 f111 rg_78_5_0_1 (by first | decide | omega) (by first | decide | omega) (by decide)
              have q548 : h68 78 5 = h34 78 5 := jK 0 f70 rg_78_5_0_1 (by first | decide | omega) (by first | decide | omega) (by decide)
              have q549 : h34 78 5 = h19 78 5 := by rw [← e36]; exact x_up_i (by first | decide | omega)
              have q550 : h19 78 5 = h 78 5 := jK 0 f21 rg_78_5_0_1 (by first | decide | omega) (by first | decide | omega) (by decide)
              have y551 : Bl tB tN (h 76 0 - 1) (sk tB tN (h178 75 7)) (rs 2147483649 (sk tB tN (h347 75 7))) := by rw [rs1 rfl]; exact m357.2 (by first | decide | omega)
              have q552 : h34 75 7 = h19 75 7 := by rw [← e36]; exact x_up_k (by decide)
              obtain ⟨w553, e554⟩ := Tw.yes c74 (by first | decide | omega)
              have q555 : h123 75 7 = h109 75 7 := by rw [← e125]; exact x_up_k (by decide)
              obtain ⟨w556, e557⟩ := Tw.yes c184 (by first | decide | omega)
              obtain ⟨w558, e559⟩ := Tw.yes c381 (by first | decide | omega)
              refine x_retI (np := 151) (x := 0) (by decide +kernel) (by decide) (Or.inr ⟨by decide +kernel, by first | decide | omega, by first | decide | omega⟩) ⟨_, rfl, (by decide), ?_⟩
              exact ⟨j474, f476, (by first | decide | omega), (fun z => by first | decide | omega), (fun z => by first | decide | omega), (fun z => by first | decide | omega), (fun z => by first | decide | omega), (fun z => by first | decide | omega), (fun z => by first | decide | omega), (fun z => absurd z (by first | decide | omega)), (Or.inr ⟨by first | decide | omega, (nm9.y c28 (by first | decide | omega) (by first | decide | omega) rfl (by first | decide | omega) rfl (wd9.y w553 (congrArg (sk tB tN) (show h34 75 7 = h19 75 7 by first | decide | omega)) e554 rfl (nm9.y c118 (by first | decide | omega) (by first | decide | omega) rfl (by first | decide | omega) rfl (wd9.y w556 (congrArg (sk tB tN) (show h123 75 7 = h109 75 7 by first | decide | omega)) e557 rfl (bl9.y y551 rfl rfl rfl rfl (wd9.y w558 rfl e559 rfl (nm9.f c468 (by first | decide | omega) (by first | decide | omega) rfl (by first | decide | omega) (by first | decide | omega))))))))⟩), (fun z => absurd z (by first | decide | omega))⟩
            have q478 : ¬ (v455 < 2147483648) := q478
            have b560 := c464 (by first | decide | omega)
            have b561 := c465 (by first | decide | omega)
            have b562 := c466 (by first | decide | omega)
            refine x_const (np := 12) (x := 9223372043297226753) (a := 2147483649) (by decide +kernel) (by decide) (by decide) ?_
            refine x_goto (np := 15) (x := 16) (by decide +kernel) ?_
            refine x_retI (np := 17) (x := 0) (by decide +kernel) (by decide) (Or.inr ⟨by decide +kernel, by first | decide | omega, by first | decide | omega⟩) ⟨_, rfl, (by decide), ?_⟩
            refine x_retI (np := 13) (x := 0) (by decide +kernel) (by decide) (Or.inr ⟨by decide +kernel, by first | decide | omega, by first | decide | omega⟩) ⟨_, rfl, (by decide), ?_⟩
            refine x_ifz (k := 1) (tg := 151) (np := 149) (by decide +kernel) (by decide) (by decide) (fun q563 => ?_) (fun q564 => ?_)
            · have q563 : 2147483649 ≠ 2147483648 := q563
              refine x_aload (np := 152) (x := 0) (by decide +kernel) rfl (x_nc_le (by decide)) ?_
              have q565 : h473 75 3 = 78 := by have z := jB (e := 3) 0 j474 rg_75_3_0_1 (by decide) (by decide); omega
              refine x_getR (np := 155) (x := 707) (f := 3) (q := 78) (by decide +kernel) (by decide) (by decide +kernel) q565 ?_
              refine x_const (np := 156) (x := 9223372060477095941) (a := 2147483653) (by decide +kernel) (by decide) (by decide) ?_
              refine x_dup2 (np := 157) (x := 0) (by decide +kernel) (by have z := (iw_c_lt (a := 2147483653) (by decide)).1; omega) (by have z := x_nc_le (k := 78) (by decide); unfold x_r; omega) ?_
              have q566 : h473 78 5 = h459 78 5 := by rw [← e475]; exact x_up_i (by first | decide | omega)
              have q567 : h459 78 5 = h375 78 5 := jK 0 f461 rg_78_5_0_1 (by first | decide | omega) (by first | decide | omega) (by decide)
              have q568 : h375 78 5 = h347 78 5 := jK 0 f377 rg_78_5_0_1 (by first | decide | omega) (by first | decide | omega) (by decide)
              have q569 : h347 78 5 = h193 78 5 := jK 0 f348 rg_78_5_0_1 (by first | decide | omega) (by first | decide | omega) (by decide)
              have q570 : h193 78 5 = h178 78 5 := by rw [← e195]; exact x_up_i (by first | decide | omega)
              have q571 : h178 78 5 = h123 78 5 := jK 0 f180 rg_78_5_0_1 (by first | decide | omega) (by first | decide | omega) (by decide)
              have q572 : h123 78 5 = h109 78 5 := by rw [← e125]; exact x_up_i (by first | decide | omega)
              have q573 : h109 78 5 = h68 78 5 := jK 0 f111 rg_78_5_0_1 (by first | decide | omega) (by first | decide | omega) (by decide)
              have q574 : h68 78 5 = h34 78 5 := jK 0 f70 rg_78_5_0_1 (by first | decide | omega) (by first | decide | omega) (by decide)
              have q575 : h34 78 5 = h19 78 5 := by rw [← e36]; exact x_up_i (by first | decide | omega)
              have q576 : h19 78 5 = h 78 5 := jK 0 f21 rg_78_5_0_1 (by first | decide | omega) (by first | decide | omega) (by decide)
              refine x_aldC (np := 158) (x := 0) (n := 290) (i := 5) (q := (h 78 5)) (by decide +kernel) (by decide +kernel) (by first | decide | omega) (by first | decide | omega) (by decide) ((((((((((q566.trans q567).trans q568).trans q569).trans q570).trans q571).trans q572).trans q573).trans q574).trans q575).trans q576) (fun l577 => ?_)
              refine x_const (np := 159) (x := 9223372043297226753) (a := 2147483649) (by decide +kernel) (by decide) (by decide) ?_
              refine x_iadd (np := 160) (x := 0) (v := (1 + (h 78 5))) (by decide +kernel) l3 (by decide) (by first | decide | omega) (by first | decide | omega) ?_
              refine x_ast (np := 161) (x := 0) (kd := 1) (n := 290) (i := 5) (by decide +kernel) (Or.inl rfl) (by decide +kernel) (by first | decide | omega) (by first | decide | omega) (by decide) (by first | decide | omega) (fun z => absurd z (by decide)) ?_
              have j579 := jU (e := 5) (v := (1 + (h 78 5))) 0 j474 rg_78_5_0_1 (by first | decide | omega) (by first | decide | omega) (by first | decide | omega)
              have f581 := jF (e := 5) (v := (1 + (h 78 5))) 0 f476 rg_78_5_0_1 (by first | decide | omega) (by first | decide | omega) (by decide)
              generalize e580 : x_up h473 78 5 (1 + (h 78 5)) = h578 at j579 f581 ⊢
              refine x_const (np := 162) (x := 9223372043297226753) (a := 2147483649) (by decide +kernel) (by decide) (by decide) ?_
              have b582 := jB (e := 0) 0 hJ rg_78_0_0_1 (by first | decide | omega) (by first | decide | omega)
              have q583 : h578 78 0 = h473 78 0 := by rw [← e580]; exact x_up_i (by first | decide | omega)
              have q584 : h473 78 0 = h459 78 0 := by rw [← e475]; exact x_up_i (by first | decide | omega)
              have q585 : h459 78 0 = h375 78 0 := jK 0 f461 rg_78_0_0_1 (by first | decide | omega) (by first | decide | omega) (by decide)
              have q586 : h375 78 0 = h347 78 0 := jK 0 f377 rg_78_0_0_1 (by first | decide | omega) (by first | decide | omega) (by decide)
              have q587 : h347 78 0 = h193 78 0 := jK 0 f348 rg_78_0_0_1 (by first | decide | omega) (by first | decide | omega) (by decide)
              have q588 : h193 78 0 = h178 78 0 := by rw [← e195]; exact x_up_i (by first | decide | omega)
              have q589 : h178 78 0 = h123 78 0 := jK 0 f180 rg_78_0_0_1 (by first | decide | omega) (by first | decide | omega) (by decide)
              have q590 : h123 78 0 = h109 78 0 := by rw [← e125]; exact x_up_i (by first | decide | omega)
              have q591 : h109 78 0 = h68 78 0 := jK 0 f111 rg_78_0_0_1 (by first | decide | omega) (by first | decide | omega) (by decide)
              have q592 : h68 78 0 = h34 78 0 := jK 0 f70 rg_78_0_0_1 (by first | decide | omega) (by first | decide | omega) (by decide)
              have q593 : h34 78 0 = h19 78 0 := by rw [← e36]; exact x_up_i (by first | decide | omega)
              have q594 : h19 78 0 = h 78 0 := jK 0 f21 rg_78_0_0_1 (by first | decide | omega) (by first | decide | omega) (by decide)
              have q595 : h578 78 1 = h473 78 1 := by rw [← e580]; exact x_up_i (by first | decide | omega)
              have q596 : h473 78 1 = h459 78 1 := by rw [← e475]; exact x_up_i (by first | decide | omega)
              have q597 : h459 78 1 = h375 78 1 := jK 0 f461 rg_78_1_0_1 (by first | decide | omega) (by first | decide | omega) (by decide)
              have q598 : h375 78 1 = h347 78 1 := jK 0 f377 rg_78_1_0_1 (by first | decide | omega) (by first | decide | omega) (by decide)
              have q599 : h347 78 1 = h193 78 1 := jK 0 f348 rg_78_1_0_1 (by first | decide | omega) (by first | decide | omega) (by decide)
              have q600 : h193 78 1 = h178 78 1 := by rw [← e195]; exact x_up_i (by first | decide | omega)
              have q601 : h178 78 1 = h123 78 1 := jK 0 f180 rg_78_1_0_1 (by first | decide | omega) (by first | decide | omega) (by decide)
              have q602 : h123 78 1 = h109 78 1 := by rw [← e125]; exact x_up_i (by first | decide | omega)
              have q603 : h109 78 1 = h68 78 1 := jK 0 f111 rg_78_1_0_1 (by first | decide | omega) (by first | decide | omega) (by decide)
              have q604 : h68 78 1 = h34 78 1 := jK 0 f70 rg_78_1_0_1 (by first | decide | omega) (by first | decide | omega) (by decide)
              have q605 : h34 78 1 = h19 78 1 := by rw [← e36]; exact x_up_i (by first | decide | omega)
              have q606 : h19 78 1 = h 78 1 := jK 0 f21 rg_78_1_0_1 (by first | decide | omega) (by first | decide | omega) (by decide)
              have b607 := jB (e := 2) 0 hJ rg_78_2_0_1 (by first | decide | omega) (by first | decide | omega)
              have q608 : h578 78 2 = h473 78 2 := by rw [← e580]; exact x_up_i (by first | decide | omega)
              have q609 : h473 78 2 = h459 78 2 := by rw [← e475]; exact x_up_i (by first | decide | omega)
              have q610 : h459 78 2 = h375 78 2 := jK 0 f461 rg_78_2_0_1 (by first | decide | omega) (by first | decide | omega) (by decide)
              have q611 : h375 78 2 = h347 78 2 := jK 0 f377 rg_78_2_0_1 (by first | decide | omega) (by first | decide | omega) (by decide)
              have q612 : h347 78 2 = h193 78 2 := jK 0 f348 rg_78_2_0_1 (by first | decide | omega) (by first | decide | omega) (by decide)
              have q613 : h193 78 2 = h178 78 2 := by rw [← e195]; exact x_up_i (by first | decide | omega)
              have q614 : h178 78 2 = h123 78 2 := jK 0 f180 rg_78_2_0_1 (by first | decide | omega) (by first | decide | omega) (by decide)
              have q615 : h123 78 2 = h109 78 2 := by rw [← e125]; exact x_up_i (by first | decide | omega)
              have q616 : h109 78 2 = h68 78 2 := jK 0 f111 rg_78_2_0_1 (by first | decide | omega) (by first | decide | omega) (by decide)
              have q617 : h68 78 2 = h34 78 2 := jK 0 f70 rg_78_2_0_1 (by first | decide | omega) (by first | decide | omega) (by decide)
              have q618 : h34 78 2 = h19 78 2 := by rw [← e36]; exact x_up_i (by first | decide | omega)
              have q619 : h19 78 2 = h 78 2 := jK 0 f21 rg_78_2_0_1 (by first | decide | omega) (by first | decide | omega) (by decide)
              have b620 := jB (e := 3) 0 hJ rg_78_3_0_1 (by first | decide | omega) (by first | decide | omega)
              have q621 : h578 78 3 = h473 78 3 := by rw [← e580]; exact x_up_i (by first | decide | omega)
              have q622 : h473 78 3 = h459 78 3 := by rw [← e475]; exact x_up_i (by first | decide | omega)
              have q623 : h459 78 3 = h375 78 3 := jK 0 f461 rg_78_3_0_1 (by first | decide | omega) (by first | decide | omega) (by decide)
              have q624 : h375 78 3 = h347 78 3 := jK 0 f377 rg_78_3_0_1 (by first | decide | omega) (by first | decide | omega) (by decide)
              have q625 : h347 78 3 = h193 78 3 := jK 0 f348 rg_78_3_0_1 (by first | decide | omega) (by first | decide | omega) (by decide)
              have q626 : h193 78 3 = h178 78 3 := by rw [← e195]; exact x_up_i (by first | decide | omega)
              have q627 : h178 78 3 = h123 78 3 := jK 0 f180 rg_78_3_0_1 (by first | decide | omega) (by first | decide | omega) (by decide)
              have q628 : h123 78 3 = h109 78 3 := by rw [← e125]; exact x_up_i (by first | decide | omega)
              have q629 : h109 78 3 = h68 78 3 := jK 0 f111 rg_78_3_0_1 (by first | decide | omega) (by first | decide | omega) (by decide)
              have q630 : h68 78 3 = h34 78 3 := jK 0 f70 rg_78_3_0_1 (by first | decide | omega) (by first | decide | omega) (by decide)
              have q631 : h34 78 3 = h19 78 3 := by rw [← e36]; exact x_up_i (by first | decide | omega)
              have q632 : h19 78 3 = h 78 3 := jK 0 f21 rg_78_3_0_1 (by first | decide | omega) (by first | decide | omega) (by decide)
              have b633 := jB (e := 4) 0 hJ rg_78_4_0_1 (by first | decide | omega) (by first | decide | omega)
              have q634 : h578 78 4 = h473 78 4 := by rw [← e580]; exact x_up_i (by first | decide | omega)
              have q635 : h473 78 4 = h459 78 4 := by rw [← e475]; exact x_up_i (by first | decide | omega)
              have q636 : h459 78 4 = h375 78 4 := jK 0 f461 rg_78_4_0_1 (by first | decide | omega) (by first | decide | omega) (by decide)
              have q637 : h375 78 4 = h347 78 4 := jK 0 f377 rg_78_4_0_1 (by first | decide | omega) (by first | decide | omega) (by decide)
              have q638 : h347 78 4 = h193 78 4 := jK 0 f348 rg_78_4_0_1 (by first | decide | omega) (by first | decide | omega) (by decide)
              have q639 : h193 78 4 = h178 78 4 := by rw [← e195]; exact x_up_i (by first | decide | omega)
              have q640 : h178 78 4 = h123 78 4 := jK 0 f180 rg_78_4_0_1 (by first | decide | omega) (by first | decide | omega) (by decide)
              have q641 : h123 78 4 = h109 78 4 := by rw [← e125]; exact x_up_i (by first | decide | omega)
              have q642 : h109 78 4 = h68 78 4 := jK 0 f111 rg_78_4_0_1 (by first | decide | omega) (by first | decide | omega) (by decide)
              have q643 : h68 78 4 = h34 78 4 := jK 0 f70 rg_78_4_0_1 (by first | decide | omega) (by first | decide | omega) (by decide)
              have q644 : h34 78 4 = h19 78 4 := by rw [← e36]; exact x_up_i (by first | decide | omega)
              have q645 : h19 78 4 = h 78 4 := jK 0 f21 rg_78_4_0_1 (by first | decide | omega) (by first | decide | omega) (by decide)
              have q646 : h578 78 5 = (1 + (h 78 5)) := by rw [← e580]; exact x_up_at
              have m650 := Cl.fr m362 f377 (by decide)
              have m649 := Cl.fr m650 f461 (by decide)
              have m648 : Cl h473 := by rw [← e475]; exact Cl.upR (e := (253 + 4 * u8)) (v := v455) u8 m649 rg_76_253_4_10 (by first | decide | omega) (by first | decide | omega) (by first | decide | omega)
              have m647 : Cl h578 := by rw [← e580]; exact Cl.upR (e := 5) (v := (1 + (h 78 5))) 0 m648 rg_76_5_0_1 (by first | decide | omega) (by first | decide | omega) (by first | decide | omega)
              have y651 : Bl tB tN (h 76 0 - 1) (sk tB tN (h178 75 7)) (rs 2147483649 (sk tB tN (h347 75 7))) := by rw [rs1 rfl]; exact m357.2 (by first | decide | omega)
              have q652 : h34 75 7 = h19 75 7 := by rw [← e36]; exact x_up_k (by decide)
              obtain ⟨w653, e654⟩ := Tw.yes c74 (by first | decide | omega)
              have q655 : h123 75 7 = h109 75 7 := by rw [← e125]; exact x_up_k (by decide)
              obtain ⟨w656, e657⟩ := Tw.yes c184 (by first | decide | omega)
              obtain ⟨w658, e659⟩ := Tw.yes c381 (by first | decide | omega)
              have q660 : h578 75 7 = h473 75 7 := by rw [← e580]; exact x_up_k (by decide)
              have q661 : h473 75 7 = h459 75 7 := by rw [← e475]; exact x_up_k (by decide)
              have q662 : h578 78 (251 + 4 * u8) = h473 78 (251 + 4 * u8) := by rw [← e580]; exact x_up_i (by first | decide | omega)
              have q663 : h473 78 (251 + 4 * u8) = h459 78 (251 + 4 * u8) := by rw [← e475]; exact x_up_i (by first | decide | omega)
              have q664 : h459 78 (251 + 4 * u8) = h375 78 (251 + 4 * u8) := jK u8 f461 rg_78_251_4_10 (by first | decide | omega) (by first | decide | omega) (by decide)
              have q665 : h375 78 (251 + 4 * u8) = h347 78 (251 + 4 * u8) := jK u8 f377 rg_78_251_4_10 (by first | decide | omega) (by first | decide | omega) (by decide)
              have q666 : h578 78 (252 + 4 * u8) = h473 78 (252 + 4 * u8) := by rw [← e580]; exact x_up_i (by first | decide | omega)
              have q667 : h473 78 (252 + 4 * u8) = h459 78 (252 + 4 * u8) := by rw [← e475]; exact x_up_i (by first | decide | omega)
              have q668 : h459 78 (252 + 4 * u8) = h375 78 (252 + 4 * u8) := jK u8 f461 rg_78_252_4_10 (by first | decide | omega) (by first | decide | omega) (by decide)
              have q669 : h375 78 (252 + 4 * u8) = h347 78 (252 + 4 * u8) := jK u8 f377 rg_78_252_4_10 (by first | decide | omega) (by first | decide | omega) (by decide)
              obtain ⟨w670, e671⟩ := Tw.yes c74 (by first | decide | omega)
              obtain ⟨w672, e673⟩ := Tw.yes c184 (by first | decide | omega)
              have m674 : ∀ u, u < 10 → u ≠ u8 → adr h178 u = adr h u := fun u hu hne => (Eq.trans (adr_gr f180 (by decide) u hu) (Eq.trans (show adr h123 u = adr h109 u by rw [← e125]; exact adr_i (by first | decide | omega)) (Eq.trans (adr_gr f111 (by decide) u hu) (Eq.trans (adr_gr f70 (by decide) u hu) (Eq.trans (show adr h34 u = adr h19 u by rw [← e36]; exact adr_i (by first | decide | omega)) (adr_gr f21 (by decide) u hu))))))
              have m675 : ∀ u, u < 10 → u ≠ u8 → adr h578 u = adr h347 u := fun u hu hne => (Eq.trans (show adr h578 u = adr h473 u by rw [← e580]; exact adr_i (by first | decide | omega)) (Eq.trans (show adr h473 u = adr h459 u by rw [← e475]; exact adr_i (by first | decide | omega)) (Eq.trans (adr_gr f461 (by decide) u hu) (adr_gr f377 (by decide) u hu))))
              have m676 : ∀ u, u < 10 → u ≠ u8 → bdr h178 u = bdr h u := fun u hu hne => (Eq.trans (bdr_gr f180 (by decide) u hu) (Eq.trans (show bdr h123 u = bdr h109 u by rw [← e125]; exact bdr_i (by first | decide | omega)) (Eq.trans (bdr_gr f111 (by decide) u hu) (Eq.trans (bdr_gr f70 (by decide) u hu) (Eq.trans (show bdr h34 u = bdr h19 u by rw [← e36]; exact bdr_i (by first | decide | omega)) (bdr_gr f21 (by decide) u hu))))))
              have m677 : ∀ u, u < 10 → u ≠ u8 → bdr h578 u = bdr h347 u := fun u hu hne => (Eq.trans (show bdr h578 u = bdr h473 u by rw [← e580]; exact bdr_i (by first | decide | omega)) (Eq.trans (show bdr h473 u = bdr h459 u by rw [← e475]; exact bdr_i (by first | decide | omega)) (Eq.trans (bdr_gr f461 (by decide) u hu) (bdr_gr f377 (by decide) u hu))))
              have q678 : h34 75 7 = h19 75 7 := by rw [← e36]; exact x_up_k (by decide)
              have q679 : h123 75 7 = h109 75 7 := by rw [← e125]; exact x_up_k (by decide)
              refine x_retI (np := 163) (x := 0) (by decide +kernel) (by decide) (Or.inr ⟨by decide +kernel, by first | decide | omega, by first | decide | omega⟩) ⟨_, rfl, (by decide), ?_⟩
              exact ⟨j579, f581, (by first | decide | omega), (fun z => by first | decide | omega), (fun z => by first | decide | omega), (fun z => by first | decide | omega), (fun z => by first | decide | omega), (fun z => by first | decide | omega), (fun z => by first | decide | omega), (fun _ => m647), (Or.inr ⟨by first | decide | omega, (nm9.y c28 (by first | decide | omega) (by first | decide | omega) rfl (by first | decide | omega) rfl (wd9.y w653 (congrArg (sk tB tN) (show h34 75 7 = h19 75 7 by first | decide | omega)) e654 rfl (nm9.y c118 (by first | decide | omega) (by first | decide | omega) rfl (by first | decide | omega) rfl (wd9.y w656 (congrArg (sk tB tN) (show h123 75 7 = h109 75 7 by first | decide | omega)) e657 rfl (bl9.y y651 rfl rfl rfl rfl (wd9.y w658 rfl e659 rfl (nm9.y c468 (by first | decide | omega) (by first | decide | omega) rfl (by first | decide | omega) rfl (fin9.mk (by first | decide | omega) (congrArg (sk tB tN) (show h459 75 7 = h578 75 7 by first | decide | omega))))))))))⟩), (fun _ => Sx.mk c28 (by first | decide | omega) (by first | decide | omega) rfl (by first | decide | omega) w670 (congrArg (sk tB tN) (show h34 75 7 = h19 75 7 by first | decide | omega)) e671 c118 (by first | decide | omega) (by first | decide | omega) rfl (by first | decide | omega) w672 (congrArg (sk tB tN) (show h123 75 7 = h109 75 7 by first | decide | omega)) e673 (m359.2 (by first | decide | omega)) (by first | decide | omega) rfl rfl (sx_ab (u := u8) (v := v105) (y := (h347 78 (252 + 4 * u8))) (by first | decide | omega) (by first | decide | omega) (show h578 78 (251 + 4 * u8) = v105 by first | decide | omega) (show h578 78 (252 + 4 * u8) = (h347 78 (252 + 4 * u8)) by first | decide | omega) (fun u hu hne => (m675 u hu hne).trans ((m360 u hu).trans (m674 u hu hne))) (fun u hu hne => (m677 u hu hne).trans ((m361 u hu hne).trans (m676 u hu hne)))))⟩
            have q564 : ¬ (2147483649 ≠ 2147483648) := q564
            exfalso; omega
          have q368 : ¬ (v344 = 2147483648) := q368
          refine x_aload (np := 81) (x := 0) (by decide +kernel) rfl (x_nc_le (by decide)) ?_
          refine x_const (np := 82) (x := 9223372039002259456) (a := 2147483648) (by decide +kernel) (by decide) (by decide) ?_
          refine x_aload (np := 83) (x := 0) (by decide +kernel) rfl (x_nc_le (by decide)) ?_
          refine x_nI (t := 6) (mj := 157) (n := 1) (rc := 12) (ml := 1) (nr := 2) (np := 86) (as := [x_r 75]) (rest := [iv_c 2147483648, x_r 75]) (lo1 := [x_r 75]) (by decide +kernel) (by decide) (by decide +kernel) (x_rb_of (by decide +kernel)) rfl rfl (x_wr (by decide) x_wn) (x_wi (by decide) (x_wr (by decide) x_wn)) (by decide) rfl ?_
          refine x_aload (np := 1) (x := 0) (by decide +kernel) rfl (x_nc_le (by decide)) ?_
          have q680 : h347 75 1 = 76 := by have z := jB (e := 1) 0 j349 rg_75_1_0_1 (by decide) (by decide); omega
          refine x_getR (np := 4) (x := 705) (f := 1) (q := 76) (by decide +kernel) (by decide) (by decide +kernel) q680 ?_
          refine x_const (np := 5) (x := 9223372039002259456) (a := 2147483648) (by decide +kernel) (by decide) (by decide) ?_
          have q681 : h347 76 0 = h193 76 0 := jK 0 f348 rg_76_0_0_1 (by first | decide | omega) (by first | decide | omega) (by decide)
          have q682 : h193 76 0 = h178 76 0 := by rw [← e195]; exact x_up_k (by decide)
          have q683 : h178 76 0 = h123 76 0 := jK 0 f180 rg_76_0_0_1 (by first | decide | omega) (by first | decide | omega) (by decide)
          have q684 : h123 76 0 = h109 76 0 := by rw [← e125]; exact x_up_k (by decide)
          have q685 : h109 76 0 = h68 76 0 := jK 0 f111 rg_76_0_0_1 (by first | decide | omega) (by first | decide | omega) (by decide)
          have q686 : h68 76 0 = h34 76 0 := jK 0 f70 rg_76_0_0_1 (by first | decide | omega) (by first | decide | omega) (by decide)
          have q687 : h34 76 0 = h19 76 0 := by rw [← e36]; exact x_up_k (by decide)
          have q688 : h19 76 0 = h 76 0 := jK 0 f21 rg_76_0_0_1 (by first | decide | omega) (by first | decide | omega) (by decide)
          refine x_aldC (np := 6) (x := 0) (n := 1952) (i := 0) (q := (h 76 0)) (by decide +kernel) (by decide +kernel) (by first | decide | omega) (by first | decide | omega) (by decide) (((((((q681.trans q682).trans q683).trans q684).trans q685).trans q686).trans q687).trans q688) (fun l689 => ?_)
          refine x_retI (np := 7) (x := 0) (by decide +kernel) l13 (Or.inl (by decide +kernel)) ⟨_, rfl, l13, ?_⟩
          refine x_const (np := 87) (x := 9223372043297226753) (a := 2147483649) (by decide +kernel) (by decide) (by decide) ?_
          obtain ⟨v690, q691⟩ : ∃ z, z + 2147483649 = (h 76 0) + 2147483648 := ⟨(h 76 0) + 2147483648 - 2147483649, by first | decide | omega⟩
          refine x_isub (np := 88) (x := 0) (v := v690) (by decide +kernel) l13 (by decide) (by first | decide | omega) (by first | decide | omega) ?_
          have m697 := Tq.fr m176 f180 (by decide) (by decide)
          have m696 : Tq tB tN h193 := by rw [← e195]; exact Tq.oth m697 (by decide) (fun z => absurd z.1 (by decide))
          have m695 := Tq.fr m696 f348 (by decide) (by decide)
          refine x_cI (t := 6) (mj := 174) (n := 3) (rc := 12) (ml := 4) (nr := 0) (np := 91) (as := [x_r 75, iv_c 2147483648, iv_c v690]) (rest := []) (lo1 := [x_r 75, iv_c 2147483648, iv_c v690, 147573952589676412928]) (by decide +kernel) (by decide) (by decide +kernel) (x_rb_of (by decide +kernel)) rfl rfl (x_wr (by decide) (x_wi (by decide) (x_wi (by first | decide | omega) x_wn))) x_wn (by decide) rfl (c174_75 j349  (by first | decide | omega) (by first | decide | omega) m695) (fun v692 h698 l693 q694 => ?_)
          obtain ⟨j699, f700, b701, c702, c703, c704, c705, c706, c707⟩ := q694
          have f708 := Fr.trans f365 f700 (by decide)
          have f709 := Fr.trans f348 f700 (by decide)
          have b710 := jB (e := 7) 0 j699 rg_75_7_0_1 (by first | decide | omega) (by first | decide | omega)
          have b711 := c706 (by first | decide | omega)
          refine x_istore (np := 92) (x := 3) (lo' := [x_r 75, iv_c (2147483898 + 4 * u8), iv_c v344, iv_c v692]) (by decide +kernel) l693 (Nat.le_of_ble_eq_true rfl) rfl ?_
          refine x_iload (np := 93) (x := 3) (by decide +kernel) rfl l693 ?_
          refine x_ifz (k := 3) (tg := 98) (np := 96) (by decide +kernel) (by decide) l693 (fun q712 => ?_) (fun q713 => ?_)
          · have q712 : 2147483648 ≤ v692 := q712
            have b714 := c703 (by first | decide | omega)
            have b715 := c704 (by first | decide | omega)
            have b716 := c705 (by first | decide | omega)
            refine x_aload (np := 99) (x := 0) (by decide +kernel) rfl (x_nc_le (by decide)) ?_
            have q717 : h698 75 3 = 78 := by have z := jB (e := 3) 0 j699 rg_75_3_0_1 (by decide) (by decide); omega
            refine x_getR (np := 102) (x := 707) (f := 3) (q := 78) (by decide +kernel) (by decide) (by decide +kernel) q717 ?_
            refine x_iload (np := 103) (x := 1) (by decide +kernel) rfl (by first | decide | omega) ?_
            refine x_const (np := 104) (x := 9223372047592194050) (a := 2147483650) (by decide +kernel) (by decide) (by decide) ?_
            refine x_iadd (np := 105) (x := 0) (v := (2147483900 + 4 * u8)) (by decide +kernel) (by first | decide | omega) (by decide) (by first | decide | omega) (by first | decide | omega) ?_
            refine x_dup2 (np := 106) (x := 0) (by decide +kernel) (by have z := (iw_c_lt (a := (2147483900 + 4 * u8)) (by first | decide | omega)).1; omega) (by have z := x_nc_le (k := 78) (by decide); unfold x_r; omega) ?_
            have q718 : h698 78 (252 + 4 * u8) = h347 78 (252 + 4 * u8) := jK u8 f700 rg_78_252_4_10 (by first | decide | omega) (by first | decide | omega) (by decide)
            refine x_aldC (np := 107) (x := 0) (n := 290) (i := (252 + 4 * u8)) (q := ((h347 78 (252 + 4 * u8)))) (by decide +kernel) (by decide +kernel) (by first | decide | omega) (by first | decide | omega) (by decide) q718 (fun l719 => ?_)
            refine x_const (np := 108) (x := 9223372043297226753) (a := 2147483649) (by decide +kernel) (by decide) (by decide) ?_
            refine x_iload (np := 109) (x := 3) (by decide +kernel) rfl l693 ?_
            refine x_shlE (np := 110) (by decide +kernel) (by decide) l693 (fun l720 => ?_)
            have b721 := bsl_b (x := v692) (by first | decide | omega) (by first | decide | omega)
            refine x_orE (np := 111) (by decide +kernel) l719 l720 (fun l722 => ?_)
            refine x_ast (np := 112) (x := 0) (kd := 1) (n := 290) (i := (252 + 4 * u8)) (by decide +kernel) (Or.inl rfl) (by decide +kernel) (by first | decide | omega) (by first | decide | omega) (by decide) l722 (fun z => absurd z (by decide)) ?_
            have j724 := jU (e := (252 + 4 * u8)) (v := ((bor ((h347 78 (252 + 4 * u8))) (bsl 2147483649 v692)))) u8 j699 rg_78_252_4_10 (by first | decide | omega) (by first | decide | omega) (by first | decide | omega)
            have f726 := jF (e := (252 + 4 * u8)) (v := ((bor ((h347 78 (252 + 4 * u8))) (bsl 2147483649 v692)))) u8 f708 rg_78_252_4_10 (by first | decide | omega) (by first | decide | omega) (by decide)
            have f727 := jF (e := (252 + 4 * u8)) (v := ((bor ((h347 78 (252 + 4 * u8))) (bsl 2147483649 v692)))) u8 f709 rg_78_252_4_10 (by first | decide | omega) (by first | decide | omega) (by decide)
            generalize e725 : x_up h698 78 (252 + 4 * u8) ((bor ((h347 78 (252 + 4 * u8))) (bsl 2147483649 v692))) = h723 at j724 f726 f727 ⊢
            refine x_aload (np := 113) (x := 0) (by decide +kernel) rfl (x_nc_le (by decide)) ?_
            refine x_ldcB (i := 15) (idx := 179) (tx := "or") (by rw [tb_y185]; exact List.mem_of_getElem? (i := 54) rfl) (by decide) (by rw [tb_b185]; decide +kernel) ?_
            have m732 := Tq.fr m695 f700 (by decide) (by decide)
            have m731 : Tq tB tN h723 := by rw [← e725]; exact Tq.oth m732 (by decide) (fun z => absurd z.1 (by decide))
            refine x_cI (t := 6) (mj := 171) (n := 2) (rc := 12) (ml := 2) (nr := 0) (np := 118) (as := [x_r 75, x_b (15 + 1)]) (rest := []) (lo1 := [x_r 75, x_b (15 + 1)]) (by decide +kernel) (by decide) (by decide +kernel) (x_rb_of (by decide +kernel)) rfl rfl (x_wr (by decide) (x_wB (by decide) x_wn)) x_wn (by decide) rfl (c171_75_S0 j724  (by decide) m731) (fun v728 h733 l729 q730 => ?_)
            obtain ⟨j734, f735, b736, c737, c738, c739⟩ := q730
            have f740 := Fr.trans f726 f735 (by decide)
            have f741 := Fr.trans f727 f735 (by decide)
            have q742 : h723 75 7 = h698 75 7 := by rw [← e725]; exact x_up_k (by decide)
            have b743 := jB (e := 7) 0 j734 rg_75_7_0_1 (by first | decide | omega) (by first | decide | omega)
            have q744 : h723 75 7 = h698 75 7 := by rw [← e725]; exact x_up_k (by decide)
            refine x_istore (np := 119) (x := 2) (lo' := [x_r 75, iv_c (2147483898 + 4 * u8), iv_c v728, iv_c v692]) (by decide +kernel) l729 (Nat.le_of_ble_eq_true rfl) rfl ?_
            refine x_goto (np := 122) (x := 76) (by decide +kernel) ?_
            have q745 : h733 78 5 = h723 78 5 := jK 0 f735 rg_78_5_0_1 (by first | decide | omega) (by first | decide | omega) (by decide)
            have q746 : h723 78 5 = h698 78 5 := by rw [← e725]; exact x_up_i (by first | decide | omega)
            have q747 : h698 78 5 = h347 78 5 := jK 0 f700 rg_78_5_0_1 (by first | decide | omega) (by first | decide | omega) (by decide)
            have q748 : h347 78 5 = h193 78 5 := jK 0 f348 rg_78_5_0_1 (by first | decide | omega) (by first | decide | omega) (by decide)
            have q749 : h193 78 5 = h178 78 5 := by rw [← e195]; exact x_up_i (by first | decide | omega)
            have q750 : h178 78 5 = h123 78 5 := jK 0 f180 rg_78_5_0_1 (by first | decide | omega) (by first | decide | omega) (by decide)
            have q751 : h123 78 5 = h109 78 5 := by rw [← e125]; exact x_up_i (by first | decide | omega)
            have q752 : h109 78 5 = h68 78 5 := jK 0 f111 rg_78_5_0_1 (by first | decide | omega) (by first | decide | omega) (by decide)
            have q753 : h68 78 5 = h34 78 5 := jK 0 f70 rg_78_5_0_1 (by first | decide | omega) (by first | decide | omega) (by decide)
            have q754 : h34 78 5 = h19 78 5 := by rw [← e36]; exact x_up_i (by first | decide | omega)
            have q755 : h19 78 5 = h 78 5 := jK 0 f21 rg_78_5_0_1 (by first | decide | omega) (by first | decide | omega) (by decide)
            have b756 := jB (e := 0) 0 hJ rg_78_0_0_1 (by first | decide | omega) (by first | decide | omega)
            have q757 : h733 78 0 = h723 78 0 := jK 0 f735 rg_78_0_0_1 (by first | decide | omega) (by first | decide | omega) (by decide)
            have q758 : h723 78 0 = h698 78 0 := by rw [← e725]; exact x_up_i (by first | decide | omega)
            have q759 : h698 78 0 = h347 78 0 := jK 0 f700 rg_78_0_0_1 (by first | decide | omega) (by first | decide | omega) (by decide)
            have q760 : h347 78 0 = h193 78 0 := jK 0 f348 rg_78_0_0_1 (by first | decide | omega) (by first | decide | omega) (by decide)
            have q761 : h193 78 0 = h178 78 0 := by rw [← e195]; exact x_up_i (by first | decide | omega)
            have q762 : h178 78 0 = h123 78 0 := jK 0 f180 rg_78_0_0_1 (by first | decide | omega) (by first | decide | omega) (by decide)
            have q763 : h123 78 0 = h109 78 0 := by rw [← e125]; exact x_up_i (by first | decide | omega)
            have q764 : h109 78 0 = h68 78 0 := jK 0 f111 rg_78_0_0_1 (by first | decide | omega) (by first | decide | omega) (by decide)
            have q765 : h68 78 0 = h34 78 0 := jK 0 f70 rg_78_0_0_1 (by first | decide | omega) (by first | decide | omega) (by decide)
            have q766 : h34 78 0 = h19 78 0 := by rw [← e36]; exact x_up_i (by first | decide | omega)
            have q767 : h19 78 0 = h 78 0 := jK 0 f21 rg_78_0_0_1 (by first | decide | omega) (by first | decide | omega) (by decide)
            have q768 : h733 78 1 = h723 78 1 := jK 0 f735 rg_78_1_0_1 (by first | decide | omega) (by first | decide | omega) (by decide)
            have q769 : h723 78 1 = h698 78 1 := by rw [← e725]; exact x_up_i (by first | decide | omega)
            have q770 : h698 78 1 = h347 78 1 := jK 0 f700 rg_78_1_0_1 (by first | decide | omega) (by first | decide | omega) (by decide)
            have q771 : h347 78 1 = h193 78 1 := jK 0 f348 rg_78_1_0_1 (by first | decide | omega) (by first | decide | omega) (by decide)
            have q772 : h193 78 1 = h178 78 1 := by rw [← e195]; exact x_up_i (by first | decide | omega)
            have q773 : h178 78 1 = h123 78 1 := jK 0 f180 rg_78_1_0_1 (by first | decide | omega) (by first | decide | omega) (by decide)
            have q774 : h123 78 1 = h109 78 1 := by rw [← e125]; exact x_up_i (by first | decide | omega)
            have q775 : h109 78 1 = h68 78 1 := jK 0 f111 rg_78_1_0_1 (by first | decide | omega) (by first | decide | omega) (by decide)
            have q776 : h68 78 1 = h34 78 1 := jK 0 f70 rg_78_1_0_1 (by first | decide | omega) (by first | decide | omega) (by decide)
            have q777 : h34 78 1 = h19 78 1 := by rw [← e36]; exact x_up_i (by first | decide | omega)
            have q778 : h19 78 1 = h 78 1 := jK 0 f21 rg_78_1_0_1 (by first | decide | omega) (by first | decide | omega) (by decide)
            have b779 := jB (e := 2) 0 hJ rg_78_2_0_1 (by first | decide | omega) (by first | decide | omega)
            have q780 : h733 78 2 = h723 78 2 := jK 0 f735 rg_78_2_0_1 (by first | decide | omega) (by first | decide | omega) (by decide)
            have q781 : h723 78 2 = h698 78 2 := by rw [← e725]; exact x_up_i (by first | decide | omega)
            have q782 : h698 78 2 = h347 78 2 := jK 0 f700 rg_78_2_0_1 (by first | decide | omega) (by first | decide | omega) (by decide)
            have q783 : h347 78 2 = h193 78 2 := jK 0 f348 rg_78_2_0_1 (by first | decide | omega) (by first | decide | omega) (by decide)
            have q784 : h193 78 2 = h178 78 2 := by rw [← e195]; exact x_up_i (by first | decide | omega)
            have q785 : h178 78 2 = h123 78 2 := jK 0 f180 rg_78_2_0_1 (by first | decide | omega) (by first | decide | omega) (by decide)
            have q786 : h123 78 2 = h109 78 2 := by rw [← e125]; exact x_up_i (by first | decide | omega)
            have q787 : h109 78 2 = h68 78 2 := jK 0 f111 rg_78_2_0_1 (by first | decide | omega) (by first | decide | omega) (by decide)
            have q788 : h68 78 2 = h34 78 2 := jK 0 f70 rg_78_2_0_1 (by first | decide | omega) (by first | decide | omega) (by decide)
            have q789 : h34 78 2 = h19 78 2 := by rw [← e36]; exact x_up_i (by first | decide | omega)
            have q790 : h19 78 2 = h 78 2 := jK 0 f21 rg_78_2_0_1 (by first | decide | omega) (by first | decide | omega) (by decide)
            have b791 := jB (e := 3) 0 hJ rg_78_3_0_1 (by first | decide | omega) (by first | decide | omega)
            have q792 : h733 78 3 = h723 78 3 := jK 0 f735 rg_78_3_0_1 (by first | decide | omega) (by first | decide | omega) (by decide)
            have q793 : h723 78 3 = h698 78 3 := by rw [← e725]; exact x_up_i (by first | decide | omega)
            have q794 : h698 78 3 = h347 78 3 := jK 0 f700 rg_78_3_0_1 (by first | decide | omega) (by first | decide | omega) (by decide)
            have q795 : h347 78 3 = h193 78 3 := jK 0 f348 rg_78_3_0_1 (by first | decide | omega) (by first | decide | omega) (by decide)
            have q796 : h193 78 3 = h178 78 3 := by rw [← e195]; exact x_up_i (by first | decide | omega)
            have q797 : h178 78 3 = h123 78 3 := jK 0 f180 rg_78_3_0_1 (by first | decide | omega) (by first | decide | omega) (by decide)
            have q798 : h123 78 3 = h109 78 3 := by rw [← e125]; exact x_up_i (by first | decide | omega)
            have q799 : h109 78 3 = h68 78 3 := jK 0 f111 rg_78_3_0_1 (by first | decide | omega) (by first | decide | omega) (by decide)
            have q800 : h68 78 3 = h34 78 3 := jK 0 f70 rg_78_3_0_1 (by first | decide | omega) (by first | decide | omega) (by decide)
            have q801 : h34 78 3 = h19 78 3 := by rw [← e36]; exact x_up_i (by first | decide | omega)
            have q802 : h19 78 3 = h 78 3 := jK 0 f21 rg_78_3_0_1 (by first | decide | omega) (by first | decide | omega) (by decide)
            have b803 := jB (e := 4) 0 hJ rg_78_4_0_1 (by first | decide | omega) (by first | decide | omega)
            have q804 : h733 78 4 = h723 78 4 := jK 0 f735 rg_78_4_0_1 (by first | decide | omega) (by first | decide | omega) (by decide)
            have q805 : h723 78 4 = h698 78 4 := by rw [← e725]; exact x_up_i (by first | decide | omega)
            have q806 : h698 78 4 = h347 78 4 := jK 0 f700 rg_78_4_0_1 (by first | decide | omega) (by first | decide | omega) (by decide)
            have q807 : h347 78 4 = h193 78 4 := jK 0 f348 rg_78_4_0_1 (by first | decide | omega) (by first | decide | omega) (by decide)
            have q808 : h193 78 4 = h178 78 4 := by rw [← e195]; exact x_up_i (by first | decide | omega)
            have q809 : h178 78 4 = h123 78 4 := jK 0 f180 rg_78_4_0_1 (by first | decide | omega) (by first | decide | omega) (by decide)
            have q810 : h123 78 4 = h109 78 4 := by rw [← e125]; exact x_up_i (by first | decide | omega)
            have q811 : h109 78 4 = h68 78 4 := jK 0 f111 rg_78_4_0_1 (by first | decide | omega) (by first | decide | omega) (by decide)
            have q812 : h68 78 4 = h34 78 4 := jK 0 f70 rg_78_4_0_1 (by first | decide | omega) (by first | decide | omega) (by decide)
            have q813 : h34 78 4 = h19 78 4 := by rw [← e36]; exact x_up_i (by first | decide | omega)
            have q814 : h19 78 4 = h 78 4 := jK 0 f21 rg_78_4_0_1 (by first | decide | omega) (by first | decide | omega) (by decide)
            have m817 := Cl.fr m362 f700 (by decide)
            have m816 : Cl h723 := by rw [← e725]; exact Cl.upR (e := (252 + 4 * u8)) (v := ((bor ((h347 78 (252 + 4 * u8))) (bsl 2147483649 v692)))) u8 m817 rg_76_252_4_10 (by first | decide | omega) (by first | decide | omega) (by first | decide | omega)
            have m815 := Cl.fr m816 f735 (by decide)
            have q818 : h723 75 7 = h698 75 7 := by rw [← e725]; exact x_up_k (by decide)
            have q819 : (v728 = 2147483649 → Bq tB tN (h 76 0 - 1) (sk tB tN (h733 75 7)) (sk tB tN (h178 75 7))) ∧ (v728 = 2147483648 → Bl tB tN (h 76 0 - 1) (sk tB tN (h178 75 7)) (some (sk tB tN (h733 75 7)))) := by
              rcases c739 with ⟨z1, z2, z3⟩ | ⟨z1, z2, z3⟩
              · exact ⟨fun _ => Bq.go (m357.1 (by first | decide | omega)) c707 (by first | decide | omega) (by first | decide | omega) rfl (by first | decide | omega) z2 (congrArg (sk tB tN) (show h723 75 7 = h698 75 7 by first | decide | omega)) z3 rfl, fun z => absurd z (by first | decide | omega)⟩
              · exact ⟨fun z => absurd z (by first | decide | omega), fun _ => by
                  have y := Bq.fin (R := 2147483649) (q' := sk tB tN (h733 75 7)) (m357.1 (by first | decide | omega)) c707 (by first | decide | omega) (by first | decide | omega) rfl (by first | decide | omega) z2 (congrArg (sk tB tN) (show h723 75 7 = h698 75 7 by first | decide | omega)) rfl (Eq.trans (Eq.symm (congrArg (sk tB tN) (show h723 75 7 = h698 75 7 by first | decide | omega))) (Eq.trans z3.symm rfl))
                  rw [rs1 rfl] at y
                  exact y⟩
            have q820 : h733 78 (251 + 4 * u8) = h723 78 (251 + 4 * u8) := jK u8 f735 rg_78_251_4_10 (by first | decide | omega) (by first | decide | omega) (by decide)
            have q821 : h723 78 (251 + 4 * u8) = h698 78 (251 + 4 * u8) := by rw [← e725]; exact x_up_i (by first | decide | omega)
            have q822 : h698 78 (251 + 4 * u8) = h347 78 (251 + 4 * u8) := jK u8 f700 rg_78_251_4_10 (by first | decide | omega) (by first | decide | omega) (by decide)
            have q823 : h733 78 (252 + 4 * u8) = h723 78 (252 + 4 * u8) := jK u8 f735 rg_78_252_4_10 (by first | decide | omega) (by first | decide | omega) (by decide)
            have q824 : h723 78 (252 + 4 * u8) = ((bor ((h347 78 (252 + 4 * u8))) (bsl 2147483649 v692))) := by rw [← e725]; exact x_up_at
            have q825 : h698 78 (252 + 4 * u8) = h347 78 (252 + 4 * u8) := jK u8 f700 rg_78_252_4_10 (by first | decide | omega) (by first | decide | omega) (by decide)
            have q826 : h723 75 7 = h698 75 7 := by rw [← e725]; exact x_up_k (by decide)
            have q827 : (v728 = 2147483649 → Bw tB tN (h 76 0 - 1) (sk tB tN (h733 75 7)) (h733 78 (252 + 4 * u8)) (sk tB tN (h178 75 7)) 2147483648) ∧ (v728 = 2147483648 → Bv tB tN (h 76 0 - 1) (sk tB tN (h178 75 7)) 2147483648 (sk tB tN (h733 75 7)) (h733 78 (252 + 4 * u8))) := by
              rcases c739 with ⟨z1, z2, z3⟩ | ⟨z1, z2, z3⟩
              · exact ⟨fun _ => Bw.go (m359.1 (by first | decide | omega)) c707 (by first | decide | omega) (by first | decide | omega) rfl (by first | decide | omega) z2 (congrArg (sk tB tN) (show h723 75 7 = h698 75 7 by first | decide | omega)) z3 rfl (by first | decide | omega), fun z => absurd z (by first | decide | omega)⟩
              · exact ⟨fun z => absurd z (by first | decide | omega), fun _ => Bw.fin (m359.1 (by first | decide | omega)) c707 (by first | decide | omega) (by first | decide | omega) rfl (by first | decide | omega) z2 (congrArg (sk tB tN) (show h723 75 7 = h698 75 7 by first | decide | omega)) (Eq.trans (Eq.symm (congrArg (sk tB tN) (show h723 75 7 = h698 75 7 by first | decide | omega))) (Eq.trans z3.symm rfl)) (by first | decide | omega)⟩
            have m828 : ∀ u, u < 10 → adr h733 u = adr h347 u := fun u hu => (Eq.trans (adr_gr f735 (by decide) u hu) (Eq.trans (show adr h723 u = adr h698 u by rw [← e725]; exact adr_i (by first | decide | omega)) (adr_gr f700 (by decide) u hu)))
            have m829 : ∀ u, u < 10 → u ≠ u8 → bdr h733 u = bdr h347 u := fun u hu hne => (Eq.trans (bdr_gr f735 (by decide) u hu) (Eq.trans (show bdr h723 u = bdr h698 u by rw [← e725]; exact bdr_i (by first | decide | omega)) (bdr_gr f700 (by decide) u hu)))
            exact i364 v728 (iv_c v692) h733 (by first | decide | omega) (by first | decide | omega) (by first | decide | omega) (by first | decide | omega) (by first | decide | omega) (by first | decide | omega) (by first | decide | omega) (by first | decide | omega) j734 f741 m815 q819 (by first | decide | omega) q827 (fun u hu => (m828 u hu).trans (m360 u hu)) (fun u hu hne => (m829 u hu hne).trans (m361 u hu hne))
          have q713 : ¬ (2147483648 ≤ v692) := q713
          refine x_const (np := 97) (x := 9223372039002259456) (a := 2147483648) (by decide +kernel) (by decide) (by decide) ?_
          have b830 := jB (e := 0) 0 hJ rg_78_0_0_1 (by first | decide | omega) (by first | decide | omega)
          have q831 : h698 78 0 = h347 78 0 := jK 0 f700 rg_78_0_0_1 (by first | decide | omega) (by first | decide | omega) (by decide)
          have q832 : h347 78 0 = h193 78 0 := jK 0 f348 rg_78_0_0_1 (by first | decide | omega) (by first | decide | omega) (by decide)
          have q833 : h193 78 0 = h178 78 0 := by rw [← e195]; exact x_up_i (by first | decide | omega)
          have q834 : h178 78 0 = h123 78 0 := jK 0 f180 rg_78_0_0_1 (by first | decide | omega) (by first | decide | omega) (by decide)
          have q835 : h123 78 0 = h109 78 0 := by rw [← e125]; exact x_up_i (by first | decide | omega)
          have q836 : h109 78 0 = h68 78 0 := jK 0 f111 rg_78_0_0_1 (by first | decide | omega) (by first | decide | omega) (by decide)
          have q837 : h68 78 0 = h34 78 0 := jK 0 f70 rg_78_0_0_1 (by first | decide | omega) (by first | decide | omega) (by decide)
          have q838 : h34 78 0 = h19 78 0 := by rw [← e36]; exact x_up_i (by first | decide | omega)
          have q839 : h19 78 0 = h 78 0 := jK 0 f21 rg_78_0_0_1 (by first | decide | omega) (by first | decide | omega) (by decide)
          have q840 : h698 78 1 = h347 78 1 := jK 0 f700 rg_78_1_0_1 (by first | decide | omega) (by first | decide | omega) (by decide)
          have q841 : h347 78 1 = h193 78 1 := jK 0 f348 rg_78_1_0_1 (by first | decide | omega) (by first | decide | omega) (by decide)
          have q842 : h193 78 1 = h178 78 1 := by rw [← e195]; exact x_up_i (by first | decide | omega)
          have q843 : h178 78 1 = h123 78 1 := jK 0 f180 rg_78_1_0_1 (by first | decide | omega) (by first | decide | omega) (by decide)
          have q844 : h123 78 1 = h109 78 1 := by rw [← e125]; exact x_up_i (by first | decide | omega)
          have q845 : h109 78 1 = h68 78 1 := jK 0 f111 rg_78_1_0_1 (by first | decide | omega) (by first | decide | omega) (by decide)
          have q846 : h68 78 1 = h34 78 1 := jK 0 f70 rg_78_1_0_1 (by first | decide | omega) (by first | decide | omega) (by decide)
          have q847 : h34 78 1 = h19 78 1 := by rw [← e36]; exact x_up_i (by first | decide | omega)
          have q848 : h19 78 1 = h 78 1 := jK 0 f21 rg_78_1_0_1 (by first | decide | omega) (by first | decide | omega) (by decide)
          have b849 := jB (e := 2) 0 hJ rg_78_2_0_1 (by first | decide | omega) (by first | decide | omega)
          have q850 : h698 78 2 = h347 78 2 := jK 0 f700 rg_78_2_0_1 (by first | decide | omega) (by first | decide | omega) (by decide)
          have q851 : h347 78 2 = h193 78 2 := jK 0 f348 rg_78_2_0_1 (by first | decide | omega) (by first | decide | omega) (by decide)
          have q852 : h193 78 2 = h178 78 2 := by rw [← e195]; exact x_up_i (by first | decide | omega)
          have q853 : h178 78 2 = h123 78 2 := jK 0 f180 rg_78_2_0_1 (by first | decide | omega) (by first | decide | omega) (by decide)
          have q854 : h123 78 2 = h109 78 2 := by rw [← e125]; exact x_up_i (by first | decide | omega)
          have q855 : h109 78 2 = h68 78 2 := jK 0 f111 rg_78_2_0_1 (by first | decide | omega) (by first | decide | omega) (by decide)
          have q856 : h68 78 2 = h34 78 2 := jK 0 f70 rg_78_2_0_1 (by first | decide | omega) (by first | decide | omega) (by decide)
          have q857 : h34 78 2 = h19 78 2 := by rw [← e36]; exact x_up_i (by first | decide | omega)
          have q858 : h19 78 2 = h 78 2 := jK 0 f21 rg_78_2_0_1 (by first | decide | omega) (by first | decide | omega) (by decide)
          have b859 := jB (e := 3) 0 hJ rg_78_3_0_1 (by first | decide | omega) (by first | decide | omega)
          have q860 : h698 78 3 = h347 78 3 := jK 0 f700 rg_78_3_0_1 (by first | decide | omega) (by first | decide | omega) (by decide)
          have q861 : h347 78 3 = h193 78 3 := jK 0 f348 rg_78_3_0_1 (by first | decide | omega) (by first | decide | omega) (by decide)
          have q862 : h193 78 3 = h178 78 3 := by rw [← e195]; exact x_up_i (by first | decide | omega)
          have q863 : h178 78 3 = h123 78 3 := jK 0 f180 rg_78_3_0_1 (by first | decide | omega) (by first | decide | omega) (by decide)
          have q864 : h123 78 3 = h109 78 3 := by rw [← e125]; exact x_up_i (by first | decide | omega)
          have q865 : h109 78 3 = h68 78 3 := jK 0 f111 rg_78_3_0_1 (by first | decide | omega) (by first | decide | omega) (by decide)
          have q866 : h68 78 3 = h34 78 3 := jK 0 f70 rg_78_3_0_1 (by first | decide | omega) (by first | decide | omega) (by decide)
          have q867 : h34 78 3 = h19 78 3 := by rw [← e36]; exact x_up_i (by first | decide | omega)
          have q868 : h19 78 3 = h 78 3 := jK 0 f21 rg_78_3_0_1 (by first | decide | omega) (by first | decide | omega) (by decide)
          have b869 := jB (e := 4) 0 hJ rg_78_4_0_1 (by first | decide | omega) (by first | decide | omega)
          have q870 : h698 78 4 = h347 78 4 := jK 0 f700 rg_78_4_0_1 (by first | decide | omega) (by first | decide | omega) (by decide)
          have q871 : h347 78 4 = h193 78 4 := jK 0 f348 rg_78_4_0_1 (by first | decide | omega) (by first | decide | omega) (by decide)
          have q872 : h193 78 4 = h178 78 4 := by rw [← e195]; exact x_up_i (by first | decide | omega)
          have q873 : h178 78 4 = h123 78 4 := jK 0 f180 rg_78_4_0_1 (by first | decide | omega) (by first | decide | omega) (by decide)
          have q874 : h123 78 4 = h109 78 4 := by rw [← e125]; exact x_up_i (by first | decide | omega)
          have q875 : h109 78 4 = h68 78 4 := jK 0 f111 rg_78_4_0_1 (by first | decide | omega) (by first | decide | omega) (by decide)
          have q876 : h68 78 4 = h34 78 4 := jK 0 f70 rg_78_4_0_1 (by first | decide | omega) (by first | decide | omega) (by decide)
          have q877 : h34 78 4 = h19 78 4 := by rw [← e36]; exact x_up_i (by first | decide | omega)
          have q878 : h19 78 4 = h 78 4 := jK 0 f21 rg_78_4_0_1 (by first | decide | omega) (by first | decide | omega) (by decide)
          have q879 : h698 78 5 = h347 78 5 := jK 0 f700 rg_78_5_0_1 (by first | decide | omega) (by first | decide | omega) (by decide)
          have q880 : h347 78 5 = h193 78 5 := jK 0 f348 rg_78_5_0_1 (by first | decide | omega) (by first | decide | omega) (by decide)
          have q881 : h193 78 5 = h178 78 5 := by rw [← e195]; exact x_up_i (by first | decide | omega)
          have q882 : h178 78 5 = h123 78 5 := jK 0 f180 rg_78_5_0_1 (by first | decide | omega) (by first | decide | omega) (by decide)
          have q883 : h123 78 5 = h109 78 5 := by rw [← e125]; exact x_up_i (by first | decide | omega)
          have q884 : h109 78 5 = h68 78 5 := jK 0 f111 rg_78_5_0_1 (by first | decide | omega) (by first | decide | omega) (by decide)
          have q885 : h68 78 5 = h34 78 5 := jK 0 f70 rg_78_5_0_1 (by first | decide | omega) (by first | decide | omega) (by decide)
          have q886 : h34 78 5 = h19 78 5 := by rw [← e36]; exact x_up_i (by first | decide | omega)
          have q887 : h19 78 5 = h 78 5 := jK 0 f21 rg_78_5_0_1 (by first | decide | omega) (by first | decide | omega) (by decide)
          have y888 := Bq.no (R := 2147483648) (q' := 0) (m357.1 (by first | decide | omega)) c707 (by first | decide | omega) (by first | decide | omega) rfl (by first | decide | omega) rfl
          have q889 : h34 75 7 = h19 75 7 := by rw [← e36]; exact x_up_k (by decide)
          obtain ⟨w890, e891⟩ := Tw.yes c74 (by first | decide | omega)
          have q892 : h123 75 7 = h109 75 7 := by rw [← e125]; exact x_up_k (by decide)
          obtain ⟨w893, e894⟩ := Tw.yes c184 (by first | decide | omega)
          refine x_retI (np := 98) (x := 0) (by decide +kernel) (by decide) (Or.inr ⟨by decide +kernel, by first | decide | omega, by first | decide | omega⟩) ⟨_, rfl, (by decide), ?_⟩
          exact ⟨j699, f708, (by first | decide | omega), (fun z => by first | decide | omega), (fun z => by first | decide | omega), (fun z => by first | decide | omega), (fun z => by first | decide | omega), (fun z => by first | decide | omega), (fun z => by first | decide | omega), (fun z => absurd z (by first | decide | omega)), (Or.inr ⟨by first | decide | omega, (nm9.y c28 (by first | decide | omega) (by first | decide | omega) rfl (by first | decide | omega) rfl (wd9.y w890 (congrArg (sk tB tN) (show h34 75 7 = h19 75 7 by first | decide | omega)) e891 rfl (nm9.y c118 (by first | decide | omega) (by first | decide | omega) rfl (by first | decide | omega) rfl (wd9.y w893 (congrArg (sk tB tN) (show h123 75 7 = h109 75 7 by first | decide | omega)) e894 rfl (bl9.f y888 rfl rfl rfl (by first | decide | omega))))))⟩), (fun z => absurd z (by first | decide | omega))⟩
      have q895 : h193 78 5 = h178 78 5 := by rw [← e195]; exact x_up_i (by first | decide | omega)
      have q896 : h178 78 5 = h123 78 5 := jK 0 f180 rg_78_5_0_1 (by first | decide | omega) (by first | decide | omega) (by decide)
      have q897 : h123 78 5 = h109 78 5 := by rw [← e125]; exact x_up_i (by first | decide | omega)
      have q898 : h109 78 5 = h68 78 5 := jK 0 f111 rg_78_5_0_1 (by first | decide | omega) (by first | decide | omega) (by decide)
      have q899 : h68 78 5 = h34 78 5 := jK 0 f70 rg_78_5_0_1 (by first | decide | omega) (by first | decide | omega) (by decide)
      have q900 : h34 78 5 = h19 78 5 := by rw [← e36]; exact x_up_i (by first | decide | omega)
      have q901 : h19 78 5 = h 78 5 := jK 0 f21 rg_78_5_0_1 (by first | decide | omega) (by first | decide | omega) (by decide)
      have b902 := jB (e := 0) 0 hJ rg_78_0_0_1 (by first | decide | omega) (by first | decide | omega)
      have q903 : h193 78 0 = h178 78 0 := by rw [← e195]; exact x_up_i (by first | decide | omega)
      have q904 : h178 78 0 = h123 78 0 := jK 0 f180 rg_78_0_0_1 (by first | decide | omega) (by first | decide | omega) (by decide)
      have q905 : h123 78 0 = h109 78 0 := by rw [← e125]; exact x_up_i (by first | decide | omega)
      have q906 : h109 78 0 = h68 78 0 := jK 0 f111 rg_78_0_0_1 (by first | decide | omega) (by first | decide | omega) (by decide)
      have q907 : h68 78 0 = h34 78 0 := jK 0 f70 rg_78_0_0_1 (by first | decide | omega) (by first | decide | omega) (by decide)
      have q908 : h34 78 0 = h19 78 0 := by rw [← e36]; exact x_up_i (by first | decide | omega)
      have q909 : h19 78 0 = h 78 0 := jK 0 f21 rg_78_0_0_1 (by first | decide | omega) (by first | decide | omega) (by decide)
      have q910 : h193 78 1 = h178 78 1 := by rw [← e195]; exact x_up_i (by first | decide | omega)
      have q911 : h178 78 1 = h123 78 1 := jK 0 f180 rg_78_1_0_1 (by first | decide | omega) (by first | decide | omega) (by decide)
      have q912 : h123 78 1 = h109 78 1 := by rw [← e125]; exact x_up_i (by first | decide | omega)
      have q913 : h109 78 1 = h68 78 1 := jK 0 f111 rg_78_1_0_1 (by first | decide | omega) (by first | decide | omega) (by decide)
      have q914 : h68 78 1 = h34 78 1 := jK 0 f70 rg_78_1_0_1 (by first | decide | omega) (by first | decide | omega) (by decide)
      have q915 : h34 78 1 = h19 78 1 := by rw [← e36]; exact x_up_i (by first | decide | omega)
      have q916 : h19 78 1 = h 78 1 := jK 0 f21 rg_78_1_0_1 (by first | decide | omega) (by first | decide | omega) (by decide)
      have b917 := jB (e := 2) 0 hJ rg_78_2_0_1 (by first | decide | omega) (by first | decide | omega)
      have q918 : h193 78 2 = h178 78 2 := by rw [← e195]; exact x_up_i (by first | decide | omega)
      have q919 : h178 78 2 = h123 78 2 := jK 0 f180 rg_78_2_0_1 (by first | decide | omega) (by first | decide | omega) (by decide)
      have q920 : h123 78 2 = h109 78 2 := by rw [← e125]; exact x_up_i (by first | decide | omega)
      have q921 : h109 78 2 = h68 78 2 := jK 0 f111 rg_78_2_0_1 (by first | decide | omega) (by first | decide | omega) (by decide)
      have q922 : h68 78 2 = h34 78 2 := jK 0 f70 rg_78_2_0_1 (by first | decide | omega) (by first | decide | omega) (by decide)
      have q923 : h34 78 2 = h19 78 2 := by rw [← e36]; exact x_up_i (by first | decide | omega)
      have q924 : h19 78 2 = h 78 2 := jK 0 f21 rg_78_2_0_1 (by first | decide | omega) (by first | decide | omega) (by decide)
      have b925 := jB (e := 3) 0 hJ rg_78_3_0_1 (by first | decide | omega) (by first | decide | omega)
      have q926 : h193 78 3 = h178 78 3 := by rw [← e195]; exact x_up_i (by first | decide | omega)
      have q927 : h178 78 3 = h123 78 3 := jK 0 f180 rg_78_3_0_1 (by first | decide | omega) (by first | decide | omega) (by decide)
      have q928 : h123 78 3 = h109 78 3 := by rw [← e125]; exact x_up_i (by first | decide | omega)
      have q929 : h109 78 3 = h68 78 3 := jK 0 f111 rg_78_3_0_1 (by first | decide | omega) (by first | decide | omega) (by decide)
      have q930 : h68 78 3 = h34 78 3 := jK 0 f70 rg_78_3_0_1 (by first | decide | omega) (by first | decide | omega) (by decide)
      have q931 : h34 78 3 = h19 78 3 := by rw [← e36]; exact x_up_i (by first | decide | omega)
      have q932 : h19 78 3 = h 78 3 := jK 0 f21 rg_78_3_0_1 (by first | decide | omega) (by first | decide | omega) (by decide)
      have b933 := jB (e := 4) 0 hJ rg_78_4_0_1 (by first | decide | omega) (by first | decide | omega)
      have q934 : h193 78 4 = h178 78 4 := by rw [← e195]; exact x_up_i (by first | decide | omega)
      have q935 : h178 78 4 = h123 78 4 := jK 0 f180 rg_78_4_0_1 (by first | decide | omega) (by first | decide | omega) (by decide)
      have q936 : h123 78 4 = h109 78 4 := by rw [← e125]; exact x_up_i (by first | decide | omega)
      have q937 : h109 78 4 = h68 78 4 := jK 0 f111 rg_78_4_0_1 (by first | decide | omega) (by first | decide | omega) (by decide)
      have q938 : h68 78 4 = h34 78 4 := jK 0 f70 rg_78_4_0_1 (by first | decide | omega) (by first | decide | omega) (by decide)
      have q939 : h34 78 4 = h19 78 4 := by rw [← e36]; exact x_up_i (by first | decide | omega)
      have q940 : h19 78 4 = h 78 4 := jK 0 f21 rg_78_4_0_1 (by first | decide | omega) (by first | decide | omega) (by decide)
      have m947 := Cl.fr hC f21 (by decide)
      have m946 : Cl h34 := by rw [← e36]; exact Cl.upR (e := (250 + 4 * u8)) (v := v16) u8 m947 rg_76_250_4_10 (by first | decide | omega) (by first | decide | omega) (by first | decide | omega)
      have m945 := Cl.fr m946 f70 (by decide)
      have m944 := Cl.fr m945 f111 (by decide)
      have m943 : Cl h123 := by rw [← e125]; exact Cl.upR (e := (251 + 4 * u8)) (v := v105) u8 m944 rg_76_251_4_10 (by first | decide | omega) (by first | decide | omega) (by first | decide | omega)
      have m942 := Cl.fr m943 f180 (by decide)
      have m941 : Cl h193 := by rw [← e195]; exact Cl.upR (e := (252 + 4 * u8)) (v := 2147483648) u8 m942 rg_76_252_4_10 (by first | decide | omega) (by first | decide | omega) (by first | decide | omega)
      have q948 : h193 75 7 = h178 75 7 := by rw [← e195]; exact x_up_k (by decide)
      have q949 : h193 78 (251 + 4 * u8) = h178 78 (251 + 4 * u8) := by rw [← e195]; exact x_up_i (by first | decide | omega)
      have q950 : h178 78 (251 + 4 * u8) = h123 78 (251 + 4 * u8) := jK u8 f180 rg_78_251_4_10 (by first | decide | omega) (by first | decide | omega) (by decide)
      have q951 : h123 78 (251 + 4 * u8) = v105 := by rw [← e125]; exact x_up_at
      have q952 : h193 78 (252 + 4 * u8) = 2147483648 := by rw [← e195]; exact x_up_at
      have q953 : h193 75 7 = h178 75 7 := by rw [← e195]; exact x_up_k (by decide)
      have m954 : ∀ u, u < 10 → adr h193 u = adr h178 u := fun u hu => (show adr h193 u = adr h178 u by rw [← e195]; exact adr_i (by first | decide | omega))
      have m955 : ∀ u, u < 10 → u ≠ u8 → bdr h193 u = bdr h178 u := fun u hu hne => (show bdr h193 u = bdr h178 u by rw [← e195]; exact bdr_i (by first | decide | omega))
      exact p350 _ 2147483649 147573952589676412928 h193 (Nat.lt_succ_self _) (by first | decide | omega) (by first | decide | omega) (by first | decide | omega) (by first | decide | omega) (by first | decide | omega) (by first | decide | omega) (by first | decide | omega) j194 (Fr.refl _ _) m941 ⟨fun _ => Bq.zero (congrArg (sk tB tN) (show h193 75 7 = h178 75 7 by first | decide | omega)), fun z => absurd z (by first | decide | omega)⟩ (by first | decide | omega) ⟨fun _ => Bw.zero (congrArg (sk tB tN) (show h193 75 7 = h178 75 7 by first | decide | omega)) (by first | decide | omega), fun z => absurd z (by first | decide | omega)⟩ m954 m955
    have q190 : ¬ (v173 ≠ 2147483648) := q190
    refine x_const (np := 64) (x := 9223372039002259456) (a := 2147483648) (by decide +kernel) (by decide) (by decide) ?_
    have b956 := jB (e := 0) 0 hJ rg_78_0_0_1 (by first | decide | omega) (by first | decide | omega)
    have q957 : h178 78 0 = h123 78 0 := jK 0 f180 rg_78_0_0_1 (by first | decide | omega) (by first | decide | omega) (by decide)
    have q958 : h123 78 0 = h109 78 0 := by rw [← e125]; exact x_up_i (by first | decide | omega)
    have q959 : h109 78 0 = h68 78 0 := jK 0 f111 rg_78_0_0_1 (by first | decide | omega) (by first | decide | omega) (by decide)
    have q960 : h68 78 0 = h34 78 0 := jK 0 f70 rg_78_0_0_1 (by first | decide | omega) (by first | decide | omega) (by decide)
    have q961 : h34 78 0 = h19 78 0 := by rw [← e36]; exact x_up_i (by first | decide | omega)
    have q962 : h19 78 0 = h 78 0 := jK 0 f21 rg_78_0_0_1 (by first | decide | omega) (by first | decide | omega) (by decide)
    have q963 : h178 78 1 = h123 78 1 := jK 0 f180 rg_78_1_0_1 (by first | decide | omega) (by first | decide | omega) (by decide)
    have q964 : h123 78 1 = h109 78 1 := by rw [← e125]; exact x_up_i (by first | decide | omega)
    have q965 : h109 78 1 = h68 78 1 := jK 0 f111 rg_78_1_0_1 (by first | decide | omega) (by first | decide | omega) (by decide)
    have q966 : h68 78 1 = h34 78 1 := jK 0 f70 rg_78_1_0_1 (by first | decide | omega) (by first | decide | omega) (by decide)
    have q967 : h34 78 1 = h19 78 1 := by rw [← e36]; exact x_up_i (by first | decide | omega)
    have q968 : h19 78 1 = h 78 1 := jK 0 f21 rg_78_1_0_1 (by first | decide | omega) (by first | decide | omega) (by decide)
    have b969 := jB (e := 2) 0 hJ rg_78_2_0_1 (by first | decide | omega) (by first | decide | omega)
    have q970 : h178 78 2 = h123 78 2 := jK 0 f180 rg_78_2_0_1 (by first | decide | omega) (by first | decide | omega) (by decide)
    have q971 : h123 78 2 = h109 78 2 := by rw [← e125]; exact x_up_i (by first | decide | omega)
    have q972 : h109 78 2 = h68 78 2 := jK 0 f111 rg_78_2_0_1 (by first | decide | omega) (by first | decide | omega) (by decide)
    have q973 : h68 78 2 = h34 78 2 := jK 0 f70 rg_78_2_0_1 (by first | decide | omega) (by first | decide | omega) (by decide)
    have q974 : h34 78 2 = h19 78 2 := by rw [← e36]; exact x_up_i (by first | decide | omega)
    have q975 : h19 78 2 = h 78 2 := jK 0 f21 rg_78_2_0_1 (by first | decide | omega) (by first | decide | omega) (by decide)
    have b976 := jB (e := 3) 0 hJ rg_78_3_0_1 (by first | decide | omega) (by first | decide | omega)
    have q977 : h178 78 3 = h123 78 3 := jK 0 f180 rg_78_3_0_1 (by first | decide | omega) (by first | decide | omega) (by decide)
    have q978 : h123 78 3 = h109 78 3 := by rw [← e125]; exact x_up_i (by first | decide | omega)
    have q979 : h109 78 3 = h68 78 3 := jK 0 f111 rg_78_3_0_1 (by first | decide | omega) (by first | decide | omega) (by decide)
    have q980 : h68 78 3 = h34 78 3 := jK 0 f70 rg_78_3_0_1 (by first | decide | omega) (by first | decide | omega) (by decide)
    have q981 : h34 78 3 = h19 78 3 := by rw [← e36]; exact x_up_i (by first | decide | omega)
    have q982 : h19 78 3 = h 78 3 := jK 0 f21 rg_78_3_0_1 (by first | decide | omega) (by first | decide | omega) (by decide)
    have b983 := jB (e := 4) 0 hJ rg_78_4_0_1 (by first | decide | omega) (by first | decide | omega)
    have q984 : h178 78 4 = h123 78 4 := jK 0 f180 rg_78_4_0_1 (by first | decide | omega) (by first | decide | omega) (by decide)
    have q985 : h123 78 4 = h109 78 4 := by rw [← e125]; exact x_up_i (by first | decide | omega)
    have q986 : h109 78 4 = h68 78 4 := jK 0 f111 rg_78_4_0_1 (by first | decide | omega) (by first | decide | omega) (by decide)
    have q987 : h68 78 4 = h34 78 4 := jK 0 f70 rg_78_4_0_1 (by first | decide | omega) (by first | decide | omega) (by decide)
    have q988 : h34 78 4 = h19 78 4 := by rw [← e36]; exact x_up_i (by first | decide | omega)
    have q989 : h19 78 4 = h 78 4 := jK 0 f21 rg_78_4_0_1 (by first | decide | omega) (by first | decide | omega) (by decide)
    have q990 : h178 78 5 = h123 78 5 := jK 0 f180 rg_78_5_0_1 (by first | decide | omega) (by first | decide | omega) (by decide)
    have q991 : h123 78 5 = h109 78 5 := by rw [← e125]; exact x_up_i (by first | decide | omega)
    have q992 : h109 78 5 = h68 78 5 := jK 0 f111 rg_78_5_0_1 (by first | decide | omega) (by first | decide | omega) (by decide)
    have q993 : h68 78 5 = h34 78 5 := jK 0 f70 rg_78_5_0_1 (by first | decide | omega) (by first | decide | omega) (by decide)
    have q994 : h34 78 5 = h19 78 5 := by rw [← e36]; exact x_up_i (by first | decide | omega)
    have q995 : h19 78 5 = h 78 5 := jK 0 f21 rg_78_5_0_1 (by first | decide | omega) (by first | decide | omega) (by decide)
    have q996 : h34 75 7 = h19 75 7 := by rw [← e36]; exact x_up_k (by decide)
    obtain ⟨w997, e998⟩ := Tw.yes c74 (by first | decide | omega)
    have q999 : h123 75 7 = h109 75 7 := by rw [← e125]; exact x_up_k (by decide)
    refine x_retI (np := 65) (x := 0) (by decide +kernel) (by decide) (Or.inr ⟨by decide +kernel, by first | decide | omega, by first | decide | omega⟩) ⟨_, rfl, (by decide), ?_⟩
    exact ⟨j179, f185, (by first | decide | omega), (fun z => by first | decide | omega), (fun z => by first | decide | omega), (fun z => by first | decide | omega), (fun z => by first | decide | omega), (fun z => by first | decide | omega), (fun z => by first | decide | omega), (fun z => absurd z (by first | decide | omega)), (Or.inr ⟨by first | decide | omega, (nm9.y c28 (by first | decide | omega) (by first | decide | omega) rfl (by first | decide | omega) rfl (wd9.y w997 (congrArg (sk tB tN) (show h34 75 7 = h19 75 7 by first | decide | omega)) e998 rfl (nm9.y c118 (by first | decide | omega) (by first | decide | omega) rfl (by first | decide | omega) rfl (wd9.f (Tw.no c184 (by first | decide | omega)) (congrArg (sk tB tN) (show h123 75 7 = h109 75 7 by first | decide | omega)) (by first | decide | omega)))))⟩), (fun z => absurd z (by first | decide | omega))⟩
  have q5 : ¬ ((h 78 5) ≠ 2147483658) := q5
  refine x_const (np := 12) (x := 9223372039002259456) (a := 2147483648) (by decide +kernel) (by decide) (by decide) ?_
  have b1000 := jB (e := 0) 0 hJ rg_78_0_0_1 (by first | decide | omega) (by first | decide | omega)
  have b1001 := jB (e := 2) 0 hJ rg_78_2_0_1 (by first | decide | omega) (by first | decide | omega)
  have b1002 := jB (e := 3) 0 hJ rg_78_3_0_1 (by first | decide | omega) (by first | decide | omega)
  have b1003 := jB (e := 4) 0 hJ rg_78_4_0_1 (by first | decide | omega) (by first | decide | omega)
  have b1004 := jB (e := 0) 0 hJ rg_76_0_0_1 (by first | decide | omega) (by first | decide | omega)
  refine x_retI (np := 13) (x := 0) (by decide +kernel) (by decide) (Or.inr ⟨by decide +kernel, by first | decide | omega, by first | decide | omega⟩) ⟨_, rfl, (by decide), ?_⟩
  exact ⟨hJ, hF, (by first | decide | omega), (fun z => by first | decide | omega), (fun z => by first | decide | omega), (fun z => by first | decide | omega), (fun z => by first | decide | omega), (fun z => by first | decide | omega), (fun z => by first | decide | omega), (fun z => absurd z (by first | decide | omega)), (Or.inl ⟨by first | decide | omega, by first | decide | omega⟩), (fun z => absurd z (by first | decide | omega))⟩
