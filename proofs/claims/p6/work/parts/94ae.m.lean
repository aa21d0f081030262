/-! ===== methods ===== -/
set_option maxHeartbeats 0 in
/-- LentNamesModel.end(I)Z -/
theorem c166_75 {sc : Nat × Nat} {d a1 : Nat} {h : xh} (hJ : J h) (ba1 : 0 ≤ a1 ∧ a1 ≤ 4294967295) : X sc 166 d (xI fun r h' => J h' ∧ Fr 655360 h h' ∧ (2147483648 ≤ r ∧ r ≤ 2147483649) ∧ ((a1 < 2147483648 ∨ h 75 6 < a1) → r = 2147483648 ∧ h' 75 6 = h 75 6) ∧ ((2147483648 ≤ a1 ∧ a1 ≤ h 75 6) → r = 2147483649 ∧ h' 75 6 = a1)) 0 0 0 [x_r 75, iv_c a1] [] h := by
  have la1 : a1 < 4294967296 := by omega
  have hF := Fr.refl 655360 h
  refine x_aload (np := 1) (x := 0) (by decide +kernel) rfl (x_nc_le (by decide)) ?_
  refine x_const (np := 2) (x := 9223372039002259456) (a := 2147483648) (by decide +kernel) (by decide) (by decide) ?_
  refine x_putI (np := 5) (x := 704) (f := 0) (by decide +kernel) (by decide +kernel) (by decide) (Or.inl (by decide)) ?_
  have j2 := jU (e := 0) (v := 2147483648) 0 hJ rg_75_0_0_1 (by omega) (by omega) (by omega)
  have f4 := jF (e := 0) (v := 2147483648) 0 hF rg_75_0_0_1 (by omega) (by omega) (by decide)
  generalize e3 : x_up h 75 0 2147483648 = h1 at j2 f4 ⊢
  refine x_iload (np := 6) (x := 1) (by decide +kernel) rfl la1 ?_
  refine x_ifz (k := 2) (tg := 17) (np := 9) (by decide +kernel) (by decide) la1 (fun q5 => ?_) (fun q6 => ?_)
  · have q5 : a1 < 2147483648 := q5
    refine x_const (np := 18) (x := 9223372039002259456) (a := 2147483648) (by decide +kernel) (by decide) (by decide) ?_
    have b7 := jB (e := 6) 0 hJ rg_75_6_0_1 (by omega) (by omega)
    have q8 : h1 75 6 = h 75 6 := by rw [← e3]; exact x_up_i (by omega)
    have q9 : h1 75 6 = h 75 6 := by rw [← e3]; exact x_up_i (by omega)
    refine x_retI (np := 19) (x := 0) (by decide +kernel) (by decide) (Or.inr ⟨by decide +kernel, by omega, by omega⟩) ⟨_, rfl, (by decide), ?_⟩
    exact ⟨j2, f4, (by omega), (fun z => by omega), (fun z => by omega)⟩
  have q6 : ¬ (a1 < 2147483648) := q6
  refine x_iload (np := 10) (x := 1) (by decide +kernel) rfl la1 ?_
  refine x_aload (np := 11) (x := 0) (by decide +kernel) rfl (x_nc_le (by decide)) ?_
  have q10 : h1 75 6 = h 75 6 := by rw [← e3]; exact x_up_i (by omega)
  have b11 := jB (e := 6) 0 hJ rg_75_6_0_1 (by omega) (by omega)
  refine x_getC (np := 14) (x := 710) (f := 6) (q := (h 75 6)) (by decide +kernel) (by decide) (by decide +kernel) q10 (fun l12 => ?_)
  refine x_icmp (k := 5) (tg := 19) (np := 17) (by decide +kernel) (by decide) la1 l12 (fun q13 => ?_) (fun q14 => ?_)
  · have q13 : a1 ≤ (h 75 6) := q13
    refine x_aload (np := 20) (x := 0) (by decide +kernel) rfl (x_nc_le (by decide)) ?_
    refine x_iload (np := 21) (x := 1) (by decide +kernel) rfl la1 ?_
    refine x_putI (np := 24) (x := 710) (f := 6) (by decide +kernel) (by decide +kernel) la1 (Or.inl (by decide)) ?_
    have j16 := jU (e := 6) (v := a1) 0 j2 rg_75_6_0_1 (by omega) (by omega) (by omega)
    have f18 := jF (e := 6) (v := a1) 0 f4 rg_75_6_0_1 (by omega) (by omega) (by decide)
    generalize e17 : x_up h1 75 6 a1 = h15 at j16 f18 ⊢
    refine x_const (np := 25) (x := 9223372043297226753) (a := 2147483649) (by decide +kernel) (by decide) (by decide) ?_
    have q19 : h15 75 6 = a1 := by rw [← e17]; exact x_up_at
    have q20 : h15 75 6 = a1 := by rw [← e17]; exact x_up_at
    refine x_retI (np := 26) (x := 0) (by decide +kernel) (by decide) (Or.inr ⟨by decide +kernel, by omega, by omega⟩) ⟨_, rfl, (by decide), ?_⟩
    exact ⟨j16, f18, (by omega), (fun z => by omega), (fun z => by omega)⟩
  have q14 : ¬ (a1 ≤ (h 75 6)) := q14
  refine x_const (np := 18) (x := 9223372039002259456) (a := 2147483648) (by decide +kernel) (by decide) (by decide) ?_
  have q21 : h1 75 6 = h 75 6 := by rw [← e3]; exact x_up_i (by omega)
  have q22 : h1 75 6 = h 75 6 := by rw [← e3]; exact x_up_i (by omega)
  refine x_retI (np := 19) (x := 0) (by decide +kernel) (by decide) (Or.inr ⟨by decide +kernel, by omega, by omega⟩) ⟨_, rfl, (by decide), ?_⟩
  exact ⟨j2, f4, (by omega), (fun z => by omega), (fun z => by omega)⟩
set_option maxHeartbeats 0 in
/-- LentNamesModel.fault()I -/
theorem c175_75 {sc : Nat × Nat} {d  : Nat} {h : xh} (hJ : J h) : X sc 175 d (xI fun r h' => J h' ∧ Fr 131072 h h' ∧ (0 ≤ r ∧ r ≤ 4294967295)) 0 0 0 [x_r 75] [] h := by
  have hF := Fr.refl 131072 h
  refine x_aload (np := 1) (x := 0) (by decide +kernel) rfl (x_nc_le (by decide)) ?_
  refine x_const (np := 2) (x := 9223372039002259456) (a := 2147483648) (by decide +kernel) (by decide) (by decide) ?_
  refine x_putI (np := 5) (x := 704) (f := 0) (by decide +kernel) (by decide +kernel) (by decide) (Or.inl (by decide)) ?_
  have j2 := jU (e := 0) (v := 2147483648) 0 hJ rg_75_0_0_1 (by omega) (by omega) (by omega)
  have f4 := jF (e := 0) (v := 2147483648) 0 hF rg_75_0_0_1 (by omega) (by omega) (by decide)
  generalize e3 : x_up h 75 0 2147483648 = h1 at j2 f4 ⊢
  refine x_aload (np := 6) (x := 0) (by decide +kernel) rfl (x_nc_le (by decide)) ?_
  have q5 : h1 75 11 = h 75 11 := by rw [← e3]; exact x_up_i (by omega)
  refine x_getC (np := 9) (x := 715) (f := 11) (q := (h 75 11)) (by decide +kernel) (by decide) (by decide +kernel) q5 (fun l6 => ?_)
  refine x_retI (np := 10) (x := 0) (by decide +kernel) l6 (Or.inl (by decide +kernel)) ⟨_, rfl, l6, ?_⟩
  exact ⟨j2, f4, (by omega)⟩
set_option maxHeartbeats 0 in
/-- LentNamesModel.blanks()V -/
theorem c168_75 {sc : Nat × Nat} {d  : Nat} {h : xh} {tB : Nat → Nat} {tN : Nat} (hJ : J h) (hT : Tq tB tN h) : X sc 168 (d + 1) (xV fun h' => J h' ∧ Fr 5242881 h h' ∧ (h 75 7 + 0 ≤ h' 75 7) ∧ (h' 75 9 = h' 75 7) ∧ h' 75 7 = sk tB tN (h 75 7)) 0 0 0 [x_r 75] [] h := by
  have hF := Fr.refl 5242881 h
  have p76 : ∀ (n : Nat) (h73 : xh), 4294967296 - h73 75 7 < n → h 75 7 ≤ h73 75 7 → J h73 → Fr 1048576 h h73 → sk tB tN (h 75 7) = sk tB tN (h73 75 7) → X sc 168 (d + 1) (xV fun h' => J h' ∧ Fr 5242881 h h' ∧ (h 75 7 + 0 ≤ h' 75 7) ∧ (h' 75 9 = h' 75 7) ∧ h' 75 7 = sk tB tN (h 75 7)) 0 0 0 [x_r 75] [] h73 := by
    intro n
    induction n with
    | zero => intro h73 q79; exact absurd q79 (Nat.not_lt_zero _)
    | succ n i80 =>
      intro h73 q79 b77 j75 f74 m78
      have f81 := Fr.trans hF f74 (by decide)
      refine x_aload (np := 1) (x := 0) (by decide +kernel) rfl (x_nc_le (by decide)) ?_
      refine x_const (np := 3) (x := 9223372176441212960) (a := 2147483680) (by decide +kernel) (by decide) (by decide) ?_
      refine x_const (np := 5) (x := 9223372176441212960) (a := 2147483680) (by decide +kernel) (by decide) (by decide) ?_
      refine x_nI (t := 6) (mj := 167) (n := 3) (rc := 12) (ml := 3) (nr := 0) (np := 8) (as := [x_r 75, iv_c 2147483680, iv_c 2147483680]) (rest := []) (lo1 := [x_r 75, iv_c 2147483680, iv_c 2147483680]) (by decide +kernel) (by decide) (by decide +kernel) (x_rb_of (by decide +kernel)) rfl rfl (x_wr (by decide) (x_wi (by decide) (x_wi (by decide) x_wn))) x_wn (by decide) rfl ?_
      refine x_aload (np := 1) (x := 0) (by decide +kernel) rfl (x_nc_le (by decide)) ?_
      have b82 := jB (e := 7) 0 j75 rg_75_7_0_1 (by omega) (by omega)
      refine x_getC (np := 4) (x := 711) (f := 7) (q := (h73 75 7)) (by decide +kernel) (by decide) (by decide +kernel) rfl (fun l83 => ?_)
      refine x_aload (np := 5) (x := 0) (by decide +kernel) rfl (x_nc_le (by decide)) ?_
      have q84 : h73 75 8 = h 75 8 := jK 0 f74 rg_75_8_0_1 (by omega) (by omega) (by decide)
      have b85 := jB (e := 8) 0 hJ rg_75_8_0_1 (by omega) (by omega)
      refine x_getC (np := 8) (x := 712) (f := 8) (q := (h 75 8)) (by decide +kernel) (by decide) (by decide +kernel) q84 (fun l86 => ?_)
      refine x_icmp (k := 3) (tg := 41) (np := 11) (by decide +kernel) (by decide) l83 l86 (fun q87 => ?_) (fun q88 => ?_)
      · have q87 : (h 75 8) ≤ (h73 75 7) := q87
        refine x_const (np := 42) (x := 9223372039002259456) (a := 2147483648) (by decide +kernel) (by decide) (by decide) ?_
        refine x_retI (np := 43) (x := 0) (by decide +kernel) (by decide) (Or.inr ⟨by decide +kernel, by omega, by omega⟩) ⟨_, rfl, (by decide), ?_⟩
        refine x_ifz (k := 0) (tg := 24) (np := 11) (by decide +kernel) (by decide) (by decide) (fun q89 => ?_) (fun q90 => ?_)
        · have q89 : 2147483648 = 2147483648 := q89
          refine x_aload (np := 25) (x := 0) (by decide +kernel) rfl (x_nc_le (by decide)) ?_
          refine x_aload (np := 26) (x := 0) (by decide +kernel) rfl (x_nc_le (by decide)) ?_
          refine x_getC (np := 29) (x := 711) (f := 7) (q := (h73 75 7)) (by decide +kernel) (by decide) (by decide +kernel) rfl (fun l91 => ?_)
          refine x_putI (np := 32) (x := 713) (f := 9) (by decide +kernel) (by decide +kernel) l83 (Or.inl (by decide)) ?_
          have j93 := jU (e := 9) (v := (h73 75 7)) 0 j75 rg_75_9_0_1 (by omega) (by omega) (by omega)
          have f95 := jF (e := 9) (v := (h73 75 7)) 0 f81 rg_75_9_0_1 (by omega) (by omega) (by decide)
          generalize e94 : x_up h73 75 9 (h73 75 7) = h92 at j93 f95 ⊢
          have b96 := jB (e := 7) 0 hJ rg_75_7_0_1 (by omega) (by omega)
          have q97 : h92 75 7 = h73 75 7 := by rw [← e94]; exact x_up_i (by omega)
          have q98 : h92 75 7 = h73 75 7 := by rw [← e94]; exact x_up_i (by omega)
          have q99 : h92 75 9 = (h73 75 7) := by rw [← e94]; exact x_up_at
          have q100 : h92 75 7 = h73 75 7 := by rw [← e94]; exact x_up_i (by omega)
          have q101 : h73 75 8 = h 75 8 := jK 0 f74 rg_75_8_0_1 (by omega) (by omega) (by decide)
          have m103 := Tq.fr hT f74 (by decide) (by decide)
          have z102 := m103.1
          refine x_retV (np := 33) (x := 0) (by decide +kernel) (by decide +kernel) ⟨rfl, ?_⟩
          exact ⟨j93, f95, (by omega), (by omega), ((show h92 75 7 = h73 75 7 by omega).trans (m78.trans (sk_stop (by omega))).symm)⟩
        have q90 : ¬ (2147483648 = 2147483648) := q90
        exfalso; omega
      have q88 : ¬ ((h 75 8) ≤ (h73 75 7)) := q88
      refine x_aload (np := 12) (x := 0) (by decide +kernel) rfl (x_nc_le (by decide)) ?_
      have q104 : h73 75 5 = 79 := by have z := jB (e := 5) 0 j75 rg_75_5_0_1 (by decide) (by decide); omega
      refine x_getR (np := 15) (x := 709) (f := 5) (q := 79) (by decide +kernel) (by decide) (by decide +kernel) q104 ?_
      refine x_aload (np := 16) (x := 0) (by decide +kernel) rfl (x_nc_le (by decide)) ?_
      refine x_getC (np := 19) (x := 711) (f := 7) (q := (h73 75 7)) (by decide +kernel) (by decide) (by decide +kernel) rfl (fun l105 => ?_)
      obtain ⟨u106, q107⟩ : ∃ z, (h73 75 7) = 2147483648 + z := ⟨(h73 75 7) - 2147483648, by omega⟩
      have q108 : h73 79 u106 = h 79 u106 := jK u106 f74 rg_79_0_1_400 (by omega) (by omega) (by decide)
      have b109 := jB (e := u106) u106 hJ rg_79_0_1_400 (by omega) (by omega)
      refine x_baldC (np := 20) (x := 0) (n := 400) (i := u106) (q := (h 79 u106)) (by decide +kernel) (by decide +kernel) (by omega) (by omega) (by decide) q108 (fun l110 => ?_)
      refine x_iload (np := 21) (x := 1) (by decide +kernel) rfl (by decide) ?_
      refine x_icmp (k := 2) (tg := 41) (np := 24) (by decide +kernel) (by decide) l110 (by decide) (fun q111 => ?_) (fun q112 => ?_)
      · have q111 : (h 79 u106) < 2147483680 := q111
        refine x_const (np := 42) (x := 9223372039002259456) (a := 2147483648) (by decide +kernel) (by decide) (by decide) ?_
        refine x_retI (np := 43) (x := 0) (by decide +kernel) (by decide) (Or.inr ⟨by decide +kernel, by omega, by omega⟩) ⟨_, rfl, (by decide), ?_⟩
        refine x_ifz (k := 0) (tg := 24) (np := 11) (by decide +kernel) (by decide) (by decide) (fun q113 => ?_) (fun q114 => ?_)
        · have q113 : 2147483648 = 2147483648 := q113
          refine x_aload (np := 25) (x := 0) (by decide +kernel) rfl (x_nc_le (by decide)) ?_
          refine x_aload (np := 26) (x := 0) (by decide +kernel) rfl (x_nc_le (by decide)) ?_
          refine x_getC (np := 29) (x := 711) (f := 7) (q := (h73 75 7)) (by decide +kernel) (by decide) (by decide +kernel) rfl (fun l115 => ?_)
          refine x_putI (np := 32) (x := 713) (f := 9) (by decide +kernel) (by decide +kernel) l83 (Or.inl (by decide)) ?_
          have j117 := jU (e := 9) (v := (h73 75 7)) 0 j75 rg_75_9_0_1 (by omega) (by omega) (by omega)
          have f119 := jF (e := 9) (v := (h73 75 7)) 0 f81 rg_75_9_0_1 (by omega) (by omega) (by decide)
          generalize e118 : x_up h73 75 9 (h73 75 7) = h116 at j117 f119 ⊢
          have b120 := jB (e := 7) 0 hJ rg_75_7_0_1 (by omega) (by omega)
          have q121 : h116 75 7 = h73 75 7 := by rw [← e118]; exact x_up_i (by omega)
          have q122 : h116 75 7 = h73 75 7 := by rw [← e118]; exact x_up_i (by omega)
          have q123 : h116 75 9 = (h73 75 7) := by rw [← e118]; exact x_up_at
          have q124 : h116 75 7 = h73 75 7 := by rw [← e118]; exact x_up_i (by omega)
          have q125 : h73 75 8 = h 75 8 := jK 0 f74 rg_75_8_0_1 (by omega) (by omega) (by decide)
          have m127 := Tq.fr hT f74 (by decide) (by decide)
          have z126 := m127.1
          have q128 : h73 79 u106 = h 79 u106 := jK u106 f74 rg_79_0_1_400 (by omega) (by omega) (by decide)
          have z129 := Tq.at (p := (h73 75 7)) (u := u106) m127 (by omega) (by omega)
          refine x_retV (np := 33) (x := 0) (by decide +kernel) (by decide +kernel) ⟨rfl, ?_⟩
          exact ⟨j117, f119, (by omega), (by omega), ((show h116 75 7 = h73 75 7 by omega).trans (m78.trans (sk_stop (by omega))).symm)⟩
        have q114 : ¬ (2147483648 = 2147483648) := q114
        exfalso; omega
      have q112 : ¬ ((h 79 u106) < 2147483680) := q112
      refine x_aload (np := 25) (x := 0) (by decide +kernel) rfl (x_nc_le (by decide)) ?_
      have q130 : h73 75 5 = 79 := by have z := jB (e := 5) 0 j75 rg_75_5_0_1 (by decide) (by decide); omega
      refine x_getR (np := 28) (x := 709) (f := 5) (q := 79) (by decide +kernel) (by decide) (by decide +kernel) q130 ?_
      refine x_aload (np := 29) (x := 0) (by decide +kernel) rfl (x_nc_le (by decide)) ?_
      refine x_getC (np := 32) (x := 711) (f := 7) (q := (h73 75 7)) (by decide +kernel) (by decide) (by decide +kernel) rfl (fun l131 => ?_)
      have q132 : h73 79 u106 = h 79 u106 := jK u106 f74 rg_79_0_1_400 (by omega) (by omega) (by decide)
      refine x_baldC (np := 33) (x := 0) (n := 400) (i := u106) (q := (h 79 u106)) (by decide +kernel) (by decide +kernel) (by omega) (by omega) (by decide) q132 (fun l133 => ?_)
      refine x_iload (np := 34) (x := 2) (by decide +kernel) rfl (by decide) ?_
      refine x_icmp (k := 4) (tg := 41) (np := 37) (by decide +kernel) (by decide) l110 (by decide) (fun q134 => ?_) (fun q135 => ?_)
      · have q134 : 2147483680 < (h 79 u106) := q134
        refine x_const (np := 42) (x := 9223372039002259456) (a := 2147483648) (by decide +kernel) (by decide) (by decide) ?_
        refine x_retI (np := 43) (x := 0) (by decide +kernel) (by decide) (Or.inr ⟨by decide +kernel, by omega, by omega⟩) ⟨_, rfl, (by decide), ?_⟩
        refine x_ifz (k := 0) (tg := 24) (np := 11) (by decide +kernel) (by decide) (by decide) (fun q136 => ?_) (fun q137 => ?_)
        · have q136 : 2147483648 = 2147483648 := q136
          refine x_aload (np := 25) (x := 0) (by decide +kernel) rfl (x_nc_le (by decide)) ?_
          refine x_aload (np := 26) (x := 0) (by decide +kernel) rfl (x_nc_le (by decide)) ?_
          refine x_getC (np := 29) (x := 711) (f := 7) (q := (h73 75 7)) (by decide +kernel) (by decide) (by decide +kernel) rfl (fun l138 => ?_)
          refine x_putI (np := 32) (x := 713) (f := 9) (by decide +kernel) (by decide +kernel) l83 (Or.inl (by decide)) ?_
          have j140 := jU (e := 9) (v := (h73 75 7)) 0 j75 rg_75_9_0_1 (by omega) (by omega) (by omega)
          have f142 := jF (e := 9) (v := (h73 75 7)) 0 f81 rg_75_9_0_1 (by omega) (by omega) (by decide)
          generalize e141 : x_up h73 75 9 (h73 75 7) = h139 at j140 f142 ⊢
          have b143 := jB (e := 7) 0 hJ rg_75_7_0_1 (by omega) (by omega)
          have q144 : h139 75 7 = h73 75 7 := by rw [← e141]; exact x_up_i (by omega)
          have q145 : h139 75 7 = h73 75 7 := by rw [← e141]; exact x_up_i (by omega)
          have q146 : h139 75 9 = (h73 75 7) := by rw [← e141]; exact x_up_at
          have q147 : h139 75 7 = h73 75 7 := by rw [← e141]; exact x_up_i (by omega)
          have q148 : h73 75 8 = h 75 8 := jK 0 f74 rg_75_8_0_1 (by omega) (by omega) (by decide)
          have m150 := Tq.fr hT f74 (by decide) (by decide)
          have z149 := m150.1
          have q151 : h73 79 u106 = h 79 u106 := jK u106 f74 rg_79_0_1_400 (by omega) (by omega) (by decide)
          have z152 := Tq.at (p := (h73 75 7)) (u := u106) m150 (by omega) (by omega)
          refine x_retV (np := 33) (x := 0) (by decide +kernel) (by decide +kernel) ⟨rfl, ?_⟩
          exact ⟨j140, f142, (by omega), (by omega), ((show h139 75 7 = h73 75 7 by omega).trans (m78.trans (sk_stop (by omega))).symm)⟩
        have q137 : ¬ (2147483648 = 2147483648) := q137
        exfalso; omega
      have q135 : ¬ (2147483680 < (h 79 u106)) := q135
      refine x_const (np := 38) (x := 9223372043297226753) (a := 2147483649) (by decide +kernel) (by decide) (by decide) ?_
      refine x_goto (np := 41) (x := 42) (by decide +kernel) ?_
      refine x_retI (np := 43) (x := 0) (by decide +kernel) (by decide) (Or.inr ⟨by decide +kernel, by omega, by omega⟩) ⟨_, rfl, (by decide), ?_⟩
      refine x_ifz (k := 0) (tg := 24) (np := 11) (by decide +kernel) (by decide) (by decide) (fun q153 => ?_) (fun q154 => ?_)
      · have q153 : 2147483649 = 2147483648 := q153
        exfalso; omega
      have q154 : ¬ (2147483649 = 2147483648) := q154
      refine x_aload (np := 12) (x := 0) (by decide +kernel) rfl (x_nc_le (by decide)) ?_
      refine x_dup (np := 13) (x := 0) (by decide +kernel) (by have z := x_nc_le (k := 75) (by decide); unfold x_r; omega) ?_
      refine x_getC (np := 16) (x := 711) (f := 7) (q := (h73 75 7)) (by decide +kernel) (by decide) (by decide +kernel) rfl (fun l155 => ?_)
      refine x_const (np := 17) (x := 9223372043297226753) (a := 2147483649) (by decide +kernel) (by decide) (by decide) ?_
      refine x_iadd (np := 18) (x := 0) (v := (1 + (h73 75 7))) (by decide +kernel) l83 (by decide) (by omega) (by omega) ?_
      refine x_putI (np := 21) (x := 711) (f := 7) (by decide +kernel) (by decide +kernel) (by omega) (Or.inl (by decide)) ?_
      have j157 := jU (e := 7) (v := (1 + (h73 75 7))) 0 j75 rg_75_7_0_1 (by omega) (by omega) (by omega)
      have f159 := jF (e := 7) (v := (1 + (h73 75 7))) 0 f81 rg_75_7_0_1 (by omega) (by omega) (by decide)
      have f160 := jF (e := 7) (v := (1 + (h73 75 7))) 0 f74 rg_75_7_0_1 (by omega) (by omega) (by decide)
      generalize e158 : x_up h73 75 7 (1 + (h73 75 7)) = h156 at j157 f159 f160 ⊢
      refine x_goto (np := 24) (x := 0) (by decide +kernel) ?_
      have q161 : h156 75 7 = (1 + (h73 75 7)) := by rw [← e158]; exact x_up_at
      have b162 := jB (e := 7) 0 hJ rg_75_7_0_1 (by omega) (by omega)
      have q163 : h156 75 7 = (1 + (h73 75 7)) := by rw [← e158]; exact x_up_at
      have q164 : h73 75 8 = h 75 8 := jK 0 f74 rg_75_8_0_1 (by omega) (by omega) (by decide)
      have m166 := Tq.fr hT f74 (by decide) (by decide)
      have z165 := m166.1
      have q167 : h73 79 u106 = h 79 u106 := jK u106 f74 rg_79_0_1_400 (by omega) (by omega) (by decide)
      have z168 := Tq.at (p := (h73 75 7)) (u := u106) m166 (by omega) (by omega)
      have q169 : h156 75 7 = (1 + (h73 75 7)) := by rw [← e158]; exact x_up_at
      exact i80  h156 (by omega) (by omega) j157 f160 (m78.trans ((sk_step (by omega) (by omega)).trans (congrArg (sk tB tN) (show h73 75 7 + 1 = h156 75 7 by omega))))
  have b170 := jB (e := 7) 0 hJ rg_75_7_0_1 (by omega) (by omega)
  exact p76 _  h (Nat.lt_succ_self _) (by omega) hJ (Fr.refl _ _) rfl
set_option maxHeartbeats 0 in
/-- LentNamesModel.letters()V -/
theorem c169_75 {sc : Nat × Nat} {d  : Nat} {h : xh} {tB : Nat → Nat} {tN : Nat} (hJ : J h) (hT : Tq tB tN h) : X sc 169 (d + 2) (xV fun h' => J h' ∧ Fr 5242881 h h' ∧ (h 75 7 ≤ h' 75 9) ∧ (h' 75 9 ≤ h' 75 7) ∧ h' 75 9 = sk tB tN (h 75 7) ∧ h' 75 7 = le9 tB tN (h' 75 9)) 0 0 0 [x_r 75] [] h := by
  have hF := Fr.refl 5242881 h
  refine x_aload (np := 1) (x := 0) (by decide +kernel) rfl (x_nc_le (by decide)) ?_
  refine x_cV (t := 6) (mj := 168) (n := 1) (rc := 12) (ml := 1) (nr := 0) (np := 4) (as := [x_r 75]) (rest := []) (lo1 := [x_r 75]) (by decide +kernel) (by decide) (by decide +kernel) (x_rb_of (by decide +kernel)) rfl rfl (x_wr (by decide) x_wn) x_wn (by decide) rfl (c168_75 hJ  hT) (fun h4 q3 => ?_)
  obtain ⟨j5, f6, c9, c10, c11⟩ := q3
  have f12 := Fr.trans hF f6 (by decide)
  have b13 := jB (e := 7) 0 hJ rg_75_7_0_1 (by omega) (by omega)
  have b14 := jB (e := 7) 0 j5 rg_75_7_0_1 (by omega) (by omega)
  have b15 := jB (e := 9) 0 j5 rg_75_9_0_1 (by omega) (by omega)
  have p96 : ∀ (n : Nat) (h93 : xh), 4294967296 - h93 75 7 < n → h 75 7 ≤ h93 75 9 → h93 75 9 ≤ h93 75 7 → J h93 → Fr 1048576 h4 h93 → h93 75 9 = sk tB tN (h 75 7) ∧ le9 tB tN (h93 75 9) = le9 tB tN (h93 75 7) → X sc 169 (d + 2) (xV fun h' => J h' ∧ Fr 5242881 h h' ∧ (h 75 7 ≤ h' 75 9) ∧ (h' 75 9 ≤ h' 75 7) ∧ h' 75 9 = sk tB tN (h 75 7) ∧ h' 75 7 = le9 tB tN (h' 75 9)) 0 0 4 [x_r 75] [] h93 := by
    intro n
    induction n with
    | zero => intro h93 q100; exact absurd q100 (Nat.not_lt_zero _)
    | succ n i101 =>
      intro h93 q100 b97 b98 j95 f94 m99
      have f102 := Fr.trans f12 f94 (by decide)
      refine x_aload (np := 5) (x := 0) (by decide +kernel) rfl (x_nc_le (by decide)) ?_
      refine x_const (np := 7) (x := 9223372455614087265) (a := 2147483745) (by decide +kernel) (by decide) (by decide) ?_
      refine x_const (np := 9) (x := 9223372562988269690) (a := 2147483770) (by decide +kernel) (by decide) (by decide) ?_
      refine x_nI (t := 6) (mj := 167) (n := 3) (rc := 12) (ml := 3) (nr := 0) (np := 12) (as := [x_r 75, iv_c 2147483745, iv_c 2147483770]) (rest := []) (lo1 := [x_r 75, iv_c 2147483745, iv_c 2147483770]) (by decide +kernel) (by decide) (by decide +kernel) (x_rb_of (by decide +kernel)) rfl rfl (x_wr (by decide) (x_wi (by decide) (x_wi (by decide) x_wn))) x_wn (by decide) rfl ?_
      refine x_aload (np := 1) (x := 0) (by decide +kernel) rfl (x_nc_le (by decide)) ?_
      have b103 := jB (e := 7) 0 j95 rg_75_7_0_1 (by omega) (by omega)
      refine x_getC (np := 4) (x := 711) (f := 7) (q := (h93 75 7)) (by decide +kernel) (by decide) (by decide +kernel) rfl (fun l104 => ?_)
      refine x_aload (np := 5) (x := 0) (by decide +kernel) rfl (x_nc_le (by decide)) ?_
      have q105 : h93 75 8 = h4 75 8 := jK 0 f94 rg_75_8_0_1 (by omega) (by omega) (by decide)
      have q106 : h4 75 8 = h 75 8 := jK 0 f6 rg_75_8_0_1 (by omega) (by omega) (by decide)
      have b107 := jB (e := 8) 0 hJ rg_75_8_0_1 (by omega) (by omega)
      refine x_getC (np := 8) (x := 712) (f := 8) (q := (h 75 8)) (by decide +kernel) (by decide) (by decide +kernel) (q105.trans q106) (fun l108 => ?_)
      refine x_icmp (k := 3) (tg := 41) (np := 11) (by decide +kernel) (by decide) l104 l108 (fun q109 => ?_) (fun q110 => ?_)
      · have q109 : (h 75 8) ≤ (h93 75 7) := q109
        refine x_const (np := 42) (x := 9223372039002259456) (a := 2147483648) (by decide +kernel) (by decide) (by decide) ?_
        refine x_retI (np := 43) (x := 0) (by decide +kernel) (by decide) (Or.inr ⟨by decide +kernel, by omega, by omega⟩) ⟨_, rfl, (by decide), ?_⟩
        refine x_ifz (k := 0) (tg := 28) (np := 15) (by decide +kernel) (by decide) (by decide) (fun q111 => ?_) (fun q112 => ?_)
        · have q111 : 2147483648 = 2147483648 := q111
          have q113 : h93 75 9 = h4 75 9 := jK 0 f94 rg_75_9_0_1 (by omega) (by omega) (by decide)
          have q114 : h93 75 9 = h4 75 9 := jK 0 f94 rg_75_9_0_1 (by omega) (by omega) (by decide)
          have q115 : h93 75 8 = h4 75 8 := jK 0 f94 rg_75_8_0_1 (by omega) (by omega) (by decide)
          have q116 : h4 75 8 = h 75 8 := jK 0 f6 rg_75_8_0_1 (by omega) (by omega) (by decide)
          have m119 := Tq.fr hT f6 (by decide) (by decide)
          have m118 := Tq.fr m119 f94 (by decide) (by decide)
          have z117 := m118.1
          refine x_retV (np := 29) (x := 0) (by decide +kernel) (by decide +kernel) ⟨rfl, ?_⟩
          exact ⟨j95, f102, (by omega), (by omega), m99.1, ((m99.2.trans (le9_stop (fun z => by have z1 := z.1; have z2 := z.2.1; have z3 := z.2.2; omega))).symm)⟩
        have q112 : ¬ (2147483648 = 2147483648) := q112
        exfalso; omega
      have q110 : ¬ ((h 75 8) ≤ (h93 75 7)) := q110
      refine x_aload (np := 12) (x := 0) (by decide +kernel) rfl (x_nc_le (by decide)) ?_
      have q120 : h93 75 5 = 79 := by have z := jB (e := 5) 0 j95 rg_75_5_0_1 (by decide) (by decide); omega
      refine x_getR (np := 15) (x := 709) (f := 5) (q := 79) (by decide +kernel) (by decide) (by decide +kernel) q120 ?_
      refine x_aload (np := 16) (x := 0) (by decide +kernel) rfl (x_nc_le (by decide)) ?_
      refine x_getC (np := 19) (x := 711) (f := 7) (q := (h93 75 7)) (by decide +kernel) (by decide) (by decide +kernel) rfl (fun l121 => ?_)
      obtain ⟨u122, q123⟩ : ∃ z, (h93 75 7) = 2147483648 + z := ⟨(h93 75 7) - 2147483648, by omega⟩
      have q124 : h93 79 u122 = h4 79 u122 := jK u122 f94 rg_79_0_1_400 (by omega) (by omega) (by decide)
      have q125 : h4 79 u122 = h 79 u122 := jK u122 f6 rg_79_0_1_400 (by omega) (by omega) (by decide)
      have b126 := jB (e := u122) u122 hJ rg_79_0_1_400 (by omega) (by omega)
      refine x_baldC (np := 20) (x := 0) (n := 400) (i := u122) (q := (h 79 u122)) (by decide +kernel) (by decide +kernel) (by omega) (by omega) (by decide) (q124.trans q125) (fun l127 => ?_)
      refine x_iload (np := 21) (x := 1) (by decide +kernel) rfl (by decide) ?_
      refine x_icmp (k := 2) (tg := 41) (np := 24) (by decide +kernel) (by decide) l127 (by decide) (fun q128 => ?_) (fun q129 => ?_)
      · have q128 : (h 79 u122) < 2147483745 := q128
        refine x_const (np := 42) (x := 9223372039002259456) (a := 2147483648) (by decide +kernel) (by decide) (by decide) ?_
        refine x_retI (np := 43) (x := 0) (by decide +kernel) (by decide) (Or.inr ⟨by decide +kernel, by omega, by omega⟩) ⟨_, rfl, (by decide), ?_⟩
        refine x_ifz (k := 0) (tg := 28) (np := 15) (by decide +kernel) (by decide) (by decide) (fun q130 => ?_) (fun q131 => ?_)
        · have q130 : 2147483648 = 2147483648 := q130
          have q132 : h93 75 9 = h4 75 9 := jK 0 f94 rg_75_9_0_1 (by omega) (by omega) (by decide)
          have q133 : h93 75 9 = h4 75 9 := jK 0 f94 rg_75_9_0_1 (by omega) (by omega) (by decide)
          have q134 : h93 75 8 = h4 75 8 := jK 0 f94 rg_75_8_0_1 (by omega) (by omega) (by decide)
          have q135 : h4 75 8 = h 75 8 := jK 0 f6 rg_75_8_0_1 (by omega) (by omega) (by decide)
          have m138 := Tq.fr hT f6 (by decide) (by decide)
          have m137 := Tq.fr m138 f94 (by decide) (by decide)
          have z136 := m137.1
          have q139 : h93 79 u122 = h4 79 u122 := jK u122 f94 rg_79_0_1_400 (by omega) (by omega) (by decide)
          have q140 : h4 79 u122 = h 79 u122 := jK u122 f6 rg_79_0_1_400 (by omega) (by omega) (by decide)
          have z141 := Tq.at (p := (h93 75 7)) (u := u122) m137 (by omega) (by omega)
          refine x_retV (np := 29) (x := 0) (by decide +kernel) (by decide +kernel) ⟨rfl, ?_⟩
          exact ⟨j95, f102, (by omega), (by omega), m99.1, ((m99.2.trans (le9_stop (fun z => by have z1 := z.1; have z2 := z.2.1; have z3 := z.2.2; omega))).symm)⟩
        have q131 : ¬ (2147483648 = 2147483648) := q131
        exfalso; omega
      have q129 : ¬ ((h 79 u122) < 2147483745) := q129
      refine x_aload (np := 25) (x := 0) (by decide +kernel) rfl (x_nc_le (by decide)) ?_
      have q142 : h93 75 5 = 79 := by have z := jB (e := 5) 0 j95 rg_75_5_0_1 (by decide) (by decide); omega
      refine x_getR (np := 28) (x := 709) (f := 5) (q := 79) (by decide +kernel) (by decide) (by decide +kernel) q142 ?_
      refine x_aload (np := 29) (x := 0) (by decide +kernel) rfl (x_nc_le (by decide)) ?_
      refine x_getC (np := 32) (x := 711) (f := 7) (q := (h93 75 7)) (by decide +kernel) (by decide) (by decide +kernel) rfl (fun l143 => ?_)
      have q144 : h93 79 u122 = h4 79 u122 := jK u122 f94 rg_79_0_1_400 (by omega) (by omega) (by decide)
      have q145 : h4 79 u122 = h 79 u122 := jK u122 f6 rg_79_0_1_400 (by omega) (by omega) (by decide)
      refine x_baldC (np := 33) (x := 0) (n := 400) (i := u122) (q := (h 79 u122)) (by decide +kernel) (by decide +kernel) (by omega) (by omega) (by decide) (q144.trans q145) (fun l146 => ?_)
      refine x_iload (np := 34) (x := 2) (by decide +kernel) rfl (by decide) ?_
      refine x_icmp (k := 4) (tg := 41) (np := 37) (by decide +kernel) (by decide) l127 (by decide) (fun q147 => ?_) (fun q148 => ?_)
      · have q147 : 2147483770 < (h 79 u122) := q147
        refine x_const (np := 42) (x := 9223372039002259456) (a := 2147483648) (by decide +kernel) (by decide) (by decide) ?_
        refine x_retI (np := 43) (x := 0) (by decide +kernel) (by decide) (Or.inr ⟨by decide +kernel, by omega, by omega⟩) ⟨_, rfl, (by decide), ?_⟩
        refine x_ifz (k := 0) (tg := 28) (np := 15) (by decide +kernel) (by decide) (by decide) (fun q149 => ?_) (fun q150 => ?_)
        · have q149 : 2147483648 = 2147483648 := q149
          have q151 : h93 75 9 = h4 75 9 := jK 0 f94 rg_75_9_0_1 (by omega) (by omega) (by decide)
          have q152 : h93 75 9 = h4 75 9 := jK 0 f94 rg_75_9_0_1 (by omega) (by omega) (by decide)
          have q153 : h93 75 8 = h4 75 8 := jK 0 f94 rg_75_8_0_1 (by omega) (by omega) (by decide)
          have q154 : h4 75 8 = h 75 8 := jK 0 f6 rg_75_8_0_1 (by omega) (by omega) (by decide)
          have m157 := Tq.fr hT f6 (by decide) (by decide)
          have m156 := Tq.fr m157 f94 (by decide) (by decide)
          have z155 := m156.1
          have q158 : h93 79 u122 = h4 79 u122 := jK u122 f94 rg_79_0_1_400 (by omega) (by omega) (by decide)
          have q159 : h4 79 u122 = h 79 u122 := jK u122 f6 rg_79_0_1_400 (by omega) (by omega) (by decide)
          have z160 := Tq.at (p := (h93 75 7)) (u := u122) m156 (by omega) (by omega)
          refine x_retV (np := 29) (x := 0) (by decide +kernel) (by decide +kernel) ⟨rfl, ?_⟩
          exact ⟨j95, f102, (by omega), (by omega), m99.1, ((m99.2.trans (le9_stop (fun z => by have z1 := z.1; have z2 := z.2.1; have z3 := z.2.2; omega))).symm)⟩
        have q150 : ¬ (2147483648 = 2147483648) := q150
        exfalso; omega
      have q148 : ¬ (2147483770 < (h 79 u122)) := q148
      refine x_const (np := 38) (x := 9223372043297226753) (a := 2147483649) (by decide +kernel) (by decide) (by decide) ?_
      refine x_goto (np := 41) (x := 42) (by decide +kernel) ?_
      refine x_retI (np := 43) (x := 0) (by decide +kernel) (by decide) (Or.inr ⟨by decide +kernel, by omega, by omega⟩) ⟨_, rfl, (by decide), ?_⟩
      refine x_ifz (k := 0) (tg := 28) (np := 15) (by decide +kernel) (by decide) (by decide) (fun q161 => ?_) (fun q162 => ?_)
      · have q161 : 2147483649 = 2147483648 := q161
        exfalso; omega
      have q162 : ¬ (2147483649 = 2147483648) := q162
      refine x_aload (np := 16) (x := 0) (by decide +kernel) rfl (x_nc_le (by decide)) ?_
      refine x_dup (np := 17) (x := 0) (by decide +kernel) (by have z := x_nc_le (k := 75) (by decide); unfold x_r; omega) ?_
      refine x_getC (np := 20) (x := 711) (f := 7) (q := (h93 75 7)) (by decide +kernel) (by decide) (by decide +kernel) rfl (fun l163 => ?_)
      refine x_const (np := 21) (x := 9223372043297226753) (a := 2147483649) (by decide +kernel) (by decide) (by decide) ?_
      refine x_iadd (np := 22) (x := 0) (v := (1 + (h93 75 7))) (by decide +kernel) l104 (by decide) (by omega) (by omega) ?_
      refine x_putI (np := 25) (x := 711) (f := 7) (by decide +kernel) (by decide +kernel) (by omega) (Or.inl (by decide)) ?_
      have j165 := jU (e := 7) (v := (1 + (h93 75 7))) 0 j95 rg_75_7_0_1 (by omega) (by omega) (by omega)
      have f167 := jF (e := 7) (v := (1 + (h93 75 7))) 0 f102 rg_75_7_0_1 (by omega) (by omega) (by decide)
      have f168 := jF (e := 7) (v := (1 + (h93 75 7))) 0 f94 rg_75_7_0_1 (by omega) (by omega) (by decide)
      generalize e166 : x_up h93 75 7 (1 + (h93 75 7)) = h164 at j165 f167 f168 ⊢
      refine x_goto (np := 28) (x := 4) (by decide +kernel) ?_
      have q169 : h164 75 7 = (1 + (h93 75 7)) := by rw [← e166]; exact x_up_at
      have q170 : h164 75 7 = (1 + (h93 75 7)) := by rw [← e166]; exact x_up_at
      have q171 : h164 75 9 = h93 75 9 := by rw [← e166]; exact x_up_i (by omega)
      have q172 : h93 75 9 = h4 75 9 := jK 0 f94 rg_75_9_0_1 (by omega) (by omega) (by decide)
      have q173 : h93 75 8 = h4 75 8 := jK 0 f94 rg_75_8_0_1 (by omega) (by omega) (by decide)
      have q174 : h4 75 8 = h 75 8 := jK 0 f6 rg_75_8_0_1 (by omega) (by omega) (by decide)
      have m177 := Tq.fr hT f6 (by decide) (by decide)
      have m176 := Tq.fr m177 f94 (by decide) (by decide)
      have z175 := m176.1
      have q178 : h93 79 u122 = h4 79 u122 := jK u122 f94 rg_79_0_1_400 (by omega) (by omega) (by decide)
      have q179 : h4 79 u122 = h 79 u122 := jK u122 f6 rg_79_0_1_400 (by omega) (by omega) (by decide)
      have z180 := Tq.at (p := (h93 75 7)) (u := u122) m176 (by omega) (by omega)
      have q181 : h164 75 7 = (1 + (h93 75 7)) := by rw [← e166]; exact x_up_at
      have q182 : h164 75 9 = h93 75 9 := by rw [← e166]; exact x_up_i (by omega)
      have q183 : h93 75 9 = h4 75 9 := jK 0 f94 rg_75_9_0_1 (by omega) (by omega) (by decide)
      have q184 : h93 75 9 = h4 75 9 := jK 0 f94 rg_75_9_0_1 (by omega) (by omega) (by decide)
      exact i101  h164 (by omega) (by omega) (by omega) j165 f168 ⟨(show h164 75 9 = h93 75 9 by omega).trans m99.1, (congrArg (le9 tB tN) (show h164 75 9 = h93 75 9 by omega)).trans (m99.2.trans ((le9_step ⟨by omega, by omega, by omega⟩).trans (congrArg (le9 tB tN) (show h93 75 7 + 1 = h164 75 7 by omega))))⟩
  exact p96 _  h4 (Nat.lt_succ_self _) (by omega) (by omega) j5 (Fr.refl _ _) ⟨(show h4 75 9 = h4 75 7 by omega).trans c11, congrArg (le9 tB tN) (show h4 75 9 = h4 75 7 by omega)⟩
set_option maxHeartbeats 0 in
/-- LentNamesModel.isWord(Ljava/lang/String;)Z -/
theorem c170_75_S0 {sc : Nat × Nat} {d ia1 : Nat} {h : xh} {tB : Nat → Nat} {tN : Nat} (hJ : J h) (hia1 : ia1 < 32) (hT : Tq tB tN h) : X sc 170 (d + 4) (xI fun r h' => h' = h ∧ (2147483648 ≤ r ∧ r ≤ 2147483649) ∧ (r = 2147483649 → h 75 7 = h 75 9 + iv_tl ia1) ∧ Is (Wm tB ia1 (h 75 9) (h 75 7)) r) 0 0 0 [x_r 75, x_b (ia1 + 1), 147573952589676412928, 147573952589676412928] [] h := by
  refine x_aload (np := 1) (x := 0) (by decide +kernel) rfl (x_nc_le (by decide)) ?_
  have b1 := jB (e := 7) 0 hJ rg_75_7_0_1 (by omega) (by omega)
  refine x_getC (np := 4) (x := 711) (f := 7) (q := (h 75 7)) (by decide +kernel) (by decide) (by decide +kernel) rfl (fun l2 => ?_)
  refine x_aload (np := 5) (x := 0) (by decide +kernel) rfl (x_nc_le (by decide)) ?_
  have b3 := jB (e := 9) 0 hJ rg_75_9_0_1 (by omega) (by omega)
  refine x_getC (np := 8) (x := 713) (f := 9) (q := (h 75 9)) (by decide +kernel) (by decide) (by decide +kernel) rfl (fun l4 => ?_)
  obtain ⟨v5, q6⟩ : ∃ z, z + (h 75 9) = (h 75 7) + 2147483648 := ⟨(h 75 7) + 2147483648 - (h 75 9), by omega⟩
  refine x_isub (np := 9) (x := 0) (v := v5) (by decide +kernel) l2 l4 (by omega) (by omega) ?_
  refine x_aloadB (i := ia1) (k4 := 1) rfl hia1 (by rw [tb_b170]; decide +kernel) ?_
  have b7 := (iv_tl_lt ia1 hia1).1
  have b8 := iv_tl_ge ia1 hia1
  refine x_len (by decide +kernel) (by rw [tb_y170]; exact sl_Ml) hia1 (by rw [tb_b170]; decide +kernel) (Nat.le_trans (x_wi (by omega) x_wn) (by decide)) ?_
  refine x_icmp (k := 1) (tg := 20) (np := 16) (by decide +kernel) (by decide) (by omega) (by omega) (fun q9 => ?_) (fun q10 => ?_)
  · have q9 : v5 ≠ (2147483648 + (iv_tl ia1)) := q9
    refine x_const (np := 21) (x := 9223372039002259456) (a := 2147483648) (by decide +kernel) (by decide) (by decide) ?_
    refine x_istore (np := 22) (x := 2) (lo' := [x_r 75, x_b (ia1 + 1), iv_c 2147483648, 147573952589676412928]) (by decide +kernel) (by decide) (Nat.le_of_ble_eq_true rfl) rfl ?_
    refine x_const (np := 23) (x := 9223372039002259456) (a := 2147483648) (by decide +kernel) (by decide) (by decide) ?_
    refine x_istore (np := 24) (x := 3) (lo' := [x_r 75, x_b (ia1 + 1), iv_c 2147483648, iv_c 2147483648]) (by decide +kernel) (by decide) (Nat.le_of_ble_eq_true rfl) rfl ?_
    have p21 : ∀ (n : Nat) (v17 : Nat) (v19 : Nat), 0 < n → (2147483648 ≤ v17 ∧ v17 ≤ 2147483648) → (2147483648 ≤ v19 ∧ v19 ≤ 2147483648) → Wi tB ia1 (h 75 9) (h 75 7) v17 v19 → X sc 170 (d + 4) (xI fun r h' => h' = h ∧ (2147483648 ≤ r ∧ r ≤ 2147483649) ∧ (r = 2147483649 → h 75 7 = h 75 9 + iv_tl ia1) ∧ Is (Wm tB ia1 (h 75 9) (h 75 7)) r) 0 0 24 [x_r 75, x_b (ia1 + 1), iv_c v17, iv_c v19] [] h := by
      intro n
      induction n with
      | zero => intro v17 v19 q23; exact absurd q23 (Nat.not_lt_zero _)
      | succ n i24 =>
        intro v17 v19 q23 b18 b20 m22
        refine x_iload (np := 25) (x := 2) (by decide +kernel) rfl (by omega) ?_
        refine x_ifz (k := 0) (tg := 67) (np := 28) (by decide +kernel) (by decide) (by omega) (fun q25 => ?_) (fun q26 => ?_)
        · have q25 : v17 = 2147483648 := q25
          refine x_iload (np := 68) (x := 2) (by decide +kernel) rfl (by omega) ?_
          have b27 := iv_tl_ge ia1 hia1
          refine x_retI (np := 69) (x := 0) (by decide +kernel) (by omega) (Or.inr ⟨by decide +kernel, by omega, by omega⟩) ⟨_, rfl, (by omega), ?_⟩
          exact ⟨rfl, (by omega), (fun z => by omega), (Wi.is m22 (by omega) (by omega))⟩
        have q26 : ¬ (v17 = 2147483648) := q26
        exfalso; omega
    exact p21 _ 2147483648 2147483648 (Nat.lt_succ_self _) (by omega) (by omega) (Wi.in0 (by omega) (by omega))
  have q10 : ¬ (v5 ≠ (2147483648 + (iv_tl ia1))) := q10
  refine x_const (np := 17) (x := 9223372043297226753) (a := 2147483649) (by decide +kernel) (by decide) (by decide) ?_
  refine x_goto (np := 20) (x := 21) (by decide +kernel) ?_
  refine x_istore (np := 22) (x := 2) (lo' := [x_r 75, x_b (ia1 + 1), iv_c 2147483649, 147573952589676412928]) (by decide +kernel) (by decide) (Nat.le_of_ble_eq_true rfl) rfl ?_
  refine x_const (np := 23) (x := 9223372039002259456) (a := 2147483648) (by decide +kernel) (by decide) (by decide) ?_
  refine x_istore (np := 24) (x := 3) (lo' := [x_r 75, x_b (ia1 + 1), iv_c 2147483649, iv_c 2147483648]) (by decide +kernel) (by decide) (Nat.le_of_ble_eq_true rfl) rfl ?_
  have p354 : ∀ (n : Nat) (v350 : Nat) (v352 : Nat), 4294967296 - v352 < n → (2147483648 ≤ v350 ∧ v350 ≤ 2147483649) → (2147483648 ≤ v352 ∧ v352 ≤ 2147483667) → Wi tB ia1 (h 75 9) (h 75 7) v350 v352 → X sc 170 (d + 4) (xI fun r h' => h' = h ∧ (2147483648 ≤ r ∧ r ≤ 2147483649) ∧ (r = 2147483649 → h 75 7 = h 75 9 + iv_tl ia1) ∧ Is (Wm tB ia1 (h 75 9) (h 75 7)) r) 0 0 24 [x_r 75, x_b (ia1 + 1), iv_c v350, iv_c v352] [] h := by
    intro n
    induction n with
    | zero => intro v350 v352 q356; exact absurd q356 (Nat.not_lt_zero _)
    | succ n i357 =>
      intro v350 v352 q356 b351 b353 m355
      refine x_iload (np := 25) (x := 2) (by decide +kernel) rfl (by omega) ?_
      refine x_ifz (k := 0) (tg := 67) (np := 28) (by decide +kernel) (by decide) (by omega) (fun q358 => ?_) (fun q359 => ?_)
      · have q358 : v350 = 2147483648 := q358
        refine x_iload (np := 68) (x := 2) (by decide +kernel) rfl (by omega) ?_
        have b360 := iv_tl_ge ia1 hia1
        refine x_retI (np := 69) (x := 0) (by decide +kernel) (by omega) (Or.inr ⟨by decide +kernel, by omega, by omega⟩) ⟨_, rfl, (by omega), ?_⟩
        exact ⟨rfl, (by omega), (fun z => by omega), (Wi.is m355 (by omega) (by omega))⟩
      have q359 : ¬ (v350 = 2147483648) := q359
      refine x_iload (np := 29) (x := 3) (by decide +kernel) rfl (by omega) ?_
      refine x_aloadB (i := ia1) (k4 := 1) rfl hia1 (by rw [tb_b170]; decide +kernel) ?_
      have b361 := (iv_tl_lt ia1 hia1).1
      have b362 := iv_tl_ge ia1 hia1
      refine x_len (by decide +kernel) (by rw [tb_y170]; exact sl_Ml) hia1 (by rw [tb_b170]; decide +kernel) (Nat.le_trans (x_wi (by omega) x_wn) (by decide)) ?_
      refine x_icmp (k := 3) (tg := 67) (np := 36) (by decide +kernel) (by decide) (by omega) (by omega) (fun q363 => ?_) (fun q364 => ?_)
      · have q363 : (2147483648 + (iv_tl ia1)) ≤ v352 := q363
        refine x_iload (np := 68) (x := 2) (by decide +kernel) rfl (by omega) ?_
        have b365 := iv_tl_ge ia1 hia1
        refine x_retI (np := 69) (x := 0) (by decide +kernel) (by omega) (Or.inr ⟨by decide +kernel, by omega, by omega⟩) ⟨_, rfl, (by omega), ?_⟩
        exact ⟨rfl, (by omega), (fun z => by omega), (Wi.is m355 (by omega) (by omega))⟩
      have q364 : ¬ ((2147483648 + (iv_tl ia1)) ≤ v352) := q364
      refine x_aload (np := 37) (x := 0) (by decide +kernel) rfl (x_nc_le (by decide)) ?_
      have q366 : h 75 5 = 79 := by have z := jB (e := 5) 0 hJ rg_75_5_0_1 (by decide) (by decide); omega
      refine x_getR (np := 40) (x := 709) (f := 5) (q := 79) (by decide +kernel) (by decide) (by decide +kernel) q366 ?_
      refine x_aload (np := 41) (x := 0) (by decide +kernel) rfl (x_nc_le (by decide)) ?_
      refine x_getC (np := 44) (x := 713) (f := 9) (q := (h 75 9)) (by decide +kernel) (by decide) (by decide +kernel) rfl (fun l367 => ?_)
      refine x_iload (np := 45) (x := 3) (by decide +kernel) rfl (by omega) ?_
      obtain ⟨v368, q369⟩ : ∃ z, z + 2147483648 = (h 75 9) + v352 := ⟨(h 75 9) + v352 - 2147483648, by omega⟩
      refine x_iadd (np := 46) (x := 0) (v := v368) (by decide +kernel) l4 (by omega) (by omega) (by omega) ?_
      obtain ⟨u370, q371⟩ : ∃ z, v368 = 2147483648 + z := ⟨v368 - 2147483648, by omega⟩
      have b372 := jB (e := u370) u370 hJ rg_79_0_1_400 (by omega) (by omega)
      refine x_baldC (np := 47) (x := 0) (n := 400) (i := u370) (q := (h 79 u370)) (by decide +kernel) (by decide +kernel) (by omega) (by omega) (by decide) rfl (fun l373 => ?_)
      refine x_aloadB (i := ia1) (k4 := 1) rfl hia1 (by rw [tb_b170]; decide +kernel) ?_
      refine x_iload (np := 49) (x := 3) (by decide +kernel) rfl (by omega) ?_
      obtain ⟨u375, q376⟩ : ∃ z, v352 = 2147483648 + z := ⟨v352 - 2147483648, by omega⟩
      have b374 := (iv_tl_lt ia1 hia1).2 u375 (by omega)
      refine x_chr (j := u375) (by decide +kernel) (by rw [tb_y170]; exact sl_Mc) hia1 (by omega) (by omega) (by rw [tb_b170]; decide +kernel) (Nat.le_trans (x_wi l373 x_wn) (by decide)) ?_
      refine x_icmp (k := 1) (tg := 59) (np := 55) (by decide +kernel) (by decide) l373 (by omega) (fun q377 => ?_) (fun q378 => ?_)
      · have q377 : (h 79 u370) ≠ (2147483648 + (iv_tc ia1 u375)) := q377
        refine x_const (np := 60) (x := 9223372039002259456) (a := 2147483648) (by decide +kernel) (by decide) (by decide) ?_
        refine x_istore (np := 61) (x := 2) (lo' := [x_r 75, x_b (ia1 + 1), iv_c 2147483648, iv_c v352]) (by decide +kernel) (by decide) (Nat.le_of_ble_eq_true rfl) rfl ?_
        refine x_iinc (np := 64) (i := 3) (j := 2147483649) (v := (1 + v352)) (lo' := [x_r 75, x_b (ia1 + 1), iv_c 2147483648, iv_c (1 + v352)]) (by decide +kernel) (by decide) (by decide) rfl (by omega) (by omega) (by omega) rfl ?_
        refine x_goto (np := 67) (x := 24) (by decide +kernel) ?_
        have z379 := Tq.at (p := (h 75 9 + u375)) (u := u370) hT (by omega) (by omega)
        exact i357 2147483648 (1 + v352) (by omega) (by omega) (by omega) (Wi.st0 (x := u375) (by omega) (by omega) (by omega))
      have q378 : ¬ ((h 79 u370) ≠ (2147483648 + (iv_tc ia1 u375))) := q378
      refine x_const (np := 56) (x := 9223372043297226753) (a := 2147483649) (by decide +kernel) (by decide) (by decide) ?_
      refine x_goto (np := 59) (x := 60) (by decide +kernel) ?_
      refine x_istore (np := 61) (x := 2) (lo' := [x_r 75, x_b (ia1 + 1), iv_c 2147483649, iv_c v352]) (by decide +kernel) (by decide) (Nat.le_of_ble_eq_true rfl) rfl ?_
      refine x_iinc (np := 64) (i := 3) (j := 2147483649) (v := (1 + v352)) (lo' := [x_r 75, x_b (ia1 + 1), iv_c 2147483649, iv_c (1 + v352)]) (by decide +kernel) (by decide) (by decide) rfl (by omega) (by omega) (by omega) rfl ?_
      refine x_goto (np := 67) (x := 24) (by decide +kernel) ?_
      have z380 := Tq.at (p := (h 75 9 + u375)) (u := u370) hT (by omega) (by omega)
      exact i357 2147483649 (1 + v352) (by omega) (by omega) (by omega) (Wi.st1 (x := u375) m355 (by omega) (by omega) (by omega) (by omega) (by omega))
  exact p354 _ 2147483649 2147483648 (Nat.lt_succ_self _) (by omega) (by omega) (Wi.in1 (by omega) (by omega) (by omega))
set_option maxHeartbeats 0 in
/-- LentNamesModel.number(II)I -/
theorem c174_75 {sc : Nat × Nat} {d a1 a2 : Nat} {h : xh} {tB : Nat → Nat} {tN : Nat} (hJ : J h) (ba1 : 2147483648 ≤ a1 ∧ a1 ≤ 2147483659) (ba2 : 2147483647 ≤ a2 ∧ a2 ≤ 2147484769) (hT : Tq tB tN h) : X sc 174 (d + 2) (xI fun r h' => J h' ∧ Fr 5242881 h h' ∧ (2147483647 ≤ r ∧ r ≤ 2147484769) ∧ (h 75 7 + 0 ≤ h' 75 7) ∧ (2147483648 ≤ r → h 75 7 + 1 ≤ h' 75 7) ∧ (2147483648 ≤ r → r ≤ a2) ∧ (2147483648 ≤ r → a1 ≤ r) ∧ (2147483647 ≤ a2 → r ≤ a2) ∧ Nr tB tN a1 a2 (sk tB tN (h 75 7)) r (sk tB tN (h' 75 7))) 0 0 0 [x_r 75, iv_c a1, iv_c a2, 147573952589676412928] [] h := by
  have la1 : a1 < 4294967296 := by omega
  have la2 : a2 < 4294967296 := by omega
  have hF := Fr.refl 5242881 h
  refine x_aload (np := 1) (x := 0) (by decide +kernel) rfl (x_nc_le (by decide)) ?_
  refine x_cV (t := 6) (mj := 168) (n := 1) (rc := 12) (ml := 1) (nr := 0) (np := 4) (as := [x_r 75]) (rest := []) (lo1 := [x_r 75]) (by decide +kernel) (by decide) (by decide +kernel) (x_rb_of (by decide +kernel)) rfl rfl (x_wr (by decide) x_wn) x_wn (by decide) rfl (c168_75 hJ  hT) (fun h4 q3 => ?_)
  obtain ⟨j5, f6, c9, c10, c11⟩ := q3
  have f12 := Fr.trans hF f6 (by decide)
  have b13 := jB (e := 7) 0 hJ rg_75_7_0_1 (by omega) (by omega)
  have b14 := jB (e := 7) 0 j5 rg_75_7_0_1 (by omega) (by omega)
  have b15 := jB (e := 9) 0 j5 rg_75_9_0_1 (by omega) (by omega)
  refine x_const (np := 5) (x := 9223372039002259456) (a := 2147483648) (by decide +kernel) (by decide) (by decide) ?_
  refine x_istore (np := 6) (x := 3) (lo' := [x_r 75, iv_c a1, iv_c a2, iv_c 2147483648]) (by decide +kernel) (by decide) (Nat.le_of_ble_eq_true rfl) rfl ?_
  have p285 : ∀ (n : Nat) (v280 : Nat) (h282 : xh), 4294967296 - h282 75 7 < n → (2147483648 ≤ v280 ∧ v280 ≤ 2147484769) → h 75 7 ≤ h282 75 9 → h282 75 9 ≤ h282 75 7 → J h282 → Fr 1048576 h4 h282 → Ni tB tN (h282 75 9) (h282 75 7) v280 → X sc 174 (d + 2) (xI fun r h' => J h' ∧ Fr 5242881 h h' ∧ (2147483647 ≤ r ∧ r ≤ 2147484769) ∧ (h 75 7 + 0 ≤ h' 75 7) ∧ (2147483648 ≤ r → h 75 7 + 1 ≤ h' 75 7) ∧ (2147483648 ≤ r → r ≤ a2) ∧ (2147483648 ≤ r → a1 ≤ r) ∧ (2147483647 ≤ a2 → r ≤ a2) ∧ Nr tB tN a1 a2 (sk tB tN (h 75 7)) r (sk tB tN (h' 75 7))) 0 0 6 [x_r 75, iv_c a1, iv_c a2, iv_c v280] [] h282 := by
    intro n
    induction n with
    | zero => intro v280 h282 q289; exact absurd q289 (Nat.not_lt_zero _)
    | succ n i290 =>
      intro v280 h282 q289 b281 b286 b287 j284 f283 m288
      have f291 := Fr.trans f12 f283 (by decide)
      refine x_aload (np := 7) (x := 0) (by decide +kernel) rfl (x_nc_le (by decide)) ?_
      refine x_const (np := 9) (x := 9223372245160689712) (a := 2147483696) (by decide +kernel) (by decide) (by decide) ?_
      refine x_const (np := 11) (x := 9223372283815395385) (a := 2147483705) (by decide +kernel) (by decide) (by decide) ?_
      refine x_nI (t := 6) (mj := 167) (n := 3) (rc := 12) (ml := 3) (nr := 0) (np := 14) (as := [x_r 75, iv_c 2147483696, iv_c 2147483705]) (rest := []) (lo1 := [x_r 75, iv_c 2147483696, iv_c 2147483705]) (by decide +kernel) (by decide) (by decide +kernel) (x_rb_of (by decide +kernel)) rfl rfl (x_wr (by decide) (x_wi (by decide) (x_wi (by decide) x_wn))) x_wn (by decide) rfl ?_
      refine x_aload (np := 1) (x := 0) (by decide +kernel) rfl (x_nc_le (by decide)) ?_
      have b292 := jB (e := 7) 0 j284 rg_75_7_0_1 (by omega) (by omega)
      refine x_getC (np := 4) (x := 711) (f := 7) (q := (h282 75 7)) (by decide +kernel) (by decide) (by decide +kernel) rfl (fun l293 => ?_)
      refine x_aload (np := 5) (x := 0) (by decide +kernel) rfl (x_nc_le (by decide)) ?_
      have q294 : h282 75 8 = h4 75 8 := jK 0 f283 rg_75_8_0_1 (by omega) (by omega) (by decide)
      have q295 : h4 75 8 = h 75 8 := jK 0 f6 rg_75_8_0_1 (by omega) (by omega) (by decide)
      have b296 := jB (e := 8) 0 hJ rg_75_8_0_1 (by omega) (by omega)
      refine x_getC (np := 8) (x := 712) (f := 8) (q := (h 75 8)) (by decide +kernel) (by decide) (by decide +kernel) (q294.trans q295) (fun l297 => ?_)
      refine x_icmp (k := 3) (tg := 41) (np := 11) (by decide +kernel) (by decide) l293 l297 (fun q298 => ?_) (fun q299 => ?_)
      · have q298 : (h 75 8) ≤ (h282 75 7) := q298
        refine x_const (np := 42) (x := 9223372039002259456) (a := 2147483648) (by decide +kernel) (by decide) (by decide) ?_
        refine x_retI (np := 43) (x := 0) (by decide +kernel) (by decide) (Or.inr ⟨by decide +kernel, by omega, by omega⟩) ⟨_, rfl, (by decide), ?_⟩
        refine x_ifz (k := 0) (tg := 65) (np := 17) (by decide +kernel) (by decide) (by decide) (fun q300 => ?_) (fun q301 => ?_)
        · have q300 : 2147483648 = 2147483648 := q300
          refine x_aload (np := 66) (x := 0) (by decide +kernel) rfl (x_nc_le (by decide)) ?_
          refine x_getC (np := 69) (x := 711) (f := 7) (q := (h282 75 7)) (by decide +kernel) (by decide) (by decide +kernel) rfl (fun l302 => ?_)
          refine x_aload (np := 70) (x := 0) (by decide +kernel) rfl (x_nc_le (by decide)) ?_
          have q303 : h282 75 9 = h4 75 9 := jK 0 f283 rg_75_9_0_1 (by omega) (by omega) (by decide)
          refine x_getC (np := 73) (x := 713) (f := 9) (q := (h4 75 9)) (by decide +kernel) (by decide) (by decide +kernel) q303 (fun l304 => ?_)
          refine x_icmp (k := 0) (tg := 99) (np := 76) (by decide +kernel) (by decide) l293 l304 (fun q305 => ?_) (fun q306 => ?_)
          · have q305 : (h282 75 7) = (h4 75 9) := q305
            refine x_const (np := 100) (x := 9223372034707292159) (a := 2147483647) (by decide +kernel) (by decide) (by decide) ?_
            refine x_goto (np := 103) (x := 104) (by decide +kernel) ?_
            have q307 : h282 75 9 = h4 75 9 := jK 0 f283 rg_75_9_0_1 (by omega) (by omega) (by decide)
            have q308 : h282 75 8 = h4 75 8 := jK 0 f283 rg_75_8_0_1 (by omega) (by omega) (by decide)
            have q309 : h4 75 8 = h 75 8 := jK 0 f6 rg_75_8_0_1 (by omega) (by omega) (by decide)
            have m312 := Tq.fr hT f6 (by decide) (by decide)
            have m311 := Tq.fr m312 f283 (by decide) (by decide)
            have z310 := m311.1
            have e313 : h282 75 9 = sk tB tN (h 75 7) := (show h282 75 9 = h4 75 7 by omega).trans c11
            refine x_retI (np := 105) (x := 0) (by decide +kernel) (by decide) (Or.inl (by decide +kernel)) ⟨_, rfl, (by decide), ?_⟩
            exact ⟨j284, f291, (by omega), (by omega), (fun z => by omega), (fun z => by omega), (fun z => by omega), (fun z => by omega), (Nr.cast (Nr.nob (by omega) (Ni.nb0 m288 (by omega) (fun z => by have z1 := z.1; have z2 := z.2.1; have z3 := z.2.2; omega))) e313)⟩
          have q306 : ¬ ((h282 75 7) = (h4 75 9)) := q306
          refine x_aload (np := 77) (x := 0) (by decide +kernel) rfl (x_nc_le (by decide)) ?_
          refine x_getC (np := 80) (x := 711) (f := 7) (q := (h282 75 7)) (by decide +kernel) (by decide) (by decide +kernel) rfl (fun l314 => ?_)
          refine x_aload (np := 81) (x := 0) (by decide +kernel) rfl (x_nc_le (by decide)) ?_
          have q315 : h282 75 9 = h4 75 9 := jK 0 f283 rg_75_9_0_1 (by omega) (by omega) (by decide)
          refine x_getC (np := 84) (x := 713) (f := 9) (q := (h4 75 9)) (by decide +kernel) (by decide) (by decide +kernel) q315 (fun l316 => ?_)
          obtain ⟨v317, q318⟩ : ∃ z, z + (h4 75 9) = (h282 75 7) + 2147483648 := ⟨(h282 75 7) + 2147483648 - (h4 75 9), by omega⟩
          refine x_isub (np := 85) (x := 0) (v := v317) (by decide +kernel) l293 l304 (by omega) (by omega) ?_
          refine x_const (np := 86) (x := 9223372051887161347) (a := 2147483651) (by decide +kernel) (by decide) (by decide) ?_
          refine x_icmp (k := 4) (tg := 99) (np := 89) (by decide +kernel) (by decide) (by omega) (by decide) (fun q319 => ?_) (fun q320 => ?_)
          · have q319 : 2147483651 < v317 := q319
            refine x_const (np := 100) (x := 9223372034707292159) (a := 2147483647) (by decide +kernel) (by decide) (by decide) ?_
            refine x_goto (np := 103) (x := 104) (by decide +kernel) ?_
            have q321 : h282 75 9 = h4 75 9 := jK 0 f283 rg_75_9_0_1 (by omega) (by omega) (by decide)
            have q322 : h282 75 8 = h4 75 8 := jK 0 f283 rg_75_8_0_1 (by omega) (by omega) (by decide)
            have q323 : h4 75 8 = h 75 8 := jK 0 f6 rg_75_8_0_1 (by omega) (by omega) (by decide)
            have m326 := Tq.fr hT f6 (by decide) (by decide)
            have m325 := Tq.fr m326 f283 (by decide) (by decide)
            have z324 := m325.1
            have e327 : h282 75 9 = sk tB tN (h 75 7) := (show h282 75 9 = h4 75 7 by omega).trans c11
            refine x_retI (np := 105) (x := 0) (by decide +kernel) (by decide) (Or.inl (by decide +kernel)) ⟨_, rfl, (by decide), ?_⟩
            exact ⟨j284, f291, (by omega), (by omega), (fun z => by omega), (fun z => by omega), (fun z => by omega), (fun z => by omega), (Nr.cast (Nr.nob (by omega) (Ni.nb4 m288 (by omega))) e327)⟩
          have q320 : ¬ (2147483651 < v317) := q320
          refine x_iload (np := 90) (x := 3) (by decide +kernel) rfl (by omega) ?_
          refine x_iload (np := 91) (x := 1) (by decide +kernel) rfl la1 ?_
          refine x_icmp (k := 2) (tg := 99) (np := 94) (by decide +kernel) (by decide) (by omega) la1 (fun q328 => ?_) (fun q329 => ?_)
          · have q328 : v280 < a1 := q328
            refine x_const (np := 100) (x := 9223372034707292159) (a := 2147483647) (by decide +kernel) (by decide) (by decide) ?_
            refine x_goto (np := 103) (x := 104) (by decide +kernel) ?_
            have q330 : h282 75 9 = h4 75 9 := jK 0 f283 rg_75_9_0_1 (by omega) (by omega) (by decide)
            have q331 : h282 75 8 = h4 75 8 := jK 0 f283 rg_75_8_0_1 (by omega) (by omega) (by decide)
            have q332 : h4 75 8 = h 75 8 := jK 0 f6 rg_75_8_0_1 (by omega) (by omega) (by decide)
            have m335 := Tq.fr hT f6 (by decide) (by decide)
            have m334 := Tq.fr m335 f283 (by decide) (by decide)
            have z333 := m334.1
            have e336 : h282 75 9 = sk tB tN (h 75 7) := (show h282 75 9 = h4 75 7 by omega).trans c11
            refine x_retI (np := 105) (x := 0) (by decide +kernel) (by decide) (Or.inl (by decide +kernel)) ⟨_, rfl, (by decide), ?_⟩
            exact ⟨j284, f291, (by omega), (by omega), (fun z => by omega), (fun z => by omega), (fun z => by omega), (fun z => by omega), (Nr.cast (Ni.rng m288 (by omega) (by omega) (fun z => by have z1 := z.1; have z2 := z.2.1; have z3 := z.2.2; omega) (by omega) (by omega)) e336)⟩
          have q329 : ¬ (v280 < a1) := q329
          refine x_iload (np := 95) (x := 3) (by decide +kernel) rfl (by omega) ?_
          refine x_iload (np := 96) (x := 2) (by decide +kernel) rfl la2 ?_
          refine x_icmp (k := 5) (tg := 103) (np := 99) (by decide +kernel) (by decide) (by omega) la2 (fun q337 => ?_) (fun q338 => ?_)
          · have q337 : v280 ≤ a2 := q337
            refine x_iload (np := 104) (x := 3) (by decide +kernel) rfl (by omega) ?_
            have q339 : h282 75 9 = h4 75 9 := jK 0 f283 rg_75_9_0_1 (by omega) (by omega) (by decide)
            have q340 : h282 75 8 = h4 75 8 := jK 0 f283 rg_75_8_0_1 (by omega) (by omega) (by decide)
            have q341 : h4 75 8 = h 75 8 := jK 0 f6 rg_75_8_0_1 (by omega) (by omega) (by decide)
            have m344 := Tq.fr hT f6 (by decide) (by decide)
            have m343 := Tq.fr m344 f283 (by decide) (by decide)
            have z342 := m343.1
            have e345 : h282 75 9 = sk tB tN (h 75 7) := (show h282 75 9 = h4 75 7 by omega).trans c11
            refine x_retI (np := 105) (x := 0) (by decide +kernel) (by omega) (Or.inl (by decide +kernel)) ⟨_, rfl, (by omega), ?_⟩
            exact ⟨j284, f291, (by omega), (by omega), (fun z => by omega), (fun z => by omega), (fun z => by omega), (fun z => by omega), (Nr.cast (Ni.val m288 (by omega) (by omega) (fun z => by have z1 := z.1; have z2 := z.2.1; have z3 := z.2.2; omega) (by omega) (by omega) (by omega) (by omega)) e345)⟩
          have q338 : ¬ (v280 ≤ a2) := q338
          refine x_const (np := 100) (x := 9223372034707292159) (a := 2147483647) (by decide +kernel) (by decide) (by decide) ?_
          refine x_goto (np := 103) (x := 104) (by decide +kernel) ?_
          have q346 : h282 75 9 = h4 75 9 := jK 0 f283 rg_75_9_0_1 (by omega) (by omega) (by decide)
          have q347 : h282 75 8 = h4 75 8 := jK 0 f283 rg_75_8_0_1 (by omega) (by omega) (by decide)
          have q348 : h4 75 8 = h 75 8 := jK 0 f6 rg_75_8_0_1 (by omega) (by omega) (by decide)
          have m351 := Tq.fr hT f6 (by decide) (by decide)
          have m350 := Tq.fr m351 f283 (by decide) (by decide)
          have z349 := m350.1
          have e352 : h282 75 9 = sk tB tN (h 75 7) := (show h282 75 9 = h4 75 7 by omega).trans c11
          refine x_retI (np := 105) (x := 0) (by decide +kernel) (by decide) (Or.inl (by decide +kernel)) ⟨_, rfl, (by decide), ?_⟩
          exact ⟨j284, f291, (by omega), (by omega), (fun z => by omega), (fun z => by omega), (fun z => by omega), (fun z => by omega), (Nr.cast (Ni.rng m288 (by omega) (by omega) (fun z => by have z1 := z.1; have z2 := z.2.1; have z3 := z.2.2; omega) (by omega) (by omega)) e352)⟩
        have q301 : ¬ (2147483648 = 2147483648) := q301
        exfalso; omega
      have q299 : ¬ ((h 75 8) ≤ (h282 75 7)) := q299
      refine x_aload (np := 12) (x := 0) (by decide +kernel) rfl (x_nc_le (by decide)) ?_
      have q353 : h282 75 5 = 79 := by have z := jB (e := 5) 0 j284 rg_75_5_0_1 (by decide) (by decide); omega
      refine x_getR (np := 15) (x := 709) (f := 5) (q := 79) (by decide +kernel) (by decide) (by decide +kernel) q353 ?_
      refine x_aload (np := 16) (x := 0) (by decide +kernel) rfl (x_nc_le (by decide)) ?_
      refine x_getC (np := 19) (x := 711) (f := 7) (q := (h282 75 7)) (by decide +kernel) (by decide) (by decide +kernel) rfl (fun l354 => ?_)
      obtain ⟨u355, q356⟩ : ∃ z, (h282 75 7) = 2147483648 + z := ⟨(h282 75 7) - 2147483648, by omega⟩
      have q357 : h282 79 u355 = h4 79 u355 := jK u355 f283 rg_79_0_1_400 (by omega) (by omega) (by decide)
      have q358 : h4 79 u355 = h 79 u355 := jK u355 f6 rg_79_0_1_400 (by omega) (by omega) (by decide)
      have b359 := jB (e := u355) u355 hJ rg_79_0_1_400 (by omega) (by omega)
      refine x_baldC (np := 20) (x := 0) (n := 400) (i := u355) (q := (h 79 u355)) (by decide +kernel) (by decide +kernel) (by omega) (by omega) (by decide) (q357.trans q358) (fun l360 => ?_)
      refine x_iload (np := 21) (x := 1) (by decide +kernel) rfl (by decide) ?_
      refine x_icmp (k := 2) (tg := 41) (np := 24) (by decide +kernel) (by decide) l360 (by decide) (fun q361 => ?_) (fun q362 => ?_)
      · have q361 : (h 79 u355) < 2147483696 := q361
        refine x_const (np := 42) (x := 9223372039002259456) (a := 2147483648) (by decide +kernel) (by decide) (by decide) ?_
        refine x_retI (np := 43) (x := 0) (by decide +kernel) (by decide) (Or.inr ⟨by decide +kernel, by omega, by omega⟩) ⟨_, rfl, (by decide), ?_⟩
        refine x_ifz (k := 0) (tg := 65) (np := 17) (by decide +kernel) (by decide) (by decide) (fun q363 => ?_) (fun q364 => ?_)
        · have q363 : 2147483648 = 2147483648 := q363
          refine x_aload (np := 66) (x := 0) (by decide +kernel) rfl (x_nc_le (by decide)) ?_
          refine x_getC (np := 69) (x := 711) (f := 7) (q := (h282 75 7)) (by decide +kernel) (by decide) (by decide +kernel) rfl (fun l365 => ?_)
          refine x_aload (np := 70) (x := 0) (by decide +kernel) rfl (x_nc_le (by decide)) ?_
          have q366 : h282 75 9 = h4 75 9 := jK 0 f283 rg_75_9_0_1 (by omega) (by omega) (by decide)
          refine x_getC (np := 73) (x := 713) (f := 9) (q := (h4 75 9)) (by decide +kernel) (by decide) (by decide +kernel) q366 (fun l367 => ?_)
          refine x_icmp (k := 0) (tg := 99) (np := 76) (by decide +kernel) (by decide) l293 l367 (fun q368 => ?_) (fun q369 => ?_)
          · have q368 : (h282 75 7) = (h4 75 9) := q368
            refine x_const (np := 100) (x := 9223372034707292159) (a := 2147483647) (by decide +kernel) (by decide) (by decide) ?_
            refine x_goto (np := 103) (x := 104) (by decide +kernel) ?_
            have q370 : h282 75 9 = h4 75 9 := jK 0 f283 rg_75_9_0_1 (by omega) (by omega) (by decide)
            have q371 : h282 75 8 = h4 75 8 := jK 0 f283 rg_75_8_0_1 (by omega) (by omega) (by decide)
            have q372 : h4 75 8 = h 75 8 := jK 0 f6 rg_75_8_0_1 (by omega) (by omega) (by decide)
            have m375 := Tq.fr hT f6 (by decide) (by decide)
            have m374 := Tq.fr m375 f283 (by decide) (by decide)
            have z373 := m374.1
            have q376 : h282 79 u355 = h4 79 u355 := jK u355 f283 rg_79_0_1_400 (by omega) (by omega) (by decide)
            have q377 : h4 79 u355 = h 79 u355 := jK u355 f6 rg_79_0_1_400 (by omega) (by omega) (by decide)
            have z378 := Tq.at (p := (h282 75 7)) (u := u355) m374 (by omega) (by omega)
            have e379 : h282 75 9 = sk tB tN (h 75 7) := (show h282 75 9 = h4 75 7 by omega).trans c11
            refine x_retI (np := 105) (x := 0) (by decide +kernel) (by decide) (Or.inl (by decide +kernel)) ⟨_, rfl, (by decide), ?_⟩
            exact ⟨j284, f291, (by omega), (by omega), (fun z => by omega), (fun z => by omega), (fun z => by omega), (fun z => by omega), (Nr.cast (Nr.nob (by omega) (Ni.nb0 m288 (by omega) (fun z => by have z1 := z.1; have z2 := z.2.1; have z3 := z.2.2; omega))) e379)⟩
          have q369 : ¬ ((h282 75 7) = (h4 75 9)) := q369
          refine x_aload (np := 77) (x := 0) (by decide +kernel) rfl (x_nc_le (by decide)) ?_
          refine x_getC (np := 80) (x := 711) (f := 7) (q := (h282 75 7)) (by decide +kernel) (by decide) (by decide +kernel) rfl (fun l380 => ?_)
          refine x_aload (np := 81) (x := 0) (by decide +kernel) rfl (x_nc_le (by decide)) ?_
          have q381 : h282 75 9 = h4 75 9 := jK 0 f283 rg_75_9_0_1 (by omega) (by omega) (by decide)
          refine x_getC (np := 84) (x := 713) (f := 9) (q := (h4 75 9)) (by decide +kernel) (by decide) (by decide +kernel) q381 (fun l382 => ?_)
          obtain ⟨v383, q384⟩ : ∃ z, z + (h4 75 9) = (h282 75 7) + 2147483648 := ⟨(h282 75 7) + 2147483648 - (h4 75 9), by omega⟩
          refine x_isub (np := 85) (x := 0) (v := v383) (by decide +kernel) l293 l367 (by omega) (by omega) ?_
          refine x_const (np := 86) (x := 9223372051887161347) (a := 2147483651) (by decide +kernel) (by decide) (by decide) ?_
          refine x_icmp (k := 4) (tg := 99) (np := 89) (by decide +kernel) (by decide) (by omega) (by decide) (fun q385 => ?_) (fun q386 => ?_)
          · have q385 : 2147483651 < v383 := q385
            refine x_const (np := 100) (x := 9223372034707292159) (a := 2147483647) (by decide +kernel) (by decide) (by decide) ?_
            refine x_goto (np := 103) (x := 104) (by decide +kernel) ?_
            have q387 : h282 75 9 = h4 75 9 := jK 0 f283 rg_75_9_0_1 (by omega) (by omega) (by decide)
            have q388 : h282 75 8 = h4 75 8 := jK 0 f283 rg_75_8_0_1 (by omega) (by omega) (by decide)
            have q389 : h4 75 8 = h 75 8 := jK 0 f6 rg_75_8_0_1 (by omega) (by omega) (by decide)
            have m392 := Tq.fr hT f6 (by decide) (by decide)
            have m391 := Tq.fr m392 f283 (by decide) (by decide)
            have z390 := m391.1
            have q393 : h282 79 u355 = h4 79 u355 := jK u355 f283 rg_79_0_1_400 (by omega) (by omega) (by decide)
            have q394 : h4 79 u355 = h 79 u355 := jK u355 f6 rg_79_0_1_400 (by omega) (by omega) (by decide)
            have z395 := Tq.at (p := (h282 75 7)) (u := u355) m391 (by omega) (by omega)
            have e396 : h282 75 9 = sk tB tN (h 75 7) := (show h282 75 9 = h4 75 7 by omega).trans c11
            refine x_retI (np := 105) (x := 0) (by decide +kernel) (by decide) (Or.inl (by decide +kernel)) ⟨_, rfl, (by decide), ?_⟩
            exact ⟨j284, f291, (by omega), (by omega), (fun z => by omega), (fun z => by omega), (fun z => by omega), (fun z => by omega), (Nr.cast (Nr.nob (by omega) (Ni.nb4 m288 (by omega))) e396)⟩
          have q386 : ¬ (2147483651 < v383) := q386
          refine x_iload (np := 90) (x := 3) (by decide +kernel) rfl (by omega) ?_
          refine x_iload (np := 91) (x := 1) (by decide +kernel) rfl la1 ?_
          refine x_icmp (k := 2) (tg := 99) (np := 94) (by decide +kernel) (by decide) (by omega) la1 (fun q397 => ?_) (fun q398 => ?_)
          · have q397 : v280 < a1 := q397
            refine x_const (np := 100) (x := 9223372034707292159) (a := 2147483647) (by decide +kernel) (by decide) (by decide) ?_
            refine x_goto (np := 103) (x := 104) (by decide +kernel) ?_
            have q399 : h282 75 9 = h4 75 9 := jK 0 f283 rg_75_9_0_1 (by omega) (by omega) (by decide)
            have q400 : h282 75 8 = h4 75 8 := jK 0 f283 rg_75_8_0_1 (by omega) (by omega) (by decide)
            have q401 : h4 75 8 = h 75 8 := jK 0 f6 rg_75_8_0_1 (by omega) (by omega) (by decide)
            have m404 := Tq.fr hT f6 (by decide) (by decide)
            have m403 := Tq.fr m404 f283 (by decide) (by decide)
            have z402 := m403.1
            have q405 : h282 79 u355 = h4 79 u355 := jK u355 f283 rg_79_0_1_400 (by omega) (by omega) (by decide)
            have q406 : h4 79 u355 = h 79 u355 := jK u355 f6 rg_79_0_1_400 (by omega) (by omega) (by decide)
            have z407 := Tq.at (p := (h282 75 7)) (u := u355) m403 (by omega) (by omega)
            have e408 : h282 75 9 = sk tB tN (h 75 7) := (show h282 75 9 = h4 75 7 by omega).trans c11
            refine x_retI (np := 105) (x := 0) (by decide +kernel) (by decide) (Or.inl (by decide +kernel)) ⟨_, rfl, (by decide), ?_⟩
            exact ⟨j284, f291, (by omega), (by omega), (fun z => by omega), (fun z => by omega), (fun z => by omega), (fun z => by omega), (Nr.cast (Ni.rng m288 (by omega) (by omega) (fun z => by have z1 := z.1; have z2 := z.2.1; have z3 := z.2.2; omega) (by omega) (by omega)) e408)⟩
          have q398 : ¬ (v280 < a1) := q398
          refine x_iload (np := 95) (x := 3) (by decide +kernel) rfl (by omega) ?_
          refine x_iload (np := 96) (x := 2) (by decide +kernel) rfl la2 ?_
          refine x_icmp (k := 5) (tg := 103) (np := 99) (by decide +kernel) (by decide) (by omega) la2 (fun q409 => ?_) (fun q410 => ?_)
          · have q409 : v280 ≤ a2 := q409
            refine x_iload (np := 104) (x := 3) (by decide +kernel) rfl (by omega) ?_
            have q411 : h282 75 9 = h4 75 9 := jK 0 f283 rg_75_9_0_1 (by omega) (by omega) (by decide)
            have q412 : h282 75 8 = h4 75 8 := jK 0 f283 rg_75_8_0_1 (by omega) (by omega) (by decide)
            have q413 : h4 75 8 = h 75 8 := jK 0 f6 rg_75_8_0_1 (by omega) (by omega) (by decide)
            have m416 := Tq.fr hT f6 (by decide) (by decide)
            have m415 := Tq.fr m416 f283 (by decide) (by decide)
            have z414 := m415.1
            have q417 : h282 79 u355 = h4 79 u355 := jK u355 f283 rg_79_0_1_400 (by omega) (by omega) (by decide)
            have q418 : h4 79 u355 = h 79 u355 := jK u355 f6 rg_79_0_1_400 (by omega) (by omega) (by decide)
            have z419 := Tq.at (p := (h282 75 7)) (u := u355) m415 (by omega) (by omega)
            have e420 : h282 75 9 = sk tB tN (h 75 7) := (show h282 75 9 = h4 75 7 by omega).trans c11
            refine x_retI (np := 105) (x := 0) (by decide +kernel) (by omega) (Or.inl (by decide +kernel)) ⟨_, rfl, (by omega), ?_⟩
            exact ⟨j284, f291, (by omega), (by omega), (fun z => by omega), (fun z => by omega), (fun z => by omega), (fun z => by omega), (Nr.cast (Ni.val m288 (by omega) (by omega) (fun z => by have z1 := z.1; have z2 := z.2.1; have z3 := z.2.2; omega) (by omega) (by omega) (by omega) (by omega)) e420)⟩
          have q410 : ¬ (v280 ≤ a2) := q410
          refine x_const (np := 100) (x := 9223372034707292159) (a := 2147483647) (by decide +kernel) (by decide) (by decide) ?_
          refine x_goto (np := 103) (x := 104) (by decide +kernel) ?_
          have q421 : h282 75 9 = h4 75 9 := jK 0 f283 rg_75_9_0_1 (by omega) (by omega) (by decide)
          have q422 : h282 75 8 = h4 75 8 := jK 0 f283 rg_75_8_0_1 (by omega) (by omega) (by decide)
          have q423 : h4 75 8 = h 75 8 := jK 0 f6 rg_75_8_0_1 (by omega) (by omega) (by decide)
          have m426 := Tq.fr hT f6 (by decide) (by decide)
          have m425 := Tq.fr m426 f283 (by decide) (by decide)
          have z424 := m425.1
          have q427 : h282 79 u355 = h4 79 u355 := jK u355 f283 rg_79_0_1_400 (by omega) (by omega) (by decide)
          have q428 : h4 79 u355 = h 79 u355 := jK u355 f6 rg_79_0_1_400 (by omega) (by omega) (by decide)
          have z429 := Tq.at (p := (h282 75 7)) (u := u355) m425 (by omega) (by omega)
          have e430 : h282 75 9 = sk tB tN (h 75 7) := (show h282 75 9 = h4 75 7 by omega).trans c11
          refine x_retI (np := 105) (x := 0) (by decide +kernel) (by decide) (Or.inl (by decide +kernel)) ⟨_, rfl, (by decide), ?_⟩
          exact ⟨j284, f291, (by omega), (by omega), (fun z => by omega), (fun z => by omega), (fun z => by omega), (fun z => by omega), (Nr.cast (Ni.rng m288 (by omega) (by omega) (fun z => by have z1 := z.1; have z2 := z.2.1; have z3 := z.2.2; omega) (by omega) (by omega)) e430)⟩
        have q364 : ¬ (2147483648 = 2147483648) := q364
        exfalso; omega
      have q362 : ¬ ((h 79 u355) < 2147483696) := q362
      refine x_aload (np := 25) (x := 0) (by decide +kernel) rfl (x_nc_le (by decide)) ?_
      have q431 : h282 75 5 = 79 := by have z := jB (e := 5) 0 j284 rg_75_5_0_1 (by decide) (by decide); omega
      refine x_getR (np := 28) (x := 709) (f := 5) (q := 79) (by decide +kernel) (by decide) (by decide +kernel) q431 ?_
      refine x_aload (np := 29) (x := 0) (by decide +kernel) rfl (x_nc_le (by decide)) ?_
      refine x_getC (np := 32) (x := 711) (f := 7) (q := (h282 75 7)) (by decide +kernel) (by decide) (by decide +kernel) rfl (fun l432 => ?_)
      have q433 : h282 79 u355 = h4 79 u355 := jK u355 f283 rg_79_0_1_400 (by omega) (by omega) (by decide)
      have q434 : h4 79 u355 = h 79 u355 := jK u355 f6 rg_79_0_1_400 (by omega) (by omega) (by decide)
      refine x_baldC (np := 33) (x := 0) (n := 400) (i := u355) (q := (h 79 u355)) (by decide +kernel) (by decide +kernel) (by omega) (by omega) (by decide) (q433.trans q434) (fun l435 => ?_)
      refine x_iload (np := 34) (x := 2) (by decide +kernel) rfl (by decide) ?_
      refine x_icmp (k := 4) (tg := 41) (np := 37) (by decide +kernel) (by decide) l360 (by decide) (fun q436 => ?_) (fun q437 => ?_)
      · have q436 : 2147483705 < (h 79 u355) := q436
        refine x_const (np := 42) (x := 9223372039002259456) (a := 2147483648) (by decide +kernel) (by decide) (by decide) ?_
        refine x_retI (np := 43) (x := 0) (by decide +kernel) (by decide) (Or.inr ⟨by decide +kernel, by omega, by omega⟩) ⟨_, rfl, (by decide), ?_⟩
        refine x_ifz (k := 0) (tg := 65) (np := 17) (by decide +kernel) (by decide) (by decide) (fun q438 => ?_) (fun q439 => ?_)
        · have q438 : 2147483648 = 2147483648 := q438
          refine x_aload (np := 66) (x := 0) (by decide +kernel) rfl (x_nc_le (by decide)) ?_
          refine x_getC (np := 69) (x := 711) (f := 7) (q := (h282 75 7)) (by decide +kernel) (by decide) (by decide +kernel) rfl (fun l440 => ?_)
          refine x_aload (np := 70) (x := 0) (by decide +kernel) rfl (x_nc_le (by decide)) ?_
          have q441 : h282 75 9 = h4 75 9 := jK 0 f283 rg_75_9_0_1 (by omega) (by omega) (by decide)
          refine x_getC (np := 73) (x := 713) (f := 9) (q := (h4 75 9)) (by decide +kernel) (by decide) (by decide +kernel) q441 (fun l442 => ?_)
          refine x_icmp (k := 0) (tg := 99) (np := 76) (by decide +kernel) (by decide) l293 l442 (fun q443 => ?_) (fun q444 => ?_)
          · have q443 : (h282 75 7) = (h4 75 9) := q443
            refine x_const (np := 100) (x := 9223372034707292159) (a := 2147483647) (by decide +kernel) (by decide) (by decide) ?_
            refine x_goto (np := 103) (x := 104) (by decide +kernel) ?_
            have q445 : h282 75 9 = h4 75 9 := jK 0 f283 rg_75_9_0_1 (by omega) (by omega) (by decide)
            have q446 : h282 75 8 = h4 75 8 := jK 0 f283 rg_75_8_0_1 (by omega) (by omega) (by decide)
            have q447 : h4 75 8 = h 75 8 := jK 0 f6 rg_75_8_0_1 (by omega) (by omega) (by decide)
            have m450 := Tq.fr hT f6 (by decide) (by decide)
            have m449 := Tq.fr m450 f283 (by decide) (by decide)
            have z448 := m449.1
            have q451 : h282 79 u355 = h4 79 u355 := jK u355 f283 rg_79_0_1_400 (by omega) (by omega) (by decide)
            have q452 : h4 79 u355 = h 79 u355 := jK u355 f6 rg_79_0_1_400 (by omega) (by omega) (by decide)
            have z453 := Tq.at (p := (h282 75 7)) (u := u355) m449 (by omega) (by omega)
            have e454 : h282 75 9 = sk tB tN (h 75 7) := (show h282 75 9 = h4 75 7 by omega).trans c11
            refine x_retI (np := 105) (x := 0) (by decide +kernel) (by decide) (Or.inl (by decide +kernel)) ⟨_, rfl, (by decide), ?_⟩
            exact ⟨j284, f291, (by omega), (by omega), (fun z => by omega), (fun z => by omega), (fun z => by omega), (fun z => by omega), (Nr.cast (Nr.nob (by omega) (Ni.nb0 m288 (by omega) (fun z => by have z1 := z.1; have z2 := z.2.1; have z3 := z.2.2; omega))) e454)⟩
          have q444 : ¬ ((h282 75 7) = (h4 75 9)) := q444
          refine x_aload (np := 77) (x := 0) (by decide +kernel) rfl (x_nc_le (by decide)) ?_
          refine x_getC (np := 80) (x := 711) (f := 7) (q := (h282 75 7)) (by decide +kernel) (by decide) (by decide +kernel) rfl (fun l455 => ?_)
          refine x_aload (np := 81) (x := 0) (by decide +kernel) rfl (x_nc_le (by decide)) ?_
          have q456 : h282 75 9 = h4 75 9 := jK 0 f283 rg_75_9_0_1 (by omega) (by omega) (by decide)
          refine x_getC (np := 84) (x := 713) (f := 9) (q := (h4 75 9)) (by decide +kernel) (by decide) (by decide +kernel) q456 (fun l457 => ?_)
          obtain ⟨v458, q459⟩ : ∃ z, z + (h4 75 9) = (h282 75 7) + 2147483648 := ⟨(h282 75 7) + 2147483648 - (h4 75 9), by omega⟩
          refine x_isub (np := 85) (x := 0) (v := v458) (by decide +kernel) l293 l442 (by omega) (by omega) ?_
          refine x_const (np := 86) (x := 9223372051887161347) (a := 2147483651) (by decide +kernel) (by decide) (by decide) ?_
          refine x_icmp (k := 4) (tg := 99) (np := 89) (by decide +kernel) (by decide) (by omega) (by decide) (fun q460 => ?_) (fun q461 => ?_)
          · have q460 : 2147483651 < v458 := q460
            refine x_const (np := 100) (x := 9223372034707292159) (a := 2147483647) (by decide +kernel) (by decide) (by decide) ?_
            refine x_goto (np := 103) (x := 104) (by decide +kernel) ?_
            have q462 : h282 75 9 = h4 75 9 := jK 0 f283 rg_75_9_0_1 (by omega) (by omega) (by decide)
            have q463 : h282 75 8 = h4 75 8 := jK 0 f283 rg_75_8_0_1 (by omega) (by omega) (by decide)
            have q464 : h4 75 8 = h 75 8 := jK 0 f6 rg_75_8_0_1 (by omega) (by omega) (by decide)
            have m467 := Tq.fr hT f6 (by decide) (by decide)
            have m466 := Tq.fr m467 f283 (by decide) (by decide)
            have z465 := m466.1
            have q468 : h282 79 u355 = h4 79 u355 := jK u355 f283 rg_79_0_1_400 (by omega) (by omega) (by decide)
            have q469 : h4 79 u355 = h 79 u355 := jK u355 f6 rg_79_0_1_400 (by omega) (by omega) (by decide)
            have z470 := Tq.at (p := (h282 75 7)) (u := u355) m466 (by omega) (by omega)
            have e471 : h282 75 9 = sk tB tN (h 75 7) := (show h282 75 9 = h4 75 7 by omega).trans c11
            refine x_retI (np := 105) (x := 0) (by decide +kernel) (by decide) (Or.inl (by decide +kernel)) ⟨_, rfl, (by decide), ?_⟩
            exact ⟨j284, f291, (by omega), (by omega), (fun z => by omega), (fun z => by omega), (fun z => by omega), (fun z => by omega), (Nr.cast (Nr.nob (by omega) (Ni.nb4 m288 (by omega))) e471)⟩
          have q461 : ¬ (2147483651 < v458) := q461
          refine x_iload (np := 90) (x := 3) (by decide +kernel) rfl (by omega) ?_
          refine x_iload (np := 91) (x := 1) (by decide +kernel) rfl la1 ?_
          refine x_icmp (k := 2) (tg := 99) (np := 94) (by decide +kernel) (by decide) (by omega) la1 (fun q472 => ?_) (fun q473 => ?_)
          · have q472 : v280 < a1 := q472
            refine x_const (np := 100) (x := 9223372034707292159) (a := 2147483647) (by decide +kernel) (by decide) (by decide) ?_
            refine x_goto (np := 103) (x := 104) (by decide +kernel) ?_
            have q474 : h282 75 9 = h4 75 9 := jK 0 f283 rg_75_9_0_1 (by omega) (by omega) (by decide)
            have q475 : h282 75 8 = h4 75 8 := jK 0 f283 rg_75_8_0_1 (by omega) (by omega) (by decide)
            have q476 : h4 75 8 = h 75 8 := jK 0 f6 rg_75_8_0_1 (by omega) (by omega) (by decide)
            have m479 := Tq.fr hT f6 (by decide) (by decide)
            have m478 := Tq.fr m479 f283 (by decide) (by decide)
            have z477 := m478.1
            have q480 : h282 79 u355 = h4 79 u355 := jK u355 f283 rg_79_0_1_400 (by omega) (by omega) (by decide)
            have q481 : h4 79 u355 = h 79 u355 := jK u355 f6 rg_79_0_1_400 (by omega) (by omega) (by decide)
            have z482 := Tq.at (p := (h282 75 7)) (u := u355) m478 (by omega) (by omega)
            have e483 : h282 75 9 = sk tB tN (h 75 7) := (show h282 75 9 = h4 75 7 by omega).trans c11
            refine x_retI (np := 105) (x := 0) (by decide +kernel) (by decide) (Or.inl (by decide +kernel)) ⟨_, rfl, (by decide), ?_⟩
            exact ⟨j284, f291, (by omega), (by omega), (fun z => by omega), (fun z => by omega), (fun z => by omega), (fun z => by omega), (Nr.cast (Ni.rng m288 (by omega) (by omega) (fun z => by have z1 := z.1; have z2 := z.2.1; have z3 := z.2.2; omega) (by omega) (by omega)) e483)⟩
          have q473 : ¬ (v280 < a1) := q473
          refine x_iload (np := 95) (x := 3) (by decide +kernel) rfl (by omega) ?_
          refine x_iload (np := 96) (x := 2) (by decide +kernel) rfl la2 ?_
          refine x_icmp (k := 5) (tg := 103) (np := 99) (by decide +kernel) (by decide) (by omega) la2 (fun q484 => ?_) (fun q485 => ?_)
          · have q484 : v280 ≤ a2 := q484
            refine x_iload (np := 104) (x := 3) (by decide +kernel) rfl (by omega) ?_
            have q486 : h282 75 9 = h4 75 9 := jK 0 f283 rg_75_9_0_1 (by omega) (by omega) (by decide)
            have q487 : h282 75 8 = h4 75 8 := jK 0 f283 rg_75_8_0_1 (by omega) (by omega) (by decide)
            have q488 : h4 75 8 = h 75 8 := jK 0 f6 rg_75_8_0_1 (by omega) (by omega) (by decide)
            have m491 := Tq.fr hT f6 (by decide) (by decide)
            have m490 := Tq.fr m491 f283 (by decide) (by decide)
            have z489 := m490.1
            have q492 : h282 79 u355 = h4 79 u355 := jK u355 f283 rg_79_0_1_400 (by omega) (by omega) (by decide)
            have q493 : h4 79 u355 = h 79 u355 := jK u355 f6 rg_79_0_1_400 (by omega) (by omega) (by decide)
            have z494 := Tq.at (p := (h282 75 7)) (u := u355) m490 (by omega) (by omega)
            have e495 : h282 75 9 = sk tB tN (h 75 7) := (show h282 75 9 = h4 75 7 by omega).trans c11
            refine x_retI (np := 105) (x := 0) (by decide +kernel) (by omega) (Or.inl (by decide +kernel)) ⟨_, rfl, (by omega), ?_⟩
            exact ⟨j284, f291, (by omega), (by omega), (fun z => by omega), (fun z => by omega), (fun z => by omega), (fun z => by omega), (Nr.cast (Ni.val m288 (by omega) (by omega) (fun z => by have z1 := z.1; have z2 := z.2.1; have z3 := z.2.2; omega) (by omega) (by omega) (by omega) (by omega)) e495)⟩
          have q485 : ¬ (v280 ≤ a2) := q485
          refine x_const (np := 100) (x := 9223372034707292159) (a := 2147483647) (by decide +kernel) (by decide) (by decide) ?_
          refine x_goto (np := 103) (x := 104) (by decide +kernel) ?_
          have q496 : h282 75 9 = h4 75 9 := jK 0 f283 rg_75_9_0_1 (by omega) (by omega) (by decide)
          have q497 : h282 75 8 = h4 75 8 := jK 0 f283 rg_75_8_0_1 (by omega) (by omega) (by decide)
          have q498 : h4 75 8 = h 75 8 := jK 0 f6 rg_75_8_0_1 (by omega) (by omega) (by decide)
          have m501 := Tq.fr hT f6 (by decide) (by decide)
          have m500 := Tq.fr m501 f283 (by decide) (by decide)
          have z499 := m500.1
          have q502 : h282 79 u355 = h4 79 u355 := jK u355 f283 rg_79_0_1_400 (by omega) (by omega) (by decide)
          have q503 : h4 79 u355 = h 79 u355 := jK u355 f6 rg_79_0_1_400 (by omega) (by omega) (by decide)
          have z504 := Tq.at (p := (h282 75 7)) (u := u355) m500 (by omega) (by omega)
          have e505 : h282 75 9 = sk tB tN (h 75 7) := (show h282 75 9 = h4 75 7 by omega).trans c11
          refine x_retI (np := 105) (x := 0) (by decide +kernel) (by decide) (Or.inl (by decide +kernel)) ⟨_, rfl, (by decide), ?_⟩
          exact ⟨j284, f291, (by omega), (by omega), (fun z => by omega), (fun z => by omega), (fun z => by omega), (fun z => by omega), (Nr.cast (Ni.rng m288 (by omega) (by omega) (fun z => by have z1 := z.1; have z2 := z.2.1; have z3 := z.2.2; omega) (by omega) (by omega)) e505)⟩
        have q439 : ¬ (2147483648 = 2147483648) := q439
        exfalso; omega
      have q437 : ¬ (2147483705 < (h 79 u355)) := q437
      refine x_const (np := 38) (x := 9223372043297226753) (a := 2147483649) (by decide +kernel) (by decide) (by decide) ?_
      refine x_goto (np := 41) (x := 42) (by decide +kernel) ?_
      refine x_retI (np := 43) (x := 0) (by decide +kernel) (by decide) (Or.inr ⟨by decide +kernel, by omega, by omega⟩) ⟨_, rfl, (by decide), ?_⟩
      refine x_ifz (k := 0) (tg := 65) (np := 17) (by decide +kernel) (by decide) (by decide) (fun q506 => ?_) (fun q507 => ?_)
      · have q506 : 2147483649 = 2147483648 := q506
        exfalso; omega
      have q507 : ¬ (2147483649 = 2147483648) := q507
      refine x_aload (np := 18) (x := 0) (by decide +kernel) rfl (x_nc_le (by decide)) ?_
      refine x_getC (np := 21) (x := 711) (f := 7) (q := (h282 75 7)) (by decide +kernel) (by decide) (by decide +kernel) rfl (fun l508 => ?_)
      refine x_aload (np := 22) (x := 0) (by decide +kernel) rfl (x_nc_le (by decide)) ?_
      have q509 : h282 75 9 = h4 75 9 := jK 0 f283 rg_75_9_0_1 (by omega) (by omega) (by decide)
      refine x_getC (np := 25) (x := 713) (f := 9) (q := (h4 75 9)) (by decide +kernel) (by decide) (by decide +kernel) q509 (fun l510 => ?_)
      obtain ⟨v511, q512⟩ : ∃ z, z + (h4 75 9) = (h282 75 7) + 2147483648 := ⟨(h282 75 7) + 2147483648 - (h4 75 9), by omega⟩
      refine x_isub (np := 26) (x := 0) (v := v511) (by decide +kernel) l293 l510 (by omega) (by omega) ?_
      refine x_const (np := 27) (x := 9223372051887161347) (a := 2147483651) (by decide +kernel) (by decide) (by decide) ?_
      refine x_icmp (k := 3) (tg := 50) (np := 30) (by decide +kernel) (by decide) (by omega) (by decide) (fun q513 => ?_) (fun q514 => ?_)
      · have q513 : 2147483651 ≤ v511 := q513
        refine x_iload (np := 51) (x := 3) (by decide +kernel) rfl (by omega) ?_
        refine x_istore (np := 52) (x := 3) (lo' := [x_r 75, iv_c a1, iv_c a2, iv_c v280]) (by decide +kernel) (by omega) (Nat.le_of_ble_eq_true rfl) rfl ?_
        refine x_aload (np := 53) (x := 0) (by decide +kernel) rfl (x_nc_le (by decide)) ?_
        refine x_dup (np := 54) (x := 0) (by decide +kernel) (by have z := x_nc_le (k := 75) (by decide); unfold x_r; omega) ?_
        refine x_getC (np := 57) (x := 711) (f := 7) (q := (h282 75 7)) (by decide +kernel) (by decide) (by decide +kernel) rfl (fun l515 => ?_)
        refine x_const (np := 58) (x := 9223372043297226753) (a := 2147483649) (by decide +kernel) (by decide) (by decide) ?_
        refine x_iadd (np := 59) (x := 0) (v := (1 + (h282 75 7))) (by decide +kernel) l293 (by decide) (by omega) (by omega) ?_
        refine x_putI (np := 62) (x := 711) (f := 7) (by decide +kernel) (by decide +kernel) (by omega) (Or.inl (by decide)) ?_
        have j517 := jU (e := 7) (v := (1 + (h282 75 7))) 0 j284 rg_75_7_0_1 (by omega) (by omega) (by omega)
        have f519 := jF (e := 7) (v := (1 + (h282 75 7))) 0 f291 rg_75_7_0_1 (by omega) (by omega) (by decide)
        have f520 := jF (e := 7) (v := (1 + (h282 75 7))) 0 f283 rg_75_7_0_1 (by omega) (by omega) (by decide)
        generalize e518 : x_up h282 75 7 (1 + (h282 75 7)) = h516 at j517 f519 f520 ⊢
        refine x_goto (np := 65) (x := 6) (by decide +kernel) ?_
        have q521 : h516 75 7 = (1 + (h282 75 7)) := by rw [← e518]; exact x_up_at
        have q522 : h516 75 7 = (1 + (h282 75 7)) := by rw [← e518]; exact x_up_at
        have q523 : h516 75 9 = h282 75 9 := by rw [← e518]; exact x_up_i (by omega)
        have q524 : h282 75 9 = h4 75 9 := jK 0 f283 rg_75_9_0_1 (by omega) (by omega) (by decide)
        have q525 : h282 75 9 = h4 75 9 := jK 0 f283 rg_75_9_0_1 (by omega) (by omega) (by decide)
        have q526 : h516 75 7 = (1 + (h282 75 7)) := by rw [← e518]; exact x_up_at
        have q527 : h516 75 9 = h282 75 9 := by rw [← e518]; exact x_up_i (by omega)
        have q528 : h282 75 9 = h4 75 9 := jK 0 f283 rg_75_9_0_1 (by omega) (by omega) (by decide)
        have q529 : h282 75 8 = h4 75 8 := jK 0 f283 rg_75_8_0_1 (by omega) (by omega) (by decide)
        have q530 : h4 75 8 = h 75 8 := jK 0 f6 rg_75_8_0_1 (by omega) (by omega) (by decide)
        have m533 := Tq.fr hT f6 (by decide) (by decide)
        have m532 := Tq.fr m533 f283 (by decide) (by decide)
        have z531 := m532.1
        have q534 : h282 79 u355 = h4 79 u355 := jK u355 f283 rg_79_0_1_400 (by omega) (by omega) (by decide)
        have q535 : h4 79 u355 = h 79 u355 := jK u355 f6 rg_79_0_1_400 (by omega) (by omega) (by decide)
        have z536 := Tq.at (p := (h282 75 7)) (u := u355) m532 (by omega) (by omega)
        have q537 : h282 75 9 = h4 75 9 := jK 0 f283 rg_75_9_0_1 (by omega) (by omega) (by decide)
        exact i290 v280 h516 (by omega) (by omega) (by omega) (by omega) j517 f520 (Ni.st3 m288 (by omega) ⟨by omega, by omega, by omega⟩ (by omega) (by omega) (by omega))
      have q514 : ¬ (2147483651 ≤ v511) := q514
      have q538 : h282 75 9 = h4 75 9 := jK 0 f283 rg_75_9_0_1 (by omega) (by omega) (by decide)
      have b539 := Ni.lt m288 (by omega)
      have b540 := Ni.ge m288
      refine x_const (np := 32) (x := 9223372081951932426) (a := 2147483658) (by decide +kernel) (by decide) (by decide) ?_
      refine x_iload (np := 33) (x := 3) (by decide +kernel) rfl (by omega) ?_
      obtain ⟨u541, q542⟩ : ∃ z, v280 = 2147483648 + z := ⟨v280 - 2147483648, by omega⟩
      refine x_imul (np := 34) (x := 0) (i := 10) (j := u541) (v := (2147483648 + 10 * u541)) (by decide +kernel) (by omega) (by omega) (by omega) (by omega) (by decide) (by omega) ?_
      refine x_aload (np := 35) (x := 0) (by decide +kernel) rfl (x_nc_le (by decide)) ?_
      have q544 : h282 75 5 = 79 := by have z := jB (e := 5) 0 j284 rg_75_5_0_1 (by decide) (by decide); omega
      refine x_getR (np := 38) (x := 709) (f := 5) (q := 79) (by decide +kernel) (by decide) (by decide +kernel) q544 ?_
      refine x_aload (np := 39) (x := 0) (by decide +kernel) rfl (x_nc_le (by decide)) ?_
      refine x_getC (np := 42) (x := 711) (f := 7) (q := (h282 75 7)) (by decide +kernel) (by decide) (by decide +kernel) rfl (fun l545 => ?_)
      have q546 : h282 79 u355 = h4 79 u355 := jK u355 f283 rg_79_0_1_400 (by omega) (by omega) (by decide)
      have q547 : h4 79 u355 = h 79 u355 := jK u355 f6 rg_79_0_1_400 (by omega) (by omega) (by decide)
      refine x_baldC (np := 43) (x := 0) (n := 400) (i := u355) (q := (h 79 u355)) (by decide +kernel) (by decide +kernel) (by omega) (by omega) (by decide) (q546.trans q547) (fun l548 => ?_)
      refine x_iadd (np := 44) (x := 0) (v := (10 * u541 + (h 79 u355))) (by decide +kernel) (by omega) l360 (by omega) (by omega) ?_
      refine x_const (np := 46) (x := 9223372245160689712) (a := 2147483696) (by decide +kernel) (by decide) (by decide) ?_
      obtain ⟨v549, q550⟩ : ∃ z, z + 2147483696 = (10 * u541 + (h 79 u355)) + 2147483648 := ⟨(10 * u541 + (h 79 u355)) + 2147483648 - 2147483696, by omega⟩
      refine x_isub (np := 47) (x := 0) (v := v549) (by decide +kernel) (by omega) (by decide) (by omega) (by omega) ?_
      refine x_goto (np := 50) (x := 51) (by decide +kernel) ?_
      refine x_istore (np := 52) (x := 3) (lo' := [x_r 75, iv_c a1, iv_c a2, iv_c v549]) (by decide +kernel) (by omega) (Nat.le_of_ble_eq_true rfl) rfl ?_
      refine x_aload (np := 53) (x := 0) (by decide +kernel) rfl (x_nc_le (by decide)) ?_
      refine x_dup (np := 54) (x := 0) (by decide +kernel) (by have z := x_nc_le (k := 75) (by decide); unfold x_r; omega) ?_
      refine x_getC (np := 57) (x := 711) (f := 7) (q := (h282 75 7)) (by decide +kernel) (by decide) (by decide +kernel) rfl (fun l551 => ?_)
      refine x_const (np := 58) (x := 9223372043297226753) (a := 2147483649) (by decide +kernel) (by decide) (by decide) ?_
      refine x_iadd (np := 59) (x := 0) (v := (1 + (h282 75 7))) (by decide +kernel) l293 (by decide) (by omega) (by omega) ?_
      refine x_putI (np := 62) (x := 711) (f := 7) (by decide +kernel) (by decide +kernel) (by omega) (Or.inl (by decide)) ?_
      have j553 := jU (e := 7) (v := (1 + (h282 75 7))) 0 j284 rg_75_7_0_1 (by omega) (by omega) (by omega)
      have f555 := jF (e := 7) (v := (1 + (h282 75 7))) 0 f291 rg_75_7_0_1 (by omega) (by omega) (by decide)
      have f556 := jF (e := 7) (v := (1 + (h282 75 7))) 0 f283 rg_75_7_0_1 (by omega) (by omega) (by decide)
      generalize e554 : x_up h282 75 7 (1 + (h282 75 7)) = h552 at j553 f555 f556 ⊢
      refine x_goto (np := 65) (x := 6) (by decide +kernel) ?_
      have q557 : h552 75 7 = (1 + (h282 75 7)) := by rw [← e554]; exact x_up_at
      have q558 : h552 75 7 = (1 + (h282 75 7)) := by rw [← e554]; exact x_up_at
      have q559 : h552 75 9 = h282 75 9 := by rw [← e554]; exact x_up_i (by omega)
      have q560 : h282 75 9 = h4 75 9 := jK 0 f283 rg_75_9_0_1 (by omega) (by omega) (by decide)
      have q561 : h282 75 9 = h4 75 9 := jK 0 f283 rg_75_9_0_1 (by omega) (by omega) (by decide)
      have q562 : h552 75 7 = (1 + (h282 75 7)) := by rw [← e554]; exact x_up_at
      have q563 : h552 75 9 = h282 75 9 := by rw [← e554]; exact x_up_i (by omega)
      have q564 : h282 75 9 = h4 75 9 := jK 0 f283 rg_75_9_0_1 (by omega) (by omega) (by decide)
      have q565 : h282 75 8 = h4 75 8 := jK 0 f283 rg_75_8_0_1 (by omega) (by omega) (by decide)
      have q566 : h4 75 8 = h 75 8 := jK 0 f6 rg_75_8_0_1 (by omega) (by omega) (by decide)
      have m569 := Tq.fr hT f6 (by decide) (by decide)
      have m568 := Tq.fr m569 f283 (by decide) (by decide)
      have z567 := m568.1
      have q570 : h282 79 u355 = h4 79 u355 := jK u355 f283 rg_79_0_1_400 (by omega) (by omega) (by decide)
      have q571 : h4 79 u355 = h 79 u355 := jK u355 f6 rg_79_0_1_400 (by omega) (by omega) (by decide)
      have z572 := Tq.at (p := (h282 75 7)) (u := u355) m568 (by omega) (by omega)
      have q573 : h282 75 9 = h4 75 9 := jK 0 f283 rg_75_9_0_1 (by omega) (by omega) (by decide)
      exact i290 v549 h552 (by omega) (by omega) (by omega) (by omega) j553 f556 (Ni.st m288 (by omega) ⟨by omega, by omega, by omega⟩ (by omega) (by omega) (by omega))
  exact p285 _ 2147483648 h4 (Nat.lt_succ_self _) (by omega) (by omega) (by omega) j5 (Fr.refl _ _) (Ni.zero (by omega) (by omega))
set_option maxHeartbeats 0 in
/-- LentNamesModel.needs(Ljava/lang/String;)Z -/
theorem c172_75_S0 {sc : Nat × Nat} {d ia1 : Nat} {h : xh} {tB : Nat → Nat} {tN : Nat} (hJ : J h) (hia1 : ia1 < 32) (hT : Tq tB tN h) : X sc 172 (d + 5) (xI fun r h' => J h' ∧ Fr 5242881 h h' ∧ (2147483648 ≤ r ∧ r ≤ 2147483649) ∧ (h 75 7 + 0 ≤ h' 75 7) ∧ (r = 2147483649 → h 75 7 + 2 ≤ h' 75 7) ∧ Tw (Wd tB tN ia1 (sk tB tN (h 75 7))) tB tN (sk tB tN (h 75 7)) (iv_tl ia1) r (sk tB tN (h' 75 7))) 0 0 0 [x_r 75, x_b (ia1 + 1)] [] h := by
  have hF := Fr.refl 5242881 h
  refine x_aload (np := 1) (x := 0) (by decide +kernel) rfl (x_nc_le (by decide)) ?_
  refine x_cV (t := 6) (mj := 169) (n := 1) (rc := 12) (ml := 1) (nr := 0) (np := 4) (as := [x_r 75]) (rest := []) (lo1 := [x_r 75]) (by decide +kernel) (by decide) (by decide +kernel) (x_rb_of (by decide +kernel)) rfl rfl (x_wr (by decide) x_wn) x_wn (by decide) rfl (c169_75 hJ  hT) (fun h4 q3 => ?_)
  obtain ⟨j5, f6, c9, c10, c11, c12⟩ := q3
  have f13 := Fr.trans hF f6 (by decide)
  have b14 := jB (e := 7) 0 hJ rg_75_7_0_1 (by omega) (by omega)
  have b15 := jB (e := 9) 0 j5 rg_75_9_0_1 (by omega) (by omega)
  have b16 := jB (e := 7) 0 j5 rg_75_7_0_1 (by omega) (by omega)
  refine x_aload (np := 5) (x := 0) (by decide +kernel) rfl (x_nc_le (by decide)) ?_
  refine x_aloadB (i := ia1) (k4 := 1) rfl hia1 (by rw [tb_b172]; decide +kernel) ?_
  have m20 := Tq.fr hT f6 (by decide) (by decide)
  refine x_cP (t := 6) (mj := 170) (n := 2) (rc := 12) (ml := 4) (nr := 0) (np := 9) (as := [x_r 75, x_b (ia1 + 1)]) (rest := []) (lo1 := [x_r 75, x_b (ia1 + 1), 147573952589676412928, 147573952589676412928]) (by decide +kernel) (by decide) (by decide +kernel) (x_rb_of (by decide +kernel)) rfl rfl (x_wr (by decide) (x_wB hia1 x_wn)) x_wn (by decide) rfl (c170_75_S0 j5  hia1 m20) (fun v17 l18 q19 => ?_)
  obtain ⟨b23, c21, c22⟩ := q19
  have b24 := iv_tl_ge ia1 hia1
  refine x_retI (np := 10) (x := 0) (by decide +kernel) l18 (Or.inr ⟨by decide +kernel, by omega, by omega⟩) ⟨_, rfl, l18, ?_⟩
  exact ⟨j5, f13, (by omega), (by omega), (fun z => by omega), (nd9 c11 c12 c22 hia1 (by omega))⟩
set_option maxHeartbeats 0 in
/-- LentNamesModel.passes(Ljava/lang/String;)Z -/
theorem c171_75_S0 {sc : Nat × Nat} {d ia1 : Nat} {h : xh} {tB : Nat → Nat} {tN : Nat} (hJ : J h) (hia1 : ia1 < 32) (hT : Tq tB tN h) : X sc 171 (d + 5) (xI fun r h' => J h' ∧ Fr 5242881 h h' ∧ (2147483648 ≤ r ∧ r ≤ 2147483649) ∧ (h 75 7 + 0 ≤ h' 75 7) ∧ (r = 2147483649 → h 75 7 + 2 ≤ h' 75 7) ∧ Tk (Wd tB tN ia1 (sk tB tN (h 75 7))) tB tN (sk tB tN (h 75 7)) (iv_tl ia1) r (sk tB tN (h' 75 7))) 0 0 0 [x_r 75, x_b (ia1 + 1)] [] h := by
  have hF := Fr.refl 5242881 h
  refine x_aload (np := 1) (x := 0) (by decide +kernel) rfl (x_nc_le (by decide)) ?_
  refine x_cV (t := 6) (mj := 169) (n := 1) (rc := 12) (ml := 1) (nr := 0) (np := 4) (as := [x_r 75]) (rest := []) (lo1 := [x_r 75]) (by decide +kernel) (by decide) (by decide +kernel) (x_rb_of (by decide +kernel)) rfl rfl (x_wr (by decide) x_wn) x_wn (by decide) rfl (c169_75 hJ  hT) (fun h4 q3 => ?_)
  obtain ⟨j5, f6, c9, c10, c11, c12⟩ := q3
  have f13 := Fr.trans hF f6 (by decide)
  have b14 := jB (e := 7) 0 hJ rg_75_7_0_1 (by omega) (by omega)
  have b15 := jB (e := 9) 0 j5 rg_75_9_0_1 (by omega) (by omega)
  have b16 := jB (e := 7) 0 j5 rg_75_7_0_1 (by omega) (by omega)
  refine x_aload (np := 5) (x := 0) (by decide +kernel) rfl (x_nc_le (by decide)) ?_
  refine x_aloadB (i := ia1) (k4 := 1) rfl hia1 (by rw [tb_b171]; decide +kernel) ?_
  have m20 := Tq.fr hT f6 (by decide) (by decide)
  refine x_cP (t := 6) (mj := 170) (n := 2) (rc := 12) (ml := 4) (nr := 0) (np := 9) (as := [x_r 75, x_b (ia1 + 1)]) (rest := []) (lo1 := [x_r 75, x_b (ia1 + 1), 147573952589676412928, 147573952589676412928]) (by decide +kernel) (by decide) (by decide +kernel) (x_rb_of (by decide +kernel)) rfl rfl (x_wr (by decide) (x_wB hia1 x_wn)) x_wn (by decide) rfl (c170_75_S0 j5  hia1 m20) (fun v17 l18 q19 => ?_)
  obtain ⟨b23, c21, c22⟩ := q19
  have b24 := iv_tl_ge ia1 hia1
  refine x_ifz (k := 0) (tg := 14) (np := 12) (by decide +kernel) (by decide) l18 (fun q25 => ?_) (fun q26 => ?_)
  · have q25 : v17 = 2147483648 := q25
    refine x_aload (np := 15) (x := 0) (by decide +kernel) rfl (x_nc_le (by decide)) ?_
    refine x_aload (np := 16) (x := 0) (by decide +kernel) rfl (x_nc_le (by decide)) ?_
    refine x_getC (np := 19) (x := 713) (f := 9) (q := (h4 75 9)) (by decide +kernel) (by decide) (by decide +kernel) rfl (fun l27 => ?_)
    refine x_putI (np := 22) (x := 711) (f := 7) (by decide +kernel) (by decide +kernel) l27 (Or.inl (by decide)) ?_
    have j29 := jU (e := 7) (v := (h4 75 9)) 0 j5 rg_75_7_0_1 (by omega) (by omega) (by omega)
    have f31 := jF (e := 7) (v := (h4 75 9)) 0 f13 rg_75_7_0_1 (by omega) (by omega) (by decide)
    generalize e30 : x_up h4 75 7 (h4 75 9) = h28 at j29 f31 ⊢
    refine x_const (np := 23) (x := 9223372039002259456) (a := 2147483648) (by decide +kernel) (by decide) (by decide) ?_
    have q32 : h28 75 7 = (h4 75 9) := by rw [← e30]; exact x_up_at
    have q33 : h28 75 7 = (h4 75 9) := by rw [← e30]; exact x_up_at
    have q34 : h28 75 7 = (h4 75 9) := by rw [← e30]; exact x_up_at
    refine x_retI (np := 24) (x := 0) (by decide +kernel) (by decide) (Or.inr ⟨by decide +kernel, by omega, by omega⟩) ⟨_, rfl, (by decide), ?_⟩
    exact ⟨j29, f31, (by omega), (by omega), (fun z => by omega), (ps0 c11 c12 c22 (by omega) hia1 (by omega) (by omega))⟩
  have q26 : ¬ (v17 = 2147483648) := q26
  have b35 := c21 (by omega)
  refine x_const (np := 13) (x := 9223372043297226753) (a := 2147483649) (by decide +kernel) (by decide) (by decide) ?_
  refine x_retI (np := 14) (x := 0) (by decide +kernel) (by decide) (Or.inr ⟨by decide +kernel, by omega, by omega⟩) ⟨_, rfl, (by decide), ?_⟩
  exact ⟨j5, f13, (by omega), (by omega), (fun z => by omega), (ps1 c11 c12 c22 (by omega) hia1 (by omega))⟩
set_option maxHeartbeats 0 in
/-- LentNamesModel.readSeen()Z -/
theorem c185_75 {sc : Nat × Nat} {d  : Nat} {h : xh} {tB : Nat → Nat} {tN : Nat} (hJ : J h) (hC : Cl h) (hT : Tq tB tN h) : X sc 185 (d + 6) (xI fun r h' => J h' ∧ Fr 273678337 h h' ∧ (2147483648 ≤ r ∧ r ≤ 2147483649) ∧ (r = 2147483649 → h' 78 0 = h 78 0) ∧ (r = 2147483649 → h' 78 1 = h 78 1) ∧ (r = 2147483649 → h' 78 2 = h 78 2) ∧ (r = 2147483649 → h' 78 3 = h 78 3) ∧ (r = 2147483649 → h' 78 4 = h 78 4) ∧ (r = 2147483649 → h' 78 5 = h 78 5 + 1) ∧ (r = 2147483649 → Cl h') ∧ ((h 78 5 = 2147483658 ∧ r = 2147483648) ∨ (h 78 5 ≠ 2147483658 ∧ seen9 tB tN (h 76 0) (sk tB tN (h 75 7)) (rs r (sk tB tN (h' 75 7)))))) 0 0 0 [x_r 75, 147573952589676412928, 147573952589676412928, 147573952589676412928] [] h := by
  have hF := Fr.refl 273678337 h
  refine x_aload (np := 1) (x := 0) (by decide +kernel) rfl (x_nc_le (by decide)) ?_
  have q1 : h 75 3 = 78 := by have z := jB (e := 3) 0 hJ rg_75_3_0_1 (by decide) (by decide); omega
  refine x_getR (np := 4) (x := 707) (f := 3) (q := 78) (by decide +kernel) (by decide) (by decide +kernel) q1 ?_
  refine x_const (np := 5) (x := 9223372060477095941) (a := 2147483653) (by decide +kernel) (by decide) (by decide) ?_
  have b2 := jB (e := 5) 0 hJ rg_78_5_0_1 (by omega) (by omega)
  refine x_aldC (np := 6) (x := 0) (n := 290) (i := 5) (q := (h 78 5)) (by decide +kernel) (by decide +kernel) (by omega) (by omega) (by decide) rfl (fun l3 => ?_)
  refine x_const (np := 8) (x := 9223372081951932426) (a := 2147483658) (by decide +kernel) (by decide) (by decide) ?_
  refine x_icmp (k := 1) (tg := 13) (np := 11) (by decide +kernel) (by decide) l3 (by decide) (fun q4 => ?_) (fun q5 => ?_)
  · have q4 : (h 78 5) ≠ 2147483658 := q4
    refine x_const (np := 16) (x := 9223373112744083706) (a := 2147483898) (by decide +kernel) (by decide) (by decide) ?_
    refine x_const (np := 17) (x := 9223372056182128644) (a := 2147483652) (by decide +kernel) (by decide) (by decide) ?_
    refine x_aload (np := 18) (x := 0) (by decide +kernel) rfl (x_nc_le (by decide)) ?_
    have q6 : h 75 3 = 78 := by have z := jB (e := 3) 0 hJ rg_75_3_0_1 (by decide) (by decide); omega
    refine x_getR (np := 21) (x := 707) (f := 3) (q := 78) (by decide +kernel) (by decide) (by decide +kernel) q6 ?_
    refine x_const (np := 22) (x := 9223372060477095941) (a := 2147483653) (by decide +kernel) (by decide) (by decide) ?_
    refine x_aldC (np := 23) (x := 0) (n := 290) (i := 5) (q := (h 78 5)) (by decide +kernel) (by decide +kernel) (by omega) (by omega) (by decide) rfl (fun l7 => ?_)
    obtain ⟨u8, q9⟩ : ∃ z, (h 78 5) = 2147483648 + z := ⟨(h 78 5) - 2147483648, by omega⟩
    refine x_imul (np := 24) (x := 0) (i := 4) (j := u8) (v := (2147483648 + 4 * u8)) (by decide +kernel) (by omega) (by omega) (by omega) (by omega) (by decide) l3 ?_
    refine x_iadd (np := 25) (x := 0) (v := (2147483898 + 4 * u8)) (by decide +kernel) (by decide) (by omega) (by omega) (by omega) ?_
    refine x_istore (np := 26) (x := 1) (lo' := [x_r 75, iv_c (2147483898 + 4 * u8), 147573952589676412928, 147573952589676412928]) (by decide +kernel) (by omega) (Nat.le_of_ble_eq_true rfl) rfl ?_
    refine x_aload (np := 27) (x := 0) (by decide +kernel) rfl (x_nc_le (by decide)) ?_
    refine x_iload (np := 28) (x := 1) (by decide +kernel) rfl (by omega) ?_
    refine x_nI (t := 6) (mj := 177) (n := 2) (rc := 12) (ml := 2) (nr := 0) (np := 31) (as := [x_r 75, iv_c (2147483898 + 4 * u8)]) (rest := []) (lo1 := [x_r 75, iv_c (2147483898 + 4 * u8)]) (by decide +kernel) (by decide) (by decide +kernel) (x_rb_of (by decide +kernel)) rfl rfl (x_wr (by decide) (x_wi (by omega) x_wn)) x_wn (by decide) rfl ?_
    refine x_aload (np := 1) (x := 0) (by decide +kernel) rfl (x_nc_le (by decide)) ?_
    refine x_iload (np := 2) (x := 1) (by decide +kernel) rfl (by omega) ?_
    refine x_aload (np := 3) (x := 0) (by decide +kernel) rfl (x_nc_le (by decide)) ?_
    refine x_const (np := 4) (x := 9223372039002259456) (a := 2147483648) (by decide +kernel) (by decide) (by decide) ?_
    refine x_aload (np := 5) (x := 0) (by decide +kernel) rfl (x_nc_le (by decide)) ?_
    refine x_nI (t := 6) (mj := 157) (n := 1) (rc := 12) (ml := 1) (nr := 4) (np := 8) (as := [x_r 75]) (rest := [iv_c 2147483648, x_r 75, iv_c (2147483898 + 4 * u8), x_r 75]) (lo1 := [x_r 75]) (by decide +kernel) (by decide) (by decide +kernel) (x_rb_of (by decide +kernel)) rfl rfl (x_wr (by decide) x_wn) (x_wi (by decide) (x_wr (by decide) (x_wi (by omega) (x_wr (by decide) x_wn)))) (by decide) rfl ?_
    refine x_aload (np := 1) (x := 0) (by decide +kernel) rfl (x_nc_le (by decide)) ?_
    have q11 : h 75 1 = 76 := by have z := jB (e := 1) 0 hJ rg_75_1_0_1 (by decide) (by decide); omega
    refine x_getR (np := 4) (x := 705) (f := 1) (q := 76) (by decide +kernel) (by decide) (by decide +kernel) q11 ?_
    refine x_const (np := 5) (x := 9223372039002259456) (a := 2147483648) (by decide +kernel) (by decide) (by decide) ?_
    have b12 := jB (e := 0) 0 hJ rg_76_0_0_1 (by omega) (by omega)
    refine x_aldC (np := 6) (x := 0) (n := 1952) (i := 0) (q := (h 76 0)) (by decide +kernel) (by decide +kernel) (by omega) (by omega) (by decide) rfl (fun l13 => ?_)
    refine x_retI (np := 7) (x := 0) (by decide +kernel) l13 (Or.inl (by decide +kernel)) ⟨_, rfl, l13, ?_⟩
    refine x_const (np := 9) (x := 9223372043297226753) (a := 2147483649) (by decide +kernel) (by decide) (by decide) ?_
    obtain ⟨v14, q15⟩ : ∃ z, z + 2147483649 = (h 76 0) + 2147483648 := ⟨(h 76 0) + 2147483648 - 2147483649, by omega⟩
    refine x_isub (np := 10) (x := 0) (v := v14) (by decide +kernel) l13 (by decide) (by omega) (by omega) ?_
    refine x_cI (t := 6) (mj := 174) (n := 3) (rc := 12) (ml := 4) (nr := 2) (np := 13) (as := [x_r 75, iv_c 2147483648, iv_c v14]) (rest := [iv_c (2147483898 + 4 * u8), x_r 75]) (lo1 := [x_r 75, iv_c 2147483648, iv_c v14, 147573952589676412928]) (by decide +kernel) (by decide) (by decide +kernel) (x_rb_of (by decide +kernel)) rfl rfl (x_wr (by decide) (x_wi (by decide) (x_wi (by omega) x_wn))) (x_wi (by omega) (x_wr (by decide) x_wn)) (by decide) rfl (c174_75 hJ  (by omega) (by omega) hT) (fun v16 h19 l17 q18 => ?_)
    obtain ⟨j20, f21, b22, c23, c24, c25, c26, c27, c28⟩ := q18
    have f29 := Fr.trans hF f21 (by decide)
    have b30 := jB (e := 7) 0 hJ rg_75_7_0_1 (by omega) (by omega)
    have b31 := jB (e := 7) 0 j20 rg_75_7_0_1 (by omega) (by omega)
    have b32 := c27 (by omega)
    refine x_nI (t := 6) (mj := 176) (n := 3) (rc := 12) (ml := 3) (nr := 0) (np := 16) (as := [x_r 75, iv_c (2147483898 + 4 * u8), iv_c v16]) (rest := []) (lo1 := [x_r 75, iv_c (2147483898 + 4 * u8), iv_c v16]) (by decide +kernel) (by decide) (by decide +kernel) (x_rb_of (by decide +kernel)) rfl rfl (x_wr (by decide) (x_wi (by omega) (x_wi l17 x_wn))) x_wn (by decide) rfl ?_
    refine x_aload (np := 1) (x := 0) (by decide +kernel) rfl (x_nc_le (by decide)) ?_
    have q33 : h19 75 3 = 78 := by have z := jB (e := 3) 0 j20 rg_75_3_0_1 (by decide) (by decide); omega
    refine x_getR (np := 4) (x := 707) (f := 3) (q := 78) (by decide +kernel) (by decide) (by decide +kernel) q33 ?_
    refine x_iload (np := 5) (x := 1) (by decide +kernel) rfl (by omega) ?_
    refine x_iload (np := 6) (x := 2) (by decide +kernel) rfl l17 ?_
    refine x_ast (np := 7) (x := 0) (kd := 1) (n := 290) (i := (250 + 4 * u8)) (by decide +kernel) (Or.inl rfl) (by decide +kernel) (by omega) (by omega) (by decide) l17 (fun z => absurd z (by decide)) ?_
    have j35 := jU (e := (250 + 4 * u8)) (v := v16) u8 j20 rg_78_250_4_10 (by omega) (by omega) (by omega)
    have f37 := jF (e := (250 + 4 * u8)) (v := v16) u8 f29 rg_78_250_4_10 (by omega) (by omega) (by decide)
    generalize e36 : x_up h19 78 (250 + 4 * u8) v16 = h34 at j35 f37 ⊢
    refine x_iload (np := 8) (x := 2) (by decide +kernel) rfl l17 ?_
    refine x_ifz (k := 2) (tg := 15) (np := 11) (by decide +kernel) (by decide) l17 (fun q38 => ?_) (fun q39 => ?_)
    · have q38 : v16 < 2147483648 := q38
      refine x_const (np := 16) (x := 9223372039002259456) (a := 2147483648) (by decide +kernel) (by decide) (by decide) ?_
      refine x_retI (np := 17) (x := 0) (by decide +kernel) (by decide) (Or.inr ⟨by decide +kernel, by omega, by omega⟩) ⟨_, rfl, (by decide), ?_⟩
      refine x_retI (np := 17) (x := 0) (by decide +kernel) (by decide) (Or.inr ⟨by decide +kernel, by omega, by omega⟩) ⟨_, rfl, (by decide), ?_⟩
      refine x_ifz (k := 0) (tg := 63) (np := 34) (by decide +kernel) (by decide) (by decide) (fun q40 => ?_) (fun q41 => ?_)
      · have q40 : 2147483648 = 2147483648 := q40
        refine x_const (np := 64) (x := 9223372039002259456) (a := 2147483648) (by decide +kernel) (by decide) (by decide) ?_
        have b42 := jB (e := 0) 0 hJ rg_78_0_0_1 (by omega) (by omega)
        have q43 : h34 78 0 = h19 78 0 := by rw [← e36]; exact x_up_i (by omega)
        have q44 : h19 78 0 = h 78 0 := jK 0 f21 rg_78_0_0_1 (by omega) (by omega) (by decide)
        have q45 : h34 78 1 = h19 78 1 := by rw [← e36]; exact x_up_i (by omega)
        have q46 : h19 78 1 = h 78 1 := jK 0 f21 rg_78_1_0_1 (by omega) (by omega) (by decide)
        have b47 := jB (e := 2) 0 hJ rg_78_2_0_1 (by omega) (by omega)
        have q48 : h34 78 2 = h19 78 2 := by rw [← e36]; exact x_up_i (by omega)
        have q49 : h19 78 2 = h 78 2 := jK 0 f21 rg_78_2_0_1 (by omega) (by omega) (by decide)
        have b50 := jB (e := 3) 0 hJ rg_78_3_0_1 (by omega) (by omega)
        have q51 : h34 78 3 = h19 78 3 := by rw [← e36]; exact x_up_i (by omega)
        have q52 : h19 78 3 = h 78 3 := jK 0 f21 rg_78_3_0_1 (by omega) (by omega) (by decide)
        have b53 := jB (e := 4) 0 hJ rg_78_4_0_1 (by omega) (by omega)
        have q54 : h34 78 4 = h19 78 4 := by rw [← e36]; exact x_up_i (by omega)
        have q55 : h19 78 4 = h 78 4 := jK 0 f21 rg_78_4_0_1 (by omega) (by omega) (by decide)
        have q56 : h34 78 5 = h19 78 5 := by rw [← e36]; exact x_up_i (by omega)
        have q57 : h19 78 5 = h 78 5 := jK 0 f21 rg_78_5_0_1 (by omega) (by omega) (by decide)
        refine x_retI (np := 65) (x := 0) (by decide +kernel) (by decide) (Or.inr ⟨by decide +kernel, by omega, by omega⟩) ⟨_, rfl, (by decide), ?_⟩
        exact ⟨j35, f37, (by omega), (fun z => by omega), (fun z => by omega), (fun z => by omega), (fun z => by omega), (fun z => by omega), (fun z => by omega), (fun z => absurd z (by omega)), (Or.inr ⟨by omega, (nm9.f c28 (by omega) (by omega) rfl (by omega) (by omega))⟩)⟩
      have q41 : ¬ (2147483648 = 2147483648) := q41
      exfalso; omega
    have q39 : ¬ (v16 < 2147483648) := q39
    have b58 := c24 (by omega)
    have b59 := c25 (by omega)
    have b60 := c26 (by omega)
    refine x_const (np := 12) (x := 9223372043297226753) (a := 2147483649) (by decide +kernel) (by decide) (by decide) ?_
    refine x_goto (np := 15) (x := 16) (by decide +kernel) ?_
    refine x_retI (np := 17) (x := 0) (by decide +kernel) (by decide) (Or.inr ⟨by decide +kernel, by omega, by omega⟩) ⟨_, rfl, (by decide), ?_⟩
    refine x_retI (np := 17) (x := 0) (by decide +kernel) (by decide) (Or.inr ⟨by decide +kernel, by omega, by omega⟩) ⟨_, rfl, (by decide), ?_⟩
    refine x_ifz (k := 0) (tg := 63) (np := 34) (by decide +kernel) (by decide) (by decide) (fun q61 => ?_) (fun q62 => ?_)
    · have q61 : 2147483649 = 2147483648 := q61
      exfalso; omega
    have q62 : ¬ (2147483649 = 2147483648) := q62
    refine x_aload (np := 35) (x := 0) (by decide +kernel) rfl (x_nc_le (by decide)) ?_
    refine x_ldcB (i := 2) (idx := 147) (tx := "day") (by rw [tb_y185]; exact List.mem_of_getElem? (i := 37) rfl) (by decide) (by rw [tb_b185]; decide +kernel) ?_
    have m67 := Tq.fr hT f21 (by decide) (by decide)
    have m66 : Tq tB tN h34 := by rw [← e36]; exact Tq.oth m67 (by decide) (fun z => absurd z.1 (by decide))
    refine x_cI (t := 6) (mj := 172) (n := 2) (rc := 12) (ml := 2) (nr := 0) (np := 40) (as := [x_r 75, x_b (2 + 1)]) (rest := []) (lo1 := [x_r 75, x_b (2 + 1)]) (by decide +kernel) (by decide) (by decide +kernel) (x_rb_of (by decide +kernel)) rfl rfl (x_wr (by decide) (x_wB (by decide) x_wn)) x_wn (by decide) rfl (c172_75_S0 j35  (by decide) m66) (fun v63 h68 l64 q65 => ?_)
    obtain ⟨j69, f70, b71, c72, c73, c74⟩ := q65
    have f75 := Fr.trans f37 f70 (by decide)
    have q76 : h34 75 7 = h19 75 7 := by rw [← e36]; exact x_up_k (by decide)
    have b77 := jB (e := 7) 0 j69 rg_75_7_0_1 (by omega) (by omega)
    have q78 : h34 75 7 = h19 75 7 := by rw [← e36]; exact x_up_k (by decide)
    refine x_ifz (k := 0) (tg := 63) (np := 43) (by decide +kernel) (by decide) l64 (fun q79 => ?_) (fun q80 => ?_)
    · have q79 : v63 = 2147483648 := q79
      refine x_const (np := 64) (x := 9223372039002259456) (a := 2147483648) (by decide +kernel) (by decide) (by decide) ?_
      have b81 := jB (e := 0) 0 hJ rg_78_0_0_1 (by omega) (by omega)
      have q82 : h68 78 0 = h34 78 0 := jK 0 f70 rg_78_0_0_1 (by omega) (by omega) (by decide)
      have q83 : h34 78 0 = h19 78 0 := by rw [← e36]; exact x_up_i (by omega)
      have q84 : h19 78 0 = h 78 0 := jK 0 f21 rg_78_0_0_1 (by omega) (by omega) (by decide)
      have q85 : h68 78 1 = h34 78 1 := jK 0 f70 rg_78_1_0_1 (by omega) (by omega) (by decide)
      have q86 : h34 78 1 = h19 78 1 := by rw [← e36]; exact x_up_i (by omega)
      have q87 : h19 78 1 = h 78 1 := jK 0 f21 rg_78_1_0_1 (by omega) (by omega) (by decide)
      have b88 := jB (e := 2) 0 hJ rg_78_2_0_1 (by omega) (by omega)
      have q89 : h68 78 2 = h34 78 2 := jK 0 f70 rg_78_2_0_1 (by omega) (by omega) (by decide)
      have q90 : h34 78 2 = h19 78 2 := by rw [← e36]; exact x_up_i (by omega)
      have q91 : h19 78 2 = h 78 2 := jK 0 f21 rg_78_2_0_1 (by omega) (by omega) (by decide)
      have b92 := jB (e := 3) 0 hJ rg_78_3_0_1 (by omega) (by omega)
      have q93 : h68 78 3 = h34 78 3 := jK 0 f70 rg_78_3_0_1 (by omega) (by omega) (by decide)
      have q94 : h34 78 3 = h19 78 3 := by rw [← e36]; exact x_up_i (by omega)
      have q95 : h19 78 3 = h 78 3 := jK 0 f21 rg_78_3_0_1 (by omega) (by omega) (by decide)
      have b96 := jB (e := 4) 0 hJ rg_78_4_0_1 (by omega) (by omega)
      have q97 : h68 78 4 = h34 78 4 := jK 0 f70 rg_78_4_0_1 (by omega) (by omega) (by decide)
      have q98 : h34 78 4 = h19 78 4 := by rw [← e36]; exact x_up_i (by omega)
      have q99 : h19 78 4 = h 78 4 := jK 0 f21 rg_78_4_0_1 (by omega) (by omega) (by decide)
      have q100 : h68 78 5 = h34 78 5 := jK 0 f70 rg_78_5_0_1 (by omega) (by omega) (by decide)
      have q101 : h34 78 5 = h19 78 5 := by rw [← e36]; exact x_up_i (by omega)
      have q102 : h19 78 5 = h 78 5 := jK 0 f21 rg_78_5_0_1 (by omega) (by omega) (by decide)
      have q103 : h34 75 7 = h19 75 7 := by rw [← e36]; exact x_up_k (by decide)
      refine x_retI (np := 65) (x := 0) (by decide +kernel) (by decide) (Or.inr ⟨by decide +kernel, by omega, by omega⟩) ⟨_, rfl, (by decide), ?_⟩
      exact ⟨j69, f75, (by omega), (fun z => by omega), (fun z => by omega), (fun z => by omega), (fun z => by omega), (fun z => by omega), (fun z => by omega), (fun z => absurd z (by omega)), (Or.inr ⟨by omega, (nm9.y c28 (by omega) (by omega) rfl (by omega) rfl (wd9.f (Tw.no c74 (by omega)) (congrArg (sk tB tN) (show h34 75 7 = h19 75 7 by omega)) (by omega)))⟩)⟩
    have q80 : ¬ (v63 = 2147483648) := q80
    have b104 := c73 (by omega)
    refine x_aload (np := 44) (x := 0) (by decide +kernel) rfl (x_nc_le (by decide)) ?_
    refine x_iload (np := 45) (x := 1) (by decide +kernel) rfl (by omega) ?_
    refine x_const (np := 46) (x := 9223372043297226753) (a := 2147483649) (by decide +kernel) (by decide) (by decide) ?_
    refine x_iadd (np := 47) (x := 0) (v := (2147483899 + 4 * u8)) (by decide +kernel) (by omega) (by decide) (by omega) (by omega) ?_
    refine x_const (np := 48) (x := 9223372039002259456) (a := 2147483648) (by decide +kernel) (by decide) (by decide) ?_
    refine x_nI (t := 6) (mj := 178) (n := 3) (rc := 12) (ml := 3) (nr := 0) (np := 51) (as := [x_r 75, iv_c (2147483899 + 4 * u8), iv_c 2147483648]) (rest := []) (lo1 := [x_r 75, iv_c (2147483899 + 4 * u8), iv_c 2147483648]) (by decide +kernel) (by decide) (by decide +kernel) (x_rb_of (by decide +kernel)) rfl rfl (x_wr (by decide) (x_wi (by omega) (x_wi (by decide) x_wn))) x_wn (by decide) rfl ?_
    refine x_aload (np := 1) (x := 0) (by decide +kernel) rfl (x_nc_le (by decide)) ?_
    refine x_iload (np := 2) (x := 1) (by decide +kernel) rfl (by omega) ?_
    refine x_aload (np := 3) (x := 0) (by decide +kernel) rfl (x_nc_le (by decide)) ?_
    refine x_iload (np := 4) (x := 2) (by decide +kernel) rfl (by decide) ?_
    refine x_const (np := 6) (x := 9223372086246899723) (a := 2147483659) (by decide +kernel) (by decide) (by decide) ?_
    have m108 := Tq.fr m66 f70 (by decide) (by decide)
    refine x_cI (t := 6) (mj := 174) (n := 3) (rc := 12) (ml := 4) (nr := 2) (np := 9) (as := [x_r 75, iv_c 2147483648, iv_c 2147483659]) (rest := [iv_c (2147483899 + 4 * u8), x_r 75]) (lo1 := [x_r 75, iv_c 2147483648, iv_c 2147483659, 147573952589676412928]) (by decide +kernel) (by decide) (by decide +kernel) (x_rb_of (by decide +kernel)) rfl rfl (x_wr (by decide) (x_wi (by decide) (x_wi (by decide) x_wn))) (x_wi (by omega) (x_wr (by decide) x_wn)) (by decide) rfl (c174_75 j69  (by omega) (by omega) m108) (fun v105 h109 l106 q107 => ?_)
    obtain ⟨j110, f111, b112, c113, c114, c115, c116, c117, c118⟩ := q107
    have f119 := Fr.trans f75 f111 (by decide)
    have b120 := jB (e := 7) 0 j110 rg_75_7_0_1 (by omega) (by omega)
    have b121 := c117 (by omega)
    refine x_nI (t := 6) (mj := 176) (n := 3) (rc := 12) (ml := 3) (nr := 0) (np := 12) (as := [x_r 75, iv_c (2147483899 + 4 * u8), iv_c v105]) (rest := []) (lo1 := [x_r 75, iv_c (2147483899 + 4 * u8), iv_c v105]) (by decide +kernel) (by decide) (by decide +kernel) (x_rb_of (by decide +kernel)) rfl rfl (x_wr (by decide) (x_wi (by omega) (x_wi l106 x_wn))) x_wn (by decide) rfl ?_
    refine x_aload (np := 1) (x := 0) (by decide +kernel) rfl (x_nc_le (by decide)) ?_
    have q122 : h109 75 3 = 78 := by have z := jB (e := 3) 0 j110 rg_75_3_0_1 (by decide) (by decide); omega
    refine x_getR (np := 4) (x := 707) (f := 3) (q := 78) (by decide +kernel) (by decide) (by decide +kernel) q122 ?_
    refine x_iload (np := 5) (x := 1) (by decide +kernel) rfl (by omega) ?_
    refine x_iload (np := 6) (x := 2) (by decide +kernel) rfl l106 ?_
    refine x_ast (np := 7) (x := 0) (kd := 1) (n := 290) (i := (251 + 4 * u8)) (by decide +kernel) (Or.inl rfl) (by decide +kernel) (by omega) (by omega) (by decide) l106 (fun z => absurd z (by decide)) ?_
    have j124 := jU (e := (251 + 4 * u8)) (v := v105) u8 j110 rg_78_251_4_10 (by omega) (by omega) (by omega)
    have f126 := jF (e := (251 + 4 * u8)) (v := v105) u8 f119 rg_78_251_4_10 (by omega) (by omega) (by decide)
    generalize e125 : x_up h109 78 (251 + 4 * u8) v105 = h123 at j124 f126 ⊢
    refine x_iload (np := 8) (x := 2) (by decide +kernel) rfl l106 ?_
    refine x_ifz (k := 2) (tg := 15) (np := 11) (by decide +kernel) (by decide) l106 (fun q127 => ?_) (fun q128 => ?_)
    · have q127 : v105 < 2147483648 := q127
      refine x_const (np := 16) (x := 9223372039002259456) (a := 2147483648) (by decide +kernel) (by decide) (by decide) ?_
      refine x_retI (np := 17) (x := 0) (by decide +kernel) (by decide) (Or.inr ⟨by decide +kernel, by omega, by omega⟩) ⟨_, rfl, (by decide), ?_⟩
      refine x_retI (np := 13) (x := 0) (by decide +kernel) (by decide) (Or.inr ⟨by decide +kernel, by omega, by omega⟩) ⟨_, rfl, (by decide), ?_⟩
      refine x_ifz (k := 0) (tg := 63) (np := 54) (by decide +kernel) (by decide) (by decide) (fun q129 => ?_) (fun q130 => ?_)
      · have q129 : 2147483648 = 2147483648 := q129
        refine x_const (np := 64) (x := 9223372039002259456) (a := 2147483648) (by decide +kernel) (by decide) (by decide) ?_
        have b131 := jB (e := 0) 0 hJ rg_78_0_0_1 (by omega) (by omega)
        have q132 : h123 78 0 = h109 78 0 := by rw [← e125]; exact x_up_i (by omega)
        have q133 : h109 78 0 = h68 78 0 := jK 0 f111 rg_78_0_0_1 (by omega) (by omega) (by decide)
        have q134 : h68 78 0 = h34 78 0 := jK 0 f70 rg_78_0_0_1 (by omega) (by omega) (by decide)
        have q135 : h34 78 0 = h19 78 0 := by rw [← e36]; exact x_up_i (by omega)
        have q136 : h19 78 0 = h 78 0 := jK 0 f21 rg_78_0_0_1 (by omega) (by omega) (by decide)
        have q137 : h123 78 1 = h109 78 1 := by rw [← e125]; exact x_up_i (by omega)
        have q138 : h109 78 1 = h68 78 1 := jK 0 f111 rg_78_1_0_1 (by omega) (by omega) (by decide)
        have q139 : h68 78 1 = h34 78 1 := jK 0 f70 rg_78_1_0_1 (by omega) (by omega) (by decide)
        have q140 : h34 78 1 = h19 78 1 := by rw [← e36]; exact x_up_i (by omega)
        have q141 : h19 78 1 = h 78 1 := jK 0 f21 rg_78_1_0_1 (by omega) (by omega) (by decide)
        have b142 := jB (e := 2) 0 hJ rg_78_2_0_1 (by omega) (by omega)
        have q143 : h123 78 2 = h109 78 2 := by rw [← e125]; exact x_up_i (by omega)
        have q144 : h109 78 2 = h68 78 2 := jK 0 f111 rg_78_2_0_1 (by omega) (by omega) (by decide)
        have q145 : h68 78 2 = h34 78 2 := jK 0 f70 rg_78_2_0_1 (by omega) (by omega) (by decide)
        have q146 : h34 78 2 = h19 78 2 := by rw [← e36]; exact x_up_i (by omega)
        have q147 : h19 78 2 = h 78 2 := jK 0 f21 rg_78_2_0_1 (by omega) (by omega) (by decide)
        have b148 := jB (e := 3) 0 hJ rg_78_3_0_1 (by omega) (by omega)
        have q149 : h123 78 3 = h109 78 3 := by rw [← e125]; exact x_up_i (by omega)
        have q150 : h109 78 3 = h68 78 3 := jK 0 f111 rg_78_3_0_1 (by omega) (by omega) (by decide)
        have q151 : h68 78 3 = h34 78 3 := jK 0 f70 rg_78_3_0_1 (by omega) (by omega) (by decide)
        have q152 : h34 78 3 = h19 78 3 := by rw [← e36]; exact x_up_i (by omega)
        have q153 : h19 78 3 = h 78 3 := jK 0 f21 rg_78_3_0_1 (by omega) (by omega) (by decide)
        have b154 := jB (e := 4) 0 hJ rg_78_4_0_1 (by omega) (by omega)
        have q155 : h123 78 4 = h109 78 4 := by rw [← e125]; exact x_up_i (by omega)
        have q156 : h109 78 4 = h68 78 4 := jK 0 f111 rg_78_4_0_1 (by omega) (by omega) (by decide)
        have q157 : h68 78 4 = h34 78 4 := jK 0 f70 rg_78_4_0_1 (by omega) (by omega) (by decide)
        have q158 : h34 78 4 = h19 78 4 := by rw [← e36]; exact x_up_i (by omega)
        have q159 : h19 78 4 = h 78 4 := jK 0 f21 rg_78_4_0_1 (by omega) (by omega) (by decide)
        have q160 : h123 78 5 = h109 78 5 := by rw [← e125]; exact x_up_i (by omega)
        have q161 : h109 78 5 = h68 78 5 := jK 0 f111 rg_78_5_0_1 (by omega) (by omega) (by decide)
        have q162 : h68 78 5 = h34 78 5 := jK 0 f70 rg_78_5_0_1 (by omega) (by omega) (by decide)
        have q163 : h34 78 5 = h19 78 5 := by rw [← e36]; exact x_up_i (by omega)
        have q164 : h19 78 5 = h 78 5 := jK 0 f21 rg_78_5_0_1 (by omega) (by omega) (by decide)
        have q165 : h34 75 7 = h19 75 7 := by rw [← e36]; exact x_up_k (by decide)
        obtain ⟨w166, e167⟩ := Tw.yes c74 (by omega)
        refine x_retI (np := 65) (x := 0) (by decide +kernel) (by decide) (Or.inr ⟨by decide +kernel, by omega, by omega⟩) ⟨_, rfl, (by decide), ?_⟩
        exact ⟨j124, f126, (by omega), (fun z => by omega), (fun z => by omega), (fun z => by omega), (fun z => by omega), (fun z => by omega), (fun z => by omega), (fun z => absurd z (by omega)), (Or.inr ⟨by omega, (nm9.y c28 (by omega) (by omega) rfl (by omega) rfl (wd9.y w166 (congrArg (sk tB tN) (show h34 75 7 = h19 75 7 by omega)) e167 rfl (nm9.f c118 (by omega) (by omega) rfl (by omega) (by omega))))⟩)⟩
      have q130 : ¬ (2147483648 = 2147483648) := q130
      exfalso; omega
    have q128 : ¬ (v105 < 2147483648) := q128
    have b168 := c114 (by omega)
    have b169 := c115 (by omega)
    have b170 := c116 (by omega)
    refine x_const (np := 12) (x := 9223372043297226753) (a := 2147483649) (by decide +kernel) (by decide) (by decide) ?_
    refine x_goto (np := 15) (x := 16) (by decide +kernel) ?_
    refine x_retI (np := 17) (x := 0) (by decide +kernel) (by decide) (Or.inr ⟨by decide +kernel, by omega, by omega⟩) ⟨_, rfl, (by decide), ?_⟩
    refine x_retI (np := 13) (x := 0) (by decide +kernel) (by decide) (Or.inr ⟨by decide +kernel, by omega, by omega⟩) ⟨_, rfl, (by decide), ?_⟩
    refine x_ifz (k := 0) (tg := 63) (np := 54) (by decide +kernel) (by decide) (by decide) (fun q171 => ?_) (fun q172 => ?_)
    · have q171 : 2147483649 = 2147483648 := q171
      exfalso; omega
    have q172 : ¬ (2147483649 = 2147483648) := q172
    refine x_aload (np := 55) (x := 0) (by decide +kernel) rfl (x_nc_le (by decide)) ?_
    refine x_ldcB (i := 14) (idx := 177) (tx := "as") (by rw [tb_y185]; exact List.mem_of_getElem? (i := 53) rfl) (by decide) (by rw [tb_b185]; decide +kernel) ?_
    have m177 := Tq.fr m108 f111 (by decide) (by decide)
    have m176 : Tq tB tN h123 := by rw [← e125]; exact Tq.oth m177 (by decide) (fun z => absurd z.1 (by decide))
    refine x_cI (t := 6) (mj := 172) (n := 2) (rc := 12) (ml := 2) (nr := 0) (np := 60) (as := [x_r 75, x_b (14 + 1)]) (rest := []) (lo1 := [x_r 75, x_b (14 + 1)]) (by decide +kernel) (by decide) (by decide +kernel) (x_rb_of (by decide +kernel)) rfl rfl (x_wr (by decide) (x_wB (by decide) x_wn)) x_wn (by decide) rfl (c172_75_S0 j124  (by decide) m176) (fun v173 h178 l174 q175 => ?_)
    obtain ⟨j179, f180, b181, c182, c183, c184⟩ := q175
    have f185 := Fr.trans f126 f180 (by decide)
    have q186 : h123 75 7 = h109 75 7 := by rw [← e125]; exact x_up_k (by decide)
    have b187 := jB (e := 7) 0 j179 rg_75_7_0_1 (by omega) (by omega)
    have q188 : h123 75 7 = h109 75 7 := by rw [← e125]; exact x_up_k (by decide)
    refine x_ifz (k := 1) (tg := 65) (np := 63) (by decide +kernel) (by decide) l174 (fun q189 => ?_) (fun q190 => ?_)
    · have q189 : v173 ≠ 2147483648 := q189
      have b191 := c183 (by omega)
      refine x_aload (np := 66) (x := 0) (by decide +kernel) rfl (x_nc_le (by decide)) ?_
      have q192 : h178 75 3 = 78 := by have z := jB (e := 3) 0 j179 rg_75_3_0_1 (by decide) (by decide); omega
      refine x_getR (np := 69) (x := 707) (f := 3) (q := 78) (by decide +kernel) (by decide) (by decide +kernel) q192 ?_
      refine x_iload (np := 70) (x := 1) (by decide +kernel) rfl (by omega) ?_
      refine x_const (np := 71) (x := 9223372047592194050) (a := 2147483650) (by decide +kernel) (by decide) (by decide) ?_
      refine x_iadd (np := 72) (x := 0) (v := (2147483900 + 4 * u8)) (by decide +kernel) (by omega) (by decide) (by omega) (by omega) ?_
      refine x_const (np := 73) (x := 9223372039002259456) (a := 2147483648) (by decide +kernel) (by decide) (by decide) ?_
      refine x_ast (np := 74) (x := 0) (kd := 1) (n := 290) (i := (252 + 4 * u8)) (by decide +kernel) (Or.inl rfl) (by decide +kernel) (by omega) (by omega) (by decide) (by decide) (fun z => absurd z (by decide)) ?_
      have j194 := jU (e := (252 + 4 * u8)) (v := 2147483648) u8 j179 rg_78_252_4_10 (by omega) (by omega) (by omega)
      have f196 := jF (e := (252 + 4 * u8)) (v := 2147483648) u8 f185 rg_78_252_4_10 (by omega) (by omega) (by decide)
      generalize e195 : x_up h178 78 (252 + 4 * u8) 2147483648 = h193 at j194 f196 ⊢
      refine x_const (np := 75) (x := 9223372043297226753) (a := 2147483649) (by decide +kernel) (by decide) (by decide) ?_
      refine x_istore (np := 76) (x := 2) (lo' := [x_r 75, iv_c (2147483898 + 4 * u8), iv_c 2147483649, 147573952589676412928]) (by decide +kernel) (by decide) (Nat.le_of_ble_eq_true rfl) rfl ?_
      have p351 : ∀ (n : Nat) (v345 : Nat) (w347 : Nat) (h348 : xh), 4294967296 - h348 75 7 < n → (2147483648 ≤ v345 ∧ v345 ≤ 2147483649) → h348 78 5 = h 78 5 → h348 78 0 = h 78 0 → h348 78 1 = h 78 1 → h348 78 2 = h 78 2 → h348 78 3 = h 78 3 → h348 78 4 = h 78 4 → J h348 → Fr 273678337 h193 h348 → Cl h348 → (v345 = 2147483649 → Bq tB tN (h 76 0 - 1) (sk tB tN (h348 75 7)) (sk tB tN (h178 75 7))) ∧ (v345 = 2147483648 → Bl tB tN (h 76 0 - 1) (sk tB tN (h178 75 7)) (some (sk tB tN (h348 75 7)))) → h348 78 (251 + 4 * u8) = v105 → X sc 185 (d + 6) (xI fun r h' => J h' ∧ Fr 273678337 h h' ∧ (2147483648 ≤ r ∧ r ≤ 2147483649) ∧ (r = 2147483649 → h' 78 0 = h 78 0) ∧ (r = 2147483649 → h' 78 1 = h 78 1) ∧ (r = 2147483649 → h' 78 2 = h 78 2) ∧ (r = 2147483649 → h' 78 3 = h 78 3) ∧ (r = 2147483649 → h' 78 4 = h 78 4) ∧ (r = 2147483649 → h' 78 5 = h 78 5 + 1) ∧ (r = 2147483649 → Cl h') ∧ ((h 78 5 = 2147483658 ∧ r = 2147483648) ∨ (h 78 5 ≠ 2147483658 ∧ seen9 tB tN (h 76 0) (sk tB tN (h 75 7)) (rs r (sk tB tN (h' 75 7)))))) 0 0 76 [x_r 75, iv_c (2147483898 + 4 * u8), iv_c v345, w347] [] h348 := by
        intro n
        induction n with
        | zero => intro v345 w347 h348 q361; exact absurd q361 (Nat.not_lt_zero _)
        | succ n i362 =>
          intro v345 w347 h348 q361 b346 b352 b353 b354 b355 b356 b357 j350 f349 m360 m358 m359
          have f363 := Fr.trans f196 f349 (by decide)
          have b364 := jB (e := 7) 0 j350 rg_75_7_0_1 (by omega) (by omega)
          refine x_iload (np := 77) (x := 2) (by decide +kernel) rfl (by omega) ?_
          refine x_ifz (k := 0) (tg := 122) (np := 80) (by decide +kernel) (by decide) (by omega) (fun q365 => ?_) (fun q366 => ?_)
          · have q365 : v345 = 2147483648 := q365
            refine x_aload (np := 123) (x := 0) (by decide +kernel) rfl (x_nc_le (by decide)) ?_
            refine x_ldcB (i := 16) (idx := 181) (tx := "known") (by rw [tb_y185]; exact List.mem_of_getElem? (i := 55) rfl) (by decide) (by rw [tb_b185]; decide +kernel) ?_
            have m372 := Tq.fr m176 f180 (by decide) (by decide)
            have m371 : Tq tB tN h193 := by rw [← e195]; exact Tq.oth m372 (by decide) (fun z => absurd z.1 (by decide))
            have m370 := Tq.fr m371 f349 (by decide) (by decide)
            refine x_cI (t := 6) (mj := 172) (n := 2) (rc := 12) (ml := 2) (nr := 0) (np := 128) (as := [x_r 75, x_b (16 + 1)]) (rest := []) (lo1 := [x_r 75, x_b (16 + 1)]) (by decide +kernel) (by decide) (by decide +kernel) (x_rb_of (by decide +kernel)) rfl rfl (x_wr (by decide) (x_wB (by decide) x_wn)) x_wn (by decide) rfl (c172_75_S0 j350  (by decide) m370) (fun v367 h373 l368 q369 => ?_)
            obtain ⟨j374, f375, b376, c377, c378, c379⟩ := q369
            have f380 := Fr.trans f363 f375 (by decide)
            have b381 := jB (e := 7) 0 j374 rg_75_7_0_1 (by omega) (by omega)
            refine x_ifz (k := 0) (tg := 149) (np := 131) (by decide +kernel) (by decide) l368 (fun q382 => ?_) (fun q383 => ?_)
            · have q382 : v367 = 2147483648 := q382
              refine x_const (np := 150) (x := 9223372039002259456) (a := 2147483648) (by decide +kernel) (by decide) (by decide) ?_
              have b384 := jB (e := 0) 0 hJ rg_78_0_0_1 (by omega) (by omega)
              have q385 : h373 78 0 = h348 78 0 := jK 0 f375 rg_78_0_0_1 (by omega) (by omega) (by decide)
              have b386 := jB (e := 0) 0 j350 rg_78_0_0_1 (by omega) (by omega)
              have q387 : h373 78 1 = h348 78 1 := jK 0 f375 rg_78_1_0_1 (by omega) (by omega) (by decide)
              have b388 := jB (e := 2) 0 hJ rg_78_2_0_1 (by omega) (by omega)
              have q389 : h373 78 2 = h348 78 2 := jK 0 f375 rg_78_2_0_1 (by omega) (by omega) (by decide)
              have b390 := jB (e := 2) 0 j350 rg_78_2_0_1 (by omega) (by omega)
              have b391 := jB (e := 3) 0 hJ rg_78_3_0_1 (by omega) (by omega)
              have q392 : h373 78 3 = h348 78 3 := jK 0 f375 rg_78_3_0_1 (by omega) (by omega) (by decide)
              have b393 := jB (e := 3) 0 j350 rg_78_3_0_1 (by omega) (by omega)
              have b394 := jB (e := 4) 0 hJ rg_78_4_0_1 (by omega) (by omega)
              have q395 : h373 78 4 = h348 78 4 := jK 0 f375 rg_78_4_0_1 (by omega) (by omega) (by decide)
              have b396 := jB (e := 4) 0 j350 rg_78_4_0_1 (by omega) (by omega)
              have q397 : h373 78 5 = h348 78 5 := jK 0 f375 rg_78_5_0_1 (by omega) (by omega) (by decide)
              have b398 := jB (e := 5) 0 j350 rg_78_5_0_1 (by omega) (by omega)
              have y399 : Bl tB tN (h 76 0 - 1) (sk tB tN (h178 75 7)) (rs 2147483649 (sk tB tN (h348 75 7))) := by rw [rs1 rfl]; exact m358.2 (by omega)
              have q400 : h34 75 7 = h19 75 7 := by rw [← e36]; exact x_up_k (by decide)
              obtain ⟨w401, e402⟩ := Tw.yes c74 (by omega)
              have q403 : h123 75 7 = h109 75 7 := by rw [← e125]; exact x_up_k (by decide)
              obtain ⟨w404, e405⟩ := Tw.yes c184 (by omega)
              refine x_retI (np := 151) (x := 0) (by decide +kernel) (by decide) (Or.inr ⟨by decide +kernel, by omega, by omega⟩) ⟨_, rfl, (by decide), ?_⟩
              exact ⟨j374, f380, (by omega), (fun z => by omega), (fun z => by omega), (fun z => by omega), (fun z => by omega), (fun z => by omega), (fun z => by omega), (fun z => absurd z (by omega)), (Or.inr ⟨by omega, (nm9.y c28 (by omega) (by omega) rfl (by omega) rfl (wd9.y w401 (congrArg (sk tB tN) (show h34 75 7 = h19 75 7 by omega)) e402 rfl (nm9.y c118 (by omega) (by omega) rfl (by omega) rfl (wd9.y w404 (congrArg (sk tB tN) (show h123 75 7 = h109 75 7 by omega)) e405 rfl (bl9.y y399 rfl rfl rfl rfl (wd9.f (Tw.no c379 (by omega)) rfl (by omega)))))))⟩)⟩
            have q383 : ¬ (v367 = 2147483648) := q383
            have b406 := c378 (by omega)
            refine x_aload (np := 132) (x := 0) (by decide +kernel) rfl (x_nc_le (by decide)) ?_
            refine x_iload (np := 133) (x := 1) (by decide +kernel) rfl (by omega) ?_
            refine x_const (np := 134) (x := 9223372051887161347) (a := 2147483651) (by decide +kernel) (by decide) (by decide) ?_
            refine x_iadd (np := 135) (x := 0) (v := (2147483901 + 4 * u8)) (by decide +kernel) (by omega) (by decide) (by omega) (by omega) ?_
            refine x_aload (np := 136) (x := 0) (by decide +kernel) rfl (x_nc_le (by decide)) ?_
            have q407 : h373 75 3 = 78 := by have z := jB (e := 3) 0 j374 rg_75_3_0_1 (by decide) (by decide); omega
            refine x_getR (np := 139) (x := 707) (f := 3) (q := 78) (by decide +kernel) (by decide) (by decide +kernel) q407 ?_
            refine x_iload (np := 140) (x := 1) (by decide +kernel) rfl (by omega) ?_
            refine x_const (np := 141) (x := 9223372043297226753) (a := 2147483649) (by decide +kernel) (by decide) (by decide) ?_
            refine x_iadd (np := 142) (x := 0) (v := (2147483899 + 4 * u8)) (by decide +kernel) (by omega) (by decide) (by omega) (by omega) ?_
            have q408 : h373 78 (251 + 4 * u8) = h348 78 (251 + 4 * u8) := jK u8 f375 rg_78_251_4_10 (by omega) (by omega) (by decide)
            refine x_aldC (np := 143) (x := 0) (n := 290) (i := (251 + 4 * u8)) (q := ((h348 78 (251 + 4 * u8)))) (by decide +kernel) (by decide +kernel) (by omega) (by omega) (by decide) q408 (fun l409 => ?_)
            refine x_nI (t := 6) (mj := 178) (n := 3) (rc := 12) (ml := 3) (nr := 0) (np := 146) (as := [x_r 75, iv_c (2147483901 + 4 * u8), iv_c ((h348 78 (251 + 4 * u8)))]) (rest := []) (lo1 := [x_r 75, iv_c (2147483901 + 4 * u8), iv_c ((h348 78 (251 + 4 * u8)))]) (by decide +kernel) (by decide) (by decide +kernel) (x_rb_of (by decide +kernel)) rfl rfl (x_wr (by decide) (x_wi (by omega) (x_wi l409 x_wn))) x_wn (by decide) rfl ?_
            refine x_aload (np := 1) (x := 0) (by decide +kernel) rfl (x_nc_le (by decide)) ?_
            refine x_iload (np := 2) (x := 1) (by decide +kernel) rfl (by omega) ?_
            refine x_aload (np := 3) (x := 0) (by decide +kernel) rfl (x_nc_le (by decide)) ?_
            refine x_iload (np := 4) (x := 2) (by decide +kernel) rfl l409 ?_
            refine x_const (np := 6) (x := 9223372086246899723) (a := 2147483659) (by decide +kernel) (by decide) (by decide) ?_
            have m413 := Tq.fr m370 f375 (by decide) (by decide)
            refine x_cI (t := 6) (mj := 174) (n := 3) (rc := 12) (ml := 4) (nr := 2) (np := 9) (as := [x_r 75, iv_c ((h348 78 (251 + 4 * u8))), iv_c 2147483659]) (rest := [iv_c (2147483901 + 4 * u8), x_r 75]) (lo1 := [x_r 75, iv_c ((h348 78 (251 + 4 * u8))), iv_c 2147483659, 147573952589676412928]) (by decide +kernel) (by decide) (by decide +kernel) (x_rb_of (by decide +kernel)) rfl rfl (x_wr (by decide) (x_wi l409 (x_wi (by decide) x_wn))) (x_wi (by omega) (x_wr (by decide) x_wn)) (by decide) rfl (c174_75 j374  (by omega) (by omega) m413) (fun v410 h414 l411 q412 => ?_)
            obtain ⟨j415, f416, b417, c418, c419, c420, c421, c422, c423⟩ := q412
            have f424 := Fr.trans f380 f416 (by decide)
            have b425 := jB (e := 7) 0 j415 rg_75_7_0_1 (by omega) (by omega)
            have b426 := c422 (by omega)
            refine x_nI (t := 6) (mj := 176) (n := 3) (rc := 12) (ml := 3) (nr := 0) (np := 12) (as := [x_r 75, iv_c (2147483901 + 4 * u8), iv_c v410]) (rest := []) (lo1 := [x_r 75, iv_c (2147483901 + 4 * u8), iv_c v410]) (by decide +kernel) (by decide) (by decide +kernel) (x_rb_of (by decide +kernel)) rfl rfl (x_wr (by decide) (x_wi (by omega) (x_wi l411 x_wn))) x_wn (by decide) rfl ?_
            refine x_aload (np := 1) (x := 0) (by decide +kernel) rfl (x_nc_le (by decide)) ?_
            have q427 : h414 75 3 = 78 := by have z := jB (e := 3) 0 j415 rg_75_3_0_1 (by decide) (by decide); omega
            refine x_getR (np := 4) (x := 707) (f := 3) (q := 78) (by decide +kernel) (by decide) (by decide +kernel) q427 ?_
            refine x_iload (np := 5) (x := 1) (by decide +kernel) rfl (by omega) ?_
            refine x_iload (np := 6) (x := 2) (by decide +kernel) rfl l411 ?_
            refine x_ast (np := 7) (x := 0) (kd := 1) (n := 290) (i := (253 + 4 * u8)) (by decide +kernel) (Or.inl rfl) (by decide +kernel) (by omega) (by omega) (by decide) l411 (fun z => absurd z (by decide)) ?_
            have j429 := jU (e := (253 + 4 * u8)) (v := v410) u8 j415 rg_78_253_4_10 (by omega) (by omega) (by omega)
            have f431 := jF (e := (253 + 4 * u8)) (v := v410) u8 f424 rg_78_253_4_10 (by omega) (by omega) (by decide)
            generalize e430 : x_up h414 78 (253 + 4 * u8) v410 = h428 at j429 f431 ⊢
            refine x_iload (np := 8) (x := 2) (by decide +kernel) rfl l411 ?_
            refine x_ifz (k := 2) (tg := 15) (np := 11) (by decide +kernel) (by decide) l411 (fun q432 => ?_) (fun q433 => ?_)
            · have q432 : v410 < 2147483648 := q432
              refine x_const (np := 16) (x := 9223372039002259456) (a := 2147483648) (by decide +kernel) (by decide) (by decide) ?_
              refine x_retI (np := 17) (x := 0) (by decide +kernel) (by decide) (Or.inr ⟨by decide +kernel, by omega, by omega⟩) ⟨_, rfl, (by decide), ?_⟩
              refine x_retI (np := 13) (x := 0) (by decide +kernel) (by decide) (Or.inr ⟨by decide +kernel, by omega, by omega⟩) ⟨_, rfl, (by decide), ?_⟩
              refine x_ifz (k := 1) (tg := 151) (np := 149) (by decide +kernel) (by decide) (by decide) (fun q434 => ?_) (fun q435 => ?_)
              · have q434 : 2147483648 ≠ 2147483648 := q434
                exfalso; omega
              have q435 : ¬ (2147483648 ≠ 2147483648) := q435
              refine x_const (np := 150) (x := 9223372039002259456) (a := 2147483648) (by decide +kernel) (by decide) (by decide) ?_
              have b436 := jB (e := 0) 0 hJ rg_78_0_0_1 (by omega) (by omega)
              have q437 : h428 78 0 = h414 78 0 := by rw [← e430]; exact x_up_i (by omega)
              have q438 : h414 78 0 = h373 78 0 := jK 0 f416 rg_78_0_0_1 (by omega) (by omega) (by decide)
              have q439 : h373 78 0 = h348 78 0 := jK 0 f375 rg_78_0_0_1 (by omega) (by omega) (by decide)
              have b440 := jB (e := 0) 0 j350 rg_78_0_0_1 (by omega) (by omega)
              have q441 : h428 78 1 = h414 78 1 := by rw [← e430]; exact x_up_i (by omega)
              have q442 : h414 78 1 = h373 78 1 := jK 0 f416 rg_78_1_0_1 (by omega) (by omega) (by decide)
              have q443 : h373 78 1 = h348 78 1 := jK 0 f375 rg_78_1_0_1 (by omega) (by omega) (by decide)
              have b444 := jB (e := 2) 0 hJ rg_78_2_0_1 (by omega) (by omega)
              have q445 : h428 78 2 = h414 78 2 := by rw [← e430]; exact x_up_i (by omega)
              have q446 : h414 78 2 = h373 78 2 := jK 0 f416 rg_78_2_0_1 (by omega) (by omega) (by decide)
              have q447 : h373 78 2 = h348 78 2 := jK 0 f375 rg_78_2_0_1 (by omega) (by omega) (by decide)
              have b448 := jB (e := 2) 0 j350 rg_78_2_0_1 (by omega) (by omega)
              have b449 := jB (e := 3) 0 hJ rg_78_3_0_1 (by omega) (by omega)
              have q450 : h428 78 3 = h414 78 3 := by rw [← e430]; exact x_up_i (by omega)
              have q451 : h414 78 3 = h373 78 3 := jK 0 f416 rg_78_3_0_1 (by omega) (by omega) (by decide)
              have q452 : h373 78 3 = h348 78 3 := jK 0 f375 rg_78_3_0_1 (by omega) (by omega) (by decide)
              have b453 := jB (e := 3) 0 j350 rg_78_3_0_1 (by omega) (by omega)
              have b454 := jB (e := 4) 0 hJ rg_78_4_0_1 (by omega) (by omega)
              have q455 : h428 78 4 = h414 78 4 := by rw [← e430]; exact x_up_i (by omega)
              have q456 : h414 78 4 = h373 78 4 := jK 0 f416 rg_78_4_0_1 (by omega) (by omega) (by decide)
              have q457 : h373 78 4 = h348 78 4 := jK 0 f375 rg_78_4_0_1 (by omega) (by omega) (by decide)
              have b458 := jB (e := 4) 0 j350 rg_78_4_0_1 (by omega) (by omega)
              have q459 : h428 78 5 = h414 78 5 := by rw [← e430]; exact x_up_i (by omega)
              have q460 : h414 78 5 = h373 78 5 := jK 0 f416 rg_78_5_0_1 (by omega) (by omega) (by decide)
              have q461 : h373 78 5 = h348 78 5 := jK 0 f375 rg_78_5_0_1 (by omega) (by omega) (by decide)
              have b462 := jB (e := 5) 0 j350 rg_78_5_0_1 (by omega) (by omega)
              have y463 : Bl tB tN (h 76 0 - 1) (sk tB tN (h178 75 7)) (rs 2147483649 (sk tB tN (h348 75 7))) := by rw [rs1 rfl]; exact m358.2 (by omega)
              have q464 : h34 75 7 = h19 75 7 := by rw [← e36]; exact x_up_k (by decide)
              obtain ⟨w465, e466⟩ := Tw.yes c74 (by omega)
              have q467 : h123 75 7 = h109 75 7 := by rw [← e125]; exact x_up_k (by decide)
              obtain ⟨w468, e469⟩ := Tw.yes c184 (by omega)
              obtain ⟨w470, e471⟩ := Tw.yes c379 (by omega)
              refine x_retI (np := 151) (x := 0) (by decide +kernel) (by decide) (Or.inr ⟨by decide +kernel, by omega, by omega⟩) ⟨_, rfl, (by decide), ?_⟩
              exact ⟨j429, f431, (by omega), (fun z => by omega), (fun z => by omega), (fun z => by omega), (fun z => by omega), (fun z => by omega), (fun z => by omega), (fun z => absurd z (by omega)), (Or.inr ⟨by omega, (nm9.y c28 (by omega) (by omega) rfl (by omega) rfl (wd9.y w465 (congrArg (sk tB tN) (show h34 75 7 = h19 75 7 by omega)) e466 rfl (nm9.y c118 (by omega) (by omega) rfl (by omega) rfl (wd9.y w468 (congrArg (sk tB tN) (show h123 75 7 = h109 75 7 by omega)) e469 rfl (bl9.y y463 rfl rfl rfl rfl (wd9.y w470 rfl e471 rfl (nm9.f c423 (by omega) (by omega) rfl (by omega) (by omega))))))))⟩)⟩
            have q433 : ¬ (v410 < 2147483648) := q433
            have b472 := c419 (by omega)
            have b473 := c420 (by omega)
            have b474 := c421 (by omega)
            refine x_const (np := 12) (x := 9223372043297226753) (a := 2147483649) (by decide +kernel) (by decide) (by decide) ?_
            refine x_goto (np := 15) (x := 16) (by decide +kernel) ?_
            refine x_retI (np := 17) (x := 0) (by decide +kernel) (by decide) (Or.inr ⟨by decide +kernel, by omega, by omega⟩) ⟨_, rfl, (by decide), ?_⟩
            refine x_retI (np := 13) (x := 0) (by decide +kernel) (by decide) (Or.inr ⟨by decide +kernel, by omega, by omega⟩) ⟨_, rfl, (by decide), ?_⟩
            refine x_ifz (k := 1) (tg := 151) (np := 149) (by decide +kernel) (by decide) (by decide) (fun q475 => ?_) (fun q476 => ?_)
            · have q475 : 2147483649 ≠ 2147483648 := q475
              refine x_aload (np := 152) (x := 0) (by decide +kernel) rfl (x_nc_le (by decide)) ?_
              have q477 : h428 75 3 = 78 := by have z := jB (e := 3) 0 j429 rg_75_3_0_1 (by decide) (by decide); omega
              refine x_getR (np := 155) (x := 707) (f := 3) (q := 78) (by decide +kernel) (by decide) (by decide +kernel) q477 ?_
              refine x_const (np := 156) (x := 9223372060477095941) (a := 2147483653) (by decide +kernel) (by decide) (by decide) ?_
              refine x_dup2 (np := 157) (x := 0) (by decide +kernel) (by have z := (iw_c_lt (a := 2147483653) (by decide)).1; omega) (by have z := x_nc_le (k := 78) (by decide); unfold x_r; omega) ?_
              have q478 : h428 78 5 = h414 78 5 := by rw [← e430]; exact x_up_i (by omega)
              have q479 : h414 78 5 = h373 78 5 := jK 0 f416 rg_78_5_0_1 (by omega) (by omega) (by decide)
              have q480 : h373 78 5 = h348 78 5 := jK 0 f375 rg_78_5_0_1 (by omega) (by omega) (by decide)
              have b481 := jB (e := 5) 0 j350 rg_78_5_0_1 (by omega) (by omega)
              refine x_aldC (np := 158) (x := 0) (n := 290) (i := 5) (q := (h348 78 5)) (by decide +kernel) (by decide +kernel) (by omega) (by omega) (by decide) ((q478.trans q479).trans q480) (fun l482 => ?_)
              refine x_const (np := 159) (x := 9223372043297226753) (a := 2147483649) (by decide +kernel) (by decide) (by decide) ?_
              refine x_iadd (np := 160) (x := 0) (v := (1 + (h348 78 5))) (by decide +kernel) l482 (by decide) (by omega) (by omega) ?_
              refine x_ast (np := 161) (x := 0) (kd := 1) (n := 290) (i := 5) (by decide +kernel) (Or.inl rfl) (by decide +kernel) (by omega) (by omega) (by decide) (by omega) (fun z => absurd z (by decide)) ?_
              have j484 := jU (e := 5) (v := (1 + (h348 78 5))) 0 j429 rg_78_5_0_1 (by omega) (by omega) (by omega)
              have f486 := jF (e := 5) (v := (1 + (h348 78 5))) 0 f431 rg_78_5_0_1 (by omega) (by omega) (by decide)
              generalize e485 : x_up h428 78 5 (1 + (h348 78 5)) = h483 at j484 f486 ⊢
              refine x_const (np := 162) (x := 9223372043297226753) (a := 2147483649) (by decide +kernel) (by decide) (by decide) ?_
              have b487 := jB (e := 0) 0 hJ rg_78_0_0_1 (by omega) (by omega)
              have q488 : h483 78 0 = h428 78 0 := by rw [← e485]; exact x_up_i (by omega)
              have q489 : h428 78 0 = h414 78 0 := by rw [← e430]; exact x_up_i (by omega)
              have q490 : h414 78 0 = h373 78 0 := jK 0 f416 rg_78_0_0_1 (by omega) (by omega) (by decide)
              have q491 : h373 78 0 = h348 78 0 := jK 0 f375 rg_78_0_0_1 (by omega) (by omega) (by decide)
              have b492 := jB (e := 0) 0 j350 rg_78_0_0_1 (by omega) (by omega)
              have q493 : h483 78 1 = h428 78 1 := by rw [← e485]; exact x_up_i (by omega)
              have q494 : h428 78 1 = h414 78 1 := by rw [← e430]; exact x_up_i (by omega)
              have q495 : h414 78 1 = h373 78 1 := jK 0 f416 rg_78_1_0_1 (by omega) (by omega) (by decide)
              have q496 : h373 78 1 = h348 78 1 := jK 0 f375 rg_78_1_0_1 (by omega) (by omega) (by decide)
              have b497 := jB (e := 2) 0 hJ rg_78_2_0_1 (by omega) (by omega)
              have q498 : h483 78 2 = h428 78 2 := by rw [← e485]; exact x_up_i (by omega)
              have q499 : h428 78 2 = h414 78 2 := by rw [← e430]; exact x_up_i (by omega)
              have q500 : h414 78 2 = h373 78 2 := jK 0 f416 rg_78_2_0_1 (by omega) (by omega) (by decide)
              have q501 : h373 78 2 = h348 78 2 := jK 0 f375 rg_78_2_0_1 (by omega) (by omega) (by decide)
              have b502 := jB (e := 2) 0 j350 rg_78_2_0_1 (by omega) (by omega)
              have b503 := jB (e := 3) 0 hJ rg_78_3_0_1 (by omega) (by omega)
              have q504 : h483 78 3 = h428 78 3 := by rw [← e485]; exact x_up_i (by omega)
              have q505 : h428 78 3 = h414 78 3 := by rw [← e430]; exact x_up_i (by omega)
              have q506 : h414 78 3 = h373 78 3 := jK 0 f416 rg_78_3_0_1 (by omega) (by omega) (by decide)
              have q507 : h373 78 3 = h348 78 3 := jK 0 f375 rg_78_3_0_1 (by omega) (by omega) (by decide)
              have b508 := jB (e := 3) 0 j350 rg_78_3_0_1 (by omega) (by omega)
              have b509 := jB (e := 4) 0 hJ rg_78_4_0_1 (by omega) (by omega)
              have q510 : h483 78 4 = h428 78 4 := by rw [← e485]; exact x_up_i (by omega)
              have q511 : h428 78 4 = h414 78 4 := by rw [← e430]; exact x_up_i (by omega)
              have q512 : h414 78 4 = h373 78 4 := jK 0 f416 rg_78_4_0_1 (by omega) (by omega) (by decide)
              have q513 : h373 78 4 = h348 78 4 := jK 0 f375 rg_78_4_0_1 (by omega) (by omega) (by decide)
              have b514 := jB (e := 4) 0 j350 rg_78_4_0_1 (by omega) (by omega)
              have q515 : h483 78 5 = (1 + (h348 78 5)) := by rw [← e485]; exact x_up_at
              have m519 := Cl.fr m360 f375 (by decide)
              have m518 := Cl.fr m519 f416 (by decide)
              have m517 : Cl h428 := by rw [← e430]; exact Cl.upR (e := (253 + 4 * u8)) (v := v410) u8 m518 rg_76_253_4_10 (by omega) (by omega) (by omega)
              have m516 : Cl h483 := by rw [← e485]; exact Cl.upR (e := 5) (v := (1 + (h348 78 5))) 0 m517 rg_76_5_0_1 (by omega) (by omega) (by omega)
              have y520 : Bl tB tN (h 76 0 - 1) (sk tB tN (h178 75 7)) (rs 2147483649 (sk tB tN (h348 75 7))) := by rw [rs1 rfl]; exact m358.2 (by omega)
              have q521 : h34 75 7 = h19 75 7 := by rw [← e36]; exact x_up_k (by decide)
              obtain ⟨w522, e523⟩ := Tw.yes c74 (by omega)
              have q524 : h123 75 7 = h109 75 7 := by rw [← e125]; exact x_up_k (by decide)
              obtain ⟨w525, e526⟩ := Tw.yes c184 (by omega)
              obtain ⟨w527, e528⟩ := Tw.yes c379 (by omega)
              have q529 : h483 75 7 = h428 75 7 := by rw [← e485]; exact x_up_k (by decide)
              have q530 : h428 75 7 = h414 75 7 := by rw [← e430]; exact x_up_k (by decide)
              refine x_retI (np := 163) (x := 0) (by decide +kernel) (by decide) (Or.inr ⟨by decide +kernel, by omega, by omega⟩) ⟨_, rfl, (by decide), ?_⟩
              exact ⟨j484, f486, (by omega), (fun z => by omega), (fun z => by omega), (fun z => by omega), (fun z => by omega), (fun z => by omega), (fun z => by omega), (fun _ => m516), (Or.inr ⟨by omega, (nm9.y c28 (by omega) (by omega) rfl (by omega) rfl (wd9.y w522 (congrArg (sk tB tN) (show h34 75 7 = h19 75 7 by omega)) e523 rfl (nm9.y c118 (by omega) (by omega) rfl (by omega) rfl (wd9.y w525 (congrArg (sk tB tN) (show h123 75 7 = h109 75 7 by omega)) e526 rfl (bl9.y y520 rfl rfl rfl rfl (wd9.y w527 rfl e528 rfl (nm9.y c423 (by omega) (by omega) rfl (by omega) rfl (fin9.mk (by omega) (congrArg (sk tB tN) (show h414 75 7 = h483 75 7 by omega))))))))))⟩)⟩
            have q476 : ¬ (2147483649 ≠ 2147483648) := q476
            exfalso; omega
          have q366 : ¬ (v345 = 2147483648) := q366
          refine x_aload (np := 81) (x := 0) (by decide +kernel) rfl (x_nc_le (by decide)) ?_
          refine x_const (np := 82) (x := 9223372039002259456) (a := 2147483648) (by decide +kernel) (by decide) (by decide) ?_
          refine x_aload (np := 83) (x := 0) (by decide +kernel) rfl (x_nc_le (by decide)) ?_
          refine x_nI (t := 6) (mj := 157) (n := 1) (rc := 12) (ml := 1) (nr := 2) (np := 86) (as := [x_r 75]) (rest := [iv_c 2147483648, x_r 75]) (lo1 := [x_r 75]) (by decide +kernel) (by decide) (by decide +kernel) (x_rb_of (by decide +kernel)) rfl rfl (x_wr (by decide) x_wn) (x_wi (by decide) (x_wr (by decide) x_wn)) (by decide) rfl ?_
          refine x_aload (np := 1) (x := 0) (by decide +kernel) rfl (x_nc_le (by decide)) ?_
          have q531 : h348 75 1 = 76 := by have z := jB (e := 1) 0 j350 rg_75_1_0_1 (by decide) (by decide); omega
          refine x_getR (np := 4) (x := 705) (f := 1) (q := 76) (by decide +kernel) (by decide) (by decide +kernel) q531 ?_
          refine x_const (np := 5) (x := 9223372039002259456) (a := 2147483648) (by decide +kernel) (by decide) (by decide) ?_
          have q532 : h348 76 0 = h193 76 0 := jK 0 f349 rg_76_0_0_1 (by omega) (by omega) (by decide)
          have q533 : h193 76 0 = h178 76 0 := by rw [← e195]; exact x_up_k (by decide)
          have q534 : h178 76 0 = h123 76 0 := jK 0 f180 rg_76_0_0_1 (by omega) (by omega) (by decide)
          have q535 : h123 76 0 = h109 76 0 := by rw [← e125]; exact x_up_k (by decide)
          have q536 : h109 76 0 = h68 76 0 := jK 0 f111 rg_76_0_0_1 (by omega) (by omega) (by decide)
          have q537 : h68 76 0 = h34 76 0 := jK 0 f70 rg_76_0_0_1 (by omega) (by omega) (by decide)
          have q538 : h34 76 0 = h19 76 0 := by rw [← e36]; exact x_up_k (by decide)
          have q539 : h19 76 0 = h 76 0 := jK 0 f21 rg_76_0_0_1 (by omega) (by omega) (by decide)
          refine x_aldC (np := 6) (x := 0) (n := 1952) (i := 0) (q := (h 76 0)) (by decide +kernel) (by decide +kernel) (by omega) (by omega) (by decide) (((((((q532.trans q533).trans q534).trans q535).trans q536).trans q537).trans q538).trans q539) (fun l540 => ?_)
          refine x_retI (np := 7) (x := 0) (by decide +kernel) l13 (Or.inl (by decide +kernel)) ⟨_, rfl, l13, ?_⟩
          refine x_const (np := 87) (x := 9223372043297226753) (a := 2147483649) (by decide +kernel) (by decide) (by decide) ?_
          obtain ⟨v541, q542⟩ : ∃ z, z + 2147483649 = (h 76 0) + 2147483648 := ⟨(h 76 0) + 2147483648 - 2147483649, by omega⟩
          refine x_isub (np := 88) (x := 0) (v := v541) (by decide +kernel) l13 (by decide) (by omega) (by omega) ?_
          have m548 := Tq.fr m176 f180 (by decide) (by decide)
          have m547 : Tq tB tN h193 := by rw [← e195]; exact Tq.oth m548 (by decide) (fun z => absurd z.1 (by decide))
          have m546 := Tq.fr m547 f349 (by decide) (by decide)
          refine x_cI (t := 6) (mj := 174) (n := 3) (rc := 12) (ml := 4) (nr := 0) (np := 91) (as := [x_r 75, iv_c 2147483648, iv_c v541]) (rest := []) (lo1 := [x_r 75, iv_c 2147483648, iv_c v541, 147573952589676412928]) (by decide +kernel) (by decide) (by decide +kernel) (x_rb_of (by decide +kernel)) rfl rfl (x_wr (by decide) (x_wi (by decide) (x_wi (by omega) x_wn))) x_wn (by decide) rfl (c174_75 j350  (by omega) (by omega) m546) (fun v543 h549 l544 q545 => ?_)
          obtain ⟨j550, f551, b552, c553, c554, c555, c556, c557, c558⟩ := q545
          have f559 := Fr.trans f363 f551 (by decide)
          have f560 := Fr.trans f349 f551 (by decide)
          have b561 := jB (e := 7) 0 j550 rg_75_7_0_1 (by omega) (by omega)
          have b562 := c557 (by omega)
          refine x_istore (np := 92) (x := 3) (lo' := [x_r 75, iv_c (2147483898 + 4 * u8), iv_c v345, iv_c v543]) (by decide +kernel) l544 (Nat.le_of_ble_eq_true rfl) rfl ?_
          refine x_iload (np := 93) (x := 3) (by decide +kernel) rfl l544 ?_
          refine x_ifz (k := 3) (tg := 98) (np := 96) (by decide +kernel) (by decide) l544 (fun q563 => ?_) (fun q564 => ?_)
          · have q563 : 2147483648 ≤ v543 := q563
            have b565 := c554 (by omega)
            have b566 := c555 (by omega)
            have b567 := c556 (by omega)
            refine x_aload (np := 99) (x := 0) (by decide +kernel) rfl (x_nc_le (by decide)) ?_
            have q568 : h549 75 3 = 78 := by have z := jB (e := 3) 0 j550 rg_75_3_0_1 (by decide) (by decide); omega
            refine x_getR (np := 102) (x := 707) (f := 3) (q := 78) (by decide +kernel) (by decide) (by decide +kernel) q568 ?_
            refine x_iload (np := 103) (x := 1) (by decide +kernel) rfl (by omega) ?_
            refine x_const (np := 104) (x := 9223372047592194050) (a := 2147483650) (by decide +kernel) (by decide) (by decide) ?_
            refine x_iadd (np := 105) (x := 0) (v := (2147483900 + 4 * u8)) (by decide +kernel) (by omega) (by decide) (by omega) (by omega) ?_
            refine x_dup2 (np := 106) (x := 0) (by decide +kernel) (by have z := (iw_c_lt (a := (2147483900 + 4 * u8)) (by omega)).1; omega) (by have z := x_nc_le (k := 78) (by decide); unfold x_r; omega) ?_
            have q569 : h549 78 (252 + 4 * u8) = h348 78 (252 + 4 * u8) := jK u8 f551 rg_78_252_4_10 (by omega) (by omega) (by decide)
            refine x_aldC (np := 107) (x := 0) (n := 290) (i := (252 + 4 * u8)) (q := ((h348 78 (252 + 4 * u8)))) (by decide +kernel) (by decide +kernel) (by omega) (by omega) (by decide) q569 (fun l570 => ?_)
            refine x_const (np := 108) (x := 9223372043297226753) (a := 2147483649) (by decide +kernel) (by decide) (by decide) ?_
            refine x_iload (np := 109) (x := 3) (by decide +kernel) rfl l544 ?_
            refine x_any (np := 110) (k9 := 3) (by decide +kernel) (by decide) (by decide) l544 (fun v571 l572 => ?_)
            refine x_any (np := 111) (k9 := 1) (by decide +kernel) (by decide) l570 l572 (fun v573 l574 => ?_)
            refine x_ast (np := 112) (x := 0) (kd := 1) (n := 290) (i := (252 + 4 * u8)) (by decide +kernel) (Or.inl rfl) (by decide +kernel) (by omega) (by omega) (by decide) l574 (fun z => absurd z (by decide)) ?_
            have j576 := jU (e := (252 + 4 * u8)) (v := v573) u8 j550 rg_78_252_4_10 (by omega) (by omega) (by omega)
            have f578 := jF (e := (252 + 4 * u8)) (v := v573) u8 f559 rg_78_252_4_10 (by omega) (by omega) (by decide)
            have f579 := jF (e := (252 + 4 * u8)) (v := v573) u8 f560 rg_78_252_4_10 (by omega) (by omega) (by decide)
            generalize e577 : x_up h549 78 (252 + 4 * u8) v573 = h575 at j576 f578 f579 ⊢
            refine x_aload (np := 113) (x := 0) (by decide +kernel) rfl (x_nc_le (by decide)) ?_
            refine x_ldcB (i := 15) (idx := 179) (tx := "or") (by rw [tb_y185]; exact List.mem_of_getElem? (i := 54) rfl) (by decide) (by rw [tb_b185]; decide +kernel) ?_
            have m584 := Tq.fr m546 f551 (by decide) (by decide)
            have m583 : Tq tB tN h575 := by rw [← e577]; exact Tq.oth m584 (by decide) (fun z => absurd z.1 (by decide))
            refine x_cI (t := 6) (mj := 171) (n := 2) (rc := 12) (ml := 2) (nr := 0) (np := 118) (as := [x_r 75, x_b (15 + 1)]) (rest := []) (lo1 := [x_r 75, x_b (15 + 1)]) (by decide +kernel) (by decide) (by decide +kernel) (x_rb_of (by decide +kernel)) rfl rfl (x_wr (by decide) (x_wB (by decide) x_wn)) x_wn (by decide) rfl (c171_75_S0 j576  (by decide) m583) (fun v580 h585 l581 q582 => ?_)
            obtain ⟨j586, f587, b588, c589, c590, c591⟩ := q582
            have f592 := Fr.trans f578 f587 (by decide)
            have f593 := Fr.trans f579 f587 (by decide)
            have q594 : h575 75 7 = h549 75 7 := by rw [← e577]; exact x_up_k (by decide)
            have b595 := jB (e := 7) 0 j586 rg_75_7_0_1 (by omega) (by omega)
            have q596 : h575 75 7 = h549 75 7 := by rw [← e577]; exact x_up_k (by decide)
            refine x_istore (np := 119) (x := 2) (lo' := [x_r 75, iv_c (2147483898 + 4 * u8), iv_c v580, iv_c v543]) (by decide +kernel) l581 (Nat.le_of_ble_eq_true rfl) rfl ?_
            refine x_goto (np := 122) (x := 76) (by decide +kernel) ?_
            have q597 : h585 78 5 = h575 78 5 := jK 0 f587 rg_78_5_0_1 (by omega) (by omega) (by decide)
            have q598 : h575 78 5 = h549 78 5 := by rw [← e577]; exact x_up_i (by omega)
            have q599 : h549 78 5 = h348 78 5 := jK 0 f551 rg_78_5_0_1 (by omega) (by omega) (by decide)
            have b600 := jB (e := 5) 0 j350 rg_78_5_0_1 (by omega) (by omega)
            have b601 := jB (e := 0) 0 hJ rg_78_0_0_1 (by omega) (by omega)
            have q602 : h585 78 0 = h575 78 0 := jK 0 f587 rg_78_0_0_1 (by omega) (by omega) (by decide)
            have q603 : h575 78 0 = h549 78 0 := by rw [← e577]; exact x_up_i (by omega)
            have q604 : h549 78 0 = h348 78 0 := jK 0 f551 rg_78_0_0_1 (by omega) (by omega) (by decide)
            have b605 := jB (e := 0) 0 j350 rg_78_0_0_1 (by omega) (by omega)
            have q606 : h585 78 1 = h575 78 1 := jK 0 f587 rg_78_1_0_1 (by omega) (by omega) (by decide)
            have q607 : h575 78 1 = h549 78 1 := by rw [← e577]; exact x_up_i (by omega)
            have q608 : h549 78 1 = h348 78 1 := jK 0 f551 rg_78_1_0_1 (by omega) (by omega) (by decide)
            have b609 := jB (e := 2) 0 hJ rg_78_2_0_1 (by omega) (by omega)
            have q610 : h585 78 2 = h575 78 2 := jK 0 f587 rg_78_2_0_1 (by omega) (by omega) (by decide)
            have q611 : h575 78 2 = h549 78 2 := by rw [← e577]; exact x_up_i (by omega)
            have q612 : h549 78 2 = h348 78 2 := jK 0 f551 rg_78_2_0_1 (by omega) (by omega) (by decide)
            have b613 := jB (e := 2) 0 j350 rg_78_2_0_1 (by omega) (by omega)
            have b614 := jB (e := 3) 0 hJ rg_78_3_0_1 (by omega) (by omega)
            have q615 : h585 78 3 = h575 78 3 := jK 0 f587 rg_78_3_0_1 (by omega) (by omega) (by decide)
            have q616 : h575 78 3 = h549 78 3 := by rw [← e577]; exact x_up_i (by omega)
            have q617 : h549 78 3 = h348 78 3 := jK 0 f551 rg_78_3_0_1 (by omega) (by omega) (by decide)
            have b618 := jB (e := 3) 0 j350 rg_78_3_0_1 (by omega) (by omega)
            have b619 := jB (e := 4) 0 hJ rg_78_4_0_1 (by omega) (by omega)
            have q620 : h585 78 4 = h575 78 4 := jK 0 f587 rg_78_4_0_1 (by omega) (by omega) (by decide)
            have q621 : h575 78 4 = h549 78 4 := by rw [← e577]; exact x_up_i (by omega)
            have q622 : h549 78 4 = h348 78 4 := jK 0 f551 rg_78_4_0_1 (by omega) (by omega) (by decide)
            have b623 := jB (e := 4) 0 j350 rg_78_4_0_1 (by omega) (by omega)
            have m626 := Cl.fr m360 f551 (by decide)
            have m625 : Cl h575 := by rw [← e577]; exact Cl.upR (e := (252 + 4 * u8)) (v := v573) u8 m626 rg_76_252_4_10 (by omega) (by omega) (by omega)
            have m624 := Cl.fr m625 f587 (by decide)
            have q627 : h575 75 7 = h549 75 7 := by rw [← e577]; exact x_up_k (by decide)
            have q628 : (v580 = 2147483649 → Bq tB tN (h 76 0 - 1) (sk tB tN (h585 75 7)) (sk tB tN (h178 75 7))) ∧ (v580 = 2147483648 → Bl tB tN (h 76 0 - 1) (sk tB tN (h178 75 7)) (some (sk tB tN (h585 75 7)))) := by
              rcases c591 with ⟨z1, z2, z3⟩ | ⟨z1, z2, z3⟩
              · exact ⟨fun _ => Bq.go (m358.1 (by omega)) c558 (by omega) (by omega) rfl (by omega) z2 (congrArg (sk tB tN) (show h575 75 7 = h549 75 7 by omega)) z3 rfl, fun z => absurd z (by omega)⟩
              · exact ⟨fun z => absurd z (by omega), fun _ => by
                  have y := Bq.fin (R := 2147483649) (q' := sk tB tN (h585 75 7)) (m358.1 (by omega)) c558 (by omega) (by omega) rfl (by omega) z2 (congrArg (sk tB tN) (show h575 75 7 = h549 75 7 by omega)) rfl (Eq.trans (Eq.symm (congrArg (sk tB tN) (show h575 75 7 = h549 75 7 by omega))) (Eq.trans z3.symm rfl))
                  rw [rs1 rfl] at y
                  exact y⟩
            have q629 : h585 78 (251 + 4 * u8) = h575 78 (251 + 4 * u8) := jK u8 f587 rg_78_251_4_10 (by omega) (by omega) (by decide)
            have q630 : h575 78 (251 + 4 * u8) = h549 78 (251 + 4 * u8) := by rw [← e577]; exact x_up_i (by omega)
            have q631 : h549 78 (251 + 4 * u8) = h348 78 (251 + 4 * u8) := jK u8 f551 rg_78_251_4_10 (by omega) (by omega) (by decide)
            exact i362 v580 (iv_c v543) h585 (by omega) (by omega) (by omega) (by omega) (by omega) (by omega) (by omega) (by omega) j586 f593 m624 q628 (by omega)
          have q564 : ¬ (2147483648 ≤ v543) := q564
          refine x_const (np := 97) (x := 9223372039002259456) (a := 2147483648) (by decide +kernel) (by decide) (by decide) ?_
          have b632 := jB (e := 0) 0 hJ rg_78_0_0_1 (by omega) (by omega)
          have q633 : h549 78 0 = h348 78 0 := jK 0 f551 rg_78_0_0_1 (by omega) (by omega) (by decide)
          have b634 := jB (e := 0) 0 j350 rg_78_0_0_1 (by omega) (by omega)
          have q635 : h549 78 1 = h348 78 1 := jK 0 f551 rg_78_1_0_1 (by omega) (by omega) (by decide)
          have b636 := jB (e := 2) 0 hJ rg_78_2_0_1 (by omega) (by omega)
          have q637 : h549 78 2 = h348 78 2 := jK 0 f551 rg_78_2_0_1 (by omega) (by omega) (by decide)
          have b638 := jB (e := 2) 0 j350 rg_78_2_0_1 (by omega) (by omega)
          have b639 := jB (e := 3) 0 hJ rg_78_3_0_1 (by omega) (by omega)
          have q640 : h549 78 3 = h348 78 3 := jK 0 f551 rg_78_3_0_1 (by omega) (by omega) (by decide)
          have b641 := jB (e := 3) 0 j350 rg_78_3_0_1 (by omega) (by omega)
          have b642 := jB (e := 4) 0 hJ rg_78_4_0_1 (by omega) (by omega)
          have q643 : h549 78 4 = h348 78 4 := jK 0 f551 rg_78_4_0_1 (by omega) (by omega) (by decide)
          have b644 := jB (e := 4) 0 j350 rg_78_4_0_1 (by omega) (by omega)
          have q645 : h549 78 5 = h348 78 5 := jK 0 f551 rg_78_5_0_1 (by omega) (by omega) (by decide)
          have b646 := jB (e := 5) 0 j350 rg_78_5_0_1 (by omega) (by omega)
          have y647 := Bq.no (R := 2147483648) (q' := 0) (m358.1 (by omega)) c558 (by omega) (by omega) rfl (by omega) rfl
          have q648 : h34 75 7 = h19 75 7 := by rw [← e36]; exact x_up_k (by decide)
          obtain ⟨w649, e650⟩ := Tw.yes c74 (by omega)
          have q651 : h123 75 7 = h109 75 7 := by rw [← e125]; exact x_up_k (by decide)
          obtain ⟨w652, e653⟩ := Tw.yes c184 (by omega)
          refine x_retI (np := 98) (x := 0) (by decide +kernel) (by decide) (Or.inr ⟨by decide +kernel, by omega, by omega⟩) ⟨_, rfl, (by decide), ?_⟩
          exact ⟨j550, f559, (by omega), (fun z => by omega), (fun z => by omega), (fun z => by omega), (fun z => by omega), (fun z => by omega), (fun z => by omega), (fun z => absurd z (by omega)), (Or.inr ⟨by omega, (nm9.y c28 (by omega) (by omega) rfl (by omega) rfl (wd9.y w649 (congrArg (sk tB tN) (show h34 75 7 = h19 75 7 by omega)) e650 rfl (nm9.y c118 (by omega) (by omega) rfl (by omega) rfl (wd9.y w652 (congrArg (sk tB tN) (show h123 75 7 = h109 75 7 by omega)) e653 rfl (bl9.f y647 rfl rfl rfl (by omega))))))⟩)⟩
      have q654 : h193 78 5 = h178 78 5 := by rw [← e195]; exact x_up_i (by omega)
      have q655 : h178 78 5 = h123 78 5 := jK 0 f180 rg_78_5_0_1 (by omega) (by omega) (by decide)
      have q656 : h123 78 5 = h109 78 5 := by rw [← e125]; exact x_up_i (by omega)
      have q657 : h109 78 5 = h68 78 5 := jK 0 f111 rg_78_5_0_1 (by omega) (by omega) (by decide)
      have q658 : h68 78 5 = h34 78 5 := jK 0 f70 rg_78_5_0_1 (by omega) (by omega) (by decide)
      have q659 : h34 78 5 = h19 78 5 := by rw [← e36]; exact x_up_i (by omega)
      have q660 : h19 78 5 = h 78 5 := jK 0 f21 rg_78_5_0_1 (by omega) (by omega) (by decide)
      have b661 := jB (e := 0) 0 hJ rg_78_0_0_1 (by omega) (by omega)
      have q662 : h193 78 0 = h178 78 0 := by rw [← e195]; exact x_up_i (by omega)
      have q663 : h178 78 0 = h123 78 0 := jK 0 f180 rg_78_0_0_1 (by omega) (by omega) (by decide)
      have q664 : h123 78 0 = h109 78 0 := by rw [← e125]; exact x_up_i (by omega)
      have q665 : h109 78 0 = h68 78 0 := jK 0 f111 rg_78_0_0_1 (by omega) (by omega) (by decide)
      have q666 : h68 78 0 = h34 78 0 := jK 0 f70 rg_78_0_0_1 (by omega) (by omega) (by decide)
      have q667 : h34 78 0 = h19 78 0 := by rw [← e36]; exact x_up_i (by omega)
      have q668 : h19 78 0 = h 78 0 := jK 0 f21 rg_78_0_0_1 (by omega) (by omega) (by decide)
      have q669 : h193 78 1 = h178 78 1 := by rw [← e195]; exact x_up_i (by omega)
      have q670 : h178 78 1 = h123 78 1 := jK 0 f180 rg_78_1_0_1 (by omega) (by omega) (by decide)
      have q671 : h123 78 1 = h109 78 1 := by rw [← e125]; exact x_up_i (by omega)
      have q672 : h109 78 1 = h68 78 1 := jK 0 f111 rg_78_1_0_1 (by omega) (by omega) (by decide)
      have q673 : h68 78 1 = h34 78 1 := jK 0 f70 rg_78_1_0_1 (by omega) (by omega) (by decide)
      have q674 : h34 78 1 = h19 78 1 := by rw [← e36]; exact x_up_i (by omega)
      have q675 : h19 78 1 = h 78 1 := jK 0 f21 rg_78_1_0_1 (by omega) (by omega) (by decide)
      have b676 := jB (e := 2) 0 hJ rg_78_2_0_1 (by omega) (by omega)
      have q677 : h193 78 2 = h178 78 2 := by rw [← e195]; exact x_up_i (by omega)
      have q678 : h178 78 2 = h123 78 2 := jK 0 f180 rg_78_2_0_1 (by omega) (by omega) (by decide)
      have q679 : h123 78 2 = h109 78 2 := by rw [← e125]; exact x_up_i (by omega)
      have q680 : h109 78 2 = h68 78 2 := jK 0 f111 rg_78_2_0_1 (by omega) (by omega) (by decide)
      have q681 : h68 78 2 = h34 78 2 := jK 0 f70 rg_78_2_0_1 (by omega) (by omega) (by decide)
      have q682 : h34 78 2 = h19 78 2 := by rw [← e36]; exact x_up_i (by omega)
      have q683 : h19 78 2 = h 78 2 := jK 0 f21 rg_78_2_0_1 (by omega) (by omega) (by decide)
      have b684 := jB (e := 3) 0 hJ rg_78_3_0_1 (by omega) (by omega)
      have q685 : h193 78 3 = h178 78 3 := by rw [← e195]; exact x_up_i (by omega)
      have q686 : h178 78 3 = h123 78 3 := jK 0 f180 rg_78_3_0_1 (by omega) (by omega) (by decide)
      have q687 : h123 78 3 = h109 78 3 := by rw [← e125]; exact x_up_i (by omega)
      have q688 : h109 78 3 = h68 78 3 := jK 0 f111 rg_78_3_0_1 (by omega) (by omega) (by decide)
      have q689 : h68 78 3 = h34 78 3 := jK 0 f70 rg_78_3_0_1 (by omega) (by omega) (by decide)
      have q690 : h34 78 3 = h19 78 3 := by rw [← e36]; exact x_up_i (by omega)
      have q691 : h19 78 3 = h 78 3 := jK 0 f21 rg_78_3_0_1 (by omega) (by omega) (by decide)
      have b692 := jB (e := 4) 0 hJ rg_78_4_0_1 (by omega) (by omega)
      have q693 : h193 78 4 = h178 78 4 := by rw [← e195]; exact x_up_i (by omega)
      have q694 : h178 78 4 = h123 78 4 := jK 0 f180 rg_78_4_0_1 (by omega) (by omega) (by decide)
      have q695 : h123 78 4 = h109 78 4 := by rw [← e125]; exact x_up_i (by omega)
      have q696 : h109 78 4 = h68 78 4 := jK 0 f111 rg_78_4_0_1 (by omega) (by omega) (by decide)
      have q697 : h68 78 4 = h34 78 4 := jK 0 f70 rg_78_4_0_1 (by omega) (by omega) (by decide)
      have q698 : h34 78 4 = h19 78 4 := by rw [← e36]; exact x_up_i (by omega)
      have q699 : h19 78 4 = h 78 4 := jK 0 f21 rg_78_4_0_1 (by omega) (by omega) (by decide)
      have m706 := Cl.fr hC f21 (by decide)
      have m705 : Cl h34 := by rw [← e36]; exact Cl.upR (e := (250 + 4 * u8)) (v := v16) u8 m706 rg_76_250_4_10 (by omega) (by omega) (by omega)
      have m704 := Cl.fr m705 f70 (by decide)
      have m703 := Cl.fr m704 f111 (by decide)
      have m702 : Cl h123 := by rw [← e125]; exact Cl.upR (e := (251 + 4 * u8)) (v := v105) u8 m703 rg_76_251_4_10 (by omega) (by omega) (by omega)
      have m701 := Cl.fr m702 f180 (by decide)
      have m700 : Cl h193 := by rw [← e195]; exact Cl.upR (e := (252 + 4 * u8)) (v := 2147483648) u8 m701 rg_76_252_4_10 (by omega) (by omega) (by omega)
      have q707 : h193 75 7 = h178 75 7 := by rw [← e195]; exact x_up_k (by decide)
      have q708 : h193 78 (251 + 4 * u8) = h178 78 (251 + 4 * u8) := by rw [← e195]; exact x_up_i (by omega)
      have q709 : h178 78 (251 + 4 * u8) = h123 78 (251 + 4 * u8) := jK u8 f180 rg_78_251_4_10 (by omega) (by omega) (by decide)
      have q710 : h123 78 (251 + 4 * u8) = v105 := by rw [← e125]; exact x_up_at
      exact p351 _ 2147483649 147573952589676412928 h193 (Nat.lt_succ_self _) (by omega) (by omega) (by omega) (by omega) (by omega) (by omega) (by omega) j194 (Fr.refl _ _) m700 ⟨fun _ => Bq.zero (congrArg (sk tB tN) (show h193 75 7 = h178 75 7 by omega)), fun z => absurd z (by omega)⟩ (by omega)
    have q190 : ¬ (v173 ≠ 2147483648) := q190
    refine x_const (np := 64) (x := 9223372039002259456) (a := 2147483648) (by decide +kernel) (by decide) (by decide) ?_
    have b711 := jB (e := 0) 0 hJ rg_78_0_0_1 (by omega) (by omega)
    have q712 : h178 78 0 = h123 78 0 := jK 0 f180 rg_78_0_0_1 (by omega) (by omega) (by decide)
    have q713 : h123 78 0 = h109 78 0 := by rw [← e125]; exact x_up_i (by omega)
    have q714 : h109 78 0 = h68 78 0 := jK 0 f111 rg_78_0_0_1 (by omega) (by omega) (by decide)
    have q715 : h68 78 0 = h34 78 0 := jK 0 f70 rg_78_0_0_1 (by omega) (by omega) (by decide)
    have q716 : h34 78 0 = h19 78 0 := by rw [← e36]; exact x_up_i (by omega)
    have q717 : h19 78 0 = h 78 0 := jK 0 f21 rg_78_0_0_1 (by omega) (by omega) (by decide)
    have q718 : h178 78 1 = h123 78 1 := jK 0 f180 rg_78_1_0_1 (by omega) (by omega) (by decide)
    have q719 : h123 78 1 = h109 78 1 := by rw [← e125]; exact x_up_i (by omega)
    have q720 : h109 78 1 = h68 78 1 := jK 0 f111 rg_78_1_0_1 (by omega) (by omega) (by decide)
    have q721 : h68 78 1 = h34 78 1 := jK 0 f70 rg_78_1_0_1 (by omega) (by omega) (by decide)
    have q722 : h34 78 1 = h19 78 1 := by rw [← e36]; exact x_up_i (by omega)
    have q723 : h19 78 1 = h 78 1 := jK 0 f21 rg_78_1_0_1 (by omega) (by omega) (by decide)
    have b724 := jB (e := 2) 0 hJ rg_78_2_0_1 (by omega) (by omega)
    have q725 : h178 78 2 = h123 78 2 := jK 0 f180 rg_78_2_0_1 (by omega) (by omega) (by decide)
    have q726 : h123 78 2 = h109 78 2 := by rw [← e125]; exact x_up_i (by omega)
    have q727 : h109 78 2 = h68 78 2 := jK 0 f111 rg_78_2_0_1 (by omega) (by omega) (by decide)
    have q728 : h68 78 2 = h34 78 2 := jK 0 f70 rg_78_2_0_1 (by omega) (by omega) (by decide)
    have q729 : h34 78 2 = h19 78 2 := by rw [← e36]; exact x_up_i (by omega)
    have q730 : h19 78 2 = h 78 2 := jK 0 f21 rg_78_2_0_1 (by omega) (by omega) (by decide)
    have b731 := jB (e := 3) 0 hJ rg_78_3_0_1 (by omega) (by omega)
    have q732 : h178 78 3 = h123 78 3 := jK 0 f180 rg_78_3_0_1 (by omega) (by omega) (by decide)
    have q733 : h123 78 3 = h109 78 3 := by rw [← e125]; exact x_up_i (by omega)
    have q734 : h109 78 3 = h68 78 3 := jK 0 f111 rg_78_3_0_1 (by omega) (by omega) (by decide)
    have q735 : h68 78 3 = h34 78 3 := jK 0 f70 rg_78_3_0_1 (by omega) (by omega) (by decide)
    have q736 : h34 78 3 = h19 78 3 := by rw [← e36]; exact x_up_i (by omega)
    have q737 : h19 78 3 = h 78 3 := jK 0 f21 rg_78_3_0_1 (by omega) (by omega) (by decide)
    have b738 := jB (e := 4) 0 hJ rg_78_4_0_1 (by omega) (by omega)
    have q739 : h178 78 4 = h123 78 4 := jK 0 f180 rg_78_4_0_1 (by omega) (by omega) (by decide)
    have q740 : h123 78 4 = h109 78 4 := by rw [← e125]; exact x_up_i (by omega)
    have q741 : h109 78 4 = h68 78 4 := jK 0 f111 rg_78_4_0_1 (by omega) (by omega) (by decide)
    have q742 : h68 78 4 = h34 78 4 := jK 0 f70 rg_78_4_0_1 (by omega) (by omega) (by decide)
    have q743 : h34 78 4 = h19 78 4 := by rw [← e36]; exact x_up_i (by omega)
    have q744 : h19 78 4 = h 78 4 := jK 0 f21 rg_78_4_0_1 (by omega) (by omega) (by decide)
    have q745 : h178 78 5 = h123 78 5 := jK 0 f180 rg_78_5_0_1 (by omega) (by omega) (by decide)
    have q746 : h123 78 5 = h109 78 5 := by rw [← e125]; exact x_up_i (by omega)
    have q747 : h109 78 5 = h68 78 5 := jK 0 f111 rg_78_5_0_1 (by omega) (by omega) (by decide)
    have q748 : h68 78 5 = h34 78 5 := jK 0 f70 rg_78_5_0_1 (by omega) (by omega) (by decide)
    have q749 : h34 78 5 = h19 78 5 := by rw [← e36]; exact x_up_i (by omega)
    have q750 : h19 78 5 = h 78 5 := jK 0 f21 rg_78_5_0_1 (by omega) (by omega) (by decide)
    have q751 : h34 75 7 = h19 75 7 := by rw [← e36]; exact x_up_k (by decide)
    obtain ⟨w752, e753⟩ := Tw.yes c74 (by omega)
    have q754 : h123 75 7 = h109 75 7 := by rw [← e125]; exact x_up_k (by decide)
    refine x_retI (np := 65) (x := 0) (by decide +kernel) (by decide) (Or.inr ⟨by decide +kernel, by omega, by omega⟩) ⟨_, rfl, (by decide), ?_⟩
    exact ⟨j179, f185, (by omega), (fun z => by omega), (fun z => by omega), (fun z => by omega), (fun z => by omega), (fun z => by omega), (fun z => by omega), (fun z => absurd z (by omega)), (Or.inr ⟨by omega, (nm9.y c28 (by omega) (by omega) rfl (by omega) rfl (wd9.y w752 (congrArg (sk tB tN) (show h34 75 7 = h19 75 7 by omega)) e753 rfl (nm9.y c118 (by omega) (by omega) rfl (by omega) rfl (wd9.f (Tw.no c184 (by omega)) (congrArg (sk tB tN) (show h123 75 7 = h109 75 7 by omega)) (by omega)))))⟩)⟩
  have q5 : ¬ ((h 78 5) ≠ 2147483658) := q5
  refine x_const (np := 12) (x := 9223372039002259456) (a := 2147483648) (by decide +kernel) (by decide) (by decide) ?_
  have b755 := jB (e := 0) 0 hJ rg_78_0_0_1 (by omega) (by omega)
  have b756 := jB (e := 2) 0 hJ rg_78_2_0_1 (by omega) (by omega)
  have b757 := jB (e := 3) 0 hJ rg_78_3_0_1 (by omega) (by omega)
  have b758 := jB (e := 4) 0 hJ rg_78_4_0_1 (by omega) (by omega)
  have b759 := jB (e := 0) 0 hJ rg_76_0_0_1 (by omega) (by omega)
  refine x_retI (np := 13) (x := 0) (by decide +kernel) (by decide) (Or.inr ⟨by decide +kernel, by omega, by omega⟩) ⟨_, rfl, (by decide), ?_⟩
  exact ⟨hJ, hF, (by omega), (fun z => by omega), (fun z => by omega), (fun z => by omega), (fun z => by omega), (fun z => by omega), (fun z => by omega), (fun z => absurd z (by omega)), (Or.inl ⟨by omega, by omega⟩)⟩
set_option maxHeartbeats 0 in
/-- LentNamesModel.readDebt()Z -/
theorem c184_75 {sc : Nat × Nat} {d  : Nat} {h : xh} {tB : Nat → Nat} {tN : Nat} (hJ : J h) (hC : Cl h) (hT : Tq tB tN h) : X sc 184 (d + 6) (xI fun r h' => J h' ∧ Fr 273678337 h h' ∧ (2147483648 ≤ r ∧ r ≤ 2147483649) ∧ (r = 2147483649 → h' 78 0 = h 78 0) ∧ (r = 2147483649 → h' 78 1 = h 78 1) ∧ (r = 2147483649 → h' 78 2 = h 78 2) ∧ (r = 2147483649 → h' 78 3 = h 78 3) ∧ (r = 2147483649 → h' 78 4 = h 78 4 + 1) ∧ (r = 2147483649 → h' 78 5 = h 78 5) ∧ (r = 2147483649 → Cl h') ∧ ((h 78 4 = 2147483658 ∧ r = 2147483648) ∨ (h 78 4 ≠ 2147483658 ∧ debt9 tB tN (h 76 0) (sk tB tN (h 75 7)) (rs r (sk tB tN (h' 75 7)))))) 0 0 0 [x_r 75, 147573952589676412928] [] h := by
  have hF := Fr.refl 273678337 h
  refine x_aload (np := 1) (x := 0) (by decide +kernel) rfl (x_nc_le (by decide)) ?_
  have q1 : h 75 3 = 78 := by have z := jB (e := 3) 0 hJ rg_75_3_0_1 (by decide) (by decide); omega
  refine x_getR (np := 4) (x := 707) (f := 3) (q := 78) (by decide +kernel) (by decide) (by decide +kernel) q1 ?_
  refine x_const (np := 5) (x := 9223372056182128644) (a := 2147483652) (by decide +kernel) (by decide) (by decide) ?_
  have b2 := jB (e := 4) 0 hJ rg_78_4_0_1 (by omega) (by omega)
  refine x_aldC (np := 6) (x := 0) (n := 290) (i := 4) (q := (h 78 4)) (by decide +kernel) (by decide +kernel) (by omega) (by omega) (by decide) rfl (fun l3 => ?_)
  refine x_const (np := 8) (x := 9223372081951932426) (a := 2147483658) (by decide +kernel) (by decide) (by decide) ?_
  refine x_icmp (k := 1) (tg := 13) (np := 11) (by decide +kernel) (by decide) l3 (by decide) (fun q4 => ?_) (fun q5 => ?_)
  · have q4 : (h 78 4) ≠ 2147483658 := q4
    refine x_const (np := 16) (x := 9223372897995718856) (a := 2147483848) (by decide +kernel) (by decide) (by decide) ?_
    refine x_const (np := 17) (x := 9223372060477095941) (a := 2147483653) (by decide +kernel) (by decide) (by decide) ?_
    refine x_aload (np := 18) (x := 0) (by decide +kernel) rfl (x_nc_le (by decide)) ?_
    have q6 : h 75 3 = 78 := by have z := jB (e := 3) 0 hJ rg_75_3_0_1 (by decide) (by decide); omega
    refine x_getR (np := 21) (x := 707) (f := 3) (q := 78) (by decide +kernel) (by decide) (by decide +kernel) q6 ?_
    refine x_const (np := 22) (x := 9223372056182128644) (a := 2147483652) (by decide +kernel) (by decide) (by decide) ?_
    refine x_aldC (np := 23) (x := 0) (n := 290) (i := 4) (q := (h 78 4)) (by decide +kernel) (by decide +kernel) (by omega) (by omega) (by decide) rfl (fun l7 => ?_)
    obtain ⟨u8, q9⟩ : ∃ z, (h 78 4) = 2147483648 + z := ⟨(h 78 4) - 2147483648, by omega⟩
    refine x_imul (np := 24) (x := 0) (i := 5) (j := u8) (v := (2147483648 + 5 * u8)) (by decide +kernel) (by omega) (by omega) (by omega) (by omega) (by decide) l3 ?_
    refine x_iadd (np := 25) (x := 0) (v := (2147483848 + 5 * u8)) (by decide +kernel) (by decide) (by omega) (by omega) (by omega) ?_
    refine x_istore (np := 26) (x := 1) (lo' := [x_r 75, iv_c (2147483848 + 5 * u8)]) (by decide +kernel) (by omega) (Nat.le_of_ble_eq_true rfl) rfl ?_
    refine x_aload (np := 27) (x := 0) (by decide +kernel) rfl (x_nc_le (by decide)) ?_
    refine x_cV (t := 6) (mj := 169) (n := 1) (rc := 12) (ml := 1) (nr := 0) (np := 30) (as := [x_r 75]) (rest := []) (lo1 := [x_r 75]) (by decide +kernel) (by decide) (by decide +kernel) (x_rb_of (by decide +kernel)) rfl rfl (x_wr (by decide) x_wn) x_wn (by decide) rfl (c169_75 hJ  hT) (fun h14 q13 => ?_)
    obtain ⟨j15, f16, c19, c20, c21, c22⟩ := q13
    have f23 := Fr.trans hF f16 (by decide)
    have b24 := jB (e := 7) 0 hJ rg_75_7_0_1 (by omega) (by omega)
    have b25 := jB (e := 9) 0 j15 rg_75_9_0_1 (by omega) (by omega)
    have b26 := jB (e := 7) 0 j15 rg_75_7_0_1 (by omega) (by omega)
    refine x_aload (np := 31) (x := 0) (by decide +kernel) rfl (x_nc_le (by decide)) ?_
    have q27 : h14 75 3 = 78 := by have z := jB (e := 3) 0 j15 rg_75_3_0_1 (by decide) (by decide); omega
    refine x_getR (np := 34) (x := 707) (f := 3) (q := 78) (by decide +kernel) (by decide) (by decide +kernel) q27 ?_
    refine x_iload (np := 35) (x := 1) (by decide +kernel) rfl (by omega) ?_
    refine x_aload (np := 36) (x := 0) (by decide +kernel) rfl (x_nc_le (by decide)) ?_
    refine x_ldcB (i := 10) (idx := 169) (tx := "name") (by rw [tb_y184]; exact List.mem_of_getElem? (i := 48) rfl) (by decide) (by rw [tb_b184]; decide +kernel) ?_
    have m31 := Tq.fr hT f16 (by decide) (by decide)
    refine x_cP (t := 6) (mj := 170) (n := 2) (rc := 12) (ml := 4) (nr := 2) (np := 41) (as := [x_r 75, x_b (10 + 1)]) (rest := [iv_c (2147483848 + 5 * u8), x_r 78]) (lo1 := [x_r 75, x_b (10 + 1), 147573952589676412928, 147573952589676412928]) (by decide +kernel) (by decide) (by decide +kernel) (x_rb_of (by decide +kernel)) rfl rfl (x_wr (by decide) (x_wB (by decide) x_wn)) (x_wi (by omega) (x_wr (by decide) x_wn)) (by decide) rfl (c170_75_S0 j15  (by decide) m31) (fun v28 l29 q30 => ?_)
    obtain ⟨b34, c32, c33⟩ := q30
    have b35 : iv_tl 10 = 4 := by decide
    refine x_ifz (k := 0) (tg := 48) (np := 44) (by decide +kernel) (by decide) l29 (fun q36 => ?_) (fun q37 => ?_)
    · have q36 : v28 = 2147483648 := q36
      refine x_const (np := 49) (x := 9223372039002259456) (a := 2147483648) (by decide +kernel) (by decide) (by decide) ?_
      refine x_ast (np := 50) (x := 0) (kd := 1) (n := 290) (i := (200 + 5 * u8)) (by decide +kernel) (Or.inl rfl) (by decide +kernel) (by omega) (by omega) (by decide) (by decide) (fun z => absurd z (by decide)) ?_
      have j39 := jU (e := (200 + 5 * u8)) (v := 2147483648) u8 j15 rg_78_200_5_10 (by omega) (by omega) (by omega)
      have f41 := jF (e := (200 + 5 * u8)) (v := 2147483648) u8 f23 rg_78_200_5_10 (by omega) (by omega) (by decide)
      generalize e40 : x_up h14 78 (200 + 5 * u8) 2147483648 = h38 at j39 f41 ⊢
      refine x_aload (np := 51) (x := 0) (by decide +kernel) rfl (x_nc_le (by decide)) ?_
      have q42 : h38 75 3 = 78 := by have z := jB (e := 3) 0 j39 rg_75_3_0_1 (by decide) (by decide); omega
      refine x_getR (np := 54) (x := 707) (f := 3) (q := 78) (by decide +kernel) (by decide) (by decide +kernel) q42 ?_
      refine x_iload (np := 55) (x := 1) (by decide +kernel) rfl (by omega) ?_
      have q43 : h38 78 (200 + 5 * u8) = 2147483648 := by rw [← e40]; exact x_up_at
      refine x_aldC (np := 56) (x := 0) (n := 290) (i := (200 + 5 * u8)) (q := 2147483648) (by decide +kernel) (by decide +kernel) (by omega) (by omega) (by decide) q43 (fun l44 => ?_)
      refine x_ifz (k := 1) (tg := 70) (np := 59) (by decide +kernel) (by decide) (by decide) (fun q45 => ?_) (fun q46 => ?_)
      · have q45 : 2147483648 ≠ 2147483648 := q45
        exfalso; omega
      have q46 : ¬ (2147483648 ≠ 2147483648) := q46
      refine x_aload (np := 60) (x := 0) (by decide +kernel) rfl (x_nc_le (by decide)) ?_
      refine x_ldcB (i := 9) (idx := 171) (tx := "body") (by rw [tb_y184]; exact List.mem_of_getElem? (i := 49) rfl) (by decide) (by rw [tb_b184]; decide +kernel) ?_
      have m50 : Tq tB tN h38 := by rw [← e40]; exact Tq.oth m31 (by decide) (fun z => absurd z.1 (by decide))
      refine x_cP (t := 6) (mj := 170) (n := 2) (rc := 12) (ml := 4) (nr := 0) (np := 65) (as := [x_r 75, x_b (9 + 1)]) (rest := []) (lo1 := [x_r 75, x_b (9 + 1), 147573952589676412928, 147573952589676412928]) (by decide +kernel) (by decide) (by decide +kernel) (x_rb_of (by decide +kernel)) rfl rfl (x_wr (by decide) (x_wB (by decide) x_wn)) x_wn (by decide) rfl (c170_75_S0 j39  (by decide) m50) (fun v47 l48 q49 => ?_)
      obtain ⟨b53, c51, c52⟩ := q49
      have q54 : h38 75 7 = h14 75 7 := by rw [← e40]; exact x_up_k (by decide)
      have q55 : h38 75 9 = h14 75 9 := by rw [← e40]; exact x_up_k (by decide)
      have b56 : iv_tl 9 = 4 := by decide
      refine x_ifz (k := 1) (tg := 70) (np := 68) (by decide +kernel) (by decide) l48 (fun q57 => ?_) (fun q58 => ?_)
      · have q57 : v47 ≠ 2147483648 := q57
        have b59 := c51 (by omega)
        refine x_aload (np := 71) (x := 0) (by decide +kernel) rfl (x_nc_le (by decide)) ?_
        refine x_iload (np := 72) (x := 1) (by decide +kernel) rfl (by omega) ?_
        refine x_const (np := 73) (x := 9223372043297226753) (a := 2147483649) (by decide +kernel) (by decide) (by decide) ?_
        refine x_iadd (np := 74) (x := 0) (v := (2147483849 + 5 * u8)) (by decide +kernel) (by omega) (by decide) (by omega) (by omega) ?_
        refine x_nI (t := 6) (mj := 177) (n := 2) (rc := 12) (ml := 2) (nr := 0) (np := 77) (as := [x_r 75, iv_c (2147483849 + 5 * u8)]) (rest := []) (lo1 := [x_r 75, iv_c (2147483849 + 5 * u8)]) (by decide +kernel) (by decide) (by decide +kernel) (x_rb_of (by decide +kernel)) rfl rfl (x_wr (by decide) (x_wi (by omega) x_wn)) x_wn (by decide) rfl ?_
        refine x_aload (np := 1) (x := 0) (by decide +kernel) rfl (x_nc_le (by decide)) ?_
        refine x_iload (np := 2) (x := 1) (by decide +kernel) rfl (by omega) ?_
        refine x_aload (np := 3) (x := 0) (by decide +kernel) rfl (x_nc_le (by decide)) ?_
        refine x_const (np := 4) (x := 9223372039002259456) (a := 2147483648) (by decide +kernel) (by decide) (by decide) ?_
        refine x_aload (np := 5) (x := 0) (by decide +kernel) rfl (x_nc_le (by decide)) ?_
        refine x_nI (t := 6) (mj := 157) (n := 1) (rc := 12) (ml := 1) (nr := 4) (np := 8) (as := [x_r 75]) (rest := [iv_c 2147483648, x_r 75, iv_c (2147483849 + 5 * u8), x_r 75]) (lo1 := [x_r 75]) (by decide +kernel) (by decide) (by decide +kernel) (x_rb_of (by decide +kernel)) rfl rfl (x_wr (by decide) x_wn) (x_wi (by decide) (x_wr (by decide) (x_wi (by omega) (x_wr (by decide) x_wn)))) (by decide) rfl ?_
        refine x_aload (np := 1) (x := 0) (by decide +kernel) rfl (x_nc_le (by decide)) ?_
        have q60 : h38 75 1 = 76 := by have z := jB (e := 1) 0 j39 rg_75_1_0_1 (by decide) (by decide); omega
        refine x_getR (np := 4) (x := 705) (f := 1) (q := 76) (by decide +kernel) (by decide) (by decide +kernel) q60 ?_
        refine x_const (np := 5) (x := 9223372039002259456) (a := 2147483648) (by decide +kernel) (by decide) (by decide) ?_
        have q61 : h38 76 0 = h14 76 0 := by rw [← e40]; exact x_up_k (by decide)
        have q62 : h14 76 0 = h 76 0 := jK 0 f16 rg_76_0_0_1 (by omega) (by omega) (by decide)
        have b63 := jB (e := 0) 0 hJ rg_76_0_0_1 (by omega) (by omega)
        refine x_aldC (np := 6) (x := 0) (n := 1952) (i := 0) (q := (h 76 0)) (by decide +kernel) (by decide +kernel) (by omega) (by omega) (by decide) (q61.trans q62) (fun l64 => ?_)
        refine x_retI (np := 7) (x := 0) (by decide +kernel) l64 (Or.inl (by decide +kernel)) ⟨_, rfl, l64, ?_⟩
        refine x_const (np := 9) (x := 9223372043297226753) (a := 2147483649) (by decide +kernel) (by decide) (by decide) ?_
        obtain ⟨v65, q66⟩ : ∃ z, z + 2147483649 = (h 76 0) + 2147483648 := ⟨(h 76 0) + 2147483648 - 2147483649, by omega⟩
        refine x_isub (np := 10) (x := 0) (v := v65) (by decide +kernel) l64 (by decide) (by omega) (by omega) ?_
        refine x_cI (t := 6) (mj := 174) (n := 3) (rc := 12) (ml := 4) (nr := 2) (np := 13) (as := [x_r 75, iv_c 2147483648, iv_c v65]) (rest := [iv_c (2147483849 + 5 * u8), x_r 75]) (lo1 := [x_r 75, iv_c 2147483648, iv_c v65, 147573952589676412928]) (by decide +kernel) (by decide) (by decide +kernel) (x_rb_of (by decide +kernel)) rfl rfl (x_wr (by decide) (x_wi (by decide) (x_wi (by omega) x_wn))) (x_wi (by omega) (x_wr (by decide) x_wn)) (by decide) rfl (c174_75 j39  (by omega) (by omega) m50) (fun v67 h70 l68 q69 => ?_)
        obtain ⟨j71, f72, b73, c74, c75, c76, c77, c78, c79⟩ := q69
        have f80 := Fr.trans f41 f72 (by decide)
        have q81 : h38 75 7 = h14 75 7 := by rw [← e40]; exact x_up_k (by decide)
        have b82 := jB (e := 7) 0 j71 rg_75_7_0_1 (by omega) (by omega)
        have q83 : h38 75 7 = h14 75 7 := by rw [← e40]; exact x_up_k (by decide)
        have b84 := c78 (by omega)
        refine x_nI (t := 6) (mj := 176) (n := 3) (rc := 12) (ml := 3) (nr := 0) (np := 16) (as := [x_r 75, iv_c (2147483849 + 5 * u8), iv_c v67]) (rest := []) (lo1 := [x_r 75, iv_c (2147483849 + 5 * u8), iv_c v67]) (by decide +kernel) (by decide) (by decide +kernel) (x_rb_of (by decide +kernel)) rfl rfl (x_wr (by decide) (x_wi (by omega) (x_wi l68 x_wn))) x_wn (by decide) rfl ?_
        refine x_aload (np := 1) (x := 0) (by decide +kernel) rfl (x_nc_le (by decide)) ?_
        have q85 : h70 75 3 = 78 := by have z := jB (e := 3) 0 j71 rg_75_3_0_1 (by decide) (by decide); omega
        refine x_getR (np := 4) (x := 707) (f := 3) (q := 78) (by decide +kernel) (by decide) (by decide +kernel) q85 ?_
        refine x_iload (np := 5) (x := 1) (by decide +kernel) rfl (by omega) ?_
        refine x_iload (np := 6) (x := 2) (by decide +kernel) rfl l68 ?_
        refine x_ast (np := 7) (x := 0) (kd := 1) (n := 290) (i := (201 + 5 * u8)) (by decide +kernel) (Or.inl rfl) (by decide +kernel) (by omega) (by omega) (by decide) l68 (fun z => absurd z (by decide)) ?_
        have j87 := jU (e := (201 + 5 * u8)) (v := v67) u8 j71 rg_78_201_5_10 (by omega) (by omega) (by omega)
        have f89 := jF (e := (201 + 5 * u8)) (v := v67) u8 f80 rg_78_201_5_10 (by omega) (by omega) (by decide)
        generalize e88 : x_up h70 78 (201 + 5 * u8) v67 = h86 at j87 f89 ⊢
        refine x_iload (np := 8) (x := 2) (by decide +kernel) rfl l68 ?_
        refine x_ifz (k := 2) (tg := 15) (np := 11) (by decide +kernel) (by decide) l68 (fun q90 => ?_) (fun q91 => ?_)
        · have q90 : v67 < 2147483648 := q90
          refine x_const (np := 16) (x := 9223372039002259456) (a := 2147483648) (by decide +kernel) (by decide) (by decide) ?_
          refine x_retI (np := 17) (x := 0) (by decide +kernel) (by decide) (Or.inr ⟨by decide +kernel, by omega, by omega⟩) ⟨_, rfl, (by decide), ?_⟩
          refine x_retI (np := 17) (x := 0) (by decide +kernel) (by decide) (Or.inr ⟨by decide +kernel, by omega, by omega⟩) ⟨_, rfl, (by decide), ?_⟩
          refine x_ifz (k := 0) (tg := 154) (np := 80) (by decide +kernel) (by decide) (by decide) (fun q92 => ?_) (fun q93 => ?_)
          · have q92 : 2147483648 = 2147483648 := q92
            refine x_const (np := 155) (x := 9223372039002259456) (a := 2147483648) (by decide +kernel) (by decide) (by decide) ?_
            have b94 := jB (e := 0) 0 hJ rg_78_0_0_1 (by omega) (by omega)
            have q95 : h86 78 0 = h70 78 0 := by rw [← e88]; exact x_up_i (by omega)
            have q96 : h70 78 0 = h38 78 0 := jK 0 f72 rg_78_0_0_1 (by omega) (by omega) (by decide)
            have q97 : h38 78 0 = h14 78 0 := by rw [← e40]; exact x_up_i (by omega)
            have q98 : h14 78 0 = h 78 0 := jK 0 f16 rg_78_0_0_1 (by omega) (by omega) (by decide)
            have q99 : h86 78 1 = h70 78 1 := by rw [← e88]; exact x_up_i (by omega)
            have q100 : h70 78 1 = h38 78 1 := jK 0 f72 rg_78_1_0_1 (by omega) (by omega) (by decide)
            have q101 : h38 78 1 = h14 78 1 := by rw [← e40]; exact x_up_i (by omega)
            have q102 : h14 78 1 = h 78 1 := jK 0 f16 rg_78_1_0_1 (by omega) (by omega) (by decide)
            have b103 := jB (e := 2) 0 hJ rg_78_2_0_1 (by omega) (by omega)
            have q104 : h86 78 2 = h70 78 2 := by rw [← e88]; exact x_up_i (by omega)
            have q105 : h70 78 2 = h38 78 2 := jK 0 f72 rg_78_2_0_1 (by omega) (by omega) (by decide)
            have q106 : h38 78 2 = h14 78 2 := by rw [← e40]; exact x_up_i (by omega)
            have q107 : h14 78 2 = h 78 2 := jK 0 f16 rg_78_2_0_1 (by omega) (by omega) (by decide)
            have b108 := jB (e := 3) 0 hJ rg_78_3_0_1 (by omega) (by omega)
            have q109 : h86 78 3 = h70 78 3 := by rw [← e88]; exact x_up_i (by omega)
            have q110 : h70 78 3 = h38 78 3 := jK 0 f72 rg_78_3_0_1 (by omega) (by omega) (by decide)
            have q111 : h38 78 3 = h14 78 3 := by rw [← e40]; exact x_up_i (by omega)
            have q112 : h14 78 3 = h 78 3 := jK 0 f16 rg_78_3_0_1 (by omega) (by omega) (by decide)
            have q113 : h86 78 4 = h70 78 4 := by rw [← e88]; exact x_up_i (by omega)
            have q114 : h70 78 4 = h38 78 4 := jK 0 f72 rg_78_4_0_1 (by omega) (by omega) (by decide)
            have q115 : h38 78 4 = h14 78 4 := by rw [← e40]; exact x_up_i (by omega)
            have q116 : h14 78 4 = h 78 4 := jK 0 f16 rg_78_4_0_1 (by omega) (by omega) (by decide)
            have b117 := jB (e := 5) 0 hJ rg_78_5_0_1 (by omega) (by omega)
            have q118 : h86 78 5 = h70 78 5 := by rw [← e88]; exact x_up_i (by omega)
            have q119 : h70 78 5 = h38 78 5 := jK 0 f72 rg_78_5_0_1 (by omega) (by omega) (by decide)
            have q120 : h38 78 5 = h14 78 5 := by rw [← e40]; exact x_up_i (by omega)
            have q121 : h14 78 5 = h 78 5 := jK 0 f16 rg_78_5_0_1 (by omega) (by omega) (by decide)
            have w122 : ¬ Wd tB tN 10 (sk tB tN (h 75 7)) := by rw [← c21]; exact Wd.no (by decide) (Is.no c33 (by omega)) c22
            have q123 : h38 75 7 = h14 75 7 := by rw [← e40]; exact x_up_k (by decide)
            have q124 : h38 75 9 = h14 75 9 := by rw [← e40]; exact x_up_k (by decide)
            have c125 : Is (Wm tB 9 (h14 75 9) (h14 75 7)) v47 := by rw [show h14 75 9 = h38 75 9 by omega, show h14 75 7 = h38 75 7 by omega]; exact c52
            have y126 := Is.yes c125 (by omega)
            have w127 : Wd tB tN 9 (sk tB tN (h 75 7)) := by rw [← c21]; exact Wd.of' (by decide) y126 c22
            have e128 : sk tB tN (h14 75 7) = sk tB tN ((sk tB tN (h 75 7)) + iv_tl 9) := by rw [← c21, ← y126.1]
            have q129 : h38 75 7 = h14 75 7 := by rw [← e40]; exact x_up_k (by decide)
            refine x_retI (np := 156) (x := 0) (by decide +kernel) (by decide) (Or.inr ⟨by decide +kernel, by omega, by omega⟩) ⟨_, rfl, (by decide), ?_⟩
            exact ⟨j87, f89, (by omega), (fun z => by omega), (fun z => by omega), (fun z => by omega), (fun z => by omega), (fun z => by omega), (fun z => by omega), (fun z => absurd z (by omega)), (Or.inr ⟨by omega, (or9.y w127 rfl e128 rfl (nm9.f c79 (by omega) (by omega) (congrArg (sk tB tN) (show h38 75 7 = h14 75 7 by omega)) (by omega) (by omega)))⟩)⟩
          have q93 : ¬ (2147483648 = 2147483648) := q93
          exfalso; omega
        have q91 : ¬ (v67 < 2147483648) := q91
        have b130 := c75 (by omega)
        have b131 := c76 (by omega)
        have b132 := c77 (by omega)
        refine x_const (np := 12) (x := 9223372043297226753) (a := 2147483649) (by decide +kernel) (by decide) (by decide) ?_
        refine x_goto (np := 15) (x := 16) (by decide +kernel) ?_
        refine x_retI (np := 17) (x := 0) (by decide +kernel) (by decide) (Or.inr ⟨by decide +kernel, by omega, by omega⟩) ⟨_, rfl, (by decide), ?_⟩
        refine x_retI (np := 17) (x := 0) (by decide +kernel) (by decide) (Or.inr ⟨by decide +kernel, by omega, by omega⟩) ⟨_, rfl, (by decide), ?_⟩
        refine x_ifz (k := 0) (tg := 154) (np := 80) (by decide +kernel) (by decide) (by decide) (fun q133 => ?_) (fun q134 => ?_)
        · have q133 : 2147483649 = 2147483648 := q133
          exfalso; omega
        have q134 : ¬ (2147483649 = 2147483648) := q134
        refine x_aload (np := 81) (x := 0) (by decide +kernel) rfl (x_nc_le (by decide)) ?_
        refine x_ldcB (i := 2) (idx := 147) (tx := "day") (by rw [tb_y184]; exact List.mem_of_getElem? (i := 37) rfl) (by decide) (by rw [tb_b184]; decide +kernel) ?_
        have m139 := Tq.fr m50 f72 (by decide) (by decide)
        have m138 : Tq tB tN h86 := by rw [← e88]; exact Tq.oth m139 (by decide) (fun z => absurd z.1 (by decide))
        refine x_cI (t := 6) (mj := 172) (n := 2) (rc := 12) (ml := 2) (nr := 0) (np := 86) (as := [x_r 75, x_b (2 + 1)]) (rest := []) (lo1 := [x_r 75, x_b (2 + 1)]) (by decide +kernel) (by decide) (by decide +kernel) (x_rb_of (by decide +kernel)) rfl rfl (x_wr (by decide) (x_wB (by decide) x_wn)) x_wn (by decide) rfl (c172_75_S0 j87  (by decide) m138) (fun v135 h140 l136 q137 => ?_)
        obtain ⟨j141, f142, b143, c144, c145, c146⟩ := q137
        have f147 := Fr.trans f89 f142 (by decide)
        have q148 : h86 75 7 = h70 75 7 := by rw [← e88]; exact x_up_k (by decide)
        have b149 := jB (e := 7) 0 j141 rg_75_7_0_1 (by omega) (by omega)
        have q150 : h86 75 7 = h70 75 7 := by rw [← e88]; exact x_up_k (by decide)
        refine x_ifz (k := 0) (tg := 154) (np := 89) (by decide +kernel) (by decide) l136 (fun q151 => ?_) (fun q152 => ?_)
        · have q151 : v135 = 2147483648 := q151
          refine x_const (np := 155) (x := 9223372039002259456) (a := 2147483648) (by decide +kernel) (by decide) (by decide) ?_
          have b153 := jB (e := 0) 0 hJ rg_78_0_0_1 (by omega) (by omega)
          have q154 : h140 78 0 = h86 78 0 := jK 0 f142 rg_78_0_0_1 (by omega) (by omega) (by decide)
          have q155 : h86 78 0 = h70 78 0 := by rw [← e88]; exact x_up_i (by omega)
          have q156 : h70 78 0 = h38 78 0 := jK 0 f72 rg_78_0_0_1 (by omega) (by omega) (by decide)
          have q157 : h38 78 0 = h14 78 0 := by rw [← e40]; exact x_up_i (by omega)
          have q158 : h14 78 0 = h 78 0 := jK 0 f16 rg_78_0_0_1 (by omega) (by omega) (by decide)
          have q159 : h140 78 1 = h86 78 1 := jK 0 f142 rg_78_1_0_1 (by omega) (by omega) (by decide)
          have q160 : h86 78 1 = h70 78 1 := by rw [← e88]; exact x_up_i (by omega)
          have q161 : h70 78 1 = h38 78 1 := jK 0 f72 rg_78_1_0_1 (by omega) (by omega) (by decide)
          have q162 : h38 78 1 = h14 78 1 := by rw [← e40]; exact x_up_i (by omega)
          have q163 : h14 78 1 = h 78 1 := jK 0 f16 rg_78_1_0_1 (by omega) (by omega) (by decide)
          have b164 := jB (e := 2) 0 hJ rg_78_2_0_1 (by omega) (by omega)
          have q165 : h140 78 2 = h86 78 2 := jK 0 f142 rg_78_2_0_1 (by omega) (by omega) (by decide)
          have q166 : h86 78 2 = h70 78 2 := by rw [← e88]; exact x_up_i (by omega)
          have q167 : h70 78 2 = h38 78 2 := jK 0 f72 rg_78_2_0_1 (by omega) (by omega) (by decide)
          have q168 : h38 78 2 = h14 78 2 := by rw [← e40]; exact x_up_i (by omega)
          have q169 : h14 78 2 = h 78 2 := jK 0 f16 rg_78_2_0_1 (by omega) (by omega) (by decide)
          have b170 := jB (e := 3) 0 hJ rg_78_3_0_1 (by omega) (by omega)
          have q171 : h140 78 3 = h86 78 3 := jK 0 f142 rg_78_3_0_1 (by omega) (by omega) (by decide)
          have q172 : h86 78 3 = h70 78 3 := by rw [← e88]; exact x_up_i (by omega)
          have q173 : h70 78 3 = h38 78 3 := jK 0 f72 rg_78_3_0_1 (by omega) (by omega) (by decide)
          have q174 : h38 78 3 = h14 78 3 := by rw [← e40]; exact x_up_i (by omega)
          have q175 : h14 78 3 = h 78 3 := jK 0 f16 rg_78_3_0_1 (by omega) (by omega) (by decide)
          have q176 : h140 78 4 = h86 78 4 := jK 0 f142 rg_78_4_0_1 (by omega) (by omega) (by decide)
          have q177 : h86 78 4 = h70 78 4 := by rw [← e88]; exact x_up_i (by omega)
          have q178 : h70 78 4 = h38 78 4 := jK 0 f72 rg_78_4_0_1 (by omega) (by omega) (by decide)
          have q179 : h38 78 4 = h14 78 4 := by rw [← e40]; exact x_up_i (by omega)
          have q180 : h14 78 4 = h 78 4 := jK 0 f16 rg_78_4_0_1 (by omega) (by omega) (by decide)
          have b181 := jB (e := 5) 0 hJ rg_78_5_0_1 (by omega) (by omega)
          have q182 : h140 78 5 = h86 78 5 := jK 0 f142 rg_78_5_0_1 (by omega) (by omega) (by decide)
          have q183 : h86 78 5 = h70 78 5 := by rw [← e88]; exact x_up_i (by omega)
          have q184 : h70 78 5 = h38 78 5 := jK 0 f72 rg_78_5_0_1 (by omega) (by omega) (by decide)
          have q185 : h38 78 5 = h14 78 5 := by rw [← e40]; exact x_up_i (by omega)
          have q186 : h14 78 5 = h 78 5 := jK 0 f16 rg_78_5_0_1 (by omega) (by omega) (by decide)
          have w187 : ¬ Wd tB tN 10 (sk tB tN (h 75 7)) := by rw [← c21]; exact Wd.no (by decide) (Is.no c33 (by omega)) c22
          have q188 : h38 75 7 = h14 75 7 := by rw [← e40]; exact x_up_k (by decide)
          have q189 : h38 75 9 = h14 75 9 := by rw [← e40]; exact x_up_k (by decide)
          have c190 : Is (Wm tB 9 (h14 75 9) (h14 75 7)) v47 := by rw [show h14 75 9 = h38 75 9 by omega, show h14 75 7 = h38 75 7 by omega]; exact c52
          have y191 := Is.yes c190 (by omega)
          have w192 : Wd tB tN 9 (sk tB tN (h 75 7)) := by rw [← c21]; exact Wd.of' (by decide) y191 c22
          have e193 : sk tB tN (h14 75 7) = sk tB tN ((sk tB tN (h 75 7)) + iv_tl 9) := by rw [← c21, ← y191.1]
          have q194 : h38 75 7 = h14 75 7 := by rw [← e40]; exact x_up_k (by decide)
          have q195 : h86 75 7 = h70 75 7 := by rw [← e88]; exact x_up_k (by decide)
          refine x_retI (np := 156) (x := 0) (by decide +kernel) (by decide) (Or.inr ⟨by decide +kernel, by omega, by omega⟩) ⟨_, rfl, (by decide), ?_⟩
          exact ⟨j141, f147, (by omega), (fun z => by omega), (fun z => by omega), (fun z => by omega), (fun z => by omega), (fun z => by omega), (fun z => by omega), (fun z => absurd z (by omega)), (Or.inr ⟨by omega, (or9.y w192 rfl e193 rfl (nm9.y c79 (by omega) (by omega) (congrArg (sk tB tN) (show h38 75 7 = h14 75 7 by omega)) (by omega) rfl (wd9.f (Tw.no c146 (by omega)) (congrArg (sk tB tN) (show h86 75 7 = h70 75 7 by omega)) (by omega))))⟩)⟩
        have q152 : ¬ (v135 = 2147483648) := q152
        have b196 := c145 (by omega)
        refine x_aload (np := 90) (x := 0) (by decide +kernel) rfl (x_nc_le (by decide)) ?_
        refine x_iload (np := 91) (x := 1) (by decide +kernel) rfl (by omega) ?_
        refine x_const (np := 92) (x := 9223372047592194050) (a := 2147483650) (by decide +kernel) (by decide) (by decide) ?_
        refine x_iadd (np := 93) (x := 0) (v := (2147483850 + 5 * u8)) (by decide +kernel) (by omega) (by decide) (by omega) (by omega) ?_
        refine x_const (np := 94) (x := 9223372039002259456) (a := 2147483648) (by decide +kernel) (by decide) (by decide) ?_
        refine x_nI (t := 6) (mj := 178) (n := 3) (rc := 12) (ml := 3) (nr := 0) (np := 97) (as := [x_r 75, iv_c (2147483850 + 5 * u8), iv_c 2147483648]) (rest := []) (lo1 := [x_r 75, iv_c (2147483850 + 5 * u8), iv_c 2147483648]) (by decide +kernel) (by decide) (by decide +kernel) (x_rb_of (by decide +kernel)) rfl rfl (x_wr (by decide) (x_wi (by omega) (x_wi (by decide) x_wn))) x_wn (by decide) rfl ?_
        refine x_aload (np := 1) (x := 0) (by decide +kernel) rfl (x_nc_le (by decide)) ?_
        refine x_iload (np := 2) (x := 1) (by decide +kernel) rfl (by omega) ?_
        refine x_aload (np := 3) (x := 0) (by decide +kernel) rfl (x_nc_le (by decide)) ?_
        refine x_iload (np := 4) (x := 2) (by decide +kernel) rfl (by decide) ?_
        refine x_const (np := 6) (x := 9223372086246899723) (a := 2147483659) (by decide +kernel) (by decide) (by decide) ?_
        have m200 := Tq.fr m138 f142 (by decide) (by decide)
        refine x_cI (t := 6) (mj := 174) (n := 3) (rc := 12) (ml := 4) (nr := 2) (np := 9) (as := [x_r 75, iv_c 2147483648, iv_c 2147483659]) (rest := [iv_c (2147483850 + 5 * u8), x_r 75]) (lo1 := [x_r 75, iv_c 2147483648, iv_c 2147483659, 147573952589676412928]) (by decide +kernel) (by decide) (by decide +kernel) (x_rb_of (by decide +kernel)) rfl rfl (x_wr (by decide) (x_wi (by decide) (x_wi (by decide) x_wn))) (x_wi (by omega) (x_wr (by decide) x_wn)) (by decide) rfl (c174_75 j141  (by omega) (by omega) m200) (fun v197 h201 l198 q199 => ?_)
        obtain ⟨j202, f203, b204, c205, c206, c207, c208, c209, c210⟩ := q199
        have f211 := Fr.trans f147 f203 (by decide)
        have b212 := jB (e := 7) 0 j202 rg_75_7_0_1 (by omega) (by omega)
        have b213 := c209 (by omega)
        refine x_nI (t := 6) (mj := 176) (n := 3) (rc := 12) (ml := 3) (nr := 0) (np := 12) (as := [x_r 75, iv_c (2147483850 + 5 * u8), iv_c v197]) (rest := []) (lo1 := [x_r 75, iv_c (2147483850 + 5 * u8), iv_c v197]) (by decide +kernel) (by decide) (by decide +kernel) (x_rb_of (by decide +kernel)) rfl rfl (x_wr (by decide) (x_wi (by omega) (x_wi l198 x_wn))) x_wn (by decide) rfl ?_
        refine x_aload (np := 1) (x := 0) (by decide +kernel) rfl (x_nc_le (by decide)) ?_
        have q214 : h201 75 3 = 78 := by have z := jB (e := 3) 0 j202 rg_75_3_0_1 (by decide) (by decide); omega
        refine x_getR (np := 4) (x := 707) (f := 3) (q := 78) (by decide +kernel) (by decide) (by decide +kernel) q214 ?_
        refine x_iload (np := 5) (x := 1) (by decide +kernel) rfl (by omega) ?_
        refine x_iload (np := 6) (x := 2) (by decide +kernel) rfl l198 ?_
        refine x_ast (np := 7) (x := 0) (kd := 1) (n := 290) (i := (202 + 5 * u8)) (by decide +kernel) (Or.inl rfl) (by decide +kernel) (by omega) (by omega) (by decide) l198 (fun z => absurd z (by decide)) ?_
        have j216 := jU (e := (202 + 5 * u8)) (v := v197) u8 j202 rg_78_202_5_10 (by omega) (by omega) (by omega)
        have f218 := jF (e := (202 + 5 * u8)) (v := v197) u8 f211 rg_78_202_5_10 (by omega) (by omega) (by decide)
        generalize e217 : x_up h201 78 (202 + 5 * u8) v197 = h215 at j216 f218 ⊢
        refine x_iload (np := 8) (x := 2) (by decide +kernel) rfl l198 ?_
        refine x_ifz (k := 2) (tg := 15) (np := 11) (by decide +kernel) (by decide) l198 (fun q219 => ?_) (fun q220 => ?_)
        · have q219 : v197 < 2147483648 := q219
          refine x_const (np := 16) (x := 9223372039002259456) (a := 2147483648) (by decide +kernel) (by decide) (by decide) ?_
          refine x_retI (np := 17) (x := 0) (by decide +kernel) (by decide) (Or.inr ⟨by decide +kernel, by omega, by omega⟩) ⟨_, rfl, (by decide), ?_⟩
          refine x_retI (np := 13) (x := 0) (by decide +kernel) (by decide) (Or.inr ⟨by decide +kernel, by omega, by omega⟩) ⟨_, rfl, (by decide), ?_⟩
          refine x_ifz (k := 0) (tg := 154) (np := 100) (by decide +kernel) (by decide) (by decide) (fun q221 => ?_) (fun q222 => ?_)
          · have q221 : 2147483648 = 2147483648 := q221
            refine x_const (np := 155) (x := 9223372039002259456) (a := 2147483648) (by decide +kernel) (by decide) (by decide) ?_
            have b223 := jB (e := 0) 0 hJ rg_78_0_0_1 (by omega) (by omega)
            have q224 : h215 78 0 = h201 78 0 := by rw [← e217]; exact x_up_i (by omega)
            have q225 : h201 78 0 = h140 78 0 := jK 0 f203 rg_78_0_0_1 (by omega) (by omega) (by decide)
            have q226 : h140 78 0 = h86 78 0 := jK 0 f142 rg_78_0_0_1 (by omega) (by omega) (by decide)
            have q227 : h86 78 0 = h70 78 0 := by rw [← e88]; exact x_up_i (by omega)
            have q228 : h70 78 0 = h38 78 0 := jK 0 f72 rg_78_0_0_1 (by omega) (by omega) (by decide)
            have q229 : h38 78 0 = h14 78 0 := by rw [← e40]; exact x_up_i (by omega)
            have q230 : h14 78 0 = h 78 0 := jK 0 f16 rg_78_0_0_1 (by omega) (by omega) (by decide)
            have q231 : h215 78 1 = h201 78 1 := by rw [← e217]; exact x_up_i (by omega)
            have q232 : h201 78 1 = h140 78 1 := jK 0 f203 rg_78_1_0_1 (by omega) (by omega) (by decide)
            have q233 : h140 78 1 = h86 78 1 := jK 0 f142 rg_78_1_0_1 (by omega) (by omega) (by decide)
            have q234 : h86 78 1 = h70 78 1 := by rw [← e88]; exact x_up_i (by omega)
            have q235 : h70 78 1 = h38 78 1 := jK 0 f72 rg_78_1_0_1 (by omega) (by omega) (by decide)
            have q236 : h38 78 1 = h14 78 1 := by rw [← e40]; exact x_up_i (by omega)
            have q237 : h14 78 1 = h 78 1 := jK 0 f16 rg_78_1_0_1 (by omega) (by omega) (by decide)
            have b238 := jB (e := 2) 0 hJ rg_78_2_0_1 (by omega) (by omega)
            have q239 : h215 78 2 = h201 78 2 := by rw [← e217]; exact x_up_i (by omega)
            have q240 : h201 78 2 = h140 78 2 := jK 0 f203 rg_78_2_0_1 (by omega) (by omega) (by decide)
            have q241 : h140 78 2 = h86 78 2 := jK 0 f142 rg_78_2_0_1 (by omega) (by omega) (by decide)
            have q242 : h86 78 2 = h70 78 2 := by rw [← e88]; exact x_up_i (by omega)
            have q243 : h70 78 2 = h38 78 2 := jK 0 f72 rg_78_2_0_1 (by omega) (by omega) (by decide)
            have q244 : h38 78 2 = h14 78 2 := by rw [← e40]; exact x_up_i (by omega)
            have q245 : h14 78 2 = h 78 2 := jK 0 f16 rg_78_2_0_1 (by omega) (by omega) (by decide)
            have b246 := jB (e := 3) 0 hJ rg_78_3_0_1 (by omega) (by omega)
            have q247 : h215 78 3 = h201 78 3 := by rw [← e217]; exact x_up_i (by omega)
            have q248 : h201 78 3 = h140 78 3 := jK 0 f203 rg_78_3_0_1 (by omega) (by omega) (by decide)
            have q249 : h140 78 3 = h86 78 3 := jK 0 f142 rg_78_3_0_1 (by omega) (by omega) (by decide)
            have q250 : h86 78 3 = h70 78 3 := by rw [← e88]; exact x_up_i (by omega)
            have q251 : h70 78 3 = h38 78 3 := jK 0 f72 rg_78_3_0_1 (by omega) (by omega) (by decide)
            have q252 : h38 78 3 = h14 78 3 := by rw [← e40]; exact x_up_i (by omega)
            have q253 : h14 78 3 = h 78 3 := jK 0 f16 rg_78_3_0_1 (by omega) (by omega) (by decide)
            have q254 : h215 78 4 = h201 78 4 := by rw [← e217]; exact x_up_i (by omega)
            have q255 : h201 78 4 = h140 78 4 := jK 0 f203 rg_78_4_0_1 (by omega) (by omega) (by decide)
            have q256 : h140 78 4 = h86 78 4 := jK 0 f142 rg_78_4_0_1 (by omega) (by omega) (by decide)
            have q257 : h86 78 4 = h70 78 4 := by rw [← e88]; exact x_up_i (by omega)
            have q258 : h70 78 4 = h38 78 4 := jK 0 f72 rg_78_4_0_1 (by omega) (by omega) (by decide)
            have q259 : h38 78 4 = h14 78 4 := by rw [← e40]; exact x_up_i (by omega)
            have q260 : h14 78 4 = h 78 4 := jK 0 f16 rg_78_4_0_1 (by omega) (by omega) (by decide)
            have b261 := jB (e := 5) 0 hJ rg_78_5_0_1 (by omega) (by omega)
            have q262 : h215 78 5 = h201 78 5 := by rw [← e217]; exact x_up_i (by omega)
            have q263 : h201 78 5 = h140 78 5 := jK 0 f203 rg_78_5_0_1 (by omega) (by omega) (by decide)
            have q264 : h140 78 5 = h86 78 5 := jK 0 f142 rg_78_5_0_1 (by omega) (by omega) (by decide)
            have q265 : h86 78 5 = h70 78 5 := by rw [← e88]; exact x_up_i (by omega)
            have q266 : h70 78 5 = h38 78 5 := jK 0 f72 rg_78_5_0_1 (by omega) (by omega) (by decide)
            have q267 : h38 78 5 = h14 78 5 := by rw [← e40]; exact x_up_i (by omega)
            have q268 : h14 78 5 = h 78 5 := jK 0 f16 rg_78_5_0_1 (by omega) (by omega) (by decide)
            have w269 : ¬ Wd tB tN 10 (sk tB tN (h 75 7)) := by rw [← c21]; exact Wd.no (by decide) (Is.no c33 (by omega)) c22
            have q270 : h38 75 7 = h14 75 7 := by rw [← e40]; exact x_up_k (by decide)
            have q271 : h38 75 9 = h14 75 9 := by rw [← e40]; exact x_up_k (by decide)
            have c272 : Is (Wm tB 9 (h14 75 9) (h14 75 7)) v47 := by rw [show h14 75 9 = h38 75 9 by omega, show h14 75 7 = h38 75 7 by omega]; exact c52
            have y273 := Is.yes c272 (by omega)
            have w274 : Wd tB tN 9 (sk tB tN (h 75 7)) := by rw [← c21]; exact Wd.of' (by decide) y273 c22
            have e275 : sk tB tN (h14 75 7) = sk tB tN ((sk tB tN (h 75 7)) + iv_tl 9) := by rw [← c21, ← y273.1]
            have q276 : h38 75 7 = h14 75 7 := by rw [← e40]; exact x_up_k (by decide)
            have q277 : h86 75 7 = h70 75 7 := by rw [← e88]; exact x_up_k (by decide)
            obtain ⟨w278, e279⟩ := Tw.yes c146 (by omega)
            refine x_retI (np := 156) (x := 0) (by decide +kernel) (by decide) (Or.inr ⟨by decide +kernel, by omega, by omega⟩) ⟨_, rfl, (by decide), ?_⟩
            exact ⟨j216, f218, (by omega), (fun z => by omega), (fun z => by omega), (fun z => by omega), (fun z => by omega), (fun z => by omega), (fun z => by omega), (fun z => absurd z (by omega)), (Or.inr ⟨by omega, (or9.y w274 rfl e275 rfl (nm9.y c79 (by omega) (by omega) (congrArg (sk tB tN) (show h38 75 7 = h14 75 7 by omega)) (by omega) rfl (wd9.y w278 (congrArg (sk tB tN) (show h86 75 7 = h70 75 7 by omega)) e279 rfl (nm9.f c210 (by omega) (by omega) rfl (by omega) (by omega)))))⟩)⟩
          have q222 : ¬ (2147483648 = 2147483648) := q222
          exfalso; omega
        have q220 : ¬ (v197 < 2147483648) := q220
        have b280 := c206 (by omega)
        have b281 := c207 (by omega)
        have b282 := c208 (by omega)
        refine x_const (np := 12) (x := 9223372043297226753) (a := 2147483649) (by decide +kernel) (by decide) (by decide) ?_
        refine x_goto (np := 15) (x := 16) (by decide +kernel) ?_
        refine x_retI (np := 17) (x := 0) (by decide +kernel) (by decide) (Or.inr ⟨by decide +kernel, by omega, by omega⟩) ⟨_, rfl, (by decide), ?_⟩
        refine x_retI (np := 13) (x := 0) (by decide +kernel) (by decide) (Or.inr ⟨by decide +kernel, by omega, by omega⟩) ⟨_, rfl, (by decide), ?_⟩
        refine x_ifz (k := 0) (tg := 154) (np := 100) (by decide +kernel) (by decide) (by decide) (fun q283 => ?_) (fun q284 => ?_)
        · have q283 : 2147483649 = 2147483648 := q283
          exfalso; omega
        have q284 : ¬ (2147483649 = 2147483648) := q284
        refine x_aload (np := 101) (x := 0) (by decide +kernel) rfl (x_nc_le (by decide)) ?_
        refine x_ldcB (i := 11) (idx := 173) (tx := "judged") (by rw [tb_y184]; exact List.mem_of_getElem? (i := 50) rfl) (by decide) (by rw [tb_b184]; decide +kernel) ?_
        have m289 := Tq.fr m200 f203 (by decide) (by decide)
        have m288 : Tq tB tN h215 := by rw [← e217]; exact Tq.oth m289 (by decide) (fun z => absurd z.1 (by decide))
        refine x_cI (t := 6) (mj := 172) (n := 2) (rc := 12) (ml := 2) (nr := 0) (np := 106) (as := [x_r 75, x_b (11 + 1)]) (rest := []) (lo1 := [x_r 75, x_b (11 + 1)]) (by decide +kernel) (by decide) (by decide +kernel) (x_rb_of (by decide +kernel)) rfl rfl (x_wr (by decide) (x_wB (by decide) x_wn)) x_wn (by decide) rfl (c172_75_S0 j216  (by decide) m288) (fun v285 h290 l286 q287 => ?_)
        obtain ⟨j291, f292, b293, c294, c295, c296⟩ := q287
        have f297 := Fr.trans f218 f292 (by decide)
        have q298 : h215 75 7 = h201 75 7 := by rw [← e217]; exact x_up_k (by decide)
        have b299 := jB (e := 7) 0 j291 rg_75_7_0_1 (by omega) (by omega)
        have q300 : h215 75 7 = h201 75 7 := by rw [← e217]; exact x_up_k (by decide)
        refine x_ifz (k := 0) (tg := 154) (np := 109) (by decide +kernel) (by decide) l286 (fun q301 => ?_) (fun q302 => ?_)
        · have q301 : v285 = 2147483648 := q301
          refine x_const (np := 155) (x := 9223372039002259456) (a := 2147483648) (by decide +kernel) (by decide) (by decide) ?_
          have b303 := jB (e := 0) 0 hJ rg_78_0_0_1 (by omega) (by omega)
          have q304 : h290 78 0 = h215 78 0 := jK 0 f292 rg_78_0_0_1 (by omega) (by omega) (by decide)
          have q305 : h215 78 0 = h201 78 0 := by rw [← e217]; exact x_up_i (by omega)
          have q306 : h201 78 0 = h140 78 0 := jK 0 f203 rg_78_0_0_1 (by omega) (by omega) (by decide)
          have q307 : h140 78 0 = h86 78 0 := jK 0 f142 rg_78_0_0_1 (by omega) (by omega) (by decide)
          have q308 : h86 78 0 = h70 78 0 := by rw [← e88]; exact x_up_i (by omega)
          have q309 : h70 78 0 = h38 78 0 := jK 0 f72 rg_78_0_0_1 (by omega) (by omega) (by decide)
          have q310 : h38 78 0 = h14 78 0 := by rw [← e40]; exact x_up_i (by omega)
          have q311 : h14 78 0 = h 78 0 := jK 0 f16 rg_78_0_0_1 (by omega) (by omega) (by decide)
          have q312 : h290 78 1 = h215 78 1 := jK 0 f292 rg_78_1_0_1 (by omega) (by omega) (by decide)
          have q313 : h215 78 1 = h201 78 1 := by rw [← e217]; exact x_up_i (by omega)
          have q314 : h201 78 1 = h140 78 1 := jK 0 f203 rg_78_1_0_1 (by omega) (by omega) (by decide)
          have q315 : h140 78 1 = h86 78 1 := jK 0 f142 rg_78_1_0_1 (by omega) (by omega) (by decide)
          have q316 : h86 78 1 = h70 78 1 := by rw [← e88]; exact x_up_i (by omega)
          have q317 : h70 78 1 = h38 78 1 := jK 0 f72 rg_78_1_0_1 (by omega) (by omega) (by decide)
          have q318 : h38 78 1 = h14 78 1 := by rw [← e40]; exact x_up_i (by omega)
          have q319 : h14 78 1 = h 78 1 := jK 0 f16 rg_78_1_0_1 (by omega) (by omega) (by decide)
          have b320 := jB (e := 2) 0 hJ rg_78_2_0_1 (by omega) (by omega)
          have q321 : h290 78 2 = h215 78 2 := jK 0 f292 rg_78_2_0_1 (by omega) (by omega) (by decide)
          have q322 : h215 78 2 = h201 78 2 := by rw [← e217]; exact x_up_i (by omega)
          have q323 : h201 78 2 = h140 78 2 := jK 0 f203 rg_78_2_0_1 (by omega) (by omega) (by decide)
          have q324 : h140 78 2 = h86 78 2 := jK 0 f142 rg_78_2_0_1 (by omega) (by omega) (by decide)
          have q325 : h86 78 2 = h70 78 2 := by rw [← e88]; exact x_up_i (by omega)
          have q326 : h70 78 2 = h38 78 2 := jK 0 f72 rg_78_2_0_1 (by omega) (by omega) (by decide)
          have q327 : h38 78 2 = h14 78 2 := by rw [← e40]; exact x_up_i (by omega)
          have q328 : h14 78 2 = h 78 2 := jK 0 f16 rg_78_2_0_1 (by omega) (by omega) (by decide)
          have b329 := jB (e := 3) 0 hJ rg_78_3_0_1 (by omega) (by omega)
          have q330 : h290 78 3 = h215 78 3 := jK 0 f292 rg_78_3_0_1 (by omega) (by omega) (by decide)
          have q331 : h215 78 3 = h201 78 3 := by rw [← e217]; exact x_up_i (by omega)
          have q332 : h201 78 3 = h140 78 3 := jK 0 f203 rg_78_3_0_1 (by omega) (by omega) (by decide)
          have q333 : h140 78 3 = h86 78 3 := jK 0 f142 rg_78_3_0_1 (by omega) (by omega) (by decide)
          have q334 : h86 78 3 = h70 78 3 := by rw [← e88]; exact x_up_i (by omega)
          have q335 : h70 78 3 = h38 78 3 := jK 0 f72 rg_78_3_0_1 (by omega) (by omega) (by decide)
          have q336 : h38 78 3 = h14 78 3 := by rw [← e40]; exact x_up_i (by omega)
          have q337 : h14 78 3 = h 78 3 := jK 0 f16 rg_78_3_0_1 (by omega) (by omega) (by decide)
          have q338 : h290 78 4 = h215 78 4 := jK 0 f292 rg_78_4_0_1 (by omega) (by omega) (by decide)
          have q339 : h215 78 4 = h201 78 4 := by rw [← e217]; exact x_up_i (by omega)
          have q340 : h201 78 4 = h140 78 4 := jK 0 f203 rg_78_4_0_1 (by omega) (by omega) (by decide)
          have q341 : h140 78 4 = h86 78 4 := jK 0 f142 rg_78_4_0_1 (by omega) (by omega) (by decide)
          have q342 : h86 78 4 = h70 78 4 := by rw [← e88]; exact x_up_i (by omega)
          have q343 : h70 78 4 = h38 78 4 := jK 0 f72 rg_78_4_0_1 (by omega) (by omega) (by decide)
          have q344 : h38 78 4 = h14 78 4 := by rw [← e40]; exact x_up_i (by omega)
          have q345 : h14 78 4 = h 78 4 := jK 0 f16 rg_78_4_0_1 (by omega) (by omega) (by decide)
          have b346 := jB (e := 5) 0 hJ rg_78_5_0_1 (by omega) (by omega)
          have q347 : h290 78 5 = h215 78 5 := jK 0 f292 rg_78_5_0_1 (by omega) (by omega) (by decide)
          have q348 : h215 78 5 = h201 78 5 := by rw [← e217]; exact x_up_i (by omega)
          have q349 : h201 78 5 = h140 78 5 := jK 0 f203 rg_78_5_0_1 (by omega) (by omega) (by decide)
          have q350 : h140 78 5 = h86 78 5 := jK 0 f142 rg_78_5_0_1 (by omega) (by omega) (by decide)
          have q351 : h86 78 5 = h70 78 5 := by rw [← e88]; exact x_up_i (by omega)
          have q352 : h70 78 5 = h38 78 5 := jK 0 f72 rg_78_5_0_1 (by omega) (by omega) (by decide)
          have q353 : h38 78 5 = h14 78 5 := by rw [← e40]; exact x_up_i (by omega)
          have q354 : h14 78 5 = h 78 5 := jK 0 f16 rg_78_5_0_1 (by omega) (by omega) (by decide)
          have w355 : ¬ Wd tB tN 10 (sk tB tN (h 75 7)) := by rw [← c21]; exact Wd.no (by decide) (Is.no c33 (by omega)) c22
          have q356 : h38 75 7 = h14 75 7 := by rw [← e40]; exact x_up_k (by decide)
          have q357 : h38 75 9 = h14 75 9 := by rw [← e40]; exact x_up_k (by decide)
          have c358 : Is (Wm tB 9 (h14 75 9) (h14 75 7)) v47 := by rw [show h14 75 9 = h38 75 9 by omega, show h14 75 7 = h38 75 7 by omega]; exact c52
          have y359 := Is.yes c358 (by omega)
          have w360 : Wd tB tN 9 (sk tB tN (h 75 7)) := by rw [← c21]; exact Wd.of' (by decide) y359 c22
          have e361 : sk tB tN (h14 75 7) = sk tB tN ((sk tB tN (h 75 7)) + iv_tl 9) := by rw [← c21, ← y359.1]
          have q362 : h38 75 7 = h14 75 7 := by rw [← e40]; exact x_up_k (by decide)
          have q363 : h86 75 7 = h70 75 7 := by rw [← e88]; exact x_up_k (by decide)
          obtain ⟨w364, e365⟩ := Tw.yes c146 (by omega)
          have q366 : h215 75 7 = h201 75 7 := by rw [← e217]; exact x_up_k (by decide)
          refine x_retI (np := 156) (x := 0) (by decide +kernel) (by decide) (Or.inr ⟨by decide +kernel, by omega, by omega⟩) ⟨_, rfl, (by decide), ?_⟩
          exact ⟨j291, f297, (by omega), (fun z => by omega), (fun z => by omega), (fun z => by omega), (fun z => by omega), (fun z => by omega), (fun z => by omega), (fun z => absurd z (by omega)), (Or.inr ⟨by omega, (or9.y w360 rfl e361 rfl (nm9.y c79 (by omega) (by omega) (congrArg (sk tB tN) (show h38 75 7 = h14 75 7 by omega)) (by omega) rfl (wd9.y w364 (congrArg (sk tB tN) (show h86 75 7 = h70 75 7 by omega)) e365 rfl (nm9.y c210 (by omega) (by omega) rfl (by omega) rfl (wd9.f (Tw.no c296 (by omega)) (congrArg (sk tB tN) (show h215 75 7 = h201 75 7 by omega)) (by omega))))))⟩)⟩
        have q302 : ¬ (v285 = 2147483648) := q302
        have b367 := c295 (by omega)
        refine x_aload (np := 110) (x := 0) (by decide +kernel) rfl (x_nc_le (by decide)) ?_
        refine x_iload (np := 111) (x := 1) (by decide +kernel) rfl (by omega) ?_
        refine x_const (np := 112) (x := 9223372051887161347) (a := 2147483651) (by decide +kernel) (by decide) (by decide) ?_
        refine x_iadd (np := 113) (x := 0) (v := (2147483851 + 5 * u8)) (by decide +kernel) (by omega) (by decide) (by omega) (by omega) ?_
        refine x_aload (np := 114) (x := 0) (by decide +kernel) rfl (x_nc_le (by decide)) ?_
        have q368 : h290 75 3 = 78 := by have z := jB (e := 3) 0 j291 rg_75_3_0_1 (by decide) (by decide); omega
        refine x_getR (np := 117) (x := 707) (f := 3) (q := 78) (by decide +kernel) (by decide) (by decide +kernel) q368 ?_
        refine x_iload (np := 118) (x := 1) (by decide +kernel) rfl (by omega) ?_
        refine x_const (np := 119) (x := 9223372047592194050) (a := 2147483650) (by decide +kernel) (by decide) (by decide) ?_
        refine x_iadd (np := 120) (x := 0) (v := (2147483850 + 5 * u8)) (by decide +kernel) (by omega) (by decide) (by omega) (by omega) ?_
        have q369 : h290 78 (202 + 5 * u8) = h215 78 (202 + 5 * u8) := jK u8 f292 rg_78_202_5_10 (by omega) (by omega) (by decide)
        have q370 : h215 78 (202 + 5 * u8) = v197 := by rw [← e217]; exact x_up_at
        refine x_aldC (np := 121) (x := 0) (n := 290) (i := (202 + 5 * u8)) (q := v197) (by decide +kernel) (by decide +kernel) (by omega) (by omega) (by decide) (q369.trans q370) (fun l371 => ?_)
        refine x_nI (t := 6) (mj := 178) (n := 3) (rc := 12) (ml := 3) (nr := 0) (np := 124) (as := [x_r 75, iv_c (2147483851 + 5 * u8), iv_c v197]) (rest := []) (lo1 := [x_r 75, iv_c (2147483851 + 5 * u8), iv_c v197]) (by decide +kernel) (by decide) (by decide +kernel) (x_rb_of (by decide +kernel)) rfl rfl (x_wr (by decide) (x_wi (by omega) (x_wi l198 x_wn))) x_wn (by decide) rfl ?_
        refine x_aload (np := 1) (x := 0) (by decide +kernel) rfl (x_nc_le (by decide)) ?_
        refine x_iload (np := 2) (x := 1) (by decide +kernel) rfl (by omega) ?_
        refine x_aload (np := 3) (x := 0) (by decide +kernel) rfl (x_nc_le (by decide)) ?_
        refine x_iload (np := 4) (x := 2) (by decide +kernel) rfl l198 ?_
        refine x_const (np := 6) (x := 9223372086246899723) (a := 2147483659) (by decide +kernel) (by decide) (by decide) ?_
        have m375 := Tq.fr m288 f292 (by decide) (by decide)
        refine x_cI (t := 6) (mj := 174) (n := 3) (rc := 12) (ml := 4) (nr := 2) (np := 9) (as := [x_r 75, iv_c v197, iv_c 2147483659]) (rest := [iv_c (2147483851 + 5 * u8), x_r 75]) (lo1 := [x_r 75, iv_c v197, iv_c 2147483659, 147573952589676412928]) (by decide +kernel) (by decide) (by decide +kernel) (x_rb_of (by decide +kernel)) rfl rfl (x_wr (by decide) (x_wi l198 (x_wi (by decide) x_wn))) (x_wi (by omega) (x_wr (by decide) x_wn)) (by decide) rfl (c174_75 j291  (by omega) (by omega) m375) (fun v372 h376 l373 q374 => ?_)
        obtain ⟨j377, f378, b379, c380, c381, c382, c383, c384, c385⟩ := q374
        have f386 := Fr.trans f297 f378 (by decide)
        have b387 := jB (e := 7) 0 j377 rg_75_7_0_1 (by omega) (by omega)
        have b388 := c384 (by omega)
        refine x_nI (t := 6) (mj := 176) (n := 3) (rc := 12) (ml := 3) (nr := 0) (np := 12) (as := [x_r 75, iv_c (2147483851 + 5 * u8), iv_c v372]) (rest := []) (lo1 := [x_r 75, iv_c (2147483851 + 5 * u8), iv_c v372]) (by decide +kernel) (by decide) (by decide +kernel) (x_rb_of (by decide +kernel)) rfl rfl (x_wr (by decide) (x_wi (by omega) (x_wi l373 x_wn))) x_wn (by decide) rfl ?_
        refine x_aload (np := 1) (x := 0) (by decide +kernel) rfl (x_nc_le (by decide)) ?_
        have q389 : h376 75 3 = 78 := by have z := jB (e := 3) 0 j377 rg_75_3_0_1 (by decide) (by decide); omega
        refine x_getR (np := 4) (x := 707) (f := 3) (q := 78) (by decide +kernel) (by decide) (by decide +kernel) q389 ?_
        refine x_iload (np := 5) (x := 1) (by decide +kernel) rfl (by omega) ?_
        refine x_iload (np := 6) (x := 2) (by decide +kernel) rfl l373 ?_
        refine x_ast (np := 7) (x := 0) (kd := 1) (n := 290) (i := (203 + 5 * u8)) (by decide +kernel) (Or.inl rfl) (by decide +kernel) (by omega) (by omega) (by decide) l373 (fun z => absurd z (by decide)) ?_
        have j391 := jU (e := (203 + 5 * u8)) (v := v372) u8 j377 rg_78_203_5_10 (by omega) (by omega) (by omega)
        have f393 := jF (e := (203 + 5 * u8)) (v := v372) u8 f386 rg_78_203_5_10 (by omega) (by omega) (by decide)
        generalize e392 : x_up h376 78 (203 + 5 * u8) v372 = h390 at j391 f393 ⊢
        refine x_iload (np := 8) (x := 2) (by decide +kernel) rfl l373 ?_
        refine x_ifz (k := 2) (tg := 15) (np := 11) (by decide +kernel) (by decide) l373 (fun q394 => ?_) (fun q395 => ?_)
        · have q394 : v372 < 2147483648 := q394
          refine x_const (np := 16) (x := 9223372039002259456) (a := 2147483648) (by decide +kernel) (by decide) (by decide) ?_
          refine x_retI (np := 17) (x := 0) (by decide +kernel) (by decide) (Or.inr ⟨by decide +kernel, by omega, by omega⟩) ⟨_, rfl, (by decide), ?_⟩
          refine x_retI (np := 13) (x := 0) (by decide +kernel) (by decide) (Or.inr ⟨by decide +kernel, by omega, by omega⟩) ⟨_, rfl, (by decide), ?_⟩
          refine x_ifz (k := 0) (tg := 154) (np := 127) (by decide +kernel) (by decide) (by decide) (fun q396 => ?_) (fun q397 => ?_)
          · have q396 : 2147483648 = 2147483648 := q396
            refine x_const (np := 155) (x := 9223372039002259456) (a := 2147483648) (by decide +kernel) (by decide) (by decide) ?_
            have b398 := jB (e := 0) 0 hJ rg_78_0_0_1 (by omega) (by omega)
            have q399 : h390 78 0 = h376 78 0 := by rw [← e392]; exact x_up_i (by omega)
            have q400 : h376 78 0 = h290 78 0 := jK 0 f378 rg_78_0_0_1 (by omega) (by omega) (by decide)
            have q401 : h290 78 0 = h215 78 0 := jK 0 f292 rg_78_0_0_1 (by omega) (by omega) (by decide)
            have q402 : h215 78 0 = h201 78 0 := by rw [← e217]; exact x_up_i (by omega)
            have q403 : h201 78 0 = h140 78 0 := jK 0 f203 rg_78_0_0_1 (by omega) (by omega) (by decide)
            have q404 : h140 78 0 = h86 78 0 := jK 0 f142 rg_78_0_0_1 (by omega) (by omega) (by decide)
            have q405 : h86 78 0 = h70 78 0 := by rw [← e88]; exact x_up_i (by omega)
            have q406 : h70 78 0 = h38 78 0 := jK 0 f72 rg_78_0_0_1 (by omega) (by omega) (by decide)
            have q407 : h38 78 0 = h14 78 0 := by rw [← e40]; exact x_up_i (by omega)
            have q408 : h14 78 0 = h 78 0 := jK 0 f16 rg_78_0_0_1 (by omega) (by omega) (by decide)
            have q409 : h390 78 1 = h376 78 1 := by rw [← e392]; exact x_up_i (by omega)
            have q410 : h376 78 1 = h290 78 1 := jK 0 f378 rg_78_1_0_1 (by omega) (by omega) (by decide)
            have q411 : h290 78 1 = h215 78 1 := jK 0 f292 rg_78_1_0_1 (by omega) (by omega) (by decide)
            have q412 : h215 78 1 = h201 78 1 := by rw [← e217]; exact x_up_i (by omega)
            have q413 : h201 78 1 = h140 78 1 := jK 0 f203 rg_78_1_0_1 (by omega) (by omega) (by decide)
            have q414 : h140 78 1 = h86 78 1 := jK 0 f142 rg_78_1_0_1 (by omega) (by omega) (by decide)
            have q415 : h86 78 1 = h70 78 1 := by rw [← e88]; exact x_up_i (by omega)
            have q416 : h70 78 1 = h38 78 1 := jK 0 f72 rg_78_1_0_1 (by omega) (by omega) (by decide)
            have q417 : h38 78 1 = h14 78 1 := by rw [← e40]; exact x_up_i (by omega)
            have q418 : h14 78 1 = h 78 1 := jK 0 f16 rg_78_1_0_1 (by omega) (by omega) (by decide)
            have b419 := jB (e := 2) 0 hJ rg_78_2_0_1 (by omega) (by omega)
            have q420 : h390 78 2 = h376 78 2 := by rw [← e392]; exact x_up_i (by omega)
            have q421 : h376 78 2 = h290 78 2 := jK 0 f378 rg_78_2_0_1 (by omega) (by omega) (by decide)
            have q422 : h290 78 2 = h215 78 2 := jK 0 f292 rg_78_2_0_1 (by omega) (by omega) (by decide)
            have q423 : h215 78 2 = h201 78 2 := by rw [← e217]; exact x_up_i (by omega)
            have q424 : h201 78 2 = h140 78 2 := jK 0 f203 rg_78_2_0_1 (by omega) (by omega) (by decide)
            have q425 : h140 78 2 = h86 78 2 := jK 0 f142 rg_78_2_0_1 (by omega) (by omega) (by decide)
            have q426 : h86 78 2 = h70 78 2 := by rw [← e88]; exact x_up_i (by omega)
            have q427 : h70 78 2 = h38 78 2 := jK 0 f72 rg_78_2_0_1 (by omega) (by omega) (by decide)
            have q428 : h38 78 2 = h14 78 2 := by rw [← e40]; exact x_up_i (by omega)
            have q429 : h14 78 2 = h 78 2 := jK 0 f16 rg_78_2_0_1 (by omega) (by omega) (by decide)
            have b430 := jB (e := 3) 0 hJ rg_78_3_0_1 (by omega) (by omega)
            have q431 : h390 78 3 = h376 78 3 := by rw [← e392]; exact x_up_i (by omega)
            have q432 : h376 78 3 = h290 78 3 := jK 0 f378 rg_78_3_0_1 (by omega) (by omega) (by decide)
            have q433 : h290 78 3 = h215 78 3 := jK 0 f292 rg_78_3_0_1 (by omega) (by omega) (by decide)
            have q434 : h215 78 3 = h201 78 3 := by rw [← e217]; exact x_up_i (by omega)
            have q435 : h201 78 3 = h140 78 3 := jK 0 f203 rg_78_3_0_1 (by omega) (by omega) (by decide)
            have q436 : h140 78 3 = h86 78 3 := jK 0 f142 rg_78_3_0_1 (by omega) (by omega) (by decide)
            have q437 : h86 78 3 = h70 78 3 := by rw [← e88]; exact x_up_i (by omega)
            have q438 : h70 78 3 = h38 78 3 := jK 0 f72 rg_78_3_0_1 (by omega) (by omega) (by decide)
            have q439 : h38 78 3 = h14 78 3 := by rw [← e40]; exact x_up_i (by omega)
            have q440 : h14 78 3 = h 78 3 := jK 0 f16 rg_78_3_0_1 (by omega) (by omega) (by decide)
            have q441 : h390 78 4 = h376 78 4 := by rw [← e392]; exact x_up_i (by omega)
            have q442 : h376 78 4 = h290 78 4 := jK 0 f378 rg_78_4_0_1 (by omega) (by omega) (by decide)
            have q443 : h290 78 4 = h215 78 4 := jK 0 f292 rg_78_4_0_1 (by omega) (by omega) (by decide)
            have q444 : h215 78 4 = h201 78 4 := by rw [← e217]; exact x_up_i (by omega)
            have q445 : h201 78 4 = h140 78 4 := jK 0 f203 rg_78_4_0_1 (by omega) (by omega) (by decide)
            have q446 : h140 78 4 = h86 78 4 := jK 0 f142 rg_78_4_0_1 (by omega) (by omega) (by decide)
            have q447 : h86 78 4 = h70 78 4 := by rw [← e88]; exact x_up_i (by omega)
            have q448 : h70 78 4 = h38 78 4 := jK 0 f72 rg_78_4_0_1 (by omega) (by omega) (by decide)
            have q449 : h38 78 4 = h14 78 4 := by rw [← e40]; exact x_up_i (by omega)
            have q450 : h14 78 4 = h 78 4 := jK 0 f16 rg_78_4_0_1 (by omega) (by omega) (by decide)
            have b451 := jB (e := 5) 0 hJ rg_78_5_0_1 (by omega) (by omega)
            have q452 : h390 78 5 = h376 78 5 := by rw [← e392]; exact x_up_i (by omega)
            have q453 : h376 78 5 = h290 78 5 := jK 0 f378 rg_78_5_0_1 (by omega) (by omega) (by decide)
            have q454 : h290 78 5 = h215 78 5 := jK 0 f292 rg_78_5_0_1 (by omega) (by omega) (by decide)
            have q455 : h215 78 5 = h201 78 5 := by rw [← e217]; exact x_up_i (by omega)
            have q456 : h201 78 5 = h140 78 5 := jK 0 f203 rg_78_5_0_1 (by omega) (by omega) (by decide)
            have q457 : h140 78 5 = h86 78 5 := jK 0 f142 rg_78_5_0_1 (by omega) (by omega) (by decide)
            have q458 : h86 78 5 = h70 78 5 := by rw [← e88]; exact x_up_i (by omega)
            have q459 : h70 78 5 = h38 78 5 := jK 0 f72 rg_78_5_0_1 (by omega) (by omega) (by decide)
            have q460 : h38 78 5 = h14 78 5 := by rw [← e40]; exact x_up_i (by omega)
            have q461 : h14 78 5 = h 78 5 := jK 0 f16 rg_78_5_0_1 (by omega) (by omega) (by decide)
            have w462 : ¬ Wd tB tN 10 (sk tB tN (h 75 7)) := by rw [← c21]; exact Wd.no (by decide) (Is.no c33 (by omega)) c22
            have q463 : h38 75 7 = h14 75 7 := by rw [← e40]; exact x_up_k (by decide)
            have q464 : h38 75 9 = h14 75 9 := by rw [← e40]; exact x_up_k (by decide)
            have c465 : Is (Wm tB 9 (h14 75 9) (h14 75 7)) v47 := by rw [show h14 75 9 = h38 75 9 by omega, show h14 75 7 = h38 75 7 by omega]; exact c52
            have y466 := Is.yes c465 (by omega)
            have w467 : Wd tB tN 9 (sk tB tN (h 75 7)) := by rw [← c21]; exact Wd.of' (by decide) y466 c22
            have e468 : sk tB tN (h14 75 7) = sk tB tN ((sk tB tN (h 75 7)) + iv_tl 9) := by rw [← c21, ← y466.1]
            have q469 : h38 75 7 = h14 75 7 := by rw [← e40]; exact x_up_k (by decide)
            have q470 : h86 75 7 = h70 75 7 := by rw [← e88]; exact x_up_k (by decide)
            obtain ⟨w471, e472⟩ := Tw.yes c146 (by omega)
            have q473 : h215 75 7 = h201 75 7 := by rw [← e217]; exact x_up_k (by decide)
            obtain ⟨w474, e475⟩ := Tw.yes c296 (by omega)
            refine x_retI (np := 156) (x := 0) (by decide +kernel) (by decide) (Or.inr ⟨by decide +kernel, by omega, by omega⟩) ⟨_, rfl, (by decide), ?_⟩
            exact ⟨j391, f393, (by omega), (fun z => by omega), (fun z => by omega), (fun z => by omega), (fun z => by omega), (fun z => by omega), (fun z => by omega), (fun z => absurd z (by omega)), (Or.inr ⟨by omega, (or9.y w467 rfl e468 rfl (nm9.y c79 (by omega) (by omega) (congrArg (sk tB tN) (show h38 75 7 = h14 75 7 by omega)) (by omega) rfl (wd9.y w471 (congrArg (sk tB tN) (show h86 75 7 = h70 75 7 by omega)) e472 rfl (nm9.y c210 (by omega) (by omega) rfl (by omega) rfl (wd9.y w474 (congrArg (sk tB tN) (show h215 75 7 = h201 75 7 by omega)) e475 rfl (nm9.f c385 (by omega) (by omega) rfl (by omega) (by omega)))))))⟩)⟩
          have q397 : ¬ (2147483648 = 2147483648) := q397
          exfalso; omega
        have q395 : ¬ (v372 < 2147483648) := q395
        have b476 := c381 (by omega)
        have b477 := c382 (by omega)
        have b478 := c383 (by omega)
        refine x_const (np := 12) (x := 9223372043297226753) (a := 2147483649) (by decide +kernel) (by decide) (by decide) ?_
        refine x_goto (np := 15) (x := 16) (by decide +kernel) ?_
        refine x_retI (np := 17) (x := 0) (by decide +kernel) (by decide) (Or.inr ⟨by decide +kernel, by omega, by omega⟩) ⟨_, rfl, (by decide), ?_⟩
        refine x_retI (np := 13) (x := 0) (by decide +kernel) (by decide) (Or.inr ⟨by decide +kernel, by omega, by omega⟩) ⟨_, rfl, (by decide), ?_⟩
        refine x_ifz (k := 0) (tg := 154) (np := 127) (by decide +kernel) (by decide) (by decide) (fun q479 => ?_) (fun q480 => ?_)
        · have q479 : 2147483649 = 2147483648 := q479
          exfalso; omega
        have q480 : ¬ (2147483649 = 2147483648) := q480
        refine x_aload (np := 128) (x := 0) (by decide +kernel) rfl (x_nc_le (by decide)) ?_
        refine x_ldcB (i := 12) (idx := 175) (tx := "of") (by rw [tb_y184]; exact List.mem_of_getElem? (i := 51) rfl) (by decide) (by rw [tb_b184]; decide +kernel) ?_
        have m485 := Tq.fr m375 f378 (by decide) (by decide)
        have m484 : Tq tB tN h390 := by rw [← e392]; exact Tq.oth m485 (by decide) (fun z => absurd z.1 (by decide))
        refine x_cI (t := 6) (mj := 172) (n := 2) (rc := 12) (ml := 2) (nr := 0) (np := 133) (as := [x_r 75, x_b (12 + 1)]) (rest := []) (lo1 := [x_r 75, x_b (12 + 1)]) (by decide +kernel) (by decide) (by decide +kernel) (x_rb_of (by decide +kernel)) rfl rfl (x_wr (by decide) (x_wB (by decide) x_wn)) x_wn (by decide) rfl (c172_75_S0 j391  (by decide) m484) (fun v481 h486 l482 q483 => ?_)
        obtain ⟨j487, f488, b489, c490, c491, c492⟩ := q483
        have f493 := Fr.trans f393 f488 (by decide)
        have q494 : h390 75 7 = h376 75 7 := by rw [← e392]; exact x_up_k (by decide)
        have b495 := jB (e := 7) 0 j487 rg_75_7_0_1 (by omega) (by omega)
        have q496 : h390 75 7 = h376 75 7 := by rw [← e392]; exact x_up_k (by decide)
        refine x_ifz (k := 0) (tg := 154) (np := 136) (by decide +kernel) (by decide) l482 (fun q497 => ?_) (fun q498 => ?_)
        · have q497 : v481 = 2147483648 := q497
          refine x_const (np := 155) (x := 9223372039002259456) (a := 2147483648) (by decide +kernel) (by decide) (by decide) ?_
          have b499 := jB (e := 0) 0 hJ rg_78_0_0_1 (by omega) (by omega)
          have q500 : h486 78 0 = h390 78 0 := jK 0 f488 rg_78_0_0_1 (by omega) (by omega) (by decide)
          have q501 : h390 78 0 = h376 78 0 := by rw [← e392]; exact x_up_i (by omega)
          have q502 : h376 78 0 = h290 78 0 := jK 0 f378 rg_78_0_0_1 (by omega) (by omega) (by decide)
          have q503 : h290 78 0 = h215 78 0 := jK 0 f292 rg_78_0_0_1 (by omega) (by omega) (by decide)
          have q504 : h215 78 0 = h201 78 0 := by rw [← e217]; exact x_up_i (by omega)
          have q505 : h201 78 0 = h140 78 0 := jK 0 f203 rg_78_0_0_1 (by omega) (by omega) (by decide)
          have q506 : h140 78 0 = h86 78 0 := jK 0 f142 rg_78_0_0_1 (by omega) (by omega) (by decide)
          have q507 : h86 78 0 = h70 78 0 := by rw [← e88]; exact x_up_i (by omega)
          have q508 : h70 78 0 = h38 78 0 := jK 0 f72 rg_78_0_0_1 (by omega) (by omega) (by decide)
          have q509 : h38 78 0 = h14 78 0 := by rw [← e40]; exact x_up_i (by omega)
          have q510 : h14 78 0 = h 78 0 := jK 0 f16 rg_78_0_0_1 (by omega) (by omega) (by decide)
          have q511 : h486 78 1 = h390 78 1 := jK 0 f488 rg_78_1_0_1 (by omega) (by omega) (by decide)
          have q512 : h390 78 1 = h376 78 1 := by rw [← e392]; exact x_up_i (by omega)
          have q513 : h376 78 1 = h290 78 1 := jK 0 f378 rg_78_1_0_1 (by omega) (by omega) (by decide)
          have q514 : h290 78 1 = h215 78 1 := jK 0 f292 rg_78_1_0_1 (by omega) (by omega) (by decide)
          have q515 : h215 78 1 = h201 78 1 := by rw [← e217]; exact x_up_i (by omega)
          have q516 : h201 78 1 = h140 78 1 := jK 0 f203 rg_78_1_0_1 (by omega) (by omega) (by decide)
          have q517 : h140 78 1 = h86 78 1 := jK 0 f142 rg_78_1_0_1 (by omega) (by omega) (by decide)
          have q518 : h86 78 1 = h70 78 1 := by rw [← e88]; exact x_up_i (by omega)
          have q519 : h70 78 1 = h38 78 1 := jK 0 f72 rg_78_1_0_1 (by omega) (by omega) (by decide)
          have q520 : h38 78 1 = h14 78 1 := by rw [← e40]; exact x_up_i (by omega)
          have q521 : h14 78 1 = h 78 1 := jK 0 f16 rg_78_1_0_1 (by omega) (by omega) (by decide)
          have b522 := jB (e := 2) 0 hJ rg_78_2_0_1 (by omega) (by omega)
          have q523 : h486 78 2 = h390 78 2 := jK 0 f488 rg_78_2_0_1 (by omega) (by omega) (by decide)
          have q524 : h390 78 2 = h376 78 2 := by rw [← e392]; exact x_up_i (by omega)
          have q525 : h376 78 2 = h290 78 2 := jK 0 f378 rg_78_2_0_1 (by omega) (by omega) (by decide)
          have q526 : h290 78 2 = h215 78 2 := jK 0 f292 rg_78_2_0_1 (by omega) (by omega) (by decide)
          have q527 : h215 78 2 = h201 78 2 := by rw [← e217]; exact x_up_i (by omega)
          have q528 : h201 78 2 = h140 78 2 := jK 0 f203 rg_78_2_0_1 (by omega) (by omega) (by decide)
          have q529 : h140 78 2 = h86 78 2 := jK 0 f142 rg_78_2_0_1 (by omega) (by omega) (by decide)
          have q530 : h86 78 2 = h70 78 2 := by rw [← e88]; exact x_up_i (by omega)
          have q531 : h70 78 2 = h38 78 2 := jK 0 f72 rg_78_2_0_1 (by omega) (by omega) (by decide)
          have q532 : h38 78 2 = h14 78 2 := by rw [← e40]; exact x_up_i (by omega)
          have q533 : h14 78 2 = h 78 2 := jK 0 f16 rg_78_2_0_1 (by omega) (by omega) (by decide)
          have b534 := jB (e := 3) 0 hJ rg_78_3_0_1 (by omega) (by omega)
          have q535 : h486 78 3 = h390 78 3 := jK 0 f488 rg_78_3_0_1 (by omega) (by omega) (by decide)
          have q536 : h390 78 3 = h376 78 3 := by rw [← e392]; exact x_up_i (by omega)
          have q537 : h376 78 3 = h290 78 3 := jK 0 f378 rg_78_3_0_1 (by omega) (by omega) (by decide)
          have q538 : h290 78 3 = h215 78 3 := jK 0 f292 rg_78_3_0_1 (by omega) (by omega) (by decide)
          have q539 : h215 78 3 = h201 78 3 := by rw [← e217]; exact x_up_i (by omega)
          have q540 : h201 78 3 = h140 78 3 := jK 0 f203 rg_78_3_0_1 (by omega) (by omega) (by decide)
          have q541 : h140 78 3 = h86 78 3 := jK 0 f142 rg_78_3_0_1 (by omega) (by omega) (by decide)
          have q542 : h86 78 3 = h70 78 3 := by rw [← e88]; exact x_up_i (by omega)
          have q543 : h70 78 3 = h38 78 3 := jK 0 f72 rg_78_3_0_1 (by omega) (by omega) (by decide)
          have q544 : h38 78 3 = h14 78 3 := by rw [← e40]; exact x_up_i (by omega)
          have q545 : h14 78 3 = h 78 3 := jK 0 f16 rg_78_3_0_1 (by omega) (by omega) (by decide)
          have q546 : h486 78 4 = h390 78 4 := jK 0 f488 rg_78_4_0_1 (by omega) (by omega) (by decide)
          have q547 : h390 78 4 = h376 78 4 := by rw [← e392]; exact x_up_i (by omega)
          have q548 : h376 78 4 = h290 78 4 := jK 0 f378 rg_78_4_0_1 (by omega) (by omega) (by decide)
          have q549 : h290 78 4 = h215 78 4 := jK 0 f292 rg_78_4_0_1 (by omega) (by omega) (by decide)
          have q550 : h215 78 4 = h201 78 4 := by rw [← e217]; exact x_up_i (by omega)
          have q551 : h201 78 4 = h140 78 4 := jK 0 f203 rg_78_4_0_1 (by omega) (by omega) (by decide)
          have q552 : h140 78 4 = h86 78 4 := jK 0 f142 rg_78_4_0_1 (by omega) (by omega) (by decide)
          have q553 : h86 78 4 = h70 78 4 := by rw [← e88]; exact x_up_i (by omega)
          have q554 : h70 78 4 = h38 78 4 := jK 0 f72 rg_78_4_0_1 (by omega) (by omega) (by decide)
          have q555 : h38 78 4 = h14 78 4 := by rw [← e40]; exact x_up_i (by omega)
          have q556 : h14 78 4 = h 78 4 := jK 0 f16 rg_78_4_0_1 (by omega) (by omega) (by decide)
          have b557 := jB (e := 5) 0 hJ rg_78_5_0_1 (by omega) (by omega)
          have q558 : h486 78 5 = h390 78 5 := jK 0 f488 rg_78_5_0_1 (by omega) (by omega) (by decide)
          have q559 : h390 78 5 = h376 78 5 := by rw [← e392]; exact x_up_i (by omega)
          have q560 : h376 78 5 = h290 78 5 := jK 0 f378 rg_78_5_0_1 (by omega) (by omega) (by decide)
          have q561 : h290 78 5 = h215 78 5 := jK 0 f292 rg_78_5_0_1 (by omega) (by omega) (by decide)
          have q562 : h215 78 5 = h201 78 5 := by rw [← e217]; exact x_up_i (by omega)
          have q563 : h201 78 5 = h140 78 5 := jK 0 f203 rg_78_5_0_1 (by omega) (by omega) (by decide)
          have q564 : h140 78 5 = h86 78 5 := jK 0 f142 rg_78_5_0_1 (by omega) (by omega) (by decide)
          have q565 : h86 78 5 = h70 78 5 := by rw [← e88]; exact x_up_i (by omega)
          have q566 : h70 78 5 = h38 78 5 := jK 0 f72 rg_78_5_0_1 (by omega) (by omega) (by decide)
          have q567 : h38 78 5 = h14 78 5 := by rw [← e40]; exact x_up_i (by omega)
          have q568 : h14 78 5 = h 78 5 := jK 0 f16 rg_78_5_0_1 (by omega) (by omega) (by decide)
          have w569 : ¬ Wd tB tN 10 (sk tB tN (h 75 7)) := by rw [← c21]; exact Wd.no (by decide) (Is.no c33 (by omega)) c22
          have q570 : h38 75 7 = h14 75 7 := by rw [← e40]; exact x_up_k (by decide)
          have q571 : h38 75 9 = h14 75 9 := by rw [← e40]; exact x_up_k (by decide)
          have c572 : Is (Wm tB 9 (h14 75 9) (h14 75 7)) v47 := by rw [show h14 75 9 = h38 75 9 by omega, show h14 75 7 = h38 75 7 by omega]; exact c52
          have y573 := Is.yes c572 (by omega)
          have w574 : Wd tB tN 9 (sk tB tN (h 75 7)) := by rw [← c21]; exact Wd.of' (by decide) y573 c22
          have e575 : sk tB tN (h14 75 7) = sk tB tN ((sk tB tN (h 75 7)) + iv_tl 9) := by rw [← c21, ← y573.1]
          have q576 : h38 75 7 = h14 75 7 := by rw [← e40]; exact x_up_k (by decide)
          have q577 : h86 75 7 = h70 75 7 := by rw [← e88]; exact x_up_k (by decide)
          obtain ⟨w578, e579⟩ := Tw.yes c146 (by omega)
          have q580 : h215 75 7 = h201 75 7 := by rw [← e217]; exact x_up_k (by decide)
          obtain ⟨w581, e582⟩ := Tw.yes c296 (by omega)
          have q583 : h390 75 7 = h376 75 7 := by rw [← e392]; exact x_up_k (by decide)
          refine x_retI (np := 156) (x := 0) (by decide +kernel) (by decide) (Or.inr ⟨by decide +kernel, by omega, by omega⟩) ⟨_, rfl, (by decide), ?_⟩
          exact ⟨j487, f493, (by omega), (fun z => by omega), (fun z => by omega), (fun z => by omega), (fun z => by omega), (fun z => by omega), (fun z => by omega), (fun z => absurd z (by omega)), (Or.inr ⟨by omega, (or9.y w574 rfl e575 rfl (nm9.y c79 (by omega) (by omega) (congrArg (sk tB tN) (show h38 75 7 = h14 75 7 by omega)) (by omega) rfl (wd9.y w578 (congrArg (sk tB tN) (show h86 75 7 = h70 75 7 by omega)) e579 rfl (nm9.y c210 (by omega) (by omega) rfl (by omega) rfl (wd9.y w581 (congrArg (sk tB tN) (show h215 75 7 = h201 75 7 by omega)) e582 rfl (nm9.y c385 (by omega) (by omega) rfl (by omega) rfl (wd9.f (Tw.no c492 (by omega)) (congrArg (sk tB tN) (show h390 75 7 = h376 75 7 by omega)) (by omega))))))))⟩)⟩
        have q498 : ¬ (v481 = 2147483648) := q498
        have b584 := c491 (by omega)
        refine x_aload (np := 137) (x := 0) (by decide +kernel) rfl (x_nc_le (by decide)) ?_
        refine x_iload (np := 138) (x := 1) (by decide +kernel) rfl (by omega) ?_
        refine x_const (np := 139) (x := 9223372056182128644) (a := 2147483652) (by decide +kernel) (by decide) (by decide) ?_
        refine x_iadd (np := 140) (x := 0) (v := (2147483852 + 5 * u8)) (by decide +kernel) (by omega) (by decide) (by omega) (by omega) ?_
        refine x_aload (np := 141) (x := 0) (by decide +kernel) rfl (x_nc_le (by decide)) ?_
        refine x_const (np := 142) (x := 9223372039002259456) (a := 2147483648) (by decide +kernel) (by decide) (by decide) ?_
        refine x_const (np := 145) (x := 9223376329674589159) (a := 2147484647) (by decide +kernel) (by decide) (by decide) ?_
        have m588 := Tq.fr m484 f488 (by decide) (by decide)
        refine x_cI (t := 6) (mj := 174) (n := 3) (rc := 12) (ml := 4) (nr := 2) (np := 148) (as := [x_r 75, iv_c 2147483648, iv_c 2147484647]) (rest := [iv_c (2147483852 + 5 * u8), x_r 75]) (lo1 := [x_r 75, iv_c 2147483648, iv_c 2147484647, 147573952589676412928]) (by decide +kernel) (by decide) (by decide +kernel) (x_rb_of (by decide +kernel)) rfl rfl (x_wr (by decide) (x_wi (by decide) (x_wi (by decide) x_wn))) (x_wi (by omega) (x_wr (by decide) x_wn)) (by decide) rfl (c174_75 j487  (by omega) (by omega) m588) (fun v585 h589 l586 q587 => ?_)
        obtain ⟨j590, f591, b592, c593, c594, c595, c596, c597, c598⟩ := q587
        have f599 := Fr.trans f493 f591 (by decide)
        have b600 := jB (e := 7) 0 j590 rg_75_7_0_1 (by omega) (by omega)
        have b601 := c597 (by omega)
        refine x_nI (t := 6) (mj := 176) (n := 3) (rc := 12) (ml := 3) (nr := 0) (np := 151) (as := [x_r 75, iv_c (2147483852 + 5 * u8), iv_c v585]) (rest := []) (lo1 := [x_r 75, iv_c (2147483852 + 5 * u8), iv_c v585]) (by decide +kernel) (by decide) (by decide +kernel) (x_rb_of (by decide +kernel)) rfl rfl (x_wr (by decide) (x_wi (by omega) (x_wi l586 x_wn))) x_wn (by decide) rfl ?_
        refine x_aload (np := 1) (x := 0) (by decide +kernel) rfl (x_nc_le (by decide)) ?_
        have q602 : h589 75 3 = 78 := by have z := jB (e := 3) 0 j590 rg_75_3_0_1 (by decide) (by decide); omega
        refine x_getR (np := 4) (x := 707) (f := 3) (q := 78) (by decide +kernel) (by decide) (by decide +kernel) q602 ?_
        refine x_iload (np := 5) (x := 1) (by decide +kernel) rfl (by omega) ?_
        refine x_iload (np := 6) (x := 2) (by decide +kernel) rfl l586 ?_
        refine x_ast (np := 7) (x := 0) (kd := 1) (n := 290) (i := (204 + 5 * u8)) (by decide +kernel) (Or.inl rfl) (by decide +kernel) (by omega) (by omega) (by decide) l586 (fun z => absurd z (by decide)) ?_
        have j604 := jU (e := (204 + 5 * u8)) (v := v585) u8 j590 rg_78_204_5_10 (by omega) (by omega) (by omega)
        have f606 := jF (e := (204 + 5 * u8)) (v := v585) u8 f599 rg_78_204_5_10 (by omega) (by omega) (by decide)
        generalize e605 : x_up h589 78 (204 + 5 * u8) v585 = h603 at j604 f606 ⊢
        refine x_iload (np := 8) (x := 2) (by decide +kernel) rfl l586 ?_
        refine x_ifz (k := 2) (tg := 15) (np := 11) (by decide +kernel) (by decide) l586 (fun q607 => ?_) (fun q608 => ?_)
        · have q607 : v585 < 2147483648 := q607
          refine x_const (np := 16) (x := 9223372039002259456) (a := 2147483648) (by decide +kernel) (by decide) (by decide) ?_
          refine x_retI (np := 17) (x := 0) (by decide +kernel) (by decide) (Or.inr ⟨by decide +kernel, by omega, by omega⟩) ⟨_, rfl, (by decide), ?_⟩
          refine x_ifz (k := 1) (tg := 156) (np := 154) (by decide +kernel) (by decide) (by decide) (fun q609 => ?_) (fun q610 => ?_)
          · have q609 : 2147483648 ≠ 2147483648 := q609
            exfalso; omega
          have q610 : ¬ (2147483648 ≠ 2147483648) := q610
          refine x_const (np := 155) (x := 9223372039002259456) (a := 2147483648) (by decide +kernel) (by decide) (by decide) ?_
          have b611 := jB (e := 0) 0 hJ rg_78_0_0_1 (by omega) (by omega)
          have q612 : h603 78 0 = h589 78 0 := by rw [← e605]; exact x_up_i (by omega)
          have q613 : h589 78 0 = h486 78 0 := jK 0 f591 rg_78_0_0_1 (by omega) (by omega) (by decide)
          have q614 : h486 78 0 = h390 78 0 := jK 0 f488 rg_78_0_0_1 (by omega) (by omega) (by decide)
          have q615 : h390 78 0 = h376 78 0 := by rw [← e392]; exact x_up_i (by omega)
          have q616 : h376 78 0 = h290 78 0 := jK 0 f378 rg_78_0_0_1 (by omega) (by omega) (by decide)
          have q617 : h290 78 0 = h215 78 0 := jK 0 f292 rg_78_0_0_1 (by omega) (by omega) (by decide)
          have q618 : h215 78 0 = h201 78 0 := by rw [← e217]; exact x_up_i (by omega)
          have q619 : h201 78 0 = h140 78 0 := jK 0 f203 rg_78_0_0_1 (by omega) (by omega) (by decide)
          have q620 : h140 78 0 = h86 78 0 := jK 0 f142 rg_78_0_0_1 (by omega) (by omega) (by decide)
          have q621 : h86 78 0 = h70 78 0 := by rw [← e88]; exact x_up_i (by omega)
          have q622 : h70 78 0 = h38 78 0 := jK 0 f72 rg_78_0_0_1 (by omega) (by omega) (by decide)
          have q623 : h38 78 0 = h14 78 0 := by rw [← e40]; exact x_up_i (by omega)
          have q624 : h14 78 0 = h 78 0 := jK 0 f16 rg_78_0_0_1 (by omega) (by omega) (by decide)
          have q625 : h603 78 1 = h589 78 1 := by rw [← e605]; exact x_up_i (by omega)
          have q626 : h589 78 1 = h486 78 1 := jK 0 f591 rg_78_1_0_1 (by omega) (by omega) (by decide)
          have q627 : h486 78 1 = h390 78 1 := jK 0 f488 rg_78_1_0_1 (by omega) (by omega) (by decide)
          have q628 : h390 78 1 = h376 78 1 := by rw [← e392]; exact x_up_i (by omega)
          have q629 : h376 78 1 = h290 78 1 := jK 0 f378 rg_78_1_0_1 (by omega) (by omega) (by decide)
          have q630 : h290 78 1 = h215 78 1 := jK 0 f292 rg_78_1_0_1 (by omega) (by omega) (by decide)
          have q631 : h215 78 1 = h201 78 1 := by rw [← e217]; exact x_up_i (by omega)
          have q632 : h201 78 1 = h140 78 1 := jK 0 f203 rg_78_1_0_1 (by omega) (by omega) (by decide)
          have q633 : h140 78 1 = h86 78 1 := jK 0 f142 rg_78_1_0_1 (by omega) (by omega) (by decide)
          have q634 : h86 78 1 = h70 78 1 := by rw [← e88]; exact x_up_i (by omega)
          have q635 : h70 78 1 = h38 78 1 := jK 0 f72 rg_78_1_0_1 (by omega) (by omega) (by decide)
          have q636 : h38 78 1 = h14 78 1 := by rw [← e40]; exact x_up_i (by omega)
          have q637 : h14 78 1 = h 78 1 := jK 0 f16 rg_78_1_0_1 (by omega) (by omega) (by decide)
          have b638 := jB (e := 2) 0 hJ rg_78_2_0_1 (by omega) (by omega)
          have q639 : h603 78 2 = h589 78 2 := by rw [← e605]; exact x_up_i (by omega)
          have q640 : h589 78 2 = h486 78 2 := jK 0 f591 rg_78_2_0_1 (by omega) (by omega) (by decide)
          have q641 : h486 78 2 = h390 78 2 := jK 0 f488 rg_78_2_0_1 (by omega) (by omega) (by decide)
          have q642 : h390 78 2 = h376 78 2 := by rw [← e392]; exact x_up_i (by omega)
          have q643 : h376 78 2 = h290 78 2 := jK 0 f378 rg_78_2_0_1 (by omega) (by omega) (by decide)
          have q644 : h290 78 2 = h215 78 2 := jK 0 f292 rg_78_2_0_1 (by omega) (by omega) (by decide)
          have q645 : h215 78 2 = h201 78 2 := by rw [← e217]; exact x_up_i (by omega)
          have q646 : h201 78 2 = h140 78 2 := jK 0 f203 rg_78_2_0_1 (by omega) (by omega) (by decide)
          have q647 : h140 78 2 = h86 78 2 := jK 0 f142 rg_78_2_0_1 (by omega) (by omega) (by decide)
          have q648 : h86 78 2 = h70 78 2 := by rw [← e88]; exact x_up_i (by omega)
          have q649 : h70 78 2 = h38 78 2 := jK 0 f72 rg_78_2_0_1 (by omega) (by omega) (by decide)
          have q650 : h38 78 2 = h14 78 2 := by rw [← e40]; exact x_up_i (by omega)
          have q651 : h14 78 2 = h 78 2 := jK 0 f16 rg_78_2_0_1 (by omega) (by omega) (by decide)
          have b652 := jB (e := 3) 0 hJ rg_78_3_0_1 (by omega) (by omega)
          have q653 : h603 78 3 = h589 78 3 := by rw [← e605]; exact x_up_i (by omega)
          have q654 : h589 78 3 = h486 78 3 := jK 0 f591 rg_78_3_0_1 (by omega) (by omega) (by decide)
          have q655 : h486 78 3 = h390 78 3 := jK 0 f488 rg_78_3_0_1 (by omega) (by omega) (by decide)
          have q656 : h390 78 3 = h376 78 3 := by rw [← e392]; exact x_up_i (by omega)
          have q657 : h376 78 3 = h290 78 3 := jK 0 f378 rg_78_3_0_1 (by omega) (by omega) (by decide)
          have q658 : h290 78 3 = h215 78 3 := jK 0 f292 rg_78_3_0_1 (by omega) (by omega) (by decide)
          have q659 : h215 78 3 = h201 78 3 := by rw [← e217]; exact x_up_i (by omega)
          have q660 : h201 78 3 = h140 78 3 := jK 0 f203 rg_78_3_0_1 (by omega) (by omega) (by decide)
          have q661 : h140 78 3 = h86 78 3 := jK 0 f142 rg_78_3_0_1 (by omega) (by omega) (by decide)
          have q662 : h86 78 3 = h70 78 3 := by rw [← e88]; exact x_up_i (by omega)
          have q663 : h70 78 3 = h38 78 3 := jK 0 f72 rg_78_3_0_1 (by omega) (by omega) (by decide)
          have q664 : h38 78 3 = h14 78 3 := by rw [← e40]; exact x_up_i (by omega)
          have q665 : h14 78 3 = h 78 3 := jK 0 f16 rg_78_3_0_1 (by omega) (by omega) (by decide)
          have q666 : h603 78 4 = h589 78 4 := by rw [← e605]; exact x_up_i (by omega)
          have q667 : h589 78 4 = h486 78 4 := jK 0 f591 rg_78_4_0_1 (by omega) (by omega) (by decide)
          have q668 : h486 78 4 = h390 78 4 := jK 0 f488 rg_78_4_0_1 (by omega) (by omega) (by decide)
          have q669 : h390 78 4 = h376 78 4 := by rw [← e392]; exact x_up_i (by omega)
          have q670 : h376 78 4 = h290 78 4 := jK 0 f378 rg_78_4_0_1 (by omega) (by omega) (by decide)
          have q671 : h290 78 4 = h215 78 4 := jK 0 f292 rg_78_4_0_1 (by omega) (by omega) (by decide)
          have q672 : h215 78 4 = h201 78 4 := by rw [← e217]; exact x_up_i (by omega)
          have q673 : h201 78 4 = h140 78 4 := jK 0 f203 rg_78_4_0_1 (by omega) (by omega) (by decide)
          have q674 : h140 78 4 = h86 78 4 := jK 0 f142 rg_78_4_0_1 (by omega) (by omega) (by decide)
          have q675 : h86 78 4 = h70 78 4 := by rw [← e88]; exact x_up_i (by omega)
          have q676 : h70 78 4 = h38 78 4 := jK 0 f72 rg_78_4_0_1 (by omega) (by omega) (by decide)
          have q677 : h38 78 4 = h14 78 4 := by rw [← e40]; exact x_up_i (by omega)
          have q678 : h14 78 4 = h 78 4 := jK 0 f16 rg_78_4_0_1 (by omega) (by omega) (by decide)
          have b679 := jB (e := 5) 0 hJ rg_78_5_0_1 (by omega) (by omega)
          have q680 : h603 78 5 = h589 78 5 := by rw [← e605]; exact x_up_i (by omega)
          have q681 : h589 78 5 = h486 78 5 := jK 0 f591 rg_78_5_0_1 (by omega) (by omega) (by decide)
          have q682 : h486 78 5 = h390 78 5 := jK 0 f488 rg_78_5_0_1 (by omega) (by omega) (by decide)
          have q683 : h390 78 5 = h376 78 5 := by rw [← e392]; exact x_up_i (by omega)
          have q684 : h376 78 5 = h290 78 5 := jK 0 f378 rg_78_5_0_1 (by omega) (by omega) (by decide)
          have q685 : h290 78 5 = h215 78 5 := jK 0 f292 rg_78_5_0_1 (by omega) (by omega) (by decide)
          have q686 : h215 78 5 = h201 78 5 := by rw [← e217]; exact x_up_i (by omega)
          have q687 : h201 78 5 = h140 78 5 := jK 0 f203 rg_78_5_0_1 (by omega) (by omega) (by decide)
          have q688 : h140 78 5 = h86 78 5 := jK 0 f142 rg_78_5_0_1 (by omega) (by omega) (by decide)
          have q689 : h86 78 5 = h70 78 5 := by rw [← e88]; exact x_up_i (by omega)
          have q690 : h70 78 5 = h38 78 5 := jK 0 f72 rg_78_5_0_1 (by omega) (by omega) (by decide)
          have q691 : h38 78 5 = h14 78 5 := by rw [← e40]; exact x_up_i (by omega)
          have q692 : h14 78 5 = h 78 5 := jK 0 f16 rg_78_5_0_1 (by omega) (by omega) (by decide)
          have w693 : ¬ Wd tB tN 10 (sk tB tN (h 75 7)) := by rw [← c21]; exact Wd.no (by decide) (Is.no c33 (by omega)) c22
          have q694 : h38 75 7 = h14 75 7 := by rw [← e40]; exact x_up_k (by decide)
          have q695 : h38 75 9 = h14 75 9 := by rw [← e40]; exact x_up_k (by decide)
          have c696 : Is (Wm tB 9 (h14 75 9) (h14 75 7)) v47 := by rw [show h14 75 9 = h38 75 9 by omega, show h14 75 7 = h38 75 7 by omega]; exact c52
          have y697 := Is.yes c696 (by omega)
          have w698 : Wd tB tN 9 (sk tB tN (h 75 7)) := by rw [← c21]; exact Wd.of' (by decide) y697 c22
          have e699 : sk tB tN (h14 75 7) = sk tB tN ((sk tB tN (h 75 7)) + iv_tl 9) := by rw [← c21, ← y697.1]
          have q700 : h38 75 7 = h14 75 7 := by rw [← e40]; exact x_up_k (by decide)
          have q701 : h86 75 7 = h70 75 7 := by rw [← e88]; exact x_up_k (by decide)
          obtain ⟨w702, e703⟩ := Tw.yes c146 (by omega)
          have q704 : h215 75 7 = h201 75 7 := by rw [← e217]; exact x_up_k (by decide)
          obtain ⟨w705, e706⟩ := Tw.yes c296 (by omega)
          have q707 : h390 75 7 = h376 75 7 := by rw [← e392]; exact x_up_k (by decide)
          obtain ⟨w708, e709⟩ := Tw.yes c492 (by omega)
          refine x_retI (np := 156) (x := 0) (by decide +kernel) (by decide) (Or.inr ⟨by decide +kernel, by omega, by omega⟩) ⟨_, rfl, (by decide), ?_⟩
          exact ⟨j604, f606, (by omega), (fun z => by omega), (fun z => by omega), (fun z => by omega), (fun z => by omega), (fun z => by omega), (fun z => by omega), (fun z => absurd z (by omega)), (Or.inr ⟨by omega, (or9.y w698 rfl e699 rfl (nm9.y c79 (by omega) (by omega) (congrArg (sk tB tN) (show h38 75 7 = h14 75 7 by omega)) (by omega) rfl (wd9.y w702 (congrArg (sk tB tN) (show h86 75 7 = h70 75 7 by omega)) e703 rfl (nm9.y c210 (by omega) (by omega) rfl (by omega) rfl (wd9.y w705 (congrArg (sk tB tN) (show h215 75 7 = h201 75 7 by omega)) e706 rfl (nm9.y c385 (by omega) (by omega) rfl (by omega) rfl (wd9.y w708 (congrArg (sk tB tN) (show h390 75 7 = h376 75 7 by omega)) e709 rfl (nm9.f c598 (by omega) (by omega) rfl (by omega) (by omega)))))))))⟩)⟩
        have q608 : ¬ (v585 < 2147483648) := q608
        have b710 := c594 (by omega)
        have b711 := c595 (by omega)
        have b712 := c596 (by omega)
        refine x_const (np := 12) (x := 9223372043297226753) (a := 2147483649) (by decide +kernel) (by decide) (by decide) ?_
        refine x_goto (np := 15) (x := 16) (by decide +kernel) ?_
        refine x_retI (np := 17) (x := 0) (by decide +kernel) (by decide) (Or.inr ⟨by decide +kernel, by omega, by omega⟩) ⟨_, rfl, (by decide), ?_⟩
        refine x_ifz (k := 1) (tg := 156) (np := 154) (by decide +kernel) (by decide) (by decide) (fun q713 => ?_) (fun q714 => ?_)
        · have q713 : 2147483649 ≠ 2147483648 := q713
          refine x_aload (np := 157) (x := 0) (by decide +kernel) rfl (x_nc_le (by decide)) ?_
          have q715 : h603 75 3 = 78 := by have z := jB (e := 3) 0 j604 rg_75_3_0_1 (by decide) (by decide); omega
          refine x_getR (np := 160) (x := 707) (f := 3) (q := 78) (by decide +kernel) (by decide) (by decide +kernel) q715 ?_
          refine x_const (np := 161) (x := 9223372056182128644) (a := 2147483652) (by decide +kernel) (by decide) (by decide) ?_
          refine x_dup2 (np := 162) (x := 0) (by decide +kernel) (by have z := (iw_c_lt (a := 2147483652) (by decide)).1; omega) (by have z := x_nc_le (k := 78) (by decide); unfold x_r; omega) ?_
          have q716 : h603 78 4 = h589 78 4 := by rw [← e605]; exact x_up_i (by omega)
          have q717 : h589 78 4 = h486 78 4 := jK 0 f591 rg_78_4_0_1 (by omega) (by omega) (by decide)
          have q718 : h486 78 4 = h390 78 4 := jK 0 f488 rg_78_4_0_1 (by omega) (by omega) (by decide)
          have q719 : h390 78 4 = h376 78 4 := by rw [← e392]; exact x_up_i (by omega)
          have q720 : h376 78 4 = h290 78 4 := jK 0 f378 rg_78_4_0_1 (by omega) (by omega) (by decide)
          have q721 : h290 78 4 = h215 78 4 := jK 0 f292 rg_78_4_0_1 (by omega) (by omega) (by decide)
          have q722 : h215 78 4 = h201 78 4 := by rw [← e217]; exact x_up_i (by omega)
          have q723 : h201 78 4 = h140 78 4 := jK 0 f203 rg_78_4_0_1 (by omega) (by omega) (by decide)
          have q724 : h140 78 4 = h86 78 4 := jK 0 f142 rg_78_4_0_1 (by omega) (by omega) (by decide)
          have q725 : h86 78 4 = h70 78 4 := by rw [← e88]; exact x_up_i (by omega)
          have q726 : h70 78 4 = h38 78 4 := jK 0 f72 rg_78_4_0_1 (by omega) (by omega) (by decide)
          have q727 : h38 78 4 = h14 78 4 := by rw [← e40]; exact x_up_i (by omega)
          have q728 : h14 78 4 = h 78 4 := jK 0 f16 rg_78_4_0_1 (by omega) (by omega) (by decide)
          refine x_aldC (np := 163) (x := 0) (n := 290) (i := 4) (q := (h 78 4)) (by decide +kernel) (by decide +kernel) (by omega) (by omega) (by decide) ((((((((((((q716.trans q717).trans q718).trans q719).trans q720).trans q721).trans q722).trans q723).trans q724).trans q725).trans q726).trans q727).trans q728) (fun l729 => ?_)
          refine x_const (np := 164) (x := 9223372043297226753) (a := 2147483649) (by decide +kernel) (by decide) (by decide) ?_
          refine x_iadd (np := 165) (x := 0) (v := (1 + (h 78 4))) (by decide +kernel) l3 (by decide) (by omega) (by omega) ?_
          refine x_ast (np := 166) (x := 0) (kd := 1) (n := 290) (i := 4) (by decide +kernel) (Or.inl rfl) (by decide +kernel) (by omega) (by omega) (by decide) (by omega) (fun z => absurd z (by decide)) ?_
          have j731 := jU (e := 4) (v := (1 + (h 78 4))) 0 j604 rg_78_4_0_1 (by omega) (by omega) (by omega)
          have f733 := jF (e := 4) (v := (1 + (h 78 4))) 0 f606 rg_78_4_0_1 (by omega) (by omega) (by decide)
          generalize e732 : x_up h603 78 4 (1 + (h 78 4)) = h730 at j731 f733 ⊢
          refine x_const (np := 167) (x := 9223372043297226753) (a := 2147483649) (by decide +kernel) (by decide) (by decide) ?_
          have b734 := jB (e := 0) 0 hJ rg_78_0_0_1 (by omega) (by omega)
          have q735 : h730 78 0 = h603 78 0 := by rw [← e732]; exact x_up_i (by omega)
          have q736 : h603 78 0 = h589 78 0 := by rw [← e605]; exact x_up_i (by omega)
          have q737 : h589 78 0 = h486 78 0 := jK 0 f591 rg_78_0_0_1 (by omega) (by omega) (by decide)
          have q738 : h486 78 0 = h390 78 0 := jK 0 f488 rg_78_0_0_1 (by omega) (by omega) (by decide)
          have q739 : h390 78 0 = h376 78 0 := by rw [← e392]; exact x_up_i (by omega)
          have q740 : h376 78 0 = h290 78 0 := jK 0 f378 rg_78_0_0_1 (by omega) (by omega) (by decide)
          have q741 : h290 78 0 = h215 78 0 := jK 0 f292 rg_78_0_0_1 (by omega) (by omega) (by decide)
          have q742 : h215 78 0 = h201 78 0 := by rw [← e217]; exact x_up_i (by omega)
          have q743 : h201 78 0 = h140 78 0 := jK 0 f203 rg_78_0_0_1 (by omega) (by omega) (by decide)
          have q744 : h140 78 0 = h86 78 0 := jK 0 f142 rg_78_0_0_1 (by omega) (by omega) (by decide)
          have q745 : h86 78 0 = h70 78 0 := by rw [← e88]; exact x_up_i (by omega)
          have q746 : h70 78 0 = h38 78 0 := jK 0 f72 rg_78_0_0_1 (by omega) (by omega) (by decide)
          have q747 : h38 78 0 = h14 78 0 := by rw [← e40]; exact x_up_i (by omega)
          have q748 : h14 78 0 = h 78 0 := jK 0 f16 rg_78_0_0_1 (by omega) (by omega) (by decide)
          have q749 : h730 78 1 = h603 78 1 := by rw [← e732]; exact x_up_i (by omega)
          have q750 : h603 78 1 = h589 78 1 := by rw [← e605]; exact x_up_i (by omega)
          have q751 : h589 78 1 = h486 78 1 := jK 0 f591 rg_78_1_0_1 (by omega) (by omega) (by decide)
          have q752 : h486 78 1 = h390 78 1 := jK 0 f488 rg_78_1_0_1 (by omega) (by omega) (by decide)
          have q753 : h390 78 1 = h376 78 1 := by rw [← e392]; exact x_up_i (by omega)
          have q754 : h376 78 1 = h290 78 1 := jK 0 f378 rg_78_1_0_1 (by omega) (by omega) (by decide)
          have q755 : h290 78 1 = h215 78 1 := jK 0 f292 rg_78_1_0_1 (by omega) (by omega) (by decide)
          have q756 : h215 78 1 = h201 78 1 := by rw [← e217]; exact x_up_i (by omega)
          have q757 : h201 78 1 = h140 78 1 := jK 0 f203 rg_78_1_0_1 (by omega) (by omega) (by decide)
          have q758 : h140 78 1 = h86 78 1 := jK 0 f142 rg_78_1_0_1 (by omega) (by omega) (by decide)
          have q759 : h86 78 1 = h70 78 1 := by rw [← e88]; exact x_up_i (by omega)
          have q760 : h70 78 1 = h38 78 1 := jK 0 f72 rg_78_1_0_1 (by omega) (by omega) (by decide)
          have q761 : h38 78 1 = h14 78 1 := by rw [← e40]; exact x_up_i (by omega)
          have q762 : h14 78 1 = h 78 1 := jK 0 f16 rg_78_1_0_1 (by omega) (by omega) (by decide)
          have b763 := jB (e := 2) 0 hJ rg_78_2_0_1 (by omega) (by omega)
          have q764 : h730 78 2 = h603 78 2 := by rw [← e732]; exact x_up_i (by omega)
          have q765 : h603 78 2 = h589 78 2 := by rw [← e605]; exact x_up_i (by omega)
          have q766 : h589 78 2 = h486 78 2 := jK 0 f591 rg_78_2_0_1 (by omega) (by omega) (by decide)
          have q767 : h486 78 2 = h390 78 2 := jK 0 f488 rg_78_2_0_1 (by omega) (by omega) (by decide)
          have q768 : h390 78 2 = h376 78 2 := by rw [← e392]; exact x_up_i (by omega)
          have q769 : h376 78 2 = h290 78 2 := jK 0 f378 rg_78_2_0_1 (by omega) (by omega) (by decide)
          have q770 : h290 78 2 = h215 78 2 := jK 0 f292 rg_78_2_0_1 (by omega) (by omega) (by decide)
          have q771 : h215 78 2 = h201 78 2 := by rw [← e217]; exact x_up_i (by omega)
          have q772 : h201 78 2 = h140 78 2 := jK 0 f203 rg_78_2_0_1 (by omega) (by omega) (by decide)
          have q773 : h140 78 2 = h86 78 2 := jK 0 f142 rg_78_2_0_1 (by omega) (by omega) (by decide)
          have q774 : h86 78 2 = h70 78 2 := by rw [← e88]; exact x_up_i (by omega)
          have q775 : h70 78 2 = h38 78 2 := jK 0 f72 rg_78_2_0_1 (by omega) (by omega) (by decide)
          have q776 : h38 78 2 = h14 78 2 := by rw [← e40]; exact x_up_i (by omega)
          have q777 : h14 78 2 = h 78 2 := jK 0 f16 rg_78_2_0_1 (by omega) (by omega) (by decide)
          have b778 := jB (e := 3) 0 hJ rg_78_3_0_1 (by omega) (by omega)
          have q779 : h730 78 3 = h603 78 3 := by rw [← e732]; exact x_up_i (by omega)
          have q780 : h603 78 3 = h589 78 3 := by rw [← e605]; exact x_up_i (by omega)
          have q781 : h589 78 3 = h486 78 3 := jK 0 f591 rg_78_3_0_1 (by omega) (by omega) (by decide)
          have q782 : h486 78 3 = h390 78 3 := jK 0 f488 rg_78_3_0_1 (by omega) (by omega) (by decide)
          have q783 : h390 78 3 = h376 78 3 := by rw [← e392]; exact x_up_i (by omega)
          have q784 : h376 78 3 = h290 78 3 := jK 0 f378 rg_78_3_0_1 (by omega) (by omega) (by decide)
          have q785 : h290 78 3 = h215 78 3 := jK 0 f292 rg_78_3_0_1 (by omega) (by omega) (by decide)
          have q786 : h215 78 3 = h201 78 3 := by rw [← e217]; exact x_up_i (by omega)
          have q787 : h201 78 3 = h140 78 3 := jK 0 f203 rg_78_3_0_1 (by omega) (by omega) (by decide)
          have q788 : h140 78 3 = h86 78 3 := jK 0 f142 rg_78_3_0_1 (by omega) (by omega) (by decide)
          have q789 : h86 78 3 = h70 78 3 := by rw [← e88]; exact x_up_i (by omega)
          have q790 : h70 78 3 = h38 78 3 := jK 0 f72 rg_78_3_0_1 (by omega) (by omega) (by decide)
          have q791 : h38 78 3 = h14 78 3 := by rw [← e40]; exact x_up_i (by omega)
          have q792 : h14 78 3 = h 78 3 := jK 0 f16 rg_78_3_0_1 (by omega) (by omega) (by decide)
          have q793 : h730 78 4 = (1 + (h 78 4)) := by rw [← e732]; exact x_up_at
          have b794 := jB (e := 5) 0 hJ rg_78_5_0_1 (by omega) (by omega)
          have q795 : h730 78 5 = h603 78 5 := by rw [← e732]; exact x_up_i (by omega)
          have q796 : h603 78 5 = h589 78 5 := by rw [← e605]; exact x_up_i (by omega)
          have q797 : h589 78 5 = h486 78 5 := jK 0 f591 rg_78_5_0_1 (by omega) (by omega) (by decide)
          have q798 : h486 78 5 = h390 78 5 := jK 0 f488 rg_78_5_0_1 (by omega) (by omega) (by decide)
          have q799 : h390 78 5 = h376 78 5 := by rw [← e392]; exact x_up_i (by omega)
          have q800 : h376 78 5 = h290 78 5 := jK 0 f378 rg_78_5_0_1 (by omega) (by omega) (by decide)
          have q801 : h290 78 5 = h215 78 5 := jK 0 f292 rg_78_5_0_1 (by omega) (by omega) (by decide)
          have q802 : h215 78 5 = h201 78 5 := by rw [← e217]; exact x_up_i (by omega)
          have q803 : h201 78 5 = h140 78 5 := jK 0 f203 rg_78_5_0_1 (by omega) (by omega) (by decide)
          have q804 : h140 78 5 = h86 78 5 := jK 0 f142 rg_78_5_0_1 (by omega) (by omega) (by decide)
          have q805 : h86 78 5 = h70 78 5 := by rw [← e88]; exact x_up_i (by omega)
          have q806 : h70 78 5 = h38 78 5 := jK 0 f72 rg_78_5_0_1 (by omega) (by omega) (by decide)
          have q807 : h38 78 5 = h14 78 5 := by rw [← e40]; exact x_up_i (by omega)
          have q808 : h14 78 5 = h 78 5 := jK 0 f16 rg_78_5_0_1 (by omega) (by omega) (by decide)
          have m822 := Cl.fr hC f16 (by decide)
          have m821 : Cl h38 := by rw [← e40]; exact Cl.upR (e := (200 + 5 * u8)) (v := 2147483648) u8 m822 rg_76_200_5_10 (by omega) (by omega) (by omega)
          have m820 := Cl.fr m821 f72 (by decide)
          have m819 : Cl h86 := by rw [← e88]; exact Cl.upR (e := (201 + 5 * u8)) (v := v67) u8 m820 rg_76_201_5_10 (by omega) (by omega) (by omega)
          have m818 := Cl.fr m819 f142 (by decide)
          have m817 := Cl.fr m818 f203 (by decide)
          have m816 : Cl h215 := by rw [← e217]; exact Cl.upR (e := (202 + 5 * u8)) (v := v197) u8 m817 rg_76_202_5_10 (by omega) (by omega) (by omega)
          have m815 := Cl.fr m816 f292 (by decide)
          have m814 := Cl.fr m815 f378 (by decide)
          have m813 : Cl h390 := by rw [← e392]; exact Cl.upR (e := (203 + 5 * u8)) (v := v372) u8 m814 rg_76_203_5_10 (by omega) (by omega) (by omega)
          have m812 := Cl.fr m813 f488 (by decide)
          have m811 := Cl.fr m812 f591 (by decide)
          have m810 : Cl h603 := by rw [← e605]; exact Cl.upR (e := (204 + 5 * u8)) (v := v585) u8 m811 rg_76_204_5_10 (by omega) (by omega) (by omega)
          have m809 : Cl h730 := by rw [← e732]; exact Cl.upR (e := 4) (v := (1 + (h 78 4))) 0 m810 rg_76_4_0_1 (by omega) (by omega) (by omega)
          have w823 : ¬ Wd tB tN 10 (sk tB tN (h 75 7)) := by rw [← c21]; exact Wd.no (by decide) (Is.no c33 (by omega)) c22
          have q824 : h38 75 7 = h14 75 7 := by rw [← e40]; exact x_up_k (by decide)
          have q825 : h38 75 9 = h14 75 9 := by rw [← e40]; exact x_up_k (by decide)
          have c826 : Is (Wm tB 9 (h14 75 9) (h14 75 7)) v47 := by rw [show h14 75 9 = h38 75 9 by omega, show h14 75 7 = h38 75 7 by omega]; exact c52
          have y827 := Is.yes c826 (by omega)
          have w828 : Wd tB tN 9 (sk tB tN (h 75 7)) := by rw [← c21]; exact Wd.of' (by decide) y827 c22
          have e829 : sk tB tN (h14 75 7) = sk tB tN ((sk tB tN (h 75 7)) + iv_tl 9) := by rw [← c21, ← y827.1]
          have q830 : h38 75 7 = h14 75 7 := by rw [← e40]; exact x_up_k (by decide)
          have q831 : h86 75 7 = h70 75 7 := by rw [← e88]; exact x_up_k (by decide)
          obtain ⟨w832, e833⟩ := Tw.yes c146 (by omega)
          have q834 : h215 75 7 = h201 75 7 := by rw [← e217]; exact x_up_k (by decide)
          obtain ⟨w835, e836⟩ := Tw.yes c296 (by omega)
          have q837 : h390 75 7 = h376 75 7 := by rw [← e392]; exact x_up_k (by decide)
          obtain ⟨w838, e839⟩ := Tw.yes c492 (by omega)
          have q840 : h730 75 7 = h603 75 7 := by rw [← e732]; exact x_up_k (by decide)
          have q841 : h603 75 7 = h589 75 7 := by rw [← e605]; exact x_up_k (by decide)
          refine x_retI (np := 168) (x := 0) (by decide +kernel) (by decide) (Or.inr ⟨by decide +kernel, by omega, by omega⟩) ⟨_, rfl, (by decide), ?_⟩
          exact ⟨j731, f733, (by omega), (fun z => by omega), (fun z => by omega), (fun z => by omega), (fun z => by omega), (fun z => by omega), (fun z => by omega), (fun _ => m809), (Or.inr ⟨by omega, (or9.y w828 rfl e829 rfl (nm9.y c79 (by omega) (by omega) (congrArg (sk tB tN) (show h38 75 7 = h14 75 7 by omega)) (by omega) rfl (wd9.y w832 (congrArg (sk tB tN) (show h86 75 7 = h70 75 7 by omega)) e833 rfl (nm9.y c210 (by omega) (by omega) rfl (by omega) rfl (wd9.y w835 (congrArg (sk tB tN) (show h215 75 7 = h201 75 7 by omega)) e836 rfl (nm9.y c385 (by omega) (by omega) rfl (by omega) rfl (wd9.y w838 (congrArg (sk tB tN) (show h390 75 7 = h376 75 7 by omega)) e839 rfl (nm9.y c598 (by omega) (by omega) rfl (by omega) rfl (fin9.mk (by omega) (congrArg (sk tB tN) (show h589 75 7 = h730 75 7 by omega)))))))))))⟩)⟩
        have q714 : ¬ (2147483649 ≠ 2147483648) := q714
        exfalso; omega
      have q58 : ¬ (v47 ≠ 2147483648) := q58
      refine x_const (np := 69) (x := 9223372039002259456) (a := 2147483648) (by decide +kernel) (by decide) (by decide) ?_
      have b842 := jB (e := 0) 0 hJ rg_78_0_0_1 (by omega) (by omega)
      have q843 : h38 78 0 = h14 78 0 := by rw [← e40]; exact x_up_i (by omega)
      have q844 : h14 78 0 = h 78 0 := jK 0 f16 rg_78_0_0_1 (by omega) (by omega) (by decide)
      have q845 : h38 78 1 = h14 78 1 := by rw [← e40]; exact x_up_i (by omega)
      have q846 : h14 78 1 = h 78 1 := jK 0 f16 rg_78_1_0_1 (by omega) (by omega) (by decide)
      have b847 := jB (e := 2) 0 hJ rg_78_2_0_1 (by omega) (by omega)
      have q848 : h38 78 2 = h14 78 2 := by rw [← e40]; exact x_up_i (by omega)
      have q849 : h14 78 2 = h 78 2 := jK 0 f16 rg_78_2_0_1 (by omega) (by omega) (by decide)
      have b850 := jB (e := 3) 0 hJ rg_78_3_0_1 (by omega) (by omega)
      have q851 : h38 78 3 = h14 78 3 := by rw [← e40]; exact x_up_i (by omega)
      have q852 : h14 78 3 = h 78 3 := jK 0 f16 rg_78_3_0_1 (by omega) (by omega) (by decide)
      have q853 : h38 78 4 = h14 78 4 := by rw [← e40]; exact x_up_i (by omega)
      have q854 : h14 78 4 = h 78 4 := jK 0 f16 rg_78_4_0_1 (by omega) (by omega) (by decide)
      have b855 := jB (e := 5) 0 hJ rg_78_5_0_1 (by omega) (by omega)
      have q856 : h38 78 5 = h14 78 5 := by rw [← e40]; exact x_up_i (by omega)
      have q857 : h14 78 5 = h 78 5 := jK 0 f16 rg_78_5_0_1 (by omega) (by omega) (by decide)
      have b858 := jB (e := 0) 0 hJ rg_76_0_0_1 (by omega) (by omega)
      have w859 : ¬ Wd tB tN 10 (sk tB tN (h 75 7)) := by rw [← c21]; exact Wd.no (by decide) (Is.no c33 (by omega)) c22
      have q860 : h38 75 7 = h14 75 7 := by rw [← e40]; exact x_up_k (by decide)
      have q861 : h38 75 9 = h14 75 9 := by rw [← e40]; exact x_up_k (by decide)
      have c862 : Is (Wm tB 9 (h14 75 9) (h14 75 7)) v47 := by rw [show h14 75 9 = h38 75 9 by omega, show h14 75 7 = h38 75 7 by omega]; exact c52
      have w863 : ¬ Wd tB tN 9 (sk tB tN (h 75 7)) := by rw [← c21]; exact Wd.no (by decide) (Is.no c862 (by omega)) c22
      refine x_retI (np := 70) (x := 0) (by decide +kernel) (by decide) (Or.inr ⟨by decide +kernel, by omega, by omega⟩) ⟨_, rfl, (by decide), ?_⟩
      exact ⟨j39, f41, (by omega), (fun z => by omega), (fun z => by omega), (fun z => by omega), (fun z => by omega), (fun z => by omega), (fun z => by omega), (fun z => absurd z (by omega)), (Or.inr ⟨by omega, (or9.f w863 rfl rfl (wd9.f w859 rfl (by omega)))⟩)⟩
    have q37 : ¬ (v28 = 2147483648) := q37
    have b864 := c32 (by omega)
    refine x_const (np := 45) (x := 9223372043297226753) (a := 2147483649) (by decide +kernel) (by decide) (by decide) ?_
    refine x_goto (np := 48) (x := 49) (by decide +kernel) ?_
    refine x_ast (np := 50) (x := 0) (kd := 1) (n := 290) (i := (200 + 5 * u8)) (by decide +kernel) (Or.inl rfl) (by decide +kernel) (by omega) (by omega) (by decide) (by decide) (fun z => absurd z (by decide)) ?_
    have j866 := jU (e := (200 + 5 * u8)) (v := 2147483649) u8 j15 rg_78_200_5_10 (by omega) (by omega) (by omega)
    have f868 := jF (e := (200 + 5 * u8)) (v := 2147483649) u8 f23 rg_78_200_5_10 (by omega) (by omega) (by decide)
    generalize e867 : x_up h14 78 (200 + 5 * u8) 2147483649 = h865 at j866 f868 ⊢
    refine x_aload (np := 51) (x := 0) (by decide +kernel) rfl (x_nc_le (by decide)) ?_
    have q869 : h865 75 3 = 78 := by have z := jB (e := 3) 0 j866 rg_75_3_0_1 (by decide) (by decide); omega
    refine x_getR (np := 54) (x := 707) (f := 3) (q := 78) (by decide +kernel) (by decide) (by decide +kernel) q869 ?_
    refine x_iload (np := 55) (x := 1) (by decide +kernel) rfl (by omega) ?_
    have q870 : h865 78 (200 + 5 * u8) = 2147483649 := by rw [← e867]; exact x_up_at
    refine x_aldC (np := 56) (x := 0) (n := 290) (i := (200 + 5 * u8)) (q := 2147483649) (by decide +kernel) (by decide +kernel) (by omega) (by omega) (by decide) q870 (fun l871 => ?_)
    refine x_ifz (k := 1) (tg := 70) (np := 59) (by decide +kernel) (by decide) (by decide) (fun q872 => ?_) (fun q873 => ?_)
    · have q872 : 2147483649 ≠ 2147483648 := q872
      refine x_aload (np := 71) (x := 0) (by decide +kernel) rfl (x_nc_le (by decide)) ?_
      refine x_iload (np := 72) (x := 1) (by decide +kernel) rfl (by omega) ?_
      refine x_const (np := 73) (x := 9223372043297226753) (a := 2147483649) (by decide +kernel) (by decide) (by decide) ?_
      refine x_iadd (np := 74) (x := 0) (v := (2147483849 + 5 * u8)) (by decide +kernel) (by omega) (by decide) (by omega) (by omega) ?_
      refine x_nI (t := 6) (mj := 177) (n := 2) (rc := 12) (ml := 2) (nr := 0) (np := 77) (as := [x_r 75, iv_c (2147483849 + 5 * u8)]) (rest := []) (lo1 := [x_r 75, iv_c (2147483849 + 5 * u8)]) (by decide +kernel) (by decide) (by decide +kernel) (x_rb_of (by decide +kernel)) rfl rfl (x_wr (by decide) (x_wi (by omega) x_wn)) x_wn (by decide) rfl ?_
      refine x_aload (np := 1) (x := 0) (by decide +kernel) rfl (x_nc_le (by decide)) ?_
      refine x_iload (np := 2) (x := 1) (by decide +kernel) rfl (by omega) ?_
      refine x_aload (np := 3) (x := 0) (by decide +kernel) rfl (x_nc_le (by decide)) ?_
      refine x_const (np := 4) (x := 9223372039002259456) (a := 2147483648) (by decide +kernel) (by decide) (by decide) ?_
      refine x_aload (np := 5) (x := 0) (by decide +kernel) rfl (x_nc_le (by decide)) ?_
      refine x_nI (t := 6) (mj := 157) (n := 1) (rc := 12) (ml := 1) (nr := 4) (np := 8) (as := [x_r 75]) (rest := [iv_c 2147483648, x_r 75, iv_c (2147483849 + 5 * u8), x_r 75]) (lo1 := [x_r 75]) (by decide +kernel) (by decide) (by decide +kernel) (x_rb_of (by decide +kernel)) rfl rfl (x_wr (by decide) x_wn) (x_wi (by decide) (x_wr (by decide) (x_wi (by omega) (x_wr (by decide) x_wn)))) (by decide) rfl ?_
      refine x_aload (np := 1) (x := 0) (by decide +kernel) rfl (x_nc_le (by decide)) ?_
      have q874 : h865 75 1 = 76 := by have z := jB (e := 1) 0 j866 rg_75_1_0_1 (by decide) (by decide); omega
      refine x_getR (np := 4) (x := 705) (f := 1) (q := 76) (by decide +kernel) (by decide) (by decide +kernel) q874 ?_
      refine x_const (np := 5) (x := 9223372039002259456) (a := 2147483648) (by decide +kernel) (by decide) (by decide) ?_
      have q875 : h865 76 0 = h14 76 0 := by rw [← e867]; exact x_up_k (by decide)
      have q876 : h14 76 0 = h 76 0 := jK 0 f16 rg_76_0_0_1 (by omega) (by omega) (by decide)
      have b877 := jB (e := 0) 0 hJ rg_76_0_0_1 (by omega) (by omega)
      refine x_aldC (np := 6) (x := 0) (n := 1952) (i := 0) (q := (h 76 0)) (by decide +kernel) (by decide +kernel) (by omega) (by omega) (by decide) (q875.trans q876) (fun l878 => ?_)
      refine x_retI (np := 7) (x := 0) (by decide +kernel) l878 (Or.inl (by decide +kernel)) ⟨_, rfl, l878, ?_⟩
      refine x_const (np := 9) (x := 9223372043297226753) (a := 2147483649) (by decide +kernel) (by decide) (by decide) ?_
      obtain ⟨v879, q880⟩ : ∃ z, z + 2147483649 = (h 76 0) + 2147483648 := ⟨(h 76 0) + 2147483648 - 2147483649, by omega⟩
      refine x_isub (np := 10) (x := 0) (v := v879) (by decide +kernel) l878 (by decide) (by omega) (by omega) ?_
      have m884 : Tq tB tN h865 := by rw [← e867]; exact Tq.oth m31 (by decide) (fun z => absurd z.1 (by decide))
      refine x_cI (t := 6) (mj := 174) (n := 3) (rc := 12) (ml := 4) (nr := 2) (np := 13) (as := [x_r 75, iv_c 2147483648, iv_c v879]) (rest := [iv_c (2147483849 + 5 * u8), x_r 75]) (lo1 := [x_r 75, iv_c 2147483648, iv_c v879, 147573952589676412928]) (by decide +kernel) (by decide) (by decide +kernel) (x_rb_of (by decide +kernel)) rfl rfl (x_wr (by decide) (x_wi (by decide) (x_wi (by omega) x_wn))) (x_wi (by omega) (x_wr (by decide) x_wn)) (by decide) rfl (c174_75 j866  (by omega) (by omega) m884) (fun v881 h885 l882 q883 => ?_)
      obtain ⟨j886, f887, b888, c889, c890, c891, c892, c893, c894⟩ := q883
      have f895 := Fr.trans f868 f887 (by decide)
      have q896 : h865 75 7 = h14 75 7 := by rw [← e867]; exact x_up_k (by decide)
      have b897 := jB (e := 7) 0 j886 rg_75_7_0_1 (by omega) (by omega)
      have q898 : h865 75 7 = h14 75 7 := by rw [← e867]; exact x_up_k (by decide)
      have b899 := c893 (by omega)
      refine x_nI (t := 6) (mj := 176) (n := 3) (rc := 12) (ml := 3) (nr := 0) (np := 16) (as := [x_r 75, iv_c (2147483849 + 5 * u8), iv_c v881]) (rest := []) (lo1 := [x_r 75, iv_c (2147483849 + 5 * u8), iv_c v881]) (by decide +kernel) (by decide) (by decide +kernel) (x_rb_of (by decide +kernel)) rfl rfl (x_wr (by decide) (x_wi (by omega) (x_wi l882 x_wn))) x_wn (by decide) rfl ?_
      refine x_aload (np := 1) (x := 0) (by decide +kernel) rfl (x_nc_le (by decide)) ?_
      have q900 : h885 75 3 = 78 := by have z := jB (e := 3) 0 j886 rg_75_3_0_1 (by decide) (by decide); omega
      refine x_getR (np := 4) (x := 707) (f := 3) (q := 78) (by decide +kernel) (by decide) (by decide +kernel) q900 ?_
      refine x_iload (np := 5) (x := 1) (by decide +kernel) rfl (by omega) ?_
      refine x_iload (np := 6) (x := 2) (by decide +kernel) rfl l882 ?_
      refine x_ast (np := 7) (x := 0) (kd := 1) (n := 290) (i := (201 + 5 * u8)) (by decide +kernel) (Or.inl rfl) (by decide +kernel) (by omega) (by omega) (by decide) l882 (fun z => absurd z (by decide)) ?_
      have j902 := jU (e := (201 + 5 * u8)) (v := v881) u8 j886 rg_78_201_5_10 (by omega) (by omega) (by omega)
      have f904 := jF (e := (201 + 5 * u8)) (v := v881) u8 f895 rg_78_201_5_10 (by omega) (by omega) (by decide)
      generalize e903 : x_up h885 78 (201 + 5 * u8) v881 = h901 at j902 f904 ⊢
      refine x_iload (np := 8) (x := 2) (by decide +kernel) rfl l882 ?_
      refine x_ifz (k := 2) (tg := 15) (np := 11) (by decide +kernel) (by decide) l882 (fun q905 => ?_) (fun q906 => ?_)
      · have q905 : v881 < 2147483648 := q905
        refine x_const (np := 16) (x := 9223372039002259456) (a := 2147483648) (by decide +kernel) (by decide) (by decide) ?_
        refine x_retI (np := 17) (x := 0) (by decide +kernel) (by decide) (Or.inr ⟨by decide +kernel, by omega, by omega⟩) ⟨_, rfl, (by decide), ?_⟩
        refine x_retI (np := 17) (x := 0) (by decide +kernel) (by decide) (Or.inr ⟨by decide +kernel, by omega, by omega⟩) ⟨_, rfl, (by decide), ?_⟩
        refine x_ifz (k := 0) (tg := 154) (np := 80) (by decide +kernel) (by decide) (by decide) (fun q907 => ?_) (fun q908 => ?_)
        · have q907 : 2147483648 = 2147483648 := q907
          refine x_const (np := 155) (x := 9223372039002259456) (a := 2147483648) (by decide +kernel) (by decide) (by decide) ?_
          have b909 := jB (e := 0) 0 hJ rg_78_0_0_1 (by omega) (by omega)
          have q910 : h901 78 0 = h885 78 0 := by rw [← e903]; exact x_up_i (by omega)
          have q911 : h885 78 0 = h865 78 0 := jK 0 f887 rg_78_0_0_1 (by omega) (by omega) (by decide)
          have q912 : h865 78 0 = h14 78 0 := by rw [← e867]; exact x_up_i (by omega)
          have q913 : h14 78 0 = h 78 0 := jK 0 f16 rg_78_0_0_1 (by omega) (by omega) (by decide)
          have q914 : h901 78 1 = h885 78 1 := by rw [← e903]; exact x_up_i (by omega)
          have q915 : h885 78 1 = h865 78 1 := jK 0 f887 rg_78_1_0_1 (by omega) (by omega) (by decide)
          have q916 : h865 78 1 = h14 78 1 := by rw [← e867]; exact x_up_i (by omega)
          have q917 : h14 78 1 = h 78 1 := jK 0 f16 rg_78_1_0_1 (by omega) (by omega) (by decide)
          have b918 := jB (e := 2) 0 hJ rg_78_2_0_1 (by omega) (by omega)
          have q919 : h901 78 2 = h885 78 2 := by rw [← e903]; exact x_up_i (by omega)
          have q920 : h885 78 2 = h865 78 2 := jK 0 f887 rg_78_2_0_1 (by omega) (by omega) (by decide)
          have q921 : h865 78 2 = h14 78 2 := by rw [← e867]; exact x_up_i (by omega)
          have q922 : h14 78 2 = h 78 2 := jK 0 f16 rg_78_2_0_1 (by omega) (by omega) (by decide)
          have b923 := jB (e := 3) 0 hJ rg_78_3_0_1 (by omega) (by omega)
          have q924 : h901 78 3 = h885 78 3 := by rw [← e903]; exact x_up_i (by omega)
          have q925 : h885 78 3 = h865 78 3 := jK 0 f887 rg_78_3_0_1 (by omega) (by omega) (by decide)
          have q926 : h865 78 3 = h14 78 3 := by rw [← e867]; exact x_up_i (by omega)
          have q927 : h14 78 3 = h 78 3 := jK 0 f16 rg_78_3_0_1 (by omega) (by omega) (by decide)
          have q928 : h901 78 4 = h885 78 4 := by rw [← e903]; exact x_up_i (by omega)
          have q929 : h885 78 4 = h865 78 4 := jK 0 f887 rg_78_4_0_1 (by omega) (by omega) (by decide)
          have q930 : h865 78 4 = h14 78 4 := by rw [← e867]; exact x_up_i (by omega)
          have q931 : h14 78 4 = h 78 4 := jK 0 f16 rg_78_4_0_1 (by omega) (by omega) (by decide)
          have b932 := jB (e := 5) 0 hJ rg_78_5_0_1 (by omega) (by omega)
          have q933 : h901 78 5 = h885 78 5 := by rw [← e903]; exact x_up_i (by omega)
          have q934 : h885 78 5 = h865 78 5 := jK 0 f887 rg_78_5_0_1 (by omega) (by omega) (by decide)
          have q935 : h865 78 5 = h14 78 5 := by rw [← e867]; exact x_up_i (by omega)
          have q936 : h14 78 5 = h 78 5 := jK 0 f16 rg_78_5_0_1 (by omega) (by omega) (by decide)
          have y937 := Is.yes c33 (by omega)
          have w938 : Wd tB tN 10 (sk tB tN (h 75 7)) := by rw [← c21]; exact Wd.of' (by decide) y937 c22
          have e939 : sk tB tN (h14 75 7) = sk tB tN ((sk tB tN (h 75 7)) + iv_tl 10) := by rw [← c21, ← y937.1]
          have q940 : h865 75 7 = h14 75 7 := by rw [← e867]; exact x_up_k (by decide)
          refine x_retI (np := 156) (x := 0) (by decide +kernel) (by decide) (Or.inr ⟨by decide +kernel, by omega, by omega⟩) ⟨_, rfl, (by decide), ?_⟩
          exact ⟨j902, f904, (by omega), (fun z => by omega), (fun z => by omega), (fun z => by omega), (fun z => by omega), (fun z => by omega), (fun z => by omega), (fun z => absurd z (by omega)), (Or.inr ⟨by omega, (or9.f (wd_910 w938) rfl rfl (wd9.y w938 rfl e939 rfl (nm9.f c894 (by omega) (by omega) (congrArg (sk tB tN) (show h865 75 7 = h14 75 7 by omega)) (by omega) (by omega))))⟩)⟩
        have q908 : ¬ (2147483648 = 2147483648) := q908
        exfalso; omega
      have q906 : ¬ (v881 < 2147483648) := q906
      have b941 := c890 (by omega)
      have b942 := c891 (by omega)
      have b943 := c892 (by omega)
      refine x_const (np := 12) (x := 9223372043297226753) (a := 2147483649) (by decide +kernel) (by decide) (by decide) ?_
      refine x_goto (np := 15) (x := 16) (by decide +kernel) ?_
      refine x_retI (np := 17) (x := 0) (by decide +kernel) (by decide) (Or.inr ⟨by decide +kernel, by omega, by omega⟩) ⟨_, rfl, (by decide), ?_⟩
      refine x_retI (np := 17) (x := 0) (by decide +kernel) (by decide) (Or.inr ⟨by decide +kernel, by omega, by omega⟩) ⟨_, rfl, (by decide), ?_⟩
      refine x_ifz (k := 0) (tg := 154) (np := 80) (by decide +kernel) (by decide) (by decide) (fun q944 => ?_) (fun q945 => ?_)
      · have q944 : 2147483649 = 2147483648 := q944
        exfalso; omega
      have q945 : ¬ (2147483649 = 2147483648) := q945
      refine x_aload (np := 81) (x := 0) (by decide +kernel) rfl (x_nc_le (by decide)) ?_
      refine x_ldcB (i := 2) (idx := 147) (tx := "day") (by rw [tb_y184]; exact List.mem_of_getElem? (i := 37) rfl) (by decide) (by rw [tb_b184]; decide +kernel) ?_
      have m950 := Tq.fr m884 f887 (by decide) (by decide)
      have m949 : Tq tB tN h901 := by rw [← e903]; exact Tq.oth m950 (by decide) (fun z => absurd z.1 (by decide))
      refine x_cI (t := 6) (mj := 172) (n := 2) (rc := 12) (ml := 2) (nr := 0) (np := 86) (as := [x_r 75, x_b (2 + 1)]) (rest := []) (lo1 := [x_r 75, x_b (2 + 1)]) (by decide +kernel) (by decide) (by decide +kernel) (x_rb_of (by decide +kernel)) rfl rfl (x_wr (by decide) (x_wB (by decide) x_wn)) x_wn (by decide) rfl (c172_75_S0 j902  (by decide) m949) (fun v946 h951 l947 q948 => ?_)
      obtain ⟨j952, f953, b954, c955, c956, c957⟩ := q948
      have f958 := Fr.trans f904 f953 (by decide)
      have q959 : h901 75 7 = h885 75 7 := by rw [← e903]; exact x_up_k (by decide)
      have b960 := jB (e := 7) 0 j952 rg_75_7_0_1 (by omega) (by omega)
      have q961 : h901 75 7 = h885 75 7 := by rw [← e903]; exact x_up_k (by decide)
      refine x_ifz (k := 0) (tg := 154) (np := 89) (by decide +kernel) (by decide) l947 (fun q962 => ?_) (fun q963 => ?_)
      · have q962 : v946 = 2147483648 := q962
        refine x_const (np := 155) (x := 9223372039002259456) (a := 2147483648) (by decide +kernel) (by decide) (by decide) ?_
        have b964 := jB (e := 0) 0 hJ rg_78_0_0_1 (by omega) (by omega)
        have q965 : h951 78 0 = h901 78 0 := jK 0 f953 rg_78_0_0_1 (by omega) (by omega) (by decide)
        have q966 : h901 78 0 = h885 78 0 := by rw [← e903]; exact x_up_i (by omega)
        have q967 : h885 78 0 = h865 78 0 := jK 0 f887 rg_78_0_0_1 (by omega) (by omega) (by decide)
        have q968 : h865 78 0 = h14 78 0 := by rw [← e867]; exact x_up_i (by omega)
        have q969 : h14 78 0 = h 78 0 := jK 0 f16 rg_78_0_0_1 (by omega) (by omega) (by decide)
        have q970 : h951 78 1 = h901 78 1 := jK 0 f953 rg_78_1_0_1 (by omega) (by omega) (by decide)
        have q971 : h901 78 1 = h885 78 1 := by rw [← e903]; exact x_up_i (by omega)
        have q972 : h885 78 1 = h865 78 1 := jK 0 f887 rg_78_1_0_1 (by omega) (by omega) (by decide)
        have q973 : h865 78 1 = h14 78 1 := by rw [← e867]; exact x_up_i (by omega)
        have q974 : h14 78 1 = h 78 1 := jK 0 f16 rg_78_1_0_1 (by omega) (by omega) (by decide)
        have b975 := jB (e := 2) 0 hJ rg_78_2_0_1 (by omega) (by omega)
        have q976 : h951 78 2 = h901 78 2 := jK 0 f953 rg_78_2_0_1 (by omega) (by omega) (by decide)
        have q977 : h901 78 2 = h885 78 2 := by rw [← e903]; exact x_up_i (by omega)
        have q978 : h885 78 2 = h865 78 2 := jK 0 f887 rg_78_2_0_1 (by omega) (by omega) (by decide)
        have q979 : h865 78 2 = h14 78 2 := by rw [← e867]; exact x_up_i (by omega)
        have q980 : h14 78 2 = h 78 2 := jK 0 f16 rg_78_2_0_1 (by omega) (by omega) (by decide)
        have b981 := jB (e := 3) 0 hJ rg_78_3_0_1 (by omega) (by omega)
        have q982 : h951 78 3 = h901 78 3 := jK 0 f953 rg_78_3_0_1 (by omega) (by omega) (by decide)
        have q983 : h901 78 3 = h885 78 3 := by rw [← e903]; exact x_up_i (by omega)
        have q984 : h885 78 3 = h865 78 3 := jK 0 f887 rg_78_3_0_1 (by omega) (by omega) (by decide)
        have q985 : h865 78 3 = h14 78 3 := by rw [← e867]; exact x_up_i (by omega)
        have q986 : h14 78 3 = h 78 3 := jK 0 f16 rg_78_3_0_1 (by omega) (by omega) (by decide)
        have q987 : h951 78 4 = h901 78 4 := jK 0 f953 rg_78_4_0_1 (by omega) (by omega) (by decide)
        have q988 : h901 78 4 = h885 78 4 := by rw [← e903]; exact x_up_i (by omega)
        have q989 : h885 78 4 = h865 78 4 := jK 0 f887 rg_78_4_0_1 (by omega) (by omega) (by decide)
        have q990 : h865 78 4 = h14 78 4 := by rw [← e867]; exact x_up_i (by omega)
        have q991 : h14 78 4 = h 78 4 := jK 0 f16 rg_78_4_0_1 (by omega) (by omega) (by decide)
        have b992 := jB (e := 5) 0 hJ rg_78_5_0_1 (by omega) (by omega)
        have q993 : h951 78 5 = h901 78 5 := jK 0 f953 rg_78_5_0_1 (by omega) (by omega) (by decide)
        have q994 : h901 78 5 = h885 78 5 := by rw [← e903]; exact x_up_i (by omega)
        have q995 : h885 78 5 = h865 78 5 := jK 0 f887 rg_78_5_0_1 (by omega) (by omega) (by decide)
        have q996 : h865 78 5 = h14 78 5 := by rw [← e867]; exact x_up_i (by omega)
        have q997 : h14 78 5 = h 78 5 := jK 0 f16 rg_78_5_0_1 (by omega) (by omega) (by decide)
        have y998 := Is.yes c33 (by omega)
        have w999 : Wd tB tN 10 (sk tB tN (h 75 7)) := by rw [← c21]; exact Wd.of' (by decide) y998 c22
        have e1000 : sk tB tN (h14 75 7) = sk tB tN ((sk tB tN (h 75 7)) + iv_tl 10) := by rw [← c21, ← y998.1]
        have q1001 : h865 75 7 = h14 75 7 := by rw [← e867]; exact x_up_k (by decide)
        have q1002 : h901 75 7 = h885 75 7 := by rw [← e903]; exact x_up_k (by decide)
        refine x_retI (np := 156) (x := 0) (by decide +kernel) (by decide) (Or.inr ⟨by decide +kernel, by omega, by omega⟩) ⟨_, rfl, (by decide), ?_⟩
        exact ⟨j952, f958, (by omega), (fun z => by omega), (fun z => by omega), (fun z => by omega), (fun z => by omega), (fun z => by omega), (fun z => by omega), (fun z => absurd z (by omega)), (Or.inr ⟨by omega, (or9.f (wd_910 w999) rfl rfl (wd9.y w999 rfl e1000 rfl (nm9.y c894 (by omega) (by omega) (congrArg (sk tB tN) (show h865 75 7 = h14 75 7 by omega)) (by omega) rfl (wd9.f (Tw.no c957 (by omega)) (congrArg (sk tB tN) (show h901 75 7 = h885 75 7 by omega)) (by omega)))))⟩)⟩
      have q963 : ¬ (v946 = 2147483648) := q963
      have b1003 := c956 (by omega)
      refine x_aload (np := 90) (x := 0) (by decide +kernel) rfl (x_nc_le (by decide)) ?_
      refine x_iload (np := 91) (x := 1) (by decide +kernel) rfl (by omega) ?_
      refine x_const (np := 92) (x := 9223372047592194050) (a := 2147483650) (by decide +kernel) (by decide) (by decide) ?_
      refine x_iadd (np := 93) (x := 0) (v := (2147483850 + 5 * u8)) (by decide +kernel) (by omega) (by decide) (by omega) (by omega) ?_
      refine x_const (np := 94) (x := 9223372039002259456) (a := 2147483648) (by decide +kernel) (by decide) (by decide) ?_
      refine x_nI (t := 6) (mj := 178) (n := 3) (rc := 12) (ml := 3) (nr := 0) (np := 97) (as := [x_r 75, iv_c (2147483850 + 5 * u8), iv_c 2147483648]) (rest := []) (lo1 := [x_r 75, iv_c (2147483850 + 5 * u8), iv_c 2147483648]) (by decide +kernel) (by decide) (by decide +kernel) (x_rb_of (by decide +kernel)) rfl rfl (x_wr (by decide) (x_wi (by omega) (x_wi (by decide) x_wn))) x_wn (by decide) rfl ?_
      refine x_aload (np := 1) (x := 0) (by decide +kernel) rfl (x_nc_le (by decide)) ?_
      refine x_iload (np := 2) (x := 1) (by decide +kernel) rfl (by omega) ?_
      refine x_aload (np := 3) (x := 0) (by decide +kernel) rfl (x_nc_le (by decide)) ?_
      refine x_iload (np := 4) (x := 2) (by decide +kernel) rfl (by decide) ?_
      refine x_const (np := 6) (x := 9223372086246899723) (a := 2147483659) (by decide +kernel) (by decide) (by decide) ?_
      have m1007 := Tq.fr m949 f953 (by decide) (by decide)
      refine x_cI (t := 6) (mj := 174) (n := 3) (rc := 12) (ml := 4) (nr := 2) (np := 9) (as := [x_r 75, iv_c 2147483648, iv_c 2147483659]) (rest := [iv_c (2147483850 + 5 * u8), x_r 75]) (lo1 := [x_r 75, iv_c 2147483648, iv_c 2147483659, 147573952589676412928]) (by decide +kernel) (by decide) (by decide +kernel) (x_rb_of (by decide +kernel)) rfl rfl (x_wr (by decide) (x_wi (by decide) (x_wi (by decide) x_wn))) (x_wi (by omega) (x_wr (by decide) x_wn)) (by decide) rfl (c174_75 j952  (by omega) (by omega) m1007) (fun v1004 h1008 l1005 q1006 => ?_)
      obtain ⟨j1009, f1010, b1011, c1012, c1013, c1014, c1015, c1016, c1017⟩ := q1006
      have f1018 := Fr.trans f958 f1010 (by decide)
      have b1019 := jB (e := 7) 0 j1009 rg_75_7_0_1 (by omega) (by omega)
      have b1020 := c1016 (by omega)
      refine x_nI (t := 6) (mj := 176) (n := 3) (rc := 12) (ml := 3) (nr := 0) (np := 12) (as := [x_r 75, iv_c (2147483850 + 5 * u8), iv_c v1004]) (rest := []) (lo1 := [x_r 75, iv_c (2147483850 + 5 * u8), iv_c v1004]) (by decide +kernel) (by decide) (by decide +kernel) (x_rb_of (by decide +kernel)) rfl rfl (x_wr (by decide) (x_wi (by omega) (x_wi l1005 x_wn))) x_wn (by decide) rfl ?_
      refine x_aload (np := 1) (x := 0) (by decide +kernel) rfl (x_nc_le (by decide)) ?_
      have q1021 : h1008 75 3 = 78 := by have z := jB (e := 3) 0 j1009 rg_75_3_0_1 (by decide) (by decide); omega
      refine x_getR (np := 4) (x := 707) (f := 3) (q := 78) (by decide +kernel) (by decide) (by decide +kernel) q1021 ?_
      refine x_iload (np := 5) (x := 1) (by decide +kernel) rfl (by omega) ?_
      refine x_iload (np := 6) (x := 2) (by decide +kernel) rfl l1005 ?_
      refine x_ast (np := 7) (x := 0) (kd := 1) (n := 290) (i := (202 + 5 * u8)) (by decide +kernel) (Or.inl rfl) (by decide +kernel) (by omega) (by omega) (by decide) l1005 (fun z => absurd z (by decide)) ?_
      have j1023 := jU (e := (202 + 5 * u8)) (v := v1004) u8 j1009 rg_78_202_5_10 (by omega) (by omega) (by omega)
      have f1025 := jF (e := (202 + 5 * u8)) (v := v1004) u8 f1018 rg_78_202_5_10 (by omega) (by omega) (by decide)
      generalize e1024 : x_up h1008 78 (202 + 5 * u8) v1004 = h1022 at j1023 f1025 ⊢
      refine x_iload (np := 8) (x := 2) (by decide +kernel) rfl l1005 ?_
      refine x_ifz (k := 2) (tg := 15) (np := 11) (by decide +kernel) (by decide) l1005 (fun q1026 => ?_) (fun q1027 => ?_)
      · have q1026 : v1004 < 2147483648 := q1026
        refine x_const (np := 16) (x := 9223372039002259456) (a := 2147483648) (by decide +kernel) (by decide) (by decide) ?_
        refine x_retI (np := 17) (x := 0) (by decide +kernel) (by decide) (Or.inr ⟨by decide +kernel, by omega, by omega⟩) ⟨_, rfl, (by decide), ?_⟩
        refine x_retI (np := 13) (x := 0) (by decide +kernel) (by decide) (Or.inr ⟨by decide +kernel, by omega, by omega⟩) ⟨_, rfl, (by decide), ?_⟩
        refine x_ifz (k := 0) (tg := 154) (np := 100) (by decide +kernel) (by decide) (by decide) (fun q1028 => ?_) (fun q1029 => ?_)
        · have q1028 : 2147483648 = 2147483648 := q1028
          refine x_const (np := 155) (x := 9223372039002259456) (a := 2147483648) (by decide +kernel) (by decide) (by decide) ?_
          have b1030 := jB (e := 0) 0 hJ rg_78_0_0_1 (by omega) (by omega)
          have q1031 : h1022 78 0 = h1008 78 0 := by rw [← e1024]; exact x_up_i (by omega)
          have q1032 : h1008 78 0 = h951 78 0 := jK 0 f1010 rg_78_0_0_1 (by omega) (by omega) (by decide)
          have q1033 : h951 78 0 = h901 78 0 := jK 0 f953 rg_78_0_0_1 (by omega) (by omega) (by decide)
          have q1034 : h901 78 0 = h885 78 0 := by rw [← e903]; exact x_up_i (by omega)
          have q1035 : h885 78 0 = h865 78 0 := jK 0 f887 rg_78_0_0_1 (by omega) (by omega) (by decide)
          have q1036 : h865 78 0 = h14 78 0 := by rw [← e867]; exact x_up_i (by omega)
          have q1037 : h14 78 0 = h 78 0 := jK 0 f16 rg_78_0_0_1 (by omega) (by omega) (by decide)
          have q1038 : h1022 78 1 = h1008 78 1 := by rw [← e1024]; exact x_up_i (by omega)
          have q1039 : h1008 78 1 = h951 78 1 := jK 0 f1010 rg_78_1_0_1 (by omega) (by omega) (by decide)
          have q1040 : h951 78 1 = h901 78 1 := jK 0 f953 rg_78_1_0_1 (by omega) (by omega) (by decide)
          have q1041 : h901 78 1 = h885 78 1 := by rw [← e903]; exact x_up_i (by omega)
          have q1042 : h885 78 1 = h865 78 1 := jK 0 f887 rg_78_1_0_1 (by omega) (by omega) (by decide)
          have q1043 : h865 78 1 = h14 78 1 := by rw [← e867]; exact x_up_i (by omega)
          have q1044 : h14 78 1 = h 78 1 := jK 0 f16 rg_78_1_0_1 (by omega) (by omega) (by decide)
          have b1045 := jB (e := 2) 0 hJ rg_78_2_0_1 (by omega) (by omega)
          have q1046 : h1022 78 2 = h1008 78 2 := by rw [← e1024]; exact x_up_i (by omega)
          have q1047 : h1008 78 2 = h951 78 2 := jK 0 f1010 rg_78_2_0_1 (by omega) (by omega) (by decide)
          have q1048 : h951 78 2 = h901 78 2 := jK 0 f953 rg_78_2_0_1 (by omega) (by omega) (by decide)
          have q1049 : h901 78 2 = h885 78 2 := by rw [← e903]; exact x_up_i (by omega)
          have q1050 : h885 78 2 = h865 78 2 := jK 0 f887 rg_78_2_0_1 (by omega) (by omega) (by decide)
          have q1051 : h865 78 2 = h14 78 2 := by rw [← e867]; exact x_up_i (by omega)
          have q1052 : h14 78 2 = h 78 2 := jK 0 f16 rg_78_2_0_1 (by omega) (by omega) (by decide)
          have b1053 := jB (e := 3) 0 hJ rg_78_3_0_1 (by omega) (by omega)
          have q1054 : h1022 78 3 = h1008 78 3 := by rw [← e1024]; exact x_up_i (by omega)
          have q1055 : h1008 78 3 = h951 78 3 := jK 0 f1010 rg_78_3_0_1 (by omega) (by omega) (by decide)
          have q1056 : h951 78 3 = h901 78 3 := jK 0 f953 rg_78_3_0_1 (by omega) (by omega) (by decide)
          have q1057 : h901 78 3 = h885 78 3 := by rw [← e903]; exact x_up_i (by omega)
          have q1058 : h885 78 3 = h865 78 3 := jK 0 f887 rg_78_3_0_1 (by omega) (by omega) (by decide)
          have q1059 : h865 78 3 = h14 78 3 := by rw [← e867]; exact x_up_i (by omega)
          have q1060 : h14 78 3 = h 78 3 := jK 0 f16 rg_78_3_0_1 (by omega) (by omega) (by decide)
          have q1061 : h1022 78 4 = h1008 78 4 := by rw [← e1024]; exact x_up_i (by omega)
          have q1062 : h1008 78 4 = h951 78 4 := jK 0 f1010 rg_78_4_0_1 (by omega) (by omega) (by decide)
          have q1063 : h951 78 4 = h901 78 4 := jK 0 f953 rg_78_4_0_1 (by omega) (by omega) (by decide)
          have q1064 : h901 78 4 = h885 78 4 := by rw [← e903]; exact x_up_i (by omega)
          have q1065 : h885 78 4 = h865 78 4 := jK 0 f887 rg_78_4_0_1 (by omega) (by omega) (by decide)
          have q1066 : h865 78 4 = h14 78 4 := by rw [← e867]; exact x_up_i (by omega)
          have q1067 : h14 78 4 = h 78 4 := jK 0 f16 rg_78_4_0_1 (by omega) (by omega) (by decide)
          have b1068 := jB (e := 5) 0 hJ rg_78_5_0_1 (by omega) (by omega)
          have q1069 : h1022 78 5 = h1008 78 5 := by rw [← e1024]; exact x_up_i (by omega)
          have q1070 : h1008 78 5 = h951 78 5 := jK 0 f1010 rg_78_5_0_1 (by omega) (by omega) (by decide)
          have q1071 : h951 78 5 = h901 78 5 := jK 0 f953 rg_78_5_0_1 (by omega) (by omega) (by decide)
          have q1072 : h901 78 5 = h885 78 5 := by rw [← e903]; exact x_up_i (by omega)
          have q1073 : h885 78 5 = h865 78 5 := jK 0 f887 rg_78_5_0_1 (by omega) (by omega) (by decide)
          have q1074 : h865 78 5 = h14 78 5 := by rw [← e867]; exact x_up_i (by omega)
          have q1075 : h14 78 5 = h 78 5 := jK 0 f16 rg_78_5_0_1 (by omega) (by omega) (by decide)
          have y1076 := Is.yes c33 (by omega)
          have w1077 : Wd tB tN 10 (sk tB tN (h 75 7)) := by rw [← c21]; exact Wd.of' (by decide) y1076 c22
          have e1078 : sk tB tN (h14 75 7) = sk tB tN ((sk tB tN (h 75 7)) + iv_tl 10) := by rw [← c21, ← y1076.1]
          have q1079 : h865 75 7 = h14 75 7 := by rw [← e867]; exact x_up_k (by decide)
          have q1080 : h901 75 7 = h885 75 7 := by rw [← e903]; exact x_up_k (by decide)
          obtain ⟨w1081, e1082⟩ := Tw.yes c957 (by omega)
          refine x_retI (np := 156) (x := 0) (by decide +kernel) (by decide) (Or.inr ⟨by decide +kernel, by omega, by omega⟩) ⟨_, rfl, (by decide), ?_⟩
          exact ⟨j1023, f1025, (by omega), (fun z => by omega), (fun z => by omega), (fun z => by omega), (fun z => by omega), (fun z => by omega), (fun z => by omega), (fun z => absurd z (by omega)), (Or.inr ⟨by omega, (or9.f (wd_910 w1077) rfl rfl (wd9.y w1077 rfl e1078 rfl (nm9.y c894 (by omega) (by omega) (congrArg (sk tB tN) (show h865 75 7 = h14 75 7 by omega)) (by omega) rfl (wd9.y w1081 (congrArg (sk tB tN) (show h901 75 7 = h885 75 7 by omega)) e1082 rfl (nm9.f c1017 (by omega) (by omega) rfl (by omega) (by omega))))))⟩)⟩
        have q1029 : ¬ (2147483648 = 2147483648) := q1029
        exfalso; omega
      have q1027 : ¬ (v1004 < 2147483648) := q1027
      have b1083 := c1013 (by omega)
      have b1084 := c1014 (by omega)
      have b1085 := c1015 (by omega)
      refine x_const (np := 12) (x := 9223372043297226753) (a := 2147483649) (by decide +kernel) (by decide) (by decide) ?_
      refine x_goto (np := 15) (x := 16) (by decide +kernel) ?_
      refine x_retI (np := 17) (x := 0) (by decide +kernel) (by decide) (Or.inr ⟨by decide +kernel, by omega, by omega⟩) ⟨_, rfl, (by decide), ?_⟩
      refine x_retI (np := 13) (x := 0) (by decide +kernel) (by decide) (Or.inr ⟨by decide +kernel, by omega, by omega⟩) ⟨_, rfl, (by decide), ?_⟩
      refine x_ifz (k := 0) (tg := 154) (np := 100) (by decide +kernel) (by decide) (by decide) (fun q1086 => ?_) (fun q1087 => ?_)
      · have q1086 : 2147483649 = 2147483648 := q1086
        exfalso; omega
      have q1087 : ¬ (2147483649 = 2147483648) := q1087
      refine x_aload (np := 101) (x := 0) (by decide +kernel) rfl (x_nc_le (by decide)) ?_
      refine x_ldcB (i := 11) (idx := 173) (tx := "judged") (by rw [tb_y184]; exact List.mem_of_getElem? (i := 50) rfl) (by decide) (by rw [tb_b184]; decide +kernel) ?_
      have m1092 := Tq.fr m1007 f1010 (by decide) (by decide)
      have m1091 : Tq tB tN h1022 := by rw [← e1024]; exact Tq.oth m1092 (by decide) (fun z => absurd z.1 (by decide))
      refine x_cI (t := 6) (mj := 172) (n := 2) (rc := 12) (ml := 2) (nr := 0) (np := 106) (as := [x_r 75, x_b (11 + 1)]) (rest := []) (lo1 := [x_r 75, x_b (11 + 1)]) (by decide +kernel) (by decide) (by decide +kernel) (x_rb_of (by decide +kernel)) rfl rfl (x_wr (by decide) (x_wB (by decide) x_wn)) x_wn (by decide) rfl (c172_75_S0 j1023  (by decide) m1091) (fun v1088 h1093 l1089 q1090 => ?_)
      obtain ⟨j1094, f1095, b1096, c1097, c1098, c1099⟩ := q1090
      have f1100 := Fr.trans f1025 f1095 (by decide)
      have q1101 : h1022 75 7 = h1008 75 7 := by rw [← e1024]; exact x_up_k (by decide)
      have b1102 := jB (e := 7) 0 j1094 rg_75_7_0_1 (by omega) (by omega)
      have q1103 : h1022 75 7 = h1008 75 7 := by rw [← e1024]; exact x_up_k (by decide)
      refine x_ifz (k := 0) (tg := 154) (np := 109) (by decide +kernel) (by decide) l1089 (fun q1104 => ?_) (fun q1105 => ?_)
      · have q1104 : v1088 = 2147483648 := q1104
        refine x_const (np := 155) (x := 9223372039002259456) (a := 2147483648) (by decide +kernel) (by decide) (by decide) ?_
        have b1106 := jB (e := 0) 0 hJ rg_78_0_0_1 (by omega) (by omega)
        have q1107 : h1093 78 0 = h1022 78 0 := jK 0 f1095 rg_78_0_0_1 (by omega) (by omega) (by decide)
        have q1108 : h1022 78 0 = h1008 78 0 := by rw [← e1024]; exact x_up_i (by omega)
        have q1109 : h1008 78 0 = h951 78 0 := jK 0 f1010 rg_78_0_0_1 (by omega) (by omega) (by decide)
        have q1110 : h951 78 0 = h901 78 0 := jK 0 f953 rg_78_0_0_1 (by omega) (by omega) (by decide)
        have q1111 : h901 78 0 = h885 78 0 := by rw [← e903]; exact x_up_i (by omega)
        have q1112 : h885 78 0 = h865 78 0 := jK 0 f887 rg_78_0_0_1 (by omega) (by omega) (by decide)
        have q1113 : h865 78 0 = h14 78 0 := by rw [← e867]; exact x_up_i (by omega)
        have q1114 : h14 78 0 = h 78 0 := jK 0 f16 rg_78_0_0_1 (by omega) (by omega) (by decide)
        have q1115 : h1093 78 1 = h1022 78 1 := jK 0 f1095 rg_78_1_0_1 (by omega) (by omega) (by decide)
        have q1116 : h1022 78 1 = h1008 78 1 := by rw [← e1024]; exact x_up_i (by omega)
        have q1117 : h1008 78 1 = h951 78 1 := jK 0 f1010 rg_78_1_0_1 (by omega) (by omega) (by decide)
        have q1118 : h951 78 1 = h901 78 1 := jK 0 f953 rg_78_1_0_1 (by omega) (by omega) (by decide)
        have q1119 : h901 78 1 = h885 78 1 := by rw [← e903]; exact x_up_i (by omega)
        have q1120 : h885 78 1 = h865 78 1 := jK 0 f887 rg_78_1_0_1 (by omega) (by omega) (by decide)
        have q1121 : h865 78 1 = h14 78 1 := by rw [← e867]; exact x_up_i (by omega)
        have q1122 : h14 78 1 = h 78 1 := jK 0 f16 rg_78_1_0_1 (by omega) (by omega) (by decide)
        have b1123 := jB (e := 2) 0 hJ rg_78_2_0_1 (by omega) (by omega)
        have q1124 : h1093 78 2 = h1022 78 2 := jK 0 f1095 rg_78_2_0_1 (by omega) (by omega) (by decide)
        have q1125 : h1022 78 2 = h1008 78 2 := by rw [← e1024]; exact x_up_i (by omega)
        have q1126 : h1008 78 2 = h951 78 2 := jK 0 f1010 rg_78_2_0_1 (by omega) (by omega) (by decide)
        have q1127 : h951 78 2 = h901 78 2 := jK 0 f953 rg_78_2_0_1 (by omega) (by omega) (by decide)
        have q1128 : h901 78 2 = h885 78 2 := by rw [← e903]; exact x_up_i (by omega)
        have q1129 : h885 78 2 = h865 78 2 := jK 0 f887 rg_78_2_0_1 (by omega) (by omega) (by decide)
        have q1130 : h865 78 2 = h14 78 2 := by rw [← e867]; exact x_up_i (by omega)
        have q1131 : h14 78 2 = h 78 2 := jK 0 f16 rg_78_2_0_1 (by omega) (by omega) (by decide)
        have b1132 := jB (e := 3) 0 hJ rg_78_3_0_1 (by omega) (by omega)
        have q1133 : h1093 78 3 = h1022 78 3 := jK 0 f1095 rg_78_3_0_1 (by omega) (by omega) (by decide)
        have q1134 : h1022 78 3 = h1008 78 3 := by rw [← e1024]; exact x_up_i (by omega)
        have q1135 : h1008 78 3 = h951 78 3 := jK 0 f1010 rg_78_3_0_1 (by omega) (by omega) (by decide)
        have q1136 : h951 78 3 = h901 78 3 := jK 0 f953 rg_78_3_0_1 (by omega) (by omega) (by decide)
        have q1137 : h901 78 3 = h885 78 3 := by rw [← e903]; exact x_up_i (by omega)
        have q1138 : h885 78 3 = h865 78 3 := jK 0 f887 rg_78_3_0_1 (by omega) (by omega) (by decide)
        have q1139 : h865 78 3 = h14 78 3 := by rw [← e867]; exact x_up_i (by omega)
        have q1140 : h14 78 3 = h 78 3 := jK 0 f16 rg_78_3_0_1 (by omega) (by omega) (by decide)
        have q1141 : h1093 78 4 = h1022 78 4 := jK 0 f1095 rg_78_4_0_1 (by omega) (by omega) (by decide)
        have q1142 : h1022 78 4 = h1008 78 4 := by rw [← e1024]; exact x_up_i (by omega)
        have q1143 : h1008 78 4 = h951 78 4 := jK 0 f1010 rg_78_4_0_1 (by omega) (by omega) (by decide)
        have q1144 : h951 78 4 = h901 78 4 := jK 0 f953 rg_78_4_0_1 (by omega) (by omega) (by decide)
        have q1145 : h901 78 4 = h885 78 4 := by rw [← e903]; exact x_up_i (by omega)
        have q1146 : h885 78 4 = h865 78 4 := jK 0 f887 rg_78_4_0_1 (by omega) (by omega) (by decide)
        have q1147 : h865 78 4 = h14 78 4 := by rw [← e867]; exact x_up_i (by omega)
        have q1148 : h14 78 4 = h 78 4 := jK 0 f16 rg_78_4_0_1 (by omega) (by omega) (by decide)
        have b1149 := jB (e := 5) 0 hJ rg_78_5_0_1 (by omega) (by omega)
        have q1150 : h1093 78 5 = h1022 78 5 := jK 0 f1095 rg_78_5_0_1 (by omega) (by omega) (by decide)
        have q1151 : h1022 78 5 = h1008 78 5 := by rw [← e1024]; exact x_up_i (by omega)
        have q1152 : h1008 78 5 = h951 78 5 := jK 0 f1010 rg_78_5_0_1 (by omega) (by omega) (by decide)
        have q1153 : h951 78 5 = h901 78 5 := jK 0 f953 rg_78_5_0_1 (by omega) (by omega) (by decide)
        have q1154 : h901 78 5 = h885 78 5 := by rw [← e903]; exact x_up_i (by omega)
        have q1155 : h885 78 5 = h865 78 5 := jK 0 f887 rg_78_5_0_1 (by omega) (by omega) (by decide)
        have q1156 : h865 78 5 = h14 78 5 := by rw [← e867]; exact x_up_i (by omega)
        have q1157 : h14 78 5 = h 78 5 := jK 0 f16 rg_78_5_0_1 (by omega) (by omega) (by decide)
        have y1158 := Is.yes c33 (by omega)
        have w1159 : Wd tB tN 10 (sk tB tN (h 75 7)) := by rw [← c21]; exact Wd.of' (by decide) y1158 c22
        have e1160 : sk tB tN (h14 75 7) = sk tB tN ((sk tB tN (h 75 7)) + iv_tl 10) := by rw [← c21, ← y1158.1]
        have q1161 : h865 75 7 = h14 75 7 := by rw [← e867]; exact x_up_k (by decide)
        have q1162 : h901 75 7 = h885 75 7 := by rw [← e903]; exact x_up_k (by decide)
        obtain ⟨w1163, e1164⟩ := Tw.yes c957 (by omega)
        have q1165 : h1022 75 7 = h1008 75 7 := by rw [← e1024]; exact x_up_k (by decide)
        refine x_retI (np := 156) (x := 0) (by decide +kernel) (by decide) (Or.inr ⟨by decide +kernel, by omega, by omega⟩) ⟨_, rfl, (by decide), ?_⟩
        exact ⟨j1094, f1100, (by omega), (fun z => by omega), (fun z => by omega), (fun z => by omega), (fun z => by omega), (fun z => by omega), (fun z => by omega), (fun z => absurd z (by omega)), (Or.inr ⟨by omega, (or9.f (wd_910 w1159) rfl rfl (wd9.y w1159 rfl e1160 rfl (nm9.y c894 (by omega) (by omega) (congrArg (sk tB tN) (show h865 75 7 = h14 75 7 by omega)) (by omega) rfl (wd9.y w1163 (congrArg (sk tB tN) (show h901 75 7 = h885 75 7 by omega)) e1164 rfl (nm9.y c1017 (by omega) (by omega) rfl (by omega) rfl (wd9.f (Tw.no c1099 (by omega)) (congrArg (sk tB tN) (show h1022 75 7 = h1008 75 7 by omega)) (by omega)))))))⟩)⟩
      have q1105 : ¬ (v1088 = 2147483648) := q1105
      have b1166 := c1098 (by omega)
      refine x_aload (np := 110) (x := 0) (by decide +kernel) rfl (x_nc_le (by decide)) ?_
      refine x_iload (np := 111) (x := 1) (by decide +kernel) rfl (by omega) ?_
      refine x_const (np := 112) (x := 9223372051887161347) (a := 2147483651) (by decide +kernel) (by decide) (by decide) ?_
      refine x_iadd (np := 113) (x := 0) (v := (2147483851 + 5 * u8)) (by decide +kernel) (by omega) (by decide) (by omega) (by omega) ?_
      refine x_aload (np := 114) (x := 0) (by decide +kernel) rfl (x_nc_le (by decide)) ?_
      have q1167 : h1093 75 3 = 78 := by have z := jB (e := 3) 0 j1094 rg_75_3_0_1 (by decide) (by decide); omega
      refine x_getR (np := 117) (x := 707) (f := 3) (q := 78) (by decide +kernel) (by decide) (by decide +kernel) q1167 ?_
      refine x_iload (np := 118) (x := 1) (by decide +kernel) rfl (by omega) ?_
      refine x_const (np := 119) (x := 9223372047592194050) (a := 2147483650) (by decide +kernel) (by decide) (by decide) ?_
      refine x_iadd (np := 120) (x := 0) (v := (2147483850 + 5 * u8)) (by decide +kernel) (by omega) (by decide) (by omega) (by omega) ?_
      have q1168 : h1093 78 (202 + 5 * u8) = h1022 78 (202 + 5 * u8) := jK u8 f1095 rg_78_202_5_10 (by omega) (by omega) (by decide)
      have q1169 : h1022 78 (202 + 5 * u8) = v1004 := by rw [← e1024]; exact x_up_at
      refine x_aldC (np := 121) (x := 0) (n := 290) (i := (202 + 5 * u8)) (q := v1004) (by decide +kernel) (by decide +kernel) (by omega) (by omega) (by decide) (q1168.trans q1169) (fun l1170 => ?_)
      refine x_nI (t := 6) (mj := 178) (n := 3) (rc := 12) (ml := 3) (nr := 0) (np := 124) (as := [x_r 75, iv_c (2147483851 + 5 * u8), iv_c v1004]) (rest := []) (lo1 := [x_r 75, iv_c (2147483851 + 5 * u8), iv_c v1004]) (by decide +kernel) (by decide) (by decide +kernel) (x_rb_of (by decide +kernel)) rfl rfl (x_wr (by decide) (x_wi (by omega) (x_wi l1005 x_wn))) x_wn (by decide) rfl ?_
      refine x_aload (np := 1) (x := 0) (by decide +kernel) rfl (x_nc_le (by decide)) ?_
      refine x_iload (np := 2) (x := 1) (by decide +kernel) rfl (by omega) ?_
      refine x_aload (np := 3) (x := 0) (by decide +kernel) rfl (x_nc_le (by decide)) ?_
      refine x_iload (np := 4) (x := 2) (by decide +kernel) rfl l1005 ?_
      refine x_const (np := 6) (x := 9223372086246899723) (a := 2147483659) (by decide +kernel) (by decide) (by decide) ?_
      have m1174 := Tq.fr m1091 f1095 (by decide) (by decide)
      refine x_cI (t := 6) (mj := 174) (n := 3) (rc := 12) (ml := 4) (nr := 2) (np := 9) (as := [x_r 75, iv_c v1004, iv_c 2147483659]) (rest := [iv_c (2147483851 + 5 * u8), x_r 75]) (lo1 := [x_r 75, iv_c v1004, iv_c 2147483659, 147573952589676412928]) (by decide +kernel) (by decide) (by decide +kernel) (x_rb_of (by decide +kernel)) rfl rfl (x_wr (by decide) (x_wi l1005 (x_wi (by decide) x_wn))) (x_wi (by omega) (x_wr (by decide) x_wn)) (by decide) rfl (c174_75 j1094  (by omega) (by omega) m1174) (fun v1171 h1175 l1172 q1173 => ?_)
      obtain ⟨j1176, f1177, b1178, c1179, c1180, c1181, c1182, c1183, c1184⟩ := q1173
      have f1185 := Fr.trans f1100 f1177 (by decide)
      have b1186 := jB (e := 7) 0 j1176 rg_75_7_0_1 (by omega) (by omega)
      have b1187 := c1183 (by omega)
      refine x_nI (t := 6) (mj := 176) (n := 3) (rc := 12) (ml := 3) (nr := 0) (np := 12) (as := [x_r 75, iv_c (2147483851 + 5 * u8), iv_c v1171]) (rest := []) (lo1 := [x_r 75, iv_c (2147483851 + 5 * u8), iv_c v1171]) (by decide +kernel) (by decide) (by decide +kernel) (x_rb_of (by decide +kernel)) rfl rfl (x_wr (by decide) (x_wi (by omega) (x_wi l1172 x_wn))) x_wn (by decide) rfl ?_
      refine x_aload (np := 1) (x := 0) (by decide +kernel) rfl (x_nc_le (by decide)) ?_
      have q1188 : h1175 75 3 = 78 := by have z := jB (e := 3) 0 j1176 rg_75_3_0_1 (by decide) (by decide); omega
      refine x_getR (np := 4) (x := 707) (f := 3) (q := 78) (by decide +kernel) (by decide) (by decide +kernel) q1188 ?_
      refine x_iload (np := 5) (x := 1) (by decide +kernel) rfl (by omega) ?_
      refine x_iload (np := 6) (x := 2) (by decide +kernel) rfl l1172 ?_
      refine x_ast (np := 7) (x := 0) (kd := 1) (n := 290) (i := (203 + 5 * u8)) (by decide +kernel) (Or.inl rfl) (by decide +kernel) (by omega) (by omega) (by decide) l1172 (fun z => absurd z (by decide)) ?_
      have j1190 := jU (e := (203 + 5 * u8)) (v := v1171) u8 j1176 rg_78_203_5_10 (by omega) (by omega) (by omega)
      have f1192 := jF (e := (203 + 5 * u8)) (v := v1171) u8 f1185 rg_78_203_5_10 (by omega) (by omega) (by decide)
      generalize e1191 : x_up h1175 78 (203 + 5 * u8) v1171 = h1189 at j1190 f1192 ⊢
      refine x_iload (np := 8) (x := 2) (by decide +kernel) rfl l1172 ?_
      refine x_ifz (k := 2) (tg := 15) (np := 11) (by decide +kernel) (by decide) l1172 (fun q1193 => ?_) (fun q1194 => ?_)
      · have q1193 : v1171 < 2147483648 := q1193
        refine x_const (np := 16) (x := 9223372039002259456) (a := 2147483648) (by decide +kernel) (by decide) (by decide) ?_
        refine x_retI (np := 17) (x := 0) (by decide +kernel) (by decide) (Or.inr ⟨by decide +kernel, by omega, by omega⟩) ⟨_, rfl, (by decide), ?_⟩
        refine x_retI (np := 13) (x := 0) (by decide +kernel) (by decide) (Or.inr ⟨by decide +kernel, by omega, by omega⟩) ⟨_, rfl, (by decide), ?_⟩
        refine x_ifz (k := 0) (tg := 154) (np := 127) (by decide +kernel) (by decide) (by decide) (fun q1195 => ?_) (fun q1196 => ?_)
        · have q1195 : 2147483648 = 2147483648 := q1195
          refine x_const (np := 155) (x := 9223372039002259456) (a := 2147483648) (by decide +kernel) (by decide) (by decide) ?_
          have b1197 := jB (e := 0) 0 hJ rg_78_0_0_1 (by omega) (by omega)
          have q1198 : h1189 78 0 = h1175 78 0 := by rw [← e1191]; exact x_up_i (by omega)
          have q1199 : h1175 78 0 = h1093 78 0 := jK 0 f1177 rg_78_0_0_1 (by omega) (by omega) (by decide)
          have q1200 : h1093 78 0 = h1022 78 0 := jK 0 f1095 rg_78_0_0_1 (by omega) (by omega) (by decide)
          have q1201 : h1022 78 0 = h1008 78 0 := by rw [← e1024]; exact x_up_i (by omega)
          have q1202 : h1008 78 0 = h951 78 0 := jK 0 f1010 rg_78_0_0_1 (by omega) (by omega) (by decide)
          have q1203 : h951 78 0 = h901 78 0 := jK 0 f953 rg_78_0_0_1 (by omega) (by omega) (by decide)
          have q1204 : h901 78 0 = h885 78 0 := by rw [← e903]; exact x_up_i (by omega)
          have q1205 : h885 78 0 = h865 78 0 := jK 0 f887 rg_78_0_0_1 (by omega) (by omega) (by decide)
          have q1206 : h865 78 0 = h14 78 0 := by rw [← e867]; exact x_up_i (by omega)
          have q1207 : h14 78 0 = h 78 0 := jK 0 f16 rg_78_0_0_1 (by omega) (by omega) (by decide)
          have q1208 : h1189 78 1 = h1175 78 1 := by rw [← e1191]; exact x_up_i (by omega)
          have q1209 : h1175 78 1 = h1093 78 1 := jK 0 f1177 rg_78_1_0_1 (by omega) (by omega) (by decide)
          have q1210 : h1093 78 1 = h1022 78 1 := jK 0 f1095 rg_78_1_0_1 (by omega) (by omega) (by decide)
          have q1211 : h1022 78 1 = h1008 78 1 := by rw [← e1024]; exact x_up_i (by omega)
          have q1212 : h1008 78 1 = h951 78 1 := jK 0 f1010 rg_78_1_0_1 (by omega) (by omega) (by decide)
          have q1213 : h951 78 1 = h901 78 1 := jK 0 f953 rg_78_1_0_1 (by omega) (by omega) (by decide)
          have q1214 : h901 78 1 = h885 78 1 := by rw [← e903]; exact x_up_i (by omega)
          have q1215 : h885 78 1 = h865 78 1 := jK 0 f887 rg_78_1_0_1 (by omega) (by omega) (by decide)
          have q1216 : h865 78 1 = h14 78 1 := by rw [← e867]; exact x_up_i (by omega)
          have q1217 : h14 78 1 = h 78 1 := jK 0 f16 rg_78_1_0_1 (by omega) (by omega) (by decide)
          have b1218 := jB (e := 2) 0 hJ rg_78_2_0_1 (by omega) (by omega)
          have q1219 : h1189 78 2 = h1175 78 2 := by rw [← e1191]; exact x_up_i (by omega)
          have q1220 : h1175 78 2 = h1093 78 2 := jK 0 f1177 rg_78_2_0_1 (by omega) (by omega) (by decide)
          have q1221 : h1093 78 2 = h1022 78 2 := jK 0 f1095 rg_78_2_0_1 (by omega) (by omega) (by decide)
          have q1222 : h1022 78 2 = h1008 78 2 := by rw [← e1024]; exact x_up_i (by omega)
          have q1223 : h1008 78 2 = h951 78 2 := jK 0 f1010 rg_78_2_0_1 (by omega) (by omega) (by decide)
          have q1224 : h951 78 2 = h901 78 2 := jK 0 f953 rg_78_2_0_1 (by omega) (by omega) (by decide)
          have q1225 : h901 78 2 = h885 78 2 := by rw [← e903]; exact x_up_i (by omega)
          have q1226 : h885 78 2 = h865 78 2 := jK 0 f887 rg_78_2_0_1 (by omega) (by omega) (by decide)
          have q1227 : h865 78 2 = h14 78 2 := by rw [← e867]; exact x_up_i (by omega)
          have q1228 : h14 78 2 = h 78 2 := jK 0 f16 rg_78_2_0_1 (by omega) (by omega) (by decide)
          have b1229 := jB (e := 3) 0 hJ rg_78_3_0_1 (by omega) (by omega)
          have q1230 : h1189 78 3 = h1175 78 3 := by rw [← e1191]; exact x_up_i (by omega)
          have q1231 : h1175 78 3 = h1093 78 3 := jK 0 f1177 rg_78_3_0_1 (by omega) (by omega) (by decide)
          have q1232 : h1093 78 3 = h1022 78 3 := jK 0 f1095 rg_78_3_0_1 (by omega) (by omega) (by decide)
          have q1233 : h1022 78 3 = h1008 78 3 := by rw [← e1024]; exact x_up_i (by omega)
          have q1234 : h1008 78 3 = h951 78 3 := jK 0 f1010 rg_78_3_0_1 (by omega) (by omega) (by decide)
          have q1235 : h951 78 3 = h901 78 3 := jK 0 f953 rg_78_3_0_1 (by omega) (by omega) (by decide)
          have q1236 : h901 78 3 = h885 78 3 := by rw [← e903]; exact x_up_i (by omega)
          have q1237 : h885 78 3 = h865 78 3 := jK 0 f887 rg_78_3_0_1 (by omega) (by omega) (by decide)
          have q1238 : h865 78 3 = h14 78 3 := by rw [← e867]; exact x_up_i (by omega)
          have q1239 : h14 78 3 = h 78 3 := jK 0 f16 rg_78_3_0_1 (by omega) (by omega) (by decide)
          have q1240 : h1189 78 4 = h1175 78 4 := by rw [← e1191]; exact x_up_i (by omega)
          have q1241 : h1175 78 4 = h1093 78 4 := jK 0 f1177 rg_78_4_0_1 (by omega) (by omega) (by decide)
          have q1242 : h1093 78 4 = h1022 78 4 := jK 0 f1095 rg_78_4_0_1 (by omega) (by omega) (by decide)
          have q1243 : h1022 78 4 = h1008 78 4 := by rw [← e1024]; exact x_up_i (by omega)
          have q1244 : h1008 78 4 = h951 78 4 := jK 0 f1010 rg_78_4_0_1 (by omega) (by omega) (by decide)
          have q1245 : h951 78 4 = h901 78 4 := jK 0 f953 rg_78_4_0_1 (by omega) (by omega) (by decide)
          have q1246 : h901 78 4 = h885 78 4 := by rw [← e903]; exact x_up_i (by omega)
          have q1247 : h885 78 4 = h865 78 4 := jK 0 f887 rg_78_4_0_1 (by omega) (by omega) (by decide)
          have q1248 : h865 78 4 = h14 78 4 := by rw [← e867]; exact x_up_i (by omega)
          have q1249 : h14 78 4 = h 78 4 := jK 0 f16 rg_78_4_0_1 (by omega) (by omega) (by decide)
          have b1250 := jB (e := 5) 0 hJ rg_78_5_0_1 (by omega) (by omega)
          have q1251 : h1189 78 5 = h1175 78 5 := by rw [← e1191]; exact x_up_i (by omega)
          have q1252 : h1175 78 5 = h1093 78 5 := jK 0 f1177 rg_78_5_0_1 (by omega) (by omega) (by decide)
          have q1253 : h1093 78 5 = h1022 78 5 := jK 0 f1095 rg_78_5_0_1 (by omega) (by omega) (by decide)
          have q1254 : h1022 78 5 = h1008 78 5 := by rw [← e1024]; exact x_up_i (by omega)
          have q1255 : h1008 78 5 = h951 78 5 := jK 0 f1010 rg_78_5_0_1 (by omega) (by omega) (by decide)
          have q1256 : h951 78 5 = h901 78 5 := jK 0 f953 rg_78_5_0_1 (by omega) (by omega) (by decide)
          have q1257 : h901 78 5 = h885 78 5 := by rw [← e903]; exact x_up_i (by omega)
          have q1258 : h885 78 5 = h865 78 5 := jK 0 f887 rg_78_5_0_1 (by omega) (by omega) (by decide)
          have q1259 : h865 78 5 = h14 78 5 := by rw [← e867]; exact x_up_i (by omega)
          have q1260 : h14 78 5 = h 78 5 := jK 0 f16 rg_78_5_0_1 (by omega) (by omega) (by decide)
          have y1261 := Is.yes c33 (by omega)
          have w1262 : Wd tB tN 10 (sk tB tN (h 75 7)) := by rw [← c21]; exact Wd.of' (by decide) y1261 c22
          have e1263 : sk tB tN (h14 75 7) = sk tB tN ((sk tB tN (h 75 7)) + iv_tl 10) := by rw [← c21, ← y1261.1]
          have q1264 : h865 75 7 = h14 75 7 := by rw [← e867]; exact x_up_k (by decide)
          have q1265 : h901 75 7 = h885 75 7 := by rw [← e903]; exact x_up_k (by decide)
          obtain ⟨w1266, e1267⟩ := Tw.yes c957 (by omega)
          have q1268 : h1022 75 7 = h1008 75 7 := by rw [← e1024]; exact x_up_k (by decide)
          obtain ⟨w1269, e1270⟩ := Tw.yes c1099 (by omega)
          refine x_retI (np := 156) (x := 0) (by decide +kernel) (by decide) (Or.inr ⟨by decide +kernel, by omega, by omega⟩) ⟨_, rfl, (by decide), ?_⟩
          exact ⟨j1190, f1192, (by omega), (fun z => by omega), (fun z => by omega), (fun z => by omega), (fun z => by omega), (fun z => by omega), (fun z => by omega), (fun z => absurd z (by omega)), (Or.inr ⟨by omega, (or9.f (wd_910 w1262) rfl rfl (wd9.y w1262 rfl e1263 rfl (nm9.y c894 (by omega) (by omega) (congrArg (sk tB tN) (show h865 75 7 = h14 75 7 by omega)) (by omega) rfl (wd9.y w1266 (congrArg (sk tB tN) (show h901 75 7 = h885 75 7 by omega)) e1267 rfl (nm9.y c1017 (by omega) (by omega) rfl (by omega) rfl (wd9.y w1269 (congrArg (sk tB tN) (show h1022 75 7 = h1008 75 7 by omega)) e1270 rfl (nm9.f c1184 (by omega) (by omega) rfl (by omega) (by omega))))))))⟩)⟩
        have q1196 : ¬ (2147483648 = 2147483648) := q1196
        exfalso; omega
      have q1194 : ¬ (v1171 < 2147483648) := q1194
      have b1271 := c1180 (by omega)
      have b1272 := c1181 (by omega)
      have b1273 := c1182 (by omega)
      refine x_const (np := 12) (x := 9223372043297226753) (a := 2147483649) (by decide +kernel) (by decide) (by decide) ?_
      refine x_goto (np := 15) (x := 16) (by decide +kernel) ?_
      refine x_retI (np := 17) (x := 0) (by decide +kernel) (by decide) (Or.inr ⟨by decide +kernel, by omega, by omega⟩) ⟨_, rfl, (by decide), ?_⟩
      refine x_retI (np := 13) (x := 0) (by decide +kernel) (by decide) (Or.inr ⟨by decide +kernel, by omega, by omega⟩) ⟨_, rfl, (by decide), ?_⟩
      refine x_ifz (k := 0) (tg := 154) (np := 127) (by decide +kernel) (by decide) (by decide) (fun q1274 => ?_) (fun q1275 => ?_)
      · have q1274 : 2147483649 = 2147483648 := q1274
        exfalso; omega
      have q1275 : ¬ (2147483649 = 2147483648) := q1275
      refine x_aload (np := 128) (x := 0) (by decide +kernel) rfl (x_nc_le (by decide)) ?_
      refine x_ldcB (i := 12) (idx := 175) (tx := "of") (by rw [tb_y184]; exact List.mem_of_getElem? (i := 51) rfl) (by decide) (by rw [tb_b184]; decide +kernel) ?_
      have m1280 := Tq.fr m1174 f1177 (by decide) (by decide)
      have m1279 : Tq tB tN h1189 := by rw [← e1191]; exact Tq.oth m1280 (by decide) (fun z => absurd z.1 (by decide))
      refine x_cI (t := 6) (mj := 172) (n := 2) (rc := 12) (ml := 2) (nr := 0) (np := 133) (as := [x_r 75, x_b (12 + 1)]) (rest := []) (lo1 := [x_r 75, x_b (12 + 1)]) (by decide +kernel) (by decide) (by decide +kernel) (x_rb_of (by decide +kernel)) rfl rfl (x_wr (by decide) (x_wB (by decide) x_wn)) x_wn (by decide) rfl (c172_75_S0 j1190  (by decide) m1279) (fun v1276 h1281 l1277 q1278 => ?_)
      obtain ⟨j1282, f1283, b1284, c1285, c1286, c1287⟩ := q1278
      have f1288 := Fr.trans f1192 f1283 (by decide)
      have q1289 : h1189 75 7 = h1175 75 7 := by rw [← e1191]; exact x_up_k (by decide)
      have b1290 := jB (e := 7) 0 j1282 rg_75_7_0_1 (by omega) (by omega)
      have q1291 : h1189 75 7 = h1175 75 7 := by rw [← e1191]; exact x_up_k (by decide)
      refine x_ifz (k := 0) (tg := 154) (np := 136) (by decide +kernel) (by decide) l1277 (fun q1292 => ?_) (fun q1293 => ?_)
      · have q1292 : v1276 = 2147483648 := q1292
        refine x_const (np := 155) (x := 9223372039002259456) (a := 2147483648) (by decide +kernel) (by decide) (by decide) ?_
        have b1294 := jB (e := 0) 0 hJ rg_78_0_0_1 (by omega) (by omega)
        have q1295 : h1281 78 0 = h1189 78 0 := jK 0 f1283 rg_78_0_0_1 (by omega) (by omega) (by decide)
        have q1296 : h1189 78 0 = h1175 78 0 := by rw [← e1191]; exact x_up_i (by omega)
        have q1297 : h1175 78 0 = h1093 78 0 := jK 0 f1177 rg_78_0_0_1 (by omega) (by omega) (by decide)
        have q1298 : h1093 78 0 = h1022 78 0 := jK 0 f1095 rg_78_0_0_1 (by omega) (by omega) (by decide)
        have q1299 : h1022 78 0 = h1008 78 0 := by rw [← e1024]; exact x_up_i (by omega)
        have q1300 : h1008 78 0 = h951 78 0 := jK 0 f1010 rg_78_0_0_1 (by omega) (by omega) (by decide)
        have q1301 : h951 78 0 = h901 78 0 := jK 0 f953 rg_78_0_0_1 (by omega) (by omega) (by decide)
        have q1302 : h901 78 0 = h885 78 0 := by rw [← e903]; exact x_up_i (by omega)
        have q1303 : h885 78 0 = h865 78 0 := jK 0 f887 rg_78_0_0_1 (by omega) (by omega) (by decide)
        have q1304 : h865 78 0 = h14 78 0 := by rw [← e867]; exact x_up_i (by omega)
        have q1305 : h14 78 0 = h 78 0 := jK 0 f16 rg_78_0_0_1 (by omega) (by omega) (by decide)
        have q1306 : h1281 78 1 = h1189 78 1 := jK 0 f1283 rg_78_1_0_1 (by omega) (by omega) (by decide)
        have q1307 : h1189 78 1 = h1175 78 1 := by rw [← e1191]; exact x_up_i (by omega)
        have q1308 : h1175 78 1 = h1093 78 1 := jK 0 f1177 rg_78_1_0_1 (by omega) (by omega) (by decide)
        have q1309 : h1093 78 1 = h1022 78 1 := jK 0 f1095 rg_78_1_0_1 (by omega) (by omega) (by decide)
        have q1310 : h1022 78 1 = h1008 78 1 := by rw [← e1024]; exact x_up_i (by omega)
        have q1311 : h1008 78 1 = h951 78 1 := jK 0 f1010 rg_78_1_0_1 (by omega) (by omega) (by decide)
        have q1312 : h951 78 1 = h901 78 1 := jK 0 f953 rg_78_1_0_1 (by omega) (by omega) (by decide)
        have q1313 : h901 78 1 = h885 78 1 := by rw [← e903]; exact x_up_i (by omega)
        have q1314 : h885 78 1 = h865 78 1 := jK 0 f887 rg_78_1_0_1 (by omega) (by omega) (by decide)
        have q1315 : h865 78 1 = h14 78 1 := by rw [← e867]; exact x_up_i (by omega)
        have q1316 : h14 78 1 = h 78 1 := jK 0 f16 rg_78_1_0_1 (by omega) (by omega) (by decide)
        have b1317 := jB (e := 2) 0 hJ rg_78_2_0_1 (by omega) (by omega)
        have q1318 : h1281 78 2 = h1189 78 2 := jK 0 f1283 rg_78_2_0_1 (by omega) (by omega) (by decide)
        have q1319 : h1189 78 2 = h1175 78 2 := by rw [← e1191]; exact x_up_i (by omega)
        have q1320 : h1175 78 2 = h1093 78 2 := jK 0 f1177 rg_78_2_0_1 (by omega) (by omega) (by decide)
        have q1321 : h1093 78 2 = h1022 78 2 := jK 0 f1095 rg_78_2_0_1 (by omega) (by omega) (by decide)
        have q1322 : h1022 78 2 = h1008 78 2 := by rw [← e1024]; exact x_up_i (by omega)
        have q1323 : h1008 78 2 = h951 78 2 := jK 0 f1010 rg_78_2_0_1 (by omega) (by omega) (by decide)
        have q1324 : h951 78 2 = h901 78 2 := jK 0 f953 rg_78_2_0_1 (by omega) (by omega) (by decide)
        have q1325 : h901 78 2 = h885 78 2 := by rw [← e903]; exact x_up_i (by omega)
        have q1326 : h885 78 2 = h865 78 2 := jK 0 f887 rg_78_2_0_1 (by omega) (by omega) (by decide)
        have q1327 : h865 78 2 = h14 78 2 := by rw [← e867]; exact x_up_i (by omega)
        have q1328 : h14 78 2 = h 78 2 := jK 0 f16 rg_78_2_0_1 (by omega) (by omega) (by decide)
        have b1329 := jB (e := 3) 0 hJ rg_78_3_0_1 (by omega) (by omega)
        have q1330 : h1281 78 3 = h1189 78 3 := jK 0 f1283 rg_78_3_0_1 (by omega) (by omega) (by decide)
        have q1331 : h1189 78 3 = h1175 78 3 := by rw [← e1191]; exact x_up_i (by omega)
        have q1332 : h1175 78 3 = h1093 78 3 := jK 0 f1177 rg_78_3_0_1 (by omega) (by omega) (by decide)
        have q1333 : h1093 78 3 = h1022 78 3 := jK 0 f1095 rg_78_3_0_1 (by omega) (by omega) (by decide)
        have q1334 : h1022 78 3 = h1008 78 3 := by rw [← e1024]; exact x_up_i (by omega)
        have q1335 : h1008 78 3 = h951 78 3 := jK 0 f1010 rg_78_3_0_1 (by omega) (by omega) (by decide)
        have q1336 : h951 78 3 = h901 78 3 := jK 0 f953 rg_78_3_0_1 (by omega) (by omega) (by decide)
        have q1337 : h901 78 3 = h885 78 3 := by rw [← e903]; exact x_up_i (by omega)
        have q1338 : h885 78 3 = h865 78 3 := jK 0 f887 rg_78_3_0_1 (by omega) (by omega) (by decide)
        have q1339 : h865 78 3 = h14 78 3 := by rw [← e867]; exact x_up_i (by omega)
        have q1340 : h14 78 3 = h 78 3 := jK 0 f16 rg_78_3_0_1 (by omega) (by omega) (by decide)
        have q1341 : h1281 78 4 = h1189 78 4 := jK 0 f1283 rg_78_4_0_1 (by omega) (by omega) (by decide)
        have q1342 : h1189 78 4 = h1175 78 4 := by rw [← e1191]; exact x_up_i (by omega)
        have q1343 : h1175 78 4 = h1093 78 4 := jK 0 f1177 rg_78_4_0_1 (by omega) (by omega) (by decide)
        have q1344 : h1093 78 4 = h1022 78 4 := jK 0 f1095 rg_78_4_0_1 (by omega) (by omega) (by decide)
        have q1345 : h1022 78 4 = h1008 78 4 := by rw [← e1024]; exact x_up_i (by omega)
        have q1346 : h1008 78 4 = h951 78 4 := jK 0 f1010 rg_78_4_0_1 (by omega) (by omega) (by decide)
        have q1347 : h951 78 4 = h901 78 4 := jK 0 f953 rg_78_4_0_1 (by omega) (by omega) (by decide)
        have q1348 : h901 78 4 = h885 78 4 := by rw [← e903]; exact x_up_i (by omega)
        have q1349 : h885 78 4 = h865 78 4 := jK 0 f887 rg_78_4_0_1 (by omega) (by omega) (by decide)
        have q1350 : h865 78 4 = h14 78 4 := by rw [← e867]; exact x_up_i (by omega)
        have q1351 : h14 78 4 = h 78 4 := jK 0 f16 rg_78_4_0_1 (by omega) (by omega) (by decide)
        have b1352 := jB (e := 5) 0 hJ rg_78_5_0_1 (by omega) (by omega)
        have q1353 : h1281 78 5 = h1189 78 5 := jK 0 f1283 rg_78_5_0_1 (by omega) (by omega) (by decide)
        have q1354 : h1189 78 5 = h1175 78 5 := by rw [← e1191]; exact x_up_i (by omega)
        have q1355 : h1175 78 5 = h1093 78 5 := jK 0 f1177 rg_78_5_0_1 (by omega) (by omega) (by decide)
        have q1356 : h1093 78 5 = h1022 78 5 := jK 0 f1095 rg_78_5_0_1 (by omega) (by omega) (by decide)
        have q1357 : h1022 78 5 = h1008 78 5 := by rw [← e1024]; exact x_up_i (by omega)
        have q1358 : h1008 78 5 = h951 78 5 := jK 0 f1010 rg_78_5_0_1 (by omega) (by omega) (by decide)
        have q1359 : h951 78 5 = h901 78 5 := jK 0 f953 rg_78_5_0_1 (by omega) (by omega) (by decide)
        have q1360 : h901 78 5 = h885 78 5 := by rw [← e903]; exact x_up_i (by omega)
        have q1361 : h885 78 5 = h865 78 5 := jK 0 f887 rg_78_5_0_1 (by omega) (by omega) (by decide)
        have q1362 : h865 78 5 = h14 78 5 := by rw [← e867]; exact x_up_i (by omega)
        have q1363 : h14 78 5 = h 78 5 := jK 0 f16 rg_78_5_0_1 (by omega) (by omega) (by decide)
        have y1364 := Is.yes c33 (by omega)
        have w1365 : Wd tB tN 10 (sk tB tN (h 75 7)) := by rw [← c21]; exact Wd.of' (by decide) y1364 c22
        have e1366 : sk tB tN (h14 75 7) = sk tB tN ((sk tB tN (h 75 7)) + iv_tl 10) := by rw [← c21, ← y1364.1]
        have q1367 : h865 75 7 = h14 75 7 := by rw [← e867]; exact x_up_k (by decide)
        have q1368 : h901 75 7 = h885 75 7 := by rw [← e903]; exact x_up_k (by decide)
        obtain ⟨w1369, e1370⟩ := Tw.yes c957 (by omega)
        have q1371 : h1022 75 7 = h1008 75 7 := by rw [← e1024]; exact x_up_k (by decide)
        obtain ⟨w1372, e1373⟩ := Tw.yes c1099 (by omega)
        have q1374 : h1189 75 7 = h1175 75 7 := by rw [← e1191]; exact x_up_k (by decide)
        refine x_retI (np := 156) (x := 0) (by decide +kernel) (by decide) (Or.inr ⟨by decide +kernel, by omega, by omega⟩) ⟨_, rfl, (by decide), ?_⟩
        exact ⟨j1282, f1288, (by omega), (fun z => by omega), (fun z => by omega), (fun z => by omega), (fun z => by omega), (fun z => by omega), (fun z => by omega), (fun z => absurd z (by omega)), (Or.inr ⟨by omega, (or9.f (wd_910 w1365) rfl rfl (wd9.y w1365 rfl e1366 rfl (nm9.y c894 (by omega) (by omega) (congrArg (sk tB tN) (show h865 75 7 = h14 75 7 by omega)) (by omega) rfl (wd9.y w1369 (congrArg (sk tB tN) (show h901 75 7 = h885 75 7 by omega)) e1370 rfl (nm9.y c1017 (by omega) (by omega) rfl (by omega) rfl (wd9.y w1372 (congrArg (sk tB tN) (show h1022 75 7 = h1008 75 7 by omega)) e1373 rfl (nm9.y c1184 (by omega) (by omega) rfl (by omega) rfl (wd9.f (Tw.no c1287 (by omega)) (congrArg (sk tB tN) (show h1189 75 7 = h1175 75 7 by omega)) (by omega)))))))))⟩)⟩
      have q1293 : ¬ (v1276 = 2147483648) := q1293
      have b1375 := c1286 (by omega)
      refine x_aload (np := 137) (x := 0) (by decide +kernel) rfl (x_nc_le (by decide)) ?_
      refine x_iload (np := 138) (x := 1) (by decide +kernel) rfl (by omega) ?_
      refine x_const (np := 139) (x := 9223372056182128644) (a := 2147483652) (by decide +kernel) (by decide) (by decide) ?_
      refine x_iadd (np := 140) (x := 0) (v := (2147483852 + 5 * u8)) (by decide +kernel) (by omega) (by decide) (by omega) (by omega) ?_
      refine x_aload (np := 141) (x := 0) (by decide +kernel) rfl (x_nc_le (by decide)) ?_
      refine x_const (np := 142) (x := 9223372039002259456) (a := 2147483648) (by decide +kernel) (by decide) (by decide) ?_
      refine x_const (np := 145) (x := 9223376329674589159) (a := 2147484647) (by decide +kernel) (by decide) (by decide) ?_
      have m1379 := Tq.fr m1279 f1283 (by decide) (by decide)
      refine x_cI (t := 6) (mj := 174) (n := 3) (rc := 12) (ml := 4) (nr := 2) (np := 148) (as := [x_r 75, iv_c 2147483648, iv_c 2147484647]) (rest := [iv_c (2147483852 + 5 * u8), x_r 75]) (lo1 := [x_r 75, iv_c 2147483648, iv_c 2147484647, 147573952589676412928]) (by decide +kernel) (by decide) (by decide +kernel) (x_rb_of (by decide +kernel)) rfl rfl (x_wr (by decide) (x_wi (by decide) (x_wi (by decide) x_wn))) (x_wi (by omega) (x_wr (by decide) x_wn)) (by decide) rfl (c174_75 j1282  (by omega) (by omega) m1379) (fun v1376 h1380 l1377 q1378 => ?_)
      obtain ⟨j1381, f1382, b1383, c1384, c1385, c1386, c1387, c1388, c1389⟩ := q1378
      have f1390 := Fr.trans f1288 f1382 (by decide)
      have b1391 := jB (e := 7) 0 j1381 rg_75_7_0_1 (by omega) (by omega)
      have b1392 := c1388 (by omega)
      refine x_nI (t := 6) (mj := 176) (n := 3) (rc := 12) (ml := 3) (nr := 0) (np := 151) (as := [x_r 75, iv_c (2147483852 + 5 * u8), iv_c v1376]) (rest := []) (lo1 := [x_r 75, iv_c (2147483852 + 5 * u8), iv_c v1376]) (by decide +kernel) (by decide) (by decide +kernel) (x_rb_of (by decide +kernel)) rfl rfl (x_wr (by decide) (x_wi (by omega) (x_wi l1377 x_wn))) x_wn (by decide) rfl ?_
      refine x_aload (np := 1) (x := 0) (by decide +kernel) rfl (x_nc_le (by decide)) ?_
      have q1393 : h1380 75 3 = 78 := by have z := jB (e := 3) 0 j1381 rg_75_3_0_1 (by decide) (by decide); omega
      refine x_getR (np := 4) (x := 707) (f := 3) (q := 78) (by decide +kernel) (by decide) (by decide +kernel) q1393 ?_
      refine x_iload (np := 5) (x := 1) (by decide +kernel) rfl (by omega) ?_
      refine x_iload (np := 6) (x := 2) (by decide +kernel) rfl l1377 ?_
      refine x_ast (np := 7) (x := 0) (kd := 1) (n := 290) (i := (204 + 5 * u8)) (by decide +kernel) (Or.inl rfl) (by decide +kernel) (by omega) (by omega) (by decide) l1377 (fun z => absurd z (by decide)) ?_
      have j1395 := jU (e := (204 + 5 * u8)) (v := v1376) u8 j1381 rg_78_204_5_10 (by omega) (by omega) (by omega)
      have f1397 := jF (e := (204 + 5 * u8)) (v := v1376) u8 f1390 rg_78_204_5_10 (by omega) (by omega) (by decide)
      generalize e1396 : x_up h1380 78 (204 + 5 * u8) v1376 = h1394 at j1395 f1397 ⊢
      refine x_iload (np := 8) (x := 2) (by decide +kernel) rfl l1377 ?_
      refine x_ifz (k := 2) (tg := 15) (np := 11) (by decide +kernel) (by decide) l1377 (fun q1398 => ?_) (fun q1399 => ?_)
      · have q1398 : v1376 < 2147483648 := q1398
        refine x_const (np := 16) (x := 9223372039002259456) (a := 2147483648) (by decide +kernel) (by decide) (by decide) ?_
        refine x_retI (np := 17) (x := 0) (by decide +kernel) (by decide) (Or.inr ⟨by decide +kernel, by omega, by omega⟩) ⟨_, rfl, (by decide), ?_⟩
        refine x_ifz (k := 1) (tg := 156) (np := 154) (by decide +kernel) (by decide) (by decide) (fun q1400 => ?_) (fun q1401 => ?_)
        · have q1400 : 2147483648 ≠ 2147483648 := q1400
          exfalso; omega
        have q1401 : ¬ (2147483648 ≠ 2147483648) := q1401
        refine x_const (np := 155) (x := 9223372039002259456) (a := 2147483648) (by decide +kernel) (by decide) (by decide) ?_
        have b1402 := jB (e := 0) 0 hJ rg_78_0_0_1 (by omega) (by omega)
        have q1403 : h1394 78 0 = h1380 78 0 := by rw [← e1396]; exact x_up_i (by omega)
        have q1404 : h1380 78 0 = h1281 78 0 := jK 0 f1382 rg_78_0_0_1 (by omega) (by omega) (by decide)
        have q1405 : h1281 78 0 = h1189 78 0 := jK 0 f1283 rg_78_0_0_1 (by omega) (by omega) (by decide)
        have q1406 : h1189 78 0 = h1175 78 0 := by rw [← e1191]; exact x_up_i (by omega)
        have q1407 : h1175 78 0 = h1093 78 0 := jK 0 f1177 rg_78_0_0_1 (by omega) (by omega) (by decide)
        have q1408 : h1093 78 0 = h1022 78 0 := jK 0 f1095 rg_78_0_0_1 (by omega) (by omega) (by decide)
        have q1409 : h1022 78 0 = h1008 78 0 := by rw [← e1024]; exact x_up_i (by omega)
        have q1410 : h1008 78 0 = h951 78 0 := jK 0 f1010 rg_78_0_0_1 (by omega) (by omega) (by decide)
        have q1411 : h951 78 0 = h901 78 0 := jK 0 f953 rg_78_0_0_1 (by omega) (by omega) (by decide)
        have q1412 : h901 78 0 = h885 78 0 := by rw [← e903]; exact x_up_i (by omega)
        have q1413 : h885 78 0 = h865 78 0 := jK 0 f887 rg_78_0_0_1 (by omega) (by omega) (by decide)
        have q1414 : h865 78 0 = h14 78 0 := by rw [← e867]; exact x_up_i (by omega)
        have q1415 : h14 78 0 = h 78 0 := jK 0 f16 rg_78_0_0_1 (by omega) (by omega) (by decide)
        have q1416 : h1394 78 1 = h1380 78 1 := by rw [← e1396]; exact x_up_i (by omega)
        have q1417 : h1380 78 1 = h1281 78 1 := jK 0 f1382 rg_78_1_0_1 (by omega) (by omega) (by decide)
        have q1418 : h1281 78 1 = h1189 78 1 := jK 0 f1283 rg_78_1_0_1 (by omega) (by omega) (by decide)
        have q1419 : h1189 78 1 = h1175 78 1 := by rw [← e1191]; exact x_up_i (by omega)
        have q1420 : h1175 78 1 = h1093 78 1 := jK 0 f1177 rg_78_1_0_1 (by omega) (by omega) (by decide)
        have q1421 : h1093 78 1 = h1022 78 1 := jK 0 f1095 rg_78_1_0_1 (by omega) (by omega) (by decide)
        have q1422 : h1022 78 1 = h1008 78 1 := by rw [← e1024]; exact x_up_i (by omega)
        have q1423 : h1008 78 1 = h951 78 1 := jK 0 f1010 rg_78_1_0_1 (by omega) (by omega) (by decide)
        have q1424 : h951 78 1 = h901 78 1 := jK 0 f953 rg_78_1_0_1 (by omega) (by omega) (by decide)
        have q1425 : h901 78 1 = h885 78 1 := by rw [← e903]; exact x_up_i (by omega)
        have q1426 : h885 78 1 = h865 78 1 := jK 0 f887 rg_78_1_0_1 (by omega) (by omega) (by decide)
        have q1427 : h865 78 1 = h14 78 1 := by rw [← e867]; exact x_up_i (by omega)
        have q1428 : h14 78 1 = h 78 1 := jK 0 f16 rg_78_1_0_1 (by omega) (by omega) (by decide)
        have b1429 := jB (e := 2) 0 hJ rg_78_2_0_1 (by omega) (by omega)
        have q1430 : h1394 78 2 = h1380 78 2 := by rw [← e1396]; exact x_up_i (by omega)
        have q1431 : h1380 78 2 = h1281 78 2 := jK 0 f1382 rg_78_2_0_1 (by omega) (by omega) (by decide)
        have q1432 : h1281 78 2 = h1189 78 2 := jK 0 f1283 rg_78_2_0_1 (by omega) (by omega) (by decide)
        have q1433 : h1189 78 2 = h1175 78 2 := by rw [← e1191]; exact x_up_i (by omega)
        have q1434 : h1175 78 2 = h1093 78 2 := jK 0 f1177 rg_78_2_0_1 (by omega) (by omega) (by decide)
        have q1435 : h1093 78 2 = h1022 78 2 := jK 0 f1095 rg_78_2_0_1 (by omega) (by omega) (by decide)
        have q1436 : h1022 78 2 = h1008 78 2 := by rw [← e1024]; exact x_up_i (by omega)
        have q1437 : h1008 78 2 = h951 78 2 := jK 0 f1010 rg_78_2_0_1 (by omega) (by omega) (by decide)
        have q1438 : h951 78 2 = h901 78 2 := jK 0 f953 rg_78_2_0_1 (by omega) (by omega) (by decide)
        have q1439 : h901 78 2 = h885 78 2 := by rw [← e903]; exact x_up_i (by omega)
        have q1440 : h885 78 2 = h865 78 2 := jK 0 f887 rg_78_2_0_1 (by omega) (by omega) (by decide)
        have q1441 : h865 78 2 = h14 78 2 := by rw [← e867]; exact x_up_i (by omega)
        have q1442 : h14 78 2 = h 78 2 := jK 0 f16 rg_78_2_0_1 (by omega) (by omega) (by decide)
        have b1443 := jB (e := 3) 0 hJ rg_78_3_0_1 (by omega) (by omega)
        have q1444 : h1394 78 3 = h1380 78 3 := by rw [← e1396]; exact x_up_i (by omega)
        have q1445 : h1380 78 3 = h1281 78 3 := jK 0 f1382 rg_78_3_0_1 (by omega) (by omega) (by decide)
        have q1446 : h1281 78 3 = h1189 78 3 := jK 0 f1283 rg_78_3_0_1 (by omega) (by omega) (by decide)
        have q1447 : h1189 78 3 = h1175 78 3 := by rw [← e1191]; exact x_up_i (by omega)
        have q1448 : h1175 78 3 = h1093 78 3 := jK 0 f1177 rg_78_3_0_1 (by omega) (by omega) (by decide)
        have q1449 : h1093 78 3 = h1022 78 3 := jK 0 f1095 rg_78_3_0_1 (by omega) (by omega) (by decide)
        have q1450 : h1022 78 3 = h1008 78 3 := by rw [← e1024]; exact x_up_i (by omega)
        have q1451 : h1008 78 3 = h951 78 3 := jK 0 f1010 rg_78_3_0_1 (by omega) (by omega) (by decide)
        have q1452 : h951 78 3 = h901 78 3 := jK 0 f953 rg_78_3_0_1 (by omega) (by omega) (by decide)
        have q1453 : h901 78 3 = h885 78 3 := by rw [← e903]; exact x_up_i (by omega)
        have q1454 : h885 78 3 = h865 78 3 := jK 0 f887 rg_78_3_0_1 (by omega) (by omega) (by decide)
        have q1455 : h865 78 3 = h14 78 3 := by rw [← e867]; exact x_up_i (by omega)
        have q1456 : h14 78 3 = h 78 3 := jK 0 f16 rg_78_3_0_1 (by omega) (by omega) (by decide)
        have q1457 : h1394 78 4 = h1380 78 4 := by rw [← e1396]; exact x_up_i (by omega)
        have q1458 : h1380 78 4 = h1281 78 4 := jK 0 f1382 rg_78_4_0_1 (by omega) (by omega) (by decide)
        have q1459 : h1281 78 4 = h1189 78 4 := jK 0 f1283 rg_78_4_0_1 (by omega) (by omega) (by decide)
        have q1460 : h1189 78 4 = h1175 78 4 := by rw [← e1191]; exact x_up_i (by omega)
        have q1461 : h1175 78 4 = h1093 78 4 := jK 0 f1177 rg_78_4_0_1 (by omega) (by omega) (by decide)
        have q1462 : h1093 78 4 = h1022 78 4 := jK 0 f1095 rg_78_4_0_1 (by omega) (by omega) (by decide)
        have q1463 : h1022 78 4 = h1008 78 4 := by rw [← e1024]; exact x_up_i (by omega)
        have q1464 : h1008 78 4 = h951 78 4 := jK 0 f1010 rg_78_4_0_1 (by omega) (by omega) (by decide)
        have q1465 : h951 78 4 = h901 78 4 := jK 0 f953 rg_78_4_0_1 (by omega) (by omega) (by decide)
        have q1466 : h901 78 4 = h885 78 4 := by rw [← e903]; exact x_up_i (by omega)
        have q1467 : h885 78 4 = h865 78 4 := jK 0 f887 rg_78_4_0_1 (by omega) (by omega) (by decide)
        have q1468 : h865 78 4 = h14 78 4 := by rw [← e867]; exact x_up_i (by omega)
        have q1469 : h14 78 4 = h 78 4 := jK 0 f16 rg_78_4_0_1 (by omega) (by omega) (by decide)
        have b1470 := jB (e := 5) 0 hJ rg_78_5_0_1 (by omega) (by omega)
        have q1471 : h1394 78 5 = h1380 78 5 := by rw [← e1396]; exact x_up_i (by omega)
        have q1472 : h1380 78 5 = h1281 78 5 := jK 0 f1382 rg_78_5_0_1 (by omega) (by omega) (by decide)
        have q1473 : h1281 78 5 = h1189 78 5 := jK 0 f1283 rg_78_5_0_1 (by omega) (by omega) (by decide)
        have q1474 : h1189 78 5 = h1175 78 5 := by rw [← e1191]; exact x_up_i (by omega)
        have q1475 : h1175 78 5 = h1093 78 5 := jK 0 f1177 rg_78_5_0_1 (by omega) (by omega) (by decide)
        have q1476 : h1093 78 5 = h1022 78 5 := jK 0 f1095 rg_78_5_0_1 (by omega) (by omega) (by decide)
        have q1477 : h1022 78 5 = h1008 78 5 := by rw [← e1024]; exact x_up_i (by omega)
        have q1478 : h1008 78 5 = h951 78 5 := jK 0 f1010 rg_78_5_0_1 (by omega) (by omega) (by decide)
        have q1479 : h951 78 5 = h901 78 5 := jK 0 f953 rg_78_5_0_1 (by omega) (by omega) (by decide)
        have q1480 : h901 78 5 = h885 78 5 := by rw [← e903]; exact x_up_i (by omega)
        have q1481 : h885 78 5 = h865 78 5 := jK 0 f887 rg_78_5_0_1 (by omega) (by omega) (by decide)
        have q1482 : h865 78 5 = h14 78 5 := by rw [← e867]; exact x_up_i (by omega)
        have q1483 : h14 78 5 = h 78 5 := jK 0 f16 rg_78_5_0_1 (by omega) (by omega) (by decide)
        have y1484 := Is.yes c33 (by omega)
        have w1485 : Wd tB tN 10 (sk tB tN (h 75 7)) := by rw [← c21]; exact Wd.of' (by decide) y1484 c22
        have e1486 : sk tB tN (h14 75 7) = sk tB tN ((sk tB tN (h 75 7)) + iv_tl 10) := by rw [← c21, ← y1484.1]
        have q1487 : h865 75 7 = h14 75 7 := by rw [← e867]; exact x_up_k (by decide)
        have q1488 : h901 75 7 = h885 75 7 := by rw [← e903]; exact x_up_k (by decide)
        obtain ⟨w1489, e1490⟩ := Tw.yes c957 (by omega)
        have q1491 : h1022 75 7 = h1008 75 7 := by rw [← e1024]; exact x_up_k (by decide)
        obtain ⟨w1492, e1493⟩ := Tw.yes c1099 (by omega)
        have q1494 : h1189 75 7 = h1175 75 7 := by rw [← e1191]; exact x_up_k (by decide)
        obtain ⟨w1495, e1496⟩ := Tw.yes c1287 (by omega)
        refine x_retI (np := 156) (x := 0) (by decide +kernel) (by decide) (Or.inr ⟨by decide +kernel, by omega, by omega⟩) ⟨_, rfl, (by decide), ?_⟩
        exact ⟨j1395, f1397, (by omega), (fun z => by omega), (fun z => by omega), (fun z => by omega), (fun z => by omega), (fun z => by omega), (fun z => by omega), (fun z => absurd z (by omega)), (Or.inr ⟨by omega, (or9.f (wd_910 w1485) rfl rfl (wd9.y w1485 rfl e1486 rfl (nm9.y c894 (by omega) (by omega) (congrArg (sk tB tN) (show h865 75 7 = h14 75 7 by omega)) (by omega) rfl (wd9.y w1489 (congrArg (sk tB tN) (show h901 75 7 = h885 75 7 by omega)) e1490 rfl (nm9.y c1017 (by omega) (by omega) rfl (by omega) rfl (wd9.y w1492 (congrArg (sk tB tN) (show h1022 75 7 = h1008 75 7 by omega)) e1493 rfl (nm9.y c1184 (by omega) (by omega) rfl (by omega) rfl (wd9.y w1495 (congrArg (sk tB tN) (show h1189 75 7 = h1175 75 7 by omega)) e1496 rfl (nm9.f c1389 (by omega) (by omega) rfl (by omega) (by omega))))))))))⟩)⟩
      have q1399 : ¬ (v1376 < 2147483648) := q1399
      have b1497 := c1385 (by omega)
      have b1498 := c1386 (by omega)
      have b1499 := c1387 (by omega)
      refine x_const (np := 12) (x := 9223372043297226753) (a := 2147483649) (by decide +kernel) (by decide) (by decide) ?_
      refine x_goto (np := 15) (x := 16) (by decide +kernel) ?_
      refine x_retI (np := 17) (x := 0) (by decide +kernel) (by decide) (Or.inr ⟨by decide +kernel, by omega, by omega⟩) ⟨_, rfl, (by decide), ?_⟩
      refine x_ifz (k := 1) (tg := 156) (np := 154) (by decide +kernel) (by decide) (by decide) (fun q1500 => ?_) (fun q1501 => ?_)
      · have q1500 : 2147483649 ≠ 2147483648 := q1500
        refine x_aload (np := 157) (x := 0) (by decide +kernel) rfl (x_nc_le (by decide)) ?_
        have q1502 : h1394 75 3 = 78 := by have z := jB (e := 3) 0 j1395 rg_75_3_0_1 (by decide) (by decide); omega
        refine x_getR (np := 160) (x := 707) (f := 3) (q := 78) (by decide +kernel) (by decide) (by decide +kernel) q1502 ?_
        refine x_const (np := 161) (x := 9223372056182128644) (a := 2147483652) (by decide +kernel) (by decide) (by decide) ?_
        refine x_dup2 (np := 162) (x := 0) (by decide +kernel) (by have z := (iw_c_lt (a := 2147483652) (by decide)).1; omega) (by have z := x_nc_le (k := 78) (by decide); unfold x_r; omega) ?_
        have q1503 : h1394 78 4 = h1380 78 4 := by rw [← e1396]; exact x_up_i (by omega)
        have q1504 : h1380 78 4 = h1281 78 4 := jK 0 f1382 rg_78_4_0_1 (by omega) (by omega) (by decide)
        have q1505 : h1281 78 4 = h1189 78 4 := jK 0 f1283 rg_78_4_0_1 (by omega) (by omega) (by decide)
        have q1506 : h1189 78 4 = h1175 78 4 := by rw [← e1191]; exact x_up_i (by omega)
        have q1507 : h1175 78 4 = h1093 78 4 := jK 0 f1177 rg_78_4_0_1 (by omega) (by omega) (by decide)
        have q1508 : h1093 78 4 = h1022 78 4 := jK 0 f1095 rg_78_4_0_1 (by omega) (by omega) (by decide)
        have q1509 : h1022 78 4 = h1008 78 4 := by rw [← e1024]; exact x_up_i (by omega)
        have q1510 : h1008 78 4 = h951 78 4 := jK 0 f1010 rg_78_4_0_1 (by omega) (by omega) (by decide)
        have q1511 : h951 78 4 = h901 78 4 := jK 0 f953 rg_78_4_0_1 (by omega) (by omega) (by decide)
        have q1512 : h901 78 4 = h885 78 4 := by rw [← e903]; exact x_up_i (by omega)
        have q1513 : h885 78 4 = h865 78 4 := jK 0 f887 rg_78_4_0_1 (by omega) (by omega) (by decide)
        have q1514 : h865 78 4 = h14 78 4 := by rw [← e867]; exact x_up_i (by omega)
        have q1515 : h14 78 4 = h 78 4 := jK 0 f16 rg_78_4_0_1 (by omega) (by omega) (by decide)
        refine x_aldC (np := 163) (x := 0) (n := 290) (i := 4) (q := (h 78 4)) (by decide +kernel) (by decide +kernel) (by omega) (by omega) (by decide) ((((((((((((q1503.trans q1504).trans q1505).trans q1506).trans q1507).trans q1508).trans q1509).trans q1510).trans q1511).trans q1512).trans q1513).trans q1514).trans q1515) (fun l1516 => ?_)
        refine x_const (np := 164) (x := 9223372043297226753) (a := 2147483649) (by decide +kernel) (by decide) (by decide) ?_
        refine x_iadd (np := 165) (x := 0) (v := (1 + (h 78 4))) (by decide +kernel) l3 (by decide) (by omega) (by omega) ?_
        refine x_ast (np := 166) (x := 0) (kd := 1) (n := 290) (i := 4) (by decide +kernel) (Or.inl rfl) (by decide +kernel) (by omega) (by omega) (by decide) (by omega) (fun z => absurd z (by decide)) ?_
        have j1518 := jU (e := 4) (v := (1 + (h 78 4))) 0 j1395 rg_78_4_0_1 (by omega) (by omega) (by omega)
        have f1520 := jF (e := 4) (v := (1 + (h 78 4))) 0 f1397 rg_78_4_0_1 (by omega) (by omega) (by decide)
        generalize e1519 : x_up h1394 78 4 (1 + (h 78 4)) = h1517 at j1518 f1520 ⊢
        refine x_const (np := 167) (x := 9223372043297226753) (a := 2147483649) (by decide +kernel) (by decide) (by decide) ?_
        have b1521 := jB (e := 0) 0 hJ rg_78_0_0_1 (by omega) (by omega)
        have q1522 : h1517 78 0 = h1394 78 0 := by rw [← e1519]; exact x_up_i (by omega)
        have q1523 : h1394 78 0 = h1380 78 0 := by rw [← e1396]; exact x_up_i (by omega)
        have q1524 : h1380 78 0 = h1281 78 0 := jK 0 f1382 rg_78_0_0_1 (by omega) (by omega) (by decide)
        have q1525 : h1281 78 0 = h1189 78 0 := jK 0 f1283 rg_78_0_0_1 (by omega) (by omega) (by decide)
        have q1526 : h1189 78 0 = h1175 78 0 := by rw [← e1191]; exact x_up_i (by omega)
        have q1527 : h1175 78 0 = h1093 78 0 := jK 0 f1177 rg_78_0_0_1 (by omega) (by omega) (by decide)
        have q1528 : h1093 78 0 = h1022 78 0 := jK 0 f1095 rg_78_0_0_1 (by omega) (by omega) (by decide)
        have q1529 : h1022 78 0 = h1008 78 0 := by rw [← e1024]; exact x_up_i (by omega)
        have q1530 : h1008 78 0 = h951 78 0 := jK 0 f1010 rg_78_0_0_1 (by omega) (by omega) (by decide)
        have q1531 : h951 78 0 = h901 78 0 := jK 0 f953 rg_78_0_0_1 (by omega) (by omega) (by decide)
        have q1532 : h901 78 0 = h885 78 0 := by rw [← e903]; exact x_up_i (by omega)
        have q1533 : h885 78 0 = h865 78 0 := jK 0 f887 rg_78_0_0_1 (by omega) (by omega) (by decide)
        have q1534 : h865 78 0 = h14 78 0 := by rw [← e867]; exact x_up_i (by omega)
        have q1535 : h14 78 0 = h 78 0 := jK 0 f16 rg_78_0_0_1 (by omega) (by omega) (by decide)
        have q1536 : h1517 78 1 = h1394 78 1 := by rw [← e1519]; exact x_up_i (by omega)
        have q1537 : h1394 78 1 = h1380 78 1 := by rw [← e1396]; exact x_up_i (by omega)
        have q1538 : h1380 78 1 = h1281 78 1 := jK 0 f1382 rg_78_1_0_1 (by omega) (by omega) (by decide)
        have q1539 : h1281 78 1 = h1189 78 1 := jK 0 f1283 rg_78_1_0_1 (by omega) (by omega) (by decide)
        have q1540 : h1189 78 1 = h1175 78 1 := by rw [← e1191]; exact x_up_i (by omega)
        have q1541 : h1175 78 1 = h1093 78 1 := jK 0 f1177 rg_78_1_0_1 (by omega) (by omega) (by decide)
        have q1542 : h1093 78 1 = h1022 78 1 := jK 0 f1095 rg_78_1_0_1 (by omega) (by omega) (by decide)
        have q1543 : h1022 78 1 = h1008 78 1 := by rw [← e1024]; exact x_up_i (by omega)
        have q1544 : h1008 78 1 = h951 78 1 := jK 0 f1010 rg_78_1_0_1 (by omega) (by omega) (by decide)
        have q1545 : h951 78 1 = h901 78 1 := jK 0 f953 rg_78_1_0_1 (by omega) (by omega) (by decide)
        have q1546 : h901 78 1 = h885 78 1 := by rw [← e903]; exact x_up_i (by omega)
        have q1547 : h885 78 1 = h865 78 1 := jK 0 f887 rg_78_1_0_1 (by omega) (by omega) (by decide)
        have q1548 : h865 78 1 = h14 78 1 := by rw [← e867]; exact x_up_i (by omega)
        have q1549 : h14 78 1 = h 78 1 := jK 0 f16 rg_78_1_0_1 (by omega) (by omega) (by decide)
        have b1550 := jB (e := 2) 0 hJ rg_78_2_0_1 (by omega) (by omega)
        have q1551 : h1517 78 2 = h1394 78 2 := by rw [← e1519]; exact x_up_i (by omega)
        have q1552 : h1394 78 2 = h1380 78 2 := by rw [← e1396]; exact x_up_i (by omega)
        have q1553 : h1380 78 2 = h1281 78 2 := jK 0 f1382 rg_78_2_0_1 (by omega) (by omega) (by decide)
        have q1554 : h1281 78 2 = h1189 78 2 := jK 0 f1283 rg_78_2_0_1 (by omega) (by omega) (by decide)
        have q1555 : h1189 78 2 = h1175 78 2 := by rw [← e1191]; exact x_up_i (by omega)
        have q1556 : h1175 78 2 = h1093 78 2 := jK 0 f1177 rg_78_2_0_1 (by omega) (by omega) (by decide)
        have q1557 : h1093 78 2 = h1022 78 2 := jK 0 f1095 rg_78_2_0_1 (by omega) (by omega) (by decide)
        have q1558 : h1022 78 2 = h1008 78 2 := by rw [← e1024]; exact x_up_i (by omega)
        have q1559 : h1008 78 2 = h951 78 2 := jK 0 f1010 rg_78_2_0_1 (by omega) (by omega) (by decide)
        have q1560 : h951 78 2 = h901 78 2 := jK 0 f953 rg_78_2_0_1 (by omega) (by omega) (by decide)
        have q1561 : h901 78 2 = h885 78 2 := by rw [← e903]; exact x_up_i (by omega)
        have q1562 : h885 78 2 = h865 78 2 := jK 0 f887 rg_78_2_0_1 (by omega) (by omega) (by decide)
        have q1563 : h865 78 2 = h14 78 2 := by rw [← e867]; exact x_up_i (by omega)
        have q1564 : h14 78 2 = h 78 2 := jK 0 f16 rg_78_2_0_1 (by omega) (by omega) (by decide)
        have b1565 := jB (e := 3) 0 hJ rg_78_3_0_1 (by omega) (by omega)
        have q1566 : h1517 78 3 = h1394 78 3 := by rw [← e1519]; exact x_up_i (by omega)
        have q1567 : h1394 78 3 = h1380 78 3 := by rw [← e1396]; exact x_up_i (by omega)
        have q1568 : h1380 78 3 = h1281 78 3 := jK 0 f1382 rg_78_3_0_1 (by omega) (by omega) (by decide)
        have q1569 : h1281 78 3 = h1189 78 3 := jK 0 f1283 rg_78_3_0_1 (by omega) (by omega) (by decide)
        have q1570 : h1189 78 3 = h1175 78 3 := by rw [← e1191]; exact x_up_i (by omega)
        have q1571 : h1175 78 3 = h1093 78 3 := jK 0 f1177 rg_78_3_0_1 (by omega) (by omega) (by decide)
        have q1572 : h1093 78 3 = h1022 78 3 := jK 0 f1095 rg_78_3_0_1 (by omega) (by omega) (by decide)
        have q1573 : h1022 78 3 = h1008 78 3 := by rw [← e1024]; exact x_up_i (by omega)
        have q1574 : h1008 78 3 = h951 78 3 := jK 0 f1010 rg_78_3_0_1 (by omega) (by omega) (by decide)
        have q1575 : h951 78 3 = h901 78 3 := jK 0 f953 rg_78_3_0_1 (by omega) (by omega) (by decide)
        have q1576 : h901 78 3 = h885 78 3 := by rw [← e903]; exact x_up_i (by omega)
        have q1577 : h885 78 3 = h865 78 3 := jK 0 f887 rg_78_3_0_1 (by omega) (by omega) (by decide)
        have q1578 : h865 78 3 = h14 78 3 := by rw [← e867]; exact x_up_i (by omega)
        have q1579 : h14 78 3 = h 78 3 := jK 0 f16 rg_78_3_0_1 (by omega) (by omega) (by decide)
        have q1580 : h1517 78 4 = (1 + (h 78 4)) := by rw [← e1519]; exact x_up_at
        have b1581 := jB (e := 5) 0 hJ rg_78_5_0_1 (by omega) (by omega)
        have q1582 : h1517 78 5 = h1394 78 5 := by rw [← e1519]; exact x_up_i (by omega)
        have q1583 : h1394 78 5 = h1380 78 5 := by rw [← e1396]; exact x_up_i (by omega)
        have q1584 : h1380 78 5 = h1281 78 5 := jK 0 f1382 rg_78_5_0_1 (by omega) (by omega) (by decide)
        have q1585 : h1281 78 5 = h1189 78 5 := jK 0 f1283 rg_78_5_0_1 (by omega) (by omega) (by decide)
        have q1586 : h1189 78 5 = h1175 78 5 := by rw [← e1191]; exact x_up_i (by omega)
        have q1587 : h1175 78 5 = h1093 78 5 := jK 0 f1177 rg_78_5_0_1 (by omega) (by omega) (by decide)
        have q1588 : h1093 78 5 = h1022 78 5 := jK 0 f1095 rg_78_5_0_1 (by omega) (by omega) (by decide)
        have q1589 : h1022 78 5 = h1008 78 5 := by rw [← e1024]; exact x_up_i (by omega)
        have q1590 : h1008 78 5 = h951 78 5 := jK 0 f1010 rg_78_5_0_1 (by omega) (by omega) (by decide)
        have q1591 : h951 78 5 = h901 78 5 := jK 0 f953 rg_78_5_0_1 (by omega) (by omega) (by decide)
        have q1592 : h901 78 5 = h885 78 5 := by rw [← e903]; exact x_up_i (by omega)
        have q1593 : h885 78 5 = h865 78 5 := jK 0 f887 rg_78_5_0_1 (by omega) (by omega) (by decide)
        have q1594 : h865 78 5 = h14 78 5 := by rw [← e867]; exact x_up_i (by omega)
        have q1595 : h14 78 5 = h 78 5 := jK 0 f16 rg_78_5_0_1 (by omega) (by omega) (by decide)
        have m1609 := Cl.fr hC f16 (by decide)
        have m1608 : Cl h865 := by rw [← e867]; exact Cl.upR (e := (200 + 5 * u8)) (v := 2147483649) u8 m1609 rg_76_200_5_10 (by omega) (by omega) (by omega)
        have m1607 := Cl.fr m1608 f887 (by decide)
        have m1606 : Cl h901 := by rw [← e903]; exact Cl.upR (e := (201 + 5 * u8)) (v := v881) u8 m1607 rg_76_201_5_10 (by omega) (by omega) (by omega)
        have m1605 := Cl.fr m1606 f953 (by decide)
        have m1604 := Cl.fr m1605 f1010 (by decide)
        have m1603 : Cl h1022 := by rw [← e1024]; exact Cl.upR (e := (202 + 5 * u8)) (v := v1004) u8 m1604 rg_76_202_5_10 (by omega) (by omega) (by omega)
        have m1602 := Cl.fr m1603 f1095 (by decide)
        have m1601 := Cl.fr m1602 f1177 (by decide)
        have m1600 : Cl h1189 := by rw [← e1191]; exact Cl.upR (e := (203 + 5 * u8)) (v := v1171) u8 m1601 rg_76_203_5_10 (by omega) (by omega) (by omega)
        have m1599 := Cl.fr m1600 f1283 (by decide)
        have m1598 := Cl.fr m1599 f1382 (by decide)
        have m1597 : Cl h1394 := by rw [← e1396]; exact Cl.upR (e := (204 + 5 * u8)) (v := v1376) u8 m1598 rg_76_204_5_10 (by omega) (by omega) (by omega)
        have m1596 : Cl h1517 := by rw [← e1519]; exact Cl.upR (e := 4) (v := (1 + (h 78 4))) 0 m1597 rg_76_4_0_1 (by omega) (by omega) (by omega)
        have y1610 := Is.yes c33 (by omega)
        have w1611 : Wd tB tN 10 (sk tB tN (h 75 7)) := by rw [← c21]; exact Wd.of' (by decide) y1610 c22
        have e1612 : sk tB tN (h14 75 7) = sk tB tN ((sk tB tN (h 75 7)) + iv_tl 10) := by rw [← c21, ← y1610.1]
        have q1613 : h865 75 7 = h14 75 7 := by rw [← e867]; exact x_up_k (by decide)
        have q1614 : h901 75 7 = h885 75 7 := by rw [← e903]; exact x_up_k (by decide)
        obtain ⟨w1615, e1616⟩ := Tw.yes c957 (by omega)
        have q1617 : h1022 75 7 = h1008 75 7 := by rw [← e1024]; exact x_up_k (by decide)
        obtain ⟨w1618, e1619⟩ := Tw.yes c1099 (by omega)
        have q1620 : h1189 75 7 = h1175 75 7 := by rw [← e1191]; exact x_up_k (by decide)
        obtain ⟨w1621, e1622⟩ := Tw.yes c1287 (by omega)
        have q1623 : h1517 75 7 = h1394 75 7 := by rw [← e1519]; exact x_up_k (by decide)
        have q1624 : h1394 75 7 = h1380 75 7 := by rw [← e1396]; exact x_up_k (by decide)
        refine x_retI (np := 168) (x := 0) (by decide +kernel) (by decide) (Or.inr ⟨by decide +kernel, by omega, by omega⟩) ⟨_, rfl, (by decide), ?_⟩
        exact ⟨j1518, f1520, (by omega), (fun z => by omega), (fun z => by omega), (fun z => by omega), (fun z => by omega), (fun z => by omega), (fun z => by omega), (fun _ => m1596), (Or.inr ⟨by omega, (or9.f (wd_910 w1611) rfl rfl (wd9.y w1611 rfl e1612 rfl (nm9.y c894 (by omega) (by omega) (congrArg (sk tB tN) (show h865 75 7 = h14 75 7 by omega)) (by omega) rfl (wd9.y w1615 (congrArg (sk tB tN) (show h901 75 7 = h885 75 7 by omega)) e1616 rfl (nm9.y c1017 (by omega) (by omega) rfl (by omega) rfl (wd9.y w1618 (congrArg (sk tB tN) (show h1022 75 7 = h1008 75 7 by omega)) e1619 rfl (nm9.y c1184 (by omega) (by omega) rfl (by omega) rfl (wd9.y w1621 (congrArg (sk tB tN) (show h1189 75 7 = h1175 75 7 by omega)) e1622 rfl (nm9.y c1389 (by omega) (by omega) rfl (by omega) rfl (fin9.mk (by omega) (congrArg (sk tB tN) (show h1380 75 7 = h1517 75 7 by omega))))))))))))⟩)⟩
      have q1501 : ¬ (2147483649 ≠ 2147483648) := q1501
      exfalso; omega
    have q873 : ¬ (2147483649 ≠ 2147483648) := q873
    exfalso; omega
  have q5 : ¬ ((h 78 4) ≠ 2147483658) := q5
  refine x_const (np := 12) (x := 9223372039002259456) (a := 2147483648) (by decide +kernel) (by decide) (by decide) ?_
  have b1625 := jB (e := 0) 0 hJ rg_78_0_0_1 (by omega) (by omega)
  have b1626 := jB (e := 2) 0 hJ rg_78_2_0_1 (by omega) (by omega)
  have b1627 := jB (e := 3) 0 hJ rg_78_3_0_1 (by omega) (by omega)
  have b1628 := jB (e := 5) 0 hJ rg_78_5_0_1 (by omega) (by omega)
  have b1629 := jB (e := 0) 0 hJ rg_76_0_0_1 (by omega) (by omega)
  refine x_retI (np := 13) (x := 0) (by decide +kernel) (by decide) (Or.inr ⟨by decide +kernel, by omega, by omega⟩) ⟨_, rfl, (by decide), ?_⟩
  exact ⟨hJ, hF, (by omega), (fun z => by omega), (fun z => by omega), (fun z => by omega), (fun z => by omega), (fun z => by omega), (fun z => by omega), (fun z => absurd z (by omega)), (Or.inl ⟨by omega, by omega⟩)⟩
