/-! ===== methods ===== -/
set_option maxHeartbeats 0 in
/-- LentNamesModel.way(IZ)I -/
theorem c237_75 {sc : Nat × Nat} {d a1 a2 : Nat} {h : xh} (hJ : J h) (ba1 : 0 ≤ a1 ∧ a1 ≤ 4294967295) (ba2 : 2147483648 ≤ a2 ∧ a2 ≤ 2147483649) (hW : WT 76 h) : X sc 237 (d + 5) (xI fun r h' => J h' ∧ Fr 135291600897 h h' ∧ (0 ≤ r ∧ r ≤ 4294967295)) 0 0 0 [x_r 75, iv_c a1, iv_c a2, 147573952589676412928, 147573952589676412928] [] h := by
  have la1 : a1 < 4294967296 := by first | decide | omega
  have la2 : a2 < 4294967296 := by first | decide | omega
  have hF := Fr.refl 135291600897 h
  refine x_aload (np := 1) (x := 0) (by decide +kernel) rfl (x_nc_le (by decide)) ?_
  refine x_const (np := 2) (x := 9223372039002259456) (a := 2147483648) (by decide +kernel) (by decide) (by decide) ?_
  refine x_putI (np := 5) (x := 704) (f := 0) (by decide +kernel) (by decide +kernel) (by decide) (Or.inl (by decide)) ?_
  have j2 := jU (e := 0) (v := 2147483648) 0 hJ rg_75_0_0_1 (by first | decide | omega) (by first | decide | omega) (by first | decide | omega)
  have f4 := jF (e := 0) (v := 2147483648) 0 hF rg_75_0_0_1 (by first | decide | omega) (by first | decide | omega) (by decide)
  generalize e3 : x_up h 75 0 2147483648 = h1 at j2 f4 ⊢
  refine x_aload (np := 6) (x := 0) (by decide +kernel) rfl (x_nc_le (by decide)) ?_
  refine x_aload (np := 7) (x := 0) (by decide +kernel) rfl (x_nc_le (by decide)) ?_
  refine x_iload (np := 8) (x := 1) (by decide +kernel) rfl la1 ?_
  refine x_nI (t := 6) (mj := 159) (n := 2) (rc := 12) (ml := 2) (nr := 1) (np := 11) (as := [x_r 75, iv_c a1]) (rest := [x_r 75]) (lo1 := [x_r 75, iv_c a1]) (by decide +kernel) (by decide) (by decide +kernel) (x_rb_of (by decide +kernel)) rfl rfl (x_wr (by decide) (x_wi la1 x_wn)) (x_wr (by decide) x_wn) (by decide) rfl ?_
  refine x_aload (np := 1) (x := 0) (by decide +kernel) rfl (x_nc_le (by decide)) ?_
  refine x_iload (np := 2) (x := 1) (by decide +kernel) rfl la1 ?_
  refine x_const (np := 3) (x := 9223372039002259456) (a := 2147483648) (by decide +kernel) (by decide) (by decide) ?_
  refine x_nI (t := 6) (mj := 158) (n := 3) (rc := 12) (ml := 3) (nr := 0) (np := 6) (as := [x_r 75, iv_c a1, iv_c 2147483648]) (rest := []) (lo1 := [x_r 75, iv_c a1, iv_c 2147483648]) (by decide +kernel) (by decide) (by decide +kernel) (x_rb_of (by decide +kernel)) rfl rfl (x_wr (by decide) (x_wi la1 (x_wi (by decide) x_wn))) x_wn (by decide) rfl ?_
  refine x_iload (np := 1) (x := 1) (by decide +kernel) rfl la1 ?_
  refine x_const (np := 2) (x := 9223372039002259456) (a := 2147483648) (by decide +kernel) (by decide) (by decide) ?_
  refine x_aload (np := 3) (x := 0) (by decide +kernel) rfl (x_nc_le (by decide)) ?_
  have q5 : h1 75 1 = 76 := by have z := jB (e := 1) 0 j2 rg_75_1_0_1 (by decide) (by decide); omega
  refine x_getR (np := 6) (x := 705) (f := 1) (q := 76) (by decide +kernel) (by decide) (by decide +kernel) q5 ?_
  refine x_iload (np := 7) (x := 2) (by decide +kernel) rfl (by decide) ?_
  have q6 : h1 76 0 = h 76 0 := by rw [← e3]; exact x_up_k (by decide)
  have b7 := jB (e := 0) 0 hJ rg_76_0_0_1 (by first | decide | omega) (by first | decide | omega)
  refine x_aldC (np := 8) (x := 0) (n := 1952) (i := 0) (q := (h 76 0)) (by decide +kernel) (by decide +kernel) (by first | decide | omega) (by first | decide | omega) (by decide) q6 (fun l8 => ?_)
  refine x_const (np := 9) (x := 9223372043297226753) (a := 2147483649) (by decide +kernel) (by decide) (by decide) ?_
  obtain ⟨v9, q10⟩ : ∃ z, z + 2147483649 = (h 76 0) + 2147483648 := ⟨(h 76 0) + 2147483648 - 2147483649, by first | decide | omega⟩
  refine x_isub (np := 10) (x := 0) (v := v9) (by decide +kernel) l8 (by decide) (by first | decide | omega) (by first | decide | omega) ?_
  refine x_nI (t := 0) (mj := 153) (n := 3) (rc := 0) (ml := 3) (nr := 0) (np := 13) (as := [iv_c a1, iv_c 2147483648, iv_c v9]) (rest := []) (lo1 := [iv_c a1, iv_c 2147483648, iv_c v9]) (by decide +kernel) (by decide) (by decide +kernel) (Or.inl rfl) rfl rfl (x_wi la1 (x_wi (by decide) (x_wi (by first | decide | omega) x_wn))) x_wn (by decide) rfl ?_
  refine x_iload (np := 1) (x := 0) (by decide +kernel) rfl la1 ?_
  refine x_iload (np := 2) (x := 1) (by decide +kernel) rfl (by decide) ?_
  refine x_icmp (k := 2) (tg := 14) (np := 5) (by decide +kernel) (by decide) la1 (by decide) (fun q11 => ?_) (fun q12 => ?_)
  · have q11 : a1 < 2147483648 := q11
    refine x_const (np := 15) (x := 9223372039002259456) (a := 2147483648) (by decide +kernel) (by decide) (by decide) ?_
    refine x_retI (np := 16) (x := 0) (by decide +kernel) (by decide) (Or.inr ⟨by decide +kernel, by first | decide | omega, by first | decide | omega⟩) ⟨_, rfl, (by decide), ?_⟩
    refine x_ifz (k := 1) (tg := 20) (np := 16) (by decide +kernel) (by decide) (by decide) (fun q13 => ?_) (fun q14 => ?_)
    · have q13 : 2147483648 ≠ 2147483648 := q13
      exfalso; omega
    have q14 : ¬ (2147483648 ≠ 2147483648) := q14
    refine x_const (np := 17) (x := 9223372043297226753) (a := 2147483649) (by decide +kernel) (by decide) (by decide) ?_
    refine x_goto (np := 20) (x := 21) (by decide +kernel) ?_
    refine x_retI (np := 22) (x := 0) (by decide +kernel) (by decide) (Or.inr ⟨by decide +kernel, by first | decide | omega, by first | decide | omega⟩) ⟨_, rfl, (by decide), ?_⟩
    refine x_retI (np := 7) (x := 0) (by decide +kernel) (by decide) (Or.inr ⟨by decide +kernel, by first | decide | omega, by first | decide | omega⟩) ⟨_, rfl, (by decide), ?_⟩
    refine x_const (np := 12) (x := 9223372043297226753) (a := 2147483649) (by decide +kernel) (by decide) (by decide) ?_
    refine x_nI (t := 6) (mj := 152) (n := 3) (rc := 12) (ml := 3) (nr := 0) (np := 15) (as := [x_r 75, iv_c 2147483649, iv_c 2147483649]) (rest := []) (lo1 := [x_r 75, iv_c 2147483649, iv_c 2147483649]) (by decide +kernel) (by decide) (by decide +kernel) (x_rb_of (by decide +kernel)) rfl rfl (x_wr (by decide) (x_wi (by decide) (x_wi (by decide) x_wn))) x_wn (by decide) rfl ?_
    refine x_iload (np := 1) (x := 1) (by decide +kernel) rfl (by decide) ?_
    refine x_ifz (k := 0) (tg := 9) (np := 4) (by decide +kernel) (by decide) (by decide) (fun q15 => ?_) (fun q16 => ?_)
    · have q15 : 2147483649 = 2147483648 := q15
      exfalso; omega
    have q16 : ¬ (2147483649 = 2147483648) := q16
    refine x_aload (np := 5) (x := 0) (by decide +kernel) rfl (x_nc_le (by decide)) ?_
    refine x_iload (np := 6) (x := 2) (by decide +kernel) rfl (by decide) ?_
    refine x_putI (np := 9) (x := 704) (f := 0) (by decide +kernel) (by decide +kernel) (by decide) (Or.inl (by decide)) ?_
    have j18 := jU (e := 0) (v := 2147483649) 0 j2 rg_75_0_0_1 (by first | decide | omega) (by first | decide | omega) (by first | decide | omega)
    have f20 := jF (e := 0) (v := 2147483649) 0 f4 rg_75_0_0_1 (by first | decide | omega) (by first | decide | omega) (by decide)
    generalize e19 : x_up h1 75 0 2147483649 = h17 at j18 f20 ⊢
    refine x_iload (np := 10) (x := 1) (by decide +kernel) rfl (by decide) ?_
    refine x_retI (np := 11) (x := 0) (by decide +kernel) (by decide) (Or.inr ⟨by decide +kernel, by first | decide | omega, by first | decide | omega⟩) ⟨_, rfl, (by decide), ?_⟩
    refine x_ifz (k := 0) (tg := 20) (np := 18) (by decide +kernel) (by decide) (by decide) (fun q21 => ?_) (fun q22 => ?_)
    · have q21 : 2147483649 = 2147483648 := q21
      exfalso; omega
    have q22 : ¬ (2147483649 = 2147483648) := q22
    refine x_const (np := 19) (x := 9223372039002259456) (a := 2147483648) (by decide +kernel) (by decide) (by decide) ?_
    refine x_retI (np := 20) (x := 0) (by decide +kernel) (by decide) (Or.inl (by decide +kernel)) ⟨_, rfl, (by decide), ?_⟩
    exact ⟨j18, f20, (by first | decide | omega)⟩
  have q12 : ¬ (a1 < 2147483648) := q12
  refine x_iload (np := 6) (x := 0) (by decide +kernel) rfl la1 ?_
  refine x_iload (np := 7) (x := 2) (by decide +kernel) rfl (by first | decide | omega) ?_
  refine x_icmp (k := 4) (tg := 14) (np := 10) (by decide +kernel) (by decide) la1 (by first | decide | omega) (fun q23 => ?_) (fun q24 => ?_)
  · have q23 : v9 < a1 := q23
    refine x_const (np := 15) (x := 9223372039002259456) (a := 2147483648) (by decide +kernel) (by decide) (by decide) ?_
    refine x_retI (np := 16) (x := 0) (by decide +kernel) (by decide) (Or.inr ⟨by decide +kernel, by first | decide | omega, by first | decide | omega⟩) ⟨_, rfl, (by decide), ?_⟩
    refine x_ifz (k := 1) (tg := 20) (np := 16) (by decide +kernel) (by decide) (by decide) (fun q25 => ?_) (fun q26 => ?_)
    · have q25 : 2147483648 ≠ 2147483648 := q25
      exfalso; omega
    have q26 : ¬ (2147483648 ≠ 2147483648) := q26
    refine x_const (np := 17) (x := 9223372043297226753) (a := 2147483649) (by decide +kernel) (by decide) (by decide) ?_
    refine x_goto (np := 20) (x := 21) (by decide +kernel) ?_
    refine x_retI (np := 22) (x := 0) (by decide +kernel) (by decide) (Or.inr ⟨by decide +kernel, by first | decide | omega, by first | decide | omega⟩) ⟨_, rfl, (by decide), ?_⟩
    refine x_retI (np := 7) (x := 0) (by decide +kernel) (by decide) (Or.inr ⟨by decide +kernel, by first | decide | omega, by first | decide | omega⟩) ⟨_, rfl, (by decide), ?_⟩
    refine x_const (np := 12) (x := 9223372043297226753) (a := 2147483649) (by decide +kernel) (by decide) (by decide) ?_
    refine x_nI (t := 6) (mj := 152) (n := 3) (rc := 12) (ml := 3) (nr := 0) (np := 15) (as := [x_r 75, iv_c 2147483649, iv_c 2147483649]) (rest := []) (lo1 := [x_r 75, iv_c 2147483649, iv_c 2147483649]) (by decide +kernel) (by decide) (by decide +kernel) (x_rb_of (by decide +kernel)) rfl rfl (x_wr (by decide) (x_wi (by decide) (x_wi (by decide) x_wn))) x_wn (by decide) rfl ?_
    refine x_iload (np := 1) (x := 1) (by decide +kernel) rfl (by decide) ?_
    refine x_ifz (k := 0) (tg := 9) (np := 4) (by decide +kernel) (by decide) (by decide) (fun q27 => ?_) (fun q28 => ?_)
    · have q27 : 2147483649 = 2147483648 := q27
      exfalso; omega
    have q28 : ¬ (2147483649 = 2147483648) := q28
    refine x_aload (np := 5) (x := 0) (by decide +kernel) rfl (x_nc_le (by decide)) ?_
    refine x_iload (np := 6) (x := 2) (by decide +kernel) rfl (by decide) ?_
    refine x_putI (np := 9) (x := 704) (f := 0) (by decide +kernel) (by decide +kernel) (by decide) (Or.inl (by decide)) ?_
    have j30 := jU (e := 0) (v := 2147483649) 0 j2 rg_75_0_0_1 (by first | decide | omega) (by first | decide | omega) (by first | decide | omega)
    have f32 := jF (e := 0) (v := 2147483649) 0 f4 rg_75_0_0_1 (by first | decide | omega) (by first | decide | omega) (by decide)
    generalize e31 : x_up h1 75 0 2147483649 = h29 at j30 f32 ⊢
    refine x_iload (np := 10) (x := 1) (by decide +kernel) rfl (by decide) ?_
    refine x_retI (np := 11) (x := 0) (by decide +kernel) (by decide) (Or.inr ⟨by decide +kernel, by first | decide | omega, by first | decide | omega⟩) ⟨_, rfl, (by decide), ?_⟩
    refine x_ifz (k := 0) (tg := 20) (np := 18) (by decide +kernel) (by decide) (by decide) (fun q33 => ?_) (fun q34 => ?_)
    · have q33 : 2147483649 = 2147483648 := q33
      exfalso; omega
    have q34 : ¬ (2147483649 = 2147483648) := q34
    refine x_const (np := 19) (x := 9223372039002259456) (a := 2147483648) (by decide +kernel) (by decide) (by decide) ?_
    refine x_retI (np := 20) (x := 0) (by decide +kernel) (by decide) (Or.inl (by decide +kernel)) ⟨_, rfl, (by decide), ?_⟩
    exact ⟨j30, f32, (by first | decide | omega)⟩
  have q24 : ¬ (v9 < a1) := q24
  refine x_const (np := 11) (x := 9223372043297226753) (a := 2147483649) (by decide +kernel) (by decide) (by decide) ?_
  refine x_goto (np := 14) (x := 15) (by decide +kernel) ?_
  refine x_retI (np := 16) (x := 0) (by decide +kernel) (by decide) (Or.inr ⟨by decide +kernel, by first | decide | omega, by first | decide | omega⟩) ⟨_, rfl, (by decide), ?_⟩
  refine x_ifz (k := 1) (tg := 20) (np := 16) (by decide +kernel) (by decide) (by decide) (fun q35 => ?_) (fun q36 => ?_)
  · have q35 : 2147483649 ≠ 2147483648 := q35
    refine x_const (np := 21) (x := 9223372039002259456) (a := 2147483648) (by decide +kernel) (by decide) (by decide) ?_
    refine x_retI (np := 22) (x := 0) (by decide +kernel) (by decide) (Or.inr ⟨by decide +kernel, by first | decide | omega, by first | decide | omega⟩) ⟨_, rfl, (by decide), ?_⟩
    refine x_retI (np := 7) (x := 0) (by decide +kernel) (by decide) (Or.inr ⟨by decide +kernel, by first | decide | omega, by first | decide | omega⟩) ⟨_, rfl, (by decide), ?_⟩
    refine x_const (np := 12) (x := 9223372043297226753) (a := 2147483649) (by decide +kernel) (by decide) (by decide) ?_
    refine x_nI (t := 6) (mj := 152) (n := 3) (rc := 12) (ml := 3) (nr := 0) (np := 15) (as := [x_r 75, iv_c 2147483648, iv_c 2147483649]) (rest := []) (lo1 := [x_r 75, iv_c 2147483648, iv_c 2147483649]) (by decide +kernel) (by decide) (by decide +kernel) (x_rb_of (by decide +kernel)) rfl rfl (x_wr (by decide) (x_wi (by decide) (x_wi (by decide) x_wn))) x_wn (by decide) rfl ?_
    refine x_iload (np := 1) (x := 1) (by decide +kernel) rfl (by decide) ?_
    refine x_ifz (k := 0) (tg := 9) (np := 4) (by decide +kernel) (by decide) (by decide) (fun q37 => ?_) (fun q38 => ?_)
    · have q37 : 2147483648 = 2147483648 := q37
      refine x_iload (np := 10) (x := 1) (by decide +kernel) rfl (by decide) ?_
      refine x_retI (np := 11) (x := 0) (by decide +kernel) (by decide) (Or.inr ⟨by decide +kernel, by first | decide | omega, by first | decide | omega⟩) ⟨_, rfl, (by decide), ?_⟩
      refine x_ifz (k := 0) (tg := 20) (np := 18) (by decide +kernel) (by decide) (by decide) (fun q39 => ?_) (fun q40 => ?_)
      · have q39 : 2147483648 = 2147483648 := q39
        refine x_aload (np := 21) (x := 0) (by decide +kernel) rfl (x_nc_le (by decide)) ?_
        have m44 : WT 76 h1 := by rw [← e3]; exact WT.oth hW hJ (by decide)
        refine x_cV (t := 6) (mj := 210) (n := 1) (rc := 12) (ml := 5) (nr := 0) (np := 24) (as := [x_r 75]) (rest := []) (lo1 := [x_r 75, 147573952589676412928, 147573952589676412928, 147573952589676412928, 147573952589676412928]) (by decide +kernel) (by decide) (by decide +kernel) (x_rb_of (by decide +kernel)) rfl rfl (x_wr (by decide) x_wn) x_wn (by decide) rfl (c210_75 j2  m44) (fun h45 q43 => ?_)
        obtain ⟨j46, f47⟩ := q43
        have f50 := Fr.trans f4 f47 (by decide)
        refine x_iload (np := 25) (x := 2) (by decide +kernel) rfl la2 ?_
        refine x_ifz (k := 0) (tg := 34) (np := 28) (by decide +kernel) (by decide) la2 (fun q51 => ?_) (fun q52 => ?_)
        · have q51 : a2 = 2147483648 := q51
          refine x_const (np := 35) (x := 9223372039002259456) (a := 2147483648) (by decide +kernel) (by decide) (by decide) ?_
          refine x_istore (np := 36) (x := 3) (lo' := [x_r 75, iv_c a1, iv_c a2, iv_c 2147483648, 147573952589676412928]) (by decide +kernel) (by decide) (Nat.le_of_ble_eq_true rfl) rfl ?_
          refine x_const (np := 37) (x := 9223372039002259456) (a := 2147483648) (by decide +kernel) (by decide) (by decide) ?_
          refine x_istore (np := 39) (x := 4) (lo' := [x_r 75, iv_c a1, iv_c a2, iv_c 2147483648, iv_c 2147483648]) (by decide +kernel) (by decide) (Nat.le_of_ble_eq_true rfl) rfl ?_
          have p332 : ∀ (n : Nat) (v328 : Nat) (v330 : Nat), 4294967296 - v330 < n → (0 ≤ v328 ∧ v328 ≤ 4294967295) → (2147483648 ≤ v330 ∧ v330 ≤ 2147483660) → X sc 237 (d + 5) (xI fun r h' => J h' ∧ Fr 135291600897 h h' ∧ (0 ≤ r ∧ r ≤ 4294967295)) 0 0 39 [x_r 75, iv_c a1, iv_c a2, iv_c v328, iv_c v330] [] h45 := by
            intro n
            induction n with
            | zero => intro v328 v330 q333; exact absurd q333 (Nat.not_lt_zero _)
            | succ n i334 =>
              intro v328 v330 q333 b329 b331
              refine x_iload (np := 41) (x := 4) (by decide +kernel) rfl (by first | decide | omega) ?_
              refine x_const (np := 43) (x := 9223372090541867020) (a := 2147483660) (by decide +kernel) (by decide) (by decide) ?_
              refine x_icmp (k := 3) (tg := 78) (np := 46) (by decide +kernel) (by decide) (by first | decide | omega) (by decide) (fun q335 => ?_) (fun q336 => ?_)
              · have q335 : 2147483660 ≤ v330 := q335
                refine x_iload (np := 79) (x := 3) (by decide +kernel) rfl (by first | decide | omega) ?_
                refine x_retI (np := 80) (x := 0) (by decide +kernel) (by first | decide | omega) (Or.inl (by decide +kernel)) ⟨_, rfl, (by first | decide | omega), ?_⟩
                exact ⟨j46, f50, (by first | decide | omega)⟩
              have q336 : ¬ (2147483660 ≤ v330) := q336
              refine x_iload (np := 47) (x := 3) (by decide +kernel) rfl (by first | decide | omega) ?_
              refine x_aload (np := 48) (x := 0) (by decide +kernel) rfl (x_nc_le (by decide)) ?_
              refine x_iload (np := 49) (x := 1) (by decide +kernel) rfl la1 ?_
              refine x_iload (np := 51) (x := 4) (by decide +kernel) rfl (by first | decide | omega) ?_
              refine x_nI (t := 6) (mj := 211) (n := 3) (rc := 12) (ml := 3) (nr := 1) (np := 54) (as := [x_r 75, iv_c a1, iv_c v330]) (rest := [iv_c v328]) (lo1 := [x_r 75, iv_c a1, iv_c v330]) (by decide +kernel) (by decide) (by decide +kernel) (x_rb_of (by decide +kernel)) rfl rfl (x_wr (by decide) (x_wi la1 (x_wi (by first | decide | omega) x_wn))) (x_wi (by first | decide | omega) x_wn) (by decide) rfl ?_
              refine x_aload (np := 1) (x := 0) (by decide +kernel) rfl (x_nc_le (by decide)) ?_
              have q337 : h45 75 20 = 87 := by have z := jB (e := 20) 0 j46 rg_75_20_0_1 (by decide) (by decide); omega
              refine x_getR (np := 4) (x := 724) (f := 20) (q := 87) (by decide +kernel) (by decide) (by decide +kernel) q337 ?_
              refine x_const (np := 6) (x := 9223372090541867020) (a := 2147483660) (by decide +kernel) (by decide) (by decide) ?_
              refine x_iload (np := 7) (x := 1) (by decide +kernel) rfl la1 ?_
              obtain ⟨u338, q339⟩ : ∃ z, a1 = 2147483648 + z := ⟨a1 - 2147483648, by first | decide | omega⟩
              refine x_imul (np := 8) (x := 0) (i := 12) (j := u338) (v := (2147483648 + 12 * u338)) (by decide +kernel) (by first | decide | omega) (by first | decide | omega) (by first | decide | omega) (by first | decide | omega) (by decide) la1 ?_
              refine x_iload (np := 9) (x := 2) (by decide +kernel) rfl (by first | decide | omega) ?_
              refine x_iadd (np := 10) (x := 0) (v := (12 * u338 + v330)) (by decide +kernel) (by first | decide | omega) (by first | decide | omega) (by first | decide | omega) (by first | decide | omega) ?_
              obtain ⟨u341, q342⟩ : ∃ z, v330 = 2147483648 + z := ⟨v330 - 2147483648, by first | decide | omega⟩
              have b343 := jB (e := (12 * u338 + u341)) (12 * u338 + u341) j46 rg_87_0_1_72 (by first | decide | omega) (by first | decide | omega)
              refine x_aldC (np := 11) (x := 0) (n := 72) (i := (12 * u338 + u341)) (q := ((h45 87 (12 * u338 + u341)))) (by decide +kernel) (by decide +kernel) (by first | decide | omega) (by first | decide | omega) (by decide) rfl (fun l344 => ?_)
              refine x_retI (np := 12) (x := 0) (by decide +kernel) l344 (Or.inl (by decide +kernel)) ⟨_, rfl, l344, ?_⟩
              refine x_ifz (k := 2) (tg := 69) (np := 57) (by decide +kernel) (by decide) l344 (fun q345 => ?_) (fun q346 => ?_)
              · have q345 : ((h45 87 (12 * u338 + u341))) < 2147483648 := q345
                refine x_const (np := 70) (x := 9223372039002259456) (a := 2147483648) (by decide +kernel) (by decide) (by decide) ?_
                refine x_any (np := 71) (k9 := 1) (by decide +kernel) (by decide) (by first | decide | omega) (by decide) (fun v347 l348 => ?_)
                refine x_istore (np := 72) (x := 3) (lo' := [x_r 75, iv_c a1, iv_c a2, iv_c v347, iv_c v330]) (by decide +kernel) l348 (Nat.le_of_ble_eq_true rfl) rfl ?_
                refine x_iinc (np := 75) (i := 4) (j := 2147483649) (v := (1 + v330)) (lo' := [x_r 75, iv_c a1, iv_c a2, iv_c v347, iv_c (1 + v330)]) (by decide +kernel) (by decide) (by decide) rfl (by first | decide | omega) (by first | decide | omega) (by first | decide | omega) rfl ?_
                refine x_goto (np := 78) (x := 39) (by decide +kernel) ?_
                exact i334 v347 (1 + v330) (by first | decide | omega) (by first | decide | omega) (by first | decide | omega)
              have q346 : ¬ (((h45 87 (12 * u338 + u341))) < 2147483648) := q346
              refine x_const (np := 58) (x := 9223372043297226753) (a := 2147483649) (by decide +kernel) (by decide) (by decide) ?_
              refine x_aload (np := 59) (x := 0) (by decide +kernel) rfl (x_nc_le (by decide)) ?_
              refine x_iload (np := 60) (x := 1) (by decide +kernel) rfl la1 ?_
              refine x_iload (np := 62) (x := 4) (by decide +kernel) rfl (by first | decide | omega) ?_
              refine x_nI (t := 6) (mj := 211) (n := 3) (rc := 12) (ml := 3) (nr := 2) (np := 65) (as := [x_r 75, iv_c a1, iv_c v330]) (rest := [iv_c 2147483649, iv_c v328]) (lo1 := [x_r 75, iv_c a1, iv_c v330]) (by decide +kernel) (by decide) (by decide +kernel) (x_rb_of (by decide +kernel)) rfl rfl (x_wr (by decide) (x_wi la1 (x_wi (by first | decide | omega) x_wn))) (x_wi (by decide) (x_wi (by first | decide | omega) x_wn)) (by decide) rfl ?_
              refine x_aload (np := 1) (x := 0) (by decide +kernel) rfl (x_nc_le (by decide)) ?_
              have q349 : h45 75 20 = 87 := by have z := jB (e := 20) 0 j46 rg_75_20_0_1 (by decide) (by decide); omega
              refine x_getR (np := 4) (x := 724) (f := 20) (q := 87) (by decide +kernel) (by decide) (by decide +kernel) q349 ?_
              refine x_const (np := 6) (x := 9223372090541867020) (a := 2147483660) (by decide +kernel) (by decide) (by decide) ?_
              refine x_iload (np := 7) (x := 1) (by decide +kernel) rfl la1 ?_
              refine x_imul (np := 8) (x := 0) (i := 12) (j := u338) (v := (2147483648 + 12 * u338)) (by decide +kernel) (by first | decide | omega) (by first | decide | omega) (by first | decide | omega) (by first | decide | omega) (by decide) la1 ?_
              refine x_iload (np := 9) (x := 2) (by decide +kernel) rfl (by first | decide | omega) ?_
              refine x_iadd (np := 10) (x := 0) (v := (12 * u338 + v330)) (by decide +kernel) (by first | decide | omega) (by first | decide | omega) (by first | decide | omega) (by first | decide | omega) ?_
              refine x_aldC (np := 11) (x := 0) (n := 72) (i := (12 * u338 + u341)) (q := ((h45 87 (12 * u338 + u341)))) (by decide +kernel) (by decide +kernel) (by first | decide | omega) (by first | decide | omega) (by decide) rfl (fun l351 => ?_)
              refine x_retI (np := 12) (x := 0) (by decide +kernel) l344 (Or.inl (by decide +kernel)) ⟨_, rfl, l344, ?_⟩
              refine x_any (np := 66) (k9 := 3) (by decide +kernel) (by decide) (by decide) l344 (fun v352 l353 => ?_)
              refine x_goto (np := 69) (x := 70) (by decide +kernel) ?_
              refine x_any (np := 71) (k9 := 1) (by decide +kernel) (by decide) (by first | decide | omega) l353 (fun v354 l355 => ?_)
              refine x_istore (np := 72) (x := 3) (lo' := [x_r 75, iv_c a1, iv_c a2, iv_c v354, iv_c v330]) (by decide +kernel) l355 (Nat.le_of_ble_eq_true rfl) rfl ?_
              refine x_iinc (np := 75) (i := 4) (j := 2147483649) (v := (1 + v330)) (lo' := [x_r 75, iv_c a1, iv_c a2, iv_c v354, iv_c (1 + v330)]) (by decide +kernel) (by decide) (by decide) rfl (by first | decide | omega) (by first | decide | omega) (by first | decide | omega) rfl ?_
              refine x_goto (np := 78) (x := 39) (by decide +kernel) ?_
              exact i334 v354 (1 + v330) (by first | decide | omega) (by first | decide | omega) (by first | decide | omega)
          exact p332 _ 2147483648 2147483648 (Nat.lt_succ_self _) (by first | decide | omega) (by first | decide | omega)
        have q52 : ¬ (a2 = 2147483648) := q52
        refine x_aload (np := 29) (x := 0) (by decide +kernel) rfl (x_nc_le (by decide)) ?_
        refine x_iload (np := 30) (x := 1) (by decide +kernel) rfl la1 ?_
        refine x_cP (t := 6) (mj := 236) (n := 2) (rc := 12) (ml := 4) (nr := 0) (np := 33) (as := [x_r 75, iv_c a1]) (rest := []) (lo1 := [x_r 75, iv_c a1, 147573952589676412928, 147573952589676412928]) (by decide +kernel) (by decide) (by decide +kernel) (x_rb_of (by decide +kernel)) rfl rfl (x_wr (by decide) (x_wi la1 x_wn)) x_wn (by decide) rfl (c236_75 j46  (by first | decide | omega)) (fun v356 l357 q358 => ?_)
        refine x_retI (np := 34) (x := 0) (by decide +kernel) l357 (Or.inl (by decide +kernel)) ⟨_, rfl, l357, ?_⟩
        exact ⟨j46, f50, (by first | decide | omega)⟩
      have q40 : ¬ (2147483648 = 2147483648) := q40
      exfalso; omega
    have q38 : ¬ (2147483648 = 2147483648) := q38
    exfalso; omega
  have q36 : ¬ (2147483649 ≠ 2147483648) := q36
  exfalso; omega
set_option maxHeartbeats 0 in
/-- LentNamesModel.busiest()I -/
theorem c238_75 {sc : Nat × Nat} {d  : Nat} {h : xh} (hJ : J h) (hW : WT 76 h) : X sc 238 (d + 5) (xI fun r h' => J h' ∧ Fr 135291600897 h h' ∧ (2147483648 ≤ r ∧ r ≤ 2147483653)) 0 0 0 [x_r 75, 147573952589676412928, 147573952589676412928] [] h := by
  have hF := Fr.refl 135291600897 h
  refine x_aload (np := 1) (x := 0) (by decide +kernel) rfl (x_nc_le (by decide)) ?_
  refine x_const (np := 2) (x := 9223372039002259456) (a := 2147483648) (by decide +kernel) (by decide) (by decide) ?_
  refine x_putI (np := 5) (x := 704) (f := 0) (by decide +kernel) (by decide +kernel) (by decide) (Or.inl (by decide)) ?_
  have j2 := jU (e := 0) (v := 2147483648) 0 hJ rg_75_0_0_1 (by first | decide | omega) (by first | decide | omega) (by first | decide | omega)
  have f4 := jF (e := 0) (v := 2147483648) 0 hF rg_75_0_0_1 (by first | decide | omega) (by first | decide | omega) (by decide)
  generalize e3 : x_up h 75 0 2147483648 = h1 at j2 f4 ⊢
  refine x_aload (np := 6) (x := 0) (by decide +kernel) rfl (x_nc_le (by decide)) ?_
  have m8 : WT 76 h1 := by rw [← e3]; exact WT.oth hW hJ (by decide)
  refine x_cV (t := 6) (mj := 210) (n := 1) (rc := 12) (ml := 5) (nr := 0) (np := 9) (as := [x_r 75]) (rest := []) (lo1 := [x_r 75, 147573952589676412928, 147573952589676412928, 147573952589676412928, 147573952589676412928]) (by decide +kernel) (by decide) (by decide +kernel) (x_rb_of (by decide +kernel)) rfl rfl (x_wr (by decide) x_wn) x_wn (by decide) rfl (c210_75 j2  m8) (fun h9 q7 => ?_)
  obtain ⟨j10, f11⟩ := q7
  have f14 := Fr.trans f4 f11 (by decide)
  refine x_const (np := 10) (x := 9223372039002259456) (a := 2147483648) (by decide +kernel) (by decide) (by decide) ?_
  refine x_istore (np := 11) (x := 1) (lo' := [x_r 75, iv_c 2147483648, 147573952589676412928]) (by decide +kernel) (by decide) (Nat.le_of_ble_eq_true rfl) rfl ?_
  refine x_const (np := 12) (x := 9223372043297226753) (a := 2147483649) (by decide +kernel) (by decide) (by decide) ?_
  refine x_istore (np := 13) (x := 2) (lo' := [x_r 75, iv_c 2147483648, iv_c 2147483649]) (by decide +kernel) (by decide) (Nat.le_of_ble_eq_true rfl) rfl ?_
  have p114 : ∀ (n : Nat) (v110 : Nat) (v112 : Nat), 4294967296 - v112 < n → (2147483648 ≤ v110 ∧ v110 ≤ 2147483653) → (2147483649 ≤ v112 ∧ v112 ≤ 2147483654) → X sc 238 (d + 5) (xI fun r h' => J h' ∧ Fr 135291600897 h h' ∧ (2147483648 ≤ r ∧ r ≤ 2147483653)) 0 0 13 [x_r 75, iv_c v110, iv_c v112] [] h9 := by
    intro n
    induction n with
    | zero => intro v110 v112 q115; exact absurd q115 (Nat.not_lt_zero _)
    | succ n i116 =>
      intro v110 v112 q115 b111 b113
      refine x_iload (np := 14) (x := 2) (by decide +kernel) rfl (by first | decide | omega) ?_
      refine x_aload (np := 15) (x := 0) (by decide +kernel) rfl (x_nc_le (by decide)) ?_
      refine x_nI (t := 6) (mj := 157) (n := 1) (rc := 12) (ml := 1) (nr := 1) (np := 18) (as := [x_r 75]) (rest := [iv_c v112]) (lo1 := [x_r 75]) (by decide +kernel) (by decide) (by decide +kernel) (x_rb_of (by decide +kernel)) rfl rfl (x_wr (by decide) x_wn) (x_wi (by first | decide | omega) x_wn) (by decide) rfl ?_
      refine x_aload (np := 1) (x := 0) (by decide +kernel) rfl (x_nc_le (by decide)) ?_
      have q117 : h9 75 1 = 76 := by have z := jB (e := 1) 0 j10 rg_75_1_0_1 (by decide) (by decide); omega
      refine x_getR (np := 4) (x := 705) (f := 1) (q := 76) (by decide +kernel) (by decide) (by decide +kernel) q117 ?_
      refine x_const (np := 5) (x := 9223372039002259456) (a := 2147483648) (by decide +kernel) (by decide) (by decide) ?_
      have q118 : h9 76 0 = h1 76 0 := jK 0 f11 rg_76_0_0_1 (by first | decide | omega) (by first | decide | omega) (by decide)
      have q119 : h1 76 0 = h 76 0 := by rw [← e3]; exact x_up_k (by decide)
      have b120 := jB (e := 0) 0 hJ rg_76_0_0_1 (by first | decide | omega) (by first | decide | omega)
      refine x_aldC (np := 6) (x := 0) (n := 1952) (i := 0) (q := (h 76 0)) (by decide +kernel) (by decide +kernel) (by first | decide | omega) (by first | decide | omega) (by decide) (q118.trans q119) (fun l121 => ?_)
      refine x_retI (np := 7) (x := 0) (by decide +kernel) l121 (Or.inl (by decide +kernel)) ⟨_, rfl, l121, ?_⟩
      refine x_icmp (k := 3) (tg := 46) (np := 21) (by decide +kernel) (by decide) (by first | decide | omega) l121 (fun q122 => ?_) (fun q123 => ?_)
      · have q122 : (h 76 0) ≤ v112 := q122
        refine x_iload (np := 47) (x := 1) (by decide +kernel) rfl (by first | decide | omega) ?_
        refine x_retI (np := 48) (x := 0) (by decide +kernel) (by first | decide | omega) (Or.inl (by decide +kernel)) ⟨_, rfl, (by first | decide | omega), ?_⟩
        exact ⟨j10, f14, (by first | decide | omega)⟩
      have q123 : ¬ ((h 76 0) ≤ v112) := q123
      refine x_aload (np := 22) (x := 0) (by decide +kernel) rfl (x_nc_le (by decide)) ?_
      refine x_iload (np := 23) (x := 2) (by decide +kernel) rfl (by first | decide | omega) ?_
      refine x_cP (t := 6) (mj := 236) (n := 2) (rc := 12) (ml := 4) (nr := 0) (np := 26) (as := [x_r 75, iv_c v112]) (rest := []) (lo1 := [x_r 75, iv_c v112, 147573952589676412928, 147573952589676412928]) (by decide +kernel) (by decide) (by decide +kernel) (x_rb_of (by decide +kernel)) rfl rfl (x_wr (by decide) (x_wi (by first | decide | omega) x_wn)) x_wn (by decide) rfl (c236_75 j10  (by first | decide | omega)) (fun v124 l125 q126 => ?_)
      refine x_aload (np := 27) (x := 0) (by decide +kernel) rfl (x_nc_le (by decide)) ?_
      refine x_iload (np := 28) (x := 1) (by decide +kernel) rfl (by first | decide | omega) ?_
      refine x_cP (t := 6) (mj := 236) (n := 2) (rc := 12) (ml := 4) (nr := 1) (np := 31) (as := [x_r 75, iv_c v110]) (rest := [iv_c v124]) (lo1 := [x_r 75, iv_c v110, 147573952589676412928, 147573952589676412928]) (by decide +kernel) (by decide) (by decide +kernel) (x_rb_of (by decide +kernel)) rfl rfl (x_wr (by decide) (x_wi (by first | decide | omega) x_wn)) (x_wi l125 x_wn) (by decide) rfl (c236_75 j10  (by first | decide | omega)) (fun v127 l128 q129 => ?_)
      refine x_icmp (k := 5) (tg := 38) (np := 34) (by decide +kernel) (by decide) l125 l128 (fun q130 => ?_) (fun q131 => ?_)
      · have q130 : v124 ≤ v127 := q130
        refine x_iload (np := 39) (x := 1) (by decide +kernel) rfl (by first | decide | omega) ?_
        refine x_istore (np := 40) (x := 1) (lo' := [x_r 75, iv_c v110, iv_c v112]) (by decide +kernel) (by first | decide | omega) (Nat.le_of_ble_eq_true rfl) rfl ?_
        refine x_iinc (np := 43) (i := 2) (j := 2147483649) (v := (1 + v112)) (lo' := [x_r 75, iv_c v110, iv_c (1 + v112)]) (by decide +kernel) (by decide) (by decide) rfl (by first | decide | omega) (by first | decide | omega) (by first | decide | omega) rfl ?_
        refine x_goto (np := 46) (x := 13) (by decide +kernel) ?_
        exact i116 v110 (1 + v112) (by first | decide | omega) (by first | decide | omega) (by first | decide | omega)
      have q131 : ¬ (v124 ≤ v127) := q131
      refine x_iload (np := 35) (x := 2) (by decide +kernel) rfl (by first | decide | omega) ?_
      refine x_goto (np := 38) (x := 39) (by decide +kernel) ?_
      refine x_istore (np := 40) (x := 1) (lo' := [x_r 75, iv_c v112, iv_c v112]) (by decide +kernel) (by first | decide | omega) (Nat.le_of_ble_eq_true rfl) rfl ?_
      refine x_iinc (np := 43) (i := 2) (j := 2147483649) (v := (1 + v112)) (lo' := [x_r 75, iv_c v112, iv_c (1 + v112)]) (by decide +kernel) (by decide) (by decide) rfl (by first | decide | omega) (by first | decide | omega) (by first | decide | omega) rfl ?_
      refine x_goto (np := 46) (x := 13) (by decide +kernel) ?_
      exact i116 v112 (1 + v112) (by first | decide | omega) (by first | decide | omega) (by first | decide | omega)
  exact p114 _ 2147483648 2147483649 (Nat.lt_succ_self _) (by first | decide | omega) (by first | decide | omega)
set_option maxHeartbeats 0 in
/-- LentNamesModel.rich(I)I -/
theorem c239_75 {sc : Nat × Nat} {d a1 : Nat} {h : xh} (hJ : J h) (ba1 : 0 ≤ a1 ∧ a1 ≤ 4294967295) (hW : WT 76 h) : X sc 239 (d + 5) (xI fun r h' => J h' ∧ Fr 135291600897 h h' ∧ (0 ≤ r ∧ r ≤ 4294967295)) 0 0 0 [x_r 75, iv_c a1, 147573952589676412928, 147573952589676412928] [] h := by
  have la1 : a1 < 4294967296 := by first | decide | omega
  have hF := Fr.refl 135291600897 h
  refine x_aload (np := 1) (x := 0) (by decide +kernel) rfl (x_nc_le (by decide)) ?_
  refine x_const (np := 2) (x := 9223372039002259456) (a := 2147483648) (by decide +kernel) (by decide) (by decide) ?_
  refine x_putI (np := 5) (x := 704) (f := 0) (by decide +kernel) (by decide +kernel) (by decide) (Or.inl (by decide)) ?_
  have j2 := jU (e := 0) (v := 2147483648) 0 hJ rg_75_0_0_1 (by first | decide | omega) (by first | decide | omega) (by first | decide | omega)
  have f4 := jF (e := 0) (v := 2147483648) 0 hF rg_75_0_0_1 (by first | decide | omega) (by first | decide | omega) (by decide)
  generalize e3 : x_up h 75 0 2147483648 = h1 at j2 f4 ⊢
  refine x_aload (np := 6) (x := 0) (by decide +kernel) rfl (x_nc_le (by decide)) ?_
  refine x_iload (np := 7) (x := 1) (by decide +kernel) rfl la1 ?_
  refine x_nI (t := 0) (mj := 160) (n := 1) (rc := 0) (ml := 1) (nr := 1) (np := 10) (as := [iv_c a1]) (rest := [x_r 75]) (lo1 := [iv_c a1]) (by decide +kernel) (by decide) (by decide +kernel) (Or.inl rfl) rfl rfl (x_wi la1 x_wn) (x_wr (by decide) x_wn) (by decide) rfl ?_
  refine x_iload (np := 1) (x := 0) (by decide +kernel) rfl la1 ?_
  refine x_const (np := 2) (x := 9223372039002259456) (a := 2147483648) (by decide +kernel) (by decide) (by decide) ?_
  refine x_const (np := 4) (x := 9223372086246899723) (a := 2147483659) (by decide +kernel) (by decide) (by decide) ?_
  refine x_nI (t := 0) (mj := 153) (n := 3) (rc := 0) (ml := 3) (nr := 0) (np := 7) (as := [iv_c a1, iv_c 2147483648, iv_c 2147483659]) (rest := []) (lo1 := [iv_c a1, iv_c 2147483648, iv_c 2147483659]) (by decide +kernel) (by decide) (by decide +kernel) (Or.inl rfl) rfl rfl (x_wi la1 (x_wi (by decide) (x_wi (by decide) x_wn))) x_wn (by decide) rfl ?_
  refine x_iload (np := 1) (x := 0) (by decide +kernel) rfl la1 ?_
  refine x_iload (np := 2) (x := 1) (by decide +kernel) rfl (by decide) ?_
  refine x_icmp (k := 2) (tg := 14) (np := 5) (by decide +kernel) (by decide) la1 (by decide) (fun q5 => ?_) (fun q6 => ?_)
  · have q5 : a1 < 2147483648 := q5
    refine x_const (np := 15) (x := 9223372039002259456) (a := 2147483648) (by decide +kernel) (by decide) (by decide) ?_
    refine x_retI (np := 16) (x := 0) (by decide +kernel) (by decide) (Or.inr ⟨by decide +kernel, by first | decide | omega, by first | decide | omega⟩) ⟨_, rfl, (by decide), ?_⟩
    refine x_ifz (k := 1) (tg := 14) (np := 10) (by decide +kernel) (by decide) (by decide) (fun q7 => ?_) (fun q8 => ?_)
    · have q7 : 2147483648 ≠ 2147483648 := q7
      exfalso; omega
    have q8 : ¬ (2147483648 ≠ 2147483648) := q8
    refine x_const (np := 11) (x := 9223372043297226753) (a := 2147483649) (by decide +kernel) (by decide) (by decide) ?_
    refine x_goto (np := 14) (x := 15) (by decide +kernel) ?_
    refine x_retI (np := 16) (x := 0) (by decide +kernel) (by decide) (Or.inr ⟨by decide +kernel, by first | decide | omega, by first | decide | omega⟩) ⟨_, rfl, (by decide), ?_⟩
    refine x_const (np := 11) (x := 9223372043297226753) (a := 2147483649) (by decide +kernel) (by decide) (by decide) ?_
    refine x_nI (t := 6) (mj := 152) (n := 3) (rc := 12) (ml := 3) (nr := 0) (np := 14) (as := [x_r 75, iv_c 2147483649, iv_c 2147483649]) (rest := []) (lo1 := [x_r 75, iv_c 2147483649, iv_c 2147483649]) (by decide +kernel) (by decide) (by decide +kernel) (x_rb_of (by decide +kernel)) rfl rfl (x_wr (by decide) (x_wi (by decide) (x_wi (by decide) x_wn))) x_wn (by decide) rfl ?_
    refine x_iload (np := 1) (x := 1) (by decide +kernel) rfl (by decide) ?_
    refine x_ifz (k := 0) (tg := 9) (np := 4) (by decide +kernel) (by decide) (by decide) (fun q9 => ?_) (fun q10 => ?_)
    · have q9 : 2147483649 = 2147483648 := q9
      exfalso; omega
    have q10 : ¬ (2147483649 = 2147483648) := q10
    refine x_aload (np := 5) (x := 0) (by decide +kernel) rfl (x_nc_le (by decide)) ?_
    refine x_iload (np := 6) (x := 2) (by decide +kernel) rfl (by decide) ?_
    refine x_putI (np := 9) (x := 704) (f := 0) (by decide +kernel) (by decide +kernel) (by decide) (Or.inl (by decide)) ?_
    have j12 := jU (e := 0) (v := 2147483649) 0 j2 rg_75_0_0_1 (by first | decide | omega) (by first | decide | omega) (by first | decide | omega)
    have f14 := jF (e := 0) (v := 2147483649) 0 f4 rg_75_0_0_1 (by first | decide | omega) (by first | decide | omega) (by decide)
    generalize e13 : x_up h1 75 0 2147483649 = h11 at j12 f14 ⊢
    refine x_iload (np := 10) (x := 1) (by decide +kernel) rfl (by decide) ?_
    refine x_retI (np := 11) (x := 0) (by decide +kernel) (by decide) (Or.inr ⟨by decide +kernel, by first | decide | omega, by first | decide | omega⟩) ⟨_, rfl, (by decide), ?_⟩
    refine x_ifz (k := 0) (tg := 19) (np := 17) (by decide +kernel) (by decide) (by decide) (fun q15 => ?_) (fun q16 => ?_)
    · have q15 : 2147483649 = 2147483648 := q15
      exfalso; omega
    have q16 : ¬ (2147483649 = 2147483648) := q16
    refine x_const (np := 18) (x := 9223372039002259456) (a := 2147483648) (by decide +kernel) (by decide) (by decide) ?_
    refine x_retI (np := 19) (x := 0) (by decide +kernel) (by decide) (Or.inl (by decide +kernel)) ⟨_, rfl, (by decide), ?_⟩
    exact ⟨j12, f14, (by first | decide | omega)⟩
  have q6 : ¬ (a1 < 2147483648) := q6
  refine x_iload (np := 6) (x := 0) (by decide +kernel) rfl la1 ?_
  refine x_iload (np := 7) (x := 2) (by decide +kernel) rfl (by decide) ?_
  refine x_icmp (k := 4) (tg := 14) (np := 10) (by decide +kernel) (by decide) la1 (by decide) (fun q17 => ?_) (fun q18 => ?_)
  · have q17 : 2147483659 < a1 := q17
    refine x_const (np := 15) (x := 9223372039002259456) (a := 2147483648) (by decide +kernel) (by decide) (by decide) ?_
    refine x_retI (np := 16) (x := 0) (by decide +kernel) (by decide) (Or.inr ⟨by decide +kernel, by first | decide | omega, by first | decide | omega⟩) ⟨_, rfl, (by decide), ?_⟩
    refine x_ifz (k := 1) (tg := 14) (np := 10) (by decide +kernel) (by decide) (by decide) (fun q19 => ?_) (fun q20 => ?_)
    · have q19 : 2147483648 ≠ 2147483648 := q19
      exfalso; omega
    have q20 : ¬ (2147483648 ≠ 2147483648) := q20
    refine x_const (np := 11) (x := 9223372043297226753) (a := 2147483649) (by decide +kernel) (by decide) (by decide) ?_
    refine x_goto (np := 14) (x := 15) (by decide +kernel) ?_
    refine x_retI (np := 16) (x := 0) (by decide +kernel) (by decide) (Or.inr ⟨by decide +kernel, by first | decide | omega, by first | decide | omega⟩) ⟨_, rfl, (by decide), ?_⟩
    refine x_const (np := 11) (x := 9223372043297226753) (a := 2147483649) (by decide +kernel) (by decide) (by decide) ?_
    refine x_nI (t := 6) (mj := 152) (n := 3) (rc := 12) (ml := 3) (nr := 0) (np := 14) (as := [x_r 75, iv_c 2147483649, iv_c 2147483649]) (rest := []) (lo1 := [x_r 75, iv_c 2147483649, iv_c 2147483649]) (by decide +kernel) (by decide) (by decide +kernel) (x_rb_of (by decide +kernel)) rfl rfl (x_wr (by decide) (x_wi (by decide) (x_wi (by decide) x_wn))) x_wn (by decide) rfl ?_
    refine x_iload (np := 1) (x := 1) (by decide +kernel) rfl (by decide) ?_
    refine x_ifz (k := 0) (tg := 9) (np := 4) (by decide +kernel) (by decide) (by decide) (fun q21 => ?_) (fun q22 => ?_)
    · have q21 : 2147483649 = 2147483648 := q21
      exfalso; omega
    have q22 : ¬ (2147483649 = 2147483648) := q22
    refine x_aload (np := 5) (x := 0) (by decide +kernel) rfl (x_nc_le (by decide)) ?_
    refine x_iload (np := 6) (x := 2) (by decide +kernel) rfl (by decide) ?_
    refine x_putI (np := 9) (x := 704) (f := 0) (by decide +kernel) (by decide +kernel) (by decide) (Or.inl (by decide)) ?_
    have j24 := jU (e := 0) (v := 2147483649) 0 j2 rg_75_0_0_1 (by first | decide | omega) (by first | decide | omega) (by first | decide | omega)
    have f26 := jF (e := 0) (v := 2147483649) 0 f4 rg_75_0_0_1 (by first | decide | omega) (by first | decide | omega) (by decide)
    generalize e25 : x_up h1 75 0 2147483649 = h23 at j24 f26 ⊢
    refine x_iload (np := 10) (x := 1) (by decide +kernel) rfl (by decide) ?_
    refine x_retI (np := 11) (x := 0) (by decide +kernel) (by decide) (Or.inr ⟨by decide +kernel, by first | decide | omega, by first | decide | omega⟩) ⟨_, rfl, (by decide), ?_⟩
    refine x_ifz (k := 0) (tg := 19) (np := 17) (by decide +kernel) (by decide) (by decide) (fun q27 => ?_) (fun q28 => ?_)
    · have q27 : 2147483649 = 2147483648 := q27
      exfalso; omega
    have q28 : ¬ (2147483649 = 2147483648) := q28
    refine x_const (np := 18) (x := 9223372039002259456) (a := 2147483648) (by decide +kernel) (by decide) (by decide) ?_
    refine x_retI (np := 19) (x := 0) (by decide +kernel) (by decide) (Or.inl (by decide +kernel)) ⟨_, rfl, (by decide), ?_⟩
    exact ⟨j24, f26, (by first | decide | omega)⟩
  have q18 : ¬ (2147483659 < a1) := q18
  refine x_const (np := 11) (x := 9223372043297226753) (a := 2147483649) (by decide +kernel) (by decide) (by decide) ?_
  refine x_goto (np := 14) (x := 15) (by decide +kernel) ?_
  refine x_retI (np := 16) (x := 0) (by decide +kernel) (by decide) (Or.inr ⟨by decide +kernel, by first | decide | omega, by first | decide | omega⟩) ⟨_, rfl, (by decide), ?_⟩
  refine x_ifz (k := 1) (tg := 14) (np := 10) (by decide +kernel) (by decide) (by decide) (fun q29 => ?_) (fun q30 => ?_)
  · have q29 : 2147483649 ≠ 2147483648 := q29
    refine x_const (np := 15) (x := 9223372039002259456) (a := 2147483648) (by decide +kernel) (by decide) (by decide) ?_
    refine x_retI (np := 16) (x := 0) (by decide +kernel) (by decide) (Or.inr ⟨by decide +kernel, by first | decide | omega, by first | decide | omega⟩) ⟨_, rfl, (by decide), ?_⟩
    refine x_const (np := 11) (x := 9223372043297226753) (a := 2147483649) (by decide +kernel) (by decide) (by decide) ?_
    refine x_nI (t := 6) (mj := 152) (n := 3) (rc := 12) (ml := 3) (nr := 0) (np := 14) (as := [x_r 75, iv_c 2147483648, iv_c 2147483649]) (rest := []) (lo1 := [x_r 75, iv_c 2147483648, iv_c 2147483649]) (by decide +kernel) (by decide) (by decide +kernel) (x_rb_of (by decide +kernel)) rfl rfl (x_wr (by decide) (x_wi (by decide) (x_wi (by decide) x_wn))) x_wn (by decide) rfl ?_
    refine x_iload (np := 1) (x := 1) (by decide +kernel) rfl (by decide) ?_
    refine x_ifz (k := 0) (tg := 9) (np := 4) (by decide +kernel) (by decide) (by decide) (fun q31 => ?_) (fun q32 => ?_)
    · have q31 : 2147483648 = 2147483648 := q31
      refine x_iload (np := 10) (x := 1) (by decide +kernel) rfl (by decide) ?_
      refine x_retI (np := 11) (x := 0) (by decide +kernel) (by decide) (Or.inr ⟨by decide +kernel, by first | decide | omega, by first | decide | omega⟩) ⟨_, rfl, (by decide), ?_⟩
      refine x_ifz (k := 0) (tg := 19) (np := 17) (by decide +kernel) (by decide) (by decide) (fun q33 => ?_) (fun q34 => ?_)
      · have q33 : 2147483648 = 2147483648 := q33
        refine x_aload (np := 20) (x := 0) (by decide +kernel) rfl (x_nc_le (by decide)) ?_
        have m38 : WT 76 h1 := by rw [← e3]; exact WT.oth hW hJ (by decide)
        refine x_cV (t := 6) (mj := 210) (n := 1) (rc := 12) (ml := 5) (nr := 0) (np := 23) (as := [x_r 75]) (rest := []) (lo1 := [x_r 75, 147573952589676412928, 147573952589676412928, 147573952589676412928, 147573952589676412928]) (by decide +kernel) (by decide) (by decide +kernel) (x_rb_of (by decide +kernel)) rfl rfl (x_wr (by decide) x_wn) x_wn (by decide) rfl (c210_75 j2  m38) (fun h39 q37 => ?_)
        obtain ⟨j40, f41⟩ := q37
        have f44 := Fr.trans f4 f41 (by decide)
        refine x_const (np := 24) (x := 9223372039002259456) (a := 2147483648) (by decide +kernel) (by decide) (by decide) ?_
        refine x_istore (np := 25) (x := 2) (lo' := [x_r 75, iv_c a1, iv_c 2147483648, 147573952589676412928]) (by decide +kernel) (by decide) (Nat.le_of_ble_eq_true rfl) rfl ?_
        refine x_const (np := 26) (x := 9223372039002259456) (a := 2147483648) (by decide +kernel) (by decide) (by decide) ?_
        refine x_istore (np := 27) (x := 3) (lo' := [x_r 75, iv_c a1, iv_c 2147483648, iv_c 2147483648]) (by decide +kernel) (by decide) (Nat.le_of_ble_eq_true rfl) rfl ?_
        have p361 : ∀ (n : Nat) (v357 : Nat) (v359 : Nat), 4294967296 - v359 < n → (0 ≤ v357 ∧ v357 ≤ 4294967295) → (2147483648 ≤ v359 ∧ v359 ≤ 2147483654) → X sc 239 (d + 5) (xI fun r h' => J h' ∧ Fr 135291600897 h h' ∧ (0 ≤ r ∧ r ≤ 4294967295)) 0 0 27 [x_r 75, iv_c a1, iv_c v357, iv_c v359] [] h39 := by
          intro n
          induction n with
          | zero => intro v357 v359 q362; exact absurd q362 (Nat.not_lt_zero _)
          | succ n i363 =>
            intro v357 v359 q362 b358 b360
            refine x_iload (np := 28) (x := 3) (by decide +kernel) rfl (by first | decide | omega) ?_
            refine x_aload (np := 29) (x := 0) (by decide +kernel) rfl (x_nc_le (by decide)) ?_
            refine x_nI (t := 6) (mj := 157) (n := 1) (rc := 12) (ml := 1) (nr := 1) (np := 32) (as := [x_r 75]) (rest := [iv_c v359]) (lo1 := [x_r 75]) (by decide +kernel) (by decide) (by decide +kernel) (x_rb_of (by decide +kernel)) rfl rfl (x_wr (by decide) x_wn) (x_wi (by first | decide | omega) x_wn) (by decide) rfl ?_
            refine x_aload (np := 1) (x := 0) (by decide +kernel) rfl (x_nc_le (by decide)) ?_
            have q364 : h39 75 1 = 76 := by have z := jB (e := 1) 0 j40 rg_75_1_0_1 (by decide) (by decide); omega
            refine x_getR (np := 4) (x := 705) (f := 1) (q := 76) (by decide +kernel) (by decide) (by decide +kernel) q364 ?_
            refine x_const (np := 5) (x := 9223372039002259456) (a := 2147483648) (by decide +kernel) (by decide) (by decide) ?_
            have q365 : h39 76 0 = h1 76 0 := jK 0 f41 rg_76_0_0_1 (by first | decide | omega) (by first | decide | omega) (by decide)
            have q366 : h1 76 0 = h 76 0 := by rw [← e3]; exact x_up_k (by decide)
            have b367 := jB (e := 0) 0 hJ rg_76_0_0_1 (by first | decide | omega) (by first | decide | omega)
            refine x_aldC (np := 6) (x := 0) (n := 1952) (i := 0) (q := (h 76 0)) (by decide +kernel) (by decide +kernel) (by first | decide | omega) (by first | decide | omega) (by decide) (q365.trans q366) (fun l368 => ?_)
            refine x_retI (np := 7) (x := 0) (by decide +kernel) l368 (Or.inl (by decide +kernel)) ⟨_, rfl, l368, ?_⟩
            refine x_icmp (k := 3) (tg := 64) (np := 35) (by decide +kernel) (by decide) (by first | decide | omega) l368 (fun q369 => ?_) (fun q370 => ?_)
            · have q369 : (h 76 0) ≤ v359 := q369
              refine x_iload (np := 65) (x := 2) (by decide +kernel) rfl (by first | decide | omega) ?_
              refine x_retI (np := 66) (x := 0) (by decide +kernel) (by first | decide | omega) (Or.inl (by decide +kernel)) ⟨_, rfl, (by first | decide | omega), ?_⟩
              exact ⟨j40, f44, (by first | decide | omega)⟩
            have q370 : ¬ ((h 76 0) ≤ v359) := q370
            refine x_iload (np := 36) (x := 2) (by decide +kernel) rfl (by first | decide | omega) ?_
            refine x_aload (np := 37) (x := 0) (by decide +kernel) rfl (x_nc_le (by decide)) ?_
            refine x_iload (np := 38) (x := 3) (by decide +kernel) rfl (by first | decide | omega) ?_
            refine x_iload (np := 39) (x := 1) (by decide +kernel) rfl la1 ?_
            refine x_cP (t := 6) (mj := 213) (n := 3) (rc := 12) (ml := 5) (nr := 1) (np := 42) (as := [x_r 75, iv_c v359, iv_c a1]) (rest := [iv_c v357]) (lo1 := [x_r 75, iv_c v359, iv_c a1, 147573952589676412928, 147573952589676412928]) (by decide +kernel) (by decide) (by decide +kernel) (x_rb_of (by decide +kernel)) rfl rfl (x_wr (by decide) (x_wi (by first | decide | omega) (x_wi la1 x_wn))) (x_wi (by first | decide | omega) x_wn) (by decide) rfl (c213_75 j40  (by first | decide | omega) (by first | decide | omega)) (fun v371 l372 q373 => ?_)
            refine x_nI (t := 7) (mj := 310) (n := 1) (rc := 0) (ml := 1) (nr := 1) (np := 45) (as := [iv_c v371]) (rest := [iv_c v357]) (lo1 := [iv_c v371]) (by decide +kernel) (by decide) (by decide +kernel) (Or.inl rfl) rfl rfl (x_wi l372 x_wn) (x_wi (by first | decide | omega) x_wn) (by decide) rfl ?_
            refine x_iload (np := 1) (x := 0) (by decide +kernel) rfl l372 ?_
            refine x_iload (np := 2) (x := 0) (by decide +kernel) rfl l372 ?_
            refine x_const (np := 3) (x := 9223372043297226753) (a := 2147483649) (by decide +kernel) (by decide) (by decide) ?_
            refine x_any (np := 4) (k9 := 5) (by decide +kernel) (by decide) l372 (by decide) (fun v374 l375 => ?_)
            refine x_const (np := 7) (x := 15372286730238776661) (a := 3579139413) (by decide +kernel) (by decide) (by decide) ?_
            refine x_any (np := 8) (k9 := 0) (by decide +kernel) (by decide) l375 (by decide) (fun v376 l377 => ?_)
            refine x_subA (by rw [tb_b310]; decide +kernel) l372 l377 (fun v378 l379 => ?_)
            refine x_istore (np := 10) (x := 0) (lo' := [iv_c v378]) (by decide +kernel) l379 (Nat.le_of_ble_eq_true rfl) rfl ?_
            refine x_iload (np := 11) (x := 0) (by decide +kernel) rfl l379 ?_
            refine x_const (np := 14) (x := 12912720853744169779) (a := 3006477107) (by decide +kernel) (by decide) (by decide) ?_
            refine x_any (np := 15) (k9 := 0) (by decide +kernel) (by decide) l379 (by decide) (fun v380 l381 => ?_)
            refine x_iload (np := 16) (x := 0) (by decide +kernel) rfl l379 ?_
            refine x_const (np := 17) (x := 9223372047592194050) (a := 2147483650) (by decide +kernel) (by decide) (by decide) ?_
            refine x_any (np := 18) (k9 := 5) (by decide +kernel) (by decide) l379 (by decide) (fun v382 l383 => ?_)
            refine x_const (np := 21) (x := 12912720853744169779) (a := 3006477107) (by decide +kernel) (by decide) (by decide) ?_
            refine x_any (np := 22) (k9 := 0) (by decide +kernel) (by decide) l383 (by decide) (fun v384 l385 => ?_)
            refine x_addA (by rw [tb_b310]; decide +kernel) l381 l385 (fun v386 l387 => ?_)
            refine x_istore (np := 24) (x := 0) (lo' := [iv_c v386]) (by decide +kernel) l387 (Nat.le_of_ble_eq_true rfl) rfl ?_
            refine x_iload (np := 25) (x := 0) (by decide +kernel) rfl l387 ?_
            refine x_iload (np := 26) (x := 0) (by decide +kernel) rfl l387 ?_
            refine x_const (np := 27) (x := 9223372056182128644) (a := 2147483652) (by decide +kernel) (by decide) (by decide) ?_
            refine x_any (np := 28) (k9 := 5) (by decide +kernel) (by decide) l387 (by decide) (fun v388 l389 => ?_)
            refine x_addA (by rw [tb_b310]; decide +kernel) l387 l389 (fun v390 l391 => ?_)
            refine x_const (np := 32) (x := 10308474631573409551) (a := 2400128783) (by decide +kernel) (by decide) (by decide) ?_
            refine x_any (np := 33) (k9 := 0) (by decide +kernel) (by decide) l391 (by decide) (fun v392 l393 => ?_)
            refine x_istore (np := 34) (x := 0) (lo' := [iv_c v392]) (by decide +kernel) l393 (Nat.le_of_ble_eq_true rfl) rfl ?_
            refine x_iload (np := 35) (x := 0) (by decide +kernel) rfl l393 ?_
            refine x_iload (np := 36) (x := 0) (by decide +kernel) rfl l393 ?_
            refine x_const (np := 38) (x := 9223372073361997832) (a := 2147483656) (by decide +kernel) (by decide) (by decide) ?_
            refine x_any (np := 39) (k9 := 5) (by decide +kernel) (by decide) l393 (by decide) (fun v394 l395 => ?_)
            refine x_addA (by rw [tb_b310]; decide +kernel) l393 l395 (fun v396 l397 => ?_)
            refine x_istore (np := 41) (x := 0) (lo' := [iv_c v396]) (by decide +kernel) l397 (Nat.le_of_ble_eq_true rfl) rfl ?_
            refine x_iload (np := 42) (x := 0) (by decide +kernel) rfl l397 ?_
            refine x_iload (np := 43) (x := 0) (by decide +kernel) rfl l397 ?_
            refine x_const (np := 45) (x := 9223372107721736208) (a := 2147483664) (by decide +kernel) (by decide) (by decide) ?_
            refine x_any (np := 46) (k9 := 5) (by decide +kernel) (by decide) l397 (by decide) (fun v398 l399 => ?_)
            refine x_addA (by rw [tb_b310]; decide +kernel) l397 l399 (fun v400 l401 => ?_)
            refine x_istore (np := 48) (x := 0) (lo' := [iv_c v400]) (by decide +kernel) l401 (Nat.le_of_ble_eq_true rfl) rfl ?_
            refine x_iload (np := 49) (x := 0) (by decide +kernel) rfl l401 ?_
            refine x_const (np := 51) (x := 9223372309585199167) (a := 2147483711) (by decide +kernel) (by decide) (by decide) ?_
            refine x_mask (np := 52) (m := 6) (k9 := 64) (by decide +kernel) l401 (by decide +kernel) (by decide) (by decide) (by decide) (fun u402 l403 => ?_)
            refine x_retI (np := 53) (x := 0) (by decide +kernel) (by first | decide | omega) (Or.inl (by decide +kernel)) ⟨_, rfl, (by first | decide | omega), ?_⟩
            refine x_const (np := 46) (x := 9223372043297226753) (a := 2147483649) (by decide +kernel) (by decide) (by decide) ?_
            refine x_icmp (k := 5) (tg := 55) (np := 49) (by decide +kernel) (by decide) (by first | decide | omega) (by decide) (fun q404 => ?_) (fun q405 => ?_)
            · have q404 : (2147483648 + u402) ≤ 2147483649 := q404
              refine x_const (np := 56) (x := 9223372039002259456) (a := 2147483648) (by decide +kernel) (by decide) (by decide) ?_
              refine x_any (np := 57) (k9 := 1) (by decide +kernel) (by decide) (by first | decide | omega) (by decide) (fun v406 l407 => ?_)
              refine x_istore (np := 58) (x := 2) (lo' := [x_r 75, iv_c a1, iv_c v406, iv_c v359]) (by decide +kernel) l407 (Nat.le_of_ble_eq_true rfl) rfl ?_
              refine x_iinc (np := 61) (i := 3) (j := 2147483649) (v := (1 + v359)) (lo' := [x_r 75, iv_c a1, iv_c v406, iv_c (1 + v359)]) (by decide +kernel) (by decide) (by decide) rfl (by first | decide | omega) (by first | decide | omega) (by first | decide | omega) rfl ?_
              refine x_goto (np := 64) (x := 27) (by decide +kernel) ?_
              exact i363 v406 (1 + v359) (by first | decide | omega) (by first | decide | omega) (by first | decide | omega)
            have q405 : ¬ ((2147483648 + u402) ≤ 2147483649) := q405
            refine x_const (np := 50) (x := 9223372043297226753) (a := 2147483649) (by decide +kernel) (by decide) (by decide) ?_
            refine x_iload (np := 51) (x := 3) (by decide +kernel) rfl (by first | decide | omega) ?_
            refine x_any (np := 52) (k9 := 3) (by decide +kernel) (by decide) (by decide) (by first | decide | omega) (fun v408 l409 => ?_)
            refine x_goto (np := 55) (x := 56) (by decide +kernel) ?_
            refine x_any (np := 57) (k9 := 1) (by decide +kernel) (by decide) (by first | decide | omega) l409 (fun v410 l411 => ?_)
            refine x_istore (np := 58) (x := 2) (lo' := [x_r 75, iv_c a1, iv_c v410, iv_c v359]) (by decide +kernel) l411 (Nat.le_of_ble_eq_true rfl) rfl ?_
            refine x_iinc (np := 61) (i := 3) (j := 2147483649) (v := (1 + v359)) (lo' := [x_r 75, iv_c a1, iv_c v410, iv_c (1 + v359)]) (by decide +kernel) (by decide) (by decide) rfl (by first | decide | omega) (by first | decide | omega) (by first | decide | omega) rfl ?_
            refine x_goto (np := 64) (x := 27) (by decide +kernel) ?_
            exact i363 v410 (1 + v359) (by first | decide | omega) (by first | decide | omega) (by first | decide | omega)
        exact p361 _ 2147483648 2147483648 (Nat.lt_succ_self _) (by first | decide | omega) (by first | decide | omega)
      have q34 : ¬ (2147483648 = 2147483648) := q34
      exfalso; omega
    have q32 : ¬ (2147483648 = 2147483648) := q32
    exfalso; omega
  have q30 : ¬ (2147483649 ≠ 2147483648) := q30
  exfalso; omega
set_option maxHeartbeats 0 in
/-- LentNamesModel.borne(II)I -/
theorem c240_75 {sc : Nat × Nat} {d a1 a2 : Nat} {h : xh} (hJ : J h) (ba1 : 0 ≤ a1 ∧ a1 ≤ 4294967295) (ba2 : 0 ≤ a2 ∧ a2 ≤ 4294967295) (hW : WT 76 h) : X sc 240 (d + 5) (xI fun r h' => J h' ∧ Fr 135291600897 h h' ∧ (0 ≤ r ∧ r ≤ 4294967295)) 0 0 0 [x_r 75, iv_c a1, iv_c a2, 147573952589676412928, 147573952589676412928] [] h := by
  have la1 : a1 < 4294967296 := by first | decide | omega
  have la2 : a2 < 4294967296 := by first | decide | omega
  have hF := Fr.refl 135291600897 h
  refine x_aload (np := 1) (x := 0) (by decide +kernel) rfl (x_nc_le (by decide)) ?_
  refine x_const (np := 2) (x := 9223372039002259456) (a := 2147483648) (by decide +kernel) (by decide) (by decide) ?_
  refine x_putI (np := 5) (x := 704) (f := 0) (by decide +kernel) (by decide +kernel) (by decide) (Or.inl (by decide)) ?_
  have j2 := jU (e := 0) (v := 2147483648) 0 hJ rg_75_0_0_1 (by first | decide | omega) (by first | decide | omega) (by first | decide | omega)
  have f4 := jF (e := 0) (v := 2147483648) 0 hF rg_75_0_0_1 (by first | decide | omega) (by first | decide | omega) (by decide)
  generalize e3 : x_up h 75 0 2147483648 = h1 at j2 f4 ⊢
  refine x_aload (np := 6) (x := 0) (by decide +kernel) rfl (x_nc_le (by decide)) ?_
  refine x_aload (np := 7) (x := 0) (by decide +kernel) rfl (x_nc_le (by decide)) ?_
  refine x_iload (np := 8) (x := 1) (by decide +kernel) rfl la1 ?_
  refine x_nI (t := 6) (mj := 159) (n := 2) (rc := 12) (ml := 2) (nr := 1) (np := 11) (as := [x_r 75, iv_c a1]) (rest := [x_r 75]) (lo1 := [x_r 75, iv_c a1]) (by decide +kernel) (by decide) (by decide +kernel) (x_rb_of (by decide +kernel)) rfl rfl (x_wr (by decide) (x_wi la1 x_wn)) (x_wr (by decide) x_wn) (by decide) rfl ?_
  refine x_aload (np := 1) (x := 0) (by decide +kernel) rfl (x_nc_le (by decide)) ?_
  refine x_iload (np := 2) (x := 1) (by decide +kernel) rfl la1 ?_
  refine x_const (np := 3) (x := 9223372039002259456) (a := 2147483648) (by decide +kernel) (by decide) (by decide) ?_
  refine x_nI (t := 6) (mj := 158) (n := 3) (rc := 12) (ml := 3) (nr := 0) (np := 6) (as := [x_r 75, iv_c a1, iv_c 2147483648]) (rest := []) (lo1 := [x_r 75, iv_c a1, iv_c 2147483648]) (by decide +kernel) (by decide) (by decide +kernel) (x_rb_of (by decide +kernel)) rfl rfl (x_wr (by decide) (x_wi la1 (x_wi (by decide) x_wn))) x_wn (by decide) rfl ?_
  refine x_iload (np := 1) (x := 1) (by decide +kernel) rfl la1 ?_
  refine x_const (np := 2) (x := 9223372039002259456) (a := 2147483648) (by decide +kernel) (by decide) (by decide) ?_
  refine x_aload (np := 3) (x := 0) (by decide +kernel) rfl (x_nc_le (by decide)) ?_
  have q5 : h1 75 1 = 76 := by have z := jB (e := 1) 0 j2 rg_75_1_0_1 (by decide) (by decide); omega
  refine x_getR (np := 6) (x := 705) (f := 1) (q := 76) (by decide +kernel) (by decide) (by decide +kernel) q5 ?_
  refine x_iload (np := 7) (x := 2) (by decide +kernel) rfl (by decide) ?_
  have q6 : h1 76 0 = h 76 0 := by rw [← e3]; exact x_up_k (by decide)
  have b7 := jB (e := 0) 0 hJ rg_76_0_0_1 (by first | decide | omega) (by first | decide | omega)
  refine x_aldC (np := 8) (x := 0) (n := 1952) (i := 0) (q := (h 76 0)) (by decide +kernel) (by decide +kernel) (by first | decide | omega) (by first | decide | omega) (by decide) q6 (fun l8 => ?_)
  refine x_const (np := 9) (x := 9223372043297226753) (a := 2147483649) (by decide +kernel) (by decide) (by decide) ?_
  obtain ⟨v9, q10⟩ : ∃ z, z + 2147483649 = (h 76 0) + 2147483648 := ⟨(h 76 0) + 2147483648 - 2147483649, by first | decide | omega⟩
  refine x_isub (np := 10) (x := 0) (v := v9) (by decide +kernel) l8 (by decide) (by first | decide | omega) (by first | decide | omega) ?_
  refine x_nI (t := 0) (mj := 153) (n := 3) (rc := 0) (ml := 3) (nr := 0) (np := 13) (as := [iv_c a1, iv_c 2147483648, iv_c v9]) (rest := []) (lo1 := [iv_c a1, iv_c 2147483648, iv_c v9]) (by decide +kernel) (by decide) (by decide +kernel) (Or.inl rfl) rfl rfl (x_wi la1 (x_wi (by decide) (x_wi (by first | decide | omega) x_wn))) x_wn (by decide) rfl ?_
  refine x_iload (np := 1) (x := 0) (by decide +kernel) rfl la1 ?_
  refine x_iload (np := 2) (x := 1) (by decide +kernel) rfl (by decide) ?_
  refine x_icmp (k := 2) (tg := 14) (np := 5) (by decide +kernel) (by decide) la1 (by decide) (fun q11 => ?_) (fun q12 => ?_)
  · have q11 : a1 < 2147483648 := q11
    refine x_const (np := 15) (x := 9223372039002259456) (a := 2147483648) (by decide +kernel) (by decide) (by decide) ?_
    refine x_retI (np := 16) (x := 0) (by decide +kernel) (by decide) (Or.inr ⟨by decide +kernel, by first | decide | omega, by first | decide | omega⟩) ⟨_, rfl, (by decide), ?_⟩
    refine x_ifz (k := 1) (tg := 20) (np := 16) (by decide +kernel) (by decide) (by decide) (fun q13 => ?_) (fun q14 => ?_)
    · have q13 : 2147483648 ≠ 2147483648 := q13
      exfalso; omega
    have q14 : ¬ (2147483648 ≠ 2147483648) := q14
    refine x_const (np := 17) (x := 9223372043297226753) (a := 2147483649) (by decide +kernel) (by decide) (by decide) ?_
    refine x_goto (np := 20) (x := 21) (by decide +kernel) ?_
    refine x_retI (np := 22) (x := 0) (by decide +kernel) (by decide) (Or.inr ⟨by decide +kernel, by first | decide | omega, by first | decide | omega⟩) ⟨_, rfl, (by decide), ?_⟩
    refine x_retI (np := 7) (x := 0) (by decide +kernel) (by decide) (Or.inr ⟨by decide +kernel, by first | decide | omega, by first | decide | omega⟩) ⟨_, rfl, (by decide), ?_⟩
    refine x_ifz (k := 1) (tg := 22) (np := 14) (by decide +kernel) (by decide) (by decide) (fun q15 => ?_) (fun q16 => ?_)
    · have q15 : 2147483649 ≠ 2147483648 := q15
      refine x_const (np := 23) (x := 9223372043297226753) (a := 2147483649) (by decide +kernel) (by decide) (by decide) ?_
      refine x_goto (np := 26) (x := 27) (by decide +kernel) ?_
      refine x_const (np := 28) (x := 9223372043297226753) (a := 2147483649) (by decide +kernel) (by decide) (by decide) ?_
      refine x_nI (t := 6) (mj := 152) (n := 3) (rc := 12) (ml := 3) (nr := 0) (np := 31) (as := [x_r 75, iv_c 2147483649, iv_c 2147483649]) (rest := []) (lo1 := [x_r 75, iv_c 2147483649, iv_c 2147483649]) (by decide +kernel) (by decide) (by decide +kernel) (x_rb_of (by decide +kernel)) rfl rfl (x_wr (by decide) (x_wi (by decide) (x_wi (by decide) x_wn))) x_wn (by decide) rfl ?_
      refine x_iload (np := 1) (x := 1) (by decide +kernel) rfl (by decide) ?_
      refine x_ifz (k := 0) (tg := 9) (np := 4) (by decide +kernel) (by decide) (by decide) (fun q17 => ?_) (fun q18 => ?_)
      · have q17 : 2147483649 = 2147483648 := q17
        exfalso; omega
      have q18 : ¬ (2147483649 = 2147483648) := q18
      refine x_aload (np := 5) (x := 0) (by decide +kernel) rfl (x_nc_le (by decide)) ?_
      refine x_iload (np := 6) (x := 2) (by decide +kernel) rfl (by decide) ?_
      refine x_putI (np := 9) (x := 704) (f := 0) (by decide +kernel) (by decide +kernel) (by decide) (Or.inl (by decide)) ?_
      have j20 := jU (e := 0) (v := 2147483649) 0 j2 rg_75_0_0_1 (by first | decide | omega) (by first | decide | omega) (by first | decide | omega)
      have f22 := jF (e := 0) (v := 2147483649) 0 f4 rg_75_0_0_1 (by first | decide | omega) (by first | decide | omega) (by decide)
      generalize e21 : x_up h1 75 0 2147483649 = h19 at j20 f22 ⊢
      refine x_iload (np := 10) (x := 1) (by decide +kernel) rfl (by decide) ?_
      refine x_retI (np := 11) (x := 0) (by decide +kernel) (by decide) (Or.inr ⟨by decide +kernel, by first | decide | omega, by first | decide | omega⟩) ⟨_, rfl, (by decide), ?_⟩
      refine x_ifz (k := 0) (tg := 36) (np := 34) (by decide +kernel) (by decide) (by decide) (fun q23 => ?_) (fun q24 => ?_)
      · have q23 : 2147483649 = 2147483648 := q23
        exfalso; omega
      have q24 : ¬ (2147483649 = 2147483648) := q24
      refine x_const (np := 35) (x := 9223372039002259456) (a := 2147483648) (by decide +kernel) (by decide) (by decide) ?_
      refine x_retI (np := 36) (x := 0) (by decide +kernel) (by decide) (Or.inl (by decide +kernel)) ⟨_, rfl, (by decide), ?_⟩
      exact ⟨j20, f22, (by first | decide | omega)⟩
    have q16 : ¬ (2147483649 ≠ 2147483648) := q16
    exfalso; omega
  have q12 : ¬ (a1 < 2147483648) := q12
  refine x_iload (np := 6) (x := 0) (by decide +kernel) rfl la1 ?_
  refine x_iload (np := 7) (x := 2) (by decide +kernel) rfl (by first | decide | omega) ?_
  refine x_icmp (k := 4) (tg := 14) (np := 10) (by decide +kernel) (by decide) la1 (by first | decide | omega) (fun q25 => ?_) (fun q26 => ?_)
  · have q25 : v9 < a1 := q25
    refine x_const (np := 15) (x := 9223372039002259456) (a := 2147483648) (by decide +kernel) (by decide) (by decide) ?_
    refine x_retI (np := 16) (x := 0) (by decide +kernel) (by decide) (Or.inr ⟨by decide +kernel, by first | decide | omega, by first | decide | omega⟩) ⟨_, rfl, (by decide), ?_⟩
    refine x_ifz (k := 1) (tg := 20) (np := 16) (by decide +kernel) (by decide) (by decide) (fun q27 => ?_) (fun q28 => ?_)
    · have q27 : 2147483648 ≠ 2147483648 := q27
      exfalso; omega
    have q28 : ¬ (2147483648 ≠ 2147483648) := q28
    refine x_const (np := 17) (x := 9223372043297226753) (a := 2147483649) (by decide +kernel) (by decide) (by decide) ?_
    refine x_goto (np := 20) (x := 21) (by decide +kernel) ?_
    refine x_retI (np := 22) (x := 0) (by decide +kernel) (by decide) (Or.inr ⟨by decide +kernel, by first | decide | omega, by first | decide | omega⟩) ⟨_, rfl, (by decide), ?_⟩
    refine x_retI (np := 7) (x := 0) (by decide +kernel) (by decide) (Or.inr ⟨by decide +kernel, by first | decide | omega, by first | decide | omega⟩) ⟨_, rfl, (by decide), ?_⟩
    refine x_ifz (k := 1) (tg := 22) (np := 14) (by decide +kernel) (by decide) (by decide) (fun q29 => ?_) (fun q30 => ?_)
    · have q29 : 2147483649 ≠ 2147483648 := q29
      refine x_const (np := 23) (x := 9223372043297226753) (a := 2147483649) (by decide +kernel) (by decide) (by decide) ?_
      refine x_goto (np := 26) (x := 27) (by decide +kernel) ?_
      refine x_const (np := 28) (x := 9223372043297226753) (a := 2147483649) (by decide +kernel) (by decide) (by decide) ?_
      refine x_nI (t := 6) (mj := 152) (n := 3) (rc := 12) (ml := 3) (nr := 0) (np := 31) (as := [x_r 75, iv_c 2147483649, iv_c 2147483649]) (rest := []) (lo1 := [x_r 75, iv_c 2147483649, iv_c 2147483649]) (by decide +kernel) (by decide) (by decide +kernel) (x_rb_of (by decide +kernel)) rfl rfl (x_wr (by decide) (x_wi (by decide) (x_wi (by decide) x_wn))) x_wn (by decide) rfl ?_
      refine x_iload (np := 1) (x := 1) (by decide +kernel) rfl (by decide) ?_
      refine x_ifz (k := 0) (tg := 9) (np := 4) (by decide +kernel) (by decide) (by decide) (fun q31 => ?_) (fun q32 => ?_)
      · have q31 : 2147483649 = 2147483648 := q31
        exfalso; omega
      have q32 : ¬ (2147483649 = 2147483648) := q32
      refine x_aload (np := 5) (x := 0) (by decide +kernel) rfl (x_nc_le (by decide)) ?_
      refine x_iload (np := 6) (x := 2) (by decide +kernel) rfl (by decide) ?_
      refine x_putI (np := 9) (x := 704) (f := 0) (by decide +kernel) (by decide +kernel) (by decide) (Or.inl (by decide)) ?_
      have j34 := jU (e := 0) (v := 2147483649) 0 j2 rg_75_0_0_1 (by first | decide | omega) (by first | decide | omega) (by first | decide | omega)
      have f36 := jF (e := 0) (v := 2147483649) 0 f4 rg_75_0_0_1 (by first | decide | omega) (by first | decide | omega) (by decide)
      generalize e35 : x_up h1 75 0 2147483649 = h33 at j34 f36 ⊢
      refine x_iload (np := 10) (x := 1) (by decide +kernel) rfl (by decide) ?_
      refine x_retI (np := 11) (x := 0) (by decide +kernel) (by decide) (Or.inr ⟨by decide +kernel, by first | decide | omega, by first | decide | omega⟩) ⟨_, rfl, (by decide), ?_⟩
      refine x_ifz (k := 0) (tg := 36) (np := 34) (by decide +kernel) (by decide) (by decide) (fun q37 => ?_) (fun q38 => ?_)
      · have q37 : 2147483649 = 2147483648 := q37
        exfalso; omega
      have q38 : ¬ (2147483649 = 2147483648) := q38
      refine x_const (np := 35) (x := 9223372039002259456) (a := 2147483648) (by decide +kernel) (by decide) (by decide) ?_
      refine x_retI (np := 36) (x := 0) (by decide +kernel) (by decide) (Or.inl (by decide +kernel)) ⟨_, rfl, (by decide), ?_⟩
      exact ⟨j34, f36, (by first | decide | omega)⟩
    have q30 : ¬ (2147483649 ≠ 2147483648) := q30
    exfalso; omega
  have q26 : ¬ (v9 < a1) := q26
  refine x_const (np := 11) (x := 9223372043297226753) (a := 2147483649) (by decide +kernel) (by decide) (by decide) ?_
  refine x_goto (np := 14) (x := 15) (by decide +kernel) ?_
  refine x_retI (np := 16) (x := 0) (by decide +kernel) (by decide) (Or.inr ⟨by decide +kernel, by first | decide | omega, by first | decide | omega⟩) ⟨_, rfl, (by decide), ?_⟩
  refine x_ifz (k := 1) (tg := 20) (np := 16) (by decide +kernel) (by decide) (by decide) (fun q39 => ?_) (fun q40 => ?_)
  · have q39 : 2147483649 ≠ 2147483648 := q39
    refine x_const (np := 21) (x := 9223372039002259456) (a := 2147483648) (by decide +kernel) (by decide) (by decide) ?_
    refine x_retI (np := 22) (x := 0) (by decide +kernel) (by decide) (Or.inr ⟨by decide +kernel, by first | decide | omega, by first | decide | omega⟩) ⟨_, rfl, (by decide), ?_⟩
    refine x_retI (np := 7) (x := 0) (by decide +kernel) (by decide) (Or.inr ⟨by decide +kernel, by first | decide | omega, by first | decide | omega⟩) ⟨_, rfl, (by decide), ?_⟩
    refine x_ifz (k := 1) (tg := 22) (np := 14) (by decide +kernel) (by decide) (by decide) (fun q41 => ?_) (fun q42 => ?_)
    · have q41 : 2147483648 ≠ 2147483648 := q41
      exfalso; omega
    have q42 : ¬ (2147483648 ≠ 2147483648) := q42
    refine x_aload (np := 15) (x := 0) (by decide +kernel) rfl (x_nc_le (by decide)) ?_
    refine x_iload (np := 16) (x := 2) (by decide +kernel) rfl la2 ?_
    refine x_nI (t := 6) (mj := 159) (n := 2) (rc := 12) (ml := 2) (nr := 1) (np := 19) (as := [x_r 75, iv_c a2]) (rest := [x_r 75]) (lo1 := [x_r 75, iv_c a2]) (by decide +kernel) (by decide) (by decide +kernel) (x_rb_of (by decide +kernel)) rfl rfl (x_wr (by decide) (x_wi la2 x_wn)) (x_wr (by decide) x_wn) (by decide) rfl ?_
    refine x_aload (np := 1) (x := 0) (by decide +kernel) rfl (x_nc_le (by decide)) ?_
    refine x_iload (np := 2) (x := 1) (by decide +kernel) rfl la2 ?_
    refine x_const (np := 3) (x := 9223372039002259456) (a := 2147483648) (by decide +kernel) (by decide) (by decide) ?_
    refine x_nI (t := 6) (mj := 158) (n := 3) (rc := 12) (ml := 3) (nr := 0) (np := 6) (as := [x_r 75, iv_c a2, iv_c 2147483648]) (rest := []) (lo1 := [x_r 75, iv_c a2, iv_c 2147483648]) (by decide +kernel) (by decide) (by decide +kernel) (x_rb_of (by decide +kernel)) rfl rfl (x_wr (by decide) (x_wi la2 (x_wi (by decide) x_wn))) x_wn (by decide) rfl ?_
    refine x_iload (np := 1) (x := 1) (by decide +kernel) rfl la2 ?_
    refine x_const (np := 2) (x := 9223372039002259456) (a := 2147483648) (by decide +kernel) (by decide) (by decide) ?_
    refine x_aload (np := 3) (x := 0) (by decide +kernel) rfl (x_nc_le (by decide)) ?_
    have q43 : h1 75 1 = 76 := by have z := jB (e := 1) 0 j2 rg_75_1_0_1 (by decide) (by decide); omega
    refine x_getR (np := 6) (x := 705) (f := 1) (q := 76) (by decide +kernel) (by decide) (by decide +kernel) q43 ?_
    refine x_iload (np := 7) (x := 2) (by decide +kernel) rfl (by decide) ?_
    have q44 : h1 76 0 = h 76 0 := by rw [← e3]; exact x_up_k (by decide)
    refine x_aldC (np := 8) (x := 0) (n := 1952) (i := 0) (q := (h 76 0)) (by decide +kernel) (by decide +kernel) (by first | decide | omega) (by first | decide | omega) (by decide) q44 (fun l45 => ?_)
    refine x_const (np := 9) (x := 9223372043297226753) (a := 2147483649) (by decide +kernel) (by decide) (by decide) ?_
    obtain ⟨v46, q47⟩ : ∃ z, z + 2147483649 = (h 76 0) + 2147483648 := ⟨(h 76 0) + 2147483648 - 2147483649, by first | decide | omega⟩
    refine x_isub (np := 10) (x := 0) (v := v46) (by decide +kernel) l8 (by decide) (by first | decide | omega) (by first | decide | omega) ?_
    refine x_nI (t := 0) (mj := 153) (n := 3) (rc := 0) (ml := 3) (nr := 0) (np := 13) (as := [iv_c a2, iv_c 2147483648, iv_c v46]) (rest := []) (lo1 := [iv_c a2, iv_c 2147483648, iv_c v46]) (by decide +kernel) (by decide) (by decide +kernel) (Or.inl rfl) rfl rfl (x_wi la2 (x_wi (by decide) (x_wi (by first | decide | omega) x_wn))) x_wn (by decide) rfl ?_
    refine x_iload (np := 1) (x := 0) (by decide +kernel) rfl la2 ?_
    refine x_iload (np := 2) (x := 1) (by decide +kernel) rfl (by decide) ?_
    refine x_icmp (k := 2) (tg := 14) (np := 5) (by decide +kernel) (by decide) la2 (by decide) (fun q48 => ?_) (fun q49 => ?_)
    · have q48 : a2 < 2147483648 := q48
      refine x_const (np := 15) (x := 9223372039002259456) (a := 2147483648) (by decide +kernel) (by decide) (by decide) ?_
      refine x_retI (np := 16) (x := 0) (by decide +kernel) (by decide) (Or.inr ⟨by decide +kernel, by first | decide | omega, by first | decide | omega⟩) ⟨_, rfl, (by decide), ?_⟩
      refine x_ifz (k := 1) (tg := 20) (np := 16) (by decide +kernel) (by decide) (by decide) (fun q50 => ?_) (fun q51 => ?_)
      · have q50 : 2147483648 ≠ 2147483648 := q50
        exfalso; omega
      have q51 : ¬ (2147483648 ≠ 2147483648) := q51
      refine x_const (np := 17) (x := 9223372043297226753) (a := 2147483649) (by decide +kernel) (by decide) (by decide) ?_
      refine x_goto (np := 20) (x := 21) (by decide +kernel) ?_
      refine x_retI (np := 22) (x := 0) (by decide +kernel) (by decide) (Or.inr ⟨by decide +kernel, by first | decide | omega, by first | decide | omega⟩) ⟨_, rfl, (by decide), ?_⟩
      refine x_retI (np := 7) (x := 0) (by decide +kernel) (by decide) (Or.inr ⟨by decide +kernel, by first | decide | omega, by first | decide | omega⟩) ⟨_, rfl, (by decide), ?_⟩
      refine x_ifz (k := 0) (tg := 26) (np := 22) (by decide +kernel) (by decide) (by decide) (fun q52 => ?_) (fun q53 => ?_)
      · have q52 : 2147483649 = 2147483648 := q52
        exfalso; omega
      have q53 : ¬ (2147483649 = 2147483648) := q53
      refine x_const (np := 23) (x := 9223372043297226753) (a := 2147483649) (by decide +kernel) (by decide) (by decide) ?_
      refine x_goto (np := 26) (x := 27) (by decide +kernel) ?_
      refine x_const (np := 28) (x := 9223372043297226753) (a := 2147483649) (by decide +kernel) (by decide) (by decide) ?_
      refine x_nI (t := 6) (mj := 152) (n := 3) (rc := 12) (ml := 3) (nr := 0) (np := 31) (as := [x_r 75, iv_c 2147483649, iv_c 2147483649]) (rest := []) (lo1 := [x_r 75, iv_c 2147483649, iv_c 2147483649]) (by decide +kernel) (by decide) (by decide +kernel) (x_rb_of (by decide +kernel)) rfl rfl (x_wr (by decide) (x_wi (by decide) (x_wi (by decide) x_wn))) x_wn (by decide) rfl ?_
      refine x_iload (np := 1) (x := 1) (by decide +kernel) rfl (by decide) ?_
      refine x_ifz (k := 0) (tg := 9) (np := 4) (by decide +kernel) (by decide) (by decide) (fun q54 => ?_) (fun q55 => ?_)
      · have q54 : 2147483649 = 2147483648 := q54
        exfalso; omega
      have q55 : ¬ (2147483649 = 2147483648) := q55
      refine x_aload (np := 5) (x := 0) (by decide +kernel) rfl (x_nc_le (by decide)) ?_
      refine x_iload (np := 6) (x := 2) (by decide +kernel) rfl (by decide) ?_
      refine x_putI (np := 9) (x := 704) (f := 0) (by decide +kernel) (by decide +kernel) (by decide) (Or.inl (by decide)) ?_
      have j57 := jU (e := 0) (v := 2147483649) 0 j2 rg_75_0_0_1 (by first | decide | omega) (by first | decide | omega) (by first | decide | omega)
      have f59 := jF (e := 0) (v := 2147483649) 0 f4 rg_75_0_0_1 (by first | decide | omega) (by first | decide | omega) (by decide)
      generalize e58 : x_up h1 75 0 2147483649 = h56 at j57 f59 ⊢
      refine x_iload (np := 10) (x := 1) (by decide +kernel) rfl (by decide) ?_
      refine x_retI (np := 11) (x := 0) (by decide +kernel) (by decide) (Or.inr ⟨by decide +kernel, by first | decide | omega, by first | decide | omega⟩) ⟨_, rfl, (by decide), ?_⟩
      refine x_ifz (k := 0) (tg := 36) (np := 34) (by decide +kernel) (by decide) (by decide) (fun q60 => ?_) (fun q61 => ?_)
      · have q60 : 2147483649 = 2147483648 := q60
        exfalso; omega
      have q61 : ¬ (2147483649 = 2147483648) := q61
      refine x_const (np := 35) (x := 9223372039002259456) (a := 2147483648) (by decide +kernel) (by decide) (by decide) ?_
      refine x_retI (np := 36) (x := 0) (by decide +kernel) (by decide) (Or.inl (by decide +kernel)) ⟨_, rfl, (by decide), ?_⟩
      exact ⟨j57, f59, (by first | decide | omega)⟩
    have q49 : ¬ (a2 < 2147483648) := q49
    refine x_iload (np := 6) (x := 0) (by decide +kernel) rfl la2 ?_
    refine x_iload (np := 7) (x := 2) (by decide +kernel) rfl (by first | decide | omega) ?_
    refine x_icmp (k := 4) (tg := 14) (np := 10) (by decide +kernel) (by decide) la2 (by first | decide | omega) (fun q62 => ?_) (fun q63 => ?_)
    · have q62 : v46 < a2 := q62
      refine x_const (np := 15) (x := 9223372039002259456) (a := 2147483648) (by decide +kernel) (by decide) (by decide) ?_
      refine x_retI (np := 16) (x := 0) (by decide +kernel) (by decide) (Or.inr ⟨by decide +kernel, by first | decide | omega, by first | decide | omega⟩) ⟨_, rfl, (by decide), ?_⟩
      refine x_ifz (k := 1) (tg := 20) (np := 16) (by decide +kernel) (by decide) (by decide) (fun q64 => ?_) (fun q65 => ?_)
      · have q64 : 2147483648 ≠ 2147483648 := q64
        exfalso; omega
      have q65 : ¬ (2147483648 ≠ 2147483648) := q65
      refine x_const (np := 17) (x := 9223372043297226753) (a := 2147483649) (by decide +kernel) (by decide) (by decide) ?_
      refine x_goto (np := 20) (x := 21) (by decide +kernel) ?_
      refine x_retI (np := 22) (x := 0) (by decide +kernel) (by decide) (Or.inr ⟨by decide +kernel, by first | decide | omega, by first | decide | omega⟩) ⟨_, rfl, (by decide), ?_⟩
      refine x_retI (np := 7) (x := 0) (by decide +kernel) (by decide) (Or.inr ⟨by decide +kernel, by first | decide | omega, by first | decide | omega⟩) ⟨_, rfl, (by decide), ?_⟩
      refine x_ifz (k := 0) (tg := 26) (np := 22) (by decide +kernel) (by decide) (by decide) (fun q66 => ?_) (fun q67 => ?_)
      · have q66 : 2147483649 = 2147483648 := q66
        exfalso; omega
      have q67 : ¬ (2147483649 = 2147483648) := q67
      refine x_const (np := 23) (x := 9223372043297226753) (a := 2147483649) (by decide +kernel) (by decide) (by decide) ?_
      refine x_goto (np := 26) (x := 27) (by decide +kernel) ?_
      refine x_const (np := 28) (x := 9223372043297226753) (a := 2147483649) (by decide +kernel) (by decide) (by decide) ?_
      refine x_nI (t := 6) (mj := 152) (n := 3) (rc := 12) (ml := 3) (nr := 0) (np := 31) (as := [x_r 75, iv_c 2147483649, iv_c 2147483649]) (rest := []) (lo1 := [x_r 75, iv_c 2147483649, iv_c 2147483649]) (by decide +kernel) (by decide) (by decide +kernel) (x_rb_of (by decide +kernel)) rfl rfl (x_wr (by decide) (x_wi (by decide) (x_wi (by decide) x_wn))) x_wn (by decide) rfl ?_
      refine x_iload (np := 1) (x := 1) (by decide +kernel) rfl (by decide) ?_
      refine x_ifz (k := 0) (tg := 9) (np := 4) (by decide +kernel) (by decide) (by decide) (fun q68 => ?_) (fun q69 => ?_)
      · have q68 : 2147483649 = 2147483648 := q68
        exfalso; omega
      have q69 : ¬ (2147483649 = 2147483648) := q69
      refine x_aload (np := 5) (x := 0) (by decide +kernel) rfl (x_nc_le (by decide)) ?_
      refine x_iload (np := 6) (x := 2) (by decide +kernel) rfl (by decide) ?_
      refine x_putI (np := 9) (x := 704) (f := 0) (by decide +kernel) (by decide +kernel) (by decide) (Or.inl (by decide)) ?_
      have j71 := jU (e := 0) (v := 2147483649) 0 j2 rg_75_0_0_1 (by first | decide | omega) (by first | decide | omega) (by first | decide | omega)
      have f73 := jF (e := 0) (v := 2147483649) 0 f4 rg_75_0_0_1 (by first | decide | omega) (by first | decide | omega) (by decide)
      generalize e72 : x_up h1 75 0 2147483649 = h70 at j71 f73 ⊢
      refine x_iload (np := 10) (x := 1) (by decide +kernel) rfl (by decide) ?_
      refine x_retI (np := 11) (x := 0) (by decide +kernel) (by decide) (Or.inr ⟨by decide +kernel, by first | decide | omega, by first | decide | omega⟩) ⟨_, rfl, (by decide), ?_⟩
      refine x_ifz (k := 0) (tg := 36) (np := 34) (by decide +kernel) (by decide) (by decide) (fun q74 => ?_) (fun q75 => ?_)
      · have q74 : 2147483649 = 2147483648 := q74
        exfalso; omega
      have q75 : ¬ (2147483649 = 2147483648) := q75
      refine x_const (np := 35) (x := 9223372039002259456) (a := 2147483648) (by decide +kernel) (by decide) (by decide) ?_
      refine x_retI (np := 36) (x := 0) (by decide +kernel) (by decide) (Or.inl (by decide +kernel)) ⟨_, rfl, (by decide), ?_⟩
      exact ⟨j71, f73, (by first | decide | omega)⟩
    have q63 : ¬ (v46 < a2) := q63
    refine x_const (np := 11) (x := 9223372043297226753) (a := 2147483649) (by decide +kernel) (by decide) (by decide) ?_
    refine x_goto (np := 14) (x := 15) (by decide +kernel) ?_
    refine x_retI (np := 16) (x := 0) (by decide +kernel) (by decide) (Or.inr ⟨by decide +kernel, by first | decide | omega, by first | decide | omega⟩) ⟨_, rfl, (by decide), ?_⟩
    refine x_ifz (k := 1) (tg := 20) (np := 16) (by decide +kernel) (by decide) (by decide) (fun q76 => ?_) (fun q77 => ?_)
    · have q76 : 2147483649 ≠ 2147483648 := q76
      refine x_const (np := 21) (x := 9223372039002259456) (a := 2147483648) (by decide +kernel) (by decide) (by decide) ?_
      refine x_retI (np := 22) (x := 0) (by decide +kernel) (by decide) (Or.inr ⟨by decide +kernel, by first | decide | omega, by first | decide | omega⟩) ⟨_, rfl, (by decide), ?_⟩
      refine x_retI (np := 7) (x := 0) (by decide +kernel) (by decide) (Or.inr ⟨by decide +kernel, by first | decide | omega, by first | decide | omega⟩) ⟨_, rfl, (by decide), ?_⟩
      refine x_ifz (k := 0) (tg := 26) (np := 22) (by decide +kernel) (by decide) (by decide) (fun q78 => ?_) (fun q79 => ?_)
      · have q78 : 2147483648 = 2147483648 := q78
        refine x_const (np := 27) (x := 9223372039002259456) (a := 2147483648) (by decide +kernel) (by decide) (by decide) ?_
        refine x_const (np := 28) (x := 9223372043297226753) (a := 2147483649) (by decide +kernel) (by decide) (by decide) ?_
        refine x_nI (t := 6) (mj := 152) (n := 3) (rc := 12) (ml := 3) (nr := 0) (np := 31) (as := [x_r 75, iv_c 2147483648, iv_c 2147483649]) (rest := []) (lo1 := [x_r 75, iv_c 2147483648, iv_c 2147483649]) (by decide +kernel) (by decide) (by decide +kernel) (x_rb_of (by decide +kernel)) rfl rfl (x_wr (by decide) (x_wi (by decide) (x_wi (by decide) x_wn))) x_wn (by decide) rfl ?_
        refine x_iload (np := 1) (x := 1) (by decide +kernel) rfl (by decide) ?_
        refine x_ifz (k := 0) (tg := 9) (np := 4) (by decide +kernel) (by decide) (by decide) (fun q80 => ?_) (fun q81 => ?_)
        · have q80 : 2147483648 = 2147483648 := q80
          refine x_iload (np := 10) (x := 1) (by decide +kernel) rfl (by decide) ?_
          refine x_retI (np := 11) (x := 0) (by decide +kernel) (by decide) (Or.inr ⟨by decide +kernel, by first | decide | omega, by first | decide | omega⟩) ⟨_, rfl, (by decide), ?_⟩
          refine x_ifz (k := 0) (tg := 36) (np := 34) (by decide +kernel) (by decide) (by decide) (fun q82 => ?_) (fun q83 => ?_)
          · have q82 : 2147483648 = 2147483648 := q82
            refine x_aload (np := 37) (x := 0) (by decide +kernel) rfl (x_nc_le (by decide)) ?_
            have m87 : WT 76 h1 := by rw [← e3]; exact WT.oth hW hJ (by decide)
            refine x_cV (t := 6) (mj := 210) (n := 1) (rc := 12) (ml := 5) (nr := 0) (np := 40) (as := [x_r 75]) (rest := []) (lo1 := [x_r 75, 147573952589676412928, 147573952589676412928, 147573952589676412928, 147573952589676412928]) (by decide +kernel) (by decide) (by decide +kernel) (x_rb_of (by decide +kernel)) rfl rfl (x_wr (by decide) x_wn) x_wn (by decide) rfl (c210_75 j2  m87) (fun h88 q86 => ?_)
            obtain ⟨j89, f90⟩ := q86
            have f93 := Fr.trans f4 f90 (by decide)
            refine x_const (np := 41) (x := 9223372039002259456) (a := 2147483648) (by decide +kernel) (by decide) (by decide) ?_
            refine x_istore (np := 42) (x := 3) (lo' := [x_r 75, iv_c a1, iv_c a2, iv_c 2147483648, 147573952589676412928]) (by decide +kernel) (by decide) (Nat.le_of_ble_eq_true rfl) rfl ?_
            refine x_const (np := 43) (x := 9223372039002259456) (a := 2147483648) (by decide +kernel) (by decide) (by decide) ?_
            refine x_istore (np := 45) (x := 4) (lo' := [x_r 75, iv_c a1, iv_c a2, iv_c 2147483648, iv_c 2147483648]) (by decide +kernel) (by decide) (Nat.le_of_ble_eq_true rfl) rfl ?_
            have p598 : ∀ (n : Nat) (v594 : Nat) (v596 : Nat), 4294967296 - v596 < n → (0 ≤ v594 ∧ v594 ≤ 4294967295) → (2147483648 ≤ v596 ∧ v596 ≤ 2147483660) → X sc 240 (d + 5) (xI fun r h' => J h' ∧ Fr 135291600897 h h' ∧ (0 ≤ r ∧ r ≤ 4294967295)) 0 0 45 [x_r 75, iv_c a1, iv_c a2, iv_c v594, iv_c v596] [] h88 := by
              intro n
              induction n with
              | zero => intro v594 v596 q599; exact absurd q599 (Nat.not_lt_zero _)
              | succ n i600 =>
                intro v594 v596 q599 b595 b597
                refine x_iload (np := 47) (x := 4) (by decide +kernel) rfl (by first | decide | omega) ?_
                refine x_const (np := 49) (x := 9223372090541867020) (a := 2147483660) (by decide +kernel) (by decide) (by decide) ?_
                refine x_icmp (k := 3) (tg := 77) (np := 52) (by decide +kernel) (by decide) (by first | decide | omega) (by decide) (fun q601 => ?_) (fun q602 => ?_)
                · have q601 : 2147483660 ≤ v596 := q601
                  refine x_iload (np := 78) (x := 3) (by decide +kernel) rfl (by first | decide | omega) ?_
                  refine x_retI (np := 79) (x := 0) (by decide +kernel) (by first | decide | omega) (Or.inl (by decide +kernel)) ⟨_, rfl, (by first | decide | omega), ?_⟩
                  exact ⟨j89, f93, (by first | decide | omega)⟩
                have q602 : ¬ (2147483660 ≤ v596) := q602
                refine x_iload (np := 53) (x := 3) (by decide +kernel) rfl (by first | decide | omega) ?_
                refine x_aload (np := 54) (x := 0) (by decide +kernel) rfl (x_nc_le (by decide)) ?_
                refine x_iload (np := 55) (x := 1) (by decide +kernel) rfl la1 ?_
                refine x_iload (np := 57) (x := 4) (by decide +kernel) rfl (by first | decide | omega) ?_
                refine x_nI (t := 6) (mj := 211) (n := 3) (rc := 12) (ml := 3) (nr := 1) (np := 60) (as := [x_r 75, iv_c a1, iv_c v596]) (rest := [iv_c v594]) (lo1 := [x_r 75, iv_c a1, iv_c v596]) (by decide +kernel) (by decide) (by decide +kernel) (x_rb_of (by decide +kernel)) rfl rfl (x_wr (by decide) (x_wi la1 (x_wi (by first | decide | omega) x_wn))) (x_wi (by first | decide | omega) x_wn) (by decide) rfl ?_
                refine x_aload (np := 1) (x := 0) (by decide +kernel) rfl (x_nc_le (by decide)) ?_
                have q603 : h88 75 20 = 87 := by have z := jB (e := 20) 0 j89 rg_75_20_0_1 (by decide) (by decide); omega
                refine x_getR (np := 4) (x := 724) (f := 20) (q := 87) (by decide +kernel) (by decide) (by decide +kernel) q603 ?_
                refine x_const (np := 6) (x := 9223372090541867020) (a := 2147483660) (by decide +kernel) (by decide) (by decide) ?_
                refine x_iload (np := 7) (x := 1) (by decide +kernel) rfl la1 ?_
                obtain ⟨u604, q605⟩ : ∃ z, a1 = 2147483648 + z := ⟨a1 - 2147483648, by first | decide | omega⟩
                refine x_imul (np := 8) (x := 0) (i := 12) (j := u604) (v := (2147483648 + 12 * u604)) (by decide +kernel) (by first | decide | omega) (by first | decide | omega) (by first | decide | omega) (by first | decide | omega) (by decide) la1 ?_
                refine x_iload (np := 9) (x := 2) (by decide +kernel) rfl (by first | decide | omega) ?_
                refine x_iadd (np := 10) (x := 0) (v := (12 * u604 + v596)) (by decide +kernel) (by first | decide | omega) (by first | decide | omega) (by first | decide | omega) (by first | decide | omega) ?_
                obtain ⟨u607, q608⟩ : ∃ z, v596 = 2147483648 + z := ⟨v596 - 2147483648, by first | decide | omega⟩
                have b609 := jB (e := (12 * u604 + u607)) (12 * u604 + u607) j89 rg_87_0_1_72 (by first | decide | omega) (by first | decide | omega)
                refine x_aldC (np := 11) (x := 0) (n := 72) (i := (12 * u604 + u607)) (q := ((h88 87 (12 * u604 + u607)))) (by decide +kernel) (by decide +kernel) (by first | decide | omega) (by first | decide | omega) (by decide) rfl (fun l610 => ?_)
                refine x_retI (np := 12) (x := 0) (by decide +kernel) l610 (Or.inl (by decide +kernel)) ⟨_, rfl, l610, ?_⟩
                refine x_iload (np := 61) (x := 2) (by decide +kernel) rfl la2 ?_
                refine x_icmp (k := 1) (tg := 68) (np := 64) (by decide +kernel) (by decide) l610 la2 (fun q611 => ?_) (fun q612 => ?_)
                · have q611 : ((h88 87 (12 * u604 + u607))) ≠ a2 := q611
                  refine x_const (np := 69) (x := 9223372039002259456) (a := 2147483648) (by decide +kernel) (by decide) (by decide) ?_
                  refine x_iadd (np := 70) (x := 0) (v := v594) (by decide +kernel) (by first | decide | omega) (by decide) (by first | decide | omega) (by first | decide | omega) ?_
                  refine x_istore (np := 71) (x := 3) (lo' := [x_r 75, iv_c a1, iv_c a2, iv_c v594, iv_c v596]) (by decide +kernel) (by first | decide | omega) (Nat.le_of_ble_eq_true rfl) rfl ?_
                  refine x_iinc (np := 74) (i := 4) (j := 2147483649) (v := (1 + v596)) (lo' := [x_r 75, iv_c a1, iv_c a2, iv_c v594, iv_c (1 + v596)]) (by decide +kernel) (by decide) (by decide) rfl (by first | decide | omega) (by first | decide | omega) (by first | decide | omega) rfl ?_
                  refine x_goto (np := 77) (x := 45) (by decide +kernel) ?_
                  exact i600 v594 (1 + v596) (by first | decide | omega) (by first | decide | omega) (by first | decide | omega)
                have q612 : ¬ (((h88 87 (12 * u604 + u607))) ≠ a2) := q612
                refine x_const (np := 65) (x := 9223372043297226753) (a := 2147483649) (by decide +kernel) (by decide) (by decide) ?_
                refine x_goto (np := 68) (x := 69) (by decide +kernel) ?_
                refine x_addA (by rw [tb_b240]; decide +kernel) (by first | decide | omega) (by decide) (fun v613 l614 => ?_)
                refine x_istore (np := 71) (x := 3) (lo' := [x_r 75, iv_c a1, iv_c a2, iv_c v613, iv_c v596]) (by decide +kernel) l614 (Nat.le_of_ble_eq_true rfl) rfl ?_
                refine x_iinc (np := 74) (i := 4) (j := 2147483649) (v := (1 + v596)) (lo' := [x_r 75, iv_c a1, iv_c a2, iv_c v613, iv_c (1 + v596)]) (by decide +kernel) (by decide) (by decide) rfl (by first | decide | omega) (by first | decide | omega) (by first | decide | omega) rfl ?_
                refine x_goto (np := 77) (x := 45) (by decide +kernel) ?_
                exact i600 v613 (1 + v596) (by first | decide | omega) (by first | decide | omega) (by first | decide | omega)
            exact p598 _ 2147483648 2147483648 (Nat.lt_succ_self _) (by first | decide | omega) (by first | decide | omega)
          have q83 : ¬ (2147483648 = 2147483648) := q83
          exfalso; omega
        have q81 : ¬ (2147483648 = 2147483648) := q81
        exfalso; omega
      have q79 : ¬ (2147483648 = 2147483648) := q79
      exfalso; omega
    have q77 : ¬ (2147483649 ≠ 2147483648) := q77
    exfalso; omega
  have q40 : ¬ (2147483649 ≠ 2147483648) := q40
  exfalso; omega
set_option maxHeartbeats 0 in
/-- LentNamesModel.again(II)I -/
theorem c241_75 {sc : Nat × Nat} {d a1 a2 : Nat} {h : xh} (hJ : J h) (ba1 : 0 ≤ a1 ∧ a1 ≤ 4294967295) (ba2 : 0 ≤ a2 ∧ a2 ≤ 4294967295) (hW : WT 76 h) : X sc 241 (d + 5) (xI fun r h' => J h' ∧ Fr 135291600897 h h' ∧ (2147483647 ≤ r ∧ r ≤ 2147483659)) 0 0 0 [x_r 75, iv_c a1, iv_c a2, 147573952589676412928] [] h := by
  have la1 : a1 < 4294967296 := by first | decide | omega
  have la2 : a2 < 4294967296 := by first | decide | omega
  have hF := Fr.refl 135291600897 h
  refine x_aload (np := 1) (x := 0) (by decide +kernel) rfl (x_nc_le (by decide)) ?_
  refine x_const (np := 2) (x := 9223372039002259456) (a := 2147483648) (by decide +kernel) (by decide) (by decide) ?_
  refine x_putI (np := 5) (x := 704) (f := 0) (by decide +kernel) (by decide +kernel) (by decide) (Or.inl (by decide)) ?_
  have j2 := jU (e := 0) (v := 2147483648) 0 hJ rg_75_0_0_1 (by first | decide | omega) (by first | decide | omega) (by first | decide | omega)
  have f4 := jF (e := 0) (v := 2147483648) 0 hF rg_75_0_0_1 (by first | decide | omega) (by first | decide | omega) (by decide)
  generalize e3 : x_up h 75 0 2147483648 = h1 at j2 f4 ⊢
  refine x_aload (np := 6) (x := 0) (by decide +kernel) rfl (x_nc_le (by decide)) ?_
  refine x_aload (np := 7) (x := 0) (by decide +kernel) rfl (x_nc_le (by decide)) ?_
  refine x_iload (np := 8) (x := 1) (by decide +kernel) rfl la1 ?_
  refine x_nI (t := 6) (mj := 159) (n := 2) (rc := 12) (ml := 2) (nr := 1) (np := 11) (as := [x_r 75, iv_c a1]) (rest := [x_r 75]) (lo1 := [x_r 75, iv_c a1]) (by decide +kernel) (by decide) (by decide +kernel) (x_rb_of (by decide +kernel)) rfl rfl (x_wr (by decide) (x_wi la1 x_wn)) (x_wr (by decide) x_wn) (by decide) rfl ?_
  refine x_aload (np := 1) (x := 0) (by decide +kernel) rfl (x_nc_le (by decide)) ?_
  refine x_iload (np := 2) (x := 1) (by decide +kernel) rfl la1 ?_
  refine x_const (np := 3) (x := 9223372039002259456) (a := 2147483648) (by decide +kernel) (by decide) (by decide) ?_
  refine x_nI (t := 6) (mj := 158) (n := 3) (rc := 12) (ml := 3) (nr := 0) (np := 6) (as := [x_r 75, iv_c a1, iv_c 2147483648]) (rest := []) (lo1 := [x_r 75, iv_c a1, iv_c 2147483648]) (by decide +kernel) (by decide) (by decide +kernel) (x_rb_of (by decide +kernel)) rfl rfl (x_wr (by decide) (x_wi la1 (x_wi (by decide) x_wn))) x_wn (by decide) rfl ?_
  refine x_iload (np := 1) (x := 1) (by decide +kernel) rfl la1 ?_
  refine x_const (np := 2) (x := 9223372039002259456) (a := 2147483648) (by decide +kernel) (by decide) (by decide) ?_
  refine x_aload (np := 3) (x := 0) (by decide +kernel) rfl (x_nc_le (by decide)) ?_
  have q5 : h1 75 1 = 76 := by have z := jB (e := 1) 0 j2 rg_75_1_0_1 (by decide) (by decide); omega
  refine x_getR (np := 6) (x := 705) (f := 1) (q := 76) (by decide +kernel) (by decide) (by decide +kernel) q5 ?_
  refine x_iload (np := 7) (x := 2) (by decide +kernel) rfl (by decide) ?_
  have q6 : h1 76 0 = h 76 0 := by rw [← e3]; exact x_up_k (by decide)
  have b7 := jB (e := 0) 0 hJ rg_76_0_0_1 (by first | decide | omega) (by first | decide | omega)
  refine x_aldC (np := 8) (x := 0) (n := 1952) (i := 0) (q := (h 76 0)) (by decide +kernel) (by decide +kernel) (by first | decide | omega) (by first | decide | omega) (by decide) q6 (fun l8 => ?_)
  refine x_const (np := 9) (x := 9223372043297226753) (a := 2147483649) (by decide +kernel) (by decide) (by decide) ?_
  obtain ⟨v9, q10⟩ : ∃ z, z + 2147483649 = (h 76 0) + 2147483648 := ⟨(h 76 0) + 2147483648 - 2147483649, by first | decide | omega⟩
  refine x_isub (np := 10) (x := 0) (v := v9) (by decide +kernel) l8 (by decide) (by first | decide | omega) (by first | decide | omega) ?_
  refine x_nI (t := 0) (mj := 153) (n := 3) (rc := 0) (ml := 3) (nr := 0) (np := 13) (as := [iv_c a1, iv_c 2147483648, iv_c v9]) (rest := []) (lo1 := [iv_c a1, iv_c 2147483648, iv_c v9]) (by decide +kernel) (by decide) (by decide +kernel) (Or.inl rfl) rfl rfl (x_wi la1 (x_wi (by decide) (x_wi (by first | decide | omega) x_wn))) x_wn (by decide) rfl ?_
  refine x_iload (np := 1) (x := 0) (by decide +kernel) rfl la1 ?_
  refine x_iload (np := 2) (x := 1) (by decide +kernel) rfl (by decide) ?_
  refine x_icmp (k := 2) (tg := 14) (np := 5) (by decide +kernel) (by decide) la1 (by decide) (fun q11 => ?_) (fun q12 => ?_)
  · have q11 : a1 < 2147483648 := q11
    refine x_const (np := 15) (x := 9223372039002259456) (a := 2147483648) (by decide +kernel) (by decide) (by decide) ?_
    refine x_retI (np := 16) (x := 0) (by decide +kernel) (by decide) (Or.inr ⟨by decide +kernel, by first | decide | omega, by first | decide | omega⟩) ⟨_, rfl, (by decide), ?_⟩
    refine x_ifz (k := 1) (tg := 20) (np := 16) (by decide +kernel) (by decide) (by decide) (fun q13 => ?_) (fun q14 => ?_)
    · have q13 : 2147483648 ≠ 2147483648 := q13
      exfalso; omega
    have q14 : ¬ (2147483648 ≠ 2147483648) := q14
    refine x_const (np := 17) (x := 9223372043297226753) (a := 2147483649) (by decide +kernel) (by decide) (by decide) ?_
    refine x_goto (np := 20) (x := 21) (by decide +kernel) ?_
    refine x_retI (np := 22) (x := 0) (by decide +kernel) (by decide) (Or.inr ⟨by decide +kernel, by first | decide | omega, by first | decide | omega⟩) ⟨_, rfl, (by decide), ?_⟩
    refine x_retI (np := 7) (x := 0) (by decide +kernel) (by decide) (Or.inr ⟨by decide +kernel, by first | decide | omega, by first | decide | omega⟩) ⟨_, rfl, (by decide), ?_⟩
    refine x_ifz (k := 1) (tg := 21) (np := 14) (by decide +kernel) (by decide) (by decide) (fun q15 => ?_) (fun q16 => ?_)
    · have q15 : 2147483649 ≠ 2147483648 := q15
      refine x_const (np := 22) (x := 9223372043297226753) (a := 2147483649) (by decide +kernel) (by decide) (by decide) ?_
      refine x_goto (np := 25) (x := 26) (by decide +kernel) ?_
      refine x_const (np := 27) (x := 9223372043297226753) (a := 2147483649) (by decide +kernel) (by decide) (by decide) ?_
      refine x_nI (t := 6) (mj := 152) (n := 3) (rc := 12) (ml := 3) (nr := 0) (np := 30) (as := [x_r 75, iv_c 2147483649, iv_c 2147483649]) (rest := []) (lo1 := [x_r 75, iv_c 2147483649, iv_c 2147483649]) (by decide +kernel) (by decide) (by decide +kernel) (x_rb_of (by decide +kernel)) rfl rfl (x_wr (by decide) (x_wi (by decide) (x_wi (by decide) x_wn))) x_wn (by decide) rfl ?_
      refine x_iload (np := 1) (x := 1) (by decide +kernel) rfl (by decide) ?_
      refine x_ifz (k := 0) (tg := 9) (np := 4) (by decide +kernel) (by decide) (by decide) (fun q17 => ?_) (fun q18 => ?_)
      · have q17 : 2147483649 = 2147483648 := q17
        exfalso; omega
      have q18 : ¬ (2147483649 = 2147483648) := q18
      refine x_aload (np := 5) (x := 0) (by decide +kernel) rfl (x_nc_le (by decide)) ?_
      refine x_iload (np := 6) (x := 2) (by decide +kernel) rfl (by decide) ?_
      refine x_putI (np := 9) (x := 704) (f := 0) (by decide +kernel) (by decide +kernel) (by decide) (Or.inl (by decide)) ?_
      have j20 := jU (e := 0) (v := 2147483649) 0 j2 rg_75_0_0_1 (by first | decide | omega) (by first | decide | omega) (by first | decide | omega)
      have f22 := jF (e := 0) (v := 2147483649) 0 f4 rg_75_0_0_1 (by first | decide | omega) (by first | decide | omega) (by decide)
      generalize e21 : x_up h1 75 0 2147483649 = h19 at j20 f22 ⊢
      refine x_iload (np := 10) (x := 1) (by decide +kernel) rfl (by decide) ?_
      refine x_retI (np := 11) (x := 0) (by decide +kernel) (by decide) (Or.inr ⟨by decide +kernel, by first | decide | omega, by first | decide | omega⟩) ⟨_, rfl, (by decide), ?_⟩
      refine x_ifz (k := 0) (tg := 35) (np := 33) (by decide +kernel) (by decide) (by decide) (fun q23 => ?_) (fun q24 => ?_)
      · have q23 : 2147483649 = 2147483648 := q23
        exfalso; omega
      have q24 : ¬ (2147483649 = 2147483648) := q24
      refine x_const (np := 34) (x := 9223372039002259456) (a := 2147483648) (by decide +kernel) (by decide) (by decide) ?_
      refine x_retI (np := 35) (x := 0) (by decide +kernel) (by decide) (Or.inl (by decide +kernel)) ⟨_, rfl, (by decide), ?_⟩
      exact ⟨j20, f22, (by first | decide | omega)⟩
    have q16 : ¬ (2147483649 ≠ 2147483648) := q16
    exfalso; omega
  have q12 : ¬ (a1 < 2147483648) := q12
  refine x_iload (np := 6) (x := 0) (by decide +kernel) rfl la1 ?_
  refine x_iload (np := 7) (x := 2) (by decide +kernel) rfl (by first | decide | omega) ?_
  refine x_icmp (k := 4) (tg := 14) (np := 10) (by decide +kernel) (by decide) la1 (by first | decide | omega) (fun q25 => ?_) (fun q26 => ?_)
  · have q25 : v9 < a1 := q25
    refine x_const (np := 15) (x := 9223372039002259456) (a := 2147483648) (by decide +kernel) (by decide) (by decide) ?_
    refine x_retI (np := 16) (x := 0) (by decide +kernel) (by decide) (Or.inr ⟨by decide +kernel, by first | decide | omega, by first | decide | omega⟩) ⟨_, rfl, (by decide), ?_⟩
    refine x_ifz (k := 1) (tg := 20) (np := 16) (by decide +kernel) (by decide) (by decide) (fun q27 => ?_) (fun q28 => ?_)
    · have q27 : 2147483648 ≠ 2147483648 := q27
      exfalso; omega
    have q28 : ¬ (2147483648 ≠ 2147483648) := q28
    refine x_const (np := 17) (x := 9223372043297226753) (a := 2147483649) (by decide +kernel) (by decide) (by decide) ?_
    refine x_goto (np := 20) (x := 21) (by decide +kernel) ?_
    refine x_retI (np := 22) (x := 0) (by decide +kernel) (by decide) (Or.inr ⟨by decide +kernel, by first | decide | omega, by first | decide | omega⟩) ⟨_, rfl, (by decide), ?_⟩
    refine x_retI (np := 7) (x := 0) (by decide +kernel) (by decide) (Or.inr ⟨by decide +kernel, by first | decide | omega, by first | decide | omega⟩) ⟨_, rfl, (by decide), ?_⟩
    refine x_ifz (k := 1) (tg := 21) (np := 14) (by decide +kernel) (by decide) (by decide) (fun q29 => ?_) (fun q30 => ?_)
    · have q29 : 2147483649 ≠ 2147483648 := q29
      refine x_const (np := 22) (x := 9223372043297226753) (a := 2147483649) (by decide +kernel) (by decide) (by decide) ?_
      refine x_goto (np := 25) (x := 26) (by decide +kernel) ?_
      refine x_const (np := 27) (x := 9223372043297226753) (a := 2147483649) (by decide +kernel) (by decide) (by decide) ?_
      refine x_nI (t := 6) (mj := 152) (n := 3) (rc := 12) (ml := 3) (nr := 0) (np := 30) (as := [x_r 75, iv_c 2147483649, iv_c 2147483649]) (rest := []) (lo1 := [x_r 75, iv_c 2147483649, iv_c 2147483649]) (by decide +kernel) (by decide) (by decide +kernel) (x_rb_of (by decide +kernel)) rfl rfl (x_wr (by decide) (x_wi (by decide) (x_wi (by decide) x_wn))) x_wn (by decide) rfl ?_
      refine x_iload (np := 1) (x := 1) (by decide +kernel) rfl (by decide) ?_
      refine x_ifz (k := 0) (tg := 9) (np := 4) (by decide +kernel) (by decide) (by decide) (fun q31 => ?_) (fun q32 => ?_)
      · have q31 : 2147483649 = 2147483648 := q31
        exfalso; omega
      have q32 : ¬ (2147483649 = 2147483648) := q32
      refine x_aload (np := 5) (x := 0) (by decide +kernel) rfl (x_nc_le (by decide)) ?_
      refine x_iload (np := 6) (x := 2) (by decide +kernel) rfl (by decide) ?_
      refine x_putI (np := 9) (x := 704) (f := 0) (by decide +kernel) (by decide +kernel) (by decide) (Or.inl (by decide)) ?_
      have j34 := jU (e := 0) (v := 2147483649) 0 j2 rg_75_0_0_1 (by first | decide | omega) (by first | decide | omega) (by first | decide | omega)
      have f36 := jF (e := 0) (v := 2147483649) 0 f4 rg_75_0_0_1 (by first | decide | omega) (by first | decide | omega) (by decide)
      generalize e35 : x_up h1 75 0 2147483649 = h33 at j34 f36 ⊢
      refine x_iload (np := 10) (x := 1) (by decide +kernel) rfl (by decide) ?_
      refine x_retI (np := 11) (x := 0) (by decide +kernel) (by decide) (Or.inr ⟨by decide +kernel, by first | decide | omega, by first | decide | omega⟩) ⟨_, rfl, (by decide), ?_⟩
      refine x_ifz (k := 0) (tg := 35) (np := 33) (by decide +kernel) (by decide) (by decide) (fun q37 => ?_) (fun q38 => ?_)
      · have q37 : 2147483649 = 2147483648 := q37
        exfalso; omega
      have q38 : ¬ (2147483649 = 2147483648) := q38
      refine x_const (np := 34) (x := 9223372039002259456) (a := 2147483648) (by decide +kernel) (by decide) (by decide) ?_
      refine x_retI (np := 35) (x := 0) (by decide +kernel) (by decide) (Or.inl (by decide +kernel)) ⟨_, rfl, (by decide), ?_⟩
      exact ⟨j34, f36, (by first | decide | omega)⟩
    have q30 : ¬ (2147483649 ≠ 2147483648) := q30
    exfalso; omega
  have q26 : ¬ (v9 < a1) := q26
  refine x_const (np := 11) (x := 9223372043297226753) (a := 2147483649) (by decide +kernel) (by decide) (by decide) ?_
  refine x_goto (np := 14) (x := 15) (by decide +kernel) ?_
  refine x_retI (np := 16) (x := 0) (by decide +kernel) (by decide) (Or.inr ⟨by decide +kernel, by first | decide | omega, by first | decide | omega⟩) ⟨_, rfl, (by decide), ?_⟩
  refine x_ifz (k := 1) (tg := 20) (np := 16) (by decide +kernel) (by decide) (by decide) (fun q39 => ?_) (fun q40 => ?_)
  · have q39 : 2147483649 ≠ 2147483648 := q39
    refine x_const (np := 21) (x := 9223372039002259456) (a := 2147483648) (by decide +kernel) (by decide) (by decide) ?_
    refine x_retI (np := 22) (x := 0) (by decide +kernel) (by decide) (Or.inr ⟨by decide +kernel, by first | decide | omega, by first | decide | omega⟩) ⟨_, rfl, (by decide), ?_⟩
    refine x_retI (np := 7) (x := 0) (by decide +kernel) (by decide) (Or.inr ⟨by decide +kernel, by first | decide | omega, by first | decide | omega⟩) ⟨_, rfl, (by decide), ?_⟩
    refine x_ifz (k := 1) (tg := 21) (np := 14) (by decide +kernel) (by decide) (by decide) (fun q41 => ?_) (fun q42 => ?_)
    · have q41 : 2147483648 ≠ 2147483648 := q41
      exfalso; omega
    have q42 : ¬ (2147483648 ≠ 2147483648) := q42
    refine x_iload (np := 15) (x := 2) (by decide +kernel) rfl la2 ?_
    refine x_nI (t := 0) (mj := 160) (n := 1) (rc := 0) (ml := 1) (nr := 1) (np := 18) (as := [iv_c a2]) (rest := [x_r 75]) (lo1 := [iv_c a2]) (by decide +kernel) (by decide) (by decide +kernel) (Or.inl rfl) rfl rfl (x_wi la2 x_wn) (x_wr (by decide) x_wn) (by decide) rfl ?_
    refine x_iload (np := 1) (x := 0) (by decide +kernel) rfl la2 ?_
    refine x_const (np := 2) (x := 9223372039002259456) (a := 2147483648) (by decide +kernel) (by decide) (by decide) ?_
    refine x_const (np := 4) (x := 9223372086246899723) (a := 2147483659) (by decide +kernel) (by decide) (by decide) ?_
    refine x_nI (t := 0) (mj := 153) (n := 3) (rc := 0) (ml := 3) (nr := 0) (np := 7) (as := [iv_c a2, iv_c 2147483648, iv_c 2147483659]) (rest := []) (lo1 := [iv_c a2, iv_c 2147483648, iv_c 2147483659]) (by decide +kernel) (by decide) (by decide +kernel) (Or.inl rfl) rfl rfl (x_wi la2 (x_wi (by decide) (x_wi (by decide) x_wn))) x_wn (by decide) rfl ?_
    refine x_iload (np := 1) (x := 0) (by decide +kernel) rfl la2 ?_
    refine x_iload (np := 2) (x := 1) (by decide +kernel) rfl (by decide) ?_
    refine x_icmp (k := 2) (tg := 14) (np := 5) (by decide +kernel) (by decide) la2 (by decide) (fun q43 => ?_) (fun q44 => ?_)
    · have q43 : a2 < 2147483648 := q43
      refine x_const (np := 15) (x := 9223372039002259456) (a := 2147483648) (by decide +kernel) (by decide) (by decide) ?_
      refine x_retI (np := 16) (x := 0) (by decide +kernel) (by decide) (Or.inr ⟨by decide +kernel, by first | decide | omega, by first | decide | omega⟩) ⟨_, rfl, (by decide), ?_⟩
      refine x_ifz (k := 1) (tg := 14) (np := 10) (by decide +kernel) (by decide) (by decide) (fun q45 => ?_) (fun q46 => ?_)
      · have q45 : 2147483648 ≠ 2147483648 := q45
        exfalso; omega
      have q46 : ¬ (2147483648 ≠ 2147483648) := q46
      refine x_const (np := 11) (x := 9223372043297226753) (a := 2147483649) (by decide +kernel) (by decide) (by decide) ?_
      refine x_goto (np := 14) (x := 15) (by decide +kernel) ?_
      refine x_retI (np := 16) (x := 0) (by decide +kernel) (by decide) (Or.inr ⟨by decide +kernel, by first | decide | omega, by first | decide | omega⟩) ⟨_, rfl, (by decide), ?_⟩
      refine x_ifz (k := 0) (tg := 25) (np := 21) (by decide +kernel) (by decide) (by decide) (fun q47 => ?_) (fun q48 => ?_)
      · have q47 : 2147483649 = 2147483648 := q47
        exfalso; omega
      have q48 : ¬ (2147483649 = 2147483648) := q48
      refine x_const (np := 22) (x := 9223372043297226753) (a := 2147483649) (by decide +kernel) (by decide) (by decide) ?_
      refine x_goto (np := 25) (x := 26) (by decide +kernel) ?_
      refine x_const (np := 27) (x := 9223372043297226753) (a := 2147483649) (by decide +kernel) (by decide) (by decide) ?_
      refine x_nI (t := 6) (mj := 152) (n := 3) (rc := 12) (ml := 3) (nr := 0) (np := 30) (as := [x_r 75, iv_c 2147483649, iv_c 2147483649]) (rest := []) (lo1 := [x_r 75, iv_c 2147483649, iv_c 2147483649]) (by decide +kernel) (by decide) (by decide +kernel) (x_rb_of (by decide +kernel)) rfl rfl (x_wr (by decide) (x_wi (by decide) (x_wi (by decide) x_wn))) x_wn (by decide) rfl ?_
      refine x_iload (np := 1) (x := 1) (by decide +kernel) rfl (by decide) ?_
      refine x_ifz (k := 0) (tg := 9) (np := 4) (by decide +kernel) (by decide) (by decide) (fun q49 => ?_) (fun q50 => ?_)
      · have q49 : 2147483649 = 2147483648 := q49
        exfalso; omega
      have q50 : ¬ (2147483649 = 2147483648) := q50
      refine x_aload (np := 5) (x := 0) (by decide +kernel) rfl (x_nc_le (by decide)) ?_
      refine x_iload (np := 6) (x := 2) (by decide +kernel) rfl (by decide) ?_
      refine x_putI (np := 9) (x := 704) (f := 0) (by decide +kernel) (by decide +kernel) (by decide) (Or.inl (by decide)) ?_
      have j52 := jU (e := 0) (v := 2147483649) 0 j2 rg_75_0_0_1 (by first | decide | omega) (by first | decide | omega) (by first | decide | omega)
      have f54 := jF (e := 0) (v := 2147483649) 0 f4 rg_75_0_0_1 (by first | decide | omega) (by first | decide | omega) (by decide)
      generalize e53 : x_up h1 75 0 2147483649 = h51 at j52 f54 ⊢
      refine x_iload (np := 10) (x := 1) (by decide +kernel) rfl (by decide) ?_
      refine x_retI (np := 11) (x := 0) (by decide +kernel) (by decide) (Or.inr ⟨by decide +kernel, by first | decide | omega, by first | decide | omega⟩) ⟨_, rfl, (by decide), ?_⟩
      refine x_ifz (k := 0) (tg := 35) (np := 33) (by decide +kernel) (by decide) (by decide) (fun q55 => ?_) (fun q56 => ?_)
      · have q55 : 2147483649 = 2147483648 := q55
        exfalso; omega
      have q56 : ¬ (2147483649 = 2147483648) := q56
      refine x_const (np := 34) (x := 9223372039002259456) (a := 2147483648) (by decide +kernel) (by decide) (by decide) ?_
      refine x_retI (np := 35) (x := 0) (by decide +kernel) (by decide) (Or.inl (by decide +kernel)) ⟨_, rfl, (by decide), ?_⟩
      exact ⟨j52, f54, (by first | decide | omega)⟩
    have q44 : ¬ (a2 < 2147483648) := q44
    refine x_iload (np := 6) (x := 0) (by decide +kernel) rfl la2 ?_
    refine x_iload (np := 7) (x := 2) (by decide +kernel) rfl (by decide) ?_
    refine x_icmp (k := 4) (tg := 14) (np := 10) (by decide +kernel) (by decide) la2 (by decide) (fun q57 => ?_) (fun q58 => ?_)
    · have q57 : 2147483659 < a2 := q57
      refine x_const (np := 15) (x := 9223372039002259456) (a := 2147483648) (by decide +kernel) (by decide) (by decide) ?_
      refine x_retI (np := 16) (x := 0) (by decide +kernel) (by decide) (Or.inr ⟨by decide +kernel, by first | decide | omega, by first | decide | omega⟩) ⟨_, rfl, (by decide), ?_⟩
      refine x_ifz (k := 1) (tg := 14) (np := 10) (by decide +kernel) (by decide) (by decide) (fun q59 => ?_) (fun q60 => ?_)
      · have q59 : 2147483648 ≠ 2147483648 := q59
        exfalso; omega
      have q60 : ¬ (2147483648 ≠ 2147483648) := q60
      refine x_const (np := 11) (x := 9223372043297226753) (a := 2147483649) (by decide +kernel) (by decide) (by decide) ?_
      refine x_goto (np := 14) (x := 15) (by decide +kernel) ?_
      refine x_retI (np := 16) (x := 0) (by decide +kernel) (by decide) (Or.inr ⟨by decide +kernel, by first | decide | omega, by first | decide | omega⟩) ⟨_, rfl, (by decide), ?_⟩
      refine x_ifz (k := 0) (tg := 25) (np := 21) (by decide +kernel) (by decide) (by decide) (fun q61 => ?_) (fun q62 => ?_)
      · have q61 : 2147483649 = 2147483648 := q61
        exfalso; omega
      have q62 : ¬ (2147483649 = 2147483648) := q62
      refine x_const (np := 22) (x := 9223372043297226753) (a := 2147483649) (by decide +kernel) (by decide) (by decide) ?_
      refine x_goto (np := 25) (x := 26) (by decide +kernel) ?_
      refine x_const (np := 27) (x := 9223372043297226753) (a := 2147483649) (by decide +kernel) (by decide) (by decide) ?_
      refine x_nI (t := 6) (mj := 152) (n := 3) (rc := 12) (ml := 3) (nr := 0) (np := 30) (as := [x_r 75, iv_c 2147483649, iv_c 2147483649]) (rest := []) (lo1 := [x_r 75, iv_c 2147483649, iv_c 2147483649]) (by decide +kernel) (by decide) (by decide +kernel) (x_rb_of (by decide +kernel)) rfl rfl (x_wr (by decide) (x_wi (by decide) (x_wi (by decide) x_wn))) x_wn (by decide) rfl ?_
      refine x_iload (np := 1) (x := 1) (by decide +kernel) rfl (by decide) ?_
      refine x_ifz (k := 0) (tg := 9) (np := 4) (by decide +kernel) (by decide) (by decide) (fun q63 => ?_) (fun q64 => ?_)
      · have q63 : 2147483649 = 2147483648 := q63
        exfalso; omega
      have q64 : ¬ (2147483649 = 2147483648) := q64
      refine x_aload (np := 5) (x := 0) (by decide +kernel) rfl (x_nc_le (by decide)) ?_
      refine x_iload (np := 6) (x := 2) (by decide +kernel) rfl (by decide) ?_
      refine x_putI (np := 9) (x := 704) (f := 0) (by decide +kernel) (by decide +kernel) (by decide) (Or.inl (by decide)) ?_
      have j66 := jU (e := 0) (v := 2147483649) 0 j2 rg_75_0_0_1 (by first | decide | omega) (by first | decide | omega) (by first | decide | omega)
      have f68 := jF (e := 0) (v := 2147483649) 0 f4 rg_75_0_0_1 (by first | decide | omega) (by first | decide | omega) (by decide)
      generalize e67 : x_up h1 75 0 2147483649 = h65 at j66 f68 ⊢
      refine x_iload (np := 10) (x := 1) (by decide +kernel) rfl (by decide) ?_
      refine x_retI (np := 11) (x := 0) (by decide +kernel) (by decide) (Or.inr ⟨by decide +kernel, by first | decide | omega, by first | decide | omega⟩) ⟨_, rfl, (by decide), ?_⟩
      refine x_ifz (k := 0) (tg := 35) (np := 33) (by decide +kernel) (by decide) (by decide) (fun q69 => ?_) (fun q70 => ?_)
      · have q69 : 2147483649 = 2147483648 := q69
        exfalso; omega
      have q70 : ¬ (2147483649 = 2147483648) := q70
      refine x_const (np := 34) (x := 9223372039002259456) (a := 2147483648) (by decide +kernel) (by decide) (by decide) ?_
      refine x_retI (np := 35) (x := 0) (by decide +kernel) (by decide) (Or.inl (by decide +kernel)) ⟨_, rfl, (by decide), ?_⟩
      exact ⟨j66, f68, (by first | decide | omega)⟩
    have q58 : ¬ (2147483659 < a2) := q58
    refine x_const (np := 11) (x := 9223372043297226753) (a := 2147483649) (by decide +kernel) (by decide) (by decide) ?_
    refine x_goto (np := 14) (x := 15) (by decide +kernel) ?_
    refine x_retI (np := 16) (x := 0) (by decide +kernel) (by decide) (Or.inr ⟨by decide +kernel, by first | decide | omega, by first | decide | omega⟩) ⟨_, rfl, (by decide), ?_⟩
    refine x_ifz (k := 1) (tg := 14) (np := 10) (by decide +kernel) (by decide) (by decide) (fun q71 => ?_) (fun q72 => ?_)
    · have q71 : 2147483649 ≠ 2147483648 := q71
      refine x_const (np := 15) (x := 9223372039002259456) (a := 2147483648) (by decide +kernel) (by decide) (by decide) ?_
      refine x_retI (np := 16) (x := 0) (by decide +kernel) (by decide) (Or.inr ⟨by decide +kernel, by first | decide | omega, by first | decide | omega⟩) ⟨_, rfl, (by decide), ?_⟩
      refine x_ifz (k := 0) (tg := 25) (np := 21) (by decide +kernel) (by decide) (by decide) (fun q73 => ?_) (fun q74 => ?_)
      · have q73 : 2147483648 = 2147483648 := q73
        refine x_const (np := 26) (x := 9223372039002259456) (a := 2147483648) (by decide +kernel) (by decide) (by decide) ?_
        refine x_const (np := 27) (x := 9223372043297226753) (a := 2147483649) (by decide +kernel) (by decide) (by decide) ?_
        refine x_nI (t := 6) (mj := 152) (n := 3) (rc := 12) (ml := 3) (nr := 0) (np := 30) (as := [x_r 75, iv_c 2147483648, iv_c 2147483649]) (rest := []) (lo1 := [x_r 75, iv_c 2147483648, iv_c 2147483649]) (by decide +kernel) (by decide) (by decide +kernel) (x_rb_of (by decide +kernel)) rfl rfl (x_wr (by decide) (x_wi (by decide) (x_wi (by decide) x_wn))) x_wn (by decide) rfl ?_
        refine x_iload (np := 1) (x := 1) (by decide +kernel) rfl (by decide) ?_
        refine x_ifz (k := 0) (tg := 9) (np := 4) (by decide +kernel) (by decide) (by decide) (fun q75 => ?_) (fun q76 => ?_)
        · have q75 : 2147483648 = 2147483648 := q75
          refine x_iload (np := 10) (x := 1) (by decide +kernel) rfl (by decide) ?_
          refine x_retI (np := 11) (x := 0) (by decide +kernel) (by decide) (Or.inr ⟨by decide +kernel, by first | decide | omega, by first | decide | omega⟩) ⟨_, rfl, (by decide), ?_⟩
          refine x_ifz (k := 0) (tg := 35) (np := 33) (by decide +kernel) (by decide) (by decide) (fun q77 => ?_) (fun q78 => ?_)
          · have q77 : 2147483648 = 2147483648 := q77
            refine x_aload (np := 36) (x := 0) (by decide +kernel) rfl (x_nc_le (by decide)) ?_
            have m82 : WT 76 h1 := by rw [← e3]; exact WT.oth hW hJ (by decide)
            refine x_cV (t := 6) (mj := 210) (n := 1) (rc := 12) (ml := 5) (nr := 0) (np := 39) (as := [x_r 75]) (rest := []) (lo1 := [x_r 75, 147573952589676412928, 147573952589676412928, 147573952589676412928, 147573952589676412928]) (by decide +kernel) (by decide) (by decide +kernel) (x_rb_of (by decide +kernel)) rfl rfl (x_wr (by decide) x_wn) x_wn (by decide) rfl (c210_75 j2  m82) (fun h83 q81 => ?_)
            obtain ⟨j84, f85⟩ := q81
            have f88 := Fr.trans f4 f85 (by decide)
            refine x_iload (np := 40) (x := 2) (by decide +kernel) rfl la2 ?_
            refine x_istore (np := 41) (x := 3) (lo' := [x_r 75, iv_c a1, iv_c a2, iv_c a2]) (by decide +kernel) la2 (Nat.le_of_ble_eq_true rfl) rfl ?_
            have p119 : ∀ (n : Nat) (v117 : Nat), 4294967296 - v117 < n → (2147483648 ≤ v117 ∧ v117 ≤ 2147483660) → X sc 241 (d + 5) (xI fun r h' => J h' ∧ Fr 135291600897 h h' ∧ (2147483647 ≤ r ∧ r ≤ 2147483659)) 0 0 41 [x_r 75, iv_c a1, iv_c a2, iv_c v117] [] h83 := by
              intro n
              induction n with
              | zero => intro v117 q120; exact absurd q120 (Nat.not_lt_zero _)
              | succ n i121 =>
                intro v117 q120 b118
                refine x_iload (np := 42) (x := 3) (by decide +kernel) rfl (by first | decide | omega) ?_
                refine x_const (np := 44) (x := 9223372090541867020) (a := 2147483660) (by decide +kernel) (by decide) (by decide) ?_
                refine x_icmp (k := 3) (tg := 65) (np := 47) (by decide +kernel) (by decide) (by first | decide | omega) (by decide) (fun q122 => ?_) (fun q123 => ?_)
                · have q122 : 2147483660 ≤ v117 := q122
                  refine x_const (np := 66) (x := 9223372034707292159) (a := 2147483647) (by decide +kernel) (by decide) (by decide) ?_
                  refine x_retI (np := 67) (x := 0) (by decide +kernel) (by decide) (Or.inl (by decide +kernel)) ⟨_, rfl, (by decide), ?_⟩
                  exact ⟨j84, f88, (by first | decide | omega)⟩
                have q123 : ¬ (2147483660 ≤ v117) := q123
                refine x_aload (np := 48) (x := 0) (by decide +kernel) rfl (x_nc_le (by decide)) ?_
                refine x_iload (np := 49) (x := 1) (by decide +kernel) rfl la1 ?_
                refine x_iload (np := 50) (x := 3) (by decide +kernel) rfl (by first | decide | omega) ?_
                refine x_nI (t := 6) (mj := 211) (n := 3) (rc := 12) (ml := 3) (nr := 0) (np := 53) (as := [x_r 75, iv_c a1, iv_c v117]) (rest := []) (lo1 := [x_r 75, iv_c a1, iv_c v117]) (by decide +kernel) (by decide) (by decide +kernel) (x_rb_of (by decide +kernel)) rfl rfl (x_wr (by decide) (x_wi la1 (x_wi (by first | decide | omega) x_wn))) x_wn (by decide) rfl ?_
                refine x_aload (np := 1) (x := 0) (by decide +kernel) rfl (x_nc_le (by decide)) ?_
                have q124 : h83 75 20 = 87 := by have z := jB (e := 20) 0 j84 rg_75_20_0_1 (by decide) (by decide); omega
                refine x_getR (np := 4) (x := 724) (f := 20) (q := 87) (by decide +kernel) (by decide) (by decide +kernel) q124 ?_
                refine x_const (np := 6) (x := 9223372090541867020) (a := 2147483660) (by decide +kernel) (by decide) (by decide) ?_
                refine x_iload (np := 7) (x := 1) (by decide +kernel) rfl la1 ?_
                obtain ⟨u125, q126⟩ : ∃ z, a1 = 2147483648 + z := ⟨a1 - 2147483648, by first | decide | omega⟩
                refine x_imul (np := 8) (x := 0) (i := 12) (j := u125) (v := (2147483648 + 12 * u125)) (by decide +kernel) (by first | decide | omega) (by first | decide | omega) (by first | decide | omega) (by first | decide | omega) (by decide) la1 ?_
                refine x_iload (np := 9) (x := 2) (by decide +kernel) rfl (by first | decide | omega) ?_
                refine x_iadd (np := 10) (x := 0) (v := (12 * u125 + v117)) (by decide +kernel) (by first | decide | omega) (by first | decide | omega) (by first | decide | omega) (by first | decide | omega) ?_
                obtain ⟨u128, q129⟩ : ∃ z, v117 = 2147483648 + z := ⟨v117 - 2147483648, by first | decide | omega⟩
                have b130 := jB (e := (12 * u125 + u128)) (12 * u125 + u128) j84 rg_87_0_1_72 (by first | decide | omega) (by first | decide | omega)
                refine x_aldC (np := 11) (x := 0) (n := 72) (i := (12 * u125 + u128)) (q := ((h83 87 (12 * u125 + u128)))) (by decide +kernel) (by decide +kernel) (by first | decide | omega) (by first | decide | omega) (by decide) rfl (fun l131 => ?_)
                refine x_retI (np := 12) (x := 0) (by decide +kernel) l131 (Or.inl (by decide +kernel)) ⟨_, rfl, l131, ?_⟩
                refine x_iload (np := 54) (x := 1) (by decide +kernel) rfl la1 ?_
                refine x_icmp (k := 1) (tg := 59) (np := 57) (by decide +kernel) (by decide) l131 la1 (fun q132 => ?_) (fun q133 => ?_)
                · have q132 : ((h83 87 (12 * u125 + u128))) ≠ a1 := q132
                  refine x_iinc (np := 62) (i := 3) (j := 2147483649) (v := (1 + v117)) (lo' := [x_r 75, iv_c a1, iv_c a2, iv_c (1 + v117)]) (by decide +kernel) (by decide) (by decide) rfl (by first | decide | omega) (by first | decide | omega) (by first | decide | omega) rfl ?_
                  refine x_goto (np := 65) (x := 41) (by decide +kernel) ?_
                  exact i121 (1 + v117) (by first | decide | omega) (by first | decide | omega)
                have q133 : ¬ (((h83 87 (12 * u125 + u128))) ≠ a1) := q133
                refine x_iload (np := 58) (x := 3) (by decide +kernel) rfl (by first | decide | omega) ?_
                refine x_retI (np := 59) (x := 0) (by decide +kernel) (by first | decide | omega) (Or.inl (by decide +kernel)) ⟨_, rfl, (by first | decide | omega), ?_⟩
                exact ⟨j84, f88, (by first | decide | omega)⟩
            exact p119 _ a2 (Nat.lt_succ_self _) (by first | decide | omega)
          have q78 : ¬ (2147483648 = 2147483648) := q78
          exfalso; omega
        have q76 : ¬ (2147483648 = 2147483648) := q76
        exfalso; omega
      have q74 : ¬ (2147483648 = 2147483648) := q74
      exfalso; omega
    have q72 : ¬ (2147483649 ≠ 2147483648) := q72
    exfalso; omega
  have q40 : ¬ (2147483649 ≠ 2147483648) := q40
  exfalso; omega
set_option maxHeartbeats 0 in
/-- LentNamesModel.wish(II)I -/
theorem c261_75 {sc : Nat × Nat} {d a1 a2 : Nat} {h : xh} (hJ : J h) (ba1 : 0 ≤ a1 ∧ a1 ≤ 4294967295) (ba2 : 0 ≤ a2 ∧ a2 ≤ 4294967295) (hW : WT 76 h) : X sc 261 (d + 3) (xI fun r h' => J h' ∧ Fr 144115188075986944 h h' ∧ (0 ≤ r ∧ r ≤ 4294967295) ∧ WT 76 h' ∧ Vf h h' a1 a2 r) 0 0 0 [x_r 75, iv_c a1, iv_c a2, 147573952589676412928] [] h := by
  have la1 : a1 < 4294967296 := by first | decide | omega
  have la2 : a2 < 4294967296 := by first | decide | omega
  have hF := Fr.refl 144115188075986944 h
  refine x_aload (np := 1) (x := 0) (by decide +kernel) rfl (x_nc_le (by decide)) ?_
  refine x_const (np := 2) (x := 9223372039002259456) (a := 2147483648) (by decide +kernel) (by decide) (by decide) ?_
  refine x_putI (np := 5) (x := 704) (f := 0) (by decide +kernel) (by decide +kernel) (by decide) (Or.inl (by decide)) ?_
  have j2 := jU (e := 0) (v := 2147483648) 0 hJ rg_75_0_0_1 (by first | decide | omega) (by first | decide | omega) (by first | decide | omega)
  have f4 := jF (e := 0) (v := 2147483648) 0 hF rg_75_0_0_1 (by first | decide | omega) (by first | decide | omega) (by decide)
  generalize e3 : x_up h 75 0 2147483648 = h1 at j2 f4 ⊢
  refine x_aload (np := 6) (x := 0) (by decide +kernel) rfl (x_nc_le (by decide)) ?_
  refine x_aload (np := 7) (x := 0) (by decide +kernel) rfl (x_nc_le (by decide)) ?_
  refine x_iload (np := 8) (x := 1) (by decide +kernel) rfl la1 ?_
  refine x_nI (t := 6) (mj := 225) (n := 2) (rc := 12) (ml := 2) (nr := 1) (np := 11) (as := [x_r 75, iv_c a1]) (rest := [x_r 75]) (lo1 := [x_r 75, iv_c a1]) (by decide +kernel) (by decide) (by decide +kernel) (x_rb_of (by decide +kernel)) rfl rfl (x_wr (by decide) (x_wi la1 x_wn)) (x_wr (by decide) x_wn) (by decide) rfl ?_
  refine x_aload (np := 1) (x := 0) (by decide +kernel) rfl (x_nc_le (by decide)) ?_
  refine x_iload (np := 2) (x := 1) (by decide +kernel) rfl la1 ?_
  refine x_const (np := 3) (x := 9223372051887161347) (a := 2147483651) (by decide +kernel) (by decide) (by decide) ?_
  refine x_nI (t := 6) (mj := 158) (n := 3) (rc := 12) (ml := 3) (nr := 0) (np := 6) (as := [x_r 75, iv_c a1, iv_c 2147483651]) (rest := []) (lo1 := [x_r 75, iv_c a1, iv_c 2147483651]) (by decide +kernel) (by decide) (by decide +kernel) (x_rb_of (by decide +kernel)) rfl rfl (x_wr (by decide) (x_wi la1 (x_wi (by decide) x_wn))) x_wn (by decide) rfl ?_
  refine x_iload (np := 1) (x := 1) (by decide +kernel) rfl la1 ?_
  refine x_const (np := 2) (x := 9223372039002259456) (a := 2147483648) (by decide +kernel) (by decide) (by decide) ?_
  refine x_aload (np := 3) (x := 0) (by decide +kernel) rfl (x_nc_le (by decide)) ?_
  have q5 : h1 75 1 = 76 := by have z := jB (e := 1) 0 j2 rg_75_1_0_1 (by decide) (by decide); omega
  refine x_getR (np := 6) (x := 705) (f := 1) (q := 76) (by decide +kernel) (by decide) (by decide +kernel) q5 ?_
  refine x_iload (np := 7) (x := 2) (by decide +kernel) rfl (by decide) ?_
  have q6 : h1 76 3 = h 76 3 := by rw [← e3]; exact x_up_k (by decide)
  have b7 := jB (e := 3) 0 hJ rg_76_3_0_1 (by first | decide | omega) (by first | decide | omega)
  refine x_aldC (np := 8) (x := 0) (n := 1952) (i := 3) (q := (h 76 3)) (by decide +kernel) (by decide +kernel) (by first | decide | omega) (by first | decide | omega) (by decide) q6 (fun l8 => ?_)
  refine x_const (np := 9) (x := 9223372043297226753) (a := 2147483649) (by decide +kernel) (by decide) (by decide) ?_
  obtain ⟨v9, q10⟩ : ∃ z, z + 2147483649 = (h 76 3) + 2147483648 := ⟨(h 76 3) + 2147483648 - 2147483649, by first | decide | omega⟩
  refine x_isub (np := 10) (x := 0) (v := v9) (by decide +kernel) l8 (by decide) (by first | decide | omega) (by first | decide | omega) ?_
  refine x_nI (t := 0) (mj := 153) (n := 3) (rc := 0) (ml := 3) (nr := 0) (np := 13) (as := [iv_c a1, iv_c 2147483648, iv_c v9]) (rest := []) (lo1 := [iv_c a1, iv_c 2147483648, iv_c v9]) (by decide +kernel) (by decide) (by decide +kernel) (Or.inl rfl) rfl rfl (x_wi la1 (x_wi (by decide) (x_wi (by first | decide | omega) x_wn))) x_wn (by decide) rfl ?_
  refine x_iload (np := 1) (x := 0) (by decide +kernel) rfl la1 ?_
  refine x_iload (np := 2) (x := 1) (by decide +kernel) rfl (by decide) ?_
  refine x_icmp (k := 2) (tg := 14) (np := 5) (by decide +kernel) (by decide) la1 (by decide) (fun q11 => ?_) (fun q12 => ?_)
  · have q11 : a1 < 2147483648 := q11
    refine x_const (np := 15) (x := 9223372039002259456) (a := 2147483648) (by decide +kernel) (by decide) (by decide) ?_
    refine x_retI (np := 16) (x := 0) (by decide +kernel) (by decide) (Or.inr ⟨by decide +kernel, by first | decide | omega, by first | decide | omega⟩) ⟨_, rfl, (by decide), ?_⟩
    refine x_ifz (k := 1) (tg := 20) (np := 16) (by decide +kernel) (by decide) (by decide) (fun q13 => ?_) (fun q14 => ?_)
    · have q13 : 2147483648 ≠ 2147483648 := q13
      exfalso; omega
    have q14 : ¬ (2147483648 ≠ 2147483648) := q14
    refine x_const (np := 17) (x := 9223372043297226753) (a := 2147483649) (by decide +kernel) (by decide) (by decide) ?_
    refine x_goto (np := 20) (x := 21) (by decide +kernel) ?_
    refine x_retI (np := 22) (x := 0) (by decide +kernel) (by decide) (Or.inr ⟨by decide +kernel, by first | decide | omega, by first | decide | omega⟩) ⟨_, rfl, (by decide), ?_⟩
    refine x_retI (np := 7) (x := 0) (by decide +kernel) (by decide) (Or.inr ⟨by decide +kernel, by first | decide | omega, by first | decide | omega⟩) ⟨_, rfl, (by decide), ?_⟩
    refine x_ifz (k := 1) (tg := 27) (np := 14) (by decide +kernel) (by decide) (by decide) (fun q15 => ?_) (fun q16 => ?_)
    · have q15 : 2147483649 ≠ 2147483648 := q15
      refine x_const (np := 28) (x := 9223372043297226753) (a := 2147483649) (by decide +kernel) (by decide) (by decide) ?_
      refine x_goto (np := 31) (x := 32) (by decide +kernel) ?_
      refine x_const (np := 33) (x := 9223372043297226753) (a := 2147483649) (by decide +kernel) (by decide) (by decide) ?_
      refine x_nI (t := 6) (mj := 152) (n := 3) (rc := 12) (ml := 3) (nr := 0) (np := 36) (as := [x_r 75, iv_c 2147483649, iv_c 2147483649]) (rest := []) (lo1 := [x_r 75, iv_c 2147483649, iv_c 2147483649]) (by decide +kernel) (by decide) (by decide +kernel) (x_rb_of (by decide +kernel)) rfl rfl (x_wr (by decide) (x_wi (by decide) (x_wi (by decide) x_wn))) x_wn (by decide) rfl ?_
      refine x_iload (np := 1) (x := 1) (by decide +kernel) rfl (by decide) ?_
      refine x_ifz (k := 0) (tg := 9) (np := 4) (by decide +kernel) (by decide) (by decide) (fun q17 => ?_) (fun q18 => ?_)
      · have q17 : 2147483649 = 2147483648 := q17
        exfalso; omega
      have q18 : ¬ (2147483649 = 2147483648) := q18
      refine x_aload (np := 5) (x := 0) (by decide +kernel) rfl (x_nc_le (by decide)) ?_
      refine x_iload (np := 6) (x := 2) (by decide +kernel) rfl (by decide) ?_
      refine x_putI (np := 9) (x := 704) (f := 0) (by decide +kernel) (by decide +kernel) (by decide) (Or.inl (by decide)) ?_
      have j20 := jU (e := 0) (v := 2147483649) 0 j2 rg_75_0_0_1 (by first | decide | omega) (by first | decide | omega) (by first | decide | omega)
      have f22 := jF (e := 0) (v := 2147483649) 0 f4 rg_75_0_0_1 (by first | decide | omega) (by first | decide | omega) (by decide)
      generalize e21 : x_up h1 75 0 2147483649 = h19 at j20 f22 ⊢
      refine x_iload (np := 10) (x := 1) (by decide +kernel) rfl (by decide) ?_
      refine x_retI (np := 11) (x := 0) (by decide +kernel) (by decide) (Or.inr ⟨by decide +kernel, by first | decide | omega, by first | decide | omega⟩) ⟨_, rfl, (by decide), ?_⟩
      refine x_ifz (k := 0) (tg := 41) (np := 39) (by decide +kernel) (by decide) (by decide) (fun q23 => ?_) (fun q24 => ?_)
      · have q23 : 2147483649 = 2147483648 := q23
        exfalso; omega
      have q24 : ¬ (2147483649 = 2147483648) := q24
      refine x_const (np := 40) (x := 9223372039002259456) (a := 2147483648) (by decide +kernel) (by decide) (by decide) ?_
      have m26 : WT 76 h1 := by rw [← e3]; exact WT.oth hW hJ (by decide)
      have m25 : WT 76 h19 := by rw [← e21]; exact WT.oth m26 j2 (by decide)
      have q27 : h19 75 0 = 2147483649 := by rw [← e21]; exact x_up_at
      have b28 := jB (e := 0) 0 hJ rg_76_0_0_1 (by first | decide | omega) (by first | decide | omega)
      refine x_retI (np := 41) (x := 0) (by decide +kernel) (by decide) (Or.inl (by decide +kernel)) ⟨_, rfl, (by decide), ?_⟩
      exact ⟨j20, f22, (by first | decide | omega), m25, (Or.inr ⟨by first | decide | omega, by first | decide | omega, (fun i => by rw [← e21, x_up_k (by decide)]; rw [← e3, x_up_k (by decide)])⟩)⟩
    have q16 : ¬ (2147483649 ≠ 2147483648) := q16
    exfalso; omega
  have q12 : ¬ (a1 < 2147483648) := q12
  refine x_iload (np := 6) (x := 0) (by decide +kernel) rfl la1 ?_
  refine x_iload (np := 7) (x := 2) (by decide +kernel) rfl (by first | decide | omega) ?_
  refine x_icmp (k := 4) (tg := 14) (np := 10) (by decide +kernel) (by decide) la1 (by first | decide | omega) (fun q29 => ?_) (fun q30 => ?_)
  · have q29 : v9 < a1 := q29
    refine x_const (np := 15) (x := 9223372039002259456) (a := 2147483648) (by decide +kernel) (by decide) (by decide) ?_
    refine x_retI (np := 16) (x := 0) (by decide +kernel) (by decide) (Or.inr ⟨by decide +kernel, by first | decide | omega, by first | decide | omega⟩) ⟨_, rfl, (by decide), ?_⟩
    refine x_ifz (k := 1) (tg := 20) (np := 16) (by decide +kernel) (by decide) (by decide) (fun q31 => ?_) (fun q32 => ?_)
    · have q31 : 2147483648 ≠ 2147483648 := q31
      exfalso; omega
    have q32 : ¬ (2147483648 ≠ 2147483648) := q32
    refine x_const (np := 17) (x := 9223372043297226753) (a := 2147483649) (by decide +kernel) (by decide) (by decide) ?_
    refine x_goto (np := 20) (x := 21) (by decide +kernel) ?_
    refine x_retI (np := 22) (x := 0) (by decide +kernel) (by decide) (Or.inr ⟨by decide +kernel, by first | decide | omega, by first | decide | omega⟩) ⟨_, rfl, (by decide), ?_⟩
    refine x_retI (np := 7) (x := 0) (by decide +kernel) (by decide) (Or.inr ⟨by decide +kernel, by first | decide | omega, by first | decide | omega⟩) ⟨_, rfl, (by decide), ?_⟩
    refine x_ifz (k := 1) (tg := 27) (np := 14) (by decide +kernel) (by decide) (by decide) (fun q33 => ?_) (fun q34 => ?_)
    · have q33 : 2147483649 ≠ 2147483648 := q33
      refine x_const (np := 28) (x := 9223372043297226753) (a := 2147483649) (by decide +kernel) (by decide) (by decide) ?_
      refine x_goto (np := 31) (x := 32) (by decide +kernel) ?_
      refine x_const (np := 33) (x := 9223372043297226753) (a := 2147483649) (by decide +kernel) (by decide) (by decide) ?_
      refine x_nI (t := 6) (mj := 152) (n := 3) (rc := 12) (ml := 3) (nr := 0) (np := 36) (as := [x_r 75, iv_c 2147483649, iv_c 2147483649]) (rest := []) (lo1 := [x_r 75, iv_c 2147483649, iv_c 2147483649]) (by decide +kernel) (by decide) (by decide +kernel) (x_rb_of (by decide +kernel)) rfl rfl (x_wr (by decide) (x_wi (by decide) (x_wi (by decide) x_wn))) x_wn (by decide) rfl ?_
      refine x_iload (np := 1) (x := 1) (by decide +kernel) rfl (by decide) ?_
      refine x_ifz (k := 0) (tg := 9) (np := 4) (by decide +kernel) (by decide) (by decide) (fun q35 => ?_) (fun q36 => ?_)
      · have q35 : 2147483649 = 2147483648 := q35
        exfalso; omega
      have q36 : ¬ (2147483649 = 2147483648) := q36
      refine x_aload (np := 5) (x := 0) (by decide +kernel) rfl (x_nc_le (by decide)) ?_
      refine x_iload (np := 6) (x := 2) (by decide +kernel) rfl (by decide) ?_
      refine x_putI (np := 9) (x := 704) (f := 0) (by decide +kernel) (by decide +kernel) (by decide) (Or.inl (by decide)) ?_
      have j38 := jU (e := 0) (v := 2147483649) 0 j2 rg_75_0_0_1 (by first | decide | omega) (by first | decide | omega) (by first | decide | omega)
      have f40 := jF (e := 0) (v := 2147483649) 0 f4 rg_75_0_0_1 (by first | decide | omega) (by first | decide | omega) (by decide)
      generalize e39 : x_up h1 75 0 2147483649 = h37 at j38 f40 ⊢
      refine x_iload (np := 10) (x := 1) (by decide +kernel) rfl (by decide) ?_
      refine x_retI (np := 11) (x := 0) (by decide +kernel) (by decide) (Or.inr ⟨by decide +kernel, by first | decide | omega, by first | decide | omega⟩) ⟨_, rfl, (by decide), ?_⟩
      refine x_ifz (k := 0) (tg := 41) (np := 39) (by decide +kernel) (by decide) (by decide) (fun q41 => ?_) (fun q42 => ?_)
      · have q41 : 2147483649 = 2147483648 := q41
        exfalso; omega
      have q42 : ¬ (2147483649 = 2147483648) := q42
      refine x_const (np := 40) (x := 9223372039002259456) (a := 2147483648) (by decide +kernel) (by decide) (by decide) ?_
      have m44 : WT 76 h1 := by rw [← e3]; exact WT.oth hW hJ (by decide)
      have m43 : WT 76 h37 := by rw [← e39]; exact WT.oth m44 j2 (by decide)
      have q45 : h37 75 0 = 2147483649 := by rw [← e39]; exact x_up_at
      have b46 := jB (e := 0) 0 hJ rg_76_0_0_1 (by first | decide | omega) (by first | decide | omega)
      refine x_retI (np := 41) (x := 0) (by decide +kernel) (by decide) (Or.inl (by decide +kernel)) ⟨_, rfl, (by decide), ?_⟩
      exact ⟨j38, f40, (by first | decide | omega), m43, (Or.inr ⟨by first | decide | omega, by first | decide | omega, (fun i => by rw [← e39, x_up_k (by decide)]; rw [← e3, x_up_k (by decide)])⟩)⟩
    have q34 : ¬ (2147483649 ≠ 2147483648) := q34
    exfalso; omega
  have q30 : ¬ (v9 < a1) := q30
  refine x_const (np := 11) (x := 9223372043297226753) (a := 2147483649) (by decide +kernel) (by decide) (by decide) ?_
  refine x_goto (np := 14) (x := 15) (by decide +kernel) ?_
  refine x_retI (np := 16) (x := 0) (by decide +kernel) (by decide) (Or.inr ⟨by decide +kernel, by first | decide | omega, by first | decide | omega⟩) ⟨_, rfl, (by decide), ?_⟩
  refine x_ifz (k := 1) (tg := 20) (np := 16) (by decide +kernel) (by decide) (by decide) (fun q47 => ?_) (fun q48 => ?_)
  · have q47 : 2147483649 ≠ 2147483648 := q47
    refine x_const (np := 21) (x := 9223372039002259456) (a := 2147483648) (by decide +kernel) (by decide) (by decide) ?_
    refine x_retI (np := 22) (x := 0) (by decide +kernel) (by decide) (Or.inr ⟨by decide +kernel, by first | decide | omega, by first | decide | omega⟩) ⟨_, rfl, (by decide), ?_⟩
    refine x_retI (np := 7) (x := 0) (by decide +kernel) (by decide) (Or.inr ⟨by decide +kernel, by first | decide | omega, by first | decide | omega⟩) ⟨_, rfl, (by decide), ?_⟩
    refine x_ifz (k := 1) (tg := 27) (np := 14) (by decide +kernel) (by decide) (by decide) (fun q49 => ?_) (fun q50 => ?_)
    · have q49 : 2147483648 ≠ 2147483648 := q49
      exfalso; omega
    have q50 : ¬ (2147483648 ≠ 2147483648) := q50
    refine x_iload (np := 15) (x := 2) (by decide +kernel) rfl la2 ?_
    refine x_const (np := 16) (x := 9223372034707292159) (a := 2147483647) (by decide +kernel) (by decide) (by decide) ?_
    refine x_icmp (k := 0) (tg := 31) (np := 19) (by decide +kernel) (by decide) la2 (by decide) (fun q51 => ?_) (fun q52 => ?_)
    · have q51 : a2 = 2147483647 := q51
      refine x_const (np := 32) (x := 9223372039002259456) (a := 2147483648) (by decide +kernel) (by decide) (by decide) ?_
      refine x_const (np := 33) (x := 9223372043297226753) (a := 2147483649) (by decide +kernel) (by decide) (by decide) ?_
      refine x_nI (t := 6) (mj := 152) (n := 3) (rc := 12) (ml := 3) (nr := 0) (np := 36) (as := [x_r 75, iv_c 2147483648, iv_c 2147483649]) (rest := []) (lo1 := [x_r 75, iv_c 2147483648, iv_c 2147483649]) (by decide +kernel) (by decide) (by decide +kernel) (x_rb_of (by decide +kernel)) rfl rfl (x_wr (by decide) (x_wi (by decide) (x_wi (by decide) x_wn))) x_wn (by decide) rfl ?_
      refine x_iload (np := 1) (x := 1) (by decide +kernel) rfl (by decide) ?_
      refine x_ifz (k := 0) (tg := 9) (np := 4) (by decide +kernel) (by decide) (by decide) (fun q53 => ?_) (fun q54 => ?_)
      · have q53 : 2147483648 = 2147483648 := q53
        refine x_iload (np := 10) (x := 1) (by decide +kernel) rfl (by decide) ?_
        refine x_retI (np := 11) (x := 0) (by decide +kernel) (by decide) (Or.inr ⟨by decide +kernel, by first | decide | omega, by first | decide | omega⟩) ⟨_, rfl, (by decide), ?_⟩
        refine x_ifz (k := 0) (tg := 41) (np := 39) (by decide +kernel) (by decide) (by decide) (fun q55 => ?_) (fun q56 => ?_)
        · have q55 : 2147483648 = 2147483648 := q55
          refine x_aload (np := 42) (x := 0) (by decide +kernel) rfl (x_nc_le (by decide)) ?_
          refine x_iload (np := 43) (x := 1) (by decide +kernel) rfl la1 ?_
          refine x_const (np := 44) (x := 9223372051887161347) (a := 2147483651) (by decide +kernel) (by decide) (by decide) ?_
          refine x_nI (t := 6) (mj := 162) (n := 3) (rc := 12) (ml := 3) (nr := 0) (np := 47) (as := [x_r 75, iv_c a1, iv_c 2147483651]) (rest := []) (lo1 := [x_r 75, iv_c a1, iv_c 2147483651]) (by decide +kernel) (by decide) (by decide +kernel) (x_rb_of (by decide +kernel)) rfl rfl (x_wr (by decide) (x_wi la1 (x_wi (by decide) x_wn))) x_wn (by decide) rfl ?_
          refine x_aload (np := 1) (x := 0) (by decide +kernel) rfl (x_nc_le (by decide)) ?_
          have q57 : h1 75 1 = 76 := by have z := jB (e := 1) 0 j2 rg_75_1_0_1 (by decide) (by decide); omega
          refine x_getR (np := 4) (x := 705) (f := 1) (q := 76) (by decide +kernel) (by decide) (by decide +kernel) q57 ?_
          refine x_const (np := 7) (x := 9223372726197026976) (a := 2147483808) (by decide +kernel) (by decide) (by decide) ?_
          refine x_const (np := 8) (x := 9223372056182128644) (a := 2147483652) (by decide +kernel) (by decide) (by decide) ?_
          refine x_iload (np := 9) (x := 1) (by decide +kernel) rfl la1 ?_
          obtain ⟨u58, q59⟩ : ∃ z, a1 = 2147483648 + z := ⟨a1 - 2147483648, by first | decide | omega⟩
          refine x_imul (np := 10) (x := 0) (i := 4) (j := u58) (v := (2147483648 + 4 * u58)) (by decide +kernel) (by first | decide | omega) (by first | decide | omega) (by first | decide | omega) (by first | decide | omega) (by decide) la1 ?_
          refine x_iadd (np := 11) (x := 0) (v := (2147483808 + 4 * u58)) (by decide +kernel) (by decide) (by first | decide | omega) (by first | decide | omega) (by first | decide | omega) ?_
          refine x_iload (np := 12) (x := 2) (by decide +kernel) rfl (by decide) ?_
          refine x_iadd (np := 13) (x := 0) (v := (2147483811 + 4 * u58)) (by decide +kernel) (by first | decide | omega) (by decide) (by first | decide | omega) (by first | decide | omega) ?_
          have q61 : h1 76 (163 + 4 * u58) = h 76 (163 + 4 * u58) := by rw [← e3]; exact x_up_k (by decide)
          refine x_aldC (np := 14) (x := 0) (n := 1952) (i := (163 + 4 * u58)) (q := ((h 76 (163 + 4 * u58)))) (by decide +kernel) (by decide +kernel) (by first | decide | omega) (by first | decide | omega) (by decide) q61 (fun l62 => ?_)
          refine x_retI (np := 15) (x := 0) (by decide +kernel) l62 (Or.inl (by decide +kernel)) ⟨_, rfl, l62, ?_⟩
          refine x_istore (np := 48) (x := 3) (lo' := [x_r 75, iv_c a1, iv_c a2, iv_c ((h 76 (163 + 4 * u58)))]) (by decide +kernel) l62 (Nat.le_of_ble_eq_true rfl) rfl ?_
          refine x_aload (np := 49) (x := 0) (by decide +kernel) rfl (x_nc_le (by decide)) ?_
          have q63 : h1 75 1 = 76 := by have z := jB (e := 1) 0 j2 rg_75_1_0_1 (by decide) (by decide); omega
          refine x_getR (np := 52) (x := 705) (f := 1) (q := 76) (by decide +kernel) (by decide) (by decide +kernel) q63 ?_
          refine x_const (np := 55) (x := 9223372726197026976) (a := 2147483808) (by decide +kernel) (by decide) (by decide) ?_
          refine x_const (np := 56) (x := 9223372056182128644) (a := 2147483652) (by decide +kernel) (by decide) (by decide) ?_
          refine x_iload (np := 57) (x := 1) (by decide +kernel) rfl la1 ?_
          refine x_imul (np := 58) (x := 0) (i := 4) (j := u58) (v := (2147483648 + 4 * u58)) (by decide +kernel) (by first | decide | omega) (by first | decide | omega) (by first | decide | omega) (by first | decide | omega) (by decide) la1 ?_
          refine x_iadd (np := 59) (x := 0) (v := (2147483808 + 4 * u58)) (by decide +kernel) (by decide) (by first | decide | omega) (by first | decide | omega) (by first | decide | omega) ?_
          refine x_const (np := 60) (x := 9223372051887161347) (a := 2147483651) (by decide +kernel) (by decide) (by decide) ?_
          refine x_iadd (np := 61) (x := 0) (v := (2147483811 + 4 * u58)) (by decide +kernel) (by first | decide | omega) (by decide) (by first | decide | omega) (by first | decide | omega) ?_
          refine x_iload (np := 62) (x := 2) (by decide +kernel) rfl la2 ?_
          refine x_ast (np := 63) (x := 0) (kd := 1) (n := 1952) (i := (163 + 4 * u58)) (by decide +kernel) (Or.inl rfl) (by decide +kernel) (by first | decide | omega) (by first | decide | omega) (by decide) la2 (fun z => absurd z (by decide)) ?_
          have j66 := jU (e := (163 + 4 * u58)) (v := a2) u58 j2 rg_76_163_4_10 (by first | decide | omega) (by first | decide | omega) (by first | decide | omega)
          have f68 := jF (e := (163 + 4 * u58)) (v := a2) u58 f4 rg_76_163_4_10 (by first | decide | omega) (by first | decide | omega) (by decide)
          generalize e67 : x_up h1 76 (163 + 4 * u58) a2 = h65 at j66 f68 ⊢
          refine x_iload (np := 64) (x := 3) (by decide +kernel) rfl l62 ?_
          have m70 : WT 76 h1 := by rw [← e3]; exact WT.oth hW hJ (by decide)
          have m69 : WT 76 h65 := by rw [← e67]; exact WT.up m70 j2 (by first | decide | omega)
          have q71 : h65 75 0 = h1 75 0 := by rw [← e67]; exact x_up_k (by decide)
          have q72 : h1 75 0 = 2147483648 := by rw [← e3]; exact x_up_at
          have b73 := jB (e := 0) 0 hJ rg_76_0_0_1 (by first | decide | omega) (by first | decide | omega)
          refine x_retI (np := 65) (x := 0) (by decide +kernel) l62 (Or.inl (by decide +kernel)) ⟨_, rfl, l62, ?_⟩
          exact ⟨j66, f68, (by first | decide | omega), m69, (Or.inl ⟨by first | decide | omega, u58, by first | decide | omega, by first | decide | omega, by first | decide | omega, by first | decide | omega, fun i => by rw [← e67]; exact wm_at (fun i => by rw [← e3, x_up_k (by decide)]) i, by first | decide | omega⟩)⟩
        have q56 : ¬ (2147483648 = 2147483648) := q56
        exfalso; omega
      have q54 : ¬ (2147483648 = 2147483648) := q54
      exfalso; omega
    have q52 : ¬ (a2 = 2147483647) := q52
    refine x_aload (np := 20) (x := 0) (by decide +kernel) rfl (x_nc_le (by decide)) ?_
    refine x_iload (np := 21) (x := 2) (by decide +kernel) rfl la2 ?_
    refine x_nI (t := 6) (mj := 159) (n := 2) (rc := 12) (ml := 2) (nr := 1) (np := 24) (as := [x_r 75, iv_c a2]) (rest := [x_r 75]) (lo1 := [x_r 75, iv_c a2]) (by decide +kernel) (by decide) (by decide +kernel) (x_rb_of (by decide +kernel)) rfl rfl (x_wr (by decide) (x_wi la2 x_wn)) (x_wr (by decide) x_wn) (by decide) rfl ?_
    refine x_aload (np := 1) (x := 0) (by decide +kernel) rfl (x_nc_le (by decide)) ?_
    refine x_iload (np := 2) (x := 1) (by decide +kernel) rfl la2 ?_
    refine x_const (np := 3) (x := 9223372039002259456) (a := 2147483648) (by decide +kernel) (by decide) (by decide) ?_
    refine x_nI (t := 6) (mj := 158) (n := 3) (rc := 12) (ml := 3) (nr := 0) (np := 6) (as := [x_r 75, iv_c a2, iv_c 2147483648]) (rest := []) (lo1 := [x_r 75, iv_c a2, iv_c 2147483648]) (by decide +kernel) (by decide) (by decide +kernel) (x_rb_of (by decide +kernel)) rfl rfl (x_wr (by decide) (x_wi la2 (x_wi (by decide) x_wn))) x_wn (by decide) rfl ?_
    refine x_iload (np := 1) (x := 1) (by decide +kernel) rfl la2 ?_
    refine x_const (np := 2) (x := 9223372039002259456) (a := 2147483648) (by decide +kernel) (by decide) (by decide) ?_
    refine x_aload (np := 3) (x := 0) (by decide +kernel) rfl (x_nc_le (by decide)) ?_
    have q74 : h1 75 1 = 76 := by have z := jB (e := 1) 0 j2 rg_75_1_0_1 (by decide) (by decide); omega
    refine x_getR (np := 6) (x := 705) (f := 1) (q := 76) (by decide +kernel) (by decide) (by decide +kernel) q74 ?_
    refine x_iload (np := 7) (x := 2) (by decide +kernel) rfl (by decide) ?_
    have q75 : h1 76 0 = h 76 0 := by rw [← e3]; exact x_up_k (by decide)
    have b76 := jB (e := 0) 0 hJ rg_76_0_0_1 (by first | decide | omega) (by first | decide | omega)
    refine x_aldC (np := 8) (x := 0) (n := 1952) (i := 0) (q := (h 76 0)) (by decide +kernel) (by decide +kernel) (by first | decide | omega) (by first | decide | omega) (by decide) q75 (fun l77 => ?_)
    refine x_const (np := 9) (x := 9223372043297226753) (a := 2147483649) (by decide +kernel) (by decide) (by decide) ?_
    obtain ⟨v78, q79⟩ : ∃ z, z + 2147483649 = (h 76 0) + 2147483648 := ⟨(h 76 0) + 2147483648 - 2147483649, by first | decide | omega⟩
    refine x_isub (np := 10) (x := 0) (v := v78) (by decide +kernel) l77 (by decide) (by first | decide | omega) (by first | decide | omega) ?_
    refine x_nI (t := 0) (mj := 153) (n := 3) (rc := 0) (ml := 3) (nr := 0) (np := 13) (as := [iv_c a2, iv_c 2147483648, iv_c v78]) (rest := []) (lo1 := [iv_c a2, iv_c 2147483648, iv_c v78]) (by decide +kernel) (by decide) (by decide +kernel) (Or.inl rfl) rfl rfl (x_wi la2 (x_wi (by decide) (x_wi (by first | decide | omega) x_wn))) x_wn (by decide) rfl ?_
    refine x_iload (np := 1) (x := 0) (by decide +kernel) rfl la2 ?_
    refine x_iload (np := 2) (x := 1) (by decide +kernel) rfl (by decide) ?_
    refine x_icmp (k := 2) (tg := 14) (np := 5) (by decide +kernel) (by decide) la2 (by decide) (fun q80 => ?_) (fun q81 => ?_)
    · have q80 : a2 < 2147483648 := q80
      refine x_const (np := 15) (x := 9223372039002259456) (a := 2147483648) (by decide +kernel) (by decide) (by decide) ?_
      refine x_retI (np := 16) (x := 0) (by decide +kernel) (by decide) (Or.inr ⟨by decide +kernel, by first | decide | omega, by first | decide | omega⟩) ⟨_, rfl, (by decide), ?_⟩
      refine x_ifz (k := 1) (tg := 20) (np := 16) (by decide +kernel) (by decide) (by decide) (fun q82 => ?_) (fun q83 => ?_)
      · have q82 : 2147483648 ≠ 2147483648 := q82
        exfalso; omega
      have q83 : ¬ (2147483648 ≠ 2147483648) := q83
      refine x_const (np := 17) (x := 9223372043297226753) (a := 2147483649) (by decide +kernel) (by decide) (by decide) ?_
      refine x_goto (np := 20) (x := 21) (by decide +kernel) ?_
      refine x_retI (np := 22) (x := 0) (by decide +kernel) (by decide) (Or.inr ⟨by decide +kernel, by first | decide | omega, by first | decide | omega⟩) ⟨_, rfl, (by decide), ?_⟩
      refine x_retI (np := 7) (x := 0) (by decide +kernel) (by decide) (Or.inr ⟨by decide +kernel, by first | decide | omega, by first | decide | omega⟩) ⟨_, rfl, (by decide), ?_⟩
      refine x_ifz (k := 0) (tg := 31) (np := 27) (by decide +kernel) (by decide) (by decide) (fun q84 => ?_) (fun q85 => ?_)
      · have q84 : 2147483649 = 2147483648 := q84
        exfalso; omega
      have q85 : ¬ (2147483649 = 2147483648) := q85
      refine x_const (np := 28) (x := 9223372043297226753) (a := 2147483649) (by decide +kernel) (by decide) (by decide) ?_
      refine x_goto (np := 31) (x := 32) (by decide +kernel) ?_
      refine x_const (np := 33) (x := 9223372043297226753) (a := 2147483649) (by decide +kernel) (by decide) (by decide) ?_
      refine x_nI (t := 6) (mj := 152) (n := 3) (rc := 12) (ml := 3) (nr := 0) (np := 36) (as := [x_r 75, iv_c 2147483649, iv_c 2147483649]) (rest := []) (lo1 := [x_r 75, iv_c 2147483649, iv_c 2147483649]) (by decide +kernel) (by decide) (by decide +kernel) (x_rb_of (by decide +kernel)) rfl rfl (x_wr (by decide) (x_wi (by decide) (x_wi (by decide) x_wn))) x_wn (by decide) rfl ?_
      refine x_iload (np := 1) (x := 1) (by decide +kernel) rfl (by decide) ?_
      refine x_ifz (k := 0) (tg := 9) (np := 4) (by decide +kernel) (by decide) (by decide) (fun q86 => ?_) (fun q87 => ?_)
      · have q86 : 2147483649 = 2147483648 := q86
        exfalso; omega
      have q87 : ¬ (2147483649 = 2147483648) := q87
      refine x_aload (np := 5) (x := 0) (by decide +kernel) rfl (x_nc_le (by decide)) ?_
      refine x_iload (np := 6) (x := 2) (by decide +kernel) rfl (by decide) ?_
      refine x_putI (np := 9) (x := 704) (f := 0) (by decide +kernel) (by decide +kernel) (by decide) (Or.inl (by decide)) ?_
      have j89 := jU (e := 0) (v := 2147483649) 0 j2 rg_75_0_0_1 (by first | decide | omega) (by first | decide | omega) (by first | decide | omega)
      have f91 := jF (e := 0) (v := 2147483649) 0 f4 rg_75_0_0_1 (by first | decide | omega) (by first | decide | omega) (by decide)
      generalize e90 : x_up h1 75 0 2147483649 = h88 at j89 f91 ⊢
      refine x_iload (np := 10) (x := 1) (by decide +kernel) rfl (by decide) ?_
      refine x_retI (np := 11) (x := 0) (by decide +kernel) (by decide) (Or.inr ⟨by decide +kernel, by first | decide | omega, by first | decide | omega⟩) ⟨_, rfl, (by decide), ?_⟩
      refine x_ifz (k := 0) (tg := 41) (np := 39) (by decide +kernel) (by decide) (by decide) (fun q92 => ?_) (fun q93 => ?_)
      · have q92 : 2147483649 = 2147483648 := q92
        exfalso; omega
      have q93 : ¬ (2147483649 = 2147483648) := q93
      refine x_const (np := 40) (x := 9223372039002259456) (a := 2147483648) (by decide +kernel) (by decide) (by decide) ?_
      have m95 : WT 76 h1 := by rw [← e3]; exact WT.oth hW hJ (by decide)
      have m94 : WT 76 h88 := by rw [← e90]; exact WT.oth m95 j2 (by decide)
      have q96 : h88 75 0 = 2147483649 := by rw [← e90]; exact x_up_at
      refine x_retI (np := 41) (x := 0) (by decide +kernel) (by decide) (Or.inl (by decide +kernel)) ⟨_, rfl, (by decide), ?_⟩
      exact ⟨j89, f91, (by first | decide | omega), m94, (Or.inr ⟨by first | decide | omega, by first | decide | omega, (fun i => by rw [← e90, x_up_k (by decide)]; rw [← e3, x_up_k (by decide)])⟩)⟩
    have q81 : ¬ (a2 < 2147483648) := q81
    refine x_iload (np := 6) (x := 0) (by decide +kernel) rfl la2 ?_
    refine x_iload (np := 7) (x := 2) (by decide +kernel) rfl (by first | decide | omega) ?_
    refine x_icmp (k := 4) (tg := 14) (np := 10) (by decide +kernel) (by decide) la2 (by first | decide | omega) (fun q97 => ?_) (fun q98 => ?_)
    · have q97 : v78 < a2 := q97
      refine x_const (np := 15) (x := 9223372039002259456) (a := 2147483648) (by decide +kernel) (by decide) (by decide) ?_
      refine x_retI (np := 16) (x := 0) (by decide +kernel) (by decide) (Or.inr ⟨by decide +kernel, by first | decide | omega, by first | decide | omega⟩) ⟨_, rfl, (by decide), ?_⟩
      refine x_ifz (k := 1) (tg := 20) (np := 16) (by decide +kernel) (by decide) (by decide) (fun q99 => ?_) (fun q100 => ?_)
      · have q99 : 2147483648 ≠ 2147483648 := q99
        exfalso; omega
      have q100 : ¬ (2147483648 ≠ 2147483648) := q100
      refine x_const (np := 17) (x := 9223372043297226753) (a := 2147483649) (by decide +kernel) (by decide) (by decide) ?_
      refine x_goto (np := 20) (x := 21) (by decide +kernel) ?_
      refine x_retI (np := 22) (x := 0) (by decide +kernel) (by decide) (Or.inr ⟨by decide +kernel, by first | decide | omega, by first | decide | omega⟩) ⟨_, rfl, (by decide), ?_⟩
      refine x_retI (np := 7) (x := 0) (by decide +kernel) (by decide) (Or.inr ⟨by decide +kernel, by first | decide | omega, by first | decide | omega⟩) ⟨_, rfl, (by decide), ?_⟩
      refine x_ifz (k := 0) (tg := 31) (np := 27) (by decide +kernel) (by decide) (by decide) (fun q101 => ?_) (fun q102 => ?_)
      · have q101 : 2147483649 = 2147483648 := q101
        exfalso; omega
      have q102 : ¬ (2147483649 = 2147483648) := q102
      refine x_const (np := 28) (x := 9223372043297226753) (a := 2147483649) (by decide +kernel) (by decide) (by decide) ?_
      refine x_goto (np := 31) (x := 32) (by decide +kernel) ?_
      refine x_const (np := 33) (x := 9223372043297226753) (a := 2147483649) (by decide +kernel) (by decide) (by decide) ?_
      refine x_nI (t := 6) (mj := 152) (n := 3) (rc := 12) (ml := 3) (nr := 0) (np := 36) (as := [x_r 75, iv_c 2147483649, iv_c 2147483649]) (rest := []) (lo1 := [x_r 75, iv_c 2147483649, iv_c 2147483649]) (by decide +kernel) (by decide) (by decide +kernel) (x_rb_of (by decide +kernel)) rfl rfl (x_wr (by decide) (x_wi (by decide) (x_wi (by decide) x_wn))) x_wn (by decide) rfl ?_
      refine x_iload (np := 1) (x := 1) (by decide +kernel) rfl (by decide) ?_
      refine x_ifz (k := 0) (tg := 9) (np := 4) (by decide +kernel) (by decide) (by decide) (fun q103 => ?_) (fun q104 => ?_)
      · have q103 : 2147483649 = 2147483648 := q103
        exfalso; omega
      have q104 : ¬ (2147483649 = 2147483648) := q104
      refine x_aload (np := 5) (x := 0) (by decide +kernel) rfl (x_nc_le (by decide)) ?_
      refine x_iload (np := 6) (x := 2) (by decide +kernel) rfl (by decide) ?_
      refine x_putI (np := 9) (x := 704) (f := 0) (by decide +kernel) (by decide +kernel) (by decide) (Or.inl (by decide)) ?_
      have j106 := jU (e := 0) (v := 2147483649) 0 j2 rg_75_0_0_1 (by first | decide | omega) (by first | decide | omega) (by first | decide | omega)
      have f108 := jF (e := 0) (v := 2147483649) 0 f4 rg_75_0_0_1 (by first | decide | omega) (by first | decide | omega) (by decide)
      generalize e107 : x_up h1 75 0 2147483649 = h105 at j106 f108 ⊢
      refine x_iload (np := 10) (x := 1) (by decide +kernel) rfl (by decide) ?_
      refine x_retI (np := 11) (x := 0) (by decide +kernel) (by decide) (Or.inr ⟨by decide +kernel, by first | decide | omega, by first | decide | omega⟩) ⟨_, rfl, (by decide), ?_⟩
      refine x_ifz (k := 0) (tg := 41) (np := 39) (by decide +kernel) (by decide) (by decide) (fun q109 => ?_) (fun q110 => ?_)
      · have q109 : 2147483649 = 2147483648 := q109
        exfalso; omega
      have q110 : ¬ (2147483649 = 2147483648) := q110
      refine x_const (np := 40) (x := 9223372039002259456) (a := 2147483648) (by decide +kernel) (by decide) (by decide) ?_
      have m112 : WT 76 h1 := by rw [← e3]; exact WT.oth hW hJ (by decide)
      have m111 : WT 76 h105 := by rw [← e107]; exact WT.oth m112 j2 (by decide)
      have q113 : h105 75 0 = 2147483649 := by rw [← e107]; exact x_up_at
      refine x_retI (np := 41) (x := 0) (by decide +kernel) (by decide) (Or.inl (by decide +kernel)) ⟨_, rfl, (by decide), ?_⟩
      exact ⟨j106, f108, (by first | decide | omega), m111, (Or.inr ⟨by first | decide | omega, by first | decide | omega, (fun i => by rw [← e107, x_up_k (by decide)]; rw [← e3, x_up_k (by decide)])⟩)⟩
    have q98 : ¬ (v78 < a2) := q98
    refine x_const (np := 11) (x := 9223372043297226753) (a := 2147483649) (by decide +kernel) (by decide) (by decide) ?_
    refine x_goto (np := 14) (x := 15) (by decide +kernel) ?_
    refine x_retI (np := 16) (x := 0) (by decide +kernel) (by decide) (Or.inr ⟨by decide +kernel, by first | decide | omega, by first | decide | omega⟩) ⟨_, rfl, (by decide), ?_⟩
    refine x_ifz (k := 1) (tg := 20) (np := 16) (by decide +kernel) (by decide) (by decide) (fun q114 => ?_) (fun q115 => ?_)
    · have q114 : 2147483649 ≠ 2147483648 := q114
      refine x_const (np := 21) (x := 9223372039002259456) (a := 2147483648) (by decide +kernel) (by decide) (by decide) ?_
      refine x_retI (np := 22) (x := 0) (by decide +kernel) (by decide) (Or.inr ⟨by decide +kernel, by first | decide | omega, by first | decide | omega⟩) ⟨_, rfl, (by decide), ?_⟩
      refine x_retI (np := 7) (x := 0) (by decide +kernel) (by decide) (Or.inr ⟨by decide +kernel, by first | decide | omega, by first | decide | omega⟩) ⟨_, rfl, (by decide), ?_⟩
      refine x_ifz (k := 0) (tg := 31) (np := 27) (by decide +kernel) (by decide) (by decide) (fun q116 => ?_) (fun q117 => ?_)
      · have q116 : 2147483648 = 2147483648 := q116
        refine x_const (np := 32) (x := 9223372039002259456) (a := 2147483648) (by decide +kernel) (by decide) (by decide) ?_
        refine x_const (np := 33) (x := 9223372043297226753) (a := 2147483649) (by decide +kernel) (by decide) (by decide) ?_
        refine x_nI (t := 6) (mj := 152) (n := 3) (rc := 12) (ml := 3) (nr := 0) (np := 36) (as := [x_r 75, iv_c 2147483648, iv_c 2147483649]) (rest := []) (lo1 := [x_r 75, iv_c 2147483648, iv_c 2147483649]) (by decide +kernel) (by decide) (by decide +kernel) (x_rb_of (by decide +kernel)) rfl rfl (x_wr (by decide) (x_wi (by decide) (x_wi (by decide) x_wn))) x_wn (by decide) rfl ?_
        refine x_iload (np := 1) (x := 1) (by decide +kernel) rfl (by decide) ?_
        refine x_ifz (k := 0) (tg := 9) (np := 4) (by decide +kernel) (by decide) (by decide) (fun q118 => ?_) (fun q119 => ?_)
        · have q118 : 2147483648 = 2147483648 := q118
          refine x_iload (np := 10) (x := 1) (by decide +kernel) rfl (by decide) ?_
          refine x_retI (np := 11) (x := 0) (by decide +kernel) (by decide) (Or.inr ⟨by decide +kernel, by first | decide | omega, by first | decide | omega⟩) ⟨_, rfl, (by decide), ?_⟩
          refine x_ifz (k := 0) (tg := 41) (np := 39) (by decide +kernel) (by decide) (by decide) (fun q120 => ?_) (fun q121 => ?_)
          · have q120 : 2147483648 = 2147483648 := q120
            refine x_aload (np := 42) (x := 0) (by decide +kernel) rfl (x_nc_le (by decide)) ?_
            refine x_iload (np := 43) (x := 1) (by decide +kernel) rfl la1 ?_
            refine x_const (np := 44) (x := 9223372051887161347) (a := 2147483651) (by decide +kernel) (by decide) (by decide) ?_
            refine x_nI (t := 6) (mj := 162) (n := 3) (rc := 12) (ml := 3) (nr := 0) (np := 47) (as := [x_r 75, iv_c a1, iv_c 2147483651]) (rest := []) (lo1 := [x_r 75, iv_c a1, iv_c 2147483651]) (by decide +kernel) (by decide) (by decide +kernel) (x_rb_of (by decide +kernel)) rfl rfl (x_wr (by decide) (x_wi la1 (x_wi (by decide) x_wn))) x_wn (by decide) rfl ?_
            refine x_aload (np := 1) (x := 0) (by decide +kernel) rfl (x_nc_le (by decide)) ?_
            have q122 : h1 75 1 = 76 := by have z := jB (e := 1) 0 j2 rg_75_1_0_1 (by decide) (by decide); omega
            refine x_getR (np := 4) (x := 705) (f := 1) (q := 76) (by decide +kernel) (by decide) (by decide +kernel) q122 ?_
            refine x_const (np := 7) (x := 9223372726197026976) (a := 2147483808) (by decide +kernel) (by decide) (by decide) ?_
            refine x_const (np := 8) (x := 9223372056182128644) (a := 2147483652) (by decide +kernel) (by decide) (by decide) ?_
            refine x_iload (np := 9) (x := 1) (by decide +kernel) rfl la1 ?_
            obtain ⟨u123, q124⟩ : ∃ z, a1 = 2147483648 + z := ⟨a1 - 2147483648, by first | decide | omega⟩
            refine x_imul (np := 10) (x := 0) (i := 4) (j := u123) (v := (2147483648 + 4 * u123)) (by decide +kernel) (by first | decide | omega) (by first | decide | omega) (by first | decide | omega) (by first | decide | omega) (by decide) la1 ?_
            refine x_iadd (np := 11) (x := 0) (v := (2147483808 + 4 * u123)) (by decide +kernel) (by decide) (by first | decide | omega) (by first | decide | omega) (by first | decide | omega) ?_
            refine x_iload (np := 12) (x := 2) (by decide +kernel) rfl (by decide) ?_
            refine x_iadd (np := 13) (x := 0) (v := (2147483811 + 4 * u123)) (by decide +kernel) (by first | decide | omega) (by decide) (by first | decide | omega) (by first | decide | omega) ?_
            have q126 : h1 76 (163 + 4 * u123) = h 76 (163 + 4 * u123) := by rw [← e3]; exact x_up_k (by decide)
            refine x_aldC (np := 14) (x := 0) (n := 1952) (i := (163 + 4 * u123)) (q := ((h 76 (163 + 4 * u123)))) (by decide +kernel) (by decide +kernel) (by first | decide | omega) (by first | decide | omega) (by decide) q126 (fun l127 => ?_)
            refine x_retI (np := 15) (x := 0) (by decide +kernel) l127 (Or.inl (by decide +kernel)) ⟨_, rfl, l127, ?_⟩
            refine x_istore (np := 48) (x := 3) (lo' := [x_r 75, iv_c a1, iv_c a2, iv_c ((h 76 (163 + 4 * u123)))]) (by decide +kernel) l127 (Nat.le_of_ble_eq_true rfl) rfl ?_
            refine x_aload (np := 49) (x := 0) (by decide +kernel) rfl (x_nc_le (by decide)) ?_
            have q128 : h1 75 1 = 76 := by have z := jB (e := 1) 0 j2 rg_75_1_0_1 (by decide) (by decide); omega
            refine x_getR (np := 52) (x := 705) (f := 1) (q := 76) (by decide +kernel) (by decide) (by decide +kernel) q128 ?_
            refine x_const (np := 55) (x := 9223372726197026976) (a := 2147483808) (by decide +kernel) (by decide) (by decide) ?_
            refine x_const (np := 56) (x := 9223372056182128644) (a := 2147483652) (by decide +kernel) (by decide) (by decide) ?_
            refine x_iload (np := 57) (x := 1) (by decide +kernel) rfl la1 ?_
            refine x_imul (np := 58) (x := 0) (i := 4) (j := u123) (v := (2147483648 + 4 * u123)) (by decide +kernel) (by first | decide | omega) (by first | decide | omega) (by first | decide | omega) (by first | decide | omega) (by decide) la1 ?_
            refine x_iadd (np := 59) (x := 0) (v := (2147483808 + 4 * u123)) (by decide +kernel) (by decide) (by first | decide | omega) (by first | decide | omega) (by first | decide | omega) ?_
            refine x_const (np := 60) (x := 9223372051887161347) (a := 2147483651) (by decide +kernel) (by decide) (by decide) ?_
            refine x_iadd (np := 61) (x := 0) (v := (2147483811 + 4 * u123)) (by decide +kernel) (by first | decide | omega) (by decide) (by first | decide | omega) (by first | decide | omega) ?_
            refine x_iload (np := 62) (x := 2) (by decide +kernel) rfl la2 ?_
            refine x_ast (np := 63) (x := 0) (kd := 1) (n := 1952) (i := (163 + 4 * u123)) (by decide +kernel) (Or.inl rfl) (by decide +kernel) (by first | decide | omega) (by first | decide | omega) (by decide) la2 (fun z => absurd z (by decide)) ?_
            have j131 := jU (e := (163 + 4 * u123)) (v := a2) u123 j2 rg_76_163_4_10 (by first | decide | omega) (by first | decide | omega) (by first | decide | omega)
            have f133 := jF (e := (163 + 4 * u123)) (v := a2) u123 f4 rg_76_163_4_10 (by first | decide | omega) (by first | decide | omega) (by decide)
            generalize e132 : x_up h1 76 (163 + 4 * u123) a2 = h130 at j131 f133 ⊢
            refine x_iload (np := 64) (x := 3) (by decide +kernel) rfl l127 ?_
            have m135 : WT 76 h1 := by rw [← e3]; exact WT.oth hW hJ (by decide)
            have m134 : WT 76 h130 := by rw [← e132]; exact WT.up m135 j2 (by first | decide | omega)
            have q136 : h130 75 0 = h1 75 0 := by rw [← e132]; exact x_up_k (by decide)
            have q137 : h1 75 0 = 2147483648 := by rw [← e3]; exact x_up_at
            refine x_retI (np := 65) (x := 0) (by decide +kernel) l127 (Or.inl (by decide +kernel)) ⟨_, rfl, l127, ?_⟩
            exact ⟨j131, f133, (by first | decide | omega), m134, (Or.inl ⟨by first | decide | omega, u123, by first | decide | omega, by first | decide | omega, by first | decide | omega, by first | decide | omega, fun i => by rw [← e132]; exact wm_at (fun i => by rw [← e3, x_up_k (by decide)]) i, by first | decide | omega⟩)⟩
          have q121 : ¬ (2147483648 = 2147483648) := q121
          exfalso; omega
        have q119 : ¬ (2147483648 = 2147483648) := q119
        exfalso; omega
      have q117 : ¬ (2147483648 = 2147483648) := q117
      exfalso; omega
    have q115 : ¬ (2147483649 ≠ 2147483648) := q115
    exfalso; omega
  have q48 : ¬ (2147483649 ≠ 2147483648) := q48
  exfalso; omega
set_option maxHeartbeats 0 in
/-- LentNamesModel.home()I -/
theorem c262_75 {sc : Nat × Nat} {d  : Nat} {h : xh} (hJ : J h) (hW : WT 76 h) : X sc 262 (d + 5) (xI fun r h' => J h' ∧ Fr 135291600897 h h' ∧ (0 ≤ r ∧ r ≤ 4294967295)) 0 0 0 [x_r 75, 147573952589676412928, 147573952589676412928] [] h := by
  have hF := Fr.refl 135291600897 h
  refine x_aload (np := 1) (x := 0) (by decide +kernel) rfl (x_nc_le (by decide)) ?_
  refine x_const (np := 2) (x := 9223372039002259456) (a := 2147483648) (by decide +kernel) (by decide) (by decide) ?_
  refine x_putI (np := 5) (x := 704) (f := 0) (by decide +kernel) (by decide +kernel) (by decide) (Or.inl (by decide)) ?_
  have j2 := jU (e := 0) (v := 2147483648) 0 hJ rg_75_0_0_1 (by first | decide | omega) (by first | decide | omega) (by first | decide | omega)
  have f4 := jF (e := 0) (v := 2147483648) 0 hF rg_75_0_0_1 (by first | decide | omega) (by first | decide | omega) (by decide)
  generalize e3 : x_up h 75 0 2147483648 = h1 at j2 f4 ⊢
  refine x_aload (np := 6) (x := 0) (by decide +kernel) rfl (x_nc_le (by decide)) ?_
  have m8 : WT 76 h1 := by rw [← e3]; exact WT.oth hW hJ (by decide)
  refine x_cV (t := 6) (mj := 210) (n := 1) (rc := 12) (ml := 5) (nr := 0) (np := 9) (as := [x_r 75]) (rest := []) (lo1 := [x_r 75, 147573952589676412928, 147573952589676412928, 147573952589676412928, 147573952589676412928]) (by decide +kernel) (by decide) (by decide +kernel) (x_rb_of (by decide +kernel)) rfl rfl (x_wr (by decide) x_wn) x_wn (by decide) rfl (c210_75 j2  m8) (fun h9 q7 => ?_)
  obtain ⟨j10, f11⟩ := q7
  have f14 := Fr.trans f4 f11 (by decide)
  refine x_const (np := 10) (x := 9223372039002259456) (a := 2147483648) (by decide +kernel) (by decide) (by decide) ?_
  refine x_istore (np := 11) (x := 1) (lo' := [x_r 75, iv_c 2147483648, 147573952589676412928]) (by decide +kernel) (by decide) (Nat.le_of_ble_eq_true rfl) rfl ?_
  refine x_const (np := 12) (x := 9223372039002259456) (a := 2147483648) (by decide +kernel) (by decide) (by decide) ?_
  refine x_istore (np := 13) (x := 2) (lo' := [x_r 75, iv_c 2147483648, iv_c 2147483648]) (by decide +kernel) (by decide) (Nat.le_of_ble_eq_true rfl) rfl ?_
  have p541 : ∀ (n : Nat) (v537 : Nat) (v539 : Nat), 4294967296 - v539 < n → (0 ≤ v537 ∧ v537 ≤ 4294967295) → (2147483648 ≤ v539 ∧ v539 ≤ 2147483658) → X sc 262 (d + 5) (xI fun r h' => J h' ∧ Fr 135291600897 h h' ∧ (0 ≤ r ∧ r ≤ 4294967295)) 0 0 13 [x_r 75, iv_c v537, iv_c v539] [] h9 := by
    intro n
    induction n with
    | zero => intro v537 v539 q542; exact absurd q542 (Nat.not_lt_zero _)
    | succ n i543 =>
      intro v537 v539 q542 b538 b540
      refine x_iload (np := 14) (x := 2) (by decide +kernel) rfl (by first | decide | omega) ?_
      refine x_aload (np := 15) (x := 0) (by decide +kernel) rfl (x_nc_le (by decide)) ?_
      have q544 : h9 75 1 = 76 := by have z := jB (e := 1) 0 j10 rg_75_1_0_1 (by decide) (by decide); omega
      refine x_getR (np := 18) (x := 705) (f := 1) (q := 76) (by decide +kernel) (by decide) (by decide +kernel) q544 ?_
      refine x_const (np := 19) (x := 9223372051887161347) (a := 2147483651) (by decide +kernel) (by decide) (by decide) ?_
      have q545 : h9 76 3 = h1 76 3 := jK 0 f11 rg_76_3_0_1 (by first | decide | omega) (by first | decide | omega) (by decide)
      have q546 : h1 76 3 = h 76 3 := by rw [← e3]; exact x_up_k (by decide)
      have b547 := jB (e := 3) 0 hJ rg_76_3_0_1 (by first | decide | omega) (by first | decide | omega)
      refine x_aldC (np := 20) (x := 0) (n := 1952) (i := 3) (q := (h 76 3)) (by decide +kernel) (by decide +kernel) (by first | decide | omega) (by first | decide | omega) (by decide) (q545.trans q546) (fun l548 => ?_)
      refine x_icmp (k := 3) (tg := 55) (np := 23) (by decide +kernel) (by decide) (by first | decide | omega) l548 (fun q549 => ?_) (fun q550 => ?_)
      · have q549 : (h 76 3) ≤ v539 := q549
        refine x_iload (np := 56) (x := 1) (by decide +kernel) rfl (by first | decide | omega) ?_
        refine x_retI (np := 57) (x := 0) (by decide +kernel) (by first | decide | omega) (Or.inl (by decide +kernel)) ⟨_, rfl, (by first | decide | omega), ?_⟩
        exact ⟨j10, f14, (by first | decide | omega)⟩
      have q550 : ¬ ((h 76 3) ≤ v539) := q550
      refine x_iload (np := 24) (x := 1) (by decide +kernel) rfl (by first | decide | omega) ?_
      refine x_aload (np := 25) (x := 0) (by decide +kernel) rfl (x_nc_le (by decide)) ?_
      refine x_iload (np := 26) (x := 2) (by decide +kernel) rfl (by first | decide | omega) ?_
      refine x_nI (t := 6) (mj := 252) (n := 2) (rc := 12) (ml := 2) (nr := 1) (np := 29) (as := [x_r 75, iv_c v539]) (rest := [iv_c v537]) (lo1 := [x_r 75, iv_c v539]) (by decide +kernel) (by decide) (by decide +kernel) (x_rb_of (by decide +kernel)) rfl rfl (x_wr (by decide) (x_wi (by first | decide | omega) x_wn)) (x_wi (by first | decide | omega) x_wn) (by decide) rfl ?_
      refine x_aload (np := 1) (x := 0) (by decide +kernel) rfl (x_nc_le (by decide)) ?_
      refine x_iload (np := 2) (x := 1) (by decide +kernel) rfl (by first | decide | omega) ?_
      refine x_const (np := 3) (x := 9223372051887161347) (a := 2147483651) (by decide +kernel) (by decide) (by decide) ?_
      refine x_nI (t := 6) (mj := 162) (n := 3) (rc := 12) (ml := 3) (nr := 0) (np := 6) (as := [x_r 75, iv_c v539, iv_c 2147483651]) (rest := []) (lo1 := [x_r 75, iv_c v539, iv_c 2147483651]) (by decide +kernel) (by decide) (by decide +kernel) (x_rb_of (by decide +kernel)) rfl rfl (x_wr (by decide) (x_wi (by first | decide | omega) (x_wi (by decide) x_wn))) x_wn (by decide) rfl ?_
      refine x_aload (np := 1) (x := 0) (by decide +kernel) rfl (x_nc_le (by decide)) ?_
      have q551 : h9 75 1 = 76 := by have z := jB (e := 1) 0 j10 rg_75_1_0_1 (by decide) (by decide); omega
      refine x_getR (np := 4) (x := 705) (f := 1) (q := 76) (by decide +kernel) (by decide) (by decide +kernel) q551 ?_
      refine x_const (np := 7) (x := 9223372726197026976) (a := 2147483808) (by decide +kernel) (by decide) (by decide) ?_
      refine x_const (np := 8) (x := 9223372056182128644) (a := 2147483652) (by decide +kernel) (by decide) (by decide) ?_
      refine x_iload (np := 9) (x := 1) (by decide +kernel) rfl (by first | decide | omega) ?_
      obtain ⟨u552, q553⟩ : ∃ z, v539 = 2147483648 + z := ⟨v539 - 2147483648, by first | decide | omega⟩
      refine x_imul (np := 10) (x := 0) (i := 4) (j := u552) (v := (2147483648 + 4 * u552)) (by decide +kernel) (by first | decide | omega) (by first | decide | omega) (by first | decide | omega) (by first | decide | omega) (by decide) (by first | decide | omega) ?_
      refine x_iadd (np := 11) (x := 0) (v := (2147483808 + 4 * u552)) (by decide +kernel) (by decide) (by first | decide | omega) (by first | decide | omega) (by first | decide | omega) ?_
      refine x_iload (np := 12) (x := 2) (by decide +kernel) rfl (by decide) ?_
      refine x_iadd (np := 13) (x := 0) (v := (2147483811 + 4 * u552)) (by decide +kernel) (by first | decide | omega) (by decide) (by first | decide | omega) (by first | decide | omega) ?_
      have q555 : h9 76 (163 + 4 * u552) = h1 76 (163 + 4 * u552) := jK u552 f11 rg_76_163_4_10 (by first | decide | omega) (by first | decide | omega) (by decide)
      have q556 : h1 76 (163 + 4 * u552) = h 76 (163 + 4 * u552) := by rw [← e3]; exact x_up_k (by decide)
      refine x_aldC (np := 14) (x := 0) (n := 1952) (i := (163 + 4 * u552)) (q := ((h 76 (163 + 4 * u552)))) (by decide +kernel) (by decide +kernel) (by first | decide | omega) (by first | decide | omega) (by decide) (q555.trans q556) (fun l557 => ?_)
      refine x_retI (np := 15) (x := 0) (by decide +kernel) l557 (Or.inl (by decide +kernel)) ⟨_, rfl, l557, ?_⟩
      refine x_ifz (k := 2) (tg := 13) (np := 9) (by decide +kernel) (by decide) l557 (fun q558 => ?_) (fun q559 => ?_)
      · have q558 : ((h 76 (163 + 4 * u552))) < 2147483648 := q558
        refine x_const (np := 14) (x := 9223372039002259456) (a := 2147483648) (by decide +kernel) (by decide) (by decide) ?_
        refine x_retI (np := 15) (x := 0) (by decide +kernel) (by decide) (Or.inr ⟨by decide +kernel, by first | decide | omega, by first | decide | omega⟩) ⟨_, rfl, (by decide), ?_⟩
        refine x_ifz (k := 0) (tg := 46) (np := 32) (by decide +kernel) (by decide) (by decide) (fun q560 => ?_) (fun q561 => ?_)
        · have q560 : 2147483648 = 2147483648 := q560
          refine x_const (np := 47) (x := 9223372039002259456) (a := 2147483648) (by decide +kernel) (by decide) (by decide) ?_
          refine x_any (np := 48) (k9 := 1) (by decide +kernel) (by decide) (by first | decide | omega) (by decide) (fun v562 l563 => ?_)
          refine x_istore (np := 49) (x := 1) (lo' := [x_r 75, iv_c v562, iv_c v539]) (by decide +kernel) l563 (Nat.le_of_ble_eq_true rfl) rfl ?_
          refine x_iinc (np := 52) (i := 2) (j := 2147483649) (v := (1 + v539)) (lo' := [x_r 75, iv_c v562, iv_c (1 + v539)]) (by decide +kernel) (by decide) (by decide) rfl (by first | decide | omega) (by first | decide | omega) (by first | decide | omega) rfl ?_
          refine x_goto (np := 55) (x := 13) (by decide +kernel) ?_
          exact i543 v562 (1 + v539) (by first | decide | omega) (by first | decide | omega) (by first | decide | omega)
        have q561 : ¬ (2147483648 = 2147483648) := q561
        exfalso; omega
      have q559 : ¬ (((h 76 (163 + 4 * u552))) < 2147483648) := q559
      refine x_const (np := 10) (x := 9223372043297226753) (a := 2147483649) (by decide +kernel) (by decide) (by decide) ?_
      refine x_goto (np := 13) (x := 14) (by decide +kernel) ?_
      refine x_retI (np := 15) (x := 0) (by decide +kernel) (by decide) (Or.inr ⟨by decide +kernel, by first | decide | omega, by first | decide | omega⟩) ⟨_, rfl, (by decide), ?_⟩
      refine x_ifz (k := 0) (tg := 46) (np := 32) (by decide +kernel) (by decide) (by decide) (fun q564 => ?_) (fun q565 => ?_)
      · have q564 : 2147483649 = 2147483648 := q564
        exfalso; omega
      have q565 : ¬ (2147483649 = 2147483648) := q565
      refine x_aload (np := 33) (x := 0) (by decide +kernel) rfl (x_nc_le (by decide)) ?_
      refine x_iload (np := 34) (x := 2) (by decide +kernel) rfl (by first | decide | omega) ?_
      refine x_nI (t := 6) (mj := 253) (n := 2) (rc := 12) (ml := 2) (nr := 1) (np := 37) (as := [x_r 75, iv_c v539]) (rest := [iv_c v537]) (lo1 := [x_r 75, iv_c v539]) (by decide +kernel) (by decide) (by decide +kernel) (x_rb_of (by decide +kernel)) rfl rfl (x_wr (by decide) (x_wi (by first | decide | omega) x_wn)) (x_wi (by first | decide | omega) x_wn) (by decide) rfl ?_
      refine x_aload (np := 1) (x := 0) (by decide +kernel) rfl (x_nc_le (by decide)) ?_
      refine x_aload (np := 2) (x := 0) (by decide +kernel) rfl (x_nc_le (by decide)) ?_
      refine x_iload (np := 3) (x := 1) (by decide +kernel) rfl (by first | decide | omega) ?_
      refine x_const (np := 4) (x := 9223372039002259456) (a := 2147483648) (by decide +kernel) (by decide) (by decide) ?_
      refine x_nI (t := 6) (mj := 162) (n := 3) (rc := 12) (ml := 3) (nr := 1) (np := 7) (as := [x_r 75, iv_c v539, iv_c 2147483648]) (rest := [x_r 75]) (lo1 := [x_r 75, iv_c v539, iv_c 2147483648]) (by decide +kernel) (by decide) (by decide +kernel) (x_rb_of (by decide +kernel)) rfl rfl (x_wr (by decide) (x_wi (by first | decide | omega) (x_wi (by decide) x_wn))) (x_wr (by decide) x_wn) (by decide) rfl ?_
      refine x_aload (np := 1) (x := 0) (by decide +kernel) rfl (x_nc_le (by decide)) ?_
      have q566 : h9 75 1 = 76 := by have z := jB (e := 1) 0 j10 rg_75_1_0_1 (by decide) (by decide); omega
      refine x_getR (np := 4) (x := 705) (f := 1) (q := 76) (by decide +kernel) (by decide) (by decide +kernel) q566 ?_
      refine x_const (np := 7) (x := 9223372726197026976) (a := 2147483808) (by decide +kernel) (by decide) (by decide) ?_
      refine x_const (np := 8) (x := 9223372056182128644) (a := 2147483652) (by decide +kernel) (by decide) (by decide) ?_
      refine x_iload (np := 9) (x := 1) (by decide +kernel) rfl (by first | decide | omega) ?_
      refine x_imul (np := 10) (x := 0) (i := 4) (j := u552) (v := (2147483648 + 4 * u552)) (by decide +kernel) (by first | decide | omega) (by first | decide | omega) (by first | decide | omega) (by first | decide | omega) (by decide) (by first | decide | omega) ?_
      refine x_iadd (np := 11) (x := 0) (v := (2147483808 + 4 * u552)) (by decide +kernel) (by decide) (by first | decide | omega) (by first | decide | omega) (by first | decide | omega) ?_
      refine x_iload (np := 12) (x := 2) (by decide +kernel) rfl (by decide) ?_
      refine x_iadd (np := 13) (x := 0) (v := (2147483808 + 4 * u552)) (by decide +kernel) (by first | decide | omega) (by decide) (by first | decide | omega) (by first | decide | omega) ?_
      have q568 : h9 76 (160 + 4 * u552) = h1 76 (160 + 4 * u552) := jK u552 f11 rg_76_160_4_10 (by first | decide | omega) (by first | decide | omega) (by decide)
      have q569 : h1 76 (160 + 4 * u552) = h 76 (160 + 4 * u552) := by rw [← e3]; exact x_up_k (by decide)
      have b570 := jB (e := (160 + 4 * u552)) u552 hJ rg_76_160_4_10 (by first | decide | omega) (by first | decide | omega)
      refine x_aldC (np := 14) (x := 0) (n := 1952) (i := (160 + 4 * u552)) (q := ((h 76 (160 + 4 * u552)))) (by decide +kernel) (by decide +kernel) (by first | decide | omega) (by first | decide | omega) (by decide) (q568.trans q569) (fun l571 => ?_)
      refine x_retI (np := 15) (x := 0) (by decide +kernel) l571 (Or.inl (by decide +kernel)) ⟨_, rfl, l571, ?_⟩
      refine x_aload (np := 8) (x := 0) (by decide +kernel) rfl (x_nc_le (by decide)) ?_
      refine x_iload (np := 9) (x := 1) (by decide +kernel) rfl (by first | decide | omega) ?_
      refine x_const (np := 10) (x := 9223372047592194050) (a := 2147483650) (by decide +kernel) (by decide) (by decide) ?_
      refine x_nI (t := 6) (mj := 162) (n := 3) (rc := 12) (ml := 3) (nr := 2) (np := 13) (as := [x_r 75, iv_c v539, iv_c 2147483650]) (rest := [iv_c ((h 76 (160 + 4 * u552))), x_r 75]) (lo1 := [x_r 75, iv_c v539, iv_c 2147483650]) (by decide +kernel) (by decide) (by decide +kernel) (x_rb_of (by decide +kernel)) rfl rfl (x_wr (by decide) (x_wi (by first | decide | omega) (x_wi (by decide) x_wn))) (x_wi l571 (x_wr (by decide) x_wn)) (by decide) rfl ?_
      refine x_aload (np := 1) (x := 0) (by decide +kernel) rfl (x_nc_le (by decide)) ?_
      have q572 : h9 75 1 = 76 := by have z := jB (e := 1) 0 j10 rg_75_1_0_1 (by decide) (by decide); omega
      refine x_getR (np := 4) (x := 705) (f := 1) (q := 76) (by decide +kernel) (by decide) (by decide +kernel) q572 ?_
      refine x_const (np := 7) (x := 9223372726197026976) (a := 2147483808) (by decide +kernel) (by decide) (by decide) ?_
      refine x_const (np := 8) (x := 9223372056182128644) (a := 2147483652) (by decide +kernel) (by decide) (by decide) ?_
      refine x_iload (np := 9) (x := 1) (by decide +kernel) rfl (by first | decide | omega) ?_
      refine x_imul (np := 10) (x := 0) (i := 4) (j := u552) (v := (2147483648 + 4 * u552)) (by decide +kernel) (by first | decide | omega) (by first | decide | omega) (by first | decide | omega) (by first | decide | omega) (by decide) (by first | decide | omega) ?_
      refine x_iadd (np := 11) (x := 0) (v := (2147483808 + 4 * u552)) (by decide +kernel) (by decide) (by first | decide | omega) (by first | decide | omega) (by first | decide | omega) ?_
      refine x_iload (np := 12) (x := 2) (by decide +kernel) rfl (by decide) ?_
      refine x_iadd (np := 13) (x := 0) (v := (2147483810 + 4 * u552)) (by decide +kernel) (by first | decide | omega) (by decide) (by first | decide | omega) (by first | decide | omega) ?_
      have q574 : h9 76 (162 + 4 * u552) = h1 76 (162 + 4 * u552) := jK u552 f11 rg_76_162_4_10 (by first | decide | omega) (by first | decide | omega) (by decide)
      have q575 : h1 76 (162 + 4 * u552) = h 76 (162 + 4 * u552) := by rw [← e3]; exact x_up_k (by decide)
      have b576 := jB (e := (162 + 4 * u552)) u552 hJ rg_76_162_4_10 (by first | decide | omega) (by first | decide | omega)
      refine x_aldC (np := 14) (x := 0) (n := 1952) (i := (162 + 4 * u552)) (q := ((h 76 (162 + 4 * u552)))) (by decide +kernel) (by decide +kernel) (by first | decide | omega) (by first | decide | omega) (by decide) (q574.trans q575) (fun l577 => ?_)
      refine x_retI (np := 15) (x := 0) (by decide +kernel) l577 (Or.inl (by decide +kernel)) ⟨_, rfl, l577, ?_⟩
      refine x_cP (t := 6) (mj := 217) (n := 3) (rc := 12) (ml := 3) (nr := 0) (np := 16) (as := [x_r 75, iv_c ((h 76 (160 + 4 * u552))), iv_c ((h 76 (162 + 4 * u552)))]) (rest := []) (lo1 := [x_r 75, iv_c ((h 76 (160 + 4 * u552))), iv_c ((h 76 (162 + 4 * u552)))]) (by decide +kernel) (by decide) (by decide +kernel) (x_rb_of (by decide +kernel)) rfl rfl (x_wr (by decide) (x_wi l571 (x_wi l577 x_wn))) x_wn (by decide) rfl (c217_75 j10  (by first | decide | omega) (by first | decide | omega)) (fun v578 l579 q580 => ?_)
      refine x_aload (np := 17) (x := 0) (by decide +kernel) rfl (x_nc_le (by decide)) ?_
      refine x_iload (np := 18) (x := 1) (by decide +kernel) rfl (by first | decide | omega) ?_
      refine x_const (np := 19) (x := 9223372051887161347) (a := 2147483651) (by decide +kernel) (by decide) (by decide) ?_
      refine x_nI (t := 6) (mj := 162) (n := 3) (rc := 12) (ml := 3) (nr := 1) (np := 22) (as := [x_r 75, iv_c v539, iv_c 2147483651]) (rest := [iv_c v578]) (lo1 := [x_r 75, iv_c v539, iv_c 2147483651]) (by decide +kernel) (by decide) (by decide +kernel) (x_rb_of (by decide +kernel)) rfl rfl (x_wr (by decide) (x_wi (by first | decide | omega) (x_wi (by decide) x_wn))) (x_wi l579 x_wn) (by decide) rfl ?_
      refine x_aload (np := 1) (x := 0) (by decide +kernel) rfl (x_nc_le (by decide)) ?_
      have q581 : h9 75 1 = 76 := by have z := jB (e := 1) 0 j10 rg_75_1_0_1 (by decide) (by decide); omega
      refine x_getR (np := 4) (x := 705) (f := 1) (q := 76) (by decide +kernel) (by decide) (by decide +kernel) q581 ?_
      refine x_const (np := 7) (x := 9223372726197026976) (a := 2147483808) (by decide +kernel) (by decide) (by decide) ?_
      refine x_const (np := 8) (x := 9223372056182128644) (a := 2147483652) (by decide +kernel) (by decide) (by decide) ?_
      refine x_iload (np := 9) (x := 1) (by decide +kernel) rfl (by first | decide | omega) ?_
      refine x_imul (np := 10) (x := 0) (i := 4) (j := u552) (v := (2147483648 + 4 * u552)) (by decide +kernel) (by first | decide | omega) (by first | decide | omega) (by first | decide | omega) (by first | decide | omega) (by decide) (by first | decide | omega) ?_
      refine x_iadd (np := 11) (x := 0) (v := (2147483808 + 4 * u552)) (by decide +kernel) (by decide) (by first | decide | omega) (by first | decide | omega) (by first | decide | omega) ?_
      refine x_iload (np := 12) (x := 2) (by decide +kernel) rfl (by decide) ?_
      refine x_iadd (np := 13) (x := 0) (v := (2147483811 + 4 * u552)) (by decide +kernel) (by first | decide | omega) (by decide) (by first | decide | omega) (by first | decide | omega) ?_
      have q583 : h9 76 (163 + 4 * u552) = h1 76 (163 + 4 * u552) := jK u552 f11 rg_76_163_4_10 (by first | decide | omega) (by first | decide | omega) (by decide)
      have q584 : h1 76 (163 + 4 * u552) = h 76 (163 + 4 * u552) := by rw [← e3]; exact x_up_k (by decide)
      refine x_aldC (np := 14) (x := 0) (n := 1952) (i := (163 + 4 * u552)) (q := ((h 76 (163 + 4 * u552)))) (by decide +kernel) (by decide +kernel) (by first | decide | omega) (by first | decide | omega) (by decide) (q583.trans q584) (fun l585 => ?_)
      refine x_retI (np := 15) (x := 0) (by decide +kernel) l557 (Or.inl (by decide +kernel)) ⟨_, rfl, l557, ?_⟩
      refine x_icmp (k := 1) (tg := 29) (np := 25) (by decide +kernel) (by decide) l579 l557 (fun q586 => ?_) (fun q587 => ?_)
      · have q586 : v578 ≠ ((h 76 (163 + 4 * u552))) := q586
        refine x_const (np := 30) (x := 9223372039002259456) (a := 2147483648) (by decide +kernel) (by decide) (by decide) ?_
        refine x_retI (np := 31) (x := 0) (by decide +kernel) (by decide) (Or.inr ⟨by decide +kernel, by first | decide | omega, by first | decide | omega⟩) ⟨_, rfl, (by decide), ?_⟩
        refine x_ifz (k := 0) (tg := 46) (np := 40) (by decide +kernel) (by decide) (by decide) (fun q588 => ?_) (fun q589 => ?_)
        · have q588 : 2147483648 = 2147483648 := q588
          refine x_const (np := 47) (x := 9223372039002259456) (a := 2147483648) (by decide +kernel) (by decide) (by decide) ?_
          refine x_any (np := 48) (k9 := 1) (by decide +kernel) (by decide) (by first | decide | omega) (by decide) (fun v590 l591 => ?_)
          refine x_istore (np := 49) (x := 1) (lo' := [x_r 75, iv_c v590, iv_c v539]) (by decide +kernel) l591 (Nat.le_of_ble_eq_true rfl) rfl ?_
          refine x_iinc (np := 52) (i := 2) (j := 2147483649) (v := (1 + v539)) (lo' := [x_r 75, iv_c v590, iv_c (1 + v539)]) (by decide +kernel) (by decide) (by decide) rfl (by first | decide | omega) (by first | decide | omega) (by first | decide | omega) rfl ?_
          refine x_goto (np := 55) (x := 13) (by decide +kernel) ?_
          exact i543 v590 (1 + v539) (by first | decide | omega) (by first | decide | omega) (by first | decide | omega)
        have q589 : ¬ (2147483648 = 2147483648) := q589
        exfalso; omega
      have q587 : ¬ (v578 ≠ ((h 76 (163 + 4 * u552)))) := q587
      refine x_const (np := 26) (x := 9223372043297226753) (a := 2147483649) (by decide +kernel) (by decide) (by decide) ?_
      refine x_goto (np := 29) (x := 30) (by decide +kernel) ?_
      refine x_retI (np := 31) (x := 0) (by decide +kernel) (by decide) (Or.inr ⟨by decide +kernel, by first | decide | omega, by first | decide | omega⟩) ⟨_, rfl, (by decide), ?_⟩
      refine x_ifz (k := 0) (tg := 46) (np := 40) (by decide +kernel) (by decide) (by decide) (fun q592 => ?_) (fun q593 => ?_)
      · have q592 : 2147483649 = 2147483648 := q592
        exfalso; omega
      have q593 : ¬ (2147483649 = 2147483648) := q593
      refine x_const (np := 41) (x := 9223372043297226753) (a := 2147483649) (by decide +kernel) (by decide) (by decide) ?_
      refine x_iload (np := 42) (x := 2) (by decide +kernel) rfl (by first | decide | omega) ?_
      refine x_any (np := 43) (k9 := 3) (by decide +kernel) (by decide) (by decide) (by first | decide | omega) (fun v594 l595 => ?_)
      refine x_goto (np := 46) (x := 47) (by decide +kernel) ?_
      refine x_any (np := 48) (k9 := 1) (by decide +kernel) (by decide) (by first | decide | omega) l595 (fun v596 l597 => ?_)
      refine x_istore (np := 49) (x := 1) (lo' := [x_r 75, iv_c v596, iv_c v539]) (by decide +kernel) l597 (Nat.le_of_ble_eq_true rfl) rfl ?_
      refine x_iinc (np := 52) (i := 2) (j := 2147483649) (v := (1 + v539)) (lo' := [x_r 75, iv_c v596, iv_c (1 + v539)]) (by decide +kernel) (by decide) (by decide) rfl (by first | decide | omega) (by first | decide | omega) (by first | decide | omega) rfl ?_
      refine x_goto (np := 55) (x := 13) (by decide +kernel) ?_
      exact i543 v596 (1 + v539) (by first | decide | omega) (by first | decide | omega) (by first | decide | omega)
  exact p541 _ 2147483648 2147483648 (Nat.lt_succ_self _) (by first | decide | omega) (by first | decide | omega)
set_option maxHeartbeats 0 in
/-- LentNamesModel.tooLong(I)I -/
theorem c251_75 {sc : Nat × Nat} {d a1 : Nat} {h : xh} (hJ : J h) (ba1 : 2147483648 ≤ a1 ∧ a1 ≤ 2147483653) : X sc 251 (d + 3) (xI fun r h' => h' = h ∧ (2147483647 ≤ r ∧ r ≤ 2147483659)) 0 0 0 [x_r 75, iv_c a1, 147573952589676412928, 147573952589676412928] [] h := by
  have la1 : a1 < 4294967296 := by first | decide | omega
  refine x_const (np := 1) (x := 9223372039002259456) (a := 2147483648) (by decide +kernel) (by decide) (by decide) ?_
  refine x_istore (np := 2) (x := 2) (lo' := [x_r 75, iv_c a1, iv_c 2147483648, 147573952589676412928]) (by decide +kernel) (by decide) (Nat.le_of_ble_eq_true rfl) rfl ?_
  refine x_const (np := 3) (x := 9223372039002259456) (a := 2147483648) (by decide +kernel) (by decide) (by decide) ?_
  refine x_istore (np := 4) (x := 3) (lo' := [x_r 75, iv_c a1, iv_c 2147483648, iv_c 2147483648]) (by decide +kernel) (by decide) (Nat.le_of_ble_eq_true rfl) rfl ?_
  have p214 : ∀ (n : Nat) (v210 : Nat) (v212 : Nat), 4294967296 - v212 < n → (2147483648 ≤ v210 ∧ v210 ≤ 2147483660) → (2147483648 ≤ v212 ∧ v212 ≤ 2147483660) → X sc 251 (d + 3) (xI fun r h' => h' = h ∧ (2147483647 ≤ r ∧ r ≤ 2147483659)) 0 0 4 [x_r 75, iv_c a1, iv_c v210, iv_c v212] [] h := by
    intro n
    induction n with
    | zero => intro v210 v212 q215; exact absurd q215 (Nat.not_lt_zero _)
    | succ n i216 =>
      intro v210 v212 q215 b211 b213
      refine x_iload (np := 5) (x := 3) (by decide +kernel) rfl (by first | decide | omega) ?_
      refine x_const (np := 7) (x := 9223372090541867020) (a := 2147483660) (by decide +kernel) (by decide) (by decide) ?_
      refine x_icmp (k := 3) (tg := 43) (np := 10) (by decide +kernel) (by decide) (by first | decide | omega) (by decide) (fun q217 => ?_) (fun q218 => ?_)
      · have q217 : 2147483660 ≤ v212 := q217
        refine x_const (np := 44) (x := 9223372034707292159) (a := 2147483647) (by decide +kernel) (by decide) (by decide) ?_
        refine x_retI (np := 45) (x := 0) (by decide +kernel) (by decide) (Or.inl (by decide +kernel)) ⟨_, rfl, (by decide), ?_⟩
        exact ⟨rfl, (by first | decide | omega)⟩
      have q218 : ¬ (2147483660 ≤ v212) := q218
      refine x_aload (np := 11) (x := 0) (by decide +kernel) rfl (x_nc_le (by decide)) ?_
      refine x_iload (np := 12) (x := 1) (by decide +kernel) rfl la1 ?_
      refine x_iload (np := 13) (x := 3) (by decide +kernel) rfl (by first | decide | omega) ?_
      refine x_cP (t := 6) (mj := 218) (n := 3) (rc := 12) (ml := 5) (nr := 0) (np := 16) (as := [x_r 75, iv_c a1, iv_c v212]) (rest := []) (lo1 := [x_r 75, iv_c a1, iv_c v212, 147573952589676412928, 147573952589676412928]) (by decide +kernel) (by decide) (by decide +kernel) (x_rb_of (by decide +kernel)) rfl rfl (x_wr (by decide) (x_wi la1 (x_wi (by first | decide | omega) x_wn))) x_wn (by decide) rfl (c218_75 hJ  (by first | decide | omega) (by first | decide | omega)) (fun v219 l220 q221 => ?_)
      refine x_ifz (k := 0) (tg := 25) (np := 19) (by decide +kernel) (by decide) l220 (fun q222 => ?_) (fun q223 => ?_)
      · have q222 : v219 = 2147483648 := q222
        refine x_const (np := 26) (x := 9223372039002259456) (a := 2147483648) (by decide +kernel) (by decide) (by decide) ?_
        refine x_istore (np := 27) (x := 2) (lo' := [x_r 75, iv_c a1, iv_c 2147483648, iv_c v212]) (by decide +kernel) (by decide) (Nat.le_of_ble_eq_true rfl) rfl ?_
        refine x_iload (np := 28) (x := 2) (by decide +kernel) rfl (by decide) ?_
        refine x_aload (np := 29) (x := 0) (by decide +kernel) rfl (x_nc_le (by decide)) ?_
        have b224 := jB (e := 31) 0 hJ rg_75_31_0_1 (by first | decide | omega) (by first | decide | omega)
        refine x_getC (np := 32) (x := 735) (f := 31) (q := (h 75 31)) (by decide +kernel) (by decide) (by decide +kernel) rfl (fun l225 => ?_)
        refine x_icmp (k := 5) (tg := 37) (np := 35) (by decide +kernel) (by decide) (by decide) l225 (fun q226 => ?_) (fun q227 => ?_)
        · have q226 : 2147483648 ≤ (h 75 31) := q226
          refine x_iinc (np := 40) (i := 3) (j := 2147483649) (v := (1 + v212)) (lo' := [x_r 75, iv_c a1, iv_c 2147483648, iv_c (1 + v212)]) (by decide +kernel) (by decide) (by decide) rfl (by first | decide | omega) (by first | decide | omega) (by first | decide | omega) rfl ?_
          refine x_goto (np := 43) (x := 4) (by decide +kernel) ?_
          exact i216 2147483648 (1 + v212) (by first | decide | omega) (by first | decide | omega) (by first | decide | omega)
        have q227 : ¬ (2147483648 ≤ (h 75 31)) := q227
        exfalso; omega
      have q223 : ¬ (v219 = 2147483648) := q223
      refine x_iload (np := 20) (x := 2) (by decide +kernel) rfl (by first | decide | omega) ?_
      refine x_const (np := 21) (x := 9223372043297226753) (a := 2147483649) (by decide +kernel) (by decide) (by decide) ?_
      refine x_iadd (np := 22) (x := 0) (v := (1 + v210)) (by decide +kernel) (by first | decide | omega) (by decide) (by first | decide | omega) (by first | decide | omega) ?_
      refine x_goto (np := 25) (x := 26) (by decide +kernel) ?_
      refine x_istore (np := 27) (x := 2) (lo' := [x_r 75, iv_c a1, iv_c (1 + v210), iv_c v212]) (by decide +kernel) (by first | decide | omega) (Nat.le_of_ble_eq_true rfl) rfl ?_
      refine x_iload (np := 28) (x := 2) (by decide +kernel) rfl (by first | decide | omega) ?_
      refine x_aload (np := 29) (x := 0) (by decide +kernel) rfl (x_nc_le (by decide)) ?_
      have b228 := jB (e := 31) 0 hJ rg_75_31_0_1 (by first | decide | omega) (by first | decide | omega)
      refine x_getC (np := 32) (x := 735) (f := 31) (q := (h 75 31)) (by decide +kernel) (by decide) (by decide +kernel) rfl (fun l229 => ?_)
      refine x_icmp (k := 5) (tg := 37) (np := 35) (by decide +kernel) (by decide) (by first | decide | omega) l229 (fun q230 => ?_) (fun q231 => ?_)
      · have q230 : (1 + v210) ≤ (h 75 31) := q230
        refine x_iinc (np := 40) (i := 3) (j := 2147483649) (v := (1 + v212)) (lo' := [x_r 75, iv_c a1, iv_c (1 + v210), iv_c (1 + v212)]) (by decide +kernel) (by decide) (by decide) rfl (by first | decide | omega) (by first | decide | omega) (by first | decide | omega) rfl ?_
        refine x_goto (np := 43) (x := 4) (by decide +kernel) ?_
        exact i216 (1 + v210) (1 + v212) (by first | decide | omega) (by first | decide | omega) (by first | decide | omega)
      have q231 : ¬ ((1 + v210) ≤ (h 75 31)) := q231
      refine x_iload (np := 36) (x := 3) (by decide +kernel) rfl (by first | decide | omega) ?_
      refine x_retI (np := 37) (x := 0) (by decide +kernel) (by first | decide | omega) (Or.inl (by decide +kernel)) ⟨_, rfl, (by first | decide | omega), ?_⟩
      exact ⟨rfl, (by first | decide | omega)⟩
  exact p214 _ 2147483648 2147483648 (Nat.lt_succ_self _) (by first | decide | omega) (by first | decide | omega)
set_option maxHeartbeats 0 in
/-- LentNamesModel.arrives(I)I -/
theorem c254_75 {sc : Nat × Nat} {d a1 : Nat} {h : xh} (hJ : J h) (ba1 : 2147483648 ≤ a1 ∧ a1 ≤ 2147483653) : X sc 254 (d + 4) (xI fun r h' => J h' ∧ Fr 1924145348608 h h' ∧ (2147483648 ≤ r ∧ r ≤ 2147483649)) 0 0 0 [x_r 75, iv_c a1, 147573952589676412928, 147573952589676412928] [] h := by
  have la1 : a1 < 4294967296 := by first | decide | omega
  have hF := Fr.refl 1924145348608 h
  refine x_aload (np := 1) (x := 0) (by decide +kernel) rfl (x_nc_le (by decide)) ?_
  have q1 : h 75 27 = 93 := by have z := jB (e := 27) 0 hJ rg_75_27_0_1 (by decide) (by decide); omega
  refine x_getR (np := 4) (x := 731) (f := 27) (q := 93) (by decide +kernel) (by decide) (by decide +kernel) q1 ?_
  refine x_iload (np := 5) (x := 1) (by decide +kernel) rfl la1 ?_
  refine x_const (np := 6) (x := 9223372034707292159) (a := 2147483647) (by decide +kernel) (by decide) (by decide) ?_
  obtain ⟨u2, q3⟩ : ∃ z, a1 = 2147483648 + z := ⟨a1 - 2147483648, by first | decide | omega⟩
  refine x_ast (np := 7) (x := 0) (kd := 1) (n := 6) (i := u2) (by decide +kernel) (Or.inl rfl) (by decide +kernel) (by first | decide | omega) (by first | decide | omega) (by decide) (by decide) (fun z => absurd z (by decide)) ?_
  have j5 := jU (e := u2) (v := 2147483647) u2 hJ rg_93_0_1_6 (by first | decide | omega) (by first | decide | omega) (by first | decide | omega)
  have f7 := jF (e := u2) (v := 2147483647) u2 hF rg_93_0_1_6 (by first | decide | omega) (by first | decide | omega) (by decide)
  generalize e6 : x_up h 93 u2 2147483647 = h4 at j5 f7 ⊢
  refine x_aload (np := 8) (x := 0) (by decide +kernel) rfl (x_nc_le (by decide)) ?_
  have q8 : h4 75 33 = h 75 33 := by rw [← e6]; exact x_up_k (by decide)
  have b9 := jB (e := 33) 0 hJ rg_75_33_0_1 (by first | decide | omega) (by first | decide | omega)
  refine x_getC (np := 11) (x := 737) (f := 33) (q := (h 75 33)) (by decide +kernel) (by decide) (by decide +kernel) q8 (fun l10 => ?_)
  refine x_ifz (k := 1) (tg := 59) (np := 14) (by decide +kernel) (by decide) l10 (fun q11 => ?_) (fun q12 => ?_)
  · have q11 : (h 75 33) ≠ 2147483648 := q11
    refine x_const (np := 60) (x := 9223372039002259456) (a := 2147483648) (by decide +kernel) (by decide) (by decide) ?_
    refine x_istore (np := 61) (x := 2) (lo' := [x_r 75, iv_c a1, iv_c 2147483648, 147573952589676412928]) (by decide +kernel) (by decide) (Nat.le_of_ble_eq_true rfl) rfl ?_
    have p456 : ∀ (n : Nat) (v454 : Nat), 4294967296 - v454 < n → (2147483648 ≤ v454 ∧ v454 ≤ 2147483658) → X sc 254 (d + 4) (xI fun r h' => J h' ∧ Fr 1924145348608 h h' ∧ (2147483648 ≤ r ∧ r ≤ 2147483649)) 0 0 61 [x_r 75, iv_c a1, iv_c v454, 147573952589676412928] [] h4 := by
      intro n
      induction n with
      | zero => intro v454 q457; exact absurd q457 (Nat.not_lt_zero _)
      | succ n i458 =>
        intro v454 q457 b455
        refine x_iload (np := 62) (x := 2) (by decide +kernel) rfl (by first | decide | omega) ?_
        refine x_aload (np := 63) (x := 0) (by decide +kernel) rfl (x_nc_le (by decide)) ?_
        have q459 : h4 75 1 = 76 := by have z := jB (e := 1) 0 j5 rg_75_1_0_1 (by decide) (by decide); omega
        refine x_getR (np := 66) (x := 705) (f := 1) (q := 76) (by decide +kernel) (by decide) (by decide +kernel) q459 ?_
        refine x_const (np := 67) (x := 9223372051887161347) (a := 2147483651) (by decide +kernel) (by decide) (by decide) ?_
        have q460 : h4 76 3 = h 76 3 := by rw [← e6]; exact x_up_k (by decide)
        have b461 := jB (e := 3) 0 hJ rg_76_3_0_1 (by first | decide | omega) (by first | decide | omega)
        refine x_aldC (np := 68) (x := 0) (n := 1952) (i := 3) (q := (h 76 3)) (by decide +kernel) (by decide +kernel) (by first | decide | omega) (by first | decide | omega) (by decide) q460 (fun l462 => ?_)
        refine x_icmp (k := 3) (tg := 102) (np := 71) (by decide +kernel) (by decide) (by first | decide | omega) l462 (fun q463 => ?_) (fun q464 => ?_)
        · have q463 : (h 76 3) ≤ v454 := q463
          refine x_const (np := 103) (x := 9223372039002259456) (a := 2147483648) (by decide +kernel) (by decide) (by decide) ?_
          refine x_istore (np := 104) (x := 2) (lo' := [x_r 75, iv_c a1, iv_c 2147483648, 147573952589676412928]) (by decide +kernel) (by decide) (Nat.le_of_ble_eq_true rfl) rfl ?_
          have p624 : ∀ (n : Nat) (v621 : Nat) (w623 : Nat), 4294967296 - v621 < n → (2147483648 ≤ v621 ∧ v621 ≤ 2147483654) → X sc 254 (d + 4) (xI fun r h' => J h' ∧ Fr 1924145348608 h h' ∧ (2147483648 ≤ r ∧ r ≤ 2147483649)) 0 0 104 [x_r 75, iv_c a1, iv_c v621, w623] [] h4 := by
            intro n
            induction n with
            | zero => intro v621 w623 q625; exact absurd q625 (Nat.not_lt_zero _)
            | succ n i626 =>
              intro v621 w623 q625 b622
              refine x_iload (np := 105) (x := 2) (by decide +kernel) rfl (by first | decide | omega) ?_
              refine x_aload (np := 106) (x := 0) (by decide +kernel) rfl (x_nc_le (by decide)) ?_
              refine x_nI (t := 6) (mj := 157) (n := 1) (rc := 12) (ml := 1) (nr := 1) (np := 109) (as := [x_r 75]) (rest := [iv_c v621]) (lo1 := [x_r 75]) (by decide +kernel) (by decide) (by decide +kernel) (x_rb_of (by decide +kernel)) rfl rfl (x_wr (by decide) x_wn) (x_wi (by first | decide | omega) x_wn) (by decide) rfl ?_
              refine x_aload (np := 1) (x := 0) (by decide +kernel) rfl (x_nc_le (by decide)) ?_
              have q627 : h4 75 1 = 76 := by have z := jB (e := 1) 0 j5 rg_75_1_0_1 (by decide) (by decide); omega
              refine x_getR (np := 4) (x := 705) (f := 1) (q := 76) (by decide +kernel) (by decide) (by decide +kernel) q627 ?_
              refine x_const (np := 5) (x := 9223372039002259456) (a := 2147483648) (by decide +kernel) (by decide) (by decide) ?_
              have q628 : h4 76 0 = h 76 0 := by rw [← e6]; exact x_up_k (by decide)
              have b629 := jB (e := 0) 0 hJ rg_76_0_0_1 (by first | decide | omega) (by first | decide | omega)
              refine x_aldC (np := 6) (x := 0) (n := 1952) (i := 0) (q := (h 76 0)) (by decide +kernel) (by decide +kernel) (by first | decide | omega) (by first | decide | omega) (by decide) q628 (fun l630 => ?_)
              refine x_retI (np := 7) (x := 0) (by decide +kernel) l630 (Or.inl (by decide +kernel)) ⟨_, rfl, l630, ?_⟩
              refine x_icmp (k := 3) (tg := 150) (np := 112) (by decide +kernel) (by decide) (by first | decide | omega) l630 (fun q631 => ?_) (fun q632 => ?_)
              · have q631 : (h 76 0) ≤ v621 := q631
                refine x_const (np := 151) (x := 9223372043297226753) (a := 2147483649) (by decide +kernel) (by decide) (by decide) ?_
                refine x_retI (np := 152) (x := 0) (by decide +kernel) (by decide) (Or.inl (by decide +kernel)) ⟨_, rfl, (by decide), ?_⟩
                exact ⟨j5, f7, (by first | decide | omega)⟩
              have q632 : ¬ ((h 76 0) ≤ v621) := q632
              refine x_aload (np := 113) (x := 0) (by decide +kernel) rfl (x_nc_le (by decide)) ?_
              refine x_iload (np := 114) (x := 2) (by decide +kernel) rfl (by first | decide | omega) ?_
              refine x_cP (t := 6) (mj := 251) (n := 2) (rc := 12) (ml := 4) (nr := 0) (np := 117) (as := [x_r 75, iv_c v621]) (rest := []) (lo1 := [x_r 75, iv_c v621, 147573952589676412928, 147573952589676412928]) (by decide +kernel) (by decide) (by decide +kernel) (x_rb_of (by decide +kernel)) rfl rfl (x_wr (by decide) (x_wi (by first | decide | omega) x_wn)) x_wn (by decide) rfl (c251_75 j5  (by first | decide | omega)) (fun v633 l634 q635 => ?_)
              refine x_istore (np := 118) (x := 3) (lo' := [x_r 75, iv_c a1, iv_c v621, iv_c v633]) (by decide +kernel) l634 (Nat.le_of_ble_eq_true rfl) rfl ?_
              refine x_iload (np := 119) (x := 3) (by decide +kernel) rfl l634 ?_
              refine x_ifz (k := 3) (tg := 125) (np := 122) (by decide +kernel) (by decide) l634 (fun q636 => ?_) (fun q637 => ?_)
              · have q636 : 2147483648 ≤ v633 := q636
                refine x_aload (np := 126) (x := 0) (by decide +kernel) rfl (x_nc_le (by decide)) ?_
                have q638 : h4 75 28 = 94 := by have z := jB (e := 28) 0 j5 rg_75_28_0_1 (by decide) (by decide); omega
                refine x_getR (np := 129) (x := 732) (f := 28) (q := 94) (by decide +kernel) (by decide) (by decide +kernel) q638 ?_
                refine x_iload (np := 130) (x := 1) (by decide +kernel) rfl la1 ?_
                refine x_const (np := 132) (x := 9223372468498989156) (a := 2147483748) (by decide +kernel) (by decide) (by decide) ?_
                refine x_iload (np := 133) (x := 2) (by decide +kernel) rfl (by first | decide | omega) ?_
                refine x_iadd (np := 134) (x := 0) (v := (100 + v621)) (by decide +kernel) (by decide) (by first | decide | omega) (by first | decide | omega) (by first | decide | omega) ?_
                refine x_ast (np := 135) (x := 0) (kd := 1) (n := 6) (i := u2) (by decide +kernel) (Or.inl rfl) (by decide +kernel) (by first | decide | omega) (by first | decide | omega) (by decide) (by first | decide | omega) (fun z => absurd z (by decide)) ?_
                have j640 := jU (e := u2) (v := (100 + v621)) u2 j5 rg_94_0_1_6 (by first | decide | omega) (by first | decide | omega) (by first | decide | omega)
                have f642 := jF (e := u2) (v := (100 + v621)) u2 f7 rg_94_0_1_6 (by first | decide | omega) (by first | decide | omega) (by decide)
                generalize e641 : x_up h4 94 u2 (100 + v621) = h639 at j640 f642 ⊢
                refine x_aload (np := 136) (x := 0) (by decide +kernel) rfl (x_nc_le (by decide)) ?_
                have q643 : h639 75 29 = 95 := by have z := jB (e := 29) 0 j640 rg_75_29_0_1 (by decide) (by decide); omega
                refine x_getR (np := 139) (x := 733) (f := 29) (q := 95) (by decide +kernel) (by decide) (by decide +kernel) q643 ?_
                refine x_iload (np := 140) (x := 1) (by decide +kernel) rfl la1 ?_
                refine x_iload (np := 141) (x := 3) (by decide +kernel) rfl l634 ?_
                refine x_ast (np := 142) (x := 0) (kd := 1) (n := 6) (i := u2) (by decide +kernel) (Or.inl rfl) (by decide +kernel) (by first | decide | omega) (by first | decide | omega) (by decide) l634 (fun z => absurd z (by decide)) ?_
                have j645 := jU (e := u2) (v := v633) u2 j640 rg_95_0_1_6 (by first | decide | omega) (by first | decide | omega) (by first | decide | omega)
                have f647 := jF (e := u2) (v := v633) u2 f642 rg_95_0_1_6 (by first | decide | omega) (by first | decide | omega) (by decide)
                generalize e646 : x_up h639 95 u2 v633 = h644 at j645 f647 ⊢
                refine x_const (np := 143) (x := 9223372039002259456) (a := 2147483648) (by decide +kernel) (by decide) (by decide) ?_
                refine x_retI (np := 144) (x := 0) (by decide +kernel) (by decide) (Or.inl (by decide +kernel)) ⟨_, rfl, (by decide), ?_⟩
                exact ⟨j645, f647, (by first | decide | omega)⟩
              have q637 : ¬ (2147483648 ≤ v633) := q637
              refine x_goto (np := 125) (x := 144) (by decide +kernel) ?_
              refine x_iinc (np := 147) (i := 2) (j := 2147483649) (v := (1 + v621)) (lo' := [x_r 75, iv_c a1, iv_c (1 + v621), iv_c v633]) (by decide +kernel) (by decide) (by decide) rfl (by first | decide | omega) (by first | decide | omega) (by first | decide | omega) rfl ?_
              refine x_goto (np := 150) (x := 104) (by decide +kernel) ?_
              exact i626 (1 + v621) (iv_c v633) (by first | decide | omega) (by first | decide | omega)
          exact p624 _ 2147483648 147573952589676412928 (Nat.lt_succ_self _) (by first | decide | omega)
        have q464 : ¬ ((h 76 3) ≤ v454) := q464
        refine x_aload (np := 72) (x := 0) (by decide +kernel) rfl (x_nc_le (by decide)) ?_
        refine x_iload (np := 73) (x := 2) (by decide +kernel) rfl (by first | decide | omega) ?_
        refine x_nI (t := 6) (mj := 252) (n := 2) (rc := 12) (ml := 2) (nr := 0) (np := 76) (as := [x_r 75, iv_c v454]) (rest := []) (lo1 := [x_r 75, iv_c v454]) (by decide +kernel) (by decide) (by decide +kernel) (x_rb_of (by decide +kernel)) rfl rfl (x_wr (by decide) (x_wi (by first | decide | omega) x_wn)) x_wn (by decide) rfl ?_
        refine x_aload (np := 1) (x := 0) (by decide +kernel) rfl (x_nc_le (by decide)) ?_
        refine x_iload (np := 2) (x := 1) (by decide +kernel) rfl (by first | decide | omega) ?_
        refine x_const (np := 3) (x := 9223372051887161347) (a := 2147483651) (by decide +kernel) (by decide) (by decide) ?_
        refine x_nI (t := 6) (mj := 162) (n := 3) (rc := 12) (ml := 3) (nr := 0) (np := 6) (as := [x_r 75, iv_c v454, iv_c 2147483651]) (rest := []) (lo1 := [x_r 75, iv_c v454, iv_c 2147483651]) (by decide +kernel) (by decide) (by decide +kernel) (x_rb_of (by decide +kernel)) rfl rfl (x_wr (by decide) (x_wi (by first | decide | omega) (x_wi (by decide) x_wn))) x_wn (by decide) rfl ?_
        refine x_aload (np := 1) (x := 0) (by decide +kernel) rfl (x_nc_le (by decide)) ?_
        have q648 : h4 75 1 = 76 := by have z := jB (e := 1) 0 j5 rg_75_1_0_1 (by decide) (by decide); omega
        refine x_getR (np := 4) (x := 705) (f := 1) (q := 76) (by decide +kernel) (by decide) (by decide +kernel) q648 ?_
        refine x_const (np := 7) (x := 9223372726197026976) (a := 2147483808) (by decide +kernel) (by decide) (by decide) ?_
        refine x_const (np := 8) (x := 9223372056182128644) (a := 2147483652) (by decide +kernel) (by decide) (by decide) ?_
        refine x_iload (np := 9) (x := 1) (by decide +kernel) rfl (by first | decide | omega) ?_
        obtain ⟨u649, q650⟩ : ∃ z, v454 = 2147483648 + z := ⟨v454 - 2147483648, by first | decide | omega⟩
        refine x_imul (np := 10) (x := 0) (i := 4) (j := u649) (v := (2147483648 + 4 * u649)) (by decide +kernel) (by first | decide | omega) (by first | decide | omega) (by first | decide | omega) (by first | decide | omega) (by decide) (by first | decide | omega) ?_
        refine x_iadd (np := 11) (x := 0) (v := (2147483808 + 4 * u649)) (by decide +kernel) (by decide) (by first | decide | omega) (by first | decide | omega) (by first | decide | omega) ?_
        refine x_iload (np := 12) (x := 2) (by decide +kernel) rfl (by decide) ?_
        refine x_iadd (np := 13) (x := 0) (v := (2147483811 + 4 * u649)) (by decide +kernel) (by first | decide | omega) (by decide) (by first | decide | omega) (by first | decide | omega) ?_
        have q652 : h4 76 (163 + 4 * u649) = h 76 (163 + 4 * u649) := by rw [← e6]; exact x_up_k (by decide)
        refine x_aldC (np := 14) (x := 0) (n := 1952) (i := (163 + 4 * u649)) (q := ((h 76 (163 + 4 * u649)))) (by decide +kernel) (by decide +kernel) (by first | decide | omega) (by first | decide | omega) (by decide) q652 (fun l653 => ?_)
        refine x_retI (np := 15) (x := 0) (by decide +kernel) l653 (Or.inl (by decide +kernel)) ⟨_, rfl, l653, ?_⟩
        refine x_ifz (k := 2) (tg := 13) (np := 9) (by decide +kernel) (by decide) l653 (fun q654 => ?_) (fun q655 => ?_)
        · have q654 : ((h 76 (163 + 4 * u649))) < 2147483648 := q654
          refine x_const (np := 14) (x := 9223372039002259456) (a := 2147483648) (by decide +kernel) (by decide) (by decide) ?_
          refine x_retI (np := 15) (x := 0) (by decide +kernel) (by decide) (Or.inr ⟨by decide +kernel, by first | decide | omega, by first | decide | omega⟩) ⟨_, rfl, (by decide), ?_⟩
          refine x_ifz (k := 0) (tg := 96) (np := 79) (by decide +kernel) (by decide) (by decide) (fun q656 => ?_) (fun q657 => ?_)
          · have q656 : 2147483648 = 2147483648 := q656
            refine x_iinc (np := 99) (i := 2) (j := 2147483649) (v := (1 + v454)) (lo' := [x_r 75, iv_c a1, iv_c (1 + v454), 147573952589676412928]) (by decide +kernel) (by decide) (by decide) rfl (by first | decide | omega) (by first | decide | omega) (by first | decide | omega) rfl ?_
            refine x_goto (np := 102) (x := 61) (by decide +kernel) ?_
            exact i458 (1 + v454) (by first | decide | omega) (by first | decide | omega)
          have q657 : ¬ (2147483648 = 2147483648) := q657
          exfalso; omega
        have q655 : ¬ (((h 76 (163 + 4 * u649))) < 2147483648) := q655
        refine x_const (np := 10) (x := 9223372043297226753) (a := 2147483649) (by decide +kernel) (by decide) (by decide) ?_
        refine x_goto (np := 13) (x := 14) (by decide +kernel) ?_
        refine x_retI (np := 15) (x := 0) (by decide +kernel) (by decide) (Or.inr ⟨by decide +kernel, by first | decide | omega, by first | decide | omega⟩) ⟨_, rfl, (by decide), ?_⟩
        refine x_ifz (k := 0) (tg := 96) (np := 79) (by decide +kernel) (by decide) (by decide) (fun q658 => ?_) (fun q659 => ?_)
        · have q658 : 2147483649 = 2147483648 := q658
          exfalso; omega
        have q659 : ¬ (2147483649 = 2147483648) := q659
        refine x_aload (np := 80) (x := 0) (by decide +kernel) rfl (x_nc_le (by decide)) ?_
        refine x_iload (np := 81) (x := 2) (by decide +kernel) rfl (by first | decide | omega) ?_
        refine x_nI (t := 6) (mj := 253) (n := 2) (rc := 12) (ml := 2) (nr := 0) (np := 84) (as := [x_r 75, iv_c v454]) (rest := []) (lo1 := [x_r 75, iv_c v454]) (by decide +kernel) (by decide) (by decide +kernel) (x_rb_of (by decide +kernel)) rfl rfl (x_wr (by decide) (x_wi (by first | decide | omega) x_wn)) x_wn (by decide) rfl ?_
        refine x_aload (np := 1) (x := 0) (by decide +kernel) rfl (x_nc_le (by decide)) ?_
        refine x_aload (np := 2) (x := 0) (by decide +kernel) rfl (x_nc_le (by decide)) ?_
        refine x_iload (np := 3) (x := 1) (by decide +kernel) rfl (by first | decide | omega) ?_
        refine x_const (np := 4) (x := 9223372039002259456) (a := 2147483648) (by decide +kernel) (by decide) (by decide) ?_
        refine x_nI (t := 6) (mj := 162) (n := 3) (rc := 12) (ml := 3) (nr := 1) (np := 7) (as := [x_r 75, iv_c v454, iv_c 2147483648]) (rest := [x_r 75]) (lo1 := [x_r 75, iv_c v454, iv_c 2147483648]) (by decide +kernel) (by decide) (by decide +kernel) (x_rb_of (by decide +kernel)) rfl rfl (x_wr (by decide) (x_wi (by first | decide | omega) (x_wi (by decide) x_wn))) (x_wr (by decide) x_wn) (by decide) rfl ?_
        refine x_aload (np := 1) (x := 0) (by decide +kernel) rfl (x_nc_le (by decide)) ?_
        have q660 : h4 75 1 = 76 := by have z := jB (e := 1) 0 j5 rg_75_1_0_1 (by decide) (by decide); omega
        refine x_getR (np := 4) (x := 705) (f := 1) (q := 76) (by decide +kernel) (by decide) (by decide +kernel) q660 ?_
        refine x_const (np := 7) (x := 9223372726197026976) (a := 2147483808) (by decide +kernel) (by decide) (by decide) ?_
        refine x_const (np := 8) (x := 9223372056182128644) (a := 2147483652) (by decide +kernel) (by decide) (by decide) ?_
        refine x_iload (np := 9) (x := 1) (by decide +kernel) rfl (by first | decide | omega) ?_
        refine x_imul (np := 10) (x := 0) (i := 4) (j := u649) (v := (2147483648 + 4 * u649)) (by decide +kernel) (by first | decide | omega) (by first | decide | omega) (by first | decide | omega) (by first | decide | omega) (by decide) (by first | decide | omega) ?_
        refine x_iadd (np := 11) (x := 0) (v := (2147483808 + 4 * u649)) (by decide +kernel) (by decide) (by first | decide | omega) (by first | decide | omega) (by first | decide | omega) ?_
        refine x_iload (np := 12) (x := 2) (by decide +kernel) rfl (by decide) ?_
        refine x_iadd (np := 13) (x := 0) (v := (2147483808 + 4 * u649)) (by decide +kernel) (by first | decide | omega) (by decide) (by first | decide | omega) (by first | decide | omega) ?_
        have q662 : h4 76 (160 + 4 * u649) = h 76 (160 + 4 * u649) := by rw [← e6]; exact x_up_k (by decide)
        have b663 := jB (e := (160 + 4 * u649)) u649 hJ rg_76_160_4_10 (by first | decide | omega) (by first | decide | omega)
        refine x_aldC (np := 14) (x := 0) (n := 1952) (i := (160 + 4 * u649)) (q := ((h 76 (160 + 4 * u649)))) (by decide +kernel) (by decide +kernel) (by first | decide | omega) (by first | decide | omega) (by decide) q662 (fun l664 => ?_)
        refine x_retI (np := 15) (x := 0) (by decide +kernel) l664 (Or.inl (by decide +kernel)) ⟨_, rfl, l664, ?_⟩
        refine x_aload (np := 8) (x := 0) (by decide +kernel) rfl (x_nc_le (by decide)) ?_
        refine x_iload (np := 9) (x := 1) (by decide +kernel) rfl (by first | decide | omega) ?_
        refine x_const (np := 10) (x := 9223372047592194050) (a := 2147483650) (by decide +kernel) (by decide) (by decide) ?_
        refine x_nI (t := 6) (mj := 162) (n := 3) (rc := 12) (ml := 3) (nr := 2) (np := 13) (as := [x_r 75, iv_c v454, iv_c 2147483650]) (rest := [iv_c ((h 76 (160 + 4 * u649))), x_r 75]) (lo1 := [x_r 75, iv_c v454, iv_c 2147483650]) (by decide +kernel) (by decide) (by decide +kernel) (x_rb_of (by decide +kernel)) rfl rfl (x_wr (by decide) (x_wi (by first | decide | omega) (x_wi (by decide) x_wn))) (x_wi l664 (x_wr (by decide) x_wn)) (by decide) rfl ?_
        refine x_aload (np := 1) (x := 0) (by decide +kernel) rfl (x_nc_le (by decide)) ?_
        have q665 : h4 75 1 = 76 := by have z := jB (e := 1) 0 j5 rg_75_1_0_1 (by decide) (by decide); omega
        refine x_getR (np := 4) (x := 705) (f := 1) (q := 76) (by decide +kernel) (by decide) (by decide +kernel) q665 ?_
        refine x_const (np := 7) (x := 9223372726197026976) (a := 2147483808) (by decide +kernel) (by decide) (by decide) ?_
        refine x_const (np := 8) (x := 9223372056182128644) (a := 2147483652) (by decide +kernel) (by decide) (by decide) ?_
        refine x_iload (np := 9) (x := 1) (by decide +kernel) rfl (by first | decide | omega) ?_
        refine x_imul (np := 10) (x := 0) (i := 4) (j := u649) (v := (2147483648 + 4 * u649)) (by decide +kernel) (by first | decide | omega) (by first | decide | omega) (by first | decide | omega) (by first | decide | omega) (by decide) (by first | decide | omega) ?_
        refine x_iadd (np := 11) (x := 0) (v := (2147483808 + 4 * u649)) (by decide +kernel) (by decide) (by first | decide | omega) (by first | decide | omega) (by first | decide | omega) ?_
        refine x_iload (np := 12) (x := 2) (by decide +kernel) rfl (by decide) ?_
        refine x_iadd (np := 13) (x := 0) (v := (2147483810 + 4 * u649)) (by decide +kernel) (by first | decide | omega) (by decide) (by first | decide | omega) (by first | decide | omega) ?_
        have q667 : h4 76 (162 + 4 * u649) = h 76 (162 + 4 * u649) := by rw [← e6]; exact x_up_k (by decide)
        have b668 := jB (e := (162 + 4 * u649)) u649 hJ rg_76_162_4_10 (by first | decide | omega) (by first | decide | omega)
        refine x_aldC (np := 14) (x := 0) (n := 1952) (i := (162 + 4 * u649)) (q := ((h 76 (162 + 4 * u649)))) (by decide +kernel) (by decide +kernel) (by first | decide | omega) (by first | decide | omega) (by decide) q667 (fun l669 => ?_)
        refine x_retI (np := 15) (x := 0) (by decide +kernel) l669 (Or.inl (by decide +kernel)) ⟨_, rfl, l669, ?_⟩
        refine x_cP (t := 6) (mj := 217) (n := 3) (rc := 12) (ml := 3) (nr := 0) (np := 16) (as := [x_r 75, iv_c ((h 76 (160 + 4 * u649))), iv_c ((h 76 (162 + 4 * u649)))]) (rest := []) (lo1 := [x_r 75, iv_c ((h 76 (160 + 4 * u649))), iv_c ((h 76 (162 + 4 * u649)))]) (by decide +kernel) (by decide) (by decide +kernel) (x_rb_of (by decide +kernel)) rfl rfl (x_wr (by decide) (x_wi l664 (x_wi l669 x_wn))) x_wn (by decide) rfl (c217_75 j5  (by first | decide | omega) (by first | decide | omega)) (fun v670 l671 q672 => ?_)
        refine x_aload (np := 17) (x := 0) (by decide +kernel) rfl (x_nc_le (by decide)) ?_
        refine x_iload (np := 18) (x := 1) (by decide +kernel) rfl (by first | decide | omega) ?_
        refine x_const (np := 19) (x := 9223372051887161347) (a := 2147483651) (by decide +kernel) (by decide) (by decide) ?_
        refine x_nI (t := 6) (mj := 162) (n := 3) (rc := 12) (ml := 3) (nr := 1) (np := 22) (as := [x_r 75, iv_c v454, iv_c 2147483651]) (rest := [iv_c v670]) (lo1 := [x_r 75, iv_c v454, iv_c 2147483651]) (by decide +kernel) (by decide) (by decide +kernel) (x_rb_of (by decide +kernel)) rfl rfl (x_wr (by decide) (x_wi (by first | decide | omega) (x_wi (by decide) x_wn))) (x_wi l671 x_wn) (by decide) rfl ?_
        refine x_aload (np := 1) (x := 0) (by decide +kernel) rfl (x_nc_le (by decide)) ?_
        have q673 : h4 75 1 = 76 := by have z := jB (e := 1) 0 j5 rg_75_1_0_1 (by decide) (by decide); omega
        refine x_getR (np := 4) (x := 705) (f := 1) (q := 76) (by decide +kernel) (by decide) (by decide +kernel) q673 ?_
        refine x_const (np := 7) (x := 9223372726197026976) (a := 2147483808) (by decide +kernel) (by decide) (by decide) ?_
        refine x_const (np := 8) (x := 9223372056182128644) (a := 2147483652) (by decide +kernel) (by decide) (by decide) ?_
        refine x_iload (np := 9) (x := 1) (by decide +kernel) rfl (by first | decide | omega) ?_
        refine x_imul (np := 10) (x := 0) (i := 4) (j := u649) (v := (2147483648 + 4 * u649)) (by decide +kernel) (by first | decide | omega) (by first | decide | omega) (by first | decide | omega) (by first | decide | omega) (by decide) (by first | decide | omega) ?_
        refine x_iadd (np := 11) (x := 0) (v := (2147483808 + 4 * u649)) (by decide +kernel) (by decide) (by first | decide | omega) (by first | decide | omega) (by first | decide | omega) ?_
        refine x_iload (np := 12) (x := 2) (by decide +kernel) rfl (by decide) ?_
        refine x_iadd (np := 13) (x := 0) (v := (2147483811 + 4 * u649)) (by decide +kernel) (by first | decide | omega) (by decide) (by first | decide | omega) (by first | decide | omega) ?_
        have q675 : h4 76 (163 + 4 * u649) = h 76 (163 + 4 * u649) := by rw [← e6]; exact x_up_k (by decide)
        refine x_aldC (np := 14) (x := 0) (n := 1952) (i := (163 + 4 * u649)) (q := ((h 76 (163 + 4 * u649)))) (by decide +kernel) (by decide +kernel) (by first | decide | omega) (by first | decide | omega) (by decide) q675 (fun l676 => ?_)
        refine x_retI (np := 15) (x := 0) (by decide +kernel) l653 (Or.inl (by decide +kernel)) ⟨_, rfl, l653, ?_⟩
        refine x_icmp (k := 1) (tg := 29) (np := 25) (by decide +kernel) (by decide) l671 l653 (fun q677 => ?_) (fun q678 => ?_)
        · have q677 : v670 ≠ ((h 76 (163 + 4 * u649))) := q677
          refine x_const (np := 30) (x := 9223372039002259456) (a := 2147483648) (by decide +kernel) (by decide) (by decide) ?_
          refine x_retI (np := 31) (x := 0) (by decide +kernel) (by decide) (Or.inr ⟨by decide +kernel, by first | decide | omega, by first | decide | omega⟩) ⟨_, rfl, (by decide), ?_⟩
          refine x_ifz (k := 1) (tg := 96) (np := 87) (by decide +kernel) (by decide) (by decide) (fun q679 => ?_) (fun q680 => ?_)
          · have q679 : 2147483648 ≠ 2147483648 := q679
            exfalso; omega
          have q680 : ¬ (2147483648 ≠ 2147483648) := q680
          refine x_aload (np := 88) (x := 0) (by decide +kernel) rfl (x_nc_le (by decide)) ?_
          have q681 : h4 75 28 = 94 := by have z := jB (e := 28) 0 j5 rg_75_28_0_1 (by decide) (by decide); omega
          refine x_getR (np := 91) (x := 732) (f := 28) (q := 94) (by decide +kernel) (by decide) (by decide +kernel) q681 ?_
          refine x_iload (np := 92) (x := 1) (by decide +kernel) rfl la1 ?_
          refine x_iload (np := 93) (x := 2) (by decide +kernel) rfl (by first | decide | omega) ?_
          refine x_ast (np := 94) (x := 0) (kd := 1) (n := 6) (i := u2) (by decide +kernel) (Or.inl rfl) (by decide +kernel) (by first | decide | omega) (by first | decide | omega) (by decide) (by first | decide | omega) (fun z => absurd z (by decide)) ?_
          have j683 := jU (e := u2) (v := v454) u2 j5 rg_94_0_1_6 (by first | decide | omega) (by first | decide | omega) (by first | decide | omega)
          have f685 := jF (e := u2) (v := v454) u2 f7 rg_94_0_1_6 (by first | decide | omega) (by first | decide | omega) (by decide)
          generalize e684 : x_up h4 94 u2 v454 = h682 at j683 f685 ⊢
          refine x_const (np := 95) (x := 9223372039002259456) (a := 2147483648) (by decide +kernel) (by decide) (by decide) ?_
          refine x_retI (np := 96) (x := 0) (by decide +kernel) (by decide) (Or.inl (by decide +kernel)) ⟨_, rfl, (by decide), ?_⟩
          exact ⟨j683, f685, (by first | decide | omega)⟩
        have q678 : ¬ (v670 ≠ ((h 76 (163 + 4 * u649)))) := q678
        refine x_const (np := 26) (x := 9223372043297226753) (a := 2147483649) (by decide +kernel) (by decide) (by decide) ?_
        refine x_goto (np := 29) (x := 30) (by decide +kernel) ?_
        refine x_retI (np := 31) (x := 0) (by decide +kernel) (by decide) (Or.inr ⟨by decide +kernel, by first | decide | omega, by first | decide | omega⟩) ⟨_, rfl, (by decide), ?_⟩
        refine x_ifz (k := 1) (tg := 96) (np := 87) (by decide +kernel) (by decide) (by decide) (fun q686 => ?_) (fun q687 => ?_)
        · have q686 : 2147483649 ≠ 2147483648 := q686
          refine x_iinc (np := 99) (i := 2) (j := 2147483649) (v := (1 + v454)) (lo' := [x_r 75, iv_c a1, iv_c (1 + v454), 147573952589676412928]) (by decide +kernel) (by decide) (by decide) rfl (by first | decide | omega) (by first | decide | omega) (by first | decide | omega) rfl ?_
          refine x_goto (np := 102) (x := 61) (by decide +kernel) ?_
          exact i458 (1 + v454) (by first | decide | omega) (by first | decide | omega)
        have q687 : ¬ (2147483649 ≠ 2147483648) := q687
        exfalso; omega
    exact p456 _ 2147483648 (Nat.lt_succ_self _) (by first | decide | omega)
  have q12 : ¬ ((h 75 33) ≠ 2147483648) := q12
  refine x_const (np := 15) (x := 9223372039002259456) (a := 2147483648) (by decide +kernel) (by decide) (by decide) ?_
  refine x_istore (np := 16) (x := 2) (lo' := [x_r 75, iv_c a1, iv_c 2147483648, 147573952589676412928]) (by decide +kernel) (by decide) (Nat.le_of_ble_eq_true rfl) rfl ?_
  have p1275 : ∀ (n : Nat) (v1273 : Nat), 4294967296 - v1273 < n → (2147483648 ≤ v1273 ∧ v1273 ≤ 2147483658) → X sc 254 (d + 4) (xI fun r h' => J h' ∧ Fr 1924145348608 h h' ∧ (2147483648 ≤ r ∧ r ≤ 2147483649)) 0 0 16 [x_r 75, iv_c a1, iv_c v1273, 147573952589676412928] [] h4 := by
    intro n
    induction n with
    | zero => intro v1273 q1276; exact absurd q1276 (Nat.not_lt_zero _)
    | succ n i1277 =>
      intro v1273 q1276 b1274
      refine x_iload (np := 17) (x := 2) (by decide +kernel) rfl (by first | decide | omega) ?_
      refine x_aload (np := 18) (x := 0) (by decide +kernel) rfl (x_nc_le (by decide)) ?_
      have q1278 : h4 75 1 = 76 := by have z := jB (e := 1) 0 j5 rg_75_1_0_1 (by decide) (by decide); omega
      refine x_getR (np := 21) (x := 705) (f := 1) (q := 76) (by decide +kernel) (by decide) (by decide +kernel) q1278 ?_
      refine x_const (np := 22) (x := 9223372060477095941) (a := 2147483653) (by decide +kernel) (by decide) (by decide) ?_
      have q1279 : h4 76 5 = h 76 5 := by rw [← e6]; exact x_up_k (by decide)
      have b1280 := jB (e := 5) 0 hJ rg_76_5_0_1 (by first | decide | omega) (by first | decide | omega)
      refine x_aldC (np := 23) (x := 0) (n := 1952) (i := 5) (q := (h 76 5)) (by decide +kernel) (by decide +kernel) (by first | decide | omega) (by first | decide | omega) (by decide) q1279 (fun l1281 => ?_)
      refine x_icmp (k := 3) (tg := 57) (np := 26) (by decide +kernel) (by decide) (by first | decide | omega) l1281 (fun q1282 => ?_) (fun q1283 => ?_)
      · have q1282 : (h 76 5) ≤ v1273 := q1282
        refine x_const (np := 58) (x := 9223372043297226753) (a := 2147483649) (by decide +kernel) (by decide) (by decide) ?_
        refine x_retI (np := 59) (x := 0) (by decide +kernel) (by decide) (Or.inl (by decide +kernel)) ⟨_, rfl, (by decide), ?_⟩
        exact ⟨j5, f7, (by first | decide | omega)⟩
      have q1283 : ¬ ((h 76 5) ≤ v1273) := q1283
      refine x_aload (np := 27) (x := 0) (by decide +kernel) rfl (x_nc_le (by decide)) ?_
      refine x_iload (np := 28) (x := 2) (by decide +kernel) rfl (by first | decide | omega) ?_
      refine x_nI (t := 6) (mj := 249) (n := 2) (rc := 12) (ml := 2) (nr := 0) (np := 31) (as := [x_r 75, iv_c v1273]) (rest := []) (lo1 := [x_r 75, iv_c v1273]) (by decide +kernel) (by decide) (by decide +kernel) (x_rb_of (by decide +kernel)) rfl rfl (x_wr (by decide) (x_wi (by first | decide | omega) x_wn)) x_wn (by decide) rfl ?_
      refine x_aload (np := 1) (x := 0) (by decide +kernel) rfl (x_nc_le (by decide)) ?_
      refine x_iload (np := 2) (x := 1) (by decide +kernel) rfl (by first | decide | omega) ?_
      refine x_const (np := 3) (x := 9223372051887161347) (a := 2147483651) (by decide +kernel) (by decide) (by decide) ?_
      refine x_nI (t := 6) (mj := 164) (n := 3) (rc := 12) (ml := 3) (nr := 0) (np := 6) (as := [x_r 75, iv_c v1273, iv_c 2147483651]) (rest := []) (lo1 := [x_r 75, iv_c v1273, iv_c 2147483651]) (by decide +kernel) (by decide) (by decide +kernel) (x_rb_of (by decide +kernel)) rfl rfl (x_wr (by decide) (x_wi (by first | decide | omega) (x_wi (by decide) x_wn))) x_wn (by decide) rfl ?_
      refine x_aload (np := 1) (x := 0) (by decide +kernel) rfl (x_nc_le (by decide)) ?_
      have q1284 : h4 75 1 = 76 := by have z := jB (e := 1) 0 j5 rg_75_1_0_1 (by decide) (by decide); omega
      refine x_getR (np := 4) (x := 705) (f := 1) (q := 76) (by decide +kernel) (by decide) (by decide +kernel) q1284 ?_
      refine x_const (np := 7) (x := 9223373112744083706) (a := 2147483898) (by decide +kernel) (by decide) (by decide) ?_
      refine x_const (np := 8) (x := 9223372056182128644) (a := 2147483652) (by decide +kernel) (by decide) (by decide) ?_
      refine x_iload (np := 9) (x := 1) (by decide +kernel) rfl (by first | decide | omega) ?_
      obtain ⟨u1285, q1286⟩ : ∃ z, v1273 = 2147483648 + z := ⟨v1273 - 2147483648, by first | decide | omega⟩
      refine x_imul (np := 10) (x := 0) (i := 4) (j := u1285) (v := (2147483648 + 4 * u1285)) (by decide +kernel) (by first | decide | omega) (by first | decide | omega) (by first | decide | omega) (by first | decide | omega) (by decide) (by first | decide | omega) ?_
      refine x_iadd (np := 11) (x := 0) (v := (2147483898 + 4 * u1285)) (by decide +kernel) (by decide) (by first | decide | omega) (by first | decide | omega) (by first | decide | omega) ?_
      refine x_iload (np := 12) (x := 2) (by decide +kernel) rfl (by decide) ?_
      refine x_iadd (np := 13) (x := 0) (v := (2147483901 + 4 * u1285)) (by decide +kernel) (by first | decide | omega) (by decide) (by first | decide | omega) (by first | decide | omega) ?_
      have q1288 : h4 76 (253 + 4 * u1285) = h 76 (253 + 4 * u1285) := by rw [← e6]; exact x_up_k (by decide)
      refine x_aldC (np := 14) (x := 0) (n := 1952) (i := (253 + 4 * u1285)) (q := ((h 76 (253 + 4 * u1285)))) (by decide +kernel) (by decide +kernel) (by first | decide | omega) (by first | decide | omega) (by decide) q1288 (fun l1289 => ?_)
      refine x_retI (np := 15) (x := 0) (by decide +kernel) l1289 (Or.inl (by decide +kernel)) ⟨_, rfl, l1289, ?_⟩
      refine x_aload (np := 7) (x := 0) (by decide +kernel) rfl (x_nc_le (by decide)) ?_
      have q1290 : h4 75 32 = h 75 32 := by rw [← e6]; exact x_up_k (by decide)
      refine x_getC (np := 10) (x := 736) (f := 32) (q := (h 75 32)) (by decide +kernel) (by decide) (by decide +kernel) q1290 (fun l1291 => ?_)
      refine x_icmp (k := 4) (tg := 17) (np := 13) (by decide +kernel) (by decide) l1289 l1291 (fun q1292 => ?_) (fun q1293 => ?_)
      · have q1292 : (h 75 32) < ((h 76 (253 + 4 * u1285))) := q1292
        refine x_const (np := 18) (x := 9223372039002259456) (a := 2147483648) (by decide +kernel) (by decide) (by decide) ?_
        refine x_retI (np := 19) (x := 0) (by decide +kernel) (by decide) (Or.inr ⟨by decide +kernel, by first | decide | omega, by first | decide | omega⟩) ⟨_, rfl, (by decide), ?_⟩
        refine x_ifz (k := 0) (tg := 51) (np := 34) (by decide +kernel) (by decide) (by decide) (fun q1294 => ?_) (fun q1295 => ?_)
        · have q1294 : 2147483648 = 2147483648 := q1294
          refine x_iinc (np := 54) (i := 2) (j := 2147483649) (v := (1 + v1273)) (lo' := [x_r 75, iv_c a1, iv_c (1 + v1273), 147573952589676412928]) (by decide +kernel) (by decide) (by decide) rfl (by first | decide | omega) (by first | decide | omega) (by first | decide | omega) rfl ?_
          refine x_goto (np := 57) (x := 16) (by decide +kernel) ?_
          exact i1277 (1 + v1273) (by first | decide | omega) (by first | decide | omega)
        have q1295 : ¬ (2147483648 = 2147483648) := q1295
        exfalso; omega
      have q1293 : ¬ ((h 75 32) < ((h 76 (253 + 4 * u1285)))) := q1293
      refine x_const (np := 14) (x := 9223372043297226753) (a := 2147483649) (by decide +kernel) (by decide) (by decide) ?_
      refine x_goto (np := 17) (x := 18) (by decide +kernel) ?_
      refine x_retI (np := 19) (x := 0) (by decide +kernel) (by decide) (Or.inr ⟨by decide +kernel, by first | decide | omega, by first | decide | omega⟩) ⟨_, rfl, (by decide), ?_⟩
      refine x_ifz (k := 0) (tg := 51) (np := 34) (by decide +kernel) (by decide) (by decide) (fun q1296 => ?_) (fun q1297 => ?_)
      · have q1296 : 2147483649 = 2147483648 := q1296
        exfalso; omega
      have q1297 : ¬ (2147483649 = 2147483648) := q1297
      refine x_aload (np := 35) (x := 0) (by decide +kernel) rfl (x_nc_le (by decide)) ?_
      refine x_iload (np := 36) (x := 2) (by decide +kernel) rfl (by first | decide | omega) ?_
      refine x_nI (t := 6) (mj := 250) (n := 2) (rc := 12) (ml := 3) (nr := 0) (np := 39) (as := [x_r 75, iv_c v1273]) (rest := []) (lo1 := [x_r 75, iv_c v1273, 147573952589676412928]) (by decide +kernel) (by decide) (by decide +kernel) (x_rb_of (by decide +kernel)) rfl rfl (x_wr (by decide) (x_wi (by first | decide | omega) x_wn)) x_wn (by decide) rfl ?_
      refine x_aload (np := 1) (x := 0) (by decide +kernel) rfl (x_nc_le (by decide)) ?_
      refine x_aload (np := 2) (x := 0) (by decide +kernel) rfl (x_nc_le (by decide)) ?_
      refine x_iload (np := 3) (x := 1) (by decide +kernel) rfl (by first | decide | omega) ?_
      refine x_const (np := 4) (x := 9223372039002259456) (a := 2147483648) (by decide +kernel) (by decide) (by decide) ?_
      refine x_nI (t := 6) (mj := 164) (n := 3) (rc := 12) (ml := 3) (nr := 1) (np := 7) (as := [x_r 75, iv_c v1273, iv_c 2147483648]) (rest := [x_r 75]) (lo1 := [x_r 75, iv_c v1273, iv_c 2147483648]) (by decide +kernel) (by decide) (by decide +kernel) (x_rb_of (by decide +kernel)) rfl rfl (x_wr (by decide) (x_wi (by first | decide | omega) (x_wi (by decide) x_wn))) (x_wr (by decide) x_wn) (by decide) rfl ?_
      refine x_aload (np := 1) (x := 0) (by decide +kernel) rfl (x_nc_le (by decide)) ?_
      have q1298 : h4 75 1 = 76 := by have z := jB (e := 1) 0 j5 rg_75_1_0_1 (by decide) (by decide); omega
      refine x_getR (np := 4) (x := 705) (f := 1) (q := 76) (by decide +kernel) (by decide) (by decide +kernel) q1298 ?_
      refine x_const (np := 7) (x := 9223373112744083706) (a := 2147483898) (by decide +kernel) (by decide) (by decide) ?_
      refine x_const (np := 8) (x := 9223372056182128644) (a := 2147483652) (by decide +kernel) (by decide) (by decide) ?_
      refine x_iload (np := 9) (x := 1) (by decide +kernel) rfl (by first | decide | omega) ?_
      refine x_imul (np := 10) (x := 0) (i := 4) (j := u1285) (v := (2147483648 + 4 * u1285)) (by decide +kernel) (by first | decide | omega) (by first | decide | omega) (by first | decide | omega) (by first | decide | omega) (by decide) (by first | decide | omega) ?_
      refine x_iadd (np := 11) (x := 0) (v := (2147483898 + 4 * u1285)) (by decide +kernel) (by decide) (by first | decide | omega) (by first | decide | omega) (by first | decide | omega) ?_
      refine x_iload (np := 12) (x := 2) (by decide +kernel) rfl (by decide) ?_
      refine x_iadd (np := 13) (x := 0) (v := (2147483898 + 4 * u1285)) (by decide +kernel) (by first | decide | omega) (by decide) (by first | decide | omega) (by first | decide | omega) ?_
      have q1300 : h4 76 (250 + 4 * u1285) = h 76 (250 + 4 * u1285) := by rw [← e6]; exact x_up_k (by decide)
      have b1301 := jB (e := (250 + 4 * u1285)) u1285 hJ rg_76_250_4_10 (by first | decide | omega) (by first | decide | omega)
      refine x_aldC (np := 14) (x := 0) (n := 1952) (i := (250 + 4 * u1285)) (q := ((h 76 (250 + 4 * u1285)))) (by decide +kernel) (by decide +kernel) (by first | decide | omega) (by first | decide | omega) (by decide) q1300 (fun l1302 => ?_)
      refine x_retI (np := 15) (x := 0) (by decide +kernel) l1302 (Or.inl (by decide +kernel)) ⟨_, rfl, l1302, ?_⟩
      refine x_aload (np := 8) (x := 0) (by decide +kernel) rfl (x_nc_le (by decide)) ?_
      refine x_iload (np := 9) (x := 1) (by decide +kernel) rfl (by first | decide | omega) ?_
      refine x_const (np := 10) (x := 9223372043297226753) (a := 2147483649) (by decide +kernel) (by decide) (by decide) ?_
      refine x_nI (t := 6) (mj := 164) (n := 3) (rc := 12) (ml := 3) (nr := 2) (np := 13) (as := [x_r 75, iv_c v1273, iv_c 2147483649]) (rest := [iv_c ((h 76 (250 + 4 * u1285))), x_r 75]) (lo1 := [x_r 75, iv_c v1273, iv_c 2147483649]) (by decide +kernel) (by decide) (by decide +kernel) (x_rb_of (by decide +kernel)) rfl rfl (x_wr (by decide) (x_wi (by first | decide | omega) (x_wi (by decide) x_wn))) (x_wi l1302 (x_wr (by decide) x_wn)) (by decide) rfl ?_
      refine x_aload (np := 1) (x := 0) (by decide +kernel) rfl (x_nc_le (by decide)) ?_
      have q1303 : h4 75 1 = 76 := by have z := jB (e := 1) 0 j5 rg_75_1_0_1 (by decide) (by decide); omega
      refine x_getR (np := 4) (x := 705) (f := 1) (q := 76) (by decide +kernel) (by decide) (by decide +kernel) q1303 ?_
      refine x_const (np := 7) (x := 9223373112744083706) (a := 2147483898) (by decide +kernel) (by decide) (by decide) ?_
      refine x_const (np := 8) (x := 9223372056182128644) (a := 2147483652) (by decide +kernel) (by decide) (by decide) ?_
      refine x_iload (np := 9) (x := 1) (by decide +kernel) rfl (by first | decide | omega) ?_
      refine x_imul (np := 10) (x := 0) (i := 4) (j := u1285) (v := (2147483648 + 4 * u1285)) (by decide +kernel) (by first | decide | omega) (by first | decide | omega) (by first | decide | omega) (by first | decide | omega) (by decide) (by first | decide | omega) ?_
      refine x_iadd (np := 11) (x := 0) (v := (2147483898 + 4 * u1285)) (by decide +kernel) (by decide) (by first | decide | omega) (by first | decide | omega) (by first | decide | omega) ?_
      refine x_iload (np := 12) (x := 2) (by decide +kernel) rfl (by decide) ?_
      refine x_iadd (np := 13) (x := 0) (v := (2147483899 + 4 * u1285)) (by decide +kernel) (by first | decide | omega) (by decide) (by first | decide | omega) (by first | decide | omega) ?_
      have q1305 : h4 76 (251 + 4 * u1285) = h 76 (251 + 4 * u1285) := by rw [← e6]; exact x_up_k (by decide)
      have b1306 := jB (e := (251 + 4 * u1285)) u1285 hJ rg_76_251_4_10 (by first | decide | omega) (by first | decide | omega)
      refine x_aldC (np := 14) (x := 0) (n := 1952) (i := (251 + 4 * u1285)) (q := ((h 76 (251 + 4 * u1285)))) (by decide +kernel) (by decide +kernel) (by first | decide | omega) (by first | decide | omega) (by decide) q1305 (fun l1307 => ?_)
      refine x_retI (np := 15) (x := 0) (by decide +kernel) l1307 (Or.inl (by decide +kernel)) ⟨_, rfl, l1307, ?_⟩
      refine x_cP (t := 6) (mj := 217) (n := 3) (rc := 12) (ml := 3) (nr := 0) (np := 16) (as := [x_r 75, iv_c ((h 76 (250 + 4 * u1285))), iv_c ((h 76 (251 + 4 * u1285)))]) (rest := []) (lo1 := [x_r 75, iv_c ((h 76 (250 + 4 * u1285))), iv_c ((h 76 (251 + 4 * u1285)))]) (by decide +kernel) (by decide) (by decide +kernel) (x_rb_of (by decide +kernel)) rfl rfl (x_wr (by decide) (x_wi l1302 (x_wi l1307 x_wn))) x_wn (by decide) rfl (c217_75 j5  (by first | decide | omega) (by first | decide | omega)) (fun v1308 l1309 q1310 => ?_)
      refine x_istore (np := 17) (x := 2) (lo' := [x_r 75, iv_c v1273, iv_c v1308]) (by decide +kernel) l1309 (Nat.le_of_ble_eq_true rfl) rfl ?_
      refine x_iload (np := 18) (x := 2) (by decide +kernel) rfl l1309 ?_
      refine x_ifz (k := 2) (tg := 39) (np := 21) (by decide +kernel) (by decide) l1309 (fun q1311 => ?_) (fun q1312 => ?_)
      · have q1311 : v1308 < 2147483648 := q1311
        refine x_const (np := 40) (x := 9223372039002259456) (a := 2147483648) (by decide +kernel) (by decide) (by decide) ?_
        refine x_retI (np := 41) (x := 0) (by decide +kernel) (by decide) (Or.inr ⟨by decide +kernel, by first | decide | omega, by first | decide | omega⟩) ⟨_, rfl, (by decide), ?_⟩
        refine x_ifz (k := 1) (tg := 51) (np := 42) (by decide +kernel) (by decide) (by decide) (fun q1313 => ?_) (fun q1314 => ?_)
        · have q1313 : 2147483648 ≠ 2147483648 := q1313
          exfalso; omega
        have q1314 : ¬ (2147483648 ≠ 2147483648) := q1314
        refine x_aload (np := 43) (x := 0) (by decide +kernel) rfl (x_nc_le (by decide)) ?_
        have q1315 : h4 75 28 = 94 := by have z := jB (e := 28) 0 j5 rg_75_28_0_1 (by decide) (by decide); omega
        refine x_getR (np := 46) (x := 732) (f := 28) (q := 94) (by decide +kernel) (by decide) (by decide +kernel) q1315 ?_
        refine x_iload (np := 47) (x := 1) (by decide +kernel) rfl la1 ?_
        refine x_iload (np := 48) (x := 2) (by decide +kernel) rfl (by first | decide | omega) ?_
        refine x_ast (np := 49) (x := 0) (kd := 1) (n := 6) (i := u2) (by decide +kernel) (Or.inl rfl) (by decide +kernel) (by first | decide | omega) (by first | decide | omega) (by decide) (by first | decide | omega) (fun z => absurd z (by decide)) ?_
        have j1317 := jU (e := u2) (v := v1273) u2 j5 rg_94_0_1_6 (by first | decide | omega) (by first | decide | omega) (by first | decide | omega)
        have f1319 := jF (e := u2) (v := v1273) u2 f7 rg_94_0_1_6 (by first | decide | omega) (by first | decide | omega) (by decide)
        generalize e1318 : x_up h4 94 u2 v1273 = h1316 at j1317 f1319 ⊢
        refine x_const (np := 50) (x := 9223372039002259456) (a := 2147483648) (by decide +kernel) (by decide) (by decide) ?_
        refine x_retI (np := 51) (x := 0) (by decide +kernel) (by decide) (Or.inl (by decide +kernel)) ⟨_, rfl, (by decide), ?_⟩
        exact ⟨j1317, f1319, (by first | decide | omega)⟩
      have q1312 : ¬ (v1308 < 2147483648) := q1312
      refine x_aload (np := 22) (x := 0) (by decide +kernel) rfl (x_nc_le (by decide)) ?_
      refine x_iload (np := 23) (x := 1) (by decide +kernel) rfl (by first | decide | omega) ?_
      refine x_const (np := 24) (x := 9223372047592194050) (a := 2147483650) (by decide +kernel) (by decide) (by decide) ?_
      refine x_nI (t := 6) (mj := 164) (n := 3) (rc := 12) (ml := 3) (nr := 0) (np := 27) (as := [x_r 75, iv_c v1273, iv_c 2147483650]) (rest := []) (lo1 := [x_r 75, iv_c v1273, iv_c 2147483650]) (by decide +kernel) (by decide) (by decide +kernel) (x_rb_of (by decide +kernel)) rfl rfl (x_wr (by decide) (x_wi (by first | decide | omega) (x_wi (by decide) x_wn))) x_wn (by decide) rfl ?_
      refine x_aload (np := 1) (x := 0) (by decide +kernel) rfl (x_nc_le (by decide)) ?_
      have q1320 : h4 75 1 = 76 := by have z := jB (e := 1) 0 j5 rg_75_1_0_1 (by decide) (by decide); omega
      refine x_getR (np := 4) (x := 705) (f := 1) (q := 76) (by decide +kernel) (by decide) (by decide +kernel) q1320 ?_
      refine x_const (np := 7) (x := 9223373112744083706) (a := 2147483898) (by decide +kernel) (by decide) (by decide) ?_
      refine x_const (np := 8) (x := 9223372056182128644) (a := 2147483652) (by decide +kernel) (by decide) (by decide) ?_
      refine x_iload (np := 9) (x := 1) (by decide +kernel) rfl (by first | decide | omega) ?_
      refine x_imul (np := 10) (x := 0) (i := 4) (j := u1285) (v := (2147483648 + 4 * u1285)) (by decide +kernel) (by first | decide | omega) (by first | decide | omega) (by first | decide | omega) (by first | decide | omega) (by decide) (by first | decide | omega) ?_
      refine x_iadd (np := 11) (x := 0) (v := (2147483898 + 4 * u1285)) (by decide +kernel) (by decide) (by first | decide | omega) (by first | decide | omega) (by first | decide | omega) ?_
      refine x_iload (np := 12) (x := 2) (by decide +kernel) rfl (by decide) ?_
      refine x_iadd (np := 13) (x := 0) (v := (2147483900 + 4 * u1285)) (by decide +kernel) (by first | decide | omega) (by decide) (by first | decide | omega) (by first | decide | omega) ?_
      have q1322 : h4 76 (252 + 4 * u1285) = h 76 (252 + 4 * u1285) := by rw [← e6]; exact x_up_k (by decide)
      refine x_aldC (np := 14) (x := 0) (n := 1952) (i := (252 + 4 * u1285)) (q := ((h 76 (252 + 4 * u1285)))) (by decide +kernel) (by decide +kernel) (by first | decide | omega) (by first | decide | omega) (by decide) q1322 (fun l1323 => ?_)
      refine x_retI (np := 15) (x := 0) (by decide +kernel) l1323 (Or.inl (by decide +kernel)) ⟨_, rfl, l1323, ?_⟩
      refine x_iload (np := 28) (x := 2) (by decide +kernel) rfl l1309 ?_
      refine x_any (np := 29) (k9 := 4) (by decide +kernel) (by decide) l1323 l1309 (fun v1324 l1325 => ?_)
      refine x_const (np := 30) (x := 9223372043297226753) (a := 2147483649) (by decide +kernel) (by decide) (by decide) ?_
      refine x_mask (np := 31) (m := 1) (k9 := 2) (by decide +kernel) l1325 (by decide +kernel) (by decide) (by decide) (by decide) (fun u1326 l1327 => ?_)
      refine x_const (np := 32) (x := 9223372043297226753) (a := 2147483649) (by decide +kernel) (by decide) (by decide) ?_
      refine x_icmp (k := 1) (tg := 39) (np := 35) (by decide +kernel) (by decide) (by first | decide | omega) (by decide) (fun q1328 => ?_) (fun q1329 => ?_)
      · have q1328 : (2147483648 + u1326) ≠ 2147483649 := q1328
        refine x_const (np := 40) (x := 9223372039002259456) (a := 2147483648) (by decide +kernel) (by decide) (by decide) ?_
        refine x_retI (np := 41) (x := 0) (by decide +kernel) (by decide) (Or.inr ⟨by decide +kernel, by first | decide | omega, by first | decide | omega⟩) ⟨_, rfl, (by decide), ?_⟩
        refine x_ifz (k := 1) (tg := 51) (np := 42) (by decide +kernel) (by decide) (by decide) (fun q1330 => ?_) (fun q1331 => ?_)
        · have q1330 : 2147483648 ≠ 2147483648 := q1330
          exfalso; omega
        have q1331 : ¬ (2147483648 ≠ 2147483648) := q1331
        refine x_aload (np := 43) (x := 0) (by decide +kernel) rfl (x_nc_le (by decide)) ?_
        have q1332 : h4 75 28 = 94 := by have z := jB (e := 28) 0 j5 rg_75_28_0_1 (by decide) (by decide); omega
        refine x_getR (np := 46) (x := 732) (f := 28) (q := 94) (by decide +kernel) (by decide) (by decide +kernel) q1332 ?_
        refine x_iload (np := 47) (x := 1) (by decide +kernel) rfl la1 ?_
        refine x_iload (np := 48) (x := 2) (by decide +kernel) rfl (by first | decide | omega) ?_
        refine x_ast (np := 49) (x := 0) (kd := 1) (n := 6) (i := u2) (by decide +kernel) (Or.inl rfl) (by decide +kernel) (by first | decide | omega) (by first | decide | omega) (by decide) (by first | decide | omega) (fun z => absurd z (by decide)) ?_
        have j1334 := jU (e := u2) (v := v1273) u2 j5 rg_94_0_1_6 (by first | decide | omega) (by first | decide | omega) (by first | decide | omega)
        have f1336 := jF (e := u2) (v := v1273) u2 f7 rg_94_0_1_6 (by first | decide | omega) (by first | decide | omega) (by decide)
        generalize e1335 : x_up h4 94 u2 v1273 = h1333 at j1334 f1336 ⊢
        refine x_const (np := 50) (x := 9223372039002259456) (a := 2147483648) (by decide +kernel) (by decide) (by decide) ?_
        refine x_retI (np := 51) (x := 0) (by decide +kernel) (by decide) (Or.inl (by decide +kernel)) ⟨_, rfl, (by decide), ?_⟩
        exact ⟨j1334, f1336, (by first | decide | omega)⟩
      have q1329 : ¬ ((2147483648 + u1326) ≠ 2147483649) := q1329
      refine x_const (np := 36) (x := 9223372043297226753) (a := 2147483649) (by decide +kernel) (by decide) (by decide) ?_
      refine x_goto (np := 39) (x := 40) (by decide +kernel) ?_
      refine x_retI (np := 41) (x := 0) (by decide +kernel) (by decide) (Or.inr ⟨by decide +kernel, by first | decide | omega, by first | decide | omega⟩) ⟨_, rfl, (by decide), ?_⟩
      refine x_ifz (k := 1) (tg := 51) (np := 42) (by decide +kernel) (by decide) (by decide) (fun q1337 => ?_) (fun q1338 => ?_)
      · have q1337 : 2147483649 ≠ 2147483648 := q1337
        refine x_iinc (np := 54) (i := 2) (j := 2147483649) (v := (1 + v1273)) (lo' := [x_r 75, iv_c a1, iv_c (1 + v1273), 147573952589676412928]) (by decide +kernel) (by decide) (by decide) rfl (by first | decide | omega) (by first | decide | omega) (by first | decide | omega) rfl ?_
        refine x_goto (np := 57) (x := 16) (by decide +kernel) ?_
        exact i1277 (1 + v1273) (by first | decide | omega) (by first | decide | omega)
      have q1338 : ¬ (2147483649 ≠ 2147483648) := q1338
      exfalso; omega
  exact p1275 _ 2147483648 (Nat.lt_succ_self _) (by first | decide | omega)
