/-! ===== methods ===== -/
set_option maxHeartbeats 0 in
/-- LentNamesModel.again(II)I -/
theorem c241_75 {sc : Nat × Nat} {d a1 a2 : Nat} {h : xh} (hJ : J h) (ba1 : 0 ≤ a1 ∧ a1 ≤ 4294967295) (ba2 : 0 ≤ a2 ∧ a2 ≤ 4294967295) (hW : WT 76 h) : X sc 241 (d + 5) (xI fun r h' => J h' ∧ Fr 135291600897 h h' ∧ (2147483647 ≤ r ∧ r ≤ 2147483659)) 0 0 0 [x_r 75, iv_c a1, iv_c a2, 147573952589676412928] [] h := by
  have la1 : a1 < 4294967296 := by first | decide | omega
  have la2 : a2 < 4294967296 := by first | decide | omega
  have hF := Fr.refl 135291600897 h
  refine x_aload (np := 1) (x := 0) (by decide +kernel) rfl (x_nc_le (by decide)) ?_
  refine x_const (np := 2) (x := 9223372039002259456) (a := 2147483648) (by decide +kernel) (by decide) (by decide) ?_
  refine x_putI (np := 5) (x := 704) (f := 0) (by decide +kernel) (by decide +kernel) (by decide) (Or.inl (by decide)) ?_
  have j2 := jU (e := 0) (v := 2147483648) 0 hJ rg_75_0_0_1 (by first | decide | omega) (by first | decide | omega) (by first | decide | omega)
  have f4 := jF (e := 0) (v := 2147483648) 0 hF rg_75_0_0_1 (by first | decide | omega) (by first | decide | omega) (by decide)
  generalize e3 : x_up h 75 0 2147483648 = h1 at j2 f4 ⊢
  refine x_aload (np := 6) (x := 0) (by decide +kernel) rfl (x_nc_le (by decide)) ?_
  refine x_aload (np := 7) (x := 0) (by decide +kernel) rfl (x_nc_le (by decide)) ?_
  refine x_iload (np := 8) (x := 1) (by decide +kernel) rfl la1 ?_
  refine x_nI (t := 6) (mj := 159) (n := 2) (rc := 12) (ml := 2) (nr := 1) (np := 11) (as := [x_r 75, iv_c a1]) (rest := [x_r 75]) (lo1 := [x_r 75, iv_c a1]) (by decide +kernel) (by decide) (by decide +kernel) (x_rb_of (by decide +kernel)) rfl rfl (x_wr (by decide) (x_wi la1 x_wn)) (x_wr (by decide) x_wn) (by decide) rfl ?_
  refine x_aload (np := 1) (x := 0) (by decide +kernel) rfl (x_nc_le (by decide)) ?_
  refine x_iload (np := 2) (x := 1) (by decide +kernel) rfl la1 ?_
  refine x_const (np := 3) (x := 9223372039002259456) (a := 2147483648) (by decide +kernel) (by decide) (by decide) ?_
  refine x_nI (t := 6) (mj := 158) (n := 3) (rc := 12) (ml := 3) (nr := 0) (np := 6) (as := [x_r 75, iv_c a1, iv_c 2147483648]) (rest := []) (lo1 := [x_r 75, iv_c a1, iv_c 2147483648]) (by decide +kernel) (by decide) (by decide +kernel) (x_rb_of (by decide +kernel)) rfl rfl (x_wr (by decide) (x_wi la1 (x_wi (by decide) x_wn))) x_wn (by decide) rfl ?_
  refine x_iload (np := 1) (x := 1) (by decide +kernel) rfl la1 ?_
  refine x_const (np := 2) (x := 9223372039002259456) (a := 2147483648) (by decide +kernel) (by decide) (by decide) ?_
  refine x_aload (np := 3) (x := 0) (by decide +kernel) rfl (x_nc_le (by decide)) ?_
  have q5 : h1 75 1 = 76 := by have z := jB (e := 1) 0 j2 rg_75_1_0_1 (by decide) (by decide); omega
  refine x_getR (np := 6) (x := 705) (f := 1) (q := 76) (by decide +kernel) (by decide) (by decide +kernel) q5 ?_
  refine x_iload (np := 7) (x := 2) (by decide +kernel) rfl (by decide) ?_
  have q6 : h1 76 0 = h 76 0 := by rw [← e3]; exact x_up_k (by decide)
  have b7 := jB (e := 0) 0 hJ rg_76_0_0_1 (by first | decide | omega) (by first | decide | omega)
  refine x_aldC (np := 8) (x := 0) (n := 1952) (i := 0) (q := (h 76 0)) (by decide +kernel) (by decide +kernel) (by first | decide | omega) (by first | decide | omega) (by decide) q6 (fun l8 => ?_)
  refine x_const (np := 9) (x := 9223372043297226753) (a := 2147483649) (by decide +kernel) (by decide) (by decide) ?_
  obtain ⟨v9, q10⟩ : ∃ z, z + 2147483649 = (h 76 0) + 2147483648 := ⟨(h 76 0) + 2147483648 - 2147483649, by first | decide | omega⟩
  refine x_isub (np := 10) (x := 0) (v := v9) (by decide +kernel) l8 (by decide) (by first | decide | omega) (by first | decide | omega) ?_
  refine x_nI (t := 0) (mj := 153) (n := 3) (rc := 0) (ml := 3) (nr := 0) (np := 13) (as := [iv_c a1, iv_c 2147483648, iv_c v9]) (rest := []) (lo1 := [iv_c a1, iv_c 2147483648, iv_c v9]) (by decide +kernel) (by decide) (by decide +kernel) (Or.inl rfl) rfl rfl (x_wi la1 (x_wi (by decide) (x_wi (by first | decide | omega) x_wn))) x_wn (by decide) rfl ?_
  refine x_iload (np := 1) (x := 0) (by decide +kernel) rfl la1 ?_
  refine x_iload (np := 2) (x := 1) (by decide +kernel) rfl (by decide) ?_
  refine x_icmp (k := 2) (tg := 14) (np := 5) (by decide +kernel) (by decide) la1 (by decide) (fun q11 => ?_) (fun q12 => ?_)
  · have q11 : a1 < 2147483648 := q11
    refine x_const (np := 15) (x := 9223372039002259456) (a := 2147483648) (by decide +kernel) (by decide) (by decide) ?_
    refine x_retI (np := 16) (x := 0) (by decide +kernel) (by decide) (Or.inr ⟨by decide +kernel, by first | decide | omega, by first | decide | omega⟩) ⟨_, rfl, (by decide), ?_⟩
    refine x_ifz (k := 1) (tg := 20) (np := 16) (by decide +kernel) (by decide) (by decide) (fun q13 => ?_) (fun q14 => ?_)
    · have q13 : 2147483648 ≠ 2147483648 := q13
      exfalso; omega
    have q14 : ¬ (2147483648 ≠ 2147483648) := q14
    refine x_const (np := 17) (x := 9223372043297226753) (a := 2147483649) (by decide +kernel) (by decide) (by decide) ?_
    refine x_goto (np := 20) (x := 21) (by decide +kernel) ?_
    refine x_retI (np := 22) (x := 0) (by decide +kernel) (by decide) (Or.inr ⟨by decide +kernel, by first | decide | omega, by first | decide | omega⟩) ⟨_, rfl, (by decide), ?_⟩
    refine x_retI (np := 7) (x := 0) (by decide +kernel) (by decide) (Or.inr ⟨by decide +kernel, by first | decide | omega, by first | decide | omega⟩) ⟨_, rfl, (by decide), ?_⟩
    refine x_ifz (k := 1) (tg := 21) (np := 14) (by decide +kernel) (by decide) (by decide) (fun q15 => ?_) (fun q16 => ?_)
    · have q15 : 2147483649 ≠ 2147483648 := q15
      refine x_const (np := 22) (x := 9223372043297226753) (a := 2147483649) (by decide +kernel) (by decide) (by decide) ?_
      refine x_goto (np := 25) (x := 26) (by decide +kernel) ?_
      refine x_const (np := 27) (x := 9223372043297226753) (a := 2147483649) (by decide +kernel) (by decide) (by decide) ?_
      refine x_nI (t := 6) (mj := 152) (n := 3) (rc := 12) (ml := 3) (nr := 0) (np := 30) (as := [x_r 75, iv_c 2147483649, iv_c 2147483649]) (rest := []) (lo1 := [x_r 75, iv_c 2147483649, iv_c 2147483649]) (by decide +kernel) (by decide) (by decide +kernel) (x_rb_of (by decide +kernel)) rfl rfl (x_wr (by decide) (x_wi (by decide) (x_wi (by decide) x_wn))) x_wn (by decide) rfl ?_
      refine x_iload (np := 1) (x := 1) (by decide +kernel) rfl (by decide) ?_
      refine x_ifz (k := 0) (tg := 9) (np := 4) (by decide +kernel) (by decide) (by decide) (fun q17 => ?_) (fun q18 => ?_)
      · have q17 : 2147483649 = 2147483648 := q17
        exfalso; omega
      have q18 : ¬ (2147483649 = 2147483648) := q18
      refine x_aload (np := 5) (x := 0) (by decide +kernel) rfl (x_nc_le (by decide)) ?_
      refine x_iload (np := 6) (x := 2) (by decide +kernel) rfl (by decide) ?_
      refine x_putI (np := 9) (x := 704) (f := 0) (by decide +kernel) (by decide +kernel) (by decide) (Or.inl (by decide)) ?_
      have j20 := jU (e := 0) (v := 2147483649) 0 j2 rg_75_0_0_1 (by first | decide | omega) (by first | decide | omega) (by first | decide | omega)
      have f22 := jF (e := 0) (v := 2147483649) 0 f4 rg_75_0_0_1 (by first | decide | omega) (by first | decide | omega) (by decide)
      generalize e21 : x_up h1 75 0 2147483649 = h19 at j20 f22 ⊢
      refine x_iload (np := 10) (x := 1) (by decide +kernel) rfl (by decide) ?_
      refine x_retI (np := 11) (x := 0) (by decide +kernel) (by decide) (Or.inr ⟨by decide +kernel, by first | decide | omega, by first | decide | omega⟩) ⟨_, rfl, (by decide), ?_⟩
      refine x_ifz (k := 0) (tg := 35) (np := 33) (by decide +kernel) (by decide) (by decide) (fun q23 => ?_) (fun q24 => ?_)
      · have q23 : 2147483649 = 2147483648 := q23
        exfalso; omega
      have q24 : ¬ (2147483649 = 2147483648) := q24
      refine x_const (np := 34) (x := 9223372039002259456) (a := 2147483648) (by decide +kernel) (by decide) (by decide) ?_
      refine x_retI (np := 35) (x := 0) (by decide +kernel) (by decide) (Or.inl (by decide +kernel)) ⟨_, rfl, (by decide), ?_⟩
      exact ⟨j20, f22, (by first | decide | omega)⟩
    have q16 : ¬ (2147483649 ≠ 2147483648) := q16
    exfalso; omega
  have q12 : ¬ (a1 < 2147483648) := q12
  refine x_iload (np := 6) (x := 0) (by decide +kernel) rfl la1 ?_
  refine x_iload (np := 7) (x := 2) (by decide +kernel) rfl (by first | decide | omega) ?_
  refine x_icmp (k := 4) (tg := 14) (np := 10) (by decide +kernel) (by decide) la1 (by first | decide | omega) (fun q25 => ?_) (fun q26 => ?_)
  · have q25 : v9 < a1 := q25
    refine x_const (np := 15) (x := 9223372039002259456) (a := 2147483648) (by decide +kernel) (by decide) (by decide) ?_
    refine x_retI (np := 16) (x := 0) (by decide +kernel) (by decide) (Or.inr ⟨by decide +kernel, by first | decide | omega, by first | decide | omega⟩) ⟨_, rfl, (by decide), ?_⟩
    refine x_ifz (k := 1) (tg := 20) (np := 16) (by decide +kernel) (by decide) (by decide) (fun q27 => ?_) (fun q28 => ?_)
    · have q27 : 2147483648 ≠ 2147483648 := q27
      exfalso; omega
    have q28 : ¬ (2147483648 ≠ 2147483648) := q28
    refine x_const (np := 17) (x := 9223372043297226753) (a := 2147483649) (by decide +kernel) (by decide) (by decide) ?_
    refine x_goto (np := 20) (x := 21) (by decide +kernel) ?_
    refine x_retI (np := 22) (x := 0) (by decide +kernel) (by decide) (Or.inr ⟨by decide +kernel, by first | decide | omega, by first | decide | omega⟩) ⟨_, rfl, (by decide), ?_⟩
    refine x_retI (np := 7) (x := 0) (by decide +kernel) (by decide) (Or.inr ⟨by decide +kernel, by first | decide | omega, by first | decide | omega⟩) ⟨_, rfl, (by decide), ?_⟩
    refine x_ifz (k := 1) (tg := 21) (np := 14) (by decide +kernel) (by decide) (by decide) (fun q29 => ?_) (fun q30 => ?_)
    · have q29 : 2147483649 ≠ 2147483648 := q29
      refine x_const (np := 22) (x := 9223372043297226753) (a := 2147483649) (by decide +kernel) (by decide) (by decide) ?_
      refine x_goto (np := 25) (x := 26) (by decide +kernel) ?_
      refine x_const (np := 27) (x := 9223372043297226753) (a := 2147483649) (by decide +kernel) (by decide) (by decide) ?_
      refine x_nI (t := 6) (mj := 152) (n := 3) (rc := 12) (ml := 3) (nr := 0) (np := 30) (as := [x_r 75, iv_c 2147483649, iv_c 2147483649]) (rest := []) (lo1 := [x_r 75, iv_c 2147483649, iv_c 2147483649]) (by decide +kernel) (by decide) (by decide +kernel) (x_rb_of (by decide +kernel)) rfl rfl (x_wr (by decide) (x_wi (by decide) (x_wi (by decide) x_wn))) x_wn (by decide) rfl ?_
      refine x_iload (np := 1) (x := 1) (by decide +kernel) rfl (by decide) ?_
      refine x_ifz (k := 0) (tg := 9) (np := 4) (by decide +kernel) (by decide) (by decide) (fun q31 => ?_) (fun q32 => ?_)
      · have q31 : 2147483649 = 2147483648 := q31
        exfalso; omega
      have q32 : ¬ (2147483649 = 2147483648) := q32
      refine x_aload (np := 5) (x := 0) (by decide +kernel) rfl (x_nc_le (by decide)) ?_
      refine x_iload (np := 6) (x := 2) (by decide +kernel) rfl (by decide) ?_
      refine x_putI (np := 9) (x := 704) (f := 0) (by decide +kernel) (by decide +kernel) (by decide) (Or.inl (by decide)) ?_
      have j34 := jU (e := 0) (v := 2147483649) 0 j2 rg_75_0_0_1 (by first | decide | omega) (by first | decide | omega) (by first | decide | omega)
      have f36 := jF (e := 0) (v := 2147483649) 0 f4 rg_75_0_0_1 (by first | decide | omega) (by first | decide | omega) (by decide)
      generalize e35 : x_up h1 75 0 2147483649 = h33 at j34 f36 ⊢
      refine x_iload (np := 10) (x := 1) (by decide +kernel) rfl (by decide) ?_
      refine x_retI (np := 11) (x := 0) (by decide +kernel) (by decide) (Or.inr ⟨by decide +kernel, by first | decide | omega, by first | decide | omega⟩) ⟨_, rfl, (by decide), ?_⟩
      refine x_ifz (k := 0) (tg := 35) (np := 33) (by decide +kernel) (by decide) (by decide) (fun q37 => ?_) (fun q38 => ?_)
      · have q37 : 2147483649 = 2147483648 := q37
        exfalso; omega
      have q38 : ¬ (2147483649 = 2147483648) := q38
      refine x_const (np := 34) (x := 9223372039002259456) (a := 2147483648) (by decide +kernel) (by decide) (by decide) ?_
      refine x_retI (np := 35) (x := 0) (by decide +kernel) (by decide) (Or.inl (by decide +kernel)) ⟨_, rfl, (by decide), ?_⟩
      exact ⟨j34, f36, (by first | decide | omega)⟩
    have q30 : ¬ (2147483649 ≠ 2147483648) := q30
    exfalso; omega
  have q26 : ¬ (v9 < a1) := q26
  refine x_const (np := 11) (x := 9223372043297226753) (a := 2147483649) (by decide +kernel) (by decide) (by decide) ?_
  refine x_goto (np := 14) (x := 15) (by decide +kernel) ?_
  refine x_retI (np := 16) (x := 0) (by decide +kernel) (by decide) (Or.inr ⟨by decide +kernel, by first | decide | omega, by first | decide | omega⟩) ⟨_, rfl, (by decide), ?_⟩
  refine x_ifz (k := 1) (tg := 20) (np := 16) (by decide +kernel) (by decide) (by decide) (fun q39 => ?_) (fun q40 => ?_)
  · have q39 : 2147483649 ≠ 2147483648 := q39
    refine x_const (np := 21) (x := 9223372039002259456) (a := 2147483648) (by decide +kernel) (by decide) (by decide) ?_
    refine x_retI (np := 22) (x := 0) (by decide +kernel) (by decide) (Or.inr ⟨by decide +kernel, by first | decide | omega, by first | decide | omega⟩) ⟨_, rfl, (by decide), ?_⟩
    refine x_retI (np := 7) (x := 0) (by decide +kernel) (by decide) (Or.inr ⟨by decide +kernel, by first | decide | omega, by first | decide | omega⟩) ⟨_, rfl, (by decide), ?_⟩
    refine x_ifz (k := 1) (tg := 21) (np := 14) (by decide +kernel) (by decide) (by decide) (fun q41 => ?_) (fun q42 => ?_)
    · have q41 : 2147483648 ≠ 2147483648 := q41
      exfalso; omega
    have q42 : ¬ (2147483648 ≠ 2147483648) := q42
    refine x_iload (np := 15) (x := 2) (by decide +kernel) rfl la2 ?_
    refine x_nI (t := 0) (mj := 160) (n := 1) (rc := 0) (ml := 1) (nr := 1) (np := 18) (as := [iv_c a2]) (rest := [x_r 75]) (lo1 := [iv_c a2]) (by decide +kernel) (by decide) (by decide +kernel) (Or.inl rfl) rfl rfl (x_wi la2 x_wn) (x_wr (by decide) x_wn) (by decide) rfl ?_
    refine x_iload (np := 1) (x := 0) (by decide +kernel) rfl la2 ?_
    refine x_const (np := 2) (x := 9223372039002259456) (a := 2147483648) (by decide +kernel) (by decide) (by decide) ?_
    refine x_const (np := 4) (x := 9223372086246899723) (a := 2147483659) (by decide +kernel) (by decide) (by decide) ?_
    refine x_nI (t := 0) (mj := 153) (n := 3) (rc := 0) (ml := 3) (nr := 0) (np := 7) (as := [iv_c a2, iv_c 2147483648, iv_c 2147483659]) (rest := []) (lo1 := [iv_c a2, iv_c 2147483648, iv_c 2147483659]) (by decide +kernel) (by decide) (by decide +kernel) (Or.inl rfl) rfl rfl (x_wi la2 (x_wi (by decide) (x_wi (by decide) x_wn))) x_wn (by decide) rfl ?_
    refine x_iload (np := 1) (x := 0) (by decide +kernel) rfl la2 ?_
    refine x_iload (np := 2) (x := 1) (by decide +kernel) rfl (by decide) ?_
    refine x_icmp (k := 2) (tg := 14) (np := 5) (by decide +kernel) (by decide) la2 (by decide) (fun q43 => ?_) (fun q44 => ?_)
    · have q43 : a2 < 2147483648 := q43
      refine x_const (np := 15) (x := 9223372039002259456) (a := 2147483648) (by decide +kernel) (by decide) (by decide) ?_
      refine x_retI (np := 16) (x := 0) (by decide +kernel) (by decide) (Or.inr ⟨by decide +kernel, by first | decide | omega, by first | decide | omega⟩) ⟨_, rfl, (by decide), ?_⟩
      refine x_ifz (k := 1) (tg := 14) (np := 10) (by decide +kernel) (by decide) (by decide) (fun q45 => ?_) (fun q46 => ?_)
      · have q45 : 2147483648 ≠ 2147483648 := q45
        exfalso; omega
      have q46 : ¬ (2147483648 ≠ 2147483648) := q46
      refine x_const (np := 11) (x := 9223372043297226753) (a := 2147483649) (by decide +kernel) (by decide) (by decide) ?_
      refine x_goto (np := 14) (x := 15) (by decide +kernel) ?_
      refine x_retI (np := 16) (x := 0) (by decide +kernel) (by decide) (Or.inr ⟨by decide +kernel, by first | decide | omega, by first | decide | omega⟩) ⟨_, rfl, (by decide), ?_⟩
      refine x_ifz (k := 0) (tg := 25) (np := 21) (by decide +kernel) (by decide) (by decide) (fun q47 => ?_) (fun q48 => ?_)
      · have q47 : 2147483649 = 2147483648 := q47
        exfalso; omega
      have q48 : ¬ (2147483649 = 2147483648) := q48
      refine x_const (np := 22) (x := 9223372043297226753) (a := 2147483649) (by decide +kernel) (by decide) (by decide) ?_
      refine x_goto (np := 25) (x := 26) (by decide +kernel) ?_
      refine x_const (np := 27) (x := 9223372043297226753) (a := 2147483649) (by decide +kernel) (by decide) (by decide) ?_
      refine x_nI (t := 6) (mj := 152) (n := 3) (rc := 12) (ml := 3) (nr := 0) (np := 30) (as := [x_r 75, iv_c 2147483649, iv_c 2147483649]) (rest := []) (lo1 := [x_r 75, iv_c 2147483649, iv_c 2147483649]) (by decide +kernel) (by decide) (by decide +kernel) (x_rb_of (by decide +kernel)) rfl rfl (x_wr (by decide) (x_wi (by decide) (x_wi (by decide) x_wn))) x_wn (by decide) rfl ?_
      refine x_iload (np := 1) (x := 1) (by decide +kernel) rfl (by decide) ?_
      refine x_ifz (k := 0) (tg := 9) (np := 4) (by decide +kernel) (by decide) (by decide) (fun q49 => ?_) (fun q50 => ?_)
      · have q49 : 2147483649 = 2147483648 := q49
        exfalso; omega
      have q50 : ¬ (2147483649 = 2147483648) := q50
      refine x_aload (np := 5) (x := 0) (by decide +kernel) rfl (x_nc_le (by decide)) ?_
      refine x_iload (np := 6) (x := 2) (by decide +kernel) rfl (by decide) ?_
      refine x_putI (np := 9) (x := 704) (f := 0) (by decide +kernel) (by decide +kernel) (by decide) (Or.inl (by decide)) ?_
      have j52 := jU (e := 0) (v := 2147483649) 0 j2 rg_75_0_0_1 (by first | decide | omega) (by first | decide | omega) (by first | decide | omega)
      have f54 := jF (e := 0) (v := 2147483649) 0 f4 rg_75_0_0_1 (by first | decide | omega) (by first | decide | omega) (by decide)
      generalize e53 : x_up h1 75 0 2147483649 = h51 at j52 f54 ⊢
      refine x_iload (np := 10) (x := 1) (by decide +kernel) rfl (by decide) ?_
      refine x_retI (np := 11) (x := 0) (by decide +kernel) (by decide) (Or.inr ⟨by decide +kernel, by first | decide | omega, by first | decide | omega⟩) ⟨_, rfl, (by decide), ?_⟩
      refine x_ifz (k := 0) (tg := 35) (np := 33) (by decide +kernel) (by decide) (by decide) (fun q55 => ?_) (fun q56 => ?_)
      · have q55 : 2147483649 = 2147483648 := q55
        exfalso; omega
      have q56 : ¬ (2147483649 = 2147483648) := q56
      refine x_const (np := 34) (x := 9223372039002259456) (a := 2147483648) (by decide +kernel) (by decide) (by decide) ?_
      refine x_retI (np := 35) (x := 0) (by decide +kernel) (by decide) (Or.inl (by decide +kernel)) ⟨_, rfl, (by decide), ?_⟩
      exact ⟨j52, f54, (by first | decide | omega)⟩
    have q44 : ¬ (a2 < 2147483648) := q44
    refine x_iload (np := 6) (x := 0) (by decide +kernel) rfl la2 ?_
    refine x_iload (np := 7) (x := 2) (by decide +kernel) rfl (by decide) ?_
    refine x_icmp (k := 4) (tg := 14) (np := 10) (by decide +kernel) (by decide) la2 (by decide) (fun q57 => ?_) (fun q58 => ?_)
    · have q57 : 2147483659 < a2 := q57
      refine x_const (np := 15) (x := 9223372039002259456) (a := 2147483648) (by decide +kernel) (by decide) (by decide) ?_
      refine x_retI (np := 16) (x := 0) (by decide +kernel) (by decide) (Or.inr ⟨by decide +kernel, by first | decide | omega, by first | decide | omega⟩) ⟨_, rfl, (by decide), ?_⟩
      refine x_ifz (k := 1) (tg := 14) (np := 10) (by decide +kernel) (by decide) (by decide) (fun q59 => ?_) (fun q60 => ?_)
      · have q59 : 2147483648 ≠ 2147483648 := q59
        exfalso; omega
      have q60 : ¬ (2147483648 ≠ 2147483648) := q60
      refine x_const (np := 11) (x := 9223372043297226753) (a := 2147483649) (by decide +kernel) (by decide) (by decide) ?_
      refine x_goto (np := 14) (x := 15) (by decide +kernel) ?_
      refine x_retI (np := 16) (x := 0) (by decide +kernel) (by decide) (Or.inr ⟨by decide +kernel, by first | decide | omega, by first | decide | omega⟩) ⟨_, rfl, (by decide), ?_⟩
      refine x_ifz (k := 0) (tg := 25) (np := 21) (by decide +kernel) (by decide) (by decide) (fun q61 => ?_) (fun q62 => ?_)
      · have q61 : 2147483649 = 2147483648 := q61
        exfalso; omega
      have q62 : ¬ (2147483649 = 2147483648) := q62
      refine x_const (np := 22) (x := 9223372043297226753) (a := 2147483649) (by decide +kernel) (by decide) (by decide) ?_
      refine x_goto (np := 25) (x := 26) (by decide +kernel) ?_
      refine x_const (np := 27) (x := 9223372043297226753) (a := 2147483649) (by decide +kernel) (by decide) (by decide) ?_
      refine x_nI (t := 6) (mj := 152) (n := 3) (rc := 12) (ml := 3) (nr := 0) (np := 30) (as := [x_r 75, iv_c 2147483649, iv_c 2147483649]) (rest := []) (lo1 := [x_r 75, iv_c 2147483649, iv_c 2147483649]) (by decide +kernel) (by decide) (by decide +kernel) (x_rb_of (by decide +kernel)) rfl rfl (x_wr (by decide) (x_wi (by decide) (x_wi (by decide) x_wn))) x_wn (by decide) rfl ?_
      refine x_iload (np := 1) (x := 1) (by decide +kernel) rfl (by decide) ?_
      refine x_ifz (k := 0) (tg := 9) (np := 4) (by decide +kernel) (by decide) (by decide) (fun q63 => ?_) (fun q64 => ?_)
      · have q63 : 2147483649 = 2147483648 := q63
        exfalso; omega
      have q64 : ¬ (2147483649 = 2147483648) := q64
      refine x_aload (np := 5) (x := 0) (by decide +kernel) rfl (x_nc_le (by decide)) ?_
      refine x_iload (np := 6) (x := 2) (by decide +kernel) rfl (by decide) ?_
      refine x_putI (np := 9) (x := 704) (f := 0) (by decide +kernel) (by decide +kernel) (by decide) (Or.inl (by decide)) ?_
      have j66 := jU (e := 0) (v := 2147483649) 0 j2 rg_75_0_0_1 (by first | decide | omega) (by first | decide | omega) (by first | decide | omega)
      have f68 := jF (e := 0) (v := 2147483649) 0 f4 rg_75_0_0_1 (by first | decide | omega) (by first | decide | omega) (by decide)
      generalize e67 : x_up h1 75 0 2147483649 = h65 at j66 f68 ⊢
      refine x_iload (np := 10) (x := 1) (by decide +kernel) rfl (by decide) ?_
      refine x_retI (np := 11) (x := 0) (by decide +kernel) (by decide) (Or.inr ⟨by decide +kernel, by first | decide | omega, by first | decide | omega⟩) ⟨_, rfl, (by decide), ?_⟩
      refine x_ifz (k := 0) (tg := 35) (np := 33) (by decide +kernel) (by decide) (by decide) (fun q69 => ?_) (fun q70 => ?_)
      · have q69 : 2147483649 = 2147483648 := q69
        exfalso; omega
      have q70 : ¬ (2147483649 = 2147483648) := q70
      refine x_const (np := 34) (x := 9223372039002259456) (a := 2147483648) (by decide +kernel) (by decide) (by decide) ?_
      refine x_retI (np := 35) (x := 0) (by decide +kernel) (by decide) (Or.inl (by decide +kernel)) ⟨_, rfl, (by decide), ?_⟩
      exact ⟨j66, f68, (by first | decide | omega)⟩
    have q58 : ¬ (2147483659 < a2) := q58
    refine x_const (np := 11) (x := 9223372043297226753) (a := 2147483649) (by decide +kernel) (by decide) (by decide) ?_
    refine x_goto (np := 14) (x := 15) (by decide +kernel) ?_
    refine x_retI (np := 16) (x := 0) (by decide +kernel) (by decide) (Or.inr ⟨by decide +kernel, by first | decide | omega, by first | decide | omega⟩) ⟨_, rfl, (by decide), ?_⟩
    refine x_ifz (k := 1) (tg := 14) (np := 10) (by decide +kernel) (by decide) (by decide) (fun q71 => ?_) (fun q72 => ?_)
    · have q71 : 2147483649 ≠ 2147483648 := q71
      refine x_const (np := 15) (x := 9223372039002259456) (a := 2147483648) (by decide +kernel) (by decide) (by decide) ?_
      refine x_retI (np := 16) (x := 0) (by decide +kernel) (by decide) (Or.inr ⟨by decide +kernel, by first | decide | omega, by first | decide | omega⟩) ⟨_, rfl, (by decide), ?_⟩
      refine x_ifz (k := 0) (tg := 25) (np := 21) (by decide +kernel) (by decide) (by decide) (fun q73 => ?_) (fun q74 => ?_)
      · have q73 : 2147483648 = 2147483648 := q73
        refine x_const (np := 26) (x := 9223372039002259456) (a := 2147483648) (by decide +kernel) (by decide) (by decide) ?_
        refine x_const (np := 27) (x := 9223372043297226753) (a := 2147483649) (by decide +kernel) (by decide) (by decide) ?_
        refine x_nI (t := 6) (mj := 152) (n := 3) (rc := 12) (ml := 3) (nr := 0) (np := 30) (as := [x_r 75, iv_c 2147483648, iv_c 2147483649]) (rest := []) (lo1 := [x_r 75, iv_c 2147483648, iv_c 2147483649]) (by decide +kernel) (by decide) (by decide +kernel) (x_rb_of (by decide +kernel)) rfl rfl (x_wr (by decide) (x_wi (by decide) (x_wi (by decide) x_wn))) x_wn (by decide) rfl ?_
        refine x_iload (np := 1) (x := 1) (by decide +kernel) rfl (by decide) ?_
        refine x_ifz (k := 0) (tg := 9) (np := 4) (by decide +kernel) (by decide) (by decide) (fun q75 => ?_) (fun q76 => ?_)
        · have q75 : 2147483648 = 2147483648 := q75
          refine x_iload (np := 10) (x := 1) (by decide +kernel) rfl (by decide) ?_
          refine x_retI (np := 11) (x := 0) (by decide +kernel) (by decide) (Or.inr ⟨by decide +kernel, by first | decide | omega, by first | decide | omega⟩) ⟨_, rfl, (by decide), ?_⟩
          refine x_ifz (k := 0) (tg := 35) (np := 33) (by decide +kernel) (by decide) (by decide) (fun q77 => ?_) (fun q78 => ?_)
          · have q77 : 2147483648 = 2147483648 := q77
            refine x_aload (np := 36) (x := 0) (by decide +kernel) rfl (x_nc_le (by decide)) ?_
            have m82 : WT 76 h1 := by rw [← e3]; exact WT.oth hW hJ (by decide)
            refine x_cV (t := 6) (mj := 210) (n := 1) (rc := 12) (ml := 5) (nr := 0) (np := 39) (as := [x_r 75]) (rest := []) (lo1 := [x_r 75, 147573952589676412928, 147573952589676412928, 147573952589676412928, 147573952589676412928]) (by decide +kernel) (by decide) (by decide +kernel) (x_rb_of (by decide +kernel)) rfl rfl (x_wr (by decide) x_wn) x_wn (by decide) rfl (c210_75 j2  m82) (fun h83 q81 => ?_)
            obtain ⟨j84, f85⟩ := q81
            have f88 := Fr.trans f4 f85 (by decide)
            refine x_iload (np := 40) (x := 2) (by decide +kernel) rfl la2 ?_
            refine x_istore (np := 41) (x := 3) (lo' := [x_r 75, iv_c a1, iv_c a2, iv_c a2]) (by decide +kernel) la2 (Nat.le_of_ble_eq_true rfl) rfl ?_
            have p119 : ∀ (n : Nat) (v117 : Nat), 4294967296 - v117 < n → (2147483648 ≤ v117 ∧ v117 ≤ 2147483660) → X sc 241 (d + 5) (xI fun r h' => J h' ∧ Fr 135291600897 h h' ∧ (2147483647 ≤ r ∧ r ≤ 2147483659)) 0 0 41 [x_r 75, iv_c a1, iv_c a2, iv_c v117] [] h83 := by
              intro n
              induction n with
              | zero => intro v117 q120; exact absurd q120 (Nat.not_lt_zero _)
              | succ n i121 =>
                intro v117 q120 b118
                refine x_iload (np := 42) (x := 3) (by decide +kernel) rfl (by first | decide | omega) ?_
                refine x_const (np := 44) (x := 9223372090541867020) (a := 2147483660) (by decide +kernel) (by decide) (by decide) ?_
                refine x_icmp (k := 3) (tg := 65) (np := 47) (by decide +kernel) (by decide) (by first | decide | omega) (by decide) (fun q122 => ?_) (fun q123 => ?_)
                · have q122 : 2147483660 ≤ v117 := q122
                  refine x_const (np := 66) (x := 9223372034707292159) (a := 2147483647) (by decide +kernel) (by decide) (by decide) ?_
                  refine x_retI (np := 67) (x := 0) (by decide +kernel) (by decide) (Or.inl (by decide +kernel)) ⟨_, rfl, (by decide), ?_⟩
                  exact ⟨j84, f88, (by first | decide | omega)⟩
                have q123 : ¬ (2147483660 ≤ v117) := q123
                refine x_aload (np := 48) (x := 0) (by decide +kernel) rfl (x_nc_le (by decide)) ?_
                refine x_iload (np := 49) (x := 1) (by decide +kernel) rfl la1 ?_
                refine x_iload (np := 50) (x := 3) (by decide +kernel) rfl (by first | decide | omega) ?_
                refine x_nI (t := 6) (mj := 211) (n := 3) (rc := 12) (ml := 3) (nr := 0) (np := 53) (as := [x_r 75, iv_c a1, iv_c v117]) (rest := []) (lo1 := [x_r 75, iv_c a1, iv_c v117]) (by decide +kernel) (by decide) (by decide +kernel) (x_rb_of (by decide +kernel)) rfl rfl (x_wr (by decide) (x_wi la1 (x_wi (by first | decide | omega) x_wn))) x_wn (by decide) rfl ?_
                refine x_aload (np := 1) (x := 0) (by decide +kernel) rfl (x_nc_le (by decide)) ?_
                have q124 : h83 75 20 = 87 := by have z := jB (e := 20) 0 j84 rg_75_20_0_1 (by decide) (by decide); omega
                refine x_getR (np := 4) (x := 724) (f := 20) (q := 87) (by decide +kernel) (by decide) (by decide +kernel) q124 ?_
                refine x_const (np := 6) (x := 9223372090541867020) (a := 2147483660) (by decide +kernel) (by decide) (by decide) ?_
                refine x_iload (np := 7) (x := 1) (by decide +kernel) rfl la1 ?_
                obtain ⟨u125, q126⟩ : ∃ z, a1 = 2147483648 + z := ⟨a1 - 2147483648, by first | decide | omega⟩
                refine x_imul (np := 8) (x := 0) (i := 12) (j := u125) (v := (2147483648 + 12 * u125)) (by decide +kernel) (by first | decide | omega) (by first | decide | omega) (by first | decide | omega) (by first | decide | omega) (by decide) la1 ?_
                refine x_iload (np := 9) (x := 2) (by decide +kernel) rfl (by first | decide | omega) ?_
                refine x_iadd (np := 10) (x := 0) (v := (12 * u125 + v117)) (by decide +kernel) (by first | decide | omega) (by first | decide | omega) (by first | decide | omega) (by first | decide | omega) ?_
                obtain ⟨u128, q129⟩ : ∃ z, v117 = 2147483648 + z := ⟨v117 - 2147483648, by first | decide | omega⟩
                have b130 := jB (e := (12 * u125 + u128)) (12 * u125 + u128) j84 rg_87_0_1_72 (by first | decide | omega) (by first | decide | omega)
                refine x_aldC (np := 11) (x := 0) (n := 72) (i := (12 * u125 + u128)) (q := ((h83 87 (12 * u125 + u128)))) (by decide +kernel) (by decide +kernel) (by first | decide | omega) (by first | decide | omega) (by decide) rfl (fun l131 => ?_)
                refine x_retI (np := 12) (x := 0) (by decide +kernel) l131 (Or.inl (by decide +kernel)) ⟨_, rfl, l131, ?_⟩
                refine x_iload (np := 54) (x := 1) (by decide +kernel) rfl la1 ?_
                refine x_icmp (k := 1) (tg := 59) (np := 57) (by decide +kernel) (by decide) l131 la1 (fun q132 => ?_) (fun q133 => ?_)
                · have q132 : ((h83 87 (12 * u125 + u128))) ≠ a1 := q132
                  refine x_iinc (np := 62) (i := 3) (j := 2147483649) (v := (1 + v117)) (lo' := [x_r 75, iv_c a1, iv_c a2, iv_c (1 + v117)]) (by decide +kernel) (by decide) (by decide) rfl (by first | decide | omega) (by first | decide | omega) (by first | decide | omega) rfl ?_
                  refine x_goto (np := 65) (x := 41) (by decide +kernel) ?_
                  exact i121 (1 + v117) (by first | decide | omega) (by first | decide | omega)
                have q133 : ¬ (((h83 87 (12 * u125 + u128))) ≠ a1) := q133
                refine x_iload (np := 58) (x := 3) (by decide +kernel) rfl (by first | decide | omega) ?_
                refine x_retI (np := 59) (x := 0) (by decide +kernel) (by first | decide | omega) (Or.inl (by decide +kernel)) ⟨_, rfl, (by first | decide | omega), ?_⟩
                exact ⟨j84, f88, (by first | decide | omega)⟩
            exact p119 _ a2 (Nat.lt_succ_self _) (by first | decide | omega)
          have q78 : ¬ (2147483648 = 2147483648) := q78
          exfalso; omega
        have q76 : ¬ (2147483648 = 2147483648) := q76
        exfalso; omega
      have q74 : ¬ (2147483648 = 2147483648) := q74
      exfalso; omega
    have q72 : ¬ (2147483649 ≠ 2147483648) := q72
    exfalso; omega
  have q40 : ¬ (2147483649 ≠ 2147483648) := q40
  exfalso; omega
set_option maxHeartbeats 0 in
/-- LentNamesModel.wish(II)I -/
theorem c261_75 {sc : Nat × Nat} {d a1 a2 : Nat} {h : xh} (hJ : J h) (ba1 : 0 ≤ a1 ∧ a1 ≤ 4294967295) (ba2 : 0 ≤ a2 ∧ a2 ≤ 4294967295) (hW : WT 76 h) : X sc 261 (d + 3) (xI fun r h' => J h' ∧ Fr 33685504 h h' ∧ (0 ≤ r ∧ r ≤ 4294967295) ∧ WT 76 h') 0 0 0 [x_r 75, iv_c a1, iv_c a2, 147573952589676412928] [] h := by
  have la1 : a1 < 4294967296 := by first | decide | omega
  have la2 : a2 < 4294967296 := by first | decide | omega
  have hF := Fr.refl 33685504 h
  refine x_aload (np := 1) (x := 0) (by decide +kernel) rfl (x_nc_le (by decide)) ?_
  refine x_const (np := 2) (x := 9223372039002259456) (a := 2147483648) (by decide +kernel) (by decide) (by decide) ?_
  refine x_putI (np := 5) (x := 704) (f := 0) (by decide +kernel) (by decide +kernel) (by decide) (Or.inl (by decide)) ?_
  have j2 := jU (e := 0) (v := 2147483648) 0 hJ rg_75_0_0_1 (by first | decide | omega) (by first | decide | omega) (by first | decide | omega)
  have f4 := jF (e := 0) (v := 2147483648) 0 hF rg_75_0_0_1 (by first | decide | omega) (by first | decide | omega) (by decide)
  generalize e3 : x_up h 75 0 2147483648 = h1 at j2 f4 ⊢
  refine x_aload (np := 6) (x := 0) (by decide +kernel) rfl (x_nc_le (by decide)) ?_
  refine x_aload (np := 7) (x := 0) (by decide +kernel) rfl (x_nc_le (by decide)) ?_
  refine x_iload (np := 8) (x := 1) (by decide +kernel) rfl la1 ?_
  refine x_nI (t := 6) (mj := 225) (n := 2) (rc := 12) (ml := 2) (nr := 1) (np := 11) (as := [x_r 75, iv_c a1]) (rest := [x_r 75]) (lo1 := [x_r 75, iv_c a1]) (by decide +kernel) (by decide) (by decide +kernel) (x_rb_of (by decide +kernel)) rfl rfl (x_wr (by decide) (x_wi la1 x_wn)) (x_wr (by decide) x_wn) (by decide) rfl ?_
  refine x_aload (np := 1) (x := 0) (by decide +kernel) rfl (x_nc_le (by decide)) ?_
  refine x_iload (np := 2) (x := 1) (by decide +kernel) rfl la1 ?_
  refine x_const (np := 3) (x := 9223372051887161347) (a := 2147483651) (by decide +kernel) (by decide) (by decide) ?_
  refine x_nI (t := 6) (mj := 158) (n := 3) (rc := 12) (ml := 3) (nr := 0) (np := 6) (as := [x_r 75, iv_c a1, iv_c 2147483651]) (rest := []) (lo1 := [x_r 75, iv_c a1, iv_c 2147483651]) (by decide +kernel) (by decide) (by decide +kernel) (x_rb_of (by decide +kernel)) rfl rfl (x_wr (by decide) (x_wi la1 (x_wi (by decide) x_wn))) x_wn (by decide) rfl ?_
  refine x_iload (np := 1) (x := 1) (by decide +kernel) rfl la1 ?_
  refine x_const (np := 2) (x := 9223372039002259456) (a := 2147483648) (by decide +kernel) (by decide) (by decide) ?_
  refine x_aload (np := 3) (x := 0) (by decide +kernel) rfl (x_nc_le (by decide)) ?_
  have q5 : h1 75 1 = 76 := by have z := jB (e := 1) 0 j2 rg_75_1_0_1 (by decide) (by decide); omega
  refine x_getR (np := 6) (x := 705) (f := 1) (q := 76) (by decide +kernel) (by decide) (by decide +kernel) q5 ?_
  refine x_iload (np := 7) (x := 2) (by decide +kernel) rfl (by decide) ?_
  have q6 : h1 76 3 = h 76 3 := by rw [← e3]; exact x_up_k (by decide)
  have b7 := jB (e := 3) 0 hJ rg_76_3_0_1 (by first | decide | omega) (by first | decide | omega)
  refine x_aldC (np := 8) (x := 0) (n := 1952) (i := 3) (q := (h 76 3)) (by decide +kernel) (by decide +kernel) (by first | decide | omega) (by first | decide | omega) (by decide) q6 (fun l8 => ?_)
  refine x_const (np := 9) (x := 9223372043297226753) (a := 2147483649) (by decide +kernel) (by decide) (by decide) ?_
  obtain ⟨v9, q10⟩ : ∃ z, z + 2147483649 = (h 76 3) + 2147483648 := ⟨(h 76 3) + 2147483648 - 2147483649, by first | decide | omega⟩
  refine x_isub (np := 10) (x := 0) (v := v9) (by decide +kernel) l8 (by decide) (by first | decide | omega) (by first | decide | omega) ?_
  refine x_nI (t := 0) (mj := 153) (n := 3) (rc := 0) (ml := 3) (nr := 0) (np := 13) (as := [iv_c a1, iv_c 2147483648, iv_c v9]) (rest := []) (lo1 := [iv_c a1, iv_c 2147483648, iv_c v9]) (by decide +kernel) (by decide) (by decide +kernel) (Or.inl rfl) rfl rfl (x_wi la1 (x_wi (by decide) (x_wi (by first | decide | omega) x_wn))) x_wn (by decide) rfl ?_
  refine x_iload (np := 1) (x := 0) (by decide +kernel) rfl la1 ?_
  refine x_iload (np := 2) (x := 1) (by decide +kernel) rfl (by decide) ?_
  refine x_icmp (k := 2) (tg := 14) (np := 5) (by decide +kernel) (by decide) la1 (by decide) (fun q11 => ?_) (fun q12 => ?_)
  · have q11 : a1 < 2147483648 := q11
    refine x_const (np := 15) (x := 9223372039002259456) (a := 2147483648) (by decide +kernel) (by decide) (by decide) ?_
    refine x_retI (np := 16) (x := 0) (by decide +kernel) (by decide) (Or.inr ⟨by decide +kernel, by first | decide | omega, by first | decide | omega⟩) ⟨_, rfl, (by decide), ?_⟩
    refine x_ifz (k := 1) (tg := 20) (np := 16) (by decide +kernel) (by decide) (by decide) (fun q13 => ?_) (fun q14 => ?_)
    · have q13 : 2147483648 ≠ 2147483648 := q13
      exfalso; omega
    have q14 : ¬ (2147483648 ≠ 2147483648) := q14
    refine x_const (np := 17) (x := 9223372043297226753) (a := 2147483649) (by decide +kernel) (by decide) (by decide) ?_
    refine x_goto (np := 20) (x := 21) (by decide +kernel) ?_
    refine x_retI (np := 22) (x := 0) (by decide +kernel) (by decide) (Or.inr ⟨by decide +kernel, by first | decide | omega, by first | decide | omega⟩) ⟨_, rfl, (by decide), ?_⟩
    refine x_retI (np := 7) (x := 0) (by decide +kernel) (by decide) (Or.inr ⟨by decide +kernel, by first | decide | omega, by first | decide | omega⟩) ⟨_, rfl, (by decide), ?_⟩
    refine x_ifz (k := 1) (tg := 27) (np := 14) (by decide +kernel) (by decide) (by decide) (fun q15 => ?_) (fun q16 => ?_)
    · have q15 : 2147483649 ≠ 2147483648 := q15
      refine x_const (np := 28) (x := 9223372043297226753) (a := 2147483649) (by decide +kernel) (by decide) (by decide) ?_
      refine x_goto (np := 31) (x := 32) (by decide +kernel) ?_
      refine x_const (np := 33) (x := 9223372043297226753) (a := 2147483649) (by decide +kernel) (by decide) (by decide) ?_
      refine x_nI (t := 6) (mj := 152) (n := 3) (rc := 12) (ml := 3) (nr := 0) (np := 36) (as := [x_r 75, iv_c 2147483649, iv_c 2147483649]) (rest := []) (lo1 := [x_r 75, iv_c 2147483649, iv_c 2147483649]) (by decide +kernel) (by decide) (by decide +kernel) (x_rb_of (by decide +kernel)) rfl rfl (x_wr (by decide) (x_wi (by decide) (x_wi (by decide) x_wn))) x_wn (by decide) rfl ?_
      refine x_iload (np := 1) (x := 1) (by decide +kernel) rfl (by decide) ?_
      refine x_ifz (k := 0) (tg := 9) (np := 4) (by decide +kernel) (by decide) (by decide) (fun q17 => ?_) (fun q18 => ?_)
      · have q17 : 2147483649 = 2147483648 := q17
        exfalso; omega
      have q18 : ¬ (2147483649 = 2147483648) := q18
      refine x_aload (np := 5) (x := 0) (by decide +kernel) rfl (x_nc_le (by decide)) ?_
      refine x_iload (np := 6) (x := 2) (by decide +kernel) rfl (by decide) ?_
      refine x_putI (np := 9) (x := 704) (f := 0) (by decide +kernel) (by decide +kernel) (by decide) (Or.inl (by decide)) ?_
      have j20 := jU (e := 0) (v := 2147483649) 0 j2 rg_75_0_0_1 (by first | decide | omega) (by first | decide | omega) (by first | decide | omega)
      have f22 := jF (e := 0) (v := 2147483649) 0 f4 rg_75_0_0_1 (by first | decide | omega) (by first | decide | omega) (by decide)
      generalize e21 : x_up h1 75 0 2147483649 = h19 at j20 f22 ⊢
      refine x_iload (np := 10) (x := 1) (by decide +kernel) rfl (by decide) ?_
      refine x_retI (np := 11) (x := 0) (by decide +kernel) (by decide) (Or.inr ⟨by decide +kernel, by first | decide | omega, by first | decide | omega⟩) ⟨_, rfl, (by decide), ?_⟩
      refine x_ifz (k := 0) (tg := 41) (np := 39) (by decide +kernel) (by decide) (by decide) (fun q23 => ?_) (fun q24 => ?_)
      · have q23 : 2147483649 = 2147483648 := q23
        exfalso; omega
      have q24 : ¬ (2147483649 = 2147483648) := q24
      refine x_const (np := 40) (x := 9223372039002259456) (a := 2147483648) (by decide +kernel) (by decide) (by decide) ?_
      have m26 : WT 76 h1 := by rw [← e3]; exact WT.oth hW hJ (by decide)
      have m25 : WT 76 h19 := by rw [← e21]; exact WT.oth m26 j2 (by decide)
      refine x_retI (np := 41) (x := 0) (by decide +kernel) (by decide) (Or.inl (by decide +kernel)) ⟨_, rfl, (by decide), ?_⟩
      exact ⟨j20, f22, (by first | decide | omega), m25⟩
    have q16 : ¬ (2147483649 ≠ 2147483648) := q16
    exfalso; omega
  have q12 : ¬ (a1 < 2147483648) := q12
  refine x_iload (np := 6) (x := 0) (by decide +kernel) rfl la1 ?_
  refine x_iload (np := 7) (x := 2) (by decide +kernel) rfl (by first | decide | omega) ?_
  refine x_icmp (k := 4) (tg := 14) (np := 10) (by decide +kernel) (by decide) la1 (by first | decide | omega) (fun q27 => ?_) (fun q28 => ?_)
  · have q27 : v9 < a1 := q27
    refine x_const (np := 15) (x := 9223372039002259456) (a := 2147483648) (by decide +kernel) (by decide) (by decide) ?_
    refine x_retI (np := 16) (x := 0) (by decide +kernel) (by decide) (Or.inr ⟨by decide +kernel, by first | decide | omega, by first | decide | omega⟩) ⟨_, rfl, (by decide), ?_⟩
    refine x_ifz (k := 1) (tg := 20) (np := 16) (by decide +kernel) (by decide) (by decide) (fun q29 => ?_) (fun q30 => ?_)
    · have q29 : 2147483648 ≠ 2147483648 := q29
      exfalso; omega
    have q30 : ¬ (2147483648 ≠ 2147483648) := q30
    refine x_const (np := 17) (x := 9223372043297226753) (a := 2147483649) (by decide +kernel) (by decide) (by decide) ?_
    refine x_goto (np := 20) (x := 21) (by decide +kernel) ?_
    refine x_retI (np := 22) (x := 0) (by decide +kernel) (by decide) (Or.inr ⟨by decide +kernel, by first | decide | omega, by first | decide | omega⟩) ⟨_, rfl, (by decide), ?_⟩
    refine x_retI (np := 7) (x := 0) (by decide +kernel) (by decide) (Or.inr ⟨by decide +kernel, by first | decide | omega, by first | decide | omega⟩) ⟨_, rfl, (by decide), ?_⟩
    refine x_ifz (k := 1) (tg := 27) (np := 14) (by decide +kernel) (by decide) (by decide) (fun q31 => ?_) (fun q32 => ?_)
    · have q31 : 2147483649 ≠ 2147483648 := q31
      refine x_const (np := 28) (x := 9223372043297226753) (a := 2147483649) (by decide +kernel) (by decide) (by decide) ?_
      refine x_goto (np := 31) (x := 32) (by decide +kernel) ?_
      refine x_const (np := 33) (x := 9223372043297226753) (a := 2147483649) (by decide +kernel) (by decide) (by decide) ?_
      refine x_nI (t := 6) (mj := 152) (n := 3) (rc := 12) (ml := 3) (nr := 0) (np := 36) (as := [x_r 75, iv_c 2147483649, iv_c 2147483649]) (rest := []) (lo1 := [x_r 75, iv_c 2147483649, iv_c 2147483649]) (by decide +kernel) (by decide) (by decide +kernel) (x_rb_of (by decide +kernel)) rfl rfl (x_wr (by decide) (x_wi (by decide) (x_wi (by decide) x_wn))) x_wn (by decide) rfl ?_
      refine x_iload (np := 1) (x := 1) (by decide +kernel) rfl (by decide) ?_
      refine x_ifz (k := 0) (tg := 9) (np := 4) (by decide +kernel) (by decide) (by decide) (fun q33 => ?_) (fun q34 => ?_)
      · have q33 : 2147483649 = 2147483648 := q33
        exfalso; omega
      have q34 : ¬ (2147483649 = 2147483648) := q34
      refine x_aload (np := 5) (x := 0) (by decide +kernel) rfl (x_nc_le (by decide)) ?_
      refine x_iload (np := 6) (x := 2) (by decide +kernel) rfl (by decide) ?_
      refine x_putI (np := 9) (x := 704) (f := 0) (by decide +kernel) (by decide +kernel) (by decide) (Or.inl (by decide)) ?_
      have j36 := jU (e := 0) (v := 2147483649) 0 j2 rg_75_0_0_1 (by first | decide | omega) (by first | decide | omega) (by first | decide | omega)
      have f38 := jF (e := 0) (v := 2147483649) 0 f4 rg_75_0_0_1 (by first | decide | omega) (by first | decide | omega) (by decide)
      generalize e37 : x_up h1 75 0 2147483649 = h35 at j36 f38 ⊢
      refine x_iload (np := 10) (x := 1) (by decide +kernel) rfl (by decide) ?_
      refine x_retI (np := 11) (x := 0) (by decide +kernel) (by decide) (Or.inr ⟨by decide +kernel, by first | decide | omega, by first | decide | omega⟩) ⟨_, rfl, (by decide), ?_⟩
      refine x_ifz (k := 0) (tg := 41) (np := 39) (by decide +kernel) (by decide) (by decide) (fun q39 => ?_) (fun q40 => ?_)
      · have q39 : 2147483649 = 2147483648 := q39
        exfalso; omega
      have q40 : ¬ (2147483649 = 2147483648) := q40
      refine x_const (np := 40) (x := 9223372039002259456) (a := 2147483648) (by decide +kernel) (by decide) (by decide) ?_
      have m42 : WT 76 h1 := by rw [← e3]; exact WT.oth hW hJ (by decide)
      have m41 : WT 76 h35 := by rw [← e37]; exact WT.oth m42 j2 (by decide)
      refine x_retI (np := 41) (x := 0) (by decide +kernel) (by decide) (Or.inl (by decide +kernel)) ⟨_, rfl, (by decide), ?_⟩
      exact ⟨j36, f38, (by first | decide | omega), m41⟩
    have q32 : ¬ (2147483649 ≠ 2147483648) := q32
    exfalso; omega
  have q28 : ¬ (v9 < a1) := q28
  refine x_const (np := 11) (x := 9223372043297226753) (a := 2147483649) (by decide +kernel) (by decide) (by decide) ?_
  refine x_goto (np := 14) (x := 15) (by decide +kernel) ?_
  refine x_retI (np := 16) (x := 0) (by decide +kernel) (by decide) (Or.inr ⟨by decide +kernel, by first | decide | omega, by first | decide | omega⟩) ⟨_, rfl, (by decide), ?_⟩
  refine x_ifz (k := 1) (tg := 20) (np := 16) (by decide +kernel) (by decide) (by decide) (fun q43 => ?_) (fun q44 => ?_)
  · have q43 : 2147483649 ≠ 2147483648 := q43
    refine x_const (np := 21) (x := 9223372039002259456) (a := 2147483648) (by decide +kernel) (by decide) (by decide) ?_
    refine x_retI (np := 22) (x := 0) (by decide +kernel) (by decide) (Or.inr ⟨by decide +kernel, by first | decide | omega, by first | decide | omega⟩) ⟨_, rfl, (by decide), ?_⟩
    refine x_retI (np := 7) (x := 0) (by decide +kernel) (by decide) (Or.inr ⟨by decide +kernel, by first | decide | omega, by first | decide | omega⟩) ⟨_, rfl, (by decide), ?_⟩
    refine x_ifz (k := 1) (tg := 27) (np := 14) (by decide +kernel) (by decide) (by decide) (fun q45 => ?_) (fun q46 => ?_)
    · have q45 : 2147483648 ≠ 2147483648 := q45
      exfalso; omega
    have q46 : ¬ (2147483648 ≠ 2147483648) := q46
    refine x_iload (np := 15) (x := 2) (by decide +kernel) rfl la2 ?_
    refine x_const (np := 16) (x := 9223372034707292159) (a := 2147483647) (by decide +kernel) (by decide) (by decide) ?_
    refine x_icmp (k := 0) (tg := 31) (np := 19) (by decide +kernel) (by decide) la2 (by decide) (fun q47 => ?_) (fun q48 => ?_)
    · have q47 : a2 = 2147483647 := q47
      refine x_const (np := 32) (x := 9223372039002259456) (a := 2147483648) (by decide +kernel) (by decide) (by decide) ?_
      refine x_const (np := 33) (x := 9223372043297226753) (a := 2147483649) (by decide +kernel) (by decide) (by decide) ?_
      refine x_nI (t := 6) (mj := 152) (n := 3) (rc := 12) (ml := 3) (nr := 0) (np := 36) (as := [x_r 75, iv_c 2147483648, iv_c 2147483649]) (rest := []) (lo1 := [x_r 75, iv_c 2147483648, iv_c 2147483649]) (by decide +kernel) (by decide) (by decide +kernel) (x_rb_of (by decide +kernel)) rfl rfl (x_wr (by decide) (x_wi (by decide) (x_wi (by decide) x_wn))) x_wn (by decide) rfl ?_
      refine x_iload (np := 1) (x := 1) (by decide +kernel) rfl (by decide) ?_
      refine x_ifz (k := 0) (tg := 9) (np := 4) (by decide +kernel) (by decide) (by decide) (fun q49 => ?_) (fun q50 => ?_)
      · have q49 : 2147483648 = 2147483648 := q49
        refine x_iload (np := 10) (x := 1) (by decide +kernel) rfl (by decide) ?_
        refine x_retI (np := 11) (x := 0) (by decide +kernel) (by decide) (Or.inr ⟨by decide +kernel, by first | decide | omega, by first | decide | omega⟩) ⟨_, rfl, (by decide), ?_⟩
        refine x_ifz (k := 0) (tg := 41) (np := 39) (by decide +kernel) (by decide) (by decide) (fun q51 => ?_) (fun q52 => ?_)
        · have q51 : 2147483648 = 2147483648 := q51
          refine x_aload (np := 42) (x := 0) (by decide +kernel) rfl (x_nc_le (by decide)) ?_
          refine x_iload (np := 43) (x := 1) (by decide +kernel) rfl la1 ?_
          refine x_const (np := 44) (x := 9223372051887161347) (a := 2147483651) (by decide +kernel) (by decide) (by decide) ?_
          refine x_nI (t := 6) (mj := 162) (n := 3) (rc := 12) (ml := 3) (nr := 0) (np := 47) (as := [x_r 75, iv_c a1, iv_c 2147483651]) (rest := []) (lo1 := [x_r 75, iv_c a1, iv_c 2147483651]) (by decide +kernel) (by decide) (by decide +kernel) (x_rb_of (by decide +kernel)) rfl rfl (x_wr (by decide) (x_wi la1 (x_wi (by decide) x_wn))) x_wn (by decide) rfl ?_
          refine x_aload (np := 1) (x := 0) (by decide +kernel) rfl (x_nc_le (by decide)) ?_
          have q53 : h1 75 1 = 76 := by have z := jB (e := 1) 0 j2 rg_75_1_0_1 (by decide) (by decide); omega
          refine x_getR (np := 4) (x := 705) (f := 1) (q := 76) (by decide +kernel) (by decide) (by decide +kernel) q53 ?_
          refine x_const (np := 7) (x := 9223372726197026976) (a := 2147483808) (by decide +kernel) (by decide) (by decide) ?_
          refine x_const (np := 8) (x := 9223372056182128644) (a := 2147483652) (by decide +kernel) (by decide) (by decide) ?_
          refine x_iload (np := 9) (x := 1) (by decide +kernel) rfl la1 ?_
          obtain ⟨u54, q55⟩ : ∃ z, a1 = 2147483648 + z := ⟨a1 - 2147483648, by first | decide | omega⟩
          refine x_imul (np := 10) (x := 0) (i := 4) (j := u54) (v := (2147483648 + 4 * u54)) (by decide +kernel) (by first | decide | omega) (by first | decide | omega) (by first | decide | omega) (by first | decide | omega) (by decide) la1 ?_
          refine x_iadd (np := 11) (x := 0) (v := (2147483808 + 4 * u54)) (by decide +kernel) (by decide) (by first | decide | omega) (by first | decide | omega) (by first | decide | omega) ?_
          refine x_iload (np := 12) (x := 2) (by decide +kernel) rfl (by decide) ?_
          refine x_iadd (np := 13) (x := 0) (v := (2147483811 + 4 * u54)) (by decide +kernel) (by first | decide | omega) (by decide) (by first | decide | omega) (by first | decide | omega) ?_
          have q57 : h1 76 (163 + 4 * u54) = h 76 (163 + 4 * u54) := by rw [← e3]; exact x_up_k (by decide)
          refine x_aldC (np := 14) (x := 0) (n := 1952) (i := (163 + 4 * u54)) (q := ((h 76 (163 + 4 * u54)))) (by decide +kernel) (by decide +kernel) (by first | decide | omega) (by first | decide | omega) (by decide) q57 (fun l58 => ?_)
          refine x_retI (np := 15) (x := 0) (by decide +kernel) l58 (Or.inl (by decide +kernel)) ⟨_, rfl, l58, ?_⟩
          refine x_istore (np := 48) (x := 3) (lo' := [x_r 75, iv_c a1, iv_c a2, iv_c ((h 76 (163 + 4 * u54)))]) (by decide +kernel) l58 (Nat.le_of_ble_eq_true rfl) rfl ?_
          refine x_aload (np := 49) (x := 0) (by decide +kernel) rfl (x_nc_le (by decide)) ?_
          have q59 : h1 75 1 = 76 := by have z := jB (e := 1) 0 j2 rg_75_1_0_1 (by decide) (by decide); omega
          refine x_getR (np := 52) (x := 705) (f := 1) (q := 76) (by decide +kernel) (by decide) (by decide +kernel) q59 ?_
          refine x_const (np := 55) (x := 9223372726197026976) (a := 2147483808) (by decide +kernel) (by decide) (by decide) ?_
          refine x_const (np := 56) (x := 9223372056182128644) (a := 2147483652) (by decide +kernel) (by decide) (by decide) ?_
          refine x_iload (np := 57) (x := 1) (by decide +kernel) rfl la1 ?_
          refine x_imul (np := 58) (x := 0) (i := 4) (j := u54) (v := (2147483648 + 4 * u54)) (by decide +kernel) (by first | decide | omega) (by first | decide | omega) (by first | decide | omega) (by first | decide | omega) (by decide) la1 ?_
          refine x_iadd (np := 59) (x := 0) (v := (2147483808 + 4 * u54)) (by decide +kernel) (by decide) (by first | decide | omega) (by first | decide | omega) (by first | decide | omega) ?_
          refine x_const (np := 60) (x := 9223372051887161347) (a := 2147483651) (by decide +kernel) (by decide) (by decide) ?_
          refine x_iadd (np := 61) (x := 0) (v := (2147483811 + 4 * u54)) (by decide +kernel) (by first | decide | omega) (by decide) (by first | decide | omega) (by first | decide | omega) ?_
          refine x_iload (np := 62) (x := 2) (by decide +kernel) rfl la2 ?_
          refine x_ast (np := 63) (x := 0) (kd := 1) (n := 1952) (i := (163 + 4 * u54)) (by decide +kernel) (Or.inl rfl) (by decide +kernel) (by first | decide | omega) (by first | decide | omega) (by decide) la2 (fun z => absurd z (by decide)) ?_
          have j62 := jU (e := (163 + 4 * u54)) (v := a2) u54 j2 rg_76_163_4_10 (by first | decide | omega) (by first | decide | omega) (by first | decide | omega)
          have f64 := jF (e := (163 + 4 * u54)) (v := a2) u54 f4 rg_76_163_4_10 (by first | decide | omega) (by first | decide | omega) (by decide)
          generalize e63 : x_up h1 76 (163 + 4 * u54) a2 = h61 at j62 f64 ⊢
          refine x_iload (np := 64) (x := 3) (by decide +kernel) rfl l58 ?_
          have m66 : WT 76 h1 := by rw [← e3]; exact WT.oth hW hJ (by decide)
          have m65 : WT 76 h61 := by rw [← e63]; exact WT.up m66 j2 (by first | decide | omega)
          refine x_retI (np := 65) (x := 0) (by decide +kernel) l58 (Or.inl (by decide +kernel)) ⟨_, rfl, l58, ?_⟩
          exact ⟨j62, f64, (by first | decide | omega), m65⟩
        have q52 : ¬ (2147483648 = 2147483648) := q52
        exfalso; omega
      have q50 : ¬ (2147483648 = 2147483648) := q50
      exfalso; omega
    have q48 : ¬ (a2 = 2147483647) := q48
    refine x_aload (np := 20) (x := 0) (by decide +kernel) rfl (x_nc_le (by decide)) ?_
    refine x_iload (np := 21) (x := 2) (by decide +kernel) rfl la2 ?_
    refine x_nI (t := 6) (mj := 159) (n := 2) (rc := 12) (ml := 2) (nr := 1) (np := 24) (as := [x_r 75, iv_c a2]) (rest := [x_r 75]) (lo1 := [x_r 75, iv_c a2]) (by decide +kernel) (by decide) (by decide +kernel) (x_rb_of (by decide +kernel)) rfl rfl (x_wr (by decide) (x_wi la2 x_wn)) (x_wr (by decide) x_wn) (by decide) rfl ?_
    refine x_aload (np := 1) (x := 0) (by decide +kernel) rfl (x_nc_le (by decide)) ?_
    refine x_iload (np := 2) (x := 1) (by decide +kernel) rfl la2 ?_
    refine x_const (np := 3) (x := 9223372039002259456) (a := 2147483648) (by decide +kernel) (by decide) (by decide) ?_
    refine x_nI (t := 6) (mj := 158) (n := 3) (rc := 12) (ml := 3) (nr := 0) (np := 6) (as := [x_r 75, iv_c a2, iv_c 2147483648]) (rest := []) (lo1 := [x_r 75, iv_c a2, iv_c 2147483648]) (by decide +kernel) (by decide) (by decide +kernel) (x_rb_of (by decide +kernel)) rfl rfl (x_wr (by decide) (x_wi la2 (x_wi (by decide) x_wn))) x_wn (by decide) rfl ?_
    refine x_iload (np := 1) (x := 1) (by decide +kernel) rfl la2 ?_
    refine x_const (np := 2) (x := 9223372039002259456) (a := 2147483648) (by decide +kernel) (by decide) (by decide) ?_
    refine x_aload (np := 3) (x := 0) (by decide +kernel) rfl (x_nc_le (by decide)) ?_
    have q67 : h1 75 1 = 76 := by have z := jB (e := 1) 0 j2 rg_75_1_0_1 (by decide) (by decide); omega
    refine x_getR (np := 6) (x := 705) (f := 1) (q := 76) (by decide +kernel) (by decide) (by decide +kernel) q67 ?_
    refine x_iload (np := 7) (x := 2) (by decide +kernel) rfl (by decide) ?_
    have q68 : h1 76 0 = h 76 0 := by rw [← e3]; exact x_up_k (by decide)
    have b69 := jB (e := 0) 0 hJ rg_76_0_0_1 (by first | decide | omega) (by first | decide | omega)
    refine x_aldC (np := 8) (x := 0) (n := 1952) (i := 0) (q := (h 76 0)) (by decide +kernel) (by decide +kernel) (by first | decide | omega) (by first | decide | omega) (by decide) q68 (fun l70 => ?_)
    refine x_const (np := 9) (x := 9223372043297226753) (a := 2147483649) (by decide +kernel) (by decide) (by decide) ?_
    obtain ⟨v71, q72⟩ : ∃ z, z + 2147483649 = (h 76 0) + 2147483648 := ⟨(h 76 0) + 2147483648 - 2147483649, by first | decide | omega⟩
    refine x_isub (np := 10) (x := 0) (v := v71) (by decide +kernel) l70 (by decide) (by first | decide | omega) (by first | decide | omega) ?_
    refine x_nI (t := 0) (mj := 153) (n := 3) (rc := 0) (ml := 3) (nr := 0) (np := 13) (as := [iv_c a2, iv_c 2147483648, iv_c v71]) (rest := []) (lo1 := [iv_c a2, iv_c 2147483648, iv_c v71]) (by decide +kernel) (by decide) (by decide +kernel) (Or.inl rfl) rfl rfl (x_wi la2 (x_wi (by decide) (x_wi (by first | decide | omega) x_wn))) x_wn (by decide) rfl ?_
    refine x_iload (np := 1) (x := 0) (by decide +kernel) rfl la2 ?_
    refine x_iload (np := 2) (x := 1) (by decide +kernel) rfl (by decide) ?_
    refine x_icmp (k := 2) (tg := 14) (np := 5) (by decide +kernel) (by decide) la2 (by decide) (fun q73 => ?_) (fun q74 => ?_)
    · have q73 : a2 < 2147483648 := q73
      refine x_const (np := 15) (x := 9223372039002259456) (a := 2147483648) (by decide +kernel) (by decide) (by decide) ?_
      refine x_retI (np := 16) (x := 0) (by decide +kernel) (by decide) (Or.inr ⟨by decide +kernel, by first | decide | omega, by first | decide | omega⟩) ⟨_, rfl, (by decide), ?_⟩
      refine x_ifz (k := 1) (tg := 20) (np := 16) (by decide +kernel) (by decide) (by decide) (fun q75 => ?_) (fun q76 => ?_)
      · have q75 : 2147483648 ≠ 2147483648 := q75
        exfalso; omega
      have q76 : ¬ (2147483648 ≠ 2147483648) := q76
      refine x_const (np := 17) (x := 9223372043297226753) (a := 2147483649) (by decide +kernel) (by decide) (by decide) ?_
      refine x_goto (np := 20) (x := 21) (by decide +kernel) ?_
      refine x_retI (np := 22) (x := 0) (by decide +kernel) (by decide) (Or.inr ⟨by decide +kernel, by first | decide | omega, by first | decide | omega⟩) ⟨_, rfl, (by decide), ?_⟩
      refine x_retI (np := 7) (x := 0) (by decide +kernel) (by decide) (Or.inr ⟨by decide +kernel, by first | decide | omega, by first | decide | omega⟩) ⟨_, rfl, (by decide), ?_⟩
      refine x_ifz (k := 0) (tg := 31) (np := 27) (by decide +kernel) (by decide) (by decide) (fun q77 => ?_) (fun q78 => ?_)
      · have q77 : 2147483649 = 2147483648 := q77
        exfalso; omega
      have q78 : ¬ (2147483649 = 2147483648) := q78
      refine x_const (np := 28) (x := 9223372043297226753) (a := 2147483649) (by decide +kernel) (by decide) (by decide) ?_
      refine x_goto (np := 31) (x := 32) (by decide +kernel) ?_
      refine x_const (np := 33) (x := 9223372043297226753) (a := 2147483649) (by decide +kernel) (by decide) (by decide) ?_
      refine x_nI (t := 6) (mj := 152) (n := 3) (rc := 12) (ml := 3) (nr := 0) (np := 36) (as := [x_r 75, iv_c 2147483649, iv_c 2147483649]) (rest := []) (lo1 := [x_r 75, iv_c 2147483649, iv_c 2147483649]) (by decide +kernel) (by decide) (by decide +kernel) (x_rb_of (by decide +kernel)) rfl rfl (x_wr (by decide) (x_wi (by decide) (x_wi (by decide) x_wn))) x_wn (by decide) rfl ?_
      refine x_iload (np := 1) (x := 1) (by decide +kernel) rfl (by decide) ?_
      refine x_ifz (k := 0) (tg := 9) (np := 4) (by decide +kernel) (by decide) (by decide) (fun q79 => ?_) (fun q80 => ?_)
      · have q79 : 2147483649 = 2147483648 := q79
        exfalso; omega
      have q80 : ¬ (2147483649 = 2147483648) := q80
      refine x_aload (np := 5) (x := 0) (by decide +kernel) rfl (x_nc_le (by decide)) ?_
      refine x_iload (np := 6) (x := 2) (by decide +kernel) rfl (by decide) ?_
      refine x_putI (np := 9) (x := 704) (f := 0) (by decide +kernel) (by decide +kernel) (by decide) (Or.inl (by decide)) ?_
      have j82 := jU (e := 0) (v := 2147483649) 0 j2 rg_75_0_0_1 (by first | decide | omega) (by first | decide | omega) (by first | decide | omega)
      have f84 := jF (e := 0) (v := 2147483649) 0 f4 rg_75_0_0_1 (by first | decide | omega) (by first | decide | omega) (by decide)
      generalize e83 : x_up h1 75 0 2147483649 = h81 at j82 f84 ⊢
      refine x_iload (np := 10) (x := 1) (by decide +kernel) rfl (by decide) ?_
      refine x_retI (np := 11) (x := 0) (by decide +kernel) (by decide) (Or.inr ⟨by decide +kernel, by first | decide | omega, by first | decide | omega⟩) ⟨_, rfl, (by decide), ?_⟩
      refine x_ifz (k := 0) (tg := 41) (np := 39) (by decide +kernel) (by decide) (by decide) (fun q85 => ?_) (fun q86 => ?_)
      · have q85 : 2147483649 = 2147483648 := q85
        exfalso; omega
      have q86 : ¬ (2147483649 = 2147483648) := q86
      refine x_const (np := 40) (x := 9223372039002259456) (a := 2147483648) (by decide +kernel) (by decide) (by decide) ?_
      have m88 : WT 76 h1 := by rw [← e3]; exact WT.oth hW hJ (by decide)
      have m87 : WT 76 h81 := by rw [← e83]; exact WT.oth m88 j2 (by decide)
      refine x_retI (np := 41) (x := 0) (by decide +kernel) (by decide) (Or.inl (by decide +kernel)) ⟨_, rfl, (by decide), ?_⟩
      exact ⟨j82, f84, (by first | decide | omega), m87⟩
    have q74 : ¬ (a2 < 2147483648) := q74
    refine x_iload (np := 6) (x := 0) (by decide +kernel) rfl la2 ?_
    refine x_iload (np := 7) (x := 2) (by decide +kernel) rfl (by first | decide | omega) ?_
    refine x_icmp (k := 4) (tg := 14) (np := 10) (by decide +kernel) (by decide) la2 (by first | decide | omega) (fun q89 => ?_) (fun q90 => ?_)
    · have q89 : v71 < a2 := q89
      refine x_const (np := 15) (x := 9223372039002259456) (a := 2147483648) (by decide +kernel) (by decide) (by decide) ?_
      refine x_retI (np := 16) (x := 0) (by decide +kernel) (by decide) (Or.inr ⟨by decide +kernel, by first | decide | omega, by first | decide | omega⟩) ⟨_, rfl, (by decide), ?_⟩
      refine x_ifz (k := 1) (tg := 20) (np := 16) (by decide +kernel) (by decide) (by decide) (fun q91 => ?_) (fun q92 => ?_)
      · have q91 : 2147483648 ≠ 2147483648 := q91
        exfalso; omega
      have q92 : ¬ (2147483648 ≠ 2147483648) := q92
      refine x_const (np := 17) (x := 9223372043297226753) (a := 2147483649) (by decide +kernel) (by decide) (by decide) ?_
      refine x_goto (np := 20) (x := 21) (by decide +kernel) ?_
      refine x_retI (np := 22) (x := 0) (by decide +kernel) (by decide) (Or.inr ⟨by decide +kernel, by first | decide | omega, by first | decide | omega⟩) ⟨_, rfl, (by decide), ?_⟩
      refine x_retI (np := 7) (x := 0) (by decide +kernel) (by decide) (Or.inr ⟨by decide +kernel, by first | decide | omega, by first | decide | omega⟩) ⟨_, rfl, (by decide), ?_⟩
      refine x_ifz (k := 0) (tg := 31) (np := 27) (by decide +kernel) (by decide) (by decide) (fun q93 => ?_) (fun q94 => ?_)
      · have q93 : 2147483649 = 2147483648 := q93
        exfalso; omega
      have q94 : ¬ (2147483649 = 2147483648) := q94
      refine x_const (np := 28) (x := 9223372043297226753) (a := 2147483649) (by decide +kernel) (by decide) (by decide) ?_
      refine x_goto (np := 31) (x := 32) (by decide +kernel) ?_
      refine x_const (np := 33) (x := 9223372043297226753) (a := 2147483649) (by decide +kernel) (by decide) (by decide) ?_
      refine x_nI (t := 6) (mj := 152) (n := 3) (rc := 12) (ml := 3) (nr := 0) (np := 36) (as := [x_r 75, iv_c 2147483649, iv_c 2147483649]) (rest := []) (lo1 := [x_r 75, iv_c 2147483649, iv_c 2147483649]) (by decide +kernel) (by decide) (by decide +kernel) (x_rb_of (by decide +kernel)) rfl rfl (x_wr (by decide) (x_wi (by decide) (x_wi (by decide) x_wn))) x_wn (by decide) rfl ?_
      refine x_iload (np := 1) (x := 1) (by decide +kernel) rfl (by decide) ?_
      refine x_ifz (k := 0) (tg := 9) (np := 4) (by decide +kernel) (by decide) (by decide) (fun q95 => ?_) (fun q96 => ?_)
      · have q95 : 2147483649 = 2147483648 := q95
        exfalso; omega
      have q96 : ¬ (2147483649 = 2147483648) := q96
      refine x_aload (np := 5) (x := 0) (by decide +kernel) rfl (x_nc_le (by decide)) ?_
      refine x_iload (np := 6) (x := 2) (by decide +kernel) rfl (by decide) ?_
      refine x_putI (np := 9) (x := 704) (f := 0) (by decide +kernel) (by decide +kernel) (by decide) (Or.inl (by decide)) ?_
      have j98 := jU (e := 0) (v := 2147483649) 0 j2 rg_75_0_0_1 (by first | decide | omega) (by first | decide | omega) (by first | decide | omega)
      have f100 := jF (e := 0) (v := 2147483649) 0 f4 rg_75_0_0_1 (by first | decide | omega) (by first | decide | omega) (by decide)
      generalize e99 : x_up h1 75 0 2147483649 = h97 at j98 f100 ⊢
      refine x_iload (np := 10) (x := 1) (by decide +kernel) rfl (by decide) ?_
      refine x_retI (np := 11) (x := 0) (by decide +kernel) (by decide) (Or.inr ⟨by decide +kernel, by first | decide | omega, by first | decide | omega⟩) ⟨_, rfl, (by decide), ?_⟩
      refine x_ifz (k := 0) (tg := 41) (np := 39) (by decide +kernel) (by decide) (by decide) (fun q101 => ?_) (fun q102 => ?_)
      · have q101 : 2147483649 = 2147483648 := q101
        exfalso; omega
      have q102 : ¬ (2147483649 = 2147483648) := q102
      refine x_const (np := 40) (x := 9223372039002259456) (a := 2147483648) (by decide +kernel) (by decide) (by decide) ?_
      have m104 : WT 76 h1 := by rw [← e3]; exact WT.oth hW hJ (by decide)
      have m103 : WT 76 h97 := by rw [← e99]; exact WT.oth m104 j2 (by decide)
      refine x_retI (np := 41) (x := 0) (by decide +kernel) (by decide) (Or.inl (by decide +kernel)) ⟨_, rfl, (by decide), ?_⟩
      exact ⟨j98, f100, (by first | decide | omega), m103⟩
    have q90 : ¬ (v71 < a2) := q90
    refine x_const (np := 11) (x := 9223372043297226753) (a := 2147483649) (by decide +kernel) (by decide) (by decide) ?_
    refine x_goto (np := 14) (x := 15) (by decide +kernel) ?_
    refine x_retI (np := 16) (x := 0) (by decide +kernel) (by decide) (Or.inr ⟨by decide +kernel, by first | decide | omega, by first | decide | omega⟩) ⟨_, rfl, (by decide), ?_⟩
    refine x_ifz (k := 1) (tg := 20) (np := 16) (by decide +kernel) (by decide) (by decide) (fun q105 => ?_) (fun q106 => ?_)
    · have q105 : 2147483649 ≠ 2147483648 := q105
      refine x_const (np := 21) (x := 9223372039002259456) (a := 2147483648) (by decide +kernel) (by decide) (by decide) ?_
      refine x_retI (np := 22) (x := 0) (by decide +kernel) (by decide) (Or.inr ⟨by decide +kernel, by first | decide | omega, by first | decide | omega⟩) ⟨_, rfl, (by decide), ?_⟩
      refine x_retI (np := 7) (x := 0) (by decide +kernel) (by decide) (Or.inr ⟨by decide +kernel, by first | decide | omega, by first | decide | omega⟩) ⟨_, rfl, (by decide), ?_⟩
      refine x_ifz (k := 0) (tg := 31) (np := 27) (by decide +kernel) (by decide) (by decide) (fun q107 => ?_) (fun q108 => ?_)
      · have q107 : 2147483648 = 2147483648 := q107
        refine x_const (np := 32) (x := 9223372039002259456) (a := 2147483648) (by decide +kernel) (by decide) (by decide) ?_
        refine x_const (np := 33) (x := 9223372043297226753) (a := 2147483649) (by decide +kernel) (by decide) (by decide) ?_
        refine x_nI (t := 6) (mj := 152) (n := 3) (rc := 12) (ml := 3) (nr := 0) (np := 36) (as := [x_r 75, iv_c 2147483648, iv_c 2147483649]) (rest := []) (lo1 := [x_r 75, iv_c 2147483648, iv_c 2147483649]) (by decide +kernel) (by decide) (by decide +kernel) (x_rb_of (by decide +kernel)) rfl rfl (x_wr (by decide) (x_wi (by decide) (x_wi (by decide) x_wn))) x_wn (by decide) rfl ?_
        refine x_iload (np := 1) (x := 1) (by decide +kernel) rfl (by decide) ?_
        refine x_ifz (k := 0) (tg := 9) (np := 4) (by decide +kernel) (by decide) (by decide) (fun q109 => ?_) (fun q110 => ?_)
        · have q109 : 2147483648 = 2147483648 := q109
          refine x_iload (np := 10) (x := 1) (by decide +kernel) rfl (by decide) ?_
          refine x_retI (np := 11) (x := 0) (by decide +kernel) (by decide) (Or.inr ⟨by decide +kernel, by first | decide | omega, by first | decide | omega⟩) ⟨_, rfl, (by decide), ?_⟩
          refine x_ifz (k := 0) (tg := 41) (np := 39) (by decide +kernel) (by decide) (by decide) (fun q111 => ?_) (fun q112 => ?_)
          · have q111 : 2147483648 = 2147483648 := q111
            refine x_aload (np := 42) (x := 0) (by decide +kernel) rfl (x_nc_le (by decide)) ?_
            refine x_iload (np := 43) (x := 1) (by decide +kernel) rfl la1 ?_
            refine x_const (np := 44) (x := 9223372051887161347) (a := 2147483651) (by decide +kernel) (by decide) (by decide) ?_
            refine x_nI (t := 6) (mj := 162) (n := 3) (rc := 12) (ml := 3) (nr := 0) (np := 47) (as := [x_r 75, iv_c a1, iv_c 2147483651]) (rest := []) (lo1 := [x_r 75, iv_c a1, iv_c 2147483651]) (by decide +kernel) (by decide) (by decide +kernel) (x_rb_of (by decide +kernel)) rfl rfl (x_wr (by decide) (x_wi la1 (x_wi (by decide) x_wn))) x_wn (by decide) rfl ?_
            refine x_aload (np := 1) (x := 0) (by decide +kernel) rfl (x_nc_le (by decide)) ?_
            have q113 : h1 75 1 = 76 := by have z := jB (e := 1) 0 j2 rg_75_1_0_1 (by decide) (by decide); omega
            refine x_getR (np := 4) (x := 705) (f := 1) (q := 76) (by decide +kernel) (by decide) (by decide +kernel) q113 ?_
            refine x_const (np := 7) (x := 9223372726197026976) (a := 2147483808) (by decide +kernel) (by decide) (by decide) ?_
            refine x_const (np := 8) (x := 9223372056182128644) (a := 2147483652) (by decide +kernel) (by decide) (by decide) ?_
            refine x_iload (np := 9) (x := 1) (by decide +kernel) rfl la1 ?_
            obtain ⟨u114, q115⟩ : ∃ z, a1 = 2147483648 + z := ⟨a1 - 2147483648, by first | decide | omega⟩
            refine x_imul (np := 10) (x := 0) (i := 4) (j := u114) (v := (2147483648 + 4 * u114)) (by decide +kernel) (by first | decide | omega) (by first | decide | omega) (by first | decide | omega) (by first | decide | omega) (by decide) la1 ?_
            refine x_iadd (np := 11) (x := 0) (v := (2147483808 + 4 * u114)) (by decide +kernel) (by decide) (by first | decide | omega) (by first | decide | omega) (by first | decide | omega) ?_
            refine x_iload (np := 12) (x := 2) (by decide +kernel) rfl (by decide) ?_
            refine x_iadd (np := 13) (x := 0) (v := (2147483811 + 4 * u114)) (by decide +kernel) (by first | decide | omega) (by decide) (by first | decide | omega) (by first | decide | omega) ?_
            have q117 : h1 76 (163 + 4 * u114) = h 76 (163 + 4 * u114) := by rw [← e3]; exact x_up_k (by decide)
            refine x_aldC (np := 14) (x := 0) (n := 1952) (i := (163 + 4 * u114)) (q := ((h 76 (163 + 4 * u114)))) (by decide +kernel) (by decide +kernel) (by first | decide | omega) (by first | decide | omega) (by decide) q117 (fun l118 => ?_)
            refine x_retI (np := 15) (x := 0) (by decide +kernel) l118 (Or.inl (by decide +kernel)) ⟨_, rfl, l118, ?_⟩
            refine x_istore (np := 48) (x := 3) (lo' := [x_r 75, iv_c a1, iv_c a2, iv_c ((h 76 (163 + 4 * u114)))]) (by decide +kernel) l118 (Nat.le_of_ble_eq_true rfl) rfl ?_
            refine x_aload (np := 49) (x := 0) (by decide +kernel) rfl (x_nc_le (by decide)) ?_
            have q119 : h1 75 1 = 76 := by have z := jB (e := 1) 0 j2 rg_75_1_0_1 (by decide) (by decide); omega
            refine x_getR (np := 52) (x := 705) (f := 1) (q := 76) (by decide +kernel) (by decide) (by decide +kernel) q119 ?_
            refine x_const (np := 55) (x := 9223372726197026976) (a := 2147483808) (by decide +kernel) (by decide) (by decide) ?_
            refine x_const (np := 56) (x := 9223372056182128644) (a := 2147483652) (by decide +kernel) (by decide) (by decide) ?_
            refine x_iload (np := 57) (x := 1) (by decide +kernel) rfl la1 ?_
            refine x_imul (np := 58) (x := 0) (i := 4) (j := u114) (v := (2147483648 + 4 * u114)) (by decide +kernel) (by first | decide | omega) (by first | decide | omega) (by first | decide | omega) (by first | decide | omega) (by decide) la1 ?_
            refine x_iadd (np := 59) (x := 0) (v := (2147483808 + 4 * u114)) (by decide +kernel) (by decide) (by first | decide | omega) (by first | decide | omega) (by first | decide | omega) ?_
            refine x_const (np := 60) (x := 9223372051887161347) (a := 2147483651) (by decide +kernel) (by decide) (by decide) ?_
            refine x_iadd (np := 61) (x := 0) (v := (2147483811 + 4 * u114)) (by decide +kernel) (by first | decide | omega) (by decide) (by first | decide | omega) (by first | decide | omega) ?_
            refine x_iload (np := 62) (x := 2) (by decide +kernel) rfl la2 ?_
            refine x_ast (np := 63) (x := 0) (kd := 1) (n := 1952) (i := (163 + 4 * u114)) (by decide +kernel) (Or.inl rfl) (by decide +kernel) (by first | decide | omega) (by first | decide | omega) (by decide) la2 (fun z => absurd z (by decide)) ?_
            have j122 := jU (e := (163 + 4 * u114)) (v := a2) u114 j2 rg_76_163_4_10 (by first | decide | omega) (by first | decide | omega) (by first | decide | omega)
            have f124 := jF (e := (163 + 4 * u114)) (v := a2) u114 f4 rg_76_163_4_10 (by first | decide | omega) (by first | decide | omega) (by decide)
            generalize e123 : x_up h1 76 (163 + 4 * u114) a2 = h121 at j122 f124 ⊢
            refine x_iload (np := 64) (x := 3) (by decide +kernel) rfl l118 ?_
            have m126 : WT 76 h1 := by rw [← e3]; exact WT.oth hW hJ (by decide)
            have m125 : WT 76 h121 := by rw [← e123]; exact WT.up m126 j2 (by first | decide | omega)
            refine x_retI (np := 65) (x := 0) (by decide +kernel) l118 (Or.inl (by decide +kernel)) ⟨_, rfl, l118, ?_⟩
            exact ⟨j122, f124, (by first | decide | omega), m125⟩
          have q112 : ¬ (2147483648 = 2147483648) := q112
          exfalso; omega
        have q110 : ¬ (2147483648 = 2147483648) := q110
        exfalso; omega
      have q108 : ¬ (2147483648 = 2147483648) := q108
      exfalso; omega
    have q106 : ¬ (2147483649 ≠ 2147483648) := q106
    exfalso; omega
  have q44 : ¬ (2147483649 ≠ 2147483648) := q44
  exfalso; omega
set_option maxHeartbeats 0 in
/-- LentNamesModel.home()I -/
theorem c262_75 {sc : Nat × Nat} {d  : Nat} {h : xh} (hJ : J h) (hW : WT 76 h) : X sc 262 (d + 5) (xI fun r h' => J h' ∧ Fr 135291600897 h h' ∧ (0 ≤ r ∧ r ≤ 4294967295)) 0 0 0 [x_r 75, 147573952589676412928, 147573952589676412928] [] h := by
  have hF := Fr.refl 135291600897 h
  refine x_aload (np := 1) (x := 0) (by decide +kernel) rfl (x_nc_le (by decide)) ?_
  refine x_const (np := 2) (x := 9223372039002259456) (a := 2147483648) (by decide +kernel) (by decide) (by decide) ?_
  refine x_putI (np := 5) (x := 704) (f := 0) (by decide +kernel) (by decide +kernel) (by decide) (Or.inl (by decide)) ?_
  have j2 := jU (e := 0) (v := 2147483648) 0 hJ rg_75_0_0_1 (by first | decide | omega) (by first | decide | omega) (by first | decide | omega)
  have f4 := jF (e := 0) (v := 2147483648) 0 hF rg_75_0_0_1 (by first | decide | omega) (by first | decide | omega) (by decide)
  generalize e3 : x_up h 75 0 2147483648 = h1 at j2 f4 ⊢
  refine x_aload (np := 6) (x := 0) (by decide +kernel) rfl (x_nc_le (by decide)) ?_
  have m8 : WT 76 h1 := by rw [← e3]; exact WT.oth hW hJ (by decide)
  refine x_cV (t := 6) (mj := 210) (n := 1) (rc := 12) (ml := 5) (nr := 0) (np := 9) (as := [x_r 75]) (rest := []) (lo1 := [x_r 75, 147573952589676412928, 147573952589676412928, 147573952589676412928, 147573952589676412928]) (by decide +kernel) (by decide) (by decide +kernel) (x_rb_of (by decide +kernel)) rfl rfl (x_wr (by decide) x_wn) x_wn (by decide) rfl (c210_75 j2  m8) (fun h9 q7 => ?_)
  obtain ⟨j10, f11⟩ := q7
  have f14 := Fr.trans f4 f11 (by decide)
  refine x_const (np := 10) (x := 9223372039002259456) (a := 2147483648) (by decide +kernel) (by decide) (by decide) ?_
  refine x_istore (np := 11) (x := 1) (lo' := [x_r 75, iv_c 2147483648, 147573952589676412928]) (by decide +kernel) (by decide) (Nat.le_of_ble_eq_true rfl) rfl ?_
  refine x_const (np := 12) (x := 9223372039002259456) (a := 2147483648) (by decide +kernel) (by decide) (by decide) ?_
  refine x_istore (np := 13) (x := 2) (lo' := [x_r 75, iv_c 2147483648, iv_c 2147483648]) (by decide +kernel) (by decide) (Nat.le_of_ble_eq_true rfl) rfl ?_
  have p541 : ∀ (n : Nat) (v537 : Nat) (v539 : Nat), 4294967296 - v539 < n → (0 ≤ v537 ∧ v537 ≤ 4294967295) → (2147483648 ≤ v539 ∧ v539 ≤ 2147483658) → X sc 262 (d + 5) (xI fun r h' => J h' ∧ Fr 135291600897 h h' ∧ (0 ≤ r ∧ r ≤ 4294967295)) 0 0 13 [x_r 75, iv_c v537, iv_c v539] [] h9 := by
    intro n
    induction n with
    | zero => intro v537 v539 q542; exact absurd q542 (Nat.not_lt_zero _)
    | succ n i543 =>
      intro v537 v539 q542 b538 b540
      refine x_iload (np := 14) (x := 2) (by decide +kernel) rfl (by first | decide | omega) ?_
      refine x_aload (np := 15) (x := 0) (by decide +kernel) rfl (x_nc_le (by decide)) ?_
      have q544 : h9 75 1 = 76 := by have z := jB (e := 1) 0 j10 rg_75_1_0_1 (by decide) (by decide); omega
      refine x_getR (np := 18) (x := 705) (f := 1) (q := 76) (by decide +kernel) (by decide) (by decide +kernel) q544 ?_
      refine x_const (np := 19) (x := 9223372051887161347) (a := 2147483651) (by decide +kernel) (by decide) (by decide) ?_
      have q545 : h9 76 3 = h1 76 3 := jK 0 f11 rg_76_3_0_1 (by first | decide | omega) (by first | decide | omega) (by decide)
      have q546 : h1 76 3 = h 76 3 := by rw [← e3]; exact x_up_k (by decide)
      have b547 := jB (e := 3) 0 hJ rg_76_3_0_1 (by first | decide | omega) (by first | decide | omega)
      refine x_aldC (np := 20) (x := 0) (n := 1952) (i := 3) (q := (h 76 3)) (by decide +kernel) (by decide +kernel) (by first | decide | omega) (by first | decide | omega) (by decide) (q545.trans q546) (fun l548 => ?_)
      refine x_icmp (k := 3) (tg := 55) (np := 23) (by decide +kernel) (by decide) (by first | decide | omega) l548 (fun q549 => ?_) (fun q550 => ?_)
      · have q549 : (h 76 3) ≤ v539 := q549
        refine x_iload (np := 56) (x := 1) (by decide +kernel) rfl (by first | decide | omega) ?_
        refine x_retI (np := 57) (x := 0) (by decide +kernel) (by first | decide | omega) (Or.inl (by decide +kernel)) ⟨_, rfl, (by first | decide | omega), ?_⟩
        exact ⟨j10, f14, (by first | decide | omega)⟩
      have q550 : ¬ ((h 76 3) ≤ v539) := q550
      refine x_iload (np := 24) (x := 1) (by decide +kernel) rfl (by first | decide | omega) ?_
      refine x_aload (np := 25) (x := 0) (by decide +kernel) rfl (x_nc_le (by decide)) ?_
      refine x_iload (np := 26) (x := 2) (by decide +kernel) rfl (by first | decide | omega) ?_
      refine x_nI (t := 6) (mj := 252) (n := 2) (rc := 12) (ml := 2) (nr := 1) (np := 29) (as := [x_r 75, iv_c v539]) (rest := [iv_c v537]) (lo1 := [x_r 75, iv_c v539]) (by decide +kernel) (by decide) (by decide +kernel) (x_rb_of (by decide +kernel)) rfl rfl (x_wr (by decide) (x_wi (by first | decide | omega) x_wn)) (x_wi (by first | decide | omega) x_wn) (by decide) rfl ?_
      refine x_aload (np := 1) (x := 0) (by decide +kernel) rfl (x_nc_le (by decide)) ?_
      refine x_iload (np := 2) (x := 1) (by decide +kernel) rfl (by first | decide | omega) ?_
      refine x_const (np := 3) (x := 9223372051887161347) (a := 2147483651) (by decide +kernel) (by decide) (by decide) ?_
      refine x_nI (t := 6) (mj := 162) (n := 3) (rc := 12) (ml := 3) (nr := 0) (np := 6) (as := [x_r 75, iv_c v539, iv_c 2147483651]) (rest := []) (lo1 := [x_r 75, iv_c v539, iv_c 2147483651]) (by decide +kernel) (by decide) (by decide +kernel) (x_rb_of (by decide +kernel)) rfl rfl (x_wr (by decide) (x_wi (by first | decide | omega) (x_wi (by decide) x_wn))) x_wn (by decide) rfl ?_
      refine x_aload (np := 1) (x := 0) (by decide +kernel) rfl (x_nc_le (by decide)) ?_
      have q551 : h9 75 1 = 76 := by have z := jB (e := 1) 0 j10 rg_75_1_0_1 (by decide) (by decide); omega
      refine x_getR (np := 4) (x := 705) (f := 1) (q := 76) (by decide +kernel) (by decide) (by decide +kernel) q551 ?_
      refine x_const (np := 7) (x := 9223372726197026976) (a := 2147483808) (by decide +kernel) (by decide) (by decide) ?_
      refine x_const (np := 8) (x := 9223372056182128644) (a := 2147483652) (by decide +kernel) (by decide) (by decide) ?_
      refine x_iload (np := 9) (x := 1) (by decide +kernel) rfl (by first | decide | omega) ?_
      obtain ⟨u552, q553⟩ : ∃ z, v539 = 2147483648 + z := ⟨v539 - 2147483648, by first | decide | omega⟩
      refine x_imul (np := 10) (x := 0) (i := 4) (j := u552) (v := (2147483648 + 4 * u552)) (by decide +kernel) (by first | decide | omega) (by first | decide | omega) (by first | decide | omega) (by first | decide | omega) (by decide) (by first | decide | omega) ?_
      refine x_iadd (np := 11) (x := 0) (v := (2147483808 + 4 * u552)) (by decide +kernel) (by decide) (by first | decide | omega) (by first | decide | omega) (by first | decide | omega) ?_
      refine x_iload (np := 12) (x := 2) (by decide +kernel) rfl (by decide) ?_
      refine x_iadd (np := 13) (x := 0) (v := (2147483811 + 4 * u552)) (by decide +kernel) (by first | decide | omega) (by decide) (by first | decide | omega) (by first | decide | omega) ?_
      have q555 : h9 76 (163 + 4 * u552) = h1 76 (163 + 4 * u552) := jK u552 f11 rg_76_163_4_10 (by first | decide | omega) (by first | decide | omega) (by decide)
      have q556 : h1 76 (163 + 4 * u552) = h 76 (163 + 4 * u552) := by rw [← e3]; exact x_up_k (by decide)
      refine x_aldC (np := 14) (x := 0) (n := 1952) (i := (163 + 4 * u552)) (q := ((h 76 (163 + 4 * u552)))) (by decide +kernel) (by decide +kernel) (by first | decide | omega) (by first | decide | omega) (by decide) (q555.trans q556) (fun l557 => ?_)
      refine x_retI (np := 15) (x := 0) (by decide +kernel) l557 (Or.inl (by decide +kernel)) ⟨_, rfl, l557, ?_⟩
      refine x_ifz (k := 2) (tg := 13) (np := 9) (by decide +kernel) (by decide) l557 (fun q558 => ?_) (fun q559 => ?_)
      · have q558 : ((h 76 (163 + 4 * u552))) < 2147483648 := q558
        refine x_const (np := 14) (x := 9223372039002259456) (a := 2147483648) (by decide +kernel) (by decide) (by decide) ?_
        refine x_retI (np := 15) (x := 0) (by decide +kernel) (by decide) (Or.inr ⟨by decide +kernel, by first | decide | omega, by first | decide | omega⟩) ⟨_, rfl, (by decide), ?_⟩
        refine x_ifz (k := 0) (tg := 46) (np := 32) (by decide +kernel) (by decide) (by decide) (fun q560 => ?_) (fun q561 => ?_)
        · have q560 : 2147483648 = 2147483648 := q560
          refine x_const (np := 47) (x := 9223372039002259456) (a := 2147483648) (by decide +kernel) (by decide) (by decide) ?_
          refine x_any (np := 48) (k9 := 1) (by decide +kernel) (by decide) (by first | decide | omega) (by decide) (fun v562 l563 => ?_)
          refine x_istore (np := 49) (x := 1) (lo' := [x_r 75, iv_c v562, iv_c v539]) (by decide +kernel) l563 (Nat.le_of_ble_eq_true rfl) rfl ?_
          refine x_iinc (np := 52) (i := 2) (j := 2147483649) (v := (1 + v539)) (lo' := [x_r 75, iv_c v562, iv_c (1 + v539)]) (by decide +kernel) (by decide) (by decide) rfl (by first | decide | omega) (by first | decide | omega) (by first | decide | omega) rfl ?_
          refine x_goto (np := 55) (x := 13) (by decide +kernel) ?_
          exact i543 v562 (1 + v539) (by first | decide | omega) (by first | decide | omega) (by first | decide | omega)
        have q561 : ¬ (2147483648 = 2147483648) := q561
        exfalso; omega
      have q559 : ¬ (((h 76 (163 + 4 * u552))) < 2147483648) := q559
      refine x_const (np := 10) (x := 9223372043297226753) (a := 2147483649) (by decide +kernel) (by decide) (by decide) ?_
      refine x_goto (np := 13) (x := 14) (by decide +kernel) ?_
      refine x_retI (np := 15) (x := 0) (by decide +kernel) (by decide) (Or.inr ⟨by decide +kernel, by first | decide | omega, by first | decide | omega⟩) ⟨_, rfl, (by decide), ?_⟩
      refine x_ifz (k := 0) (tg := 46) (np := 32) (by decide +kernel) (by decide) (by decide) (fun q564 => ?_) (fun q565 => ?_)
      · have q564 : 2147483649 = 2147483648 := q564
        exfalso; omega
      have q565 : ¬ (2147483649 = 2147483648) := q565
      refine x_aload (np := 33) (x := 0) (by decide +kernel) rfl (x_nc_le (by decide)) ?_
      refine x_iload (np := 34) (x := 2) (by decide +kernel) rfl (by first | decide | omega) ?_
      refine x_nI (t := 6) (mj := 253) (n := 2) (rc := 12) (ml := 2) (nr := 1) (np := 37) (as := [x_r 75, iv_c v539]) (rest := [iv_c v537]) (lo1 := [x_r 75, iv_c v539]) (by decide +kernel) (by decide) (by decide +kernel) (x_rb_of (by decide +kernel)) rfl rfl (x_wr (by decide) (x_wi (by first | decide | omega) x_wn)) (x_wi (by first | decide | omega) x_wn) (by decide) rfl ?_
      refine x_aload (np := 1) (x := 0) (by decide +kernel) rfl (x_nc_le (by decide)) ?_
      refine x_aload (np := 2) (x := 0) (by decide +kernel) rfl (x_nc_le (by decide)) ?_
      refine x_iload (np := 3) (x := 1) (by decide +kernel) rfl (by first | decide | omega) ?_
      refine x_const (np := 4) (x := 9223372039002259456) (a := 2147483648) (by decide +kernel) (by decide) (by decide) ?_
      refine x_nI (t := 6) (mj := 162) (n := 3) (rc := 12) (ml := 3) (nr := 1) (np := 7) (as := [x_r 75, iv_c v539, iv_c 2147483648]) (rest := [x_r 75]) (lo1 := [x_r 75, iv_c v539, iv_c 2147483648]) (by decide +kernel) (by decide) (by decide +kernel) (x_rb_of (by decide +kernel)) rfl rfl (x_wr (by decide) (x_wi (by first | decide | omega) (x_wi (by decide) x_wn))) (x_wr (by decide) x_wn) (by decide) rfl ?_
      refine x_aload (np := 1) (x := 0) (by decide +kernel) rfl (x_nc_le (by decide)) ?_
      have q566 : h9 75 1 = 76 := by have z := jB (e := 1) 0 j10 rg_75_1_0_1 (by decide) (by decide); omega
      refine x_getR (np := 4) (x := 705) (f := 1) (q := 76) (by decide +kernel) (by decide) (by decide +kernel) q566 ?_
      refine x_const (np := 7) (x := 9223372726197026976) (a := 2147483808) (by decide +kernel) (by decide) (by decide) ?_
      refine x_const (np := 8) (x := 9223372056182128644) (a := 2147483652) (by decide +kernel) (by decide) (by decide) ?_
      refine x_iload (np := 9) (x := 1) (by decide +kernel) rfl (by first | decide | omega) ?_
      refine x_imul (np := 10) (x := 0) (i := 4) (j := u552) (v := (2147483648 + 4 * u552)) (by decide +kernel) (by first | decide | omega) (by first | decide | omega) (by first | decide | omega) (by first | decide | omega) (by decide) (by first | decide | omega) ?_
      refine x_iadd (np := 11) (x := 0) (v := (2147483808 + 4 * u552)) (by decide +kernel) (by decide) (by first | decide | omega) (by first | decide | omega) (by first | decide | omega) ?_
      refine x_iload (np := 12) (x := 2) (by decide +kernel) rfl (by decide) ?_
      refine x_iadd (np := 13) (x := 0) (v := (2147483808 + 4 * u552)) (by decide +kernel) (by first | decide | omega) (by decide) (by first | decide | omega) (by first | decide | omega) ?_
      have q568 : h9 76 (160 + 4 * u552) = h1 76 (160 + 4 * u552) := jK u552 f11 rg_76_160_4_10 (by first | decide | omega) (by first | decide | omega) (by decide)
      have q569 : h1 76 (160 + 4 * u552) = h 76 (160 + 4 * u552) := by rw [← e3]; exact x_up_k (by decide)
      have b570 := jB (e := (160 + 4 * u552)) u552 hJ rg_76_160_4_10 (by first | decide | omega) (by first | decide | omega)
      refine x_aldC (np := 14) (x := 0) (n := 1952) (i := (160 + 4 * u552)) (q := ((h 76 (160 + 4 * u552)))) (by decide +kernel) (by decide +kernel) (by first | decide | omega) (by first | decide | omega) (by decide) (q568.trans q569) (fun l571 => ?_)
      refine x_retI (np := 15) (x := 0) (by decide +kernel) l571 (Or.inl (by decide +kernel)) ⟨_, rfl, l571, ?_⟩
      refine x_aload (np := 8) (x := 0) (by decide +kernel) rfl (x_nc_le (by decide)) ?_
      refine x_iload (np := 9) (x := 1) (by decide +kernel) rfl (by first | decide | omega) ?_
      refine x_const (np := 10) (x := 9223372047592194050) (a := 2147483650) (by decide +kernel) (by decide) (by decide) ?_
      refine x_nI (t := 6) (mj := 162) (n := 3) (rc := 12) (ml := 3) (nr := 2) (np := 13) (as := [x_r 75, iv_c v539, iv_c 2147483650]) (rest := [iv_c ((h 76 (160 + 4 * u552))), x_r 75]) (lo1 := [x_r 75, iv_c v539, iv_c 2147483650]) (by decide +kernel) (by decide) (by decide +kernel) (x_rb_of (by decide +kernel)) rfl rfl (x_wr (by decide) (x_wi (by first | decide | omega) (x_wi (by decide) x_wn))) (x_wi l571 (x_wr (by decide) x_wn)) (by decide) rfl ?_
      refine x_aload (np := 1) (x := 0) (by decide +kernel) rfl (x_nc_le (by decide)) ?_
      have q572 : h9 75 1 = 76 := by have z := jB (e := 1) 0 j10 rg_75_1_0_1 (by decide) (by decide); omega
      refine x_getR (np := 4) (x := 705) (f := 1) (q := 76) (by decide +kernel) (by decide) (by decide +kernel) q572 ?_
      refine x_const (np := 7) (x := 9223372726197026976) (a := 2147483808) (by decide +kernel) (by decide) (by decide) ?_
      refine x_const (np := 8) (x := 9223372056182128644) (a := 2147483652) (by decide +kernel) (by decide) (by decide) ?_
      refine x_iload (np := 9) (x := 1) (by decide +kernel) rfl (by first | decide | omega) ?_
      refine x_imul (np := 10) (x := 0) (i := 4) (j := u552) (v := (2147483648 + 4 * u552)) (by decide +kernel) (by first | decide | omega) (by first | decide | omega) (by first | decide | omega) (by first | decide | omega) (by decide) (by first | decide | omega) ?_
      refine x_iadd (np := 11) (x := 0) (v := (2147483808 + 4 * u552)) (by decide +kernel) (by decide) (by first | decide | omega) (by first | decide | omega) (by first | decide | omega) ?_
      refine x_iload (np := 12) (x := 2) (by decide +kernel) rfl (by decide) ?_
      refine x_iadd (np := 13) (x := 0) (v := (2147483810 + 4 * u552)) (by decide +kernel) (by first | decide | omega) (by decide) (by first | decide | omega) (by first | decide | omega) ?_
      have q574 : h9 76 (162 + 4 * u552) = h1 76 (162 + 4 * u552) := jK u552 f11 rg_76_162_4_10 (by first | decide | omega) (by first | decide | omega) (by decide)
      have q575 : h1 76 (162 + 4 * u552) = h 76 (162 + 4 * u552) := by rw [← e3]; exact x_up_k (by decide)
      have b576 := jB (e := (162 + 4 * u552)) u552 hJ rg_76_162_4_10 (by first | decide | omega) (by first | decide | omega)
      refine x_aldC (np := 14) (x := 0) (n := 1952) (i := (162 + 4 * u552)) (q := ((h 76 (162 + 4 * u552)))) (by decide +kernel) (by decide +kernel) (by first | decide | omega) (by first | decide | omega) (by decide) (q574.trans q575) (fun l577 => ?_)
      refine x_retI (np := 15) (x := 0) (by decide +kernel) l577 (Or.inl (by decide +kernel)) ⟨_, rfl, l577, ?_⟩
      refine x_cP (t := 6) (mj := 217) (n := 3) (rc := 12) (ml := 3) (nr := 0) (np := 16) (as := [x_r 75, iv_c ((h 76 (160 + 4 * u552))), iv_c ((h 76 (162 + 4 * u552)))]) (rest := []) (lo1 := [x_r 75, iv_c ((h 76 (160 + 4 * u552))), iv_c ((h 76 (162 + 4 * u552)))]) (by decide +kernel) (by decide) (by decide +kernel) (x_rb_of (by decide +kernel)) rfl rfl (x_wr (by decide) (x_wi l571 (x_wi l577 x_wn))) x_wn (by decide) rfl (c217_75 j10  (by first | decide | omega) (by first | decide | omega)) (fun v578 l579 q580 => ?_)
      refine x_aload (np := 17) (x := 0) (by decide +kernel) rfl (x_nc_le (by decide)) ?_
      refine x_iload (np := 18) (x := 1) (by decide +kernel) rfl (by first | decide | omega) ?_
      refine x_const (np := 19) (x := 9223372051887161347) (a := 2147483651) (by decide +kernel) (by decide) (by decide) ?_
      refine x_nI (t := 6) (mj := 162) (n := 3) (rc := 12) (ml := 3) (nr := 1) (np := 22) (as := [x_r 75, iv_c v539, iv_c 2147483651]) (rest := [iv_c v578]) (lo1 := [x_r 75, iv_c v539, iv_c 2147483651]) (by decide +kernel) (by decide) (by decide +kernel) (x_rb_of (by decide +kernel)) rfl rfl (x_wr (by decide) (x_wi (by first | decide | omega) (x_wi (by decide) x_wn))) (x_wi l579 x_wn) (by decide) rfl ?_
      refine x_aload (np := 1) (x := 0) (by decide +kernel) rfl (x_nc_le (by decide)) ?_
      have q581 : h9 75 1 = 76 := by have z := jB (e := 1) 0 j10 rg_75_1_0_1 (by decide) (by decide); omega
      refine x_getR (np := 4) (x := 705) (f := 1) (q := 76) (by decide +kernel) (by decide) (by decide +kernel) q581 ?_
      refine x_const (np := 7) (x := 9223372726197026976) (a := 2147483808) (by decide +kernel) (by decide) (by decide) ?_
      refine x_const (np := 8) (x := 9223372056182128644) (a := 2147483652) (by decide +kernel) (by decide) (by decide) ?_
      refine x_iload (np := 9) (x := 1) (by decide +kernel) rfl (by first | decide | omega) ?_
      refine x_imul (np := 10) (x := 0) (i := 4) (j := u552) (v := (2147483648 + 4 * u552)) (by decide +kernel) (by first | decide | omega) (by first | decide | omega) (by first | decide | omega) (by first | decide | omega) (by decide) (by first | decide | omega) ?_
      refine x_iadd (np := 11) (x := 0) (v := (2147483808 + 4 * u552)) (by decide +kernel) (by decide) (by first | decide | omega) (by first | decide | omega) (by first | decide | omega) ?_
      refine x_iload (np := 12) (x := 2) (by decide +kernel) rfl (by decide) ?_
      refine x_iadd (np := 13) (x := 0) (v := (2147483811 + 4 * u552)) (by decide +kernel) (by first | decide | omega) (by decide) (by first | decide | omega) (by first | decide | omega) ?_
      have q583 : h9 76 (163 + 4 * u552) = h1 76 (163 + 4 * u552) := jK u552 f11 rg_76_163_4_10 (by first | decide | omega) (by first | decide | omega) (by decide)
      have q584 : h1 76 (163 + 4 * u552) = h 76 (163 + 4 * u552) := by rw [← e3]; exact x_up_k (by decide)
      refine x_aldC (np := 14) (x := 0) (n := 1952) (i := (163 + 4 * u552)) (q := ((h 76 (163 + 4 * u552)))) (by decide +kernel) (by decide +kernel) (by first | decide | omega) (by first | decide | omega) (by decide) (q583.trans q584) (fun l585 => ?_)
      refine x_retI (np := 15) (x := 0) (by decide +kernel) l557 (Or.inl (by decide +kernel)) ⟨_, rfl, l557, ?_⟩
      refine x_icmp (k := 1) (tg := 29) (np := 25) (by decide +kernel) (by decide) l579 l557 (fun q586 => ?_) (fun q587 => ?_)
      · have q586 : v578 ≠ ((h 76 (163 + 4 * u552))) := q586
        refine x_const (np := 30) (x := 9223372039002259456) (a := 2147483648) (by decide +kernel) (by decide) (by decide) ?_
        refine x_retI (np := 31) (x := 0) (by decide +kernel) (by decide) (Or.inr ⟨by decide +kernel, by first | decide | omega, by first | decide | omega⟩) ⟨_, rfl, (by decide), ?_⟩
        refine x_ifz (k := 0) (tg := 46) (np := 40) (by decide +kernel) (by decide) (by decide) (fun q588 => ?_) (fun q589 => ?_)
        · have q588 : 2147483648 = 2147483648 := q588
          refine x_const (np := 47) (x := 9223372039002259456) (a := 2147483648) (by decide +kernel) (by decide) (by decide) ?_
          refine x_any (np := 48) (k9 := 1) (by decide +kernel) (by decide) (by first | decide | omega) (by decide) (fun v590 l591 => ?_)
          refine x_istore (np := 49) (x := 1) (lo' := [x_r 75, iv_c v590, iv_c v539]) (by decide +kernel) l591 (Nat.le_of_ble_eq_true rfl) rfl ?_
          refine x_iinc (np := 52) (i := 2) (j := 2147483649) (v := (1 + v539)) (lo' := [x_r 75, iv_c v590, iv_c (1 + v539)]) (by decide +kernel) (by decide) (by decide) rfl (by first | decide | omega) (by first | decide | omega) (by first | decide | omega) rfl ?_
          refine x_goto (np := 55) (x := 13) (by decide +kernel) ?_
          exact i543 v590 (1 + v539) (by first | decide | omega) (by first | decide | omega) (by first | decide | omega)
        have q589 : ¬ (2147483648 = 2147483648) := q589
        exfalso; omega
      have q587 : ¬ (v578 ≠ ((h 76 (163 + 4 * u552)))) := q587
      refine x_const (np := 26) (x := 9223372043297226753) (a := 2147483649) (by decide +kernel) (by decide) (by decide) ?_
      refine x_goto (np := 29) (x := 30) (by decide +kernel) ?_
      refine x_retI (np := 31) (x := 0) (by decide +kernel) (by decide) (Or.inr ⟨by decide +kernel, by first | decide | omega, by first | decide | omega⟩) ⟨_, rfl, (by decide), ?_⟩
      refine x_ifz (k := 0) (tg := 46) (np := 40) (by decide +kernel) (by decide) (by decide) (fun q592 => ?_) (fun q593 => ?_)
      · have q592 : 2147483649 = 2147483648 := q592
        exfalso; omega
      have q593 : ¬ (2147483649 = 2147483648) := q593
      refine x_const (np := 41) (x := 9223372043297226753) (a := 2147483649) (by decide +kernel) (by decide) (by decide) ?_
      refine x_iload (np := 42) (x := 2) (by decide +kernel) rfl (by first | decide | omega) ?_
      refine x_any (np := 43) (k9 := 3) (by decide +kernel) (by decide) (by decide) (by first | decide | omega) (fun v594 l595 => ?_)
      refine x_goto (np := 46) (x := 47) (by decide +kernel) ?_
      refine x_any (np := 48) (k9 := 1) (by decide +kernel) (by decide) (by first | decide | omega) l595 (fun v596 l597 => ?_)
      refine x_istore (np := 49) (x := 1) (lo' := [x_r 75, iv_c v596, iv_c v539]) (by decide +kernel) l597 (Nat.le_of_ble_eq_true rfl) rfl ?_
      refine x_iinc (np := 52) (i := 2) (j := 2147483649) (v := (1 + v539)) (lo' := [x_r 75, iv_c v596, iv_c (1 + v539)]) (by decide +kernel) (by decide) (by decide) rfl (by first | decide | omega) (by first | decide | omega) (by first | decide | omega) rfl ?_
      refine x_goto (np := 55) (x := 13) (by decide +kernel) ?_
      exact i543 v596 (1 + v539) (by first | decide | omega) (by first | decide | omega) (by first | decide | omega)
  exact p541 _ 2147483648 2147483648 (Nat.lt_succ_self _) (by first | decide | omega) (by first | decide | omega)
set_option maxHeartbeats 0 in
/-- LentNamesModel.tooLong(I)I -/
theorem c251_75 {sc : Nat × Nat} {d a1 : Nat} {h : xh} (hJ : J h) (ba1 : 2147483648 ≤ a1 ∧ a1 ≤ 2147483653) : X sc 251 (d + 3) (xI fun r h' => h' = h ∧ (2147483647 ≤ r ∧ r ≤ 2147483659)) 0 0 0 [x_r 75, iv_c a1, 147573952589676412928, 147573952589676412928] [] h := by
  have la1 : a1 < 4294967296 := by first | decide | omega
  refine x_const (np := 1) (x := 9223372039002259456) (a := 2147483648) (by decide +kernel) (by decide) (by decide) ?_
  refine x_istore (np := 2) (x := 2) (lo' := [x_r 75, iv_c a1, iv_c 2147483648, 147573952589676412928]) (by decide +kernel) (by decide) (Nat.le_of_ble_eq_true rfl) rfl ?_
  refine x_const (np := 3) (x := 9223372039002259456) (a := 2147483648) (by decide +kernel) (by decide) (by decide) ?_
  refine x_istore (np := 4) (x := 3) (lo' := [x_r 75, iv_c a1, iv_c 2147483648, iv_c 2147483648]) (by decide +kernel) (by decide) (Nat.le_of_ble_eq_true rfl) rfl ?_
  have p214 : ∀ (n : Nat) (v210 : Nat) (v212 : Nat), 4294967296 - v212 < n → (2147483648 ≤ v210 ∧ v210 ≤ 2147483660) → (2147483648 ≤ v212 ∧ v212 ≤ 2147483660) → X sc 251 (d + 3) (xI fun r h' => h' = h ∧ (2147483647 ≤ r ∧ r ≤ 2147483659)) 0 0 4 [x_r 75, iv_c a1, iv_c v210, iv_c v212] [] h := by
    intro n
    induction n with
    | zero => intro v210 v212 q215; exact absurd q215 (Nat.not_lt_zero _)
    | succ n i216 =>
      intro v210 v212 q215 b211 b213
      refine x_iload (np := 5) (x := 3) (by decide +kernel) rfl (by first | decide | omega) ?_
      refine x_const (np := 7) (x := 9223372090541867020) (a := 2147483660) (by decide +kernel) (by decide) (by decide) ?_
      refine x_icmp (k := 3) (tg := 43) (np := 10) (by decide +kernel) (by decide) (by first | decide | omega) (by decide) (fun q217 => ?_) (fun q218 => ?_)
      · have q217 : 2147483660 ≤ v212 := q217
        refine x_const (np := 44) (x := 9223372034707292159) (a := 2147483647) (by decide +kernel) (by decide) (by decide) ?_
        refine x_retI (np := 45) (x := 0) (by decide +kernel) (by decide) (Or.inl (by decide +kernel)) ⟨_, rfl, (by decide), ?_⟩
        exact ⟨rfl, (by first | decide | omega)⟩
      have q218 : ¬ (2147483660 ≤ v212) := q218
      refine x_aload (np := 11) (x := 0) (by decide +kernel) rfl (x_nc_le (by decide)) ?_
      refine x_iload (np := 12) (x := 1) (by decide +kernel) rfl la1 ?_
      refine x_iload (np := 13) (x := 3) (by decide +kernel) rfl (by first | decide | omega) ?_
      refine x_cP (t := 6) (mj := 218) (n := 3) (rc := 12) (ml := 5) (nr := 0) (np := 16) (as := [x_r 75, iv_c a1, iv_c v212]) (rest := []) (lo1 := [x_r 75, iv_c a1, iv_c v212, 147573952589676412928, 147573952589676412928]) (by decide +kernel) (by decide) (by decide +kernel) (x_rb_of (by decide +kernel)) rfl rfl (x_wr (by decide) (x_wi la1 (x_wi (by first | decide | omega) x_wn))) x_wn (by decide) rfl (c218_75 hJ  (by first | decide | omega) (by first | decide | omega)) (fun v219 l220 q221 => ?_)
      refine x_ifz (k := 0) (tg := 25) (np := 19) (by decide +kernel) (by decide) l220 (fun q222 => ?_) (fun q223 => ?_)
      · have q222 : v219 = 2147483648 := q222
        refine x_const (np := 26) (x := 9223372039002259456) (a := 2147483648) (by decide +kernel) (by decide) (by decide) ?_
        refine x_istore (np := 27) (x := 2) (lo' := [x_r 75, iv_c a1, iv_c 2147483648, iv_c v212]) (by decide +kernel) (by decide) (Nat.le_of_ble_eq_true rfl) rfl ?_
        refine x_iload (np := 28) (x := 2) (by decide +kernel) rfl (by decide) ?_
        refine x_aload (np := 29) (x := 0) (by decide +kernel) rfl (x_nc_le (by decide)) ?_
        have b224 := jB (e := 31) 0 hJ rg_75_31_0_1 (by first | decide | omega) (by first | decide | omega)
        refine x_getC (np := 32) (x := 735) (f := 31) (q := (h 75 31)) (by decide +kernel) (by decide) (by decide +kernel) rfl (fun l225 => ?_)
        refine x_icmp (k := 5) (tg := 37) (np := 35) (by decide +kernel) (by decide) (by decide) l225 (fun q226 => ?_) (fun q227 => ?_)
        · have q226 : 2147483648 ≤ (h 75 31) := q226
          refine x_iinc (np := 40) (i := 3) (j := 2147483649) (v := (1 + v212)) (lo' := [x_r 75, iv_c a1, iv_c 2147483648, iv_c (1 + v212)]) (by decide +kernel) (by decide) (by decide) rfl (by first | decide | omega) (by first | decide | omega) (by first | decide | omega) rfl ?_
          refine x_goto (np := 43) (x := 4) (by decide +kernel) ?_
          exact i216 2147483648 (1 + v212) (by first | decide | omega) (by first | decide | omega) (by first | decide | omega)
        have q227 : ¬ (2147483648 ≤ (h 75 31)) := q227
        exfalso; omega
      have q223 : ¬ (v219 = 2147483648) := q223
      refine x_iload (np := 20) (x := 2) (by decide +kernel) rfl (by first | decide | omega) ?_
      refine x_const (np := 21) (x := 9223372043297226753) (a := 2147483649) (by decide +kernel) (by decide) (by decide) ?_
      refine x_iadd (np := 22) (x := 0) (v := (1 + v210)) (by decide +kernel) (by first | decide | omega) (by decide) (by first | decide | omega) (by first | decide | omega) ?_
      refine x_goto (np := 25) (x := 26) (by decide +kernel) ?_
      refine x_istore (np := 27) (x := 2) (lo' := [x_r 75, iv_c a1, iv_c (1 + v210), iv_c v212]) (by decide +kernel) (by first | decide | omega) (Nat.le_of_ble_eq_true rfl) rfl ?_
      refine x_iload (np := 28) (x := 2) (by decide +kernel) rfl (by first | decide | omega) ?_
      refine x_aload (np := 29) (x := 0) (by decide +kernel) rfl (x_nc_le (by decide)) ?_
      have b228 := jB (e := 31) 0 hJ rg_75_31_0_1 (by first | decide | omega) (by first | decide | omega)
      refine x_getC (np := 32) (x := 735) (f := 31) (q := (h 75 31)) (by decide +kernel) (by decide) (by decide +kernel) rfl (fun l229 => ?_)
      refine x_icmp (k := 5) (tg := 37) (np := 35) (by decide +kernel) (by decide) (by first | decide | omega) l229 (fun q230 => ?_) (fun q231 => ?_)
      · have q230 : (1 + v210) ≤ (h 75 31) := q230
        refine x_iinc (np := 40) (i := 3) (j := 2147483649) (v := (1 + v212)) (lo' := [x_r 75, iv_c a1, iv_c (1 + v210), iv_c (1 + v212)]) (by decide +kernel) (by decide) (by decide) rfl (by first | decide | omega) (by first | decide | omega) (by first | decide | omega) rfl ?_
        refine x_goto (np := 43) (x := 4) (by decide +kernel) ?_
        exact i216 (1 + v210) (1 + v212) (by first | decide | omega) (by first | decide | omega) (by first | decide | omega)
      have q231 : ¬ ((1 + v210) ≤ (h 75 31)) := q231
      refine x_iload (np := 36) (x := 3) (by decide +kernel) rfl (by first | decide | omega) ?_
      refine x_retI (np := 37) (x := 0) (by decide +kernel) (by first | decide | omega) (Or.inl (by decide +kernel)) ⟨_, rfl, (by first | decide | omega), ?_⟩
      exact ⟨rfl, (by first | decide | omega)⟩
  exact p214 _ 2147483648 2147483648 (Nat.lt_succ_self _) (by first | decide | omega) (by first | decide | omega)
set_option maxHeartbeats 0 in
/-- LentNamesModel.arrives(I)I -/
theorem c254_75 {sc : Nat × Nat} {d a1 : Nat} {h : xh} (hJ : J h) (ba1 : 2147483648 ≤ a1 ∧ a1 ≤ 2147483653) : X sc 254 (d + 4) (xI fun r h' => J h' ∧ Fr 1924145348608 h h' ∧ (2147483648 ≤ r ∧ r ≤ 2147483649)) 0 0 0 [x_r 75, iv_c a1, 147573952589676412928, 147573952589676412928] [] h := by
  have la1 : a1 < 4294967296 := by first | decide | omega
  have hF := Fr.refl 1924145348608 h
  refine x_aload (np := 1) (x := 0) (by decide +kernel) rfl (x_nc_le (by decide)) ?_
  have q1 : h 75 27 = 93 := by have z := jB (e := 27) 0 hJ rg_75_27_0_1 (by decide) (by decide); omega
  refine x_getR (np := 4) (x := 731) (f := 27) (q := 93) (by decide +kernel) (by decide) (by decide +kernel) q1 ?_
  refine x_iload (np := 5) (x := 1) (by decide +kernel) rfl la1 ?_
  refine x_const (np := 6) (x := 9223372034707292159) (a := 2147483647) (by decide +kernel) (by decide) (by decide) ?_
  obtain ⟨u2, q3⟩ : ∃ z, a1 = 2147483648 + z := ⟨a1 - 2147483648, by first | decide | omega⟩
  refine x_ast (np := 7) (x := 0) (kd := 1) (n := 6) (i := u2) (by decide +kernel) (Or.inl rfl) (by decide +kernel) (by first | decide | omega) (by first | decide | omega) (by decide) (by decide) (fun z => absurd z (by decide)) ?_
  have j5 := jU (e := u2) (v := 2147483647) u2 hJ rg_93_0_1_6 (by first | decide | omega) (by first | decide | omega) (by first | decide | omega)
  have f7 := jF (e := u2) (v := 2147483647) u2 hF rg_93_0_1_6 (by first | decide | omega) (by first | decide | omega) (by decide)
  generalize e6 : x_up h 93 u2 2147483647 = h4 at j5 f7 ⊢
  refine x_aload (np := 8) (x := 0) (by decide +kernel) rfl (x_nc_le (by decide)) ?_
  have q8 : h4 75 33 = h 75 33 := by rw [← e6]; exact x_up_k (by decide)
  have b9 := jB (e := 33) 0 hJ rg_75_33_0_1 (by first | decide | omega) (by first | decide | omega)
  refine x_getC (np := 11) (x := 737) (f := 33) (q := (h 75 33)) (by decide +kernel) (by decide) (by decide +kernel) q8 (fun l10 => ?_)
  refine x_ifz (k := 1) (tg := 59) (np := 14) (by decide +kernel) (by decide) l10 (fun q11 => ?_) (fun q12 => ?_)
  · have q11 : (h 75 33) ≠ 2147483648 := q11
    refine x_const (np := 60) (x := 9223372039002259456) (a := 2147483648) (by decide +kernel) (by decide) (by decide) ?_
    refine x_istore (np := 61) (x := 2) (lo' := [x_r 75, iv_c a1, iv_c 2147483648, 147573952589676412928]) (by decide +kernel) (by decide) (Nat.le_of_ble_eq_true rfl) rfl ?_
    have p456 : ∀ (n : Nat) (v454 : Nat), 4294967296 - v454 < n → (2147483648 ≤ v454 ∧ v454 ≤ 2147483658) → X sc 254 (d + 4) (xI fun r h' => J h' ∧ Fr 1924145348608 h h' ∧ (2147483648 ≤ r ∧ r ≤ 2147483649)) 0 0 61 [x_r 75, iv_c a1, iv_c v454, 147573952589676412928] [] h4 := by
      intro n
      induction n with
      | zero => intro v454 q457; exact absurd q457 (Nat.not_lt_zero _)
      | succ n i458 =>
        intro v454 q457 b455
        refine x_iload (np := 62) (x := 2) (by decide +kernel) rfl (by first | decide | omega) ?_
        refine x_aload (np := 63) (x := 0) (by decide +kernel) rfl (x_nc_le (by decide)) ?_
        have q459 : h4 75 1 = 76 := by have z := jB (e := 1) 0 j5 rg_75_1_0_1 (by decide) (by decide); omega
        refine x_getR (np := 66) (x := 705) (f := 1) (q := 76) (by decide +kernel) (by decide) (by decide +kernel) q459 ?_
        refine x_const (np := 67) (x := 9223372051887161347) (a := 2147483651) (by decide +kernel) (by decide) (by decide) ?_
        have q460 : h4 76 3 = h 76 3 := by rw [← e6]; exact x_up_k (by decide)
        have b461 := jB (e := 3) 0 hJ rg_76_3_0_1 (by first | decide | omega) (by first | decide | omega)
        refine x_aldC (np := 68) (x := 0) (n := 1952) (i := 3) (q := (h 76 3)) (by decide +kernel) (by decide +kernel) (by first | decide | omega) (by first | decide | omega) (by decide) q460 (fun l462 => ?_)
        refine x_icmp (k := 3) (tg := 102) (np := 71) (by decide +kernel) (by decide) (by first | decide | omega) l462 (fun q463 => ?_) (fun q464 => ?_)
        · have q463 : (h 76 3) ≤ v454 := q463
          refine x_const (np := 103) (x := 9223372039002259456) (a := 2147483648) (by decide +kernel) (by decide) (by decide) ?_
          refine x_istore (np := 104) (x := 2) (lo' := [x_r 75, iv_c a1, iv_c 2147483648, 147573952589676412928]) (by decide +kernel) (by decide) (Nat.le_of_ble_eq_true rfl) rfl ?_
          have p624 : ∀ (n : Nat) (v621 : Nat) (w623 : Nat), 4294967296 - v621 < n → (2147483648 ≤ v621 ∧ v621 ≤ 2147483654) → X sc 254 (d + 4) (xI fun r h' => J h' ∧ Fr 1924145348608 h h' ∧ (2147483648 ≤ r ∧ r ≤ 2147483649)) 0 0 104 [x_r 75, iv_c a1, iv_c v621, w623] [] h4 := by
            intro n
            induction n with
            | zero => intro v621 w623 q625; exact absurd q625 (Nat.not_lt_zero _)
            | succ n i626 =>
              intro v621 w623 q625 b622
              refine x_iload (np := 105) (x := 2) (by decide +kernel) rfl (by first | decide | omega) ?_
              refine x_aload (np := 106) (x := 0) (by decide +kernel) rfl (x_nc_le (by decide)) ?_
              refine x_nI (t := 6) (mj := 157) (n := 1) (rc := 12) (ml := 1) (nr := 1) (np := 109) (as := [x_r 75]) (rest := [iv_c v621]) (lo1 := [x_r 75]) (by decide +kernel) (by decide) (by decide +kernel) (x_rb_of (by decide +kernel)) rfl rfl (x_wr (by decide) x_wn) (x_wi (by first | decide | omega) x_wn) (by decide) rfl ?_
              refine x_aload (np := 1) (x := 0) (by decide +kernel) rfl (x_nc_le (by decide)) ?_
              have q627 : h4 75 1 = 76 := by have z := jB (e := 1) 0 j5 rg_75_1_0_1 (by decide) (by decide); omega
              refine x_getR (np := 4) (x := 705) (f := 1) (q := 76) (by decide +kernel) (by decide) (by decide +kernel) q627 ?_
              refine x_const (np := 5) (x := 9223372039002259456) (a := 2147483648) (by decide +kernel) (by decide) (by decide) ?_
              have q628 : h4 76 0 = h 76 0 := by rw [← e6]; exact x_up_k (by decide)
              have b629 := jB (e := 0) 0 hJ rg_76_0_0_1 (by first | decide | omega) (by first | decide | omega)
              refine x_aldC (np := 6) (x := 0) (n := 1952) (i := 0) (q := (h 76 0)) (by decide +kernel) (by decide +kernel) (by first | decide | omega) (by first | decide | omega) (by decide) q628 (fun l630 => ?_)
              refine x_retI (np := 7) (x := 0) (by decide +kernel) l630 (Or.inl (by decide +kernel)) ⟨_, rfl, l630, ?_⟩
              refine x_icmp (k := 3) (tg := 150) (np := 112) (by decide +kernel) (by decide) (by first | decide | omega) l630 (fun q631 => ?_) (fun q632 => ?_)
              · have q631 : (h 76 0) ≤ v621 := q631
                refine x_const (np := 151) (x := 9223372043297226753) (a := 2147483649) (by decide +kernel) (by decide) (by decide) ?_
                refine x_retI (np := 152) (x := 0) (by decide +kernel) (by decide) (Or.inl (by decide +kernel)) ⟨_, rfl, (by decide), ?_⟩
                exact ⟨j5, f7, (by first | decide | omega)⟩
              have q632 : ¬ ((h 76 0) ≤ v621) := q632
              refine x_aload (np := 113) (x := 0) (by decide +kernel) rfl (x_nc_le (by decide)) ?_
              refine x_iload (np := 114) (x := 2) (by decide +kernel) rfl (by first | decide | omega) ?_
              refine x_cP (t := 6) (mj := 251) (n := 2) (rc := 12) (ml := 4) (nr := 0) (np := 117) (as := [x_r 75, iv_c v621]) (rest := []) (lo1 := [x_r 75, iv_c v621, 147573952589676412928, 147573952589676412928]) (by decide +kernel) (by decide) (by decide +kernel) (x_rb_of (by decide +kernel)) rfl rfl (x_wr (by decide) (x_wi (by first | decide | omega) x_wn)) x_wn (by decide) rfl (c251_75 j5  (by first | decide | omega)) (fun v633 l634 q635 => ?_)
              refine x_istore (np := 118) (x := 3) (lo' := [x_r 75, iv_c a1, iv_c v621, iv_c v633]) (by decide +kernel) l634 (Nat.le_of_ble_eq_true rfl) rfl ?_
              refine x_iload (np := 119) (x := 3) (by decide +kernel) rfl l634 ?_
              refine x_ifz (k := 3) (tg := 125) (np := 122) (by decide +kernel) (by decide) l634 (fun q636 => ?_) (fun q637 => ?_)
              · have q636 : 2147483648 ≤ v633 := q636
                refine x_aload (np := 126) (x := 0) (by decide +kernel) rfl (x_nc_le (by decide)) ?_
                have q638 : h4 75 28 = 94 := by have z := jB (e := 28) 0 j5 rg_75_28_0_1 (by decide) (by decide); omega
                refine x_getR (np := 129) (x := 732) (f := 28) (q := 94) (by decide +kernel) (by decide) (by decide +kernel) q638 ?_
                refine x_iload (np := 130) (x := 1) (by decide +kernel) rfl la1 ?_
                refine x_const (np := 132) (x := 9223372468498989156) (a := 2147483748) (by decide +kernel) (by decide) (by decide) ?_
                refine x_iload (np := 133) (x := 2) (by decide +kernel) rfl (by first | decide | omega) ?_
                refine x_iadd (np := 134) (x := 0) (v := (100 + v621)) (by decide +kernel) (by decide) (by first | decide | omega) (by first | decide | omega) (by first | decide | omega) ?_
                refine x_ast (np := 135) (x := 0) (kd := 1) (n := 6) (i := u2) (by decide +kernel) (Or.inl rfl) (by decide +kernel) (by first | decide | omega) (by first | decide | omega) (by decide) (by first | decide | omega) (fun z => absurd z (by decide)) ?_
                have j640 := jU (e := u2) (v := (100 + v621)) u2 j5 rg_94_0_1_6 (by first | decide | omega) (by first | decide | omega) (by first | decide | omega)
                have f642 := jF (e := u2) (v := (100 + v621)) u2 f7 rg_94_0_1_6 (by first | decide | omega) (by first | decide | omega) (by decide)
                generalize e641 : x_up h4 94 u2 (100 + v621) = h639 at j640 f642 ⊢
                refine x_aload (np := 136) (x := 0) (by decide +kernel) rfl (x_nc_le (by decide)) ?_
                have q643 : h639 75 29 = 95 := by have z := jB (e := 29) 0 j640 rg_75_29_0_1 (by decide) (by decide); omega
                refine x_getR (np := 139) (x := 733) (f := 29) (q := 95) (by decide +kernel) (by decide) (by decide +kernel) q643 ?_
                refine x_iload (np := 140) (x := 1) (by decide +kernel) rfl la1 ?_
                refine x_iload (np := 141) (x := 3) (by decide +kernel) rfl l634 ?_
                refine x_ast (np := 142) (x := 0) (kd := 1) (n := 6) (i := u2) (by decide +kernel) (Or.inl rfl) (by decide +kernel) (by first | decide | omega) (by first | decide | omega) (by decide) l634 (fun z => absurd z (by decide)) ?_
                have j645 := jU (e := u2) (v := v633) u2 j640 rg_95_0_1_6 (by first | decide | omega) (by first | decide | omega) (by first | decide | omega)
                have f647 := jF (e := u2) (v := v633) u2 f642 rg_95_0_1_6 (by first | decide | omega) (by first | decide | omega) (by decide)
                generalize e646 : x_up h639 95 u2 v633 = h644 at j645 f647 ⊢
                refine x_const (np := 143) (x := 9223372039002259456) (a := 2147483648) (by decide +kernel) (by decide) (by decide) ?_
                refine x_retI (np := 144) (x := 0) (by decide +kernel) (by decide) (Or.inl (by decide +kernel)) ⟨_, rfl, (by decide), ?_⟩
                exact ⟨j645, f647, (by first | decide | omega)⟩
              have q637 : ¬ (2147483648 ≤ v633) := q637
              refine x_goto (np := 125) (x := 144) (by decide +kernel) ?_
              refine x_iinc (np := 147) (i := 2) (j := 2147483649) (v := (1 + v621)) (lo' := [x_r 75, iv_c a1, iv_c (1 + v621), iv_c v633]) (by decide +kernel) (by decide) (by decide) rfl (by first | decide | omega) (by first | decide | omega) (by first | decide | omega) rfl ?_
              refine x_goto (np := 150) (x := 104) (by decide +kernel) ?_
              exact i626 (1 + v621) (iv_c v633) (by first | decide | omega) (by first | decide | omega)
          exact p624 _ 2147483648 147573952589676412928 (Nat.lt_succ_self _) (by first | decide | omega)
        have q464 : ¬ ((h 76 3) ≤ v454) := q464
        refine x_aload (np := 72) (x := 0) (by decide +kernel) rfl (x_nc_le (by decide)) ?_
        refine x_iload (np := 73) (x := 2) (by decide +kernel) rfl (by first | decide | omega) ?_
        refine x_nI (t := 6) (mj := 252) (n := 2) (rc := 12) (ml := 2) (nr := 0) (np := 76) (as := [x_r 75, iv_c v454]) (rest := []) (lo1 := [x_r 75, iv_c v454]) (by decide +kernel) (by decide) (by decide +kernel) (x_rb_of (by decide +kernel)) rfl rfl (x_wr (by decide) (x_wi (by first | decide | omega) x_wn)) x_wn (by decide) rfl ?_
        refine x_aload (np := 1) (x := 0) (by decide +kernel) rfl (x_nc_le (by decide)) ?_
        refine x_iload (np := 2) (x := 1) (by decide +kernel) rfl (by first | decide | omega) ?_
        refine x_const (np := 3) (x := 9223372051887161347) (a := 2147483651) (by decide +kernel) (by decide) (by decide) ?_
        refine x_nI (t := 6) (mj := 162) (n := 3) (rc := 12) (ml := 3) (nr := 0) (np := 6) (as := [x_r 75, iv_c v454, iv_c 2147483651]) (rest := []) (lo1 := [x_r 75, iv_c v454, iv_c 2147483651]) (by decide +kernel) (by decide) (by decide +kernel) (x_rb_of (by decide +kernel)) rfl rfl (x_wr (by decide) (x_wi (by first | decide | omega) (x_wi (by decide) x_wn))) x_wn (by decide) rfl ?_
        refine x_aload (np := 1) (x := 0) (by decide +kernel) rfl (x_nc_le (by decide)) ?_
        have q648 : h4 75 1 = 76 := by have z := jB (e := 1) 0 j5 rg_75_1_0_1 (by decide) (by decide); omega
        refine x_getR (np := 4) (x := 705) (f := 1) (q := 76) (by decide +kernel) (by decide) (by decide +kernel) q648 ?_
        refine x_const (np := 7) (x := 9223372726197026976) (a := 2147483808) (by decide +kernel) (by decide) (by decide) ?_
        refine x_const (np := 8) (x := 9223372056182128644) (a := 2147483652) (by decide +kernel) (by decide) (by decide) ?_
        refine x_iload (np := 9) (x := 1) (by decide +kernel) rfl (by first | decide | omega) ?_
        obtain ⟨u649, q650⟩ : ∃ z, v454 = 2147483648 + z := ⟨v454 - 2147483648, by first | decide | omega⟩
        refine x_imul (np := 10) (x := 0) (i := 4) (j := u649) (v := (2147483648 + 4 * u649)) (by decide +kernel) (by first | decide | omega) (by first | decide | omega) (by first | decide | omega) (by first | decide | omega) (by decide) (by first | decide | omega) ?_
        refine x_iadd (np := 11) (x := 0) (v := (2147483808 + 4 * u649)) (by decide +kernel) (by decide) (by first | decide | omega) (by first | decide | omega) (by first | decide | omega) ?_
        refine x_iload (np := 12) (x := 2) (by decide +kernel) rfl (by decide) ?_
        refine x_iadd (np := 13) (x := 0) (v := (2147483811 + 4 * u649)) (by decide +kernel) (by first | decide | omega) (by decide) (by first | decide | omega) (by first | decide | omega) ?_
        have q652 : h4 76 (163 + 4 * u649) = h 76 (163 + 4 * u649) := by rw [← e6]; exact x_up_k (by decide)
        refine x_aldC (np := 14) (x := 0) (n := 1952) (i := (163 + 4 * u649)) (q := ((h 76 (163 + 4 * u649)))) (by decide +kernel) (by decide +kernel) (by first | decide | omega) (by first | decide | omega) (by decide) q652 (fun l653 => ?_)
        refine x_retI (np := 15) (x := 0) (by decide +kernel) l653 (Or.inl (by decide +kernel)) ⟨_, rfl, l653, ?_⟩
        refine x_ifz (k := 2) (tg := 13) (np := 9) (by decide +kernel) (by decide) l653 (fun q654 => ?_) (fun q655 => ?_)
        · have q654 : ((h 76 (163 + 4 * u649))) < 2147483648 := q654
          refine x_const (np := 14) (x := 9223372039002259456) (a := 2147483648) (by decide +kernel) (by decide) (by decide) ?_
          refine x_retI (np := 15) (x := 0) (by decide +kernel) (by decide) (Or.inr ⟨by decide +kernel, by first | decide | omega, by first | decide | omega⟩) ⟨_, rfl, (by decide), ?_⟩
          refine x_ifz (k := 0) (tg := 96) (np := 79) (by decide +kernel) (by decide) (by decide) (fun q656 => ?_) (fun q657 => ?_)
          · have q656 : 2147483648 = 2147483648 := q656
            refine x_iinc (np := 99) (i := 2) (j := 2147483649) (v := (1 + v454)) (lo' := [x_r 75, iv_c a1, iv_c (1 + v454), 147573952589676412928]) (by decide +kernel) (by decide) (by decide) rfl (by first | decide | omega) (by first | decide | omega) (by first | decide | omega) rfl ?_
            refine x_goto (np := 102) (x := 61) (by decide +kernel) ?_
            exact i458 (1 + v454) (by first | decide | omega) (by first | decide | omega)
          have q657 : ¬ (2147483648 = 2147483648) := q657
          exfalso; omega
        have q655 : ¬ (((h 76 (163 + 4 * u649))) < 2147483648) := q655
        refine x_const (np := 10) (x := 9223372043297226753) (a := 2147483649) (by decide +kernel) (by decide) (by decide) ?_
        refine x_goto (np := 13) (x := 14) (by decide +kernel) ?_
        refine x_retI (np := 15) (x := 0) (by decide +kernel) (by decide) (Or.inr ⟨by decide +kernel, by first | decide | omega, by first | decide | omega⟩) ⟨_, rfl, (by decide), ?_⟩
        refine x_ifz (k := 0) (tg := 96) (np := 79) (by decide +kernel) (by decide) (by decide) (fun q658 => ?_) (fun q659 => ?_)
        · have q658 : 2147483649 = 2147483648 := q658
          exfalso; omega
        have q659 : ¬ (2147483649 = 2147483648) := q659
        refine x_aload (np := 80) (x := 0) (by decide +kernel) rfl (x_nc_le (by decide)) ?_
        refine x_iload (np := 81) (x := 2) (by decide +kernel) rfl (by first | decide | omega) ?_
        refine x_nI (t := 6) (mj := 253) (n := 2) (rc := 12) (ml := 2) (nr := 0) (np := 84) (as := [x_r 75, iv_c v454]) (rest := []) (lo1 := [x_r 75, iv_c v454]) (by decide +kernel) (by decide) (by decide +kernel) (x_rb_of (by decide +kernel)) rfl rfl (x_wr (by decide) (x_wi (by first | decide | omega) x_wn)) x_wn (by decide) rfl ?_
        refine x_aload (np := 1) (x := 0) (by decide +kernel) rfl (x_nc_le (by decide)) ?_
        refine x_aload (np := 2) (x := 0) (by decide +kernel) rfl (x_nc_le (by decide)) ?_
        refine x_iload (np := 3) (x := 1) (by decide +kernel) rfl (by first | decide | omega) ?_
        refine x_const (np := 4) (x := 9223372039002259456) (a := 2147483648) (by decide +kernel) (by decide) (by decide) ?_
        refine x_nI (t := 6) (mj := 162) (n := 3) (rc := 12) (ml := 3) (nr := 1) (np := 7) (as := [x_r 75, iv_c v454, iv_c 2147483648]) (rest := [x_r 75]) (lo1 := [x_r 75, iv_c v454, iv_c 2147483648]) (by decide +kernel) (by decide) (by decide +kernel) (x_rb_of (by decide +kernel)) rfl rfl (x_wr (by decide) (x_wi (by first | decide | omega) (x_wi (by decide) x_wn))) (x_wr (by decide) x_wn) (by decide) rfl ?_
        refine x_aload (np := 1) (x := 0) (by decide +kernel) rfl (x_nc_le (by decide)) ?_
        have q660 : h4 75 1 = 76 := by have z := jB (e := 1) 0 j5 rg_75_1_0_1 (by decide) (by decide); omega
        refine x_getR (np := 4) (x := 705) (f := 1) (q := 76) (by decide +kernel) (by decide) (by decide +kernel) q660 ?_
        refine x_const (np := 7) (x := 9223372726197026976) (a := 2147483808) (by decide +kernel) (by decide) (by decide) ?_
        refine x_const (np := 8) (x := 9223372056182128644) (a := 2147483652) (by decide +kernel) (by decide) (by decide) ?_
        refine x_iload (np := 9) (x := 1) (by decide +kernel) rfl (by first | decide | omega) ?_
        refine x_imul (np := 10) (x := 0) (i := 4) (j := u649) (v := (2147483648 + 4 * u649)) (by decide +kernel) (by first | decide | omega) (by first | decide | omega) (by first | decide | omega) (by first | decide | omega) (by decide) (by first | decide | omega) ?_
        refine x_iadd (np := 11) (x := 0) (v := (2147483808 + 4 * u649)) (by decide +kernel) (by decide) (by first | decide | omega) (by first | decide | omega) (by first | decide | omega) ?_
        refine x_iload (np := 12) (x := 2) (by decide +kernel) rfl (by decide) ?_
        refine x_iadd (np := 13) (x := 0) (v := (2147483808 + 4 * u649)) (by decide +kernel) (by first | decide | omega) (by decide) (by first | decide | omega) (by first | decide | omega) ?_
        have q662 : h4 76 (160 + 4 * u649) = h 76 (160 + 4 * u649) := by rw [← e6]; exact x_up_k (by decide)
        have b663 := jB (e := (160 + 4 * u649)) u649 hJ rg_76_160_4_10 (by first | decide | omega) (by first | decide | omega)
        refine x_aldC (np := 14) (x := 0) (n := 1952) (i := (160 + 4 * u649)) (q := ((h 76 (160 + 4 * u649)))) (by decide +kernel) (by decide +kernel) (by first | decide | omega) (by first | decide | omega) (by decide) q662 (fun l664 => ?_)
        refine x_retI (np := 15) (x := 0) (by decide +kernel) l664 (Or.inl (by decide +kernel)) ⟨_, rfl, l664, ?_⟩
        refine x_aload (np := 8) (x := 0) (by decide +kernel) rfl (x_nc_le (by decide)) ?_
        refine x_iload (np := 9) (x := 1) (by decide +kernel) rfl (by first | decide | omega) ?_
        refine x_const (np := 10) (x := 9223372047592194050) (a := 2147483650) (by decide +kernel) (by decide) (by decide) ?_
        refine x_nI (t := 6) (mj := 162) (n := 3) (rc := 12) (ml := 3) (nr := 2) (np := 13) (as := [x_r 75, iv_c v454, iv_c 2147483650]) (rest := [iv_c ((h 76 (160 + 4 * u649))), x_r 75]) (lo1 := [x_r 75, iv_c v454, iv_c 2147483650]) (by decide +kernel) (by decide) (by decide +kernel) (x_rb_of (by decide +kernel)) rfl rfl (x_wr (by decide) (x_wi (by first | decide | omega) (x_wi (by decide) x_wn))) (x_wi l664 (x_wr (by decide) x_wn)) (by decide) rfl ?_
        refine x_aload (np := 1) (x := 0) (by decide +kernel) rfl (x_nc_le (by decide)) ?_
        have q665 : h4 75 1 = 76 := by have z := jB (e := 1) 0 j5 rg_75_1_0_1 (by decide) (by decide); omega
        refine x_getR (np := 4) (x := 705) (f := 1) (q := 76) (by decide +kernel) (by decide) (by decide +kernel) q665 ?_
        refine x_const (np := 7) (x := 9223372726197026976) (a := 2147483808) (by decide +kernel) (by decide) (by decide) ?_
        refine x_const (np := 8) (x := 9223372056182128644) (a := 2147483652) (by decide +kernel) (by decide) (by decide) ?_
        refine x_iload (np := 9) (x := 1) (by decide +kernel) rfl (by first | decide | omega) ?_
        refine x_imul (np := 10) (x := 0) (i := 4) (j := u649) (v := (2147483648 + 4 * u649)) (by decide +kernel) (by first | decide | omega) (by first | decide | omega) (by first | decide | omega) (by first | decide | omega) (by decide) (by first | decide | omega) ?_
        refine x_iadd (np := 11) (x := 0) (v := (2147483808 + 4 * u649)) (by decide +kernel) (by decide) (by first | decide | omega) (by first | decide | omega) (by first | decide | omega) ?_
        refine x_iload (np := 12) (x := 2) (by decide +kernel) rfl (by decide) ?_
        refine x_iadd (np := 13) (x := 0) (v := (2147483810 + 4 * u649)) (by decide +kernel) (by first | decide | omega) (by decide) (by first | decide | omega) (by first | decide | omega) ?_
        have q667 : h4 76 (162 + 4 * u649) = h 76 (162 + 4 * u649) := by rw [← e6]; exact x_up_k (by decide)
        have b668 := jB (e := (162 + 4 * u649)) u649 hJ rg_76_162_4_10 (by first | decide | omega) (by first | decide | omega)
        refine x_aldC (np := 14) (x := 0) (n := 1952) (i := (162 + 4 * u649)) (q := ((h 76 (162 + 4 * u649)))) (by decide +kernel) (by decide +kernel) (by first | decide | omega) (by first | decide | omega) (by decide) q667 (fun l669 => ?_)
        refine x_retI (np := 15) (x := 0) (by decide +kernel) l669 (Or.inl (by decide +kernel)) ⟨_, rfl, l669, ?_⟩
        refine x_cP (t := 6) (mj := 217) (n := 3) (rc := 12) (ml := 3) (nr := 0) (np := 16) (as := [x_r 75, iv_c ((h 76 (160 + 4 * u649))), iv_c ((h 76 (162 + 4 * u649)))]) (rest := []) (lo1 := [x_r 75, iv_c ((h 76 (160 + 4 * u649))), iv_c ((h 76 (162 + 4 * u649)))]) (by decide +kernel) (by decide) (by decide +kernel) (x_rb_of (by decide +kernel)) rfl rfl (x_wr (by decide) (x_wi l664 (x_wi l669 x_wn))) x_wn (by decide) rfl (c217_75 j5  (by first | decide | omega) (by first | decide | omega)) (fun v670 l671 q672 => ?_)
        refine x_aload (np := 17) (x := 0) (by decide +kernel) rfl (x_nc_le (by decide)) ?_
        refine x_iload (np := 18) (x := 1) (by decide +kernel) rfl (by first | decide | omega) ?_
        refine x_const (np := 19) (x := 9223372051887161347) (a := 2147483651) (by decide +kernel) (by decide) (by decide) ?_
        refine x_nI (t := 6) (mj := 162) (n := 3) (rc := 12) (ml := 3) (nr := 1) (np := 22) (as := [x_r 75, iv_c v454, iv_c 2147483651]) (rest := [iv_c v670]) (lo1 := [x_r 75, iv_c v454, iv_c 2147483651]) (by decide +kernel) (by decide) (by decide +kernel) (x_rb_of (by decide +kernel)) rfl rfl (x_wr (by decide) (x_wi (by first | decide | omega) (x_wi (by decide) x_wn))) (x_wi l671 x_wn) (by decide) rfl ?_
        refine x_aload (np := 1) (x := 0) (by decide +kernel) rfl (x_nc_le (by decide)) ?_
        have q673 : h4 75 1 = 76 := by have z := jB (e := 1) 0 j5 rg_75_1_0_1 (by decide) (by decide); omega
        refine x_getR (np := 4) (x := 705) (f := 1) (q := 76) (by decide +kernel) (by decide) (by decide +kernel) q673 ?_
        refine x_const (np := 7) (x := 9223372726197026976) (a := 2147483808) (by decide +kernel) (by decide) (by decide) ?_
        refine x_const (np := 8) (x := 9223372056182128644) (a := 2147483652) (by decide +kernel) (by decide) (by decide) ?_
        refine x_iload (np := 9) (x := 1) (by decide +kernel) rfl (by first | decide | omega) ?_
        refine x_imul (np := 10) (x := 0) (i := 4) (j := u649) (v := (2147483648 + 4 * u649)) (by decide +kernel) (by first | decide | omega) (by first | decide | omega) (by first | decide | omega) (by first | decide | omega) (by decide) (by first | decide | omega) ?_
        refine x_iadd (np := 11) (x := 0) (v := (2147483808 + 4 * u649)) (by decide +kernel) (by decide) (by first | decide | omega) (by first | decide | omega) (by first | decide | omega) ?_
        refine x_iload (np := 12) (x := 2) (by decide +kernel) rfl (by decide) ?_
        refine x_iadd (np := 13) (x := 0) (v := (2147483811 + 4 * u649)) (by decide +kernel) (by first | decide | omega) (by decide) (by first | decide | omega) (by first | decide | omega) ?_
        have q675 : h4 76 (163 + 4 * u649) = h 76 (163 + 4 * u649) := by rw [← e6]; exact x_up_k (by decide)
        refine x_aldC (np := 14) (x := 0) (n := 1952) (i := (163 + 4 * u649)) (q := ((h 76 (163 + 4 * u649)))) (by decide +kernel) (by decide +kernel) (by first | decide | omega) (by first | decide | omega) (by decide) q675 (fun l676 => ?_)
        refine x_retI (np := 15) (x := 0) (by decide +kernel) l653 (Or.inl (by decide +kernel)) ⟨_, rfl, l653, ?_⟩
        refine x_icmp (k := 1) (tg := 29) (np := 25) (by decide +kernel) (by decide) l671 l653 (fun q677 => ?_) (fun q678 => ?_)
        · have q677 : v670 ≠ ((h 76 (163 + 4 * u649))) := q677
          refine x_const (np := 30) (x := 9223372039002259456) (a := 2147483648) (by decide +kernel) (by decide) (by decide) ?_
          refine x_retI (np := 31) (x := 0) (by decide +kernel) (by decide) (Or.inr ⟨by decide +kernel, by first | decide | omega, by first | decide | omega⟩) ⟨_, rfl, (by decide), ?_⟩
          refine x_ifz (k := 1) (tg := 96) (np := 87) (by decide +kernel) (by decide) (by decide) (fun q679 => ?_) (fun q680 => ?_)
          · have q679 : 2147483648 ≠ 2147483648 := q679
            exfalso; omega
          have q680 : ¬ (2147483648 ≠ 2147483648) := q680
          refine x_aload (np := 88) (x := 0) (by decide +kernel) rfl (x_nc_le (by decide)) ?_
          have q681 : h4 75 28 = 94 := by have z := jB (e := 28) 0 j5 rg_75_28_0_1 (by decide) (by decide); omega
          refine x_getR (np := 91) (x := 732) (f := 28) (q := 94) (by decide +kernel) (by decide) (by decide +kernel) q681 ?_
          refine x_iload (np := 92) (x := 1) (by decide +kernel) rfl la1 ?_
          refine x_iload (np := 93) (x := 2) (by decide +kernel) rfl (by first | decide | omega) ?_
          refine x_ast (np := 94) (x := 0) (kd := 1) (n := 6) (i := u2) (by decide +kernel) (Or.inl rfl) (by decide +kernel) (by first | decide | omega) (by first | decide | omega) (by decide) (by first | decide | omega) (fun z => absurd z (by decide)) ?_
          have j683 := jU (e := u2) (v := v454) u2 j5 rg_94_0_1_6 (by first | decide | omega) (by first | decide | omega) (by first | decide | omega)
          have f685 := jF (e := u2) (v := v454) u2 f7 rg_94_0_1_6 (by first | decide | omega) (by first | decide | omega) (by decide)
          generalize e684 : x_up h4 94 u2 v454 = h682 at j683 f685 ⊢
          refine x_const (np := 95) (x := 9223372039002259456) (a := 2147483648) (by decide +kernel) (by decide) (by decide) ?_
          refine x_retI (np := 96) (x := 0) (by decide +kernel) (by decide) (Or.inl (by decide +kernel)) ⟨_, rfl, (by decide), ?_⟩
          exact ⟨j683, f685, (by first | decide | omega)⟩
        have q678 : ¬ (v670 ≠ ((h 76 (163 + 4 * u649)))) := q678
        refine x_const (np := 26) (x := 9223372043297226753) (a := 2147483649) (by decide +kernel) (by decide) (by decide) ?_
        refine x_goto (np := 29) (x := 30) (by decide +kernel) ?_
        refine x_retI (np := 31) (x := 0) (by decide +kernel) (by decide) (Or.inr ⟨by decide +kernel, by first | decide | omega, by first | decide | omega⟩) ⟨_, rfl, (by decide), ?_⟩
        refine x_ifz (k := 1) (tg := 96) (np := 87) (by decide +kernel) (by decide) (by decide) (fun q686 => ?_) (fun q687 => ?_)
        · have q686 : 2147483649 ≠ 2147483648 := q686
          refine x_iinc (np := 99) (i := 2) (j := 2147483649) (v := (1 + v454)) (lo' := [x_r 75, iv_c a1, iv_c (1 + v454), 147573952589676412928]) (by decide +kernel) (by decide) (by decide) rfl (by first | decide | omega) (by first | decide | omega) (by first | decide | omega) rfl ?_
          refine x_goto (np := 102) (x := 61) (by decide +kernel) ?_
          exact i458 (1 + v454) (by first | decide | omega) (by first | decide | omega)
        have q687 : ¬ (2147483649 ≠ 2147483648) := q687
        exfalso; omega
    exact p456 _ 2147483648 (Nat.lt_succ_self _) (by first | decide | omega)
  have q12 : ¬ ((h 75 33) ≠ 2147483648) := q12
  refine x_const (np := 15) (x := 9223372039002259456) (a := 2147483648) (by decide +kernel) (by decide) (by decide) ?_
  refine x_istore (np := 16) (x := 2) (lo' := [x_r 75, iv_c a1, iv_c 2147483648, 147573952589676412928]) (by decide +kernel) (by decide) (Nat.le_of_ble_eq_true rfl) rfl ?_
  have p1275 : ∀ (n : Nat) (v1273 : Nat), 4294967296 - v1273 < n → (2147483648 ≤ v1273 ∧ v1273 ≤ 2147483658) → X sc 254 (d + 4) (xI fun r h' => J h' ∧ Fr 1924145348608 h h' ∧ (2147483648 ≤ r ∧ r ≤ 2147483649)) 0 0 16 [x_r 75, iv_c a1, iv_c v1273, 147573952589676412928] [] h4 := by
    intro n
    induction n with
    | zero => intro v1273 q1276; exact absurd q1276 (Nat.not_lt_zero _)
    | succ n i1277 =>
      intro v1273 q1276 b1274
      refine x_iload (np := 17) (x := 2) (by decide +kernel) rfl (by first | decide | omega) ?_
      refine x_aload (np := 18) (x := 0) (by decide +kernel) rfl (x_nc_le (by decide)) ?_
      have q1278 : h4 75 1 = 76 := by have z := jB (e := 1) 0 j5 rg_75_1_0_1 (by decide) (by decide); omega
      refine x_getR (np := 21) (x := 705) (f := 1) (q := 76) (by decide +kernel) (by decide) (by decide +kernel) q1278 ?_
      refine x_const (np := 22) (x := 9223372060477095941) (a := 2147483653) (by decide +kernel) (by decide) (by decide) ?_
      have q1279 : h4 76 5 = h 76 5 := by rw [← e6]; exact x_up_k (by decide)
      have b1280 := jB (e := 5) 0 hJ rg_76_5_0_1 (by first | decide | omega) (by first | decide | omega)
      refine x_aldC (np := 23) (x := 0) (n := 1952) (i := 5) (q := (h 76 5)) (by decide +kernel) (by decide +kernel) (by first | decide | omega) (by first | decide | omega) (by decide) q1279 (fun l1281 => ?_)
      refine x_icmp (k := 3) (tg := 57) (np := 26) (by decide +kernel) (by decide) (by first | decide | omega) l1281 (fun q1282 => ?_) (fun q1283 => ?_)
      · have q1282 : (h 76 5) ≤ v1273 := q1282
        refine x_const (np := 58) (x := 9223372043297226753) (a := 2147483649) (by decide +kernel) (by decide) (by decide) ?_
        refine x_retI (np := 59) (x := 0) (by decide +kernel) (by decide) (Or.inl (by decide +kernel)) ⟨_, rfl, (by decide), ?_⟩
        exact ⟨j5, f7, (by first | decide | omega)⟩
      have q1283 : ¬ ((h 76 5) ≤ v1273) := q1283
      refine x_aload (np := 27) (x := 0) (by decide +kernel) rfl (x_nc_le (by decide)) ?_
      refine x_iload (np := 28) (x := 2) (by decide +kernel) rfl (by first | decide | omega) ?_
      refine x_nI (t := 6) (mj := 249) (n := 2) (rc := 12) (ml := 2) (nr := 0) (np := 31) (as := [x_r 75, iv_c v1273]) (rest := []) (lo1 := [x_r 75, iv_c v1273]) (by decide +kernel) (by decide) (by decide +kernel) (x_rb_of (by decide +kernel)) rfl rfl (x_wr (by decide) (x_wi (by first | decide | omega) x_wn)) x_wn (by decide) rfl ?_
      refine x_aload (np := 1) (x := 0) (by decide +kernel) rfl (x_nc_le (by decide)) ?_
      refine x_iload (np := 2) (x := 1) (by decide +kernel) rfl (by first | decide | omega) ?_
      refine x_const (np := 3) (x := 9223372051887161347) (a := 2147483651) (by decide +kernel) (by decide) (by decide) ?_
      refine x_nI (t := 6) (mj := 164) (n := 3) (rc := 12) (ml := 3) (nr := 0) (np := 6) (as := [x_r 75, iv_c v1273, iv_c 2147483651]) (rest := []) (lo1 := [x_r 75, iv_c v1273, iv_c 2147483651]) (by decide +kernel) (by decide) (by decide +kernel) (x_rb_of (by decide +kernel)) rfl rfl (x_wr (by decide) (x_wi (by first | decide | omega) (x_wi (by decide) x_wn))) x_wn (by decide) rfl ?_
      refine x_aload (np := 1) (x := 0) (by decide +kernel) rfl (x_nc_le (by decide)) ?_
      have q1284 : h4 75 1 = 76 := by have z := jB (e := 1) 0 j5 rg_75_1_0_1 (by decide) (by decide); omega
      refine x_getR (np := 4) (x := 705) (f := 1) (q := 76) (by decide +kernel) (by decide) (by decide +kernel) q1284 ?_
      refine x_const (np := 7) (x := 9223373112744083706) (a := 2147483898) (by decide +kernel) (by decide) (by decide) ?_
      refine x_const (np := 8) (x := 9223372056182128644) (a := 2147483652) (by decide +kernel) (by decide) (by decide) ?_
      refine x_iload (np := 9) (x := 1) (by decide +kernel) rfl (by first | decide | omega) ?_
      obtain ⟨u1285, q1286⟩ : ∃ z, v1273 = 2147483648 + z := ⟨v1273 - 2147483648, by first | decide | omega⟩
      refine x_imul (np := 10) (x := 0) (i := 4) (j := u1285) (v := (2147483648 + 4 * u1285)) (by decide +kernel) (by first | decide | omega) (by first | decide | omega) (by first | decide | omega) (by first | decide | omega) (by decide) (by first | decide | omega) ?_
      refine x_iadd (np := 11) (x := 0) (v := (2147483898 + 4 * u1285)) (by decide +kernel) (by decide) (by first | decide | omega) (by first | decide | omega) (by first | decide | omega) ?_
      refine x_iload (np := 12) (x := 2) (by decide +kernel) rfl (by decide) ?_
      refine x_iadd (np := 13) (x := 0) (v := (2147483901 + 4 * u1285)) (by decide +kernel) (by first | decide | omega) (by decide) (by first | decide | omega) (by first | decide | omega) ?_
      have q1288 : h4 76 (253 + 4 * u1285) = h 76 (253 + 4 * u1285) := by rw [← e6]; exact x_up_k (by decide)
      refine x_aldC (np := 14) (x := 0) (n := 1952) (i := (253 + 4 * u1285)) (q := ((h 76 (253 + 4 * u1285)))) (by decide +kernel) (by decide +kernel) (by first | decide | omega) (by first | decide | omega) (by decide) q1288 (fun l1289 => ?_)
      refine x_retI (np := 15) (x := 0) (by decide +kernel) l1289 (Or.inl (by decide +kernel)) ⟨_, rfl, l1289, ?_⟩
      refine x_aload (np := 7) (x := 0) (by decide +kernel) rfl (x_nc_le (by decide)) ?_
      have q1290 : h4 75 32 = h 75 32 := by rw [← e6]; exact x_up_k (by decide)
      refine x_getC (np := 10) (x := 736) (f := 32) (q := (h 75 32)) (by decide +kernel) (by decide) (by decide +kernel) q1290 (fun l1291 => ?_)
      refine x_icmp (k := 4) (tg := 17) (np := 13) (by decide +kernel) (by decide) l1289 l1291 (fun q1292 => ?_) (fun q1293 => ?_)
      · have q1292 : (h 75 32) < ((h 76 (253 + 4 * u1285))) := q1292
        refine x_const (np := 18) (x := 9223372039002259456) (a := 2147483648) (by decide +kernel) (by decide) (by decide) ?_
        refine x_retI (np := 19) (x := 0) (by decide +kernel) (by decide) (Or.inr ⟨by decide +kernel, by first | decide | omega, by first | decide | omega⟩) ⟨_, rfl, (by decide), ?_⟩
        refine x_ifz (k := 0) (tg := 51) (np := 34) (by decide +kernel) (by decide) (by decide) (fun q1294 => ?_) (fun q1295 => ?_)
        · have q1294 : 2147483648 = 2147483648 := q1294
          refine x_iinc (np := 54) (i := 2) (j := 2147483649) (v := (1 + v1273)) (lo' := [x_r 75, iv_c a1, iv_c (1 + v1273), 147573952589676412928]) (by decide +kernel) (by decide) (by decide) rfl (by first | decide | omega) (by first | decide | omega) (by first | decide | omega) rfl ?_
          refine x_goto (np := 57) (x := 16) (by decide +kernel) ?_
          exact i1277 (1 + v1273) (by first | decide | omega) (by first | decide | omega)
        have q1295 : ¬ (2147483648 = 2147483648) := q1295
        exfalso; omega
      have q1293 : ¬ ((h 75 32) < ((h 76 (253 + 4 * u1285)))) := q1293
      refine x_const (np := 14) (x := 9223372043297226753) (a := 2147483649) (by decide +kernel) (by decide) (by decide) ?_
      refine x_goto (np := 17) (x := 18) (by decide +kernel) ?_
      refine x_retI (np := 19) (x := 0) (by decide +kernel) (by decide) (Or.inr ⟨by decide +kernel, by first | decide | omega, by first | decide | omega⟩) ⟨_, rfl, (by decide), ?_⟩
      refine x_ifz (k := 0) (tg := 51) (np := 34) (by decide +kernel) (by decide) (by decide) (fun q1296 => ?_) (fun q1297 => ?_)
      · have q1296 : 2147483649 = 2147483648 := q1296
        exfalso; omega
      have q1297 : ¬ (2147483649 = 2147483648) := q1297
      refine x_aload (np := 35) (x := 0) (by decide +kernel) rfl (x_nc_le (by decide)) ?_
      refine x_iload (np := 36) (x := 2) (by decide +kernel) rfl (by first | decide | omega) ?_
      refine x_nI (t := 6) (mj := 250) (n := 2) (rc := 12) (ml := 3) (nr := 0) (np := 39) (as := [x_r 75, iv_c v1273]) (rest := []) (lo1 := [x_r 75, iv_c v1273, 147573952589676412928]) (by decide +kernel) (by decide) (by decide +kernel) (x_rb_of (by decide +kernel)) rfl rfl (x_wr (by decide) (x_wi (by first | decide | omega) x_wn)) x_wn (by decide) rfl ?_
      refine x_aload (np := 1) (x := 0) (by decide +kernel) rfl (x_nc_le (by decide)) ?_
      refine x_aload (np := 2) (x := 0) (by decide +kernel) rfl (x_nc_le (by decide)) ?_
      refine x_iload (np := 3) (x := 1) (by decide +kernel) rfl (by first | decide | omega) ?_
      refine x_const (np := 4) (x := 9223372039002259456) (a := 2147483648) (by decide +kernel) (by decide) (by decide) ?_
      refine x_nI (t := 6) (mj := 164) (n := 3) (rc := 12) (ml := 3) (nr := 1) (np := 7) (as := [x_r 75, iv_c v1273, iv_c 2147483648]) (rest := [x_r 75]) (lo1 := [x_r 75, iv_c v1273, iv_c 2147483648]) (by decide +kernel) (by decide) (by decide +kernel) (x_rb_of (by decide +kernel)) rfl rfl (x_wr (by decide) (x_wi (by first | decide | omega) (x_wi (by decide) x_wn))) (x_wr (by decide) x_wn) (by decide) rfl ?_
      refine x_aload (np := 1) (x := 0) (by decide +kernel) rfl (x_nc_le (by decide)) ?_
      have q1298 : h4 75 1 = 76 := by have z := jB (e := 1) 0 j5 rg_75_1_0_1 (by decide) (by decide); omega
      refine x_getR (np := 4) (x := 705) (f := 1) (q := 76) (by decide +kernel) (by decide) (by decide +kernel) q1298 ?_
      refine x_const (np := 7) (x := 9223373112744083706) (a := 2147483898) (by decide +kernel) (by decide) (by decide) ?_
      refine x_const (np := 8) (x := 9223372056182128644) (a := 2147483652) (by decide +kernel) (by decide) (by decide) ?_
      refine x_iload (np := 9) (x := 1) (by decide +kernel) rfl (by first | decide | omega) ?_
      refine x_imul (np := 10) (x := 0) (i := 4) (j := u1285) (v := (2147483648 + 4 * u1285)) (by decide +kernel) (by first | decide | omega) (by first | decide | omega) (by first | decide | omega) (by first | decide | omega) (by decide) (by first | decide | omega) ?_
      refine x_iadd (np := 11) (x := 0) (v := (2147483898 + 4 * u1285)) (by decide +kernel) (by decide) (by first | decide | omega) (by first | decide | omega) (by first | decide | omega) ?_
      refine x_iload (np := 12) (x := 2) (by decide +kernel) rfl (by decide) ?_
      refine x_iadd (np := 13) (x := 0) (v := (2147483898 + 4 * u1285)) (by decide +kernel) (by first | decide | omega) (by decide) (by first | decide | omega) (by first | decide | omega) ?_
      have q1300 : h4 76 (250 + 4 * u1285) = h 76 (250 + 4 * u1285) := by rw [← e6]; exact x_up_k (by decide)
      have b1301 := jB (e := (250 + 4 * u1285)) u1285 hJ rg_76_250_4_10 (by first | decide | omega) (by first | decide | omega)
      refine x_aldC (np := 14) (x := 0) (n := 1952) (i := (250 + 4 * u1285)) (q := ((h 76 (250 + 4 * u1285)))) (by decide +kernel) (by decide +kernel) (by first | decide | omega) (by first | decide | omega) (by decide) q1300 (fun l1302 => ?_)
      refine x_retI (np := 15) (x := 0) (by decide +kernel) l1302 (Or.inl (by decide +kernel)) ⟨_, rfl, l1302, ?_⟩
      refine x_aload (np := 8) (x := 0) (by decide +kernel) rfl (x_nc_le (by decide)) ?_
      refine x_iload (np := 9) (x := 1) (by decide +kernel) rfl (by first | decide | omega) ?_
      refine x_const (np := 10) (x := 9223372043297226753) (a := 2147483649) (by decide +kernel) (by decide) (by decide) ?_
      refine x_nI (t := 6) (mj := 164) (n := 3) (rc := 12) (ml := 3) (nr := 2) (np := 13) (as := [x_r 75, iv_c v1273, iv_c 2147483649]) (rest := [iv_c ((h 76 (250 + 4 * u1285))), x_r 75]) (lo1 := [x_r 75, iv_c v1273, iv_c 2147483649]) (by decide +kernel) (by decide) (by decide +kernel) (x_rb_of (by decide +kernel)) rfl rfl (x_wr (by decide) (x_wi (by first | decide | omega) (x_wi (by decide) x_wn))) (x_wi l1302 (x_wr (by decide) x_wn)) (by decide) rfl ?_
      refine x_aload (np := 1) (x := 0) (by decide +kernel) rfl (x_nc_le (by decide)) ?_
      have q1303 : h4 75 1 = 76 := by have z := jB (e := 1) 0 j5 rg_75_1_0_1 (by decide) (by decide); omega
      refine x_getR (np := 4) (x := 705) (f := 1) (q := 76) (by decide +kernel) (by decide) (by decide +kernel) q1303 ?_
      refine x_const (np := 7) (x := 9223373112744083706) (a := 2147483898) (by decide +kernel) (by decide) (by decide) ?_
      refine x_const (np := 8) (x := 9223372056182128644) (a := 2147483652) (by decide +kernel) (by decide) (by decide) ?_
      refine x_iload (np := 9) (x := 1) (by decide +kernel) rfl (by first | decide | omega) ?_
      refine x_imul (np := 10) (x := 0) (i := 4) (j := u1285) (v := (2147483648 + 4 * u1285)) (by decide +kernel) (by first | decide | omega) (by first | decide | omega) (by first | decide | omega) (by first | decide | omega) (by decide) (by first | decide | omega) ?_
      refine x_iadd (np := 11) (x := 0) (v := (2147483898 + 4 * u1285)) (by decide +kernel) (by decide) (by first | decide | omega) (by first | decide | omega) (by first | decide | omega) ?_
      refine x_iload (np := 12) (x := 2) (by decide +kernel) rfl (by decide) ?_
      refine x_iadd (np := 13) (x := 0) (v := (2147483899 + 4 * u1285)) (by decide +kernel) (by first | decide | omega) (by decide) (by first | decide | omega) (by first | decide | omega) ?_
      have q1305 : h4 76 (251 + 4 * u1285) = h 76 (251 + 4 * u1285) := by rw [← e6]; exact x_up_k (by decide)
      have b1306 := jB (e := (251 + 4 * u1285)) u1285 hJ rg_76_251_4_10 (by first | decide | omega) (by first | decide | omega)
      refine x_aldC (np := 14) (x := 0) (n := 1952) (i := (251 + 4 * u1285)) (q := ((h 76 (251 + 4 * u1285)))) (by decide +kernel) (by decide +kernel) (by first | decide | omega) (by first | decide | omega) (by decide) q1305 (fun l1307 => ?_)
      refine x_retI (np := 15) (x := 0) (by decide +kernel) l1307 (Or.inl (by decide +kernel)) ⟨_, rfl, l1307, ?_⟩
      refine x_cP (t := 6) (mj := 217) (n := 3) (rc := 12) (ml := 3) (nr := 0) (np := 16) (as := [x_r 75, iv_c ((h 76 (250 + 4 * u1285))), iv_c ((h 76 (251 + 4 * u1285)))]) (rest := []) (lo1 := [x_r 75, iv_c ((h 76 (250 + 4 * u1285))), iv_c ((h 76 (251 + 4 * u1285)))]) (by decide +kernel) (by decide) (by decide +kernel) (x_rb_of (by decide +kernel)) rfl rfl (x_wr (by decide) (x_wi l1302 (x_wi l1307 x_wn))) x_wn (by decide) rfl (c217_75 j5  (by first | decide | omega) (by first | decide | omega)) (fun v1308 l1309 q1310 => ?_)
      refine x_istore (np := 17) (x := 2) (lo' := [x_r 75, iv_c v1273, iv_c v1308]) (by decide +kernel) l1309 (Nat.le_of_ble_eq_true rfl) rfl ?_
      refine x_iload (np := 18) (x := 2) (by decide +kernel) rfl l1309 ?_
      refine x_ifz (k := 2) (tg := 39) (np := 21) (by decide +kernel) (by decide) l1309 (fun q1311 => ?_) (fun q1312 => ?_)
      · have q1311 : v1308 < 2147483648 := q1311
        refine x_const (np := 40) (x := 9223372039002259456) (a := 2147483648) (by decide +kernel) (by decide) (by decide) ?_
        refine x_retI (np := 41) (x := 0) (by decide +kernel) (by decide) (Or.inr ⟨by decide +kernel, by first | decide | omega, by first | decide | omega⟩) ⟨_, rfl, (by decide), ?_⟩
        refine x_ifz (k := 1) (tg := 51) (np := 42) (by decide +kernel) (by decide) (by decide) (fun q1313 => ?_) (fun q1314 => ?_)
        · have q1313 : 2147483648 ≠ 2147483648 := q1313
          exfalso; omega
        have q1314 : ¬ (2147483648 ≠ 2147483648) := q1314
        refine x_aload (np := 43) (x := 0) (by decide +kernel) rfl (x_nc_le (by decide)) ?_
        have q1315 : h4 75 28 = 94 := by have z := jB (e := 28) 0 j5 rg_75_28_0_1 (by decide) (by decide); omega
        refine x_getR (np := 46) (x := 732) (f := 28) (q := 94) (by decide +kernel) (by decide) (by decide +kernel) q1315 ?_
        refine x_iload (np := 47) (x := 1) (by decide +kernel) rfl la1 ?_
        refine x_iload (np := 48) (x := 2) (by decide +kernel) rfl (by first | decide | omega) ?_
        refine x_ast (np := 49) (x := 0) (kd := 1) (n := 6) (i := u2) (by decide +kernel) (Or.inl rfl) (by decide +kernel) (by first | decide | omega) (by first | decide | omega) (by decide) (by first | decide | omega) (fun z => absurd z (by decide)) ?_
        have j1317 := jU (e := u2) (v := v1273) u2 j5 rg_94_0_1_6 (by first | decide | omega) (by first | decide | omega) (by first | decide | omega)
        have f1319 := jF (e := u2) (v := v1273) u2 f7 rg_94_0_1_6 (by first | decide | omega) (by first | decide | omega) (by decide)
        generalize e1318 : x_up h4 94 u2 v1273 = h1316 at j1317 f1319 ⊢
        refine x_const (np := 50) (x := 9223372039002259456) (a := 2147483648) (by decide +kernel) (by decide) (by decide) ?_
        refine x_retI (np := 51) (x := 0) (by decide +kernel) (by decide) (Or.inl (by decide +kernel)) ⟨_, rfl, (by decide), ?_⟩
        exact ⟨j1317, f1319, (by first | decide | omega)⟩
      have q1312 : ¬ (v1308 < 2147483648) := q1312
      refine x_aload (np := 22) (x := 0) (by decide +kernel) rfl (x_nc_le (by decide)) ?_
      refine x_iload (np := 23) (x := 1) (by decide +kernel) rfl (by first | decide | omega) ?_
      refine x_const (np := 24) (x := 9223372047592194050) (a := 2147483650) (by decide +kernel) (by decide) (by decide) ?_
      refine x_nI (t := 6) (mj := 164) (n := 3) (rc := 12) (ml := 3) (nr := 0) (np := 27) (as := [x_r 75, iv_c v1273, iv_c 2147483650]) (rest := []) (lo1 := [x_r 75, iv_c v1273, iv_c 2147483650]) (by decide +kernel) (by decide) (by decide +kernel) (x_rb_of (by decide +kernel)) rfl rfl (x_wr (by decide) (x_wi (by first | decide | omega) (x_wi (by decide) x_wn))) x_wn (by decide) rfl ?_
      refine x_aload (np := 1) (x := 0) (by decide +kernel) rfl (x_nc_le (by decide)) ?_
      have q1320 : h4 75 1 = 76 := by have z := jB (e := 1) 0 j5 rg_75_1_0_1 (by decide) (by decide); omega
      refine x_getR (np := 4) (x := 705) (f := 1) (q := 76) (by decide +kernel) (by decide) (by decide +kernel) q1320 ?_
      refine x_const (np := 7) (x := 9223373112744083706) (a := 2147483898) (by decide +kernel) (by decide) (by decide) ?_
      refine x_const (np := 8) (x := 9223372056182128644) (a := 2147483652) (by decide +kernel) (by decide) (by decide) ?_
      refine x_iload (np := 9) (x := 1) (by decide +kernel) rfl (by first | decide | omega) ?_
      refine x_imul (np := 10) (x := 0) (i := 4) (j := u1285) (v := (2147483648 + 4 * u1285)) (by decide +kernel) (by first | decide | omega) (by first | decide | omega) (by first | decide | omega) (by first | decide | omega) (by decide) (by first | decide | omega) ?_
      refine x_iadd (np := 11) (x := 0) (v := (2147483898 + 4 * u1285)) (by decide +kernel) (by decide) (by first | decide | omega) (by first | decide | omega) (by first | decide | omega) ?_
      refine x_iload (np := 12) (x := 2) (by decide +kernel) rfl (by decide) ?_
      refine x_iadd (np := 13) (x := 0) (v := (2147483900 + 4 * u1285)) (by decide +kernel) (by first | decide | omega) (by decide) (by first | decide | omega) (by first | decide | omega) ?_
      have q1322 : h4 76 (252 + 4 * u1285) = h 76 (252 + 4 * u1285) := by rw [← e6]; exact x_up_k (by decide)
      refine x_aldC (np := 14) (x := 0) (n := 1952) (i := (252 + 4 * u1285)) (q := ((h 76 (252 + 4 * u1285)))) (by decide +kernel) (by decide +kernel) (by first | decide | omega) (by first | decide | omega) (by decide) q1322 (fun l1323 => ?_)
      refine x_retI (np := 15) (x := 0) (by decide +kernel) l1323 (Or.inl (by decide +kernel)) ⟨_, rfl, l1323, ?_⟩
      refine x_iload (np := 28) (x := 2) (by decide +kernel) rfl l1309 ?_
      refine x_any (np := 29) (k9 := 4) (by decide +kernel) (by decide) l1323 l1309 (fun v1324 l1325 => ?_)
      refine x_const (np := 30) (x := 9223372043297226753) (a := 2147483649) (by decide +kernel) (by decide) (by decide) ?_
      refine x_mask (np := 31) (m := 1) (k9 := 2) (by decide +kernel) l1325 (by decide +kernel) (by decide) (by decide) (by decide) (fun u1326 l1327 => ?_)
      refine x_const (np := 32) (x := 9223372043297226753) (a := 2147483649) (by decide +kernel) (by decide) (by decide) ?_
      refine x_icmp (k := 1) (tg := 39) (np := 35) (by decide +kernel) (by decide) (by first | decide | omega) (by decide) (fun q1328 => ?_) (fun q1329 => ?_)
      · have q1328 : (2147483648 + u1326) ≠ 2147483649 := q1328
        refine x_const (np := 40) (x := 9223372039002259456) (a := 2147483648) (by decide +kernel) (by decide) (by decide) ?_
        refine x_retI (np := 41) (x := 0) (by decide +kernel) (by decide) (Or.inr ⟨by decide +kernel, by first | decide | omega, by first | decide | omega⟩) ⟨_, rfl, (by decide), ?_⟩
        refine x_ifz (k := 1) (tg := 51) (np := 42) (by decide +kernel) (by decide) (by decide) (fun q1330 => ?_) (fun q1331 => ?_)
        · have q1330 : 2147483648 ≠ 2147483648 := q1330
          exfalso; omega
        have q1331 : ¬ (2147483648 ≠ 2147483648) := q1331
        refine x_aload (np := 43) (x := 0) (by decide +kernel) rfl (x_nc_le (by decide)) ?_
        have q1332 : h4 75 28 = 94 := by have z := jB (e := 28) 0 j5 rg_75_28_0_1 (by decide) (by decide); omega
        refine x_getR (np := 46) (x := 732) (f := 28) (q := 94) (by decide +kernel) (by decide) (by decide +kernel) q1332 ?_
        refine x_iload (np := 47) (x := 1) (by decide +kernel) rfl la1 ?_
        refine x_iload (np := 48) (x := 2) (by decide +kernel) rfl (by first | decide | omega) ?_
        refine x_ast (np := 49) (x := 0) (kd := 1) (n := 6) (i := u2) (by decide +kernel) (Or.inl rfl) (by decide +kernel) (by first | decide | omega) (by first | decide | omega) (by decide) (by first | decide | omega) (fun z => absurd z (by decide)) ?_
        have j1334 := jU (e := u2) (v := v1273) u2 j5 rg_94_0_1_6 (by first | decide | omega) (by first | decide | omega) (by first | decide | omega)
        have f1336 := jF (e := u2) (v := v1273) u2 f7 rg_94_0_1_6 (by first | decide | omega) (by first | decide | omega) (by decide)
        generalize e1335 : x_up h4 94 u2 v1273 = h1333 at j1334 f1336 ⊢
        refine x_const (np := 50) (x := 9223372039002259456) (a := 2147483648) (by decide +kernel) (by decide) (by decide) ?_
        refine x_retI (np := 51) (x := 0) (by decide +kernel) (by decide) (Or.inl (by decide +kernel)) ⟨_, rfl, (by decide), ?_⟩
        exact ⟨j1334, f1336, (by first | decide | omega)⟩
      have q1329 : ¬ ((2147483648 + u1326) ≠ 2147483649) := q1329
      refine x_const (np := 36) (x := 9223372043297226753) (a := 2147483649) (by decide +kernel) (by decide) (by decide) ?_
      refine x_goto (np := 39) (x := 40) (by decide +kernel) ?_
      refine x_retI (np := 41) (x := 0) (by decide +kernel) (by decide) (Or.inr ⟨by decide +kernel, by first | decide | omega, by first | decide | omega⟩) ⟨_, rfl, (by decide), ?_⟩
      refine x_ifz (k := 1) (tg := 51) (np := 42) (by decide +kernel) (by decide) (by decide) (fun q1337 => ?_) (fun q1338 => ?_)
      · have q1337 : 2147483649 ≠ 2147483648 := q1337
        refine x_iinc (np := 54) (i := 2) (j := 2147483649) (v := (1 + v1273)) (lo' := [x_r 75, iv_c a1, iv_c (1 + v1273), 147573952589676412928]) (by decide +kernel) (by decide) (by decide) rfl (by first | decide | omega) (by first | decide | omega) (by first | decide | omega) rfl ?_
        refine x_goto (np := 57) (x := 16) (by decide +kernel) ?_
        exact i1277 (1 + v1273) (by first | decide | omega) (by first | decide | omega)
      have q1338 : ¬ (2147483649 ≠ 2147483648) := q1338
      exfalso; omega
  exact p1275 _ 2147483648 (Nat.lt_succ_self _) (by first | decide | omega)
set_option maxHeartbeats 0 in
/-- LentNamesModel.lays(IZ)V -/
theorem c248_75 {sc : Nat × Nat} {d a1 a2 : Nat} {h : xh} (hJ : J h) (ba1 : 2147483648 ≤ a1 ∧ a1 ≤ 2147488831) (ba2 : 2147483648 ≤ a2 ∧ a2 ≤ 2147483649) : X sc 248 (d + 1) (xV fun h' => J h' ∧ Fr 68719476737 h h') 0 0 0 [x_r 75, iv_c a1, iv_c a2, 147573952589676412928] [] h := by
  have la1 : a1 < 4294967296 := by first | decide | omega
  have la2 : a2 < 4294967296 := by first | decide | omega
  have hF := Fr.refl 68719476737 h
  refine x_iload (np := 1) (x := 1) (by decide +kernel) rfl la1 ?_
  refine x_nI (t := 0) (mj := 244) (n := 1) (rc := 0) (ml := 1) (nr := 0) (np := 4) (as := [iv_c a1]) (rest := []) (lo1 := [iv_c a1]) (by decide +kernel) (by decide) (by decide +kernel) (Or.inl rfl) rfl rfl (x_wi la1 x_wn) x_wn (by decide) rfl ?_
  refine x_iload (np := 1) (x := 0) (by decide +kernel) rfl la1 ?_
  refine x_const (np := 3) (x := 9223372090541867020) (a := 2147483660) (by decide +kernel) (by decide) (by decide) ?_
  obtain ⟨u1, q2⟩ : ∃ z, a1 = 2147483648 + z := ⟨a1 - 2147483648, by first | decide | omega⟩
  obtain ⟨u3, q4⟩ : ∃ z, z = u1 / 12 := ⟨_, rfl⟩
  refine x_div (np := 4) (i := u1) (j := 12) (by decide +kernel) (by first | decide | omega) (by decide) (by first | decide | omega) (by decide) ?_
  rw [← q4]
  refine x_const (np := 6) (x := 9223372090541867020) (a := 2147483660) (by decide +kernel) (by decide) (by decide) ?_
  obtain ⟨u5, q6⟩ : ∃ z, z = u3 % 12 := ⟨_, rfl⟩
  refine x_rem (np := 7) (i := u3) (j := 12) (by decide +kernel) (by first | decide | omega) (by decide) (by first | decide | omega) (by decide) ?_
  rw [← q6]
  refine x_retI (np := 8) (x := 0) (by decide +kernel) (by first | decide | omega) (Or.inl (by decide +kernel)) ⟨_, rfl, (by first | decide | omega), ?_⟩
  refine x_istore (np := 5) (x := 3) (lo' := [x_r 75, iv_c a1, iv_c a2, iv_c (2147483648 + u5)]) (by decide +kernel) (by first | decide | omega) (Nat.le_of_ble_eq_true rfl) rfl ?_
  have p75 : ∀ (n : Nat) (v70 : Nat) (h72 : xh), 4294967296 - v70 < n → (2147483648 ≤ v70 ∧ v70 ≤ 2147483660) → J h72 → Fr 68719476736 h h72 → X sc 248 (d + 1) (xV fun h' => J h' ∧ Fr 68719476737 h h') 0 0 5 [x_r 75, iv_c a1, iv_c a2, iv_c v70] [] h72 := by
    intro n
    induction n with
    | zero => intro v70 h72 q76; exact absurd q76 (Nat.not_lt_zero _)
    | succ n i77 =>
      intro v70 h72 q76 b71 j74 f73
      have f78 := Fr.trans hF f73 (by decide)
      refine x_iload (np := 6) (x := 3) (by decide +kernel) rfl (by first | decide | omega) ?_
      refine x_iload (np := 7) (x := 1) (by decide +kernel) rfl la1 ?_
      refine x_nI (t := 0) (mj := 245) (n := 1) (rc := 0) (ml := 1) (nr := 1) (np := 10) (as := [iv_c a1]) (rest := [iv_c v70]) (lo1 := [iv_c a1]) (by decide +kernel) (by decide) (by decide +kernel) (Or.inl rfl) rfl rfl (x_wi la1 x_wn) (x_wi (by first | decide | omega) x_wn) (by decide) rfl ?_
      refine x_iload (np := 1) (x := 0) (by decide +kernel) rfl la1 ?_
      refine x_const (np := 3) (x := 9223372090541867020) (a := 2147483660) (by decide +kernel) (by decide) (by decide) ?_
      obtain ⟨u79, q80⟩ : ∃ z, z = u1 % 12 := ⟨_, rfl⟩
      refine x_rem (np := 4) (i := u1) (j := 12) (by decide +kernel) (by first | decide | omega) (by decide) (by first | decide | omega) (by decide) ?_
      rw [← q80]
      refine x_retI (np := 5) (x := 0) (by decide +kernel) (by first | decide | omega) (Or.inl (by decide +kernel)) ⟨_, rfl, (by first | decide | omega), ?_⟩
      refine x_icmp (k := 4) (tg := 45) (np := 13) (by decide +kernel) (by decide) (by first | decide | omega) (by first | decide | omega) (fun q81 => ?_) (fun q82 => ?_)
      · have q81 : (2147483648 + u79) < v70 := q81
        refine x_retV (np := 46) (x := 0) (by decide +kernel) (by decide +kernel) ⟨rfl, ?_⟩
        exact ⟨j74, f78⟩
      have q82 : ¬ ((2147483648 + u79) < v70) := q82
      refine x_aload (np := 14) (x := 0) (by decide +kernel) rfl (x_nc_le (by decide)) ?_
      have q83 : h72 75 24 = 91 := by have z := jB (e := 24) 0 j74 rg_75_24_0_1 (by decide) (by decide); omega
      refine x_getR (np := 17) (x := 728) (f := 24) (q := 91) (by decide +kernel) (by decide) (by decide +kernel) q83 ?_
      refine x_const (np := 19) (x := 9223372090541867020) (a := 2147483660) (by decide +kernel) (by decide) (by decide) ?_
      refine x_iload (np := 20) (x := 1) (by decide +kernel) rfl la1 ?_
      refine x_nI (t := 0) (mj := 242) (n := 1) (rc := 0) (ml := 1) (nr := 2) (np := 23) (as := [iv_c a1]) (rest := [iv_c 2147483660, x_r 91]) (lo1 := [iv_c a1]) (by decide +kernel) (by decide) (by decide +kernel) (Or.inl rfl) rfl rfl (x_wi la1 x_wn) (x_wi (by decide) (x_wr (by decide) x_wn)) (by decide) rfl ?_
      refine x_iload (np := 1) (x := 0) (by decide +kernel) rfl la1 ?_
      refine x_const (np := 4) (x := 9223375749854004064) (a := 2147484512) (by decide +kernel) (by decide) (by decide) ?_
      obtain ⟨u84, q85⟩ : ∃ z, z = u1 / 864 := ⟨_, rfl⟩
      refine x_div (np := 5) (i := u1) (j := 864) (by decide +kernel) (by first | decide | omega) (by decide) (by first | decide | omega) (by decide) ?_
      rw [← q85]
      refine x_retI (np := 6) (x := 0) (by decide +kernel) (by first | decide | omega) (Or.inl (by decide +kernel)) ⟨_, rfl, (by first | decide | omega), ?_⟩
      refine x_imul (np := 24) (x := 0) (i := 12) (j := u84) (v := (2147483648 + 12 * u84)) (by decide +kernel) (by first | decide | omega) (by first | decide | omega) (by first | decide | omega) (by first | decide | omega) (by decide) (by first | decide | omega) ?_
      refine x_iload (np := 25) (x := 3) (by decide +kernel) rfl (by first | decide | omega) ?_
      refine x_iadd (np := 26) (x := 0) (v := (12 * u84 + v70)) (by decide +kernel) (by first | decide | omega) (by first | decide | omega) (by first | decide | omega) (by first | decide | omega) ?_
      refine x_iload (np := 27) (x := 2) (by decide +kernel) rfl la2 ?_
      refine x_ifz (k := 0) (tg := 37) (np := 30) (by decide +kernel) (by decide) la2 (fun q87 => ?_) (fun q88 => ?_)
      · have q87 : a2 = 2147483648 := q87
        refine x_const (np := 38) (x := 9223372034707292159) (a := 2147483647) (by decide +kernel) (by decide) (by decide) ?_
        obtain ⟨u89, q90⟩ : ∃ z, v70 = 2147483648 + z := ⟨v70 - 2147483648, by first | decide | omega⟩
        refine x_ast (np := 39) (x := 0) (kd := 1) (n := 72) (i := (12 * u84 + u89)) (by decide +kernel) (Or.inl rfl) (by decide +kernel) (by first | decide | omega) (by first | decide | omega) (by decide) (by decide) (fun z => absurd z (by decide)) ?_
        have j92 := jU (e := (12 * u84 + u89)) (v := 2147483647) (12 * u84 + u89) j74 rg_91_0_1_72 (by first | decide | omega) (by first | decide | omega) (by first | decide | omega)
        have f94 := jF (e := (12 * u84 + u89)) (v := 2147483647) (12 * u84 + u89) f78 rg_91_0_1_72 (by first | decide | omega) (by first | decide | omega) (by decide)
        have f95 := jF (e := (12 * u84 + u89)) (v := 2147483647) (12 * u84 + u89) f73 rg_91_0_1_72 (by first | decide | omega) (by first | decide | omega) (by decide)
        generalize e93 : x_up h72 91 (12 * u84 + u89) 2147483647 = h91 at j92 f94 f95 ⊢
        refine x_iinc (np := 42) (i := 3) (j := 2147483649) (v := (1 + v70)) (lo' := [x_r 75, iv_c a1, iv_c a2, iv_c (1 + v70)]) (by decide +kernel) (by decide) (by decide) rfl (by first | decide | omega) (by first | decide | omega) (by first | decide | omega) rfl ?_
        refine x_goto (np := 45) (x := 5) (by decide +kernel) ?_
        exact i77 (1 + v70) h91 (by first | decide | omega) (by first | decide | omega) j92 f95
      have q88 : ¬ (a2 = 2147483648) := q88
      refine x_iload (np := 31) (x := 1) (by decide +kernel) rfl la1 ?_
      refine x_nI (t := 0) (mj := 243) (n := 1) (rc := 0) (ml := 1) (nr := 2) (np := 34) (as := [iv_c a1]) (rest := [iv_c (12 * u84 + v70), x_r 91]) (lo1 := [iv_c a1]) (by decide +kernel) (by decide) (by decide +kernel) (Or.inl rfl) rfl rfl (x_wi la1 x_wn) (x_wi (by first | decide | omega) (x_wr (by decide) x_wn)) (by decide) rfl ?_
      refine x_iload (np := 1) (x := 0) (by decide +kernel) rfl la1 ?_
      refine x_const (np := 4) (x := 9223372657477550224) (a := 2147483792) (by decide +kernel) (by decide) (by decide) ?_
      obtain ⟨u96, q97⟩ : ∃ z, z = u1 / 144 := ⟨_, rfl⟩
      refine x_div (np := 5) (i := u1) (j := 144) (by decide +kernel) (by first | decide | omega) (by decide) (by first | decide | omega) (by decide) ?_
      rw [← q97]
      refine x_const (np := 7) (x := 9223372064772063238) (a := 2147483654) (by decide +kernel) (by decide) (by decide) ?_
      obtain ⟨u98, q99⟩ : ∃ z, z = u96 % 6 := ⟨_, rfl⟩
      refine x_rem (np := 8) (i := u96) (j := 6) (by decide +kernel) (by first | decide | omega) (by decide) (by first | decide | omega) (by decide) ?_
      rw [← q99]
      refine x_retI (np := 9) (x := 0) (by decide +kernel) (by first | decide | omega) (Or.inl (by decide +kernel)) ⟨_, rfl, (by first | decide | omega), ?_⟩
      refine x_goto (np := 37) (x := 38) (by decide +kernel) ?_
      obtain ⟨u100, q101⟩ : ∃ z, v70 = 2147483648 + z := ⟨v70 - 2147483648, by first | decide | omega⟩
      refine x_ast (np := 39) (x := 0) (kd := 1) (n := 72) (i := (12 * u84 + u100)) (by decide +kernel) (Or.inl rfl) (by decide +kernel) (by first | decide | omega) (by first | decide | omega) (by decide) (by first | decide | omega) (fun z => absurd z (by decide)) ?_
      have j103 := jU (e := (12 * u84 + u100)) (v := (2147483648 + u98)) (12 * u84 + u100) j74 rg_91_0_1_72 (by first | decide | omega) (by first | decide | omega) (by first | decide | omega)
      have f105 := jF (e := (12 * u84 + u100)) (v := (2147483648 + u98)) (12 * u84 + u100) f78 rg_91_0_1_72 (by first | decide | omega) (by first | decide | omega) (by decide)
      have f106 := jF (e := (12 * u84 + u100)) (v := (2147483648 + u98)) (12 * u84 + u100) f73 rg_91_0_1_72 (by first | decide | omega) (by first | decide | omega) (by decide)
      generalize e104 : x_up h72 91 (12 * u84 + u100) (2147483648 + u98) = h102 at j103 f105 f106 ⊢
      refine x_iinc (np := 42) (i := 3) (j := 2147483649) (v := (1 + v70)) (lo' := [x_r 75, iv_c a1, iv_c a2, iv_c (1 + v70)]) (by decide +kernel) (by decide) (by decide) rfl (by first | decide | omega) (by first | decide | omega) (by first | decide | omega) rfl ?_
      refine x_goto (np := 45) (x := 5) (by decide +kernel) ?_
      exact i77 (1 + v70) h102 (by first | decide | omega) (by first | decide | omega) j103 f106
  exact p75 _ (2147483648 + u5) h (Nat.lt_succ_self _) (by first | decide | omega) hJ (Fr.refl _ _)
set_option maxHeartbeats 0 in
/-- LentNamesModel.keepsFirst(I)V -/
theorem c258_75 {sc : Nat × Nat} {d a1 : Nat} {h : xh} (hJ : J h) (ba1 : 2147483648 ≤ a1 ∧ a1 ≤ 2147483653) : X sc 258 d (xV fun h' => J h' ∧ Fr 35184372088833 h h') 0 0 0 [x_r 75, iv_c a1, 147573952589676412928, 147573952589676412928] [] h := by
  have la1 : a1 < 4294967296 := by first | decide | omega
  have hF := Fr.refl 35184372088833 h
  refine x_const (np := 1) (x := 9223372039002259456) (a := 2147483648) (by decide +kernel) (by decide) (by decide) ?_
  refine x_istore (np := 2) (x := 2) (lo' := [x_r 75, iv_c a1, iv_c 2147483648, 147573952589676412928]) (by decide +kernel) (by decide) (Nat.le_of_ble_eq_true rfl) rfl ?_
  have p672 : ∀ (n : Nat) (v666 : Nat) (w668 : Nat) (h669 : xh), 4294967296 - v666 < n → (2147483648 ≤ v666 ∧ v666 ≤ 2147483653) → J h669 → Fr 35184372088832 h h669 → X sc 258 d (xV fun h' => J h' ∧ Fr 35184372088833 h h') 0 0 2 [x_r 75, iv_c a1, iv_c v666, w668] [] h669 := by
    intro n
    induction n with
    | zero => intro v666 w668 h669 q673; exact absurd q673 (Nat.not_lt_zero _)
    | succ n i674 =>
      intro v666 w668 h669 q673 b667 j671 f670
      have f675 := Fr.trans hF f670 (by decide)
      refine x_iload (np := 3) (x := 2) (by decide +kernel) rfl (by first | decide | omega) ?_
      refine x_iload (np := 4) (x := 1) (by decide +kernel) rfl la1 ?_
      refine x_icmp (k := 3) (tg := 68) (np := 7) (by decide +kernel) (by decide) (by first | decide | omega) la1 (fun q676 => ?_) (fun q677 => ?_)
      · have q676 : a1 ≤ v666 := q676
        refine x_retV (np := 69) (x := 0) (by decide +kernel) (by decide +kernel) ⟨rfl, ?_⟩
        exact ⟨j671, f675⟩
      have q677 : ¬ (a1 ≤ v666) := q677
      refine x_iload (np := 8) (x := 2) (by decide +kernel) rfl (by first | decide | omega) ?_
      refine x_istore (np := 9) (x := 3) (lo' := [x_r 75, iv_c a1, iv_c v666, iv_c v666]) (by decide +kernel) (by first | decide | omega) (Nat.le_of_ble_eq_true rfl) rfl ?_
      have p761 : ∀ (n : Nat) (v756 : Nat) (h758 : xh), v756 < n → (2147483648 ≤ v756 ∧ v756 ≤ 2147483652) → J h758 → Fr 35184372088832 h669 h758 → X sc 258 d (xV fun h' => J h' ∧ Fr 35184372088833 h h') 0 0 9 [x_r 75, iv_c a1, iv_c v666, iv_c v756] [] h758 := by
        intro n
        induction n with
        | zero => intro v756 h758 q762; exact absurd q762 (Nat.not_lt_zero _)
        | succ n i763 =>
          intro v756 h758 q762 b757 j760 f759
          have f764 := Fr.trans f675 f759 (by decide)
          have f765 := Fr.trans f670 f759 (by decide)
          refine x_iload (np := 10) (x := 3) (by decide +kernel) rfl (by first | decide | omega) ?_
          refine x_ifz (k := 5) (tg := 50) (np := 13) (by decide +kernel) (by decide) (by first | decide | omega) (fun q766 => ?_) (fun q767 => ?_)
          · have q766 : v756 ≤ 2147483648 := q766
            refine x_aload (np := 51) (x := 0) (by decide +kernel) rfl (x_nc_le (by decide)) ?_
            have q768 : h758 75 35 = 96 := by have z := jB (e := 35) 0 j760 rg_75_35_0_1 (by decide) (by decide); omega
            refine x_getR (np := 54) (x := 739) (f := 35) (q := 96) (by decide +kernel) (by decide) (by decide +kernel) q768 ?_
            refine x_iload (np := 55) (x := 3) (by decide +kernel) rfl (by first | decide | omega) ?_
            refine x_aload (np := 56) (x := 0) (by decide +kernel) rfl (x_nc_le (by decide)) ?_
            have q769 : h758 75 27 = 93 := by have z := jB (e := 27) 0 j760 rg_75_27_0_1 (by decide) (by decide); omega
            refine x_getR (np := 59) (x := 731) (f := 27) (q := 93) (by decide +kernel) (by decide) (by decide +kernel) q769 ?_
            refine x_iload (np := 60) (x := 2) (by decide +kernel) rfl (by first | decide | omega) ?_
            obtain ⟨u770, q771⟩ : ∃ z, v666 = 2147483648 + z := ⟨v666 - 2147483648, by first | decide | omega⟩
            have q772 : h758 93 u770 = h669 93 u770 := jK u770 f759 rg_93_0_1_6 (by first | decide | omega) (by first | decide | omega) (by decide)
            have q773 : h669 93 u770 = h 93 u770 := jK u770 f670 rg_93_0_1_6 (by first | decide | omega) (by first | decide | omega) (by decide)
            have b774 := jB (e := u770) u770 hJ rg_93_0_1_6 (by first | decide | omega) (by first | decide | omega)
            refine x_aldC (np := 61) (x := 0) (n := 6) (i := u770) (q := (h 93 u770)) (by decide +kernel) (by decide +kernel) (by first | decide | omega) (by first | decide | omega) (by decide) (q772.trans q773) (fun l775 => ?_)
            obtain ⟨u776, q777⟩ : ∃ z, v756 = 2147483648 + z := ⟨v756 - 2147483648, by first | decide | omega⟩
            refine x_ast (np := 62) (x := 0) (kd := 1) (n := 5) (i := u776) (by decide +kernel) (Or.inl rfl) (by decide +kernel) (by first | decide | omega) (by first | decide | omega) (by decide) l775 (fun z => absurd z (by decide)) ?_
            have j779 := jU (e := u776) (v := (h 93 u770)) u776 j760 rg_96_0_1_5 (by first | decide | omega) (by first | decide | omega) (by first | decide | omega)
            have f781 := jF (e := u776) (v := (h 93 u770)) u776 f764 rg_96_0_1_5 (by first | decide | omega) (by first | decide | omega) (by decide)
            have f782 := jF (e := u776) (v := (h 93 u770)) u776 f765 rg_96_0_1_5 (by first | decide | omega) (by first | decide | omega) (by decide)
            generalize e780 : x_up h758 96 u776 (h 93 u770) = h778 at j779 f781 f782 ⊢
            refine x_iinc (np := 65) (i := 2) (j := 2147483649) (v := (1 + v666)) (lo' := [x_r 75, iv_c a1, iv_c (1 + v666), iv_c v756]) (by decide +kernel) (by decide) (by decide) rfl (by first | decide | omega) (by first | decide | omega) (by first | decide | omega) rfl ?_
            refine x_goto (np := 68) (x := 2) (by decide +kernel) ?_
            exact i674 (1 + v666) (iv_c v756) h778 (by first | decide | omega) (by first | decide | omega) j779 f782
          have q767 : ¬ (v756 ≤ 2147483648) := q767
          refine x_aload (np := 14) (x := 0) (by decide +kernel) rfl (x_nc_le (by decide)) ?_
          have q783 : h758 75 35 = 96 := by have z := jB (e := 35) 0 j760 rg_75_35_0_1 (by decide) (by decide); omega
          refine x_getR (np := 17) (x := 739) (f := 35) (q := 96) (by decide +kernel) (by decide) (by decide +kernel) q783 ?_
          refine x_iload (np := 18) (x := 3) (by decide +kernel) rfl (by first | decide | omega) ?_
          refine x_const (np := 19) (x := 9223372043297226753) (a := 2147483649) (by decide +kernel) (by decide) (by decide) ?_
          obtain ⟨v784, q785⟩ : ∃ z, z + 2147483649 = v756 + 2147483648 := ⟨v756 + 2147483648 - 2147483649, by first | decide | omega⟩
          refine x_isub (np := 20) (x := 0) (v := v784) (by decide +kernel) (by first | decide | omega) (by decide) (by first | decide | omega) (by first | decide | omega) ?_
          obtain ⟨u786, q787⟩ : ∃ z, v784 = 2147483648 + z := ⟨v784 - 2147483648, by first | decide | omega⟩
          have b788 := jB (e := u786) u786 j760 rg_96_0_1_5 (by first | decide | omega) (by first | decide | omega)
          refine x_aldC (np := 21) (x := 0) (n := 5) (i := u786) (q := (h758 96 u786)) (by decide +kernel) (by decide +kernel) (by first | decide | omega) (by first | decide | omega) (by decide) rfl (fun l789 => ?_)
          refine x_aload (np := 22) (x := 0) (by decide +kernel) rfl (x_nc_le (by decide)) ?_
          have q790 : h758 75 27 = 93 := by have z := jB (e := 27) 0 j760 rg_75_27_0_1 (by decide) (by decide); omega
          refine x_getR (np := 25) (x := 731) (f := 27) (q := 93) (by decide +kernel) (by decide) (by decide +kernel) q790 ?_
          refine x_iload (np := 26) (x := 2) (by decide +kernel) rfl (by first | decide | omega) ?_
          obtain ⟨u791, q792⟩ : ∃ z, v666 = 2147483648 + z := ⟨v666 - 2147483648, by first | decide | omega⟩
          have q793 : h758 93 u791 = h669 93 u791 := jK u791 f759 rg_93_0_1_6 (by first | decide | omega) (by first | decide | omega) (by decide)
          have q794 : h669 93 u791 = h 93 u791 := jK u791 f670 rg_93_0_1_6 (by first | decide | omega) (by first | decide | omega) (by decide)
          have b795 := jB (e := u791) u791 hJ rg_93_0_1_6 (by first | decide | omega) (by first | decide | omega)
          refine x_aldC (np := 27) (x := 0) (n := 6) (i := u791) (q := (h 93 u791)) (by decide +kernel) (by decide +kernel) (by first | decide | omega) (by first | decide | omega) (by decide) (q793.trans q794) (fun l796 => ?_)
          refine x_icmp (k := 5) (tg := 50) (np := 30) (by decide +kernel) (by decide) l789 l796 (fun q797 => ?_) (fun q798 => ?_)
          · have q797 : (h758 96 u786) ≤ (h 93 u791) := q797
            refine x_aload (np := 51) (x := 0) (by decide +kernel) rfl (x_nc_le (by decide)) ?_
            have q799 : h758 75 35 = 96 := by have z := jB (e := 35) 0 j760 rg_75_35_0_1 (by decide) (by decide); omega
            refine x_getR (np := 54) (x := 739) (f := 35) (q := 96) (by decide +kernel) (by decide) (by decide +kernel) q799 ?_
            refine x_iload (np := 55) (x := 3) (by decide +kernel) rfl (by first | decide | omega) ?_
            refine x_aload (np := 56) (x := 0) (by decide +kernel) rfl (x_nc_le (by decide)) ?_
            have q800 : h758 75 27 = 93 := by have z := jB (e := 27) 0 j760 rg_75_27_0_1 (by decide) (by decide); omega
            refine x_getR (np := 59) (x := 731) (f := 27) (q := 93) (by decide +kernel) (by decide) (by decide +kernel) q800 ?_
            refine x_iload (np := 60) (x := 2) (by decide +kernel) rfl (by first | decide | omega) ?_
            have q801 : h758 93 u791 = h669 93 u791 := jK u791 f759 rg_93_0_1_6 (by first | decide | omega) (by first | decide | omega) (by decide)
            have q802 : h669 93 u791 = h 93 u791 := jK u791 f670 rg_93_0_1_6 (by first | decide | omega) (by first | decide | omega) (by decide)
            refine x_aldC (np := 61) (x := 0) (n := 6) (i := u791) (q := (h 93 u791)) (by decide +kernel) (by decide +kernel) (by first | decide | omega) (by first | decide | omega) (by decide) (q801.trans q802) (fun l803 => ?_)
            obtain ⟨u804, q805⟩ : ∃ z, v756 = 2147483648 + z := ⟨v756 - 2147483648, by first | decide | omega⟩
            refine x_ast (np := 62) (x := 0) (kd := 1) (n := 5) (i := u804) (by decide +kernel) (Or.inl rfl) (by decide +kernel) (by first | decide | omega) (by first | decide | omega) (by decide) l796 (fun z => absurd z (by decide)) ?_
            have j807 := jU (e := u804) (v := (h 93 u791)) u804 j760 rg_96_0_1_5 (by first | decide | omega) (by first | decide | omega) (by first | decide | omega)
            have f809 := jF (e := u804) (v := (h 93 u791)) u804 f764 rg_96_0_1_5 (by first | decide | omega) (by first | decide | omega) (by decide)
            have f810 := jF (e := u804) (v := (h 93 u791)) u804 f765 rg_96_0_1_5 (by first | decide | omega) (by first | decide | omega) (by decide)
            generalize e808 : x_up h758 96 u804 (h 93 u791) = h806 at j807 f809 f810 ⊢
            refine x_iinc (np := 65) (i := 2) (j := 2147483649) (v := (1 + v666)) (lo' := [x_r 75, iv_c a1, iv_c (1 + v666), iv_c v756]) (by decide +kernel) (by decide) (by decide) rfl (by first | decide | omega) (by first | decide | omega) (by first | decide | omega) rfl ?_
            refine x_goto (np := 68) (x := 2) (by decide +kernel) ?_
            exact i674 (1 + v666) (iv_c v756) h806 (by first | decide | omega) (by first | decide | omega) j807 f810
          have q798 : ¬ ((h758 96 u786) ≤ (h 93 u791)) := q798
          refine x_aload (np := 31) (x := 0) (by decide +kernel) rfl (x_nc_le (by decide)) ?_
          have q811 : h758 75 35 = 96 := by have z := jB (e := 35) 0 j760 rg_75_35_0_1 (by decide) (by decide); omega
          refine x_getR (np := 34) (x := 739) (f := 35) (q := 96) (by decide +kernel) (by decide) (by decide +kernel) q811 ?_
          refine x_iload (np := 35) (x := 3) (by decide +kernel) rfl (by first | decide | omega) ?_
          refine x_aload (np := 36) (x := 0) (by decide +kernel) rfl (x_nc_le (by decide)) ?_
          have q812 : h758 75 35 = 96 := by have z := jB (e := 35) 0 j760 rg_75_35_0_1 (by decide) (by decide); omega
          refine x_getR (np := 39) (x := 739) (f := 35) (q := 96) (by decide +kernel) (by decide) (by decide +kernel) q812 ?_
          refine x_iload (np := 40) (x := 3) (by decide +kernel) rfl (by first | decide | omega) ?_
          refine x_const (np := 41) (x := 9223372043297226753) (a := 2147483649) (by decide +kernel) (by decide) (by decide) ?_
          obtain ⟨v813, q814⟩ : ∃ z, z + 2147483649 = v756 + 2147483648 := ⟨v756 + 2147483648 - 2147483649, by first | decide | omega⟩
          refine x_isub (np := 42) (x := 0) (v := v813) (by decide +kernel) (by first | decide | omega) (by decide) (by first | decide | omega) (by first | decide | omega) ?_
          obtain ⟨u815, q816⟩ : ∃ z, v813 = 2147483648 + z := ⟨v813 - 2147483648, by first | decide | omega⟩
          have b817 := jB (e := u815) u815 j760 rg_96_0_1_5 (by first | decide | omega) (by first | decide | omega)
          refine x_aldC (np := 43) (x := 0) (n := 5) (i := u815) (q := (h758 96 u815)) (by decide +kernel) (by decide +kernel) (by first | decide | omega) (by first | decide | omega) (by decide) rfl (fun l818 => ?_)
          obtain ⟨u819, q820⟩ : ∃ z, v756 = 2147483648 + z := ⟨v756 - 2147483648, by first | decide | omega⟩
          refine x_ast (np := 44) (x := 0) (kd := 1) (n := 5) (i := u819) (by decide +kernel) (Or.inl rfl) (by decide +kernel) (by first | decide | omega) (by first | decide | omega) (by decide) l818 (fun z => absurd z (by decide)) ?_
          have j822 := jU (e := u819) (v := (h758 96 u815)) u819 j760 rg_96_0_1_5 (by first | decide | omega) (by first | decide | omega) (by first | decide | omega)
          have f824 := jF (e := u819) (v := (h758 96 u815)) u819 f764 rg_96_0_1_5 (by first | decide | omega) (by first | decide | omega) (by decide)
          have f825 := jF (e := u819) (v := (h758 96 u815)) u819 f765 rg_96_0_1_5 (by first | decide | omega) (by first | decide | omega) (by decide)
          have f826 := jF (e := u819) (v := (h758 96 u815)) u819 f759 rg_96_0_1_5 (by first | decide | omega) (by first | decide | omega) (by decide)
          generalize e823 : x_up h758 96 u819 (h758 96 u815) = h821 at j822 f824 f825 f826 ⊢
          obtain ⟨v827, q828⟩ : ∃ z, z + 1 = v756 := ⟨v756 - 1, by first | decide | omega⟩
          refine x_iinc (np := 47) (i := 3) (j := 2147483647) (v := v827) (lo' := [x_r 75, iv_c a1, iv_c v666, iv_c v827]) (by decide +kernel) (by decide) (by decide) rfl (by first | decide | omega) (by first | decide | omega) (by first | decide | omega) rfl ?_
          refine x_goto (np := 50) (x := 9) (by decide +kernel) ?_
          exact i763 v827 h821 (by first | decide | omega) (by first | decide | omega) j822 f826
      exact p761 _ v666 h669 (Nat.lt_succ_self _) (by first | decide | omega) j671 (Fr.refl _ _)
  exact p672 _ 2147483648 147573952589676412928 h (Nat.lt_succ_self _) (by first | decide | omega) hJ (Fr.refl _ _)
set_option maxHeartbeats 0 in
/-- LentNamesModel.goes(I)Z -/
theorem c259_75_c0 {sc : Nat × Nat} {d  : Nat} {h : xh} (hJ : J h) (hr0 : (h 75 30) ≤ 2147503648) : X sc 259 (d + 5) (xI fun r h' => J h' ∧ Fr 39376260300801 h h' ∧ (2147483648 ≤ r ∧ r ≤ 2147483649) ∧ (r = 2147483649 → h' 75 30 ≤ 2147503648)) 0 0 0 [x_r 75, iv_c 2147483648, 147573952589676412928, 147573952589676412928, 147573952589676412928, 147573952589676412928] [] h := by
  have hF := Fr.refl 39376260300801 h
  have b1 := jB (e := 30) 0 hJ rg_75_30_0_1 (by first | decide | omega) (by first | decide | omega)
  refine x_aload (np := 1) (x := 0) (by decide +kernel) rfl (x_nc_le (by decide)) ?_
  refine x_const (np := 2) (x := 9223372039002259456) (a := 2147483648) (by decide +kernel) (by decide) (by decide) ?_
  refine x_putI (np := 5) (x := 738) (f := 34) (by decide +kernel) (by decide +kernel) (by decide) (Or.inl (by decide)) ?_
  have j3 := jU (e := 34) (v := 2147483648) 0 hJ rg_75_34_0_1 (by first | decide | omega) (by first | decide | omega) (by first | decide | omega)
  have f5 := jF (e := 34) (v := 2147483648) 0 hF rg_75_34_0_1 (by first | decide | omega) (by first | decide | omega) (by decide)
  generalize e4 : x_up h 75 34 2147483648 = h2 at j3 f5 ⊢
  refine x_const (np := 6) (x := 9223372039002259456) (a := 2147483648) (by decide +kernel) (by decide) (by decide) ?_
  refine x_istore (np := 7) (x := 2) (lo' := [x_r 75, iv_c 2147483648, iv_c 2147483648, 147573952589676412928, 147573952589676412928, 147573952589676412928]) (by decide +kernel) (by decide) (Nat.le_of_ble_eq_true rfl) rfl ?_
  refine x_const (np := 8) (x := 9223372039002259456) (a := 2147483648) (by decide +kernel) (by decide) (by decide) ?_
  refine x_istore (np := 9) (x := 3) (lo' := [x_r 75, iv_c 2147483648, iv_c 2147483648, iv_c 2147483648, 147573952589676412928, 147573952589676412928]) (by decide +kernel) (by decide) (Nat.le_of_ble_eq_true rfl) rfl ?_
  refine x_const (np := 10) (x := 9223372043297226753) (a := 2147483649) (by decide +kernel) (by decide) (by decide) ?_
  refine x_istore (np := 12) (x := 4) (lo' := [x_r 75, iv_c 2147483648, iv_c 2147483648, iv_c 2147483648, iv_c 2147483649, 147573952589676412928]) (by decide +kernel) (by decide) (Nat.le_of_ble_eq_true rfl) rfl ?_
  have p421 : ∀ (n : Nat), (∀ (w423 : Nat) (w424 : Nat) (h425 : xh), 16 * (4294967296 - h425 75 30) + 1 < n → J h425 → Fr 39376260300801 h2 h425 → (2147483648 ≤ h425 75 30 ∧ h425 75 30 ≤ 2147503648) → X sc 259 (d + 5) (xI fun r h' => J h' ∧ Fr 39376260300801 h h' ∧ (2147483648 ≤ r ∧ r ≤ 2147483649) ∧ (r = 2147483649 → h' 75 30 ≤ 2147503648)) 0 0 12 [x_r 75, iv_c 2147483648, iv_c 2147483648, w423, iv_c 2147483649, w424] [] h425) ∧ (∀ (w429 : Nat) (w430 : Nat) (h431 : xh), 16 * (4294967296 - h431 75 30) + 4 < n → J h431 → Fr 39376260300801 h2 h431 → (2147483648 ≤ h431 75 30 ∧ h431 75 30 ≤ 2147503648) → X sc 259 (d + 5) (xI fun r h' => J h' ∧ Fr 39376260300801 h h' ∧ (2147483648 ≤ r ∧ r ≤ 2147483649) ∧ (r = 2147483649 → h' 75 30 ≤ 2147503648)) 0 0 12 [x_r 75, iv_c 2147483648, iv_c 2147483647, w429, iv_c 2147483648, w430] [] h431) := by
    intro n
    induction n with
    | zero => exact ⟨fun _ _ _ z => absurd z (Nat.not_lt_zero _), fun _ _ _ z => absurd z (Nat.not_lt_zero _)⟩
    | succ n i422 =>
      obtain ⟨i435, i436⟩ := i422
      refine ⟨?_, ?_⟩
      · intro w423 w424 h425 q437 j428 f427 b426
        have f438 := Fr.trans f5 f427 (by decide)
        refine x_iload (np := 13) (x := 2) (by decide +kernel) rfl (by decide) ?_
        refine x_ifz (k := 2) (tg := 186) (np := 16) (by decide +kernel) (by decide) (by decide) (fun q439 => ?_) (fun q440 => ?_)
        · have q439 : 2147483648 < 2147483648 := q439
          exfalso; omega
        have q440 : ¬ (2147483648 < 2147483648) := q440
        refine x_iload (np := 18) (x := 4) (by decide +kernel) rfl (by decide) ?_
        refine x_ifz (k := 0) (tg := 102) (np := 21) (by decide +kernel) (by decide) (by decide) (fun q441 => ?_) (fun q442 => ?_)
        · have q441 : 2147483649 = 2147483648 := q441
          exfalso; omega
        have q442 : ¬ (2147483649 = 2147483648) := q442
        refine x_aload (np := 22) (x := 0) (by decide +kernel) rfl (x_nc_le (by decide)) ?_
        refine x_dup (np := 23) (x := 0) (by decide +kernel) (by have z := x_nc_le (k := 75) (by decide); unfold x_r; omega) ?_
        refine x_getC (np := 26) (x := 734) (f := 30) (q := (h425 75 30)) (by decide +kernel) (by decide) (by decide +kernel) rfl (fun l443 => ?_)
        refine x_const (np := 27) (x := 9223372043297226753) (a := 2147483649) (by decide +kernel) (by decide) (by decide) ?_
        refine x_iadd (np := 28) (x := 0) (v := (1 + (h425 75 30))) (by decide +kernel) l443 (by decide) (by first | decide | omega) (by first | decide | omega) ?_
        refine x_putI (np := 31) (x := 734) (f := 30) (by decide +kernel) (by decide +kernel) (by first | decide | omega) (Or.inl (by decide)) ?_
        have j445 := jU (e := 30) (v := (1 + (h425 75 30))) 0 j428 rg_75_30_0_1 (by first | decide | omega) (by first | decide | omega) (by first | decide | omega)
        have f447 := jF (e := 30) (v := (1 + (h425 75 30))) 0 f438 rg_75_30_0_1 (by first | decide | omega) (by first | decide | omega) (by decide)
        have f448 := jF (e := 30) (v := (1 + (h425 75 30))) 0 f427 rg_75_30_0_1 (by first | decide | omega) (by first | decide | omega) (by decide)
        generalize e446 : x_up h425 75 30 (1 + (h425 75 30)) = h444 at j445 f447 f448 ⊢
        refine x_aload (np := 32) (x := 0) (by decide +kernel) rfl (x_nc_le (by decide)) ?_
        have q449 : h444 75 30 = (1 + (h425 75 30)) := by rw [← e446]; exact x_up_at
        refine x_getC (np := 35) (x := 734) (f := 30) (q := (1 + (h425 75 30))) (by decide +kernel) (by decide) (by decide +kernel) q449 (fun l450 => ?_)
        refine x_const (np := 38) (x := 9223457938348199456) (a := 2147503648) (by decide +kernel) (by decide) (by decide) ?_
        refine x_icmp (k := 5) (tg := 43) (np := 41) (by decide +kernel) (by decide) (by first | decide | omega) (by decide) (fun q451 => ?_) (fun q452 => ?_)
        · have q451 : (1 + (h425 75 30)) ≤ 2147503648 := q451
          refine x_aload (np := 44) (x := 0) (by decide +kernel) rfl (x_nc_le (by decide)) ?_
          refine x_iload (np := 45) (x := 2) (by decide +kernel) rfl (by decide) ?_
          refine x_cI (t := 6) (mj := 254) (n := 2) (rc := 12) (ml := 4) (nr := 0) (np := 48) (as := [x_r 75, iv_c 2147483648]) (rest := []) (lo1 := [x_r 75, iv_c 2147483648, 147573952589676412928, 147573952589676412928]) (by decide +kernel) (by decide) (by decide +kernel) (x_rb_of (by decide +kernel)) rfl rfl (x_wr (by decide) (x_wi (by decide) x_wn)) x_wn (by decide) rfl (c254_75 j445  (by first | decide | omega)) (fun v453 h456 l454 q455 => ?_)
          obtain ⟨j457, f458, b459⟩ := q455
          have f460 := Fr.trans f447 f458 (by decide)
          have f461 := Fr.trans f448 f458 (by decide)
          refine x_istore (np := 49) (x := 3) (lo' := [x_r 75, iv_c 2147483648, iv_c 2147483648, iv_c v453, iv_c 2147483649, w424]) (by decide +kernel) l454 (Nat.le_of_ble_eq_true rfl) rfl ?_
          refine x_iload (np := 50) (x := 3) (by decide +kernel) rfl l454 ?_
          refine x_const (np := 51) (x := 9223372043297226753) (a := 2147483649) (by decide +kernel) (by decide) (by decide) ?_
          refine x_icmp (k := 1) (tg := 85) (np := 54) (by decide +kernel) (by decide) l454 (by decide) (fun q462 => ?_) (fun q463 => ?_)
          · have q462 : v453 ≠ 2147483649 := q462
            refine x_iload (np := 86) (x := 3) (by decide +kernel) rfl l454 ?_
            refine x_const (np := 87) (x := 9223372043297226753) (a := 2147483649) (by decide +kernel) (by decide) (by decide) ?_
            refine x_icmp (k := 0) (tg := 95) (np := 90) (by decide +kernel) (by decide) l454 (by decide) (fun q464 => ?_) (fun q465 => ?_)
            · have q464 : v453 = 2147483649 := q464
              exfalso; omega
            have q465 : ¬ (v453 = 2147483649) := q465
            refine x_iload (np := 91) (x := 2) (by decide +kernel) rfl (by decide) ?_
            refine x_iload (np := 92) (x := 1) (by decide +kernel) rfl (by decide) ?_
            refine x_icmp (k := 1) (tg := 102) (np := 95) (by decide +kernel) (by decide) (by decide) (by decide) (fun q466 => ?_) (fun q467 => ?_)
            · have q466 : 2147483648 ≠ 2147483648 := q466
              exfalso; omega
            have q467 : ¬ (2147483648 ≠ 2147483648) := q467
            refine x_aload (np := 96) (x := 0) (by decide +kernel) rfl (x_nc_le (by decide)) ?_
            have q468 : h456 75 28 = 94 := by have z := jB (e := 28) 0 j457 rg_75_28_0_1 (by decide) (by decide); omega
            refine x_getR (np := 99) (x := 732) (f := 28) (q := 94) (by decide +kernel) (by decide) (by decide +kernel) q468 ?_
            refine x_iload (np := 100) (x := 2) (by decide +kernel) rfl (by decide) ?_
            refine x_const (np := 101) (x := 9223372034707292159) (a := 2147483647) (by decide +kernel) (by decide) (by decide) ?_
            refine x_ast (np := 102) (x := 0) (kd := 1) (n := 6) (i := 0) (by decide +kernel) (Or.inl rfl) (by decide +kernel) (by first | decide | omega) (by first | decide | omega) (by decide) (by decide) (fun z => absurd z (by decide)) ?_
            have j470 := jU (e := 0) (v := 2147483647) 0 j457 rg_94_0_1_6 (by first | decide | omega) (by first | decide | omega) (by first | decide | omega)
            have f472 := jF (e := 0) (v := 2147483647) 0 f460 rg_94_0_1_6 (by first | decide | omega) (by first | decide | omega) (by decide)
            have f473 := jF (e := 0) (v := 2147483647) 0 f461 rg_94_0_1_6 (by first | decide | omega) (by first | decide | omega) (by decide)
            generalize e471 : x_up h456 94 0 2147483647 = h469 at j470 f472 f473 ⊢
            refine x_aload (np := 103) (x := 0) (by decide +kernel) rfl (x_nc_le (by decide)) ?_
            have q474 : h469 75 27 = 93 := by have z := jB (e := 27) 0 j470 rg_75_27_0_1 (by decide) (by decide); omega
            refine x_getR (np := 106) (x := 731) (f := 27) (q := 93) (by decide +kernel) (by decide) (by decide +kernel) q474 ?_
            refine x_iload (np := 107) (x := 2) (by decide +kernel) rfl (by decide) ?_
            have q475 : h469 93 0 = h456 93 0 := by rw [← e471]; exact x_up_k (by decide)
            have b476 := jB (e := 0) 0 j457 rg_93_0_1_6 (by first | decide | omega) (by first | decide | omega)
            refine x_aldC (np := 108) (x := 0) (n := 6) (i := 0) (q := (h456 93 0)) (by decide +kernel) (by decide +kernel) (by first | decide | omega) (by first | decide | omega) (by decide) q475 (fun l477 => ?_)
            refine x_ifz (k := 2) (tg := 122) (np := 111) (by decide +kernel) (by decide) l477 (fun q478 => ?_) (fun q479 => ?_)
            · have q478 : (h456 93 0) < 2147483648 := q478
              refine x_aload (np := 123) (x := 0) (by decide +kernel) rfl (x_nc_le (by decide)) ?_
              have q480 : h469 75 28 = 94 := by have z := jB (e := 28) 0 j470 rg_75_28_0_1 (by decide) (by decide); omega
              refine x_getR (np := 126) (x := 732) (f := 28) (q := 94) (by decide +kernel) (by decide) (by decide +kernel) q480 ?_
              refine x_iload (np := 127) (x := 2) (by decide +kernel) rfl (by decide) ?_
              have q481 : h469 94 0 = 2147483647 := by rw [← e471]; exact x_up_at
              refine x_aldC (np := 128) (x := 0) (n := 6) (i := 0) (q := 2147483647) (by decide +kernel) (by decide +kernel) (by first | decide | omega) (by first | decide | omega) (by decide) q481 (fun l482 => ?_)
              refine x_ifz (k := 3) (tg := 135) (np := 131) (by decide +kernel) (by decide) (by decide) (fun q483 => ?_) (fun q484 => ?_)
              · have q483 : 2147483648 ≤ 2147483647 := q483
                exfalso; omega
              have q484 : ¬ (2147483648 ≤ 2147483647) := q484
              refine x_const (np := 132) (x := 9223372034707292159) (a := 2147483647) (by decide +kernel) (by decide) (by decide) ?_
              refine x_goto (np := 135) (x := 140) (by decide +kernel) ?_
              refine x_istore (np := 142) (x := 5) (lo' := [x_r 75, iv_c 2147483648, iv_c 2147483648, iv_c v453, iv_c 2147483649, iv_c 2147483647]) (by decide +kernel) (by decide) (Nat.le_of_ble_eq_true rfl) rfl ?_
              refine x_iload (np := 144) (x := 5) (by decide +kernel) rfl (by decide) ?_
              refine x_ifz (k := 2) (tg := 151) (np := 147) (by decide +kernel) (by decide) (by decide) (fun q485 => ?_) (fun q486 => ?_)
              · have q485 : 2147483647 < 2147483648 := q485
                refine x_const (np := 152) (x := 9223372039002259456) (a := 2147483648) (by decide +kernel) (by decide) (by decide) ?_
                refine x_istore (np := 154) (x := 4) (lo' := [x_r 75, iv_c 2147483648, iv_c 2147483648, iv_c v453, iv_c 2147483648, iv_c 2147483647]) (by decide +kernel) (by decide) (Nat.le_of_ble_eq_true rfl) rfl ?_
                refine x_iload (np := 156) (x := 4) (by decide +kernel) rfl (by decide) ?_
                refine x_ifz (k := 0) (tg := 180) (np := 159) (by decide +kernel) (by decide) (by decide) (fun q487 => ?_) (fun q488 => ?_)
                · have q487 : 2147483648 = 2147483648 := q487
                  refine x_iinc (np := 183) (i := 2) (j := 2147483647) (v := 2147483647) (lo' := [x_r 75, iv_c 2147483648, iv_c 2147483647, iv_c v453, iv_c 2147483648, iv_c 2147483647]) (by decide +kernel) (by decide) (by decide) rfl (by decide) (by first | decide | omega) (by first | decide | omega) rfl ?_
                  refine x_goto (np := 186) (x := 12) (by decide +kernel) ?_
                  have q489 : h469 75 30 = h456 75 30 := by rw [← e471]; exact x_up_k (by decide)
                  have q490 : h456 75 30 = h444 75 30 := jK 0 f458 rg_75_30_0_1 (by first | decide | omega) (by first | decide | omega) (by decide)
                  have q491 : h444 75 30 = (1 + (h425 75 30)) := by rw [← e446]; exact x_up_at
                  exact i436 (iv_c v453) (iv_c 2147483647) h469 (by first | decide | omega) j470 f473 (by first | decide | omega)
                have q488 : ¬ (2147483648 = 2147483648) := q488
                exfalso; omega
              have q486 : ¬ (2147483647 < 2147483648) := q486
              exfalso; omega
            have q479 : ¬ ((h456 93 0) < 2147483648) := q479
            refine x_aload (np := 112) (x := 0) (by decide +kernel) rfl (x_nc_le (by decide)) ?_
            refine x_aload (np := 113) (x := 0) (by decide +kernel) rfl (x_nc_le (by decide)) ?_
            have q492 : h469 75 27 = 93 := by have z := jB (e := 27) 0 j470 rg_75_27_0_1 (by decide) (by decide); omega
            refine x_getR (np := 116) (x := 731) (f := 27) (q := 93) (by decide +kernel) (by decide) (by decide +kernel) q492 ?_
            refine x_iload (np := 117) (x := 2) (by decide +kernel) rfl (by decide) ?_
            have q493 : h469 93 0 = h456 93 0 := by rw [← e471]; exact x_up_k (by decide)
            refine x_aldC (np := 118) (x := 0) (n := 6) (i := 0) (q := (h456 93 0)) (by decide +kernel) (by decide +kernel) (by first | decide | omega) (by first | decide | omega) (by decide) q493 (fun l494 => ?_)
            refine x_const (np := 119) (x := 9223372039002259456) (a := 2147483648) (by decide +kernel) (by decide) (by decide) ?_
            refine x_cV (t := 6) (mj := 248) (n := 3) (rc := 12) (ml := 4) (nr := 0) (np := 122) (as := [x_r 75, iv_c (h456 93 0), iv_c 2147483648]) (rest := []) (lo1 := [x_r 75, iv_c (h456 93 0), iv_c 2147483648, 147573952589676412928]) (by decide +kernel) (by decide) (by decide +kernel) (x_rb_of (by decide +kernel)) rfl rfl (x_wr (by decide) (x_wi l477 (x_wi (by decide) x_wn))) x_wn (by decide) rfl (c248_75 j470  (by first | decide | omega) (by first | decide | omega)) (fun h498 q497 => ?_)
            obtain ⟨j499, f500⟩ := q497
            have f503 := Fr.trans f472 f500 (by decide)
            have f504 := Fr.trans f473 f500 (by decide)
            refine x_aload (np := 123) (x := 0) (by decide +kernel) rfl (x_nc_le (by decide)) ?_
            have q505 : h498 75 28 = 94 := by have z := jB (e := 28) 0 j499 rg_75_28_0_1 (by decide) (by decide); omega
            refine x_getR (np := 126) (x := 732) (f := 28) (q := 94) (by decide +kernel) (by decide) (by decide +kernel) q505 ?_
            refine x_iload (np := 127) (x := 2) (by decide +kernel) rfl (by decide) ?_
            have q506 : h498 94 0 = h469 94 0 := jK 0 f500 rg_94_0_1_6 (by first | decide | omega) (by first | decide | omega) (by decide)
            have q507 : h469 94 0 = 2147483647 := by rw [← e471]; exact x_up_at
            refine x_aldC (np := 128) (x := 0) (n := 6) (i := 0) (q := 2147483647) (by decide +kernel) (by decide +kernel) (by first | decide | omega) (by first | decide | omega) (by decide) (q506.trans q507) (fun l508 => ?_)
            refine x_ifz (k := 3) (tg := 135) (np := 131) (by decide +kernel) (by decide) (by decide) (fun q509 => ?_) (fun q510 => ?_)
            · have q509 : 2147483648 ≤ 2147483647 := q509
              exfalso; omega
            have q510 : ¬ (2147483648 ≤ 2147483647) := q510
            refine x_const (np := 132) (x := 9223372034707292159) (a := 2147483647) (by decide +kernel) (by decide) (by decide) ?_
            refine x_goto (np := 135) (x := 140) (by decide +kernel) ?_
            refine x_istore (np := 142) (x := 5) (lo' := [x_r 75, iv_c 2147483648, iv_c 2147483648, iv_c v453, iv_c 2147483649, iv_c 2147483647]) (by decide +kernel) (by decide) (Nat.le_of_ble_eq_true rfl) rfl ?_
            refine x_iload (np := 144) (x := 5) (by decide +kernel) rfl (by decide) ?_
            refine x_ifz (k := 2) (tg := 151) (np := 147) (by decide +kernel) (by decide) (by decide) (fun q511 => ?_) (fun q512 => ?_)
            · have q511 : 2147483647 < 2147483648 := q511
              refine x_const (np := 152) (x := 9223372039002259456) (a := 2147483648) (by decide +kernel) (by decide) (by decide) ?_
              refine x_istore (np := 154) (x := 4) (lo' := [x_r 75, iv_c 2147483648, iv_c 2147483648, iv_c v453, iv_c 2147483648, iv_c 2147483647]) (by decide +kernel) (by decide) (Nat.le_of_ble_eq_true rfl) rfl ?_
              refine x_iload (np := 156) (x := 4) (by decide +kernel) rfl (by decide) ?_
              refine x_ifz (k := 0) (tg := 180) (np := 159) (by decide +kernel) (by decide) (by decide) (fun q513 => ?_) (fun q514 => ?_)
              · have q513 : 2147483648 = 2147483648 := q513
                refine x_iinc (np := 183) (i := 2) (j := 2147483647) (v := 2147483647) (lo' := [x_r 75, iv_c 2147483648, iv_c 2147483647, iv_c v453, iv_c 2147483648, iv_c 2147483647]) (by decide +kernel) (by decide) (by decide) rfl (by decide) (by first | decide | omega) (by first | decide | omega) rfl ?_
                refine x_goto (np := 186) (x := 12) (by decide +kernel) ?_
                have q515 : h498 75 30 = h469 75 30 := jK 0 f500 rg_75_30_0_1 (by first | decide | omega) (by first | decide | omega) (by decide)
                have q516 : h469 75 30 = h456 75 30 := by rw [← e471]; exact x_up_k (by decide)
                have q517 : h456 75 30 = h444 75 30 := jK 0 f458 rg_75_30_0_1 (by first | decide | omega) (by first | decide | omega) (by decide)
                have q518 : h444 75 30 = (1 + (h425 75 30)) := by rw [← e446]; exact x_up_at
                exact i436 (iv_c v453) (iv_c 2147483647) h498 (by first | decide | omega) j499 f504 (by first | decide | omega)
              have q514 : ¬ (2147483648 = 2147483648) := q514
              exfalso; omega
            have q512 : ¬ (2147483647 < 2147483648) := q512
            exfalso; omega
          have q463 : ¬ (v453 ≠ 2147483649) := q463
          refine x_aload (np := 55) (x := 0) (by decide +kernel) rfl (x_nc_le (by decide)) ?_
          have q519 : h456 75 34 = h444 75 34 := jK 0 f458 rg_75_34_0_1 (by first | decide | omega) (by first | decide | omega) (by decide)
          have q520 : h444 75 34 = h425 75 34 := by rw [← e446]; exact x_up_i (by first | decide | omega)
          refine x_getC (np := 58) (x := 738) (f := 34) (q := (h425 75 34)) (by decide +kernel) (by decide) (by decide +kernel) (q519.trans q520) (fun l521 => ?_)
          refine x_ifz (k := 1) (tg := 66) (np := 61) (by decide +kernel) (by decide) l521 (fun q522 => ?_) (fun q523 => ?_)
          · have q522 : (h425 75 34) ≠ 2147483648 := q522
            refine x_aload (np := 67) (x := 0) (by decide +kernel) rfl (x_nc_le (by decide)) ?_
            refine x_dup (np := 68) (x := 0) (by decide +kernel) (by have z := x_nc_le (k := 75) (by decide); unfold x_r; omega) ?_
            have q524 : h456 75 34 = h444 75 34 := jK 0 f458 rg_75_34_0_1 (by first | decide | omega) (by first | decide | omega) (by decide)
            have q525 : h444 75 34 = h425 75 34 := by rw [← e446]; exact x_up_i (by first | decide | omega)
            refine x_getC (np := 71) (x := 738) (f := 34) (q := (h425 75 34)) (by decide +kernel) (by decide) (by decide +kernel) (q524.trans q525) (fun l526 => ?_)
            refine x_const (np := 72) (x := 9223372043297226753) (a := 2147483649) (by decide +kernel) (by decide) (by decide) ?_
            refine x_addA (by rw [tb_b259]; decide +kernel) l521 (by decide) (fun v527 l528 => ?_)
            refine x_putI (np := 76) (x := 738) (f := 34) (by decide +kernel) (by decide +kernel) l528 (Or.inl (by decide)) ?_
            have j530 := jU (e := 34) (v := v527) 0 j457 rg_75_34_0_1 (by first | decide | omega) (by first | decide | omega) (by first | decide | omega)
            have f532 := jF (e := 34) (v := v527) 0 f460 rg_75_34_0_1 (by first | decide | omega) (by first | decide | omega) (by decide)
            have f533 := jF (e := 34) (v := v527) 0 f461 rg_75_34_0_1 (by first | decide | omega) (by first | decide | omega) (by decide)
            generalize e531 : x_up h456 75 34 v527 = h529 at j530 f532 f533 ⊢
            refine x_aload (np := 77) (x := 0) (by decide +kernel) rfl (x_nc_le (by decide)) ?_
            have q534 : h529 75 33 = h456 75 33 := by rw [← e531]; exact x_up_i (by first | decide | omega)
            have q535 : h456 75 33 = h444 75 33 := jK 0 f458 rg_75_33_0_1 (by first | decide | omega) (by first | decide | omega) (by decide)
            have q536 : h444 75 33 = h425 75 33 := by rw [← e446]; exact x_up_i (by first | decide | omega)
            have q537 : h425 75 33 = h2 75 33 := jK 0 f427 rg_75_33_0_1 (by first | decide | omega) (by first | decide | omega) (by decide)
            have q538 : h2 75 33 = h 75 33 := by rw [← e4]; exact x_up_i (by first | decide | omega)
            have b539 := jB (e := 33) 0 hJ rg_75_33_0_1 (by first | decide | omega) (by first | decide | omega)
            refine x_getC (np := 80) (x := 737) (f := 33) (q := (h 75 33)) (by decide +kernel) (by decide) (by decide +kernel) ((((q534.trans q535).trans q536).trans q537).trans q538) (fun l540 => ?_)
            refine x_ifz (k := 0) (tg := 85) (np := 83) (by decide +kernel) (by decide) l540 (fun q541 => ?_) (fun q542 => ?_)
            · have q541 : (h 75 33) = 2147483648 := q541
              refine x_iload (np := 86) (x := 3) (by decide +kernel) rfl l454 ?_
              refine x_const (np := 87) (x := 9223372043297226753) (a := 2147483649) (by decide +kernel) (by decide) (by decide) ?_
              refine x_icmp (k := 0) (tg := 95) (np := 90) (by decide +kernel) (by decide) l454 (by decide) (fun q543 => ?_) (fun q544 => ?_)
              · have q543 : v453 = 2147483649 := q543
                refine x_aload (np := 96) (x := 0) (by decide +kernel) rfl (x_nc_le (by decide)) ?_
                have q545 : h529 75 28 = 94 := by have z := jB (e := 28) 0 j530 rg_75_28_0_1 (by decide) (by decide); omega
                refine x_getR (np := 99) (x := 732) (f := 28) (q := 94) (by decide +kernel) (by decide) (by decide +kernel) q545 ?_
                refine x_iload (np := 100) (x := 2) (by decide +kernel) rfl (by decide) ?_
                refine x_const (np := 101) (x := 9223372034707292159) (a := 2147483647) (by decide +kernel) (by decide) (by decide) ?_
                refine x_ast (np := 102) (x := 0) (kd := 1) (n := 6) (i := 0) (by decide +kernel) (Or.inl rfl) (by decide +kernel) (by first | decide | omega) (by first | decide | omega) (by decide) (by decide) (fun z => absurd z (by decide)) ?_
                have j547 := jU (e := 0) (v := 2147483647) 0 j530 rg_94_0_1_6 (by first | decide | omega) (by first | decide | omega) (by first | decide | omega)
                have f549 := jF (e := 0) (v := 2147483647) 0 f532 rg_94_0_1_6 (by first | decide | omega) (by first | decide | omega) (by decide)
                have f550 := jF (e := 0) (v := 2147483647) 0 f533 rg_94_0_1_6 (by first | decide | omega) (by first | decide | omega) (by decide)
                generalize e548 : x_up h529 94 0 2147483647 = h546 at j547 f549 f550 ⊢
                refine x_aload (np := 103) (x := 0) (by decide +kernel) rfl (x_nc_le (by decide)) ?_
                have q551 : h546 75 27 = 93 := by have z := jB (e := 27) 0 j547 rg_75_27_0_1 (by decide) (by decide); omega
                refine x_getR (np := 106) (x := 731) (f := 27) (q := 93) (by decide +kernel) (by decide) (by decide +kernel) q551 ?_
                refine x_iload (np := 107) (x := 2) (by decide +kernel) rfl (by decide) ?_
                have q552 : h546 93 0 = h529 93 0 := by rw [← e548]; exact x_up_k (by decide)
                have q553 : h529 93 0 = h456 93 0 := by rw [← e531]; exact x_up_k (by decide)
                have b554 := jB (e := 0) 0 j457 rg_93_0_1_6 (by first | decide | omega) (by first | decide | omega)
                refine x_aldC (np := 108) (x := 0) (n := 6) (i := 0) (q := (h456 93 0)) (by decide +kernel) (by decide +kernel) (by first | decide | omega) (by first | decide | omega) (by decide) (q552.trans q553) (fun l555 => ?_)
                refine x_ifz (k := 2) (tg := 122) (np := 111) (by decide +kernel) (by decide) l555 (fun q556 => ?_) (fun q557 => ?_)
                · have q556 : (h456 93 0) < 2147483648 := q556
                  refine x_aload (np := 123) (x := 0) (by decide +kernel) rfl (x_nc_le (by decide)) ?_
                  have q558 : h546 75 28 = 94 := by have z := jB (e := 28) 0 j547 rg_75_28_0_1 (by decide) (by decide); omega
                  refine x_getR (np := 126) (x := 732) (f := 28) (q := 94) (by decide +kernel) (by decide) (by decide +kernel) q558 ?_
                  refine x_iload (np := 127) (x := 2) (by decide +kernel) rfl (by decide) ?_
                  have q559 : h546 94 0 = 2147483647 := by rw [← e548]; exact x_up_at
                  refine x_aldC (np := 128) (x := 0) (n := 6) (i := 0) (q := 2147483647) (by decide +kernel) (by decide +kernel) (by first | decide | omega) (by first | decide | omega) (by decide) q559 (fun l560 => ?_)
                  refine x_ifz (k := 3) (tg := 135) (np := 131) (by decide +kernel) (by decide) (by decide) (fun q561 => ?_) (fun q562 => ?_)
                  · have q561 : 2147483648 ≤ 2147483647 := q561
                    exfalso; omega
                  have q562 : ¬ (2147483648 ≤ 2147483647) := q562
                  refine x_const (np := 132) (x := 9223372034707292159) (a := 2147483647) (by decide +kernel) (by decide) (by decide) ?_
                  refine x_goto (np := 135) (x := 140) (by decide +kernel) ?_
                  refine x_istore (np := 142) (x := 5) (lo' := [x_r 75, iv_c 2147483648, iv_c 2147483648, iv_c v453, iv_c 2147483649, iv_c 2147483647]) (by decide +kernel) (by decide) (Nat.le_of_ble_eq_true rfl) rfl ?_
                  refine x_iload (np := 144) (x := 5) (by decide +kernel) rfl (by decide) ?_
                  refine x_ifz (k := 2) (tg := 151) (np := 147) (by decide +kernel) (by decide) (by decide) (fun q563 => ?_) (fun q564 => ?_)
                  · have q563 : 2147483647 < 2147483648 := q563
                    refine x_const (np := 152) (x := 9223372039002259456) (a := 2147483648) (by decide +kernel) (by decide) (by decide) ?_
                    refine x_istore (np := 154) (x := 4) (lo' := [x_r 75, iv_c 2147483648, iv_c 2147483648, iv_c v453, iv_c 2147483648, iv_c 2147483647]) (by decide +kernel) (by decide) (Nat.le_of_ble_eq_true rfl) rfl ?_
                    refine x_iload (np := 156) (x := 4) (by decide +kernel) rfl (by decide) ?_
                    refine x_ifz (k := 0) (tg := 180) (np := 159) (by decide +kernel) (by decide) (by decide) (fun q565 => ?_) (fun q566 => ?_)
                    · have q565 : 2147483648 = 2147483648 := q565
                      refine x_iinc (np := 183) (i := 2) (j := 2147483647) (v := 2147483647) (lo' := [x_r 75, iv_c 2147483648, iv_c 2147483647, iv_c v453, iv_c 2147483648, iv_c 2147483647]) (by decide +kernel) (by decide) (by decide) rfl (by decide) (by first | decide | omega) (by first | decide | omega) rfl ?_
                      refine x_goto (np := 186) (x := 12) (by decide +kernel) ?_
                      have q567 : h546 75 30 = h529 75 30 := by rw [← e548]; exact x_up_k (by decide)
                      have q568 : h529 75 30 = h456 75 30 := by rw [← e531]; exact x_up_i (by first | decide | omega)
                      have q569 : h456 75 30 = h444 75 30 := jK 0 f458 rg_75_30_0_1 (by first | decide | omega) (by first | decide | omega) (by decide)
                      have q570 : h444 75 30 = (1 + (h425 75 30)) := by rw [← e446]; exact x_up_at
                      exact i436 (iv_c v453) (iv_c 2147483647) h546 (by first | decide | omega) j547 f550 (by first | decide | omega)
                    have q566 : ¬ (2147483648 = 2147483648) := q566
                    exfalso; omega
                  have q564 : ¬ (2147483647 < 2147483648) := q564
                  exfalso; omega
                have q557 : ¬ ((h456 93 0) < 2147483648) := q557
                refine x_aload (np := 112) (x := 0) (by decide +kernel) rfl (x_nc_le (by decide)) ?_
                refine x_aload (np := 113) (x := 0) (by decide +kernel) rfl (x_nc_le (by decide)) ?_
                have q571 : h546 75 27 = 93 := by have z := jB (e := 27) 0 j547 rg_75_27_0_1 (by decide) (by decide); omega
                refine x_getR (np := 116) (x := 731) (f := 27) (q := 93) (by decide +kernel) (by decide) (by decide +kernel) q571 ?_
                refine x_iload (np := 117) (x := 2) (by decide +kernel) rfl (by decide) ?_
                have q572 : h546 93 0 = h529 93 0 := by rw [← e548]; exact x_up_k (by decide)
                have q573 : h529 93 0 = h456 93 0 := by rw [← e531]; exact x_up_k (by decide)
                refine x_aldC (np := 118) (x := 0) (n := 6) (i := 0) (q := (h456 93 0)) (by decide +kernel) (by decide +kernel) (by first | decide | omega) (by first | decide | omega) (by decide) (q572.trans q573) (fun l574 => ?_)
                refine x_const (np := 119) (x := 9223372039002259456) (a := 2147483648) (by decide +kernel) (by decide) (by decide) ?_
                refine x_cV (t := 6) (mj := 248) (n := 3) (rc := 12) (ml := 4) (nr := 0) (np := 122) (as := [x_r 75, iv_c (h456 93 0), iv_c 2147483648]) (rest := []) (lo1 := [x_r 75, iv_c (h456 93 0), iv_c 2147483648, 147573952589676412928]) (by decide +kernel) (by decide) (by decide +kernel) (x_rb_of (by decide +kernel)) rfl rfl (x_wr (by decide) (x_wi l555 (x_wi (by decide) x_wn))) x_wn (by decide) rfl (c248_75 j547  (by first | decide | omega) (by first | decide | omega)) (fun h578 q577 => ?_)
                obtain ⟨j579, f580⟩ := q577
                have f583 := Fr.trans f549 f580 (by decide)
                have f584 := Fr.trans f550 f580 (by decide)
                refine x_aload (np := 123) (x := 0) (by decide +kernel) rfl (x_nc_le (by decide)) ?_
                have q585 : h578 75 28 = 94 := by have z := jB (e := 28) 0 j579 rg_75_28_0_1 (by decide) (by decide); omega
                refine x_getR (np := 126) (x := 732) (f := 28) (q := 94) (by decide +kernel) (by decide) (by decide +kernel) q585 ?_
                refine x_iload (np := 127) (x := 2) (by decide +kernel) rfl (by decide) ?_
                have q586 : h578 94 0 = h546 94 0 := jK 0 f580 rg_94_0_1_6 (by first | decide | omega) (by first | decide | omega) (by decide)
                have q587 : h546 94 0 = 2147483647 := by rw [← e548]; exact x_up_at
                refine x_aldC (np := 128) (x := 0) (n := 6) (i := 0) (q := 2147483647) (by decide +kernel) (by decide +kernel) (by first | decide | omega) (by first | decide | omega) (by decide) (q586.trans q587) (fun l588 => ?_)
                refine x_ifz (k := 3) (tg := 135) (np := 131) (by decide +kernel) (by decide) (by decide) (fun q589 => ?_) (fun q590 => ?_)
                · have q589 : 2147483648 ≤ 2147483647 := q589
                  exfalso; omega
                have q590 : ¬ (2147483648 ≤ 2147483647) := q590
                refine x_const (np := 132) (x := 9223372034707292159) (a := 2147483647) (by decide +kernel) (by decide) (by decide) ?_
                refine x_goto (np := 135) (x := 140) (by decide +kernel) ?_
                refine x_istore (np := 142) (x := 5) (lo' := [x_r 75, iv_c 2147483648, iv_c 2147483648, iv_c v453, iv_c 2147483649, iv_c 2147483647]) (by decide +kernel) (by decide) (Nat.le_of_ble_eq_true rfl) rfl ?_
                refine x_iload (np := 144) (x := 5) (by decide +kernel) rfl (by decide) ?_
                refine x_ifz (k := 2) (tg := 151) (np := 147) (by decide +kernel) (by decide) (by decide) (fun q591 => ?_) (fun q592 => ?_)
                · have q591 : 2147483647 < 2147483648 := q591
                  refine x_const (np := 152) (x := 9223372039002259456) (a := 2147483648) (by decide +kernel) (by decide) (by decide) ?_
                  refine x_istore (np := 154) (x := 4) (lo' := [x_r 75, iv_c 2147483648, iv_c 2147483648, iv_c v453, iv_c 2147483648, iv_c 2147483647]) (by decide +kernel) (by decide) (Nat.le_of_ble_eq_true rfl) rfl ?_
                  refine x_iload (np := 156) (x := 4) (by decide +kernel) rfl (by decide) ?_
                  refine x_ifz (k := 0) (tg := 180) (np := 159) (by decide +kernel) (by decide) (by decide) (fun q593 => ?_) (fun q594 => ?_)
                  · have q593 : 2147483648 = 2147483648 := q593
                    refine x_iinc (np := 183) (i := 2) (j := 2147483647) (v := 2147483647) (lo' := [x_r 75, iv_c 2147483648, iv_c 2147483647, iv_c v453, iv_c 2147483648, iv_c 2147483647]) (by decide +kernel) (by decide) (by decide) rfl (by decide) (by first | decide | omega) (by first | decide | omega) rfl ?_
                    refine x_goto (np := 186) (x := 12) (by decide +kernel) ?_
                    have q595 : h578 75 30 = h546 75 30 := jK 0 f580 rg_75_30_0_1 (by first | decide | omega) (by first | decide | omega) (by decide)
                    have q596 : h546 75 30 = h529 75 30 := by rw [← e548]; exact x_up_k (by decide)
                    have q597 : h529 75 30 = h456 75 30 := by rw [← e531]; exact x_up_i (by first | decide | omega)
                    have q598 : h456 75 30 = h444 75 30 := jK 0 f458 rg_75_30_0_1 (by first | decide | omega) (by first | decide | omega) (by decide)
                    have q599 : h444 75 30 = (1 + (h425 75 30)) := by rw [← e446]; exact x_up_at
                    exact i436 (iv_c v453) (iv_c 2147483647) h578 (by first | decide | omega) j579 f584 (by first | decide | omega)
                  have q594 : ¬ (2147483648 = 2147483648) := q594
                  exfalso; omega
                have q592 : ¬ (2147483647 < 2147483648) := q592
                exfalso; omega
              have q544 : ¬ (v453 = 2147483649) := q544
              exfalso; omega
            have q542 : ¬ ((h 75 33) = 2147483648) := q542
            refine x_const (np := 84) (x := 9223372043297226753) (a := 2147483649) (by decide +kernel) (by decide) (by decide) ?_
            have q600 : h529 75 30 = h456 75 30 := by rw [← e531]; exact x_up_i (by first | decide | omega)
            have q601 : h456 75 30 = h444 75 30 := jK 0 f458 rg_75_30_0_1 (by first | decide | omega) (by first | decide | omega) (by decide)
            have q602 : h444 75 30 = (1 + (h425 75 30)) := by rw [← e446]; exact x_up_at
            refine x_retI (np := 85) (x := 0) (by decide +kernel) (by decide) (Or.inr ⟨by decide +kernel, by first | decide | omega, by first | decide | omega⟩) ⟨_, rfl, (by decide), ?_⟩
            exact ⟨j530, f532, (by first | decide | omega), (fun z => by first | decide | omega)⟩
          have q523 : ¬ ((h425 75 34) ≠ 2147483648) := q523
          refine x_aload (np := 62) (x := 0) (by decide +kernel) rfl (x_nc_le (by decide)) ?_
          refine x_iload (np := 63) (x := 2) (by decide +kernel) rfl (by decide) ?_
          refine x_cV (t := 6) (mj := 258) (n := 2) (rc := 12) (ml := 4) (nr := 0) (np := 66) (as := [x_r 75, iv_c 2147483648]) (rest := []) (lo1 := [x_r 75, iv_c 2147483648, 147573952589676412928, 147573952589676412928]) (by decide +kernel) (by decide) (by decide +kernel) (x_rb_of (by decide +kernel)) rfl rfl (x_wr (by decide) (x_wi (by decide) x_wn)) x_wn (by decide) rfl (c258_75 j457  (by first | decide | omega)) (fun h606 q605 => ?_)
          obtain ⟨j607, f608⟩ := q605
          have f611 := Fr.trans f460 f608 (by decide)
          have f612 := Fr.trans f461 f608 (by decide)
          refine x_aload (np := 67) (x := 0) (by decide +kernel) rfl (x_nc_le (by decide)) ?_
          refine x_dup (np := 68) (x := 0) (by decide +kernel) (by have z := x_nc_le (k := 75) (by decide); unfold x_r; omega) ?_
          have q613 : h606 75 34 = h456 75 34 := jK 0 f608 rg_75_34_0_1 (by first | decide | omega) (by first | decide | omega) (by decide)
          have q614 : h456 75 34 = h444 75 34 := jK 0 f458 rg_75_34_0_1 (by first | decide | omega) (by first | decide | omega) (by decide)
          have q615 : h444 75 34 = h425 75 34 := by rw [← e446]; exact x_up_i (by first | decide | omega)
          refine x_getC (np := 71) (x := 738) (f := 34) (q := (h425 75 34)) (by decide +kernel) (by decide) (by decide +kernel) ((q613.trans q614).trans q615) (fun l616 => ?_)
          refine x_const (np := 72) (x := 9223372043297226753) (a := 2147483649) (by decide +kernel) (by decide) (by decide) ?_
          refine x_iadd (np := 73) (x := 0) (v := (1 + (h425 75 34))) (by decide +kernel) l521 (by decide) (by first | decide | omega) (by first | decide | omega) ?_
          refine x_putI (np := 76) (x := 738) (f := 34) (by decide +kernel) (by decide +kernel) (by first | decide | omega) (Or.inl (by decide)) ?_
          have j618 := jU (e := 34) (v := (1 + (h425 75 34))) 0 j607 rg_75_34_0_1 (by first | decide | omega) (by first | decide | omega) (by first | decide | omega)
          have f620 := jF (e := 34) (v := (1 + (h425 75 34))) 0 f611 rg_75_34_0_1 (by first | decide | omega) (by first | decide | omega) (by decide)
          have f621 := jF (e := 34) (v := (1 + (h425 75 34))) 0 f612 rg_75_34_0_1 (by first | decide | omega) (by first | decide | omega) (by decide)
          generalize e619 : x_up h606 75 34 (1 + (h425 75 34)) = h617 at j618 f620 f621 ⊢
          refine x_aload (np := 77) (x := 0) (by decide +kernel) rfl (x_nc_le (by decide)) ?_
          have q622 : h617 75 33 = h606 75 33 := by rw [← e619]; exact x_up_i (by first | decide | omega)
          have q623 : h606 75 33 = h456 75 33 := jK 0 f608 rg_75_33_0_1 (by first | decide | omega) (by first | decide | omega) (by decide)
          have q624 : h456 75 33 = h444 75 33 := jK 0 f458 rg_75_33_0_1 (by first | decide | omega) (by first | decide | omega) (by decide)
          have q625 : h444 75 33 = h425 75 33 := by rw [← e446]; exact x_up_i (by first | decide | omega)
          have q626 : h425 75 33 = h2 75 33 := jK 0 f427 rg_75_33_0_1 (by first | decide | omega) (by first | decide | omega) (by decide)
          have q627 : h2 75 33 = h 75 33 := by rw [← e4]; exact x_up_i (by first | decide | omega)
          have b628 := jB (e := 33) 0 hJ rg_75_33_0_1 (by first | decide | omega) (by first | decide | omega)
          refine x_getC (np := 80) (x := 737) (f := 33) (q := (h 75 33)) (by decide +kernel) (by decide) (by decide +kernel) (((((q622.trans q623).trans q624).trans q625).trans q626).trans q627) (fun l629 => ?_)
          refine x_ifz (k := 0) (tg := 85) (np := 83) (by decide +kernel) (by decide) l629 (fun q630 => ?_) (fun q631 => ?_)
          · have q630 : (h 75 33) = 2147483648 := q630
            refine x_iload (np := 86) (x := 3) (by decide +kernel) rfl l454 ?_
            refine x_const (np := 87) (x := 9223372043297226753) (a := 2147483649) (by decide +kernel) (by decide) (by decide) ?_
            refine x_icmp (k := 0) (tg := 95) (np := 90) (by decide +kernel) (by decide) l454 (by decide) (fun q632 => ?_) (fun q633 => ?_)
            · have q632 : v453 = 2147483649 := q632
              refine x_aload (np := 96) (x := 0) (by decide +kernel) rfl (x_nc_le (by decide)) ?_
              have q634 : h617 75 28 = 94 := by have z := jB (e := 28) 0 j618 rg_75_28_0_1 (by decide) (by decide); omega
              refine x_getR (np := 99) (x := 732) (f := 28) (q := 94) (by decide +kernel) (by decide) (by decide +kernel) q634 ?_
              refine x_iload (np := 100) (x := 2) (by decide +kernel) rfl (by decide) ?_
              refine x_const (np := 101) (x := 9223372034707292159) (a := 2147483647) (by decide +kernel) (by decide) (by decide) ?_
              refine x_ast (np := 102) (x := 0) (kd := 1) (n := 6) (i := 0) (by decide +kernel) (Or.inl rfl) (by decide +kernel) (by first | decide | omega) (by first | decide | omega) (by decide) (by decide) (fun z => absurd z (by decide)) ?_
              have j636 := jU (e := 0) (v := 2147483647) 0 j618 rg_94_0_1_6 (by first | decide | omega) (by first | decide | omega) (by first | decide | omega)
              have f638 := jF (e := 0) (v := 2147483647) 0 f620 rg_94_0_1_6 (by first | decide | omega) (by first | decide | omega) (by decide)
              have f639 := jF (e := 0) (v := 2147483647) 0 f621 rg_94_0_1_6 (by first | decide | omega) (by first | decide | omega) (by decide)
              generalize e637 : x_up h617 94 0 2147483647 = h635 at j636 f638 f639 ⊢
              refine x_aload (np := 103) (x := 0) (by decide +kernel) rfl (x_nc_le (by decide)) ?_
              have q640 : h635 75 27 = 93 := by have z := jB (e := 27) 0 j636 rg_75_27_0_1 (by decide) (by decide); omega
              refine x_getR (np := 106) (x := 731) (f := 27) (q := 93) (by decide +kernel) (by decide) (by decide +kernel) q640 ?_
              refine x_iload (np := 107) (x := 2) (by decide +kernel) rfl (by decide) ?_
              have q641 : h635 93 0 = h617 93 0 := by rw [← e637]; exact x_up_k (by decide)
              have q642 : h617 93 0 = h606 93 0 := by rw [← e619]; exact x_up_k (by decide)
              have q643 : h606 93 0 = h456 93 0 := jK 0 f608 rg_93_0_1_6 (by first | decide | omega) (by first | decide | omega) (by decide)
              have b644 := jB (e := 0) 0 j457 rg_93_0_1_6 (by first | decide | omega) (by first | decide | omega)
              refine x_aldC (np := 108) (x := 0) (n := 6) (i := 0) (q := (h456 93 0)) (by decide +kernel) (by decide +kernel) (by first | decide | omega) (by first | decide | omega) (by decide) ((q641.trans q642).trans q643) (fun l645 => ?_)
              refine x_ifz (k := 2) (tg := 122) (np := 111) (by decide +kernel) (by decide) l645 (fun q646 => ?_) (fun q647 => ?_)
              · have q646 : (h456 93 0) < 2147483648 := q646
                refine x_aload (np := 123) (x := 0) (by decide +kernel) rfl (x_nc_le (by decide)) ?_
                have q648 : h635 75 28 = 94 := by have z := jB (e := 28) 0 j636 rg_75_28_0_1 (by decide) (by decide); omega
                refine x_getR (np := 126) (x := 732) (f := 28) (q := 94) (by decide +kernel) (by decide) (by decide +kernel) q648 ?_
                refine x_iload (np := 127) (x := 2) (by decide +kernel) rfl (by decide) ?_
                have q649 : h635 94 0 = 2147483647 := by rw [← e637]; exact x_up_at
                refine x_aldC (np := 128) (x := 0) (n := 6) (i := 0) (q := 2147483647) (by decide +kernel) (by decide +kernel) (by first | decide | omega) (by first | decide | omega) (by decide) q649 (fun l650 => ?_)
                refine x_ifz (k := 3) (tg := 135) (np := 131) (by decide +kernel) (by decide) (by decide) (fun q651 => ?_) (fun q652 => ?_)
                · have q651 : 2147483648 ≤ 2147483647 := q651
                  exfalso; omega
                have q652 : ¬ (2147483648 ≤ 2147483647) := q652
                refine x_const (np := 132) (x := 9223372034707292159) (a := 2147483647) (by decide +kernel) (by decide) (by decide) ?_
                refine x_goto (np := 135) (x := 140) (by decide +kernel) ?_
                refine x_istore (np := 142) (x := 5) (lo' := [x_r 75, iv_c 2147483648, iv_c 2147483648, iv_c v453, iv_c 2147483649, iv_c 2147483647]) (by decide +kernel) (by decide) (Nat.le_of_ble_eq_true rfl) rfl ?_
                refine x_iload (np := 144) (x := 5) (by decide +kernel) rfl (by decide) ?_
                refine x_ifz (k := 2) (tg := 151) (np := 147) (by decide +kernel) (by decide) (by decide) (fun q653 => ?_) (fun q654 => ?_)
                · have q653 : 2147483647 < 2147483648 := q653
                  refine x_const (np := 152) (x := 9223372039002259456) (a := 2147483648) (by decide +kernel) (by decide) (by decide) ?_
                  refine x_istore (np := 154) (x := 4) (lo' := [x_r 75, iv_c 2147483648, iv_c 2147483648, iv_c v453, iv_c 2147483648, iv_c 2147483647]) (by decide +kernel) (by decide) (Nat.le_of_ble_eq_true rfl) rfl ?_
                  refine x_iload (np := 156) (x := 4) (by decide +kernel) rfl (by decide) ?_
                  refine x_ifz (k := 0) (tg := 180) (np := 159) (by decide +kernel) (by decide) (by decide) (fun q655 => ?_) (fun q656 => ?_)
                  · have q655 : 2147483648 = 2147483648 := q655
                    refine x_iinc (np := 183) (i := 2) (j := 2147483647) (v := 2147483647) (lo' := [x_r 75, iv_c 2147483648, iv_c 2147483647, iv_c v453, iv_c 2147483648, iv_c 2147483647]) (by decide +kernel) (by decide) (by decide) rfl (by decide) (by first | decide | omega) (by first | decide | omega) rfl ?_
                    refine x_goto (np := 186) (x := 12) (by decide +kernel) ?_
                    have q657 : h635 75 30 = h617 75 30 := by rw [← e637]; exact x_up_k (by decide)
                    have q658 : h617 75 30 = h606 75 30 := by rw [← e619]; exact x_up_i (by first | decide | omega)
                    have q659 : h606 75 30 = h456 75 30 := jK 0 f608 rg_75_30_0_1 (by first | decide | omega) (by first | decide | omega) (by decide)
                    have q660 : h456 75 30 = h444 75 30 := jK 0 f458 rg_75_30_0_1 (by first | decide | omega) (by first | decide | omega) (by decide)
                    have q661 : h444 75 30 = (1 + (h425 75 30)) := by rw [← e446]; exact x_up_at
                    exact i436 (iv_c v453) (iv_c 2147483647) h635 (by first | decide | omega) j636 f639 (by first | decide | omega)
                  have q656 : ¬ (2147483648 = 2147483648) := q656
                  exfalso; omega
                have q654 : ¬ (2147483647 < 2147483648) := q654
                exfalso; omega
              have q647 : ¬ ((h456 93 0) < 2147483648) := q647
              refine x_aload (np := 112) (x := 0) (by decide +kernel) rfl (x_nc_le (by decide)) ?_
              refine x_aload (np := 113) (x := 0) (by decide +kernel) rfl (x_nc_le (by decide)) ?_
              have q662 : h635 75 27 = 93 := by have z := jB (e := 27) 0 j636 rg_75_27_0_1 (by decide) (by decide); omega
              refine x_getR (np := 116) (x := 731) (f := 27) (q := 93) (by decide +kernel) (by decide) (by decide +kernel) q662 ?_
              refine x_iload (np := 117) (x := 2) (by decide +kernel) rfl (by decide) ?_
              have q663 : h635 93 0 = h617 93 0 := by rw [← e637]; exact x_up_k (by decide)
              have q664 : h617 93 0 = h606 93 0 := by rw [← e619]; exact x_up_k (by decide)
              have q665 : h606 93 0 = h456 93 0 := jK 0 f608 rg_93_0_1_6 (by first | decide | omega) (by first | decide | omega) (by decide)
              refine x_aldC (np := 118) (x := 0) (n := 6) (i := 0) (q := (h456 93 0)) (by decide +kernel) (by decide +kernel) (by first | decide | omega) (by first | decide | omega) (by decide) ((q663.trans q664).trans q665) (fun l666 => ?_)
              refine x_const (np := 119) (x := 9223372039002259456) (a := 2147483648) (by decide +kernel) (by decide) (by decide) ?_
              refine x_cV (t := 6) (mj := 248) (n := 3) (rc := 12) (ml := 4) (nr := 0) (np := 122) (as := [x_r 75, iv_c (h456 93 0), iv_c 2147483648]) (rest := []) (lo1 := [x_r 75, iv_c (h456 93 0), iv_c 2147483648, 147573952589676412928]) (by decide +kernel) (by decide) (by decide +kernel) (x_rb_of (by decide +kernel)) rfl rfl (x_wr (by decide) (x_wi l645 (x_wi (by decide) x_wn))) x_wn (by decide) rfl (c248_75 j636  (by first | decide | omega) (by first | decide | omega)) (fun h670 q669 => ?_)
              obtain ⟨j671, f672⟩ := q669
              have f675 := Fr.trans f638 f672 (by decide)
              have f676 := Fr.trans f639 f672 (by decide)
              refine x_aload (np := 123) (x := 0) (by decide +kernel) rfl (x_nc_le (by decide)) ?_
              have q677 : h670 75 28 = 94 := by have z := jB (e := 28) 0 j671 rg_75_28_0_1 (by decide) (by decide); omega
              refine x_getR (np := 126) (x := 732) (f := 28) (q := 94) (by decide +kernel) (by decide) (by decide +kernel) q677 ?_
              refine x_iload (np := 127) (x := 2) (by decide +kernel) rfl (by decide) ?_
              have q678 : h670 94 0 = h635 94 0 := jK 0 f672 rg_94_0_1_6 (by first | decide | omega) (by first | decide | omega) (by decide)
              have q679 : h635 94 0 = 2147483647 := by rw [← e637]; exact x_up_at
              refine x_aldC (np := 128) (x := 0) (n := 6) (i := 0) (q := 2147483647) (by decide +kernel) (by decide +kernel) (by first | decide | omega) (by first | decide | omega) (by decide) (q678.trans q679) (fun l680 => ?_)
              refine x_ifz (k := 3) (tg := 135) (np := 131) (by decide +kernel) (by decide) (by decide) (fun q681 => ?_) (fun q682 => ?_)
              · have q681 : 2147483648 ≤ 2147483647 := q681
                exfalso; omega
              have q682 : ¬ (2147483648 ≤ 2147483647) := q682
              refine x_const (np := 132) (x := 9223372034707292159) (a := 2147483647) (by decide +kernel) (by decide) (by decide) ?_
              refine x_goto (np := 135) (x := 140) (by decide +kernel) ?_
              refine x_istore (np := 142) (x := 5) (lo' := [x_r 75, iv_c 2147483648, iv_c 2147483648, iv_c v453, iv_c 2147483649, iv_c 2147483647]) (by decide +kernel) (by decide) (Nat.le_of_ble_eq_true rfl) rfl ?_
              refine x_iload (np := 144) (x := 5) (by decide +kernel) rfl (by decide) ?_
              refine x_ifz (k := 2) (tg := 151) (np := 147) (by decide +kernel) (by decide) (by decide) (fun q683 => ?_) (fun q684 => ?_)
              · have q683 : 2147483647 < 2147483648 := q683
                refine x_const (np := 152) (x := 9223372039002259456) (a := 2147483648) (by decide +kernel) (by decide) (by decide) ?_
                refine x_istore (np := 154) (x := 4) (lo' := [x_r 75, iv_c 2147483648, iv_c 2147483648, iv_c v453, iv_c 2147483648, iv_c 2147483647]) (by decide +kernel) (by decide) (Nat.le_of_ble_eq_true rfl) rfl ?_
                refine x_iload (np := 156) (x := 4) (by decide +kernel) rfl (by decide) ?_
                refine x_ifz (k := 0) (tg := 180) (np := 159) (by decide +kernel) (by decide) (by decide) (fun q685 => ?_) (fun q686 => ?_)
                · have q685 : 2147483648 = 2147483648 := q685
                  refine x_iinc (np := 183) (i := 2) (j := 2147483647) (v := 2147483647) (lo' := [x_r 75, iv_c 2147483648, iv_c 2147483647, iv_c v453, iv_c 2147483648, iv_c 2147483647]) (by decide +kernel) (by decide) (by decide) rfl (by decide) (by first | decide | omega) (by first | decide | omega) rfl ?_
                  refine x_goto (np := 186) (x := 12) (by decide +kernel) ?_
                  have q687 : h670 75 30 = h635 75 30 := jK 0 f672 rg_75_30_0_1 (by first | decide | omega) (by first | decide | omega) (by decide)
                  have q688 : h635 75 30 = h617 75 30 := by rw [← e637]; exact x_up_k (by decide)
                  have q689 : h617 75 30 = h606 75 30 := by rw [← e619]; exact x_up_i (by first | decide | omega)
                  have q690 : h606 75 30 = h456 75 30 := jK 0 f608 rg_75_30_0_1 (by first | decide | omega) (by first | decide | omega) (by decide)
                  have q691 : h456 75 30 = h444 75 30 := jK 0 f458 rg_75_30_0_1 (by first | decide | omega) (by first | decide | omega) (by decide)
                  have q692 : h444 75 30 = (1 + (h425 75 30)) := by rw [← e446]; exact x_up_at
                  exact i436 (iv_c v453) (iv_c 2147483647) h670 (by first | decide | omega) j671 f676 (by first | decide | omega)
                have q686 : ¬ (2147483648 = 2147483648) := q686
                exfalso; omega
              have q684 : ¬ (2147483647 < 2147483648) := q684
              exfalso; omega
            have q633 : ¬ (v453 = 2147483649) := q633
            exfalso; omega
          have q631 : ¬ ((h 75 33) = 2147483648) := q631
          refine x_const (np := 84) (x := 9223372043297226753) (a := 2147483649) (by decide +kernel) (by decide) (by decide) ?_
          have q693 : h617 75 30 = h606 75 30 := by rw [← e619]; exact x_up_i (by first | decide | omega)
          have q694 : h606 75 30 = h456 75 30 := jK 0 f608 rg_75_30_0_1 (by first | decide | omega) (by first | decide | omega) (by decide)
          have q695 : h456 75 30 = h444 75 30 := jK 0 f458 rg_75_30_0_1 (by first | decide | omega) (by first | decide | omega) (by decide)
          have q696 : h444 75 30 = (1 + (h425 75 30)) := by rw [← e446]; exact x_up_at
          refine x_retI (np := 85) (x := 0) (by decide +kernel) (by decide) (Or.inr ⟨by decide +kernel, by first | decide | omega, by first | decide | omega⟩) ⟨_, rfl, (by decide), ?_⟩
          exact ⟨j618, f620, (by first | decide | omega), (fun z => by first | decide | omega)⟩
        have q452 : ¬ ((1 + (h425 75 30)) ≤ 2147503648) := q452
        refine x_const (np := 42) (x := 9223372039002259456) (a := 2147483648) (by decide +kernel) (by decide) (by decide) ?_
        have q697 : h444 75 30 = (1 + (h425 75 30)) := by rw [← e446]; exact x_up_at
        refine x_retI (np := 43) (x := 0) (by decide +kernel) (by decide) (Or.inr ⟨by decide +kernel, by first | decide | omega, by first | decide | omega⟩) ⟨_, rfl, (by decide), ?_⟩
        exact ⟨j445, f447, (by first | decide | omega), (fun z => by first | decide | omega)⟩
      · intro w429 w430 h431 q698 j434 f433 b432
        have f699 := Fr.trans f5 f433 (by decide)
        refine x_iload (np := 13) (x := 2) (by decide +kernel) rfl (by decide) ?_
        refine x_ifz (k := 2) (tg := 186) (np := 16) (by decide +kernel) (by decide) (by decide) (fun q700 => ?_) (fun q701 => ?_)
        · have q700 : 2147483647 < 2147483648 := q700
          refine x_const (np := 187) (x := 9223372043297226753) (a := 2147483649) (by decide +kernel) (by decide) (by decide) ?_
          refine x_retI (np := 188) (x := 0) (by decide +kernel) (by decide) (Or.inr ⟨by decide +kernel, by first | decide | omega, by first | decide | omega⟩) ⟨_, rfl, (by decide), ?_⟩
          exact ⟨j434, f699, (by first | decide | omega), (fun z => by first | decide | omega)⟩
        have q701 : ¬ (2147483647 < 2147483648) := q701
        exfalso; omega
  have q702 : h2 75 30 = h 75 30 := by rw [← e4]; exact x_up_i (by first | decide | omega)
  exact (p421 _).1 (iv_c 2147483648) 147573952589676412928 h2 (Nat.lt_succ_self _) j3 (Fr.refl _ _) (by first | decide | omega)
