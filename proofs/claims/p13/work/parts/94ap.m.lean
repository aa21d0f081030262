/-! ===== methods ===== -/
set_option maxHeartbeats 0 in
/-- LentNamesModel.row(III)I -/
theorem c216_75 {sc : Nat × Nat} {d a1 a2 a3 : Nat} {h : xh} (hJ : J h) (ba1 : 0 ≤ a1 ∧ a1 ≤ 4294967295) (ba2 : 0 ≤ a2 ∧ a2 ≤ 4294967295) (ba3 : 0 ≤ a3 ∧ a3 ≤ 4294967295) (hW : WT 76 h) : X sc 216 (d + 5) (xI fun r h' => J h' ∧ Fr 135291600897 h h' ∧ (2147483647 ≤ r ∧ r ≤ 2147483653)) 0 0 0 [x_r 75, iv_c a1, iv_c a2, iv_c a3, 147573952589676412928] [] h := by
  have la1 : a1 < 4294967296 := by first | decide | omega
  have la2 : a2 < 4294967296 := by first | decide | omega
  have la3 : a3 < 4294967296 := by first | decide | omega
  have hF := Fr.refl 135291600897 h
  refine x_aload (np := 1) (x := 0) (by decide +kernel) rfl (x_nc_le (by decide)) ?_
  refine x_const (np := 2) (x := 9223372039002259456) (a := 2147483648) (by decide +kernel) (by decide) (by decide) ?_
  refine x_putI (np := 5) (x := 704) (f := 0) (by decide +kernel) (by decide +kernel) (by decide) (Or.inl (by decide)) ?_
  have j2 := jU (e := 0) (v := 2147483648) 0 hJ rg_75_0_0_1 (by first | decide | omega) (by first | decide | omega) (by first | decide | omega)
  have f4 := jF (e := 0) (v := 2147483648) 0 hF rg_75_0_0_1 (by first | decide | omega) (by first | decide | omega) (by decide)
  generalize e3 : x_up h 75 0 2147483648 = h1 at j2 f4 ⊢
  refine x_aload (np := 6) (x := 0) (by decide +kernel) rfl (x_nc_le (by decide)) ?_
  refine x_aload (np := 7) (x := 0) (by decide +kernel) rfl (x_nc_le (by decide)) ?_
  refine x_iload (np := 8) (x := 1) (by decide +kernel) rfl la1 ?_
  refine x_nI (t := 6) (mj := 159) (n := 2) (rc := 12) (ml := 2) (nr := 1) (np := 11) (as := [x_r 75, iv_c a1]) (rest := [x_r 75]) (lo1 := [x_r 75, iv_c a1]) (by decide +kernel) (by decide) (by decide +kernel) (x_rb_of (by decide +kernel)) rfl rfl (x_wr (by decide) (x_wi la1 x_wn)) (x_wr (by decide) x_wn) (by decide) rfl ?_
  refine x_aload (np := 1) (x := 0) (by decide +kernel) rfl (x_nc_le (by decide)) ?_
  refine x_iload (np := 2) (x := 1) (by decide +kernel) rfl la1 ?_
  refine x_const (np := 3) (x := 9223372039002259456) (a := 2147483648) (by decide +kernel) (by decide) (by decide) ?_
  refine x_nI (t := 6) (mj := 158) (n := 3) (rc := 12) (ml := 3) (nr := 0) (np := 6) (as := [x_r 75, iv_c a1, iv_c 2147483648]) (rest := []) (lo1 := [x_r 75, iv_c a1, iv_c 2147483648]) (by decide +kernel) (by decide) (by decide +kernel) (x_rb_of (by decide +kernel)) rfl rfl (x_wr (by decide) (x_wi la1 (x_wi (by decide) x_wn))) x_wn (by decide) rfl ?_
  refine x_iload (np := 1) (x := 1) (by decide +kernel) rfl la1 ?_
  refine x_const (np := 2) (x := 9223372039002259456) (a := 2147483648) (by decide +kernel) (by decide) (by decide) ?_
  refine x_aload (np := 3) (x := 0) (by decide +kernel) rfl (x_nc_le (by decide)) ?_
  have q5 : h1 75 1 = 76 := by have z := jB (e := 1) 0 j2 rg_75_1_0_1 (by decide) (by decide); omega
  refine x_getR (np := 6) (x := 705) (f := 1) (q := 76) (by decide +kernel) (by decide) (by decide +kernel) q5 ?_
  refine x_iload (np := 7) (x := 2) (by decide +kernel) rfl (by decide) ?_
  have q6 : h1 76 0 = h 76 0 := by rw [← e3]; exact x_up_k (by decide)
  have b7 := jB (e := 0) 0 hJ rg_76_0_0_1 (by first | decide | omega) (by first | decide | omega)
  refine x_aldC (np := 8) (x := 0) (n := 1952) (i := 0) (q := (h 76 0)) (by decide +kernel) (by decide +kernel) (by first | decide | omega) (by first | decide | omega) (by decide) q6 (fun l8 => ?_)
  refine x_const (np := 9) (x := 9223372043297226753) (a := 2147483649) (by decide +kernel) (by decide) (by decide) ?_
  obtain ⟨v9, q10⟩ : ∃ z, z + 2147483649 = (h 76 0) + 2147483648 := ⟨(h 76 0) + 2147483648 - 2147483649, by first | decide | omega⟩
  refine x_isub (np := 10) (x := 0) (v := v9) (by decide +kernel) l8 (by decide) (by first | decide | omega) (by first | decide | omega) ?_
  refine x_nI (t := 0) (mj := 153) (n := 3) (rc := 0) (ml := 3) (nr := 0) (np := 13) (as := [iv_c a1, iv_c 2147483648, iv_c v9]) (rest := []) (lo1 := [iv_c a1, iv_c 2147483648, iv_c v9]) (by decide +kernel) (by decide) (by decide +kernel) (Or.inl rfl) rfl rfl (x_wi la1 (x_wi (by decide) (x_wi (by first | decide | omega) x_wn))) x_wn (by decide) rfl ?_
  refine x_iload (np := 1) (x := 0) (by decide +kernel) rfl la1 ?_
  refine x_iload (np := 2) (x := 1) (by decide +kernel) rfl (by decide) ?_
  refine x_icmp (k := 2) (tg := 14) (np := 5) (by decide +kernel) (by decide) la1 (by decide) (fun q11 => ?_) (fun q12 => ?_)
  · have q11 : a1 < 2147483648 := q11
    refine x_const (np := 15) (x := 9223372039002259456) (a := 2147483648) (by decide +kernel) (by decide) (by decide) ?_
    refine x_retI (np := 16) (x := 0) (by decide +kernel) (by decide) (Or.inr ⟨by decide +kernel, by first | decide | omega, by first | decide | omega⟩) ⟨_, rfl, (by decide), ?_⟩
    refine x_ifz (k := 1) (tg := 20) (np := 16) (by decide +kernel) (by decide) (by decide) (fun q13 => ?_) (fun q14 => ?_)
    · have q13 : 2147483648 ≠ 2147483648 := q13
      exfalso; omega
    have q14 : ¬ (2147483648 ≠ 2147483648) := q14
    refine x_const (np := 17) (x := 9223372043297226753) (a := 2147483649) (by decide +kernel) (by decide) (by decide) ?_
    refine x_goto (np := 20) (x := 21) (by decide +kernel) ?_
    refine x_retI (np := 22) (x := 0) (by decide +kernel) (by decide) (Or.inr ⟨by decide +kernel, by first | decide | omega, by first | decide | omega⟩) ⟨_, rfl, (by decide), ?_⟩
    refine x_retI (np := 7) (x := 0) (by decide +kernel) (by decide) (Or.inr ⟨by decide +kernel, by first | decide | omega, by first | decide | omega⟩) ⟨_, rfl, (by decide), ?_⟩
    refine x_ifz (k := 1) (tg := 21) (np := 14) (by decide +kernel) (by decide) (by decide) (fun q15 => ?_) (fun q16 => ?_)
    · have q15 : 2147483649 ≠ 2147483648 := q15
      refine x_const (np := 22) (x := 9223372043297226753) (a := 2147483649) (by decide +kernel) (by decide) (by decide) ?_
      refine x_goto (np := 25) (x := 26) (by decide +kernel) ?_
      refine x_const (np := 27) (x := 9223372043297226753) (a := 2147483649) (by decide +kernel) (by decide) (by decide) ?_
      refine x_nI (t := 6) (mj := 152) (n := 3) (rc := 12) (ml := 3) (nr := 0) (np := 30) (as := [x_r 75, iv_c 2147483649, iv_c 2147483649]) (rest := []) (lo1 := [x_r 75, iv_c 2147483649, iv_c 2147483649]) (by decide +kernel) (by decide) (by decide +kernel) (x_rb_of (by decide +kernel)) rfl rfl (x_wr (by decide) (x_wi (by decide) (x_wi (by decide) x_wn))) x_wn (by decide) rfl ?_
      refine x_iload (np := 1) (x := 1) (by decide +kernel) rfl (by decide) ?_
      refine x_ifz (k := 0) (tg := 9) (np := 4) (by decide +kernel) (by decide) (by decide) (fun q17 => ?_) (fun q18 => ?_)
      · have q17 : 2147483649 = 2147483648 := q17
        exfalso; omega
      have q18 : ¬ (2147483649 = 2147483648) := q18
      refine x_aload (np := 5) (x := 0) (by decide +kernel) rfl (x_nc_le (by decide)) ?_
      refine x_iload (np := 6) (x := 2) (by decide +kernel) rfl (by decide) ?_
      refine x_putI (np := 9) (x := 704) (f := 0) (by decide +kernel) (by decide +kernel) (by decide) (Or.inl (by decide)) ?_
      have j20 := jU (e := 0) (v := 2147483649) 0 j2 rg_75_0_0_1 (by first | decide | omega) (by first | decide | omega) (by first | decide | omega)
      have f22 := jF (e := 0) (v := 2147483649) 0 f4 rg_75_0_0_1 (by first | decide | omega) (by first | decide | omega) (by decide)
      generalize e21 : x_up h1 75 0 2147483649 = h19 at j20 f22 ⊢
      refine x_iload (np := 10) (x := 1) (by decide +kernel) rfl (by decide) ?_
      refine x_retI (np := 11) (x := 0) (by decide +kernel) (by decide) (Or.inr ⟨by decide +kernel, by first | decide | omega, by first | decide | omega⟩) ⟨_, rfl, (by decide), ?_⟩
      refine x_ifz (k := 0) (tg := 35) (np := 33) (by decide +kernel) (by decide) (by decide) (fun q23 => ?_) (fun q24 => ?_)
      · have q23 : 2147483649 = 2147483648 := q23
        exfalso; omega
      have q24 : ¬ (2147483649 = 2147483648) := q24
      refine x_const (np := 34) (x := 9223372039002259456) (a := 2147483648) (by decide +kernel) (by decide) (by decide) ?_
      refine x_retI (np := 35) (x := 0) (by decide +kernel) (by decide) (Or.inl (by decide +kernel)) ⟨_, rfl, (by decide), ?_⟩
      exact ⟨j20, f22, (by first | decide | omega)⟩
    have q16 : ¬ (2147483649 ≠ 2147483648) := q16
    exfalso; omega
  have q12 : ¬ (a1 < 2147483648) := q12
  refine x_iload (np := 6) (x := 0) (by decide +kernel) rfl la1 ?_
  refine x_iload (np := 7) (x := 2) (by decide +kernel) rfl (by first | decide | omega) ?_
  refine x_icmp (k := 4) (tg := 14) (np := 10) (by decide +kernel) (by decide) la1 (by first | decide | omega) (fun q25 => ?_) (fun q26 => ?_)
  · have q25 : v9 < a1 := q25
    refine x_const (np := 15) (x := 9223372039002259456) (a := 2147483648) (by decide +kernel) (by decide) (by decide) ?_
    refine x_retI (np := 16) (x := 0) (by decide +kernel) (by decide) (Or.inr ⟨by decide +kernel, by first | decide | omega, by first | decide | omega⟩) ⟨_, rfl, (by decide), ?_⟩
    refine x_ifz (k := 1) (tg := 20) (np := 16) (by decide +kernel) (by decide) (by decide) (fun q27 => ?_) (fun q28 => ?_)
    · have q27 : 2147483648 ≠ 2147483648 := q27
      exfalso; omega
    have q28 : ¬ (2147483648 ≠ 2147483648) := q28
    refine x_const (np := 17) (x := 9223372043297226753) (a := 2147483649) (by decide +kernel) (by decide) (by decide) ?_
    refine x_goto (np := 20) (x := 21) (by decide +kernel) ?_
    refine x_retI (np := 22) (x := 0) (by decide +kernel) (by decide) (Or.inr ⟨by decide +kernel, by first | decide | omega, by first | decide | omega⟩) ⟨_, rfl, (by decide), ?_⟩
    refine x_retI (np := 7) (x := 0) (by decide +kernel) (by decide) (Or.inr ⟨by decide +kernel, by first | decide | omega, by first | decide | omega⟩) ⟨_, rfl, (by decide), ?_⟩
    refine x_ifz (k := 1) (tg := 21) (np := 14) (by decide +kernel) (by decide) (by decide) (fun q29 => ?_) (fun q30 => ?_)
    · have q29 : 2147483649 ≠ 2147483648 := q29
      refine x_const (np := 22) (x := 9223372043297226753) (a := 2147483649) (by decide +kernel) (by decide) (by decide) ?_
      refine x_goto (np := 25) (x := 26) (by decide +kernel) ?_
      refine x_const (np := 27) (x := 9223372043297226753) (a := 2147483649) (by decide +kernel) (by decide) (by decide) ?_
      refine x_nI (t := 6) (mj := 152) (n := 3) (rc := 12) (ml := 3) (nr := 0) (np := 30) (as := [x_r 75, iv_c 2147483649, iv_c 2147483649]) (rest := []) (lo1 := [x_r 75, iv_c 2147483649, iv_c 2147483649]) (by decide +kernel) (by decide) (by decide +kernel) (x_rb_of (by decide +kernel)) rfl rfl (x_wr (by decide) (x_wi (by decide) (x_wi (by decide) x_wn))) x_wn (by decide) rfl ?_
      refine x_iload (np := 1) (x := 1) (by decide +kernel) rfl (by decide) ?_
      refine x_ifz (k := 0) (tg := 9) (np := 4) (by decide +kernel) (by decide) (by decide) (fun q31 => ?_) (fun q32 => ?_)
      · have q31 : 2147483649 = 2147483648 := q31
        exfalso; omega
      have q32 : ¬ (2147483649 = 2147483648) := q32
      refine x_aload (np := 5) (x := 0) (by decide +kernel) rfl (x_nc_le (by decide)) ?_
      refine x_iload (np := 6) (x := 2) (by decide +kernel) rfl (by decide) ?_
      refine x_putI (np := 9) (x := 704) (f := 0) (by decide +kernel) (by decide +kernel) (by decide) (Or.inl (by decide)) ?_
      have j34 := jU (e := 0) (v := 2147483649) 0 j2 rg_75_0_0_1 (by first | decide | omega) (by first | decide | omega) (by first | decide | omega)
      have f36 := jF (e := 0) (v := 2147483649) 0 f4 rg_75_0_0_1 (by first | decide | omega) (by first | decide | omega) (by decide)
      generalize e35 : x_up h1 75 0 2147483649 = h33 at j34 f36 ⊢
      refine x_iload (np := 10) (x := 1) (by decide +kernel) rfl (by decide) ?_
      refine x_retI (np := 11) (x := 0) (by decide +kernel) (by decide) (Or.inr ⟨by decide +kernel, by first | decide | omega, by first | decide | omega⟩) ⟨_, rfl, (by decide), ?_⟩
      refine x_ifz (k := 0) (tg := 35) (np := 33) (by decide +kernel) (by decide) (by decide) (fun q37 => ?_) (fun q38 => ?_)
      · have q37 : 2147483649 = 2147483648 := q37
        exfalso; omega
      have q38 : ¬ (2147483649 = 2147483648) := q38
      refine x_const (np := 34) (x := 9223372039002259456) (a := 2147483648) (by decide +kernel) (by decide) (by decide) ?_
      refine x_retI (np := 35) (x := 0) (by decide +kernel) (by decide) (Or.inl (by decide +kernel)) ⟨_, rfl, (by decide), ?_⟩
      exact ⟨j34, f36, (by first | decide | omega)⟩
    have q30 : ¬ (2147483649 ≠ 2147483648) := q30
    exfalso; omega
  have q26 : ¬ (v9 < a1) := q26
  refine x_const (np := 11) (x := 9223372043297226753) (a := 2147483649) (by decide +kernel) (by decide) (by decide) ?_
  refine x_goto (np := 14) (x := 15) (by decide +kernel) ?_
  refine x_retI (np := 16) (x := 0) (by decide +kernel) (by decide) (Or.inr ⟨by decide +kernel, by first | decide | omega, by first | decide | omega⟩) ⟨_, rfl, (by decide), ?_⟩
  refine x_ifz (k := 1) (tg := 20) (np := 16) (by decide +kernel) (by decide) (by decide) (fun q39 => ?_) (fun q40 => ?_)
  · have q39 : 2147483649 ≠ 2147483648 := q39
    refine x_const (np := 21) (x := 9223372039002259456) (a := 2147483648) (by decide +kernel) (by decide) (by decide) ?_
    refine x_retI (np := 22) (x := 0) (by decide +kernel) (by decide) (Or.inr ⟨by decide +kernel, by first | decide | omega, by first | decide | omega⟩) ⟨_, rfl, (by decide), ?_⟩
    refine x_retI (np := 7) (x := 0) (by decide +kernel) (by decide) (Or.inr ⟨by decide +kernel, by first | decide | omega, by first | decide | omega⟩) ⟨_, rfl, (by decide), ?_⟩
    refine x_ifz (k := 1) (tg := 21) (np := 14) (by decide +kernel) (by decide) (by decide) (fun q41 => ?_) (fun q42 => ?_)
    · have q41 : 2147483648 ≠ 2147483648 := q41
      exfalso; omega
    have q42 : ¬ (2147483648 ≠ 2147483648) := q42
    refine x_iload (np := 15) (x := 2) (by decide +kernel) rfl la2 ?_
    refine x_nI (t := 0) (mj := 160) (n := 1) (rc := 0) (ml := 1) (nr := 1) (np := 18) (as := [iv_c a2]) (rest := [x_r 75]) (lo1 := [iv_c a2]) (by decide +kernel) (by decide) (by decide +kernel) (Or.inl rfl) rfl rfl (x_wi la2 x_wn) (x_wr (by decide) x_wn) (by decide) rfl ?_
    refine x_iload (np := 1) (x := 0) (by decide +kernel) rfl la2 ?_
    refine x_const (np := 2) (x := 9223372039002259456) (a := 2147483648) (by decide +kernel) (by decide) (by decide) ?_
    refine x_const (np := 4) (x := 9223372086246899723) (a := 2147483659) (by decide +kernel) (by decide) (by decide) ?_
    refine x_nI (t := 0) (mj := 153) (n := 3) (rc := 0) (ml := 3) (nr := 0) (np := 7) (as := [iv_c a2, iv_c 2147483648, iv_c 2147483659]) (rest := []) (lo1 := [iv_c a2, iv_c 2147483648, iv_c 2147483659]) (by decide +kernel) (by decide) (by decide +kernel) (Or.inl rfl) rfl rfl (x_wi la2 (x_wi (by decide) (x_wi (by decide) x_wn))) x_wn (by decide) rfl ?_
    refine x_iload (np := 1) (x := 0) (by decide +kernel) rfl la2 ?_
    refine x_iload (np := 2) (x := 1) (by decide +kernel) rfl (by decide) ?_
    refine x_icmp (k := 2) (tg := 14) (np := 5) (by decide +kernel) (by decide) la2 (by decide) (fun q43 => ?_) (fun q44 => ?_)
    · have q43 : a2 < 2147483648 := q43
      refine x_const (np := 15) (x := 9223372039002259456) (a := 2147483648) (by decide +kernel) (by decide) (by decide) ?_
      refine x_retI (np := 16) (x := 0) (by decide +kernel) (by decide) (Or.inr ⟨by decide +kernel, by first | decide | omega, by first | decide | omega⟩) ⟨_, rfl, (by decide), ?_⟩
      refine x_ifz (k := 1) (tg := 14) (np := 10) (by decide +kernel) (by decide) (by decide) (fun q45 => ?_) (fun q46 => ?_)
      · have q45 : 2147483648 ≠ 2147483648 := q45
        exfalso; omega
      have q46 : ¬ (2147483648 ≠ 2147483648) := q46
      refine x_const (np := 11) (x := 9223372043297226753) (a := 2147483649) (by decide +kernel) (by decide) (by decide) ?_
      refine x_goto (np := 14) (x := 15) (by decide +kernel) ?_
      refine x_retI (np := 16) (x := 0) (by decide +kernel) (by decide) (Or.inr ⟨by decide +kernel, by first | decide | omega, by first | decide | omega⟩) ⟨_, rfl, (by decide), ?_⟩
      refine x_ifz (k := 0) (tg := 25) (np := 21) (by decide +kernel) (by decide) (by decide) (fun q47 => ?_) (fun q48 => ?_)
      · have q47 : 2147483649 = 2147483648 := q47
        exfalso; omega
      have q48 : ¬ (2147483649 = 2147483648) := q48
      refine x_const (np := 22) (x := 9223372043297226753) (a := 2147483649) (by decide +kernel) (by decide) (by decide) ?_
      refine x_goto (np := 25) (x := 26) (by decide +kernel) ?_
      refine x_const (np := 27) (x := 9223372043297226753) (a := 2147483649) (by decide +kernel) (by decide) (by decide) ?_
      refine x_nI (t := 6) (mj := 152) (n := 3) (rc := 12) (ml := 3) (nr := 0) (np := 30) (as := [x_r 75, iv_c 2147483649, iv_c 2147483649]) (rest := []) (lo1 := [x_r 75, iv_c 2147483649, iv_c 2147483649]) (by decide +kernel) (by decide) (by decide +kernel) (x_rb_of (by decide +kernel)) rfl rfl (x_wr (by decide) (x_wi (by decide) (x_wi (by decide) x_wn))) x_wn (by decide) rfl ?_
      refine x_iload (np := 1) (x := 1) (by decide +kernel) rfl (by decide) ?_
      refine x_ifz (k := 0) (tg := 9) (np := 4) (by decide +kernel) (by decide) (by decide) (fun q49 => ?_) (fun q50 => ?_)
      · have q49 : 2147483649 = 2147483648 := q49
        exfalso; omega
      have q50 : ¬ (2147483649 = 2147483648) := q50
      refine x_aload (np := 5) (x := 0) (by decide +kernel) rfl (x_nc_le (by decide)) ?_
      refine x_iload (np := 6) (x := 2) (by decide +kernel) rfl (by decide) ?_
      refine x_putI (np := 9) (x := 704) (f := 0) (by decide +kernel) (by decide +kernel) (by decide) (Or.inl (by decide)) ?_
      have j52 := jU (e := 0) (v := 2147483649) 0 j2 rg_75_0_0_1 (by first | decide | omega) (by first | decide | omega) (by first | decide | omega)
      have f54 := jF (e := 0) (v := 2147483649) 0 f4 rg_75_0_0_1 (by first | decide | omega) (by first | decide | omega) (by decide)
      generalize e53 : x_up h1 75 0 2147483649 = h51 at j52 f54 ⊢
      refine x_iload (np := 10) (x := 1) (by decide +kernel) rfl (by decide) ?_
      refine x_retI (np := 11) (x := 0) (by decide +kernel) (by decide) (Or.inr ⟨by decide +kernel, by first | decide | omega, by first | decide | omega⟩) ⟨_, rfl, (by decide), ?_⟩
      refine x_ifz (k := 0) (tg := 35) (np := 33) (by decide +kernel) (by decide) (by decide) (fun q55 => ?_) (fun q56 => ?_)
      · have q55 : 2147483649 = 2147483648 := q55
        exfalso; omega
      have q56 : ¬ (2147483649 = 2147483648) := q56
      refine x_const (np := 34) (x := 9223372039002259456) (a := 2147483648) (by decide +kernel) (by decide) (by decide) ?_
      refine x_retI (np := 35) (x := 0) (by decide +kernel) (by decide) (Or.inl (by decide +kernel)) ⟨_, rfl, (by decide), ?_⟩
      exact ⟨j52, f54, (by first | decide | omega)⟩
    have q44 : ¬ (a2 < 2147483648) := q44
    refine x_iload (np := 6) (x := 0) (by decide +kernel) rfl la2 ?_
    refine x_iload (np := 7) (x := 2) (by decide +kernel) rfl (by decide) ?_
    refine x_icmp (k := 4) (tg := 14) (np := 10) (by decide +kernel) (by decide) la2 (by decide) (fun q57 => ?_) (fun q58 => ?_)
    · have q57 : 2147483659 < a2 := q57
      refine x_const (np := 15) (x := 9223372039002259456) (a := 2147483648) (by decide +kernel) (by decide) (by decide) ?_
      refine x_retI (np := 16) (x := 0) (by decide +kernel) (by decide) (Or.inr ⟨by decide +kernel, by first | decide | omega, by first | decide | omega⟩) ⟨_, rfl, (by decide), ?_⟩
      refine x_ifz (k := 1) (tg := 14) (np := 10) (by decide +kernel) (by decide) (by decide) (fun q59 => ?_) (fun q60 => ?_)
      · have q59 : 2147483648 ≠ 2147483648 := q59
        exfalso; omega
      have q60 : ¬ (2147483648 ≠ 2147483648) := q60
      refine x_const (np := 11) (x := 9223372043297226753) (a := 2147483649) (by decide +kernel) (by decide) (by decide) ?_
      refine x_goto (np := 14) (x := 15) (by decide +kernel) ?_
      refine x_retI (np := 16) (x := 0) (by decide +kernel) (by decide) (Or.inr ⟨by decide +kernel, by first | decide | omega, by first | decide | omega⟩) ⟨_, rfl, (by decide), ?_⟩
      refine x_ifz (k := 0) (tg := 25) (np := 21) (by decide +kernel) (by decide) (by decide) (fun q61 => ?_) (fun q62 => ?_)
      · have q61 : 2147483649 = 2147483648 := q61
        exfalso; omega
      have q62 : ¬ (2147483649 = 2147483648) := q62
      refine x_const (np := 22) (x := 9223372043297226753) (a := 2147483649) (by decide +kernel) (by decide) (by decide) ?_
      refine x_goto (np := 25) (x := 26) (by decide +kernel) ?_
      refine x_const (np := 27) (x := 9223372043297226753) (a := 2147483649) (by decide +kernel) (by decide) (by decide) ?_
      refine x_nI (t := 6) (mj := 152) (n := 3) (rc := 12) (ml := 3) (nr := 0) (np := 30) (as := [x_r 75, iv_c 2147483649, iv_c 2147483649]) (rest := []) (lo1 := [x_r 75, iv_c 2147483649, iv_c 2147483649]) (by decide +kernel) (by decide) (by decide +kernel) (x_rb_of (by decide +kernel)) rfl rfl (x_wr (by decide) (x_wi (by decide) (x_wi (by decide) x_wn))) x_wn (by decide) rfl ?_
      refine x_iload (np := 1) (x := 1) (by decide +kernel) rfl (by decide) ?_
      refine x_ifz (k := 0) (tg := 9) (np := 4) (by decide +kernel) (by decide) (by decide) (fun q63 => ?_) (fun q64 => ?_)
      · have q63 : 2147483649 = 2147483648 := q63
        exfalso; omega
      have q64 : ¬ (2147483649 = 2147483648) := q64
      refine x_aload (np := 5) (x := 0) (by decide +kernel) rfl (x_nc_le (by decide)) ?_
      refine x_iload (np := 6) (x := 2) (by decide +kernel) rfl (by decide) ?_
      refine x_putI (np := 9) (x := 704) (f := 0) (by decide +kernel) (by decide +kernel) (by decide) (Or.inl (by decide)) ?_
      have j66 := jU (e := 0) (v := 2147483649) 0 j2 rg_75_0_0_1 (by first | decide | omega) (by first | decide | omega) (by first | decide | omega)
      have f68 := jF (e := 0) (v := 2147483649) 0 f4 rg_75_0_0_1 (by first | decide | omega) (by first | decide | omega) (by decide)
      generalize e67 : x_up h1 75 0 2147483649 = h65 at j66 f68 ⊢
      refine x_iload (np := 10) (x := 1) (by decide +kernel) rfl (by decide) ?_
      refine x_retI (np := 11) (x := 0) (by decide +kernel) (by decide) (Or.inr ⟨by decide +kernel, by first | decide | omega, by first | decide | omega⟩) ⟨_, rfl, (by decide), ?_⟩
      refine x_ifz (k := 0) (tg := 35) (np := 33) (by decide +kernel) (by decide) (by decide) (fun q69 => ?_) (fun q70 => ?_)
      · have q69 : 2147483649 = 2147483648 := q69
        exfalso; omega
      have q70 : ¬ (2147483649 = 2147483648) := q70
      refine x_const (np := 34) (x := 9223372039002259456) (a := 2147483648) (by decide +kernel) (by decide) (by decide) ?_
      refine x_retI (np := 35) (x := 0) (by decide +kernel) (by decide) (Or.inl (by decide +kernel)) ⟨_, rfl, (by decide), ?_⟩
      exact ⟨j66, f68, (by first | decide | omega)⟩
    have q58 : ¬ (2147483659 < a2) := q58
    refine x_const (np := 11) (x := 9223372043297226753) (a := 2147483649) (by decide +kernel) (by decide) (by decide) ?_
    refine x_goto (np := 14) (x := 15) (by decide +kernel) ?_
    refine x_retI (np := 16) (x := 0) (by decide +kernel) (by decide) (Or.inr ⟨by decide +kernel, by first | decide | omega, by first | decide | omega⟩) ⟨_, rfl, (by decide), ?_⟩
    refine x_ifz (k := 1) (tg := 14) (np := 10) (by decide +kernel) (by decide) (by decide) (fun q71 => ?_) (fun q72 => ?_)
    · have q71 : 2147483649 ≠ 2147483648 := q71
      refine x_const (np := 15) (x := 9223372039002259456) (a := 2147483648) (by decide +kernel) (by decide) (by decide) ?_
      refine x_retI (np := 16) (x := 0) (by decide +kernel) (by decide) (Or.inr ⟨by decide +kernel, by first | decide | omega, by first | decide | omega⟩) ⟨_, rfl, (by decide), ?_⟩
      refine x_ifz (k := 0) (tg := 25) (np := 21) (by decide +kernel) (by decide) (by decide) (fun q73 => ?_) (fun q74 => ?_)
      · have q73 : 2147483648 = 2147483648 := q73
        refine x_const (np := 26) (x := 9223372039002259456) (a := 2147483648) (by decide +kernel) (by decide) (by decide) ?_
        refine x_const (np := 27) (x := 9223372043297226753) (a := 2147483649) (by decide +kernel) (by decide) (by decide) ?_
        refine x_nI (t := 6) (mj := 152) (n := 3) (rc := 12) (ml := 3) (nr := 0) (np := 30) (as := [x_r 75, iv_c 2147483648, iv_c 2147483649]) (rest := []) (lo1 := [x_r 75, iv_c 2147483648, iv_c 2147483649]) (by decide +kernel) (by decide) (by decide +kernel) (x_rb_of (by decide +kernel)) rfl rfl (x_wr (by decide) (x_wi (by decide) (x_wi (by decide) x_wn))) x_wn (by decide) rfl ?_
        refine x_iload (np := 1) (x := 1) (by decide +kernel) rfl (by decide) ?_
        refine x_ifz (k := 0) (tg := 9) (np := 4) (by decide +kernel) (by decide) (by decide) (fun q75 => ?_) (fun q76 => ?_)
        · have q75 : 2147483648 = 2147483648 := q75
          refine x_iload (np := 10) (x := 1) (by decide +kernel) rfl (by decide) ?_
          refine x_retI (np := 11) (x := 0) (by decide +kernel) (by decide) (Or.inr ⟨by decide +kernel, by first | decide | omega, by first | decide | omega⟩) ⟨_, rfl, (by decide), ?_⟩
          refine x_ifz (k := 0) (tg := 35) (np := 33) (by decide +kernel) (by decide) (by decide) (fun q77 => ?_) (fun q78 => ?_)
          · have q77 : 2147483648 = 2147483648 := q77
            refine x_aload (np := 36) (x := 0) (by decide +kernel) rfl (x_nc_le (by decide)) ?_
            have m82 : WT 76 h1 := by rw [← e3]; exact WT.oth hW hJ (by decide)
            refine x_cV (t := 6) (mj := 210) (n := 1) (rc := 12) (ml := 5) (nr := 0) (np := 39) (as := [x_r 75]) (rest := []) (lo1 := [x_r 75, 147573952589676412928, 147573952589676412928, 147573952589676412928, 147573952589676412928]) (by decide +kernel) (by decide) (by decide +kernel) (x_rb_of (by decide +kernel)) rfl rfl (x_wr (by decide) x_wn) x_wn (by decide) rfl (c210_75 j2  m82) (fun h83 q81 => ?_)
            obtain ⟨j84, f85⟩ := q81
            have f88 := Fr.trans f4 f85 (by decide)
            refine x_const (np := 41) (x := 9223372090541867020) (a := 2147483660) (by decide +kernel) (by decide) (by decide) ?_
            refine x_iload (np := 42) (x := 1) (by decide +kernel) rfl la1 ?_
            obtain ⟨u89, q90⟩ : ∃ z, a1 = 2147483648 + z := ⟨a1 - 2147483648, by first | decide | omega⟩
            refine x_imul (np := 43) (x := 0) (i := 12) (j := u89) (v := (2147483648 + 12 * u89)) (by decide +kernel) (by first | decide | omega) (by first | decide | omega) (by first | decide | omega) (by first | decide | omega) (by decide) la1 ?_
            refine x_iload (np := 44) (x := 2) (by decide +kernel) rfl la2 ?_
            refine x_iadd (np := 45) (x := 0) (v := (12 * u89 + a2)) (by decide +kernel) (by first | decide | omega) la2 (by first | decide | omega) (by first | decide | omega) ?_
            refine x_istore (np := 47) (x := 4) (lo' := [x_r 75, iv_c a1, iv_c a2, iv_c a3, iv_c (12 * u89 + a2)]) (by decide +kernel) (by first | decide | omega) (Nat.le_of_ble_eq_true rfl) rfl ?_
            refine x_iload (np := 48) (x := 3) (by decide +kernel) rfl la3 ?_
            refine x_ifz (k := 1) (tg := 55) (np := 51) (by decide +kernel) (by decide) la3 (fun q92 => ?_) (fun q93 => ?_)
            · have q92 : a3 ≠ 2147483648 := q92
              refine x_iload (np := 56) (x := 3) (by decide +kernel) rfl la3 ?_
              refine x_const (np := 57) (x := 9223372043297226753) (a := 2147483649) (by decide +kernel) (by decide) (by decide) ?_
              refine x_aload (np := 58) (x := 0) (by decide +kernel) rfl (x_nc_le (by decide)) ?_
              have q94 : h83 75 18 = 85 := by have z := jB (e := 18) 0 j84 rg_75_18_0_1 (by decide) (by decide); omega
              refine x_getR (np := 61) (x := 722) (f := 18) (q := 85) (by decide +kernel) (by decide) (by decide +kernel) q94 ?_
              refine x_iload (np := 63) (x := 4) (by decide +kernel) rfl (by first | decide | omega) ?_
              obtain ⟨u95, q96⟩ : ∃ z, a2 = 2147483648 + z := ⟨a2 - 2147483648, by first | decide | omega⟩
              have b97 := jB (e := (12 * u89 + u95)) (12 * u89 + u95) j84 rg_85_0_1_72 (by first | decide | omega) (by first | decide | omega)
              refine x_aldC (np := 64) (x := 0) (n := 72) (i := (12 * u89 + u95)) (q := ((h83 85 (12 * u89 + u95)))) (by decide +kernel) (by decide +kernel) (by first | decide | omega) (by first | decide | omega) (by decide) rfl (fun l98 => ?_)
              refine x_nI (t := 0) (mj := 153) (n := 3) (rc := 0) (ml := 3) (nr := 0) (np := 67) (as := [iv_c a3, iv_c 2147483649, iv_c ((h83 85 (12 * u89 + u95)))]) (rest := []) (lo1 := [iv_c a3, iv_c 2147483649, iv_c ((h83 85 (12 * u89 + u95)))]) (by decide +kernel) (by decide) (by decide +kernel) (Or.inl rfl) rfl rfl (x_wi la3 (x_wi (by decide) (x_wi l98 x_wn))) x_wn (by decide) rfl ?_
              refine x_iload (np := 1) (x := 0) (by decide +kernel) rfl la3 ?_
              refine x_iload (np := 2) (x := 1) (by decide +kernel) rfl (by decide) ?_
              refine x_icmp (k := 2) (tg := 14) (np := 5) (by decide +kernel) (by decide) la3 (by decide) (fun q99 => ?_) (fun q100 => ?_)
              · have q99 : a3 < 2147483649 := q99
                refine x_const (np := 15) (x := 9223372039002259456) (a := 2147483648) (by decide +kernel) (by decide) (by decide) ?_
                refine x_retI (np := 16) (x := 0) (by decide +kernel) (by decide) (Or.inr ⟨by decide +kernel, by first | decide | omega, by first | decide | omega⟩) ⟨_, rfl, (by decide), ?_⟩
                refine x_ifz (k := 0) (tg := 92) (np := 70) (by decide +kernel) (by decide) (by decide) (fun q101 => ?_) (fun q102 => ?_)
                · have q101 : 2147483648 = 2147483648 := q101
                  refine x_const (np := 93) (x := 9223372034707292159) (a := 2147483647) (by decide +kernel) (by decide) (by decide) ?_
                  refine x_retI (np := 94) (x := 0) (by decide +kernel) (by decide) (Or.inl (by decide +kernel)) ⟨_, rfl, (by decide), ?_⟩
                  exact ⟨j84, f88, (by first | decide | omega)⟩
                have q102 : ¬ (2147483648 = 2147483648) := q102
                exfalso; omega
              have q100 : ¬ (a3 < 2147483649) := q100
              refine x_iload (np := 6) (x := 0) (by decide +kernel) rfl la3 ?_
              refine x_iload (np := 7) (x := 2) (by decide +kernel) rfl l98 ?_
              refine x_icmp (k := 4) (tg := 14) (np := 10) (by decide +kernel) (by decide) la3 l98 (fun q103 => ?_) (fun q104 => ?_)
              · have q103 : ((h83 85 (12 * u89 + u95))) < a3 := q103
                refine x_const (np := 15) (x := 9223372039002259456) (a := 2147483648) (by decide +kernel) (by decide) (by decide) ?_
                refine x_retI (np := 16) (x := 0) (by decide +kernel) (by decide) (Or.inr ⟨by decide +kernel, by first | decide | omega, by first | decide | omega⟩) ⟨_, rfl, (by decide), ?_⟩
                refine x_ifz (k := 0) (tg := 92) (np := 70) (by decide +kernel) (by decide) (by decide) (fun q105 => ?_) (fun q106 => ?_)
                · have q105 : 2147483648 = 2147483648 := q105
                  refine x_const (np := 93) (x := 9223372034707292159) (a := 2147483647) (by decide +kernel) (by decide) (by decide) ?_
                  refine x_retI (np := 94) (x := 0) (by decide +kernel) (by decide) (Or.inl (by decide +kernel)) ⟨_, rfl, (by decide), ?_⟩
                  exact ⟨j84, f88, (by first | decide | omega)⟩
                have q106 : ¬ (2147483648 = 2147483648) := q106
                exfalso; omega
              have q104 : ¬ (((h83 85 (12 * u89 + u95))) < a3) := q104
              refine x_const (np := 11) (x := 9223372043297226753) (a := 2147483649) (by decide +kernel) (by decide) (by decide) ?_
              refine x_goto (np := 14) (x := 15) (by decide +kernel) ?_
              refine x_retI (np := 16) (x := 0) (by decide +kernel) (by decide) (Or.inr ⟨by decide +kernel, by first | decide | omega, by first | decide | omega⟩) ⟨_, rfl, (by decide), ?_⟩
              refine x_ifz (k := 0) (tg := 92) (np := 70) (by decide +kernel) (by decide) (by decide) (fun q107 => ?_) (fun q108 => ?_)
              · have q107 : 2147483649 = 2147483648 := q107
                exfalso; omega
              have q108 : ¬ (2147483649 = 2147483648) := q108
              refine x_aload (np := 71) (x := 0) (by decide +kernel) rfl (x_nc_le (by decide)) ?_
              refine x_aload (np := 72) (x := 0) (by decide +kernel) rfl (x_nc_le (by decide)) ?_
              have q109 : h83 75 19 = 86 := by have z := jB (e := 19) 0 j84 rg_75_19_0_1 (by decide) (by decide); omega
              refine x_getR (np := 75) (x := 723) (f := 19) (q := 86) (by decide +kernel) (by decide) (by decide +kernel) q109 ?_
              refine x_const (np := 77) (x := 9223372124901605396) (a := 2147483668) (by decide +kernel) (by decide) (by decide) ?_
              refine x_iload (np := 79) (x := 4) (by decide +kernel) rfl (by first | decide | omega) ?_
              refine x_imul (np := 80) (x := 0) (i := 20) (j := (12 * u89 + u95)) (v := (2147483648 + 240 * u89 + 20 * u95)) (by decide +kernel) (by first | decide | omega) (by first | decide | omega) (by first | decide | omega) (by first | decide | omega) (by decide) (by first | decide | omega) ?_
              refine x_iload (np := 81) (x := 3) (by decide +kernel) rfl la3 ?_
              refine x_iadd (np := 82) (x := 0) (v := (240 * u89 + 20 * u95 + a3)) (by decide +kernel) (by first | decide | omega) la3 (by first | decide | omega) (by first | decide | omega) ?_
              refine x_const (np := 83) (x := 9223372043297226753) (a := 2147483649) (by decide +kernel) (by decide) (by decide) ?_
              obtain ⟨v111, q112⟩ : ∃ z, z + 2147483649 = (240 * u89 + 20 * u95 + a3) + 2147483648 := ⟨(240 * u89 + 20 * u95 + a3) + 2147483648 - 2147483649, by first | decide | omega⟩
              refine x_isub (np := 84) (x := 0) (v := v111) (by decide +kernel) (by first | decide | omega) (by decide) (by first | decide | omega) (by first | decide | omega) ?_
              obtain ⟨u113, q114⟩ : ∃ z, v111 = 2147483648 + z := ⟨v111 - 2147483648, by first | decide | omega⟩
              have b115 := jB (e := u113) u113 j84 rg_86_0_1_1440 (by first | decide | omega) (by first | decide | omega)
              refine x_aldC (np := 85) (x := 0) (n := 1440) (i := u113) (q := (h83 86 u113)) (by decide +kernel) (by decide +kernel) (by first | decide | omega) (by first | decide | omega) (by decide) rfl (fun l116 => ?_)
              refine x_const (np := 86) (x := 9223372043297226753) (a := 2147483649) (by decide +kernel) (by decide) (by decide) ?_
              refine x_nI (t := 6) (mj := 161) (n := 3) (rc := 12) (ml := 3) (nr := 0) (np := 89) (as := [x_r 75, iv_c (h83 86 u113), iv_c 2147483649]) (rest := []) (lo1 := [x_r 75, iv_c (h83 86 u113), iv_c 2147483649]) (by decide +kernel) (by decide) (by decide +kernel) (x_rb_of (by decide +kernel)) rfl rfl (x_wr (by decide) (x_wi l116 (x_wi (by decide) x_wn))) x_wn (by decide) rfl ?_
              refine x_aload (np := 1) (x := 0) (by decide +kernel) rfl (x_nc_le (by decide)) ?_
              have q117 : h83 75 1 = 76 := by have z := jB (e := 1) 0 j84 rg_75_1_0_1 (by decide) (by decide); omega
              refine x_getR (np := 4) (x := 705) (f := 1) (q := 76) (by decide +kernel) (by decide) (by decide +kernel) q117 ?_
              refine x_const (np := 6) (x := 9223372124901605396) (a := 2147483668) (by decide +kernel) (by decide) (by decide) ?_
              refine x_const (np := 8) (x := 9223372069067030535) (a := 2147483655) (by decide +kernel) (by decide) (by decide) ?_
              refine x_iload (np := 9) (x := 1) (by decide +kernel) rfl l116 ?_
              obtain ⟨u118, q119⟩ : ∃ z, (h83 86 u113) = 2147483648 + z := ⟨(h83 86 u113) - 2147483648, by first | decide | omega⟩
              refine x_imul (np := 10) (x := 0) (i := 7) (j := u118) (v := (2147483648 + 7 * u118)) (by decide +kernel) (by first | decide | omega) (by first | decide | omega) (by first | decide | omega) (by first | decide | omega) (by decide) l116 ?_
              refine x_iadd (np := 11) (x := 0) (v := (2147483668 + 7 * u118)) (by decide +kernel) (by decide) (by first | decide | omega) (by first | decide | omega) (by first | decide | omega) ?_
              refine x_iload (np := 12) (x := 2) (by decide +kernel) rfl (by decide) ?_
              refine x_iadd (np := 13) (x := 0) (v := (2147483669 + 7 * u118)) (by decide +kernel) (by first | decide | omega) (by decide) (by first | decide | omega) (by first | decide | omega) ?_
              have q121 : h83 76 (21 + 7 * u118) = h1 76 (21 + 7 * u118) := jK u118 f85 rg_76_21_7_20 (by first | decide | omega) (by first | decide | omega) (by decide)
              have q122 : h1 76 (21 + 7 * u118) = h 76 (21 + 7 * u118) := by rw [← e3]; exact x_up_k (by decide)
              have b123 := jB (e := (21 + 7 * u118)) u118 hJ rg_76_21_7_20 (by first | decide | omega) (by first | decide | omega)
              refine x_aldC (np := 14) (x := 0) (n := 1952) (i := (21 + 7 * u118)) (q := ((h 76 (21 + 7 * u118)))) (by decide +kernel) (by decide +kernel) (by first | decide | omega) (by first | decide | omega) (by decide) (q121.trans q122) (fun l124 => ?_)
              refine x_retI (np := 15) (x := 0) (by decide +kernel) l124 (Or.inl (by decide +kernel)) ⟨_, rfl, l124, ?_⟩
              refine x_goto (np := 92) (x := 93) (by decide +kernel) ?_
              refine x_retI (np := 94) (x := 0) (by decide +kernel) l124 (Or.inl (by decide +kernel)) ⟨_, rfl, l124, ?_⟩
              exact ⟨j84, f88, (by first | decide | omega)⟩
            have q93 : ¬ (a3 ≠ 2147483648) := q93
            refine x_iload (np := 52) (x := 1) (by decide +kernel) rfl la1 ?_
            refine x_goto (np := 55) (x := 93) (by decide +kernel) ?_
            refine x_retI (np := 94) (x := 0) (by decide +kernel) la1 (Or.inl (by decide +kernel)) ⟨_, rfl, la1, ?_⟩
            exact ⟨j84, f88, (by first | decide | omega)⟩
          have q78 : ¬ (2147483648 = 2147483648) := q78
          exfalso; omega
        have q76 : ¬ (2147483648 = 2147483648) := q76
        exfalso; omega
      have q74 : ¬ (2147483648 = 2147483648) := q74
      exfalso; omega
    have q72 : ¬ (2147483649 ≠ 2147483648) := q72
    exfalso; omega
  have q40 : ¬ (2147483649 ≠ 2147483648) := q40
  exfalso; omega
set_option maxHeartbeats 0 in
/-- LentNamesModel.borneBy(II)I -/
theorem c217_75 {sc : Nat × Nat} {d a1 a2 : Nat} {h : xh} (hJ : J h) (ba1 : 2147483648 ≤ a1 ∧ a1 ≤ 2147483653) (ba2 : 2147483648 ≤ a2 ∧ a2 ≤ 2147483659) : X sc 217 (d + 1) (xI fun r h' => h' = h ∧ (2147483647 ≤ r ∧ r ≤ 2147483653)) 0 0 0 [x_r 75, iv_c a1, iv_c a2] [] h := by
  have la1 : a1 < 4294967296 := by first | decide | omega
  have la2 : a2 < 4294967296 := by first | decide | omega
  refine x_aload (np := 1) (x := 0) (by decide +kernel) rfl (x_nc_le (by decide)) ?_
  have q1 : h 75 24 = 91 := by have z := jB (e := 24) 0 hJ rg_75_24_0_1 (by decide) (by decide); omega
  refine x_getR (np := 4) (x := 728) (f := 24) (q := 91) (by decide +kernel) (by decide) (by decide +kernel) q1 ?_
  refine x_const (np := 6) (x := 9223372090541867020) (a := 2147483660) (by decide +kernel) (by decide) (by decide) ?_
  refine x_iload (np := 7) (x := 1) (by decide +kernel) rfl la1 ?_
  obtain ⟨u2, q3⟩ : ∃ z, a1 = 2147483648 + z := ⟨a1 - 2147483648, by first | decide | omega⟩
  refine x_imul (np := 8) (x := 0) (i := 12) (j := u2) (v := (2147483648 + 12 * u2)) (by decide +kernel) (by first | decide | omega) (by first | decide | omega) (by first | decide | omega) (by first | decide | omega) (by decide) la1 ?_
  refine x_iload (np := 9) (x := 2) (by decide +kernel) rfl la2 ?_
  refine x_iadd (np := 10) (x := 0) (v := (12 * u2 + a2)) (by decide +kernel) (by first | decide | omega) la2 (by first | decide | omega) (by first | decide | omega) ?_
  obtain ⟨u5, q6⟩ : ∃ z, a2 = 2147483648 + z := ⟨a2 - 2147483648, by first | decide | omega⟩
  have b7 := jB (e := (12 * u2 + u5)) (12 * u2 + u5) hJ rg_91_0_1_72 (by first | decide | omega) (by first | decide | omega)
  refine x_aldC (np := 11) (x := 0) (n := 72) (i := (12 * u2 + u5)) (q := ((h 91 (12 * u2 + u5)))) (by decide +kernel) (by decide +kernel) (by first | decide | omega) (by first | decide | omega) (by decide) rfl (fun l8 => ?_)
  refine x_ifz (k := 2) (tg := 28) (np := 14) (by decide +kernel) (by decide) l8 (fun q9 => ?_) (fun q10 => ?_)
  · have q9 : ((h 91 (12 * u2 + u5))) < 2147483648 := q9
    refine x_aload (np := 29) (x := 0) (by decide +kernel) rfl (x_nc_le (by decide)) ?_
    refine x_iload (np := 30) (x := 1) (by decide +kernel) rfl la1 ?_
    refine x_iload (np := 31) (x := 2) (by decide +kernel) rfl la2 ?_
    refine x_nI (t := 6) (mj := 211) (n := 3) (rc := 12) (ml := 3) (nr := 0) (np := 34) (as := [x_r 75, iv_c a1, iv_c a2]) (rest := []) (lo1 := [x_r 75, iv_c a1, iv_c a2]) (by decide +kernel) (by decide) (by decide +kernel) (x_rb_of (by decide +kernel)) rfl rfl (x_wr (by decide) (x_wi la1 (x_wi la2 x_wn))) x_wn (by decide) rfl ?_
    refine x_aload (np := 1) (x := 0) (by decide +kernel) rfl (x_nc_le (by decide)) ?_
    have q11 : h 75 20 = 87 := by have z := jB (e := 20) 0 hJ rg_75_20_0_1 (by decide) (by decide); omega
    refine x_getR (np := 4) (x := 724) (f := 20) (q := 87) (by decide +kernel) (by decide) (by decide +kernel) q11 ?_
    refine x_const (np := 6) (x := 9223372090541867020) (a := 2147483660) (by decide +kernel) (by decide) (by decide) ?_
    refine x_iload (np := 7) (x := 1) (by decide +kernel) rfl la1 ?_
    refine x_imul (np := 8) (x := 0) (i := 12) (j := u2) (v := (2147483648 + 12 * u2)) (by decide +kernel) (by first | decide | omega) (by first | decide | omega) (by first | decide | omega) (by first | decide | omega) (by decide) la1 ?_
    refine x_iload (np := 9) (x := 2) (by decide +kernel) rfl la2 ?_
    refine x_iadd (np := 10) (x := 0) (v := (12 * u2 + a2)) (by decide +kernel) (by first | decide | omega) la2 (by first | decide | omega) (by first | decide | omega) ?_
    have b13 := jB (e := (12 * u2 + u5)) (12 * u2 + u5) hJ rg_87_0_1_72 (by first | decide | omega) (by first | decide | omega)
    refine x_aldC (np := 11) (x := 0) (n := 72) (i := (12 * u2 + u5)) (q := ((h 87 (12 * u2 + u5)))) (by decide +kernel) (by decide +kernel) (by first | decide | omega) (by first | decide | omega) (by decide) rfl (fun l14 => ?_)
    refine x_retI (np := 12) (x := 0) (by decide +kernel) l14 (Or.inl (by decide +kernel)) ⟨_, rfl, l14, ?_⟩
    refine x_retI (np := 35) (x := 0) (by decide +kernel) l14 (Or.inl (by decide +kernel)) ⟨_, rfl, l14, ?_⟩
    exact ⟨rfl, (by first | decide | omega)⟩
  have q10 : ¬ (((h 91 (12 * u2 + u5))) < 2147483648) := q10
  refine x_aload (np := 15) (x := 0) (by decide +kernel) rfl (x_nc_le (by decide)) ?_
  have q15 : h 75 24 = 91 := by have z := jB (e := 24) 0 hJ rg_75_24_0_1 (by decide) (by decide); omega
  refine x_getR (np := 18) (x := 728) (f := 24) (q := 91) (by decide +kernel) (by decide) (by decide +kernel) q15 ?_
  refine x_const (np := 20) (x := 9223372090541867020) (a := 2147483660) (by decide +kernel) (by decide) (by decide) ?_
  refine x_iload (np := 21) (x := 1) (by decide +kernel) rfl la1 ?_
  refine x_imul (np := 22) (x := 0) (i := 12) (j := u2) (v := (2147483648 + 12 * u2)) (by decide +kernel) (by first | decide | omega) (by first | decide | omega) (by first | decide | omega) (by first | decide | omega) (by decide) la1 ?_
  refine x_iload (np := 23) (x := 2) (by decide +kernel) rfl la2 ?_
  refine x_iadd (np := 24) (x := 0) (v := (12 * u2 + a2)) (by decide +kernel) (by first | decide | omega) la2 (by first | decide | omega) (by first | decide | omega) ?_
  refine x_aldC (np := 25) (x := 0) (n := 72) (i := (12 * u2 + u5)) (q := ((h 91 (12 * u2 + u5)))) (by decide +kernel) (by decide +kernel) (by first | decide | omega) (by first | decide | omega) (by decide) rfl (fun l17 => ?_)
  refine x_goto (np := 28) (x := 34) (by decide +kernel) ?_
  refine x_retI (np := 35) (x := 0) (by decide +kernel) l8 (Or.inl (by decide +kernel)) ⟨_, rfl, l8, ?_⟩
  exact ⟨rfl, (by first | decide | omega)⟩
set_option maxHeartbeats 0 in
/-- LentNamesModel.isNameless(II)Z -/
theorem c218_75 {sc : Nat × Nat} {d a1 a2 : Nat} {h : xh} (hJ : J h) (ba1 : 2147483648 ≤ a1 ∧ a1 ≤ 2147483653) (ba2 : 2147483648 ≤ a2 ∧ a2 ≤ 2147483659) : X sc 218 (d + 2) (xI fun r h' => h' = h ∧ (2147483648 ≤ r ∧ r ≤ 2147483649)) 0 0 0 [x_r 75, iv_c a1, iv_c a2, 147573952589676412928, 147573952589676412928] [] h := by
  have la1 : a1 < 4294967296 := by first | decide | omega
  have la2 : a2 < 4294967296 := by first | decide | omega
  refine x_const (np := 1) (x := 9223372039002259456) (a := 2147483648) (by decide +kernel) (by decide) (by decide) ?_
  refine x_istore (np := 2) (x := 3) (lo' := [x_r 75, iv_c a1, iv_c a2, iv_c 2147483648, 147573952589676412928]) (by decide +kernel) (by decide) (Nat.le_of_ble_eq_true rfl) rfl ?_
  refine x_const (np := 3) (x := 9223372039002259456) (a := 2147483648) (by decide +kernel) (by decide) (by decide) ?_
  refine x_istore (np := 5) (x := 4) (lo' := [x_r 75, iv_c a1, iv_c a2, iv_c 2147483648, iv_c 2147483648]) (by decide +kernel) (by decide) (Nat.le_of_ble_eq_true rfl) rfl ?_
  have p101 : ∀ (n : Nat) (v97 : Nat) (v99 : Nat), 4294967296 - v99 < n → (2147483648 ≤ v97 ∧ v97 ≤ 2147483649) → (2147483648 ≤ v99 ∧ v99 ≤ 2147483654) → X sc 218 (d + 2) (xI fun r h' => h' = h ∧ (2147483648 ≤ r ∧ r ≤ 2147483649)) 0 0 5 [x_r 75, iv_c a1, iv_c a2, iv_c v97, iv_c v99] [] h := by
    intro n
    induction n with
    | zero => intro v97 v99 q102; exact absurd q102 (Nat.not_lt_zero _)
    | succ n i103 =>
      intro v97 v99 q102 b98 b100
      refine x_iload (np := 7) (x := 4) (by decide +kernel) rfl (by first | decide | omega) ?_
      refine x_aload (np := 8) (x := 0) (by decide +kernel) rfl (x_nc_le (by decide)) ?_
      refine x_nI (t := 6) (mj := 157) (n := 1) (rc := 12) (ml := 1) (nr := 1) (np := 11) (as := [x_r 75]) (rest := [iv_c v99]) (lo1 := [x_r 75]) (by decide +kernel) (by decide) (by decide +kernel) (x_rb_of (by decide +kernel)) rfl rfl (x_wr (by decide) x_wn) (x_wi (by first | decide | omega) x_wn) (by decide) rfl ?_
      refine x_aload (np := 1) (x := 0) (by decide +kernel) rfl (x_nc_le (by decide)) ?_
      have q104 : h 75 1 = 76 := by have z := jB (e := 1) 0 hJ rg_75_1_0_1 (by decide) (by decide); omega
      refine x_getR (np := 4) (x := 705) (f := 1) (q := 76) (by decide +kernel) (by decide) (by decide +kernel) q104 ?_
      refine x_const (np := 5) (x := 9223372039002259456) (a := 2147483648) (by decide +kernel) (by decide) (by decide) ?_
      have b105 := jB (e := 0) 0 hJ rg_76_0_0_1 (by first | decide | omega) (by first | decide | omega)
      refine x_aldC (np := 6) (x := 0) (n := 1952) (i := 0) (q := (h 76 0)) (by decide +kernel) (by decide +kernel) (by first | decide | omega) (by first | decide | omega) (by decide) rfl (fun l106 => ?_)
      refine x_retI (np := 7) (x := 0) (by decide +kernel) l106 (Or.inl (by decide +kernel)) ⟨_, rfl, l106, ?_⟩
      refine x_icmp (k := 3) (tg := 41) (np := 14) (by decide +kernel) (by decide) (by first | decide | omega) l106 (fun q107 => ?_) (fun q108 => ?_)
      · have q107 : (h 76 0) ≤ v99 := q107
        refine x_aload (np := 42) (x := 0) (by decide +kernel) rfl (x_nc_le (by decide)) ?_
        refine x_iload (np := 43) (x := 1) (by decide +kernel) rfl la1 ?_
        refine x_iload (np := 44) (x := 2) (by decide +kernel) rfl la2 ?_
        refine x_cP (t := 6) (mj := 200) (n := 3) (rc := 12) (ml := 3) (nr := 0) (np := 47) (as := [x_r 75, iv_c a1, iv_c a2]) (rest := []) (lo1 := [x_r 75, iv_c a1, iv_c a2]) (by decide +kernel) (by decide) (by decide +kernel) (x_rb_of (by decide +kernel)) rfl rfl (x_wr (by decide) (x_wi la1 (x_wi la2 x_wn))) x_wn (by decide) rfl (c200_75 hJ  (by first | decide | omega) (by first | decide | omega)) (fun v109 l110 q111 => ?_)
        refine x_ifz (k := 0) (tg := 58) (np := 50) (by decide +kernel) (by decide) l110 (fun q112 => ?_) (fun q113 => ?_)
        · have q112 : v109 = 2147483648 := q112
          refine x_const (np := 59) (x := 9223372039002259456) (a := 2147483648) (by decide +kernel) (by decide) (by decide) ?_
          refine x_retI (np := 60) (x := 0) (by decide +kernel) (by decide) (Or.inr ⟨by decide +kernel, by first | decide | omega, by first | decide | omega⟩) ⟨_, rfl, (by decide), ?_⟩
          exact ⟨rfl, (by first | decide | omega)⟩
        have q113 : ¬ (v109 = 2147483648) := q113
        refine x_iload (np := 51) (x := 3) (by decide +kernel) rfl (by first | decide | omega) ?_
        refine x_ifz (k := 1) (tg := 58) (np := 54) (by decide +kernel) (by decide) (by first | decide | omega) (fun q114 => ?_) (fun q115 => ?_)
        · have q114 : v97 ≠ 2147483648 := q114
          refine x_const (np := 59) (x := 9223372039002259456) (a := 2147483648) (by decide +kernel) (by decide) (by decide) ?_
          refine x_retI (np := 60) (x := 0) (by decide +kernel) (by decide) (Or.inr ⟨by decide +kernel, by first | decide | omega, by first | decide | omega⟩) ⟨_, rfl, (by decide), ?_⟩
          exact ⟨rfl, (by first | decide | omega)⟩
        have q115 : ¬ (v97 ≠ 2147483648) := q115
        refine x_const (np := 55) (x := 9223372043297226753) (a := 2147483649) (by decide +kernel) (by decide) (by decide) ?_
        refine x_goto (np := 58) (x := 59) (by decide +kernel) ?_
        refine x_retI (np := 60) (x := 0) (by decide +kernel) (by decide) (Or.inr ⟨by decide +kernel, by first | decide | omega, by first | decide | omega⟩) ⟨_, rfl, (by decide), ?_⟩
        exact ⟨rfl, (by first | decide | omega)⟩
      have q108 : ¬ ((h 76 0) ≤ v99) := q108
      refine x_iload (np := 15) (x := 3) (by decide +kernel) rfl (by first | decide | omega) ?_
      refine x_ifz (k := 1) (tg := 29) (np := 18) (by decide +kernel) (by decide) (by first | decide | omega) (fun q116 => ?_) (fun q117 => ?_)
      · have q116 : v97 ≠ 2147483648 := q116
        refine x_const (np := 30) (x := 9223372043297226753) (a := 2147483649) (by decide +kernel) (by decide) (by decide) ?_
        refine x_goto (np := 33) (x := 34) (by decide +kernel) ?_
        refine x_istore (np := 35) (x := 3) (lo' := [x_r 75, iv_c a1, iv_c a2, iv_c 2147483649, iv_c v99]) (by decide +kernel) (by decide) (Nat.le_of_ble_eq_true rfl) rfl ?_
        refine x_iinc (np := 38) (i := 4) (j := 2147483649) (v := (1 + v99)) (lo' := [x_r 75, iv_c a1, iv_c a2, iv_c 2147483649, iv_c (1 + v99)]) (by decide +kernel) (by decide) (by decide) rfl (by first | decide | omega) (by first | decide | omega) (by first | decide | omega) rfl ?_
        refine x_goto (np := 41) (x := 5) (by decide +kernel) ?_
        exact i103 2147483649 (1 + v99) (by first | decide | omega) (by first | decide | omega) (by first | decide | omega)
      have q117 : ¬ (v97 ≠ 2147483648) := q117
      refine x_aload (np := 19) (x := 0) (by decide +kernel) rfl (x_nc_le (by decide)) ?_
      refine x_iload (np := 21) (x := 4) (by decide +kernel) rfl (by first | decide | omega) ?_
      refine x_iload (np := 22) (x := 2) (by decide +kernel) rfl la2 ?_
      refine x_cP (t := 6) (mj := 217) (n := 3) (rc := 12) (ml := 3) (nr := 0) (np := 25) (as := [x_r 75, iv_c v99, iv_c a2]) (rest := []) (lo1 := [x_r 75, iv_c v99, iv_c a2]) (by decide +kernel) (by decide) (by decide +kernel) (x_rb_of (by decide +kernel)) rfl rfl (x_wr (by decide) (x_wi (by first | decide | omega) (x_wi la2 x_wn))) x_wn (by decide) rfl (c217_75 hJ  (by first | decide | omega) (by first | decide | omega)) (fun v118 l119 q120 => ?_)
      refine x_iload (np := 26) (x := 1) (by decide +kernel) rfl la1 ?_
      refine x_icmp (k := 1) (tg := 33) (np := 29) (by decide +kernel) (by decide) l119 la1 (fun q121 => ?_) (fun q122 => ?_)
      · have q121 : v118 ≠ a1 := q121
        refine x_const (np := 34) (x := 9223372039002259456) (a := 2147483648) (by decide +kernel) (by decide) (by decide) ?_
        refine x_istore (np := 35) (x := 3) (lo' := [x_r 75, iv_c a1, iv_c a2, iv_c 2147483648, iv_c v99]) (by decide +kernel) (by decide) (Nat.le_of_ble_eq_true rfl) rfl ?_
        refine x_iinc (np := 38) (i := 4) (j := 2147483649) (v := (1 + v99)) (lo' := [x_r 75, iv_c a1, iv_c a2, iv_c 2147483648, iv_c (1 + v99)]) (by decide +kernel) (by decide) (by decide) rfl (by first | decide | omega) (by first | decide | omega) (by first | decide | omega) rfl ?_
        refine x_goto (np := 41) (x := 5) (by decide +kernel) ?_
        exact i103 2147483648 (1 + v99) (by first | decide | omega) (by first | decide | omega) (by first | decide | omega)
      have q122 : ¬ (v118 ≠ a1) := q122
      refine x_const (np := 30) (x := 9223372043297226753) (a := 2147483649) (by decide +kernel) (by decide) (by decide) ?_
      refine x_goto (np := 33) (x := 34) (by decide +kernel) ?_
      refine x_istore (np := 35) (x := 3) (lo' := [x_r 75, iv_c a1, iv_c a2, iv_c 2147483649, iv_c v99]) (by decide +kernel) (by decide) (Nat.le_of_ble_eq_true rfl) rfl ?_
      refine x_iinc (np := 38) (i := 4) (j := 2147483649) (v := (1 + v99)) (lo' := [x_r 75, iv_c a1, iv_c a2, iv_c 2147483649, iv_c (1 + v99)]) (by decide +kernel) (by decide) (by decide) rfl (by first | decide | omega) (by first | decide | omega) (by first | decide | omega) rfl ?_
      refine x_goto (np := 41) (x := 5) (by decide +kernel) ?_
      exact i103 2147483649 (1 + v99) (by first | decide | omega) (by first | decide | omega) (by first | decide | omega)
  exact p101 _ 2147483648 2147483648 (Nat.lt_succ_self _) (by first | decide | omega) (by first | decide | omega)
set_option maxHeartbeats 0 in
/-- LentNamesModel.nameless(I)I -/
theorem c219_75 {sc : Nat × Nat} {d a1 : Nat} {h : xh} (hJ : J h) (ba1 : 0 ≤ a1 ∧ a1 ≤ 4294967295) (hW : WT 76 h) : X sc 219 (d + 5) (xI fun r h' => J h' ∧ Fr 135291600897 h h' ∧ (0 ≤ r ∧ r ≤ 4294967295)) 0 0 0 [x_r 75, iv_c a1, 147573952589676412928, 147573952589676412928] [] h := by
  have la1 : a1 < 4294967296 := by first | decide | omega
  have hF := Fr.refl 135291600897 h
  refine x_aload (np := 1) (x := 0) (by decide +kernel) rfl (x_nc_le (by decide)) ?_
  refine x_const (np := 2) (x := 9223372039002259456) (a := 2147483648) (by decide +kernel) (by decide) (by decide) ?_
  refine x_putI (np := 5) (x := 704) (f := 0) (by decide +kernel) (by decide +kernel) (by decide) (Or.inl (by decide)) ?_
  have j2 := jU (e := 0) (v := 2147483648) 0 hJ rg_75_0_0_1 (by first | decide | omega) (by first | decide | omega) (by first | decide | omega)
  have f4 := jF (e := 0) (v := 2147483648) 0 hF rg_75_0_0_1 (by first | decide | omega) (by first | decide | omega) (by decide)
  generalize e3 : x_up h 75 0 2147483648 = h1 at j2 f4 ⊢
  refine x_aload (np := 6) (x := 0) (by decide +kernel) rfl (x_nc_le (by decide)) ?_
  refine x_aload (np := 7) (x := 0) (by decide +kernel) rfl (x_nc_le (by decide)) ?_
  refine x_iload (np := 8) (x := 1) (by decide +kernel) rfl la1 ?_
  refine x_nI (t := 6) (mj := 159) (n := 2) (rc := 12) (ml := 2) (nr := 1) (np := 11) (as := [x_r 75, iv_c a1]) (rest := [x_r 75]) (lo1 := [x_r 75, iv_c a1]) (by decide +kernel) (by decide) (by decide +kernel) (x_rb_of (by decide +kernel)) rfl rfl (x_wr (by decide) (x_wi la1 x_wn)) (x_wr (by decide) x_wn) (by decide) rfl ?_
  refine x_aload (np := 1) (x := 0) (by decide +kernel) rfl (x_nc_le (by decide)) ?_
  refine x_iload (np := 2) (x := 1) (by decide +kernel) rfl la1 ?_
  refine x_const (np := 3) (x := 9223372039002259456) (a := 2147483648) (by decide +kernel) (by decide) (by decide) ?_
  refine x_nI (t := 6) (mj := 158) (n := 3) (rc := 12) (ml := 3) (nr := 0) (np := 6) (as := [x_r 75, iv_c a1, iv_c 2147483648]) (rest := []) (lo1 := [x_r 75, iv_c a1, iv_c 2147483648]) (by decide +kernel) (by decide) (by decide +kernel) (x_rb_of (by decide +kernel)) rfl rfl (x_wr (by decide) (x_wi la1 (x_wi (by decide) x_wn))) x_wn (by decide) rfl ?_
  refine x_iload (np := 1) (x := 1) (by decide +kernel) rfl la1 ?_
  refine x_const (np := 2) (x := 9223372039002259456) (a := 2147483648) (by decide +kernel) (by decide) (by decide) ?_
  refine x_aload (np := 3) (x := 0) (by decide +kernel) rfl (x_nc_le (by decide)) ?_
  have q5 : h1 75 1 = 76 := by have z := jB (e := 1) 0 j2 rg_75_1_0_1 (by decide) (by decide); omega
  refine x_getR (np := 6) (x := 705) (f := 1) (q := 76) (by decide +kernel) (by decide) (by decide +kernel) q5 ?_
  refine x_iload (np := 7) (x := 2) (by decide +kernel) rfl (by decide) ?_
  have q6 : h1 76 0 = h 76 0 := by rw [← e3]; exact x_up_k (by decide)
  have b7 := jB (e := 0) 0 hJ rg_76_0_0_1 (by first | decide | omega) (by first | decide | omega)
  refine x_aldC (np := 8) (x := 0) (n := 1952) (i := 0) (q := (h 76 0)) (by decide +kernel) (by decide +kernel) (by first | decide | omega) (by first | decide | omega) (by decide) q6 (fun l8 => ?_)
  refine x_const (np := 9) (x := 9223372043297226753) (a := 2147483649) (by decide +kernel) (by decide) (by decide) ?_
  obtain ⟨v9, q10⟩ : ∃ z, z + 2147483649 = (h 76 0) + 2147483648 := ⟨(h 76 0) + 2147483648 - 2147483649, by first | decide | omega⟩
  refine x_isub (np := 10) (x := 0) (v := v9) (by decide +kernel) l8 (by decide) (by first | decide | omega) (by first | decide | omega) ?_
  refine x_nI (t := 0) (mj := 153) (n := 3) (rc := 0) (ml := 3) (nr := 0) (np := 13) (as := [iv_c a1, iv_c 2147483648, iv_c v9]) (rest := []) (lo1 := [iv_c a1, iv_c 2147483648, iv_c v9]) (by decide +kernel) (by decide) (by decide +kernel) (Or.inl rfl) rfl rfl (x_wi la1 (x_wi (by decide) (x_wi (by first | decide | omega) x_wn))) x_wn (by decide) rfl ?_
  refine x_iload (np := 1) (x := 0) (by decide +kernel) rfl la1 ?_
  refine x_iload (np := 2) (x := 1) (by decide +kernel) rfl (by decide) ?_
  refine x_icmp (k := 2) (tg := 14) (np := 5) (by decide +kernel) (by decide) la1 (by decide) (fun q11 => ?_) (fun q12 => ?_)
  · have q11 : a1 < 2147483648 := q11
    refine x_const (np := 15) (x := 9223372039002259456) (a := 2147483648) (by decide +kernel) (by decide) (by decide) ?_
    refine x_retI (np := 16) (x := 0) (by decide +kernel) (by decide) (Or.inr ⟨by decide +kernel, by first | decide | omega, by first | decide | omega⟩) ⟨_, rfl, (by decide), ?_⟩
    refine x_ifz (k := 1) (tg := 20) (np := 16) (by decide +kernel) (by decide) (by decide) (fun q13 => ?_) (fun q14 => ?_)
    · have q13 : 2147483648 ≠ 2147483648 := q13
      exfalso; omega
    have q14 : ¬ (2147483648 ≠ 2147483648) := q14
    refine x_const (np := 17) (x := 9223372043297226753) (a := 2147483649) (by decide +kernel) (by decide) (by decide) ?_
    refine x_goto (np := 20) (x := 21) (by decide +kernel) ?_
    refine x_retI (np := 22) (x := 0) (by decide +kernel) (by decide) (Or.inr ⟨by decide +kernel, by first | decide | omega, by first | decide | omega⟩) ⟨_, rfl, (by decide), ?_⟩
    refine x_retI (np := 7) (x := 0) (by decide +kernel) (by decide) (Or.inr ⟨by decide +kernel, by first | decide | omega, by first | decide | omega⟩) ⟨_, rfl, (by decide), ?_⟩
    refine x_const (np := 12) (x := 9223372043297226753) (a := 2147483649) (by decide +kernel) (by decide) (by decide) ?_
    refine x_nI (t := 6) (mj := 152) (n := 3) (rc := 12) (ml := 3) (nr := 0) (np := 15) (as := [x_r 75, iv_c 2147483649, iv_c 2147483649]) (rest := []) (lo1 := [x_r 75, iv_c 2147483649, iv_c 2147483649]) (by decide +kernel) (by decide) (by decide +kernel) (x_rb_of (by decide +kernel)) rfl rfl (x_wr (by decide) (x_wi (by decide) (x_wi (by decide) x_wn))) x_wn (by decide) rfl ?_
    refine x_iload (np := 1) (x := 1) (by decide +kernel) rfl (by decide) ?_
    refine x_ifz (k := 0) (tg := 9) (np := 4) (by decide +kernel) (by decide) (by decide) (fun q15 => ?_) (fun q16 => ?_)
    · have q15 : 2147483649 = 2147483648 := q15
      exfalso; omega
    have q16 : ¬ (2147483649 = 2147483648) := q16
    refine x_aload (np := 5) (x := 0) (by decide +kernel) rfl (x_nc_le (by decide)) ?_
    refine x_iload (np := 6) (x := 2) (by decide +kernel) rfl (by decide) ?_
    refine x_putI (np := 9) (x := 704) (f := 0) (by decide +kernel) (by decide +kernel) (by decide) (Or.inl (by decide)) ?_
    have j18 := jU (e := 0) (v := 2147483649) 0 j2 rg_75_0_0_1 (by first | decide | omega) (by first | decide | omega) (by first | decide | omega)
    have f20 := jF (e := 0) (v := 2147483649) 0 f4 rg_75_0_0_1 (by first | decide | omega) (by first | decide | omega) (by decide)
    generalize e19 : x_up h1 75 0 2147483649 = h17 at j18 f20 ⊢
    refine x_iload (np := 10) (x := 1) (by decide +kernel) rfl (by decide) ?_
    refine x_retI (np := 11) (x := 0) (by decide +kernel) (by decide) (Or.inr ⟨by decide +kernel, by first | decide | omega, by first | decide | omega⟩) ⟨_, rfl, (by decide), ?_⟩
    refine x_ifz (k := 0) (tg := 20) (np := 18) (by decide +kernel) (by decide) (by decide) (fun q21 => ?_) (fun q22 => ?_)
    · have q21 : 2147483649 = 2147483648 := q21
      exfalso; omega
    have q22 : ¬ (2147483649 = 2147483648) := q22
    refine x_const (np := 19) (x := 9223372039002259456) (a := 2147483648) (by decide +kernel) (by decide) (by decide) ?_
    refine x_retI (np := 20) (x := 0) (by decide +kernel) (by decide) (Or.inl (by decide +kernel)) ⟨_, rfl, (by decide), ?_⟩
    exact ⟨j18, f20, (by first | decide | omega)⟩
  have q12 : ¬ (a1 < 2147483648) := q12
  refine x_iload (np := 6) (x := 0) (by decide +kernel) rfl la1 ?_
  refine x_iload (np := 7) (x := 2) (by decide +kernel) rfl (by first | decide | omega) ?_
  refine x_icmp (k := 4) (tg := 14) (np := 10) (by decide +kernel) (by decide) la1 (by first | decide | omega) (fun q23 => ?_) (fun q24 => ?_)
  · have q23 : v9 < a1 := q23
    refine x_const (np := 15) (x := 9223372039002259456) (a := 2147483648) (by decide +kernel) (by decide) (by decide) ?_
    refine x_retI (np := 16) (x := 0) (by decide +kernel) (by decide) (Or.inr ⟨by decide +kernel, by first | decide | omega, by first | decide | omega⟩) ⟨_, rfl, (by decide), ?_⟩
    refine x_ifz (k := 1) (tg := 20) (np := 16) (by decide +kernel) (by decide) (by decide) (fun q25 => ?_) (fun q26 => ?_)
    · have q25 : 2147483648 ≠ 2147483648 := q25
      exfalso; omega
    have q26 : ¬ (2147483648 ≠ 2147483648) := q26
    refine x_const (np := 17) (x := 9223372043297226753) (a := 2147483649) (by decide +kernel) (by decide) (by decide) ?_
    refine x_goto (np := 20) (x := 21) (by decide +kernel) ?_
    refine x_retI (np := 22) (x := 0) (by decide +kernel) (by decide) (Or.inr ⟨by decide +kernel, by first | decide | omega, by first | decide | omega⟩) ⟨_, rfl, (by decide), ?_⟩
    refine x_retI (np := 7) (x := 0) (by decide +kernel) (by decide) (Or.inr ⟨by decide +kernel, by first | decide | omega, by first | decide | omega⟩) ⟨_, rfl, (by decide), ?_⟩
    refine x_const (np := 12) (x := 9223372043297226753) (a := 2147483649) (by decide +kernel) (by decide) (by decide) ?_
    refine x_nI (t := 6) (mj := 152) (n := 3) (rc := 12) (ml := 3) (nr := 0) (np := 15) (as := [x_r 75, iv_c 2147483649, iv_c 2147483649]) (rest := []) (lo1 := [x_r 75, iv_c 2147483649, iv_c 2147483649]) (by decide +kernel) (by decide) (by decide +kernel) (x_rb_of (by decide +kernel)) rfl rfl (x_wr (by decide) (x_wi (by decide) (x_wi (by decide) x_wn))) x_wn (by decide) rfl ?_
    refine x_iload (np := 1) (x := 1) (by decide +kernel) rfl (by decide) ?_
    refine x_ifz (k := 0) (tg := 9) (np := 4) (by decide +kernel) (by decide) (by decide) (fun q27 => ?_) (fun q28 => ?_)
    · have q27 : 2147483649 = 2147483648 := q27
      exfalso; omega
    have q28 : ¬ (2147483649 = 2147483648) := q28
    refine x_aload (np := 5) (x := 0) (by decide +kernel) rfl (x_nc_le (by decide)) ?_
    refine x_iload (np := 6) (x := 2) (by decide +kernel) rfl (by decide) ?_
    refine x_putI (np := 9) (x := 704) (f := 0) (by decide +kernel) (by decide +kernel) (by decide) (Or.inl (by decide)) ?_
    have j30 := jU (e := 0) (v := 2147483649) 0 j2 rg_75_0_0_1 (by first | decide | omega) (by first | decide | omega) (by first | decide | omega)
    have f32 := jF (e := 0) (v := 2147483649) 0 f4 rg_75_0_0_1 (by first | decide | omega) (by first | decide | omega) (by decide)
    generalize e31 : x_up h1 75 0 2147483649 = h29 at j30 f32 ⊢
    refine x_iload (np := 10) (x := 1) (by decide +kernel) rfl (by decide) ?_
    refine x_retI (np := 11) (x := 0) (by decide +kernel) (by decide) (Or.inr ⟨by decide +kernel, by first | decide | omega, by first | decide | omega⟩) ⟨_, rfl, (by decide), ?_⟩
    refine x_ifz (k := 0) (tg := 20) (np := 18) (by decide +kernel) (by decide) (by decide) (fun q33 => ?_) (fun q34 => ?_)
    · have q33 : 2147483649 = 2147483648 := q33
      exfalso; omega
    have q34 : ¬ (2147483649 = 2147483648) := q34
    refine x_const (np := 19) (x := 9223372039002259456) (a := 2147483648) (by decide +kernel) (by decide) (by decide) ?_
    refine x_retI (np := 20) (x := 0) (by decide +kernel) (by decide) (Or.inl (by decide +kernel)) ⟨_, rfl, (by decide), ?_⟩
    exact ⟨j30, f32, (by first | decide | omega)⟩
  have q24 : ¬ (v9 < a1) := q24
  refine x_const (np := 11) (x := 9223372043297226753) (a := 2147483649) (by decide +kernel) (by decide) (by decide) ?_
  refine x_goto (np := 14) (x := 15) (by decide +kernel) ?_
  refine x_retI (np := 16) (x := 0) (by decide +kernel) (by decide) (Or.inr ⟨by decide +kernel, by first | decide | omega, by first | decide | omega⟩) ⟨_, rfl, (by decide), ?_⟩
  refine x_ifz (k := 1) (tg := 20) (np := 16) (by decide +kernel) (by decide) (by decide) (fun q35 => ?_) (fun q36 => ?_)
  · have q35 : 2147483649 ≠ 2147483648 := q35
    refine x_const (np := 21) (x := 9223372039002259456) (a := 2147483648) (by decide +kernel) (by decide) (by decide) ?_
    refine x_retI (np := 22) (x := 0) (by decide +kernel) (by decide) (Or.inr ⟨by decide +kernel, by first | decide | omega, by first | decide | omega⟩) ⟨_, rfl, (by decide), ?_⟩
    refine x_retI (np := 7) (x := 0) (by decide +kernel) (by decide) (Or.inr ⟨by decide +kernel, by first | decide | omega, by first | decide | omega⟩) ⟨_, rfl, (by decide), ?_⟩
    refine x_const (np := 12) (x := 9223372043297226753) (a := 2147483649) (by decide +kernel) (by decide) (by decide) ?_
    refine x_nI (t := 6) (mj := 152) (n := 3) (rc := 12) (ml := 3) (nr := 0) (np := 15) (as := [x_r 75, iv_c 2147483648, iv_c 2147483649]) (rest := []) (lo1 := [x_r 75, iv_c 2147483648, iv_c 2147483649]) (by decide +kernel) (by decide) (by decide +kernel) (x_rb_of (by decide +kernel)) rfl rfl (x_wr (by decide) (x_wi (by decide) (x_wi (by decide) x_wn))) x_wn (by decide) rfl ?_
    refine x_iload (np := 1) (x := 1) (by decide +kernel) rfl (by decide) ?_
    refine x_ifz (k := 0) (tg := 9) (np := 4) (by decide +kernel) (by decide) (by decide) (fun q37 => ?_) (fun q38 => ?_)
    · have q37 : 2147483648 = 2147483648 := q37
      refine x_iload (np := 10) (x := 1) (by decide +kernel) rfl (by decide) ?_
      refine x_retI (np := 11) (x := 0) (by decide +kernel) (by decide) (Or.inr ⟨by decide +kernel, by first | decide | omega, by first | decide | omega⟩) ⟨_, rfl, (by decide), ?_⟩
      refine x_ifz (k := 0) (tg := 20) (np := 18) (by decide +kernel) (by decide) (by decide) (fun q39 => ?_) (fun q40 => ?_)
      · have q39 : 2147483648 = 2147483648 := q39
        refine x_aload (np := 21) (x := 0) (by decide +kernel) rfl (x_nc_le (by decide)) ?_
        have m44 : WT 76 h1 := by rw [← e3]; exact WT.oth hW hJ (by decide)
        refine x_cV (t := 6) (mj := 210) (n := 1) (rc := 12) (ml := 5) (nr := 0) (np := 24) (as := [x_r 75]) (rest := []) (lo1 := [x_r 75, 147573952589676412928, 147573952589676412928, 147573952589676412928, 147573952589676412928]) (by decide +kernel) (by decide) (by decide +kernel) (x_rb_of (by decide +kernel)) rfl rfl (x_wr (by decide) x_wn) x_wn (by decide) rfl (c210_75 j2  m44) (fun h45 q43 => ?_)
        obtain ⟨j46, f47⟩ := q43
        have f50 := Fr.trans f4 f47 (by decide)
        refine x_const (np := 25) (x := 9223372039002259456) (a := 2147483648) (by decide +kernel) (by decide) (by decide) ?_
        refine x_istore (np := 26) (x := 2) (lo' := [x_r 75, iv_c a1, iv_c 2147483648, 147573952589676412928]) (by decide +kernel) (by decide) (Nat.le_of_ble_eq_true rfl) rfl ?_
        refine x_const (np := 27) (x := 9223372039002259456) (a := 2147483648) (by decide +kernel) (by decide) (by decide) ?_
        refine x_istore (np := 28) (x := 3) (lo' := [x_r 75, iv_c a1, iv_c 2147483648, iv_c 2147483648]) (by decide +kernel) (by decide) (Nat.le_of_ble_eq_true rfl) rfl ?_
        have p242 : ∀ (n : Nat) (v238 : Nat) (v240 : Nat), 4294967296 - v240 < n → (0 ≤ v238 ∧ v238 ≤ 4294967295) → (2147483648 ≤ v240 ∧ v240 ≤ 2147483660) → X sc 219 (d + 5) (xI fun r h' => J h' ∧ Fr 135291600897 h h' ∧ (0 ≤ r ∧ r ≤ 4294967295)) 0 0 28 [x_r 75, iv_c a1, iv_c v238, iv_c v240] [] h45 := by
          intro n
          induction n with
          | zero => intro v238 v240 q243; exact absurd q243 (Nat.not_lt_zero _)
          | succ n i244 =>
            intro v238 v240 q243 b239 b241
            refine x_iload (np := 29) (x := 3) (by decide +kernel) rfl (by first | decide | omega) ?_
            refine x_const (np := 31) (x := 9223372090541867020) (a := 2147483660) (by decide +kernel) (by decide) (by decide) ?_
            refine x_icmp (k := 3) (tg := 59) (np := 34) (by decide +kernel) (by decide) (by first | decide | omega) (by decide) (fun q245 => ?_) (fun q246 => ?_)
            · have q245 : 2147483660 ≤ v240 := q245
              refine x_iload (np := 60) (x := 2) (by decide +kernel) rfl (by first | decide | omega) ?_
              refine x_retI (np := 61) (x := 0) (by decide +kernel) (by first | decide | omega) (Or.inl (by decide +kernel)) ⟨_, rfl, (by first | decide | omega), ?_⟩
              exact ⟨j46, f50, (by first | decide | omega)⟩
            have q246 : ¬ (2147483660 ≤ v240) := q246
            refine x_iload (np := 35) (x := 2) (by decide +kernel) rfl (by first | decide | omega) ?_
            refine x_aload (np := 36) (x := 0) (by decide +kernel) rfl (x_nc_le (by decide)) ?_
            refine x_iload (np := 37) (x := 1) (by decide +kernel) rfl la1 ?_
            refine x_iload (np := 38) (x := 3) (by decide +kernel) rfl (by first | decide | omega) ?_
            refine x_cP (t := 6) (mj := 218) (n := 3) (rc := 12) (ml := 5) (nr := 1) (np := 41) (as := [x_r 75, iv_c a1, iv_c v240]) (rest := [iv_c v238]) (lo1 := [x_r 75, iv_c a1, iv_c v240, 147573952589676412928, 147573952589676412928]) (by decide +kernel) (by decide) (by decide +kernel) (x_rb_of (by decide +kernel)) rfl rfl (x_wr (by decide) (x_wi la1 (x_wi (by first | decide | omega) x_wn))) (x_wi (by first | decide | omega) x_wn) (by decide) rfl (c218_75 j46  (by first | decide | omega) (by first | decide | omega)) (fun v247 l248 q249 => ?_)
            refine x_ifz (k := 0) (tg := 50) (np := 44) (by decide +kernel) (by decide) l248 (fun q250 => ?_) (fun q251 => ?_)
            · have q250 : v247 = 2147483648 := q250
              refine x_const (np := 51) (x := 9223372039002259456) (a := 2147483648) (by decide +kernel) (by decide) (by decide) ?_
              refine x_any (np := 52) (k9 := 1) (by decide +kernel) (by decide) (by first | decide | omega) (by decide) (fun v252 l253 => ?_)
              refine x_istore (np := 53) (x := 2) (lo' := [x_r 75, iv_c a1, iv_c v252, iv_c v240]) (by decide +kernel) l253 (Nat.le_of_ble_eq_true rfl) rfl ?_
              refine x_iinc (np := 56) (i := 3) (j := 2147483649) (v := (1 + v240)) (lo' := [x_r 75, iv_c a1, iv_c v252, iv_c (1 + v240)]) (by decide +kernel) (by decide) (by decide) rfl (by first | decide | omega) (by first | decide | omega) (by first | decide | omega) rfl ?_
              refine x_goto (np := 59) (x := 28) (by decide +kernel) ?_
              exact i244 v252 (1 + v240) (by first | decide | omega) (by first | decide | omega) (by first | decide | omega)
            have q251 : ¬ (v247 = 2147483648) := q251
            refine x_const (np := 45) (x := 9223372043297226753) (a := 2147483649) (by decide +kernel) (by decide) (by decide) ?_
            refine x_iload (np := 46) (x := 3) (by decide +kernel) rfl (by first | decide | omega) ?_
            refine x_any (np := 47) (k9 := 3) (by decide +kernel) (by decide) (by decide) (by first | decide | omega) (fun v254 l255 => ?_)
            refine x_goto (np := 50) (x := 51) (by decide +kernel) ?_
            refine x_any (np := 52) (k9 := 1) (by decide +kernel) (by decide) (by first | decide | omega) l255 (fun v256 l257 => ?_)
            refine x_istore (np := 53) (x := 2) (lo' := [x_r 75, iv_c a1, iv_c v256, iv_c v240]) (by decide +kernel) l257 (Nat.le_of_ble_eq_true rfl) rfl ?_
            refine x_iinc (np := 56) (i := 3) (j := 2147483649) (v := (1 + v240)) (lo' := [x_r 75, iv_c a1, iv_c v256, iv_c (1 + v240)]) (by decide +kernel) (by decide) (by decide) rfl (by first | decide | omega) (by first | decide | omega) (by first | decide | omega) rfl ?_
            refine x_goto (np := 59) (x := 28) (by decide +kernel) ?_
            exact i244 v256 (1 + v240) (by first | decide | omega) (by first | decide | omega) (by first | decide | omega)
        exact p242 _ 2147483648 2147483648 (Nat.lt_succ_self _) (by first | decide | omega) (by first | decide | omega)
      have q40 : ¬ (2147483648 = 2147483648) := q40
      exfalso; omega
    have q38 : ¬ (2147483648 = 2147483648) := q38
    exfalso; omega
  have q36 : ¬ (2147483649 ≠ 2147483648) := q36
  exfalso; omega
set_option maxHeartbeats 0 in
/-- LentNamesModel.longest(I)I -/
theorem c220_75 {sc : Nat × Nat} {d a1 : Nat} {h : xh} (hJ : J h) (ba1 : 0 ≤ a1 ∧ a1 ≤ 4294967295) (hW : WT 76 h) : X sc 220 (d + 5) (xI fun r h' => J h' ∧ Fr 135291600897 h h' ∧ (2147483648 ≤ r ∧ r ≤ 4294967295)) 0 0 0 [x_r 75, iv_c a1, 147573952589676412928, 147573952589676412928, 147573952589676412928] [] h := by
  have la1 : a1 < 4294967296 := by first | decide | omega
  have hF := Fr.refl 135291600897 h
  refine x_aload (np := 1) (x := 0) (by decide +kernel) rfl (x_nc_le (by decide)) ?_
  refine x_const (np := 2) (x := 9223372039002259456) (a := 2147483648) (by decide +kernel) (by decide) (by decide) ?_
  refine x_putI (np := 5) (x := 704) (f := 0) (by decide +kernel) (by decide +kernel) (by decide) (Or.inl (by decide)) ?_
  have j2 := jU (e := 0) (v := 2147483648) 0 hJ rg_75_0_0_1 (by first | decide | omega) (by first | decide | omega) (by first | decide | omega)
  have f4 := jF (e := 0) (v := 2147483648) 0 hF rg_75_0_0_1 (by first | decide | omega) (by first | decide | omega) (by decide)
  generalize e3 : x_up h 75 0 2147483648 = h1 at j2 f4 ⊢
  refine x_aload (np := 6) (x := 0) (by decide +kernel) rfl (x_nc_le (by decide)) ?_
  refine x_aload (np := 7) (x := 0) (by decide +kernel) rfl (x_nc_le (by decide)) ?_
  refine x_iload (np := 8) (x := 1) (by decide +kernel) rfl la1 ?_
  refine x_nI (t := 6) (mj := 159) (n := 2) (rc := 12) (ml := 2) (nr := 1) (np := 11) (as := [x_r 75, iv_c a1]) (rest := [x_r 75]) (lo1 := [x_r 75, iv_c a1]) (by decide +kernel) (by decide) (by decide +kernel) (x_rb_of (by decide +kernel)) rfl rfl (x_wr (by decide) (x_wi la1 x_wn)) (x_wr (by decide) x_wn) (by decide) rfl ?_
  refine x_aload (np := 1) (x := 0) (by decide +kernel) rfl (x_nc_le (by decide)) ?_
  refine x_iload (np := 2) (x := 1) (by decide +kernel) rfl la1 ?_
  refine x_const (np := 3) (x := 9223372039002259456) (a := 2147483648) (by decide +kernel) (by decide) (by decide) ?_
  refine x_nI (t := 6) (mj := 158) (n := 3) (rc := 12) (ml := 3) (nr := 0) (np := 6) (as := [x_r 75, iv_c a1, iv_c 2147483648]) (rest := []) (lo1 := [x_r 75, iv_c a1, iv_c 2147483648]) (by decide +kernel) (by decide) (by decide +kernel) (x_rb_of (by decide +kernel)) rfl rfl (x_wr (by decide) (x_wi la1 (x_wi (by decide) x_wn))) x_wn (by decide) rfl ?_
  refine x_iload (np := 1) (x := 1) (by decide +kernel) rfl la1 ?_
  refine x_const (np := 2) (x := 9223372039002259456) (a := 2147483648) (by decide +kernel) (by decide) (by decide) ?_
  refine x_aload (np := 3) (x := 0) (by decide +kernel) rfl (x_nc_le (by decide)) ?_
  have q5 : h1 75 1 = 76 := by have z := jB (e := 1) 0 j2 rg_75_1_0_1 (by decide) (by decide); omega
  refine x_getR (np := 6) (x := 705) (f := 1) (q := 76) (by decide +kernel) (by decide) (by decide +kernel) q5 ?_
  refine x_iload (np := 7) (x := 2) (by decide +kernel) rfl (by decide) ?_
  have q6 : h1 76 0 = h 76 0 := by rw [← e3]; exact x_up_k (by decide)
  have b7 := jB (e := 0) 0 hJ rg_76_0_0_1 (by first | decide | omega) (by first | decide | omega)
  refine x_aldC (np := 8) (x := 0) (n := 1952) (i := 0) (q := (h 76 0)) (by decide +kernel) (by decide +kernel) (by first | decide | omega) (by first | decide | omega) (by decide) q6 (fun l8 => ?_)
  refine x_const (np := 9) (x := 9223372043297226753) (a := 2147483649) (by decide +kernel) (by decide) (by decide) ?_
  obtain ⟨v9, q10⟩ : ∃ z, z + 2147483649 = (h 76 0) + 2147483648 := ⟨(h 76 0) + 2147483648 - 2147483649, by first | decide | omega⟩
  refine x_isub (np := 10) (x := 0) (v := v9) (by decide +kernel) l8 (by decide) (by first | decide | omega) (by first | decide | omega) ?_
  refine x_nI (t := 0) (mj := 153) (n := 3) (rc := 0) (ml := 3) (nr := 0) (np := 13) (as := [iv_c a1, iv_c 2147483648, iv_c v9]) (rest := []) (lo1 := [iv_c a1, iv_c 2147483648, iv_c v9]) (by decide +kernel) (by decide) (by decide +kernel) (Or.inl rfl) rfl rfl (x_wi la1 (x_wi (by decide) (x_wi (by first | decide | omega) x_wn))) x_wn (by decide) rfl ?_
  refine x_iload (np := 1) (x := 0) (by decide +kernel) rfl la1 ?_
  refine x_iload (np := 2) (x := 1) (by decide +kernel) rfl (by decide) ?_
  refine x_icmp (k := 2) (tg := 14) (np := 5) (by decide +kernel) (by decide) la1 (by decide) (fun q11 => ?_) (fun q12 => ?_)
  · have q11 : a1 < 2147483648 := q11
    refine x_const (np := 15) (x := 9223372039002259456) (a := 2147483648) (by decide +kernel) (by decide) (by decide) ?_
    refine x_retI (np := 16) (x := 0) (by decide +kernel) (by decide) (Or.inr ⟨by decide +kernel, by first | decide | omega, by first | decide | omega⟩) ⟨_, rfl, (by decide), ?_⟩
    refine x_ifz (k := 1) (tg := 20) (np := 16) (by decide +kernel) (by decide) (by decide) (fun q13 => ?_) (fun q14 => ?_)
    · have q13 : 2147483648 ≠ 2147483648 := q13
      exfalso; omega
    have q14 : ¬ (2147483648 ≠ 2147483648) := q14
    refine x_const (np := 17) (x := 9223372043297226753) (a := 2147483649) (by decide +kernel) (by decide) (by decide) ?_
    refine x_goto (np := 20) (x := 21) (by decide +kernel) ?_
    refine x_retI (np := 22) (x := 0) (by decide +kernel) (by decide) (Or.inr ⟨by decide +kernel, by first | decide | omega, by first | decide | omega⟩) ⟨_, rfl, (by decide), ?_⟩
    refine x_retI (np := 7) (x := 0) (by decide +kernel) (by decide) (Or.inr ⟨by decide +kernel, by first | decide | omega, by first | decide | omega⟩) ⟨_, rfl, (by decide), ?_⟩
    refine x_const (np := 12) (x := 9223372043297226753) (a := 2147483649) (by decide +kernel) (by decide) (by decide) ?_
    refine x_nI (t := 6) (mj := 152) (n := 3) (rc := 12) (ml := 3) (nr := 0) (np := 15) (as := [x_r 75, iv_c 2147483649, iv_c 2147483649]) (rest := []) (lo1 := [x_r 75, iv_c 2147483649, iv_c 2147483649]) (by decide +kernel) (by decide) (by decide +kernel) (x_rb_of (by decide +kernel)) rfl rfl (x_wr (by decide) (x_wi (by decide) (x_wi (by decide) x_wn))) x_wn (by decide) rfl ?_
    refine x_iload (np := 1) (x := 1) (by decide +kernel) rfl (by decide) ?_
    refine x_ifz (k := 0) (tg := 9) (np := 4) (by decide +kernel) (by decide) (by decide) (fun q15 => ?_) (fun q16 => ?_)
    · have q15 : 2147483649 = 2147483648 := q15
      exfalso; omega
    have q16 : ¬ (2147483649 = 2147483648) := q16
    refine x_aload (np := 5) (x := 0) (by decide +kernel) rfl (x_nc_le (by decide)) ?_
    refine x_iload (np := 6) (x := 2) (by decide +kernel) rfl (by decide) ?_
    refine x_putI (np := 9) (x := 704) (f := 0) (by decide +kernel) (by decide +kernel) (by decide) (Or.inl (by decide)) ?_
    have j18 := jU (e := 0) (v := 2147483649) 0 j2 rg_75_0_0_1 (by first | decide | omega) (by first | decide | omega) (by first | decide | omega)
    have f20 := jF (e := 0) (v := 2147483649) 0 f4 rg_75_0_0_1 (by first | decide | omega) (by first | decide | omega) (by decide)
    generalize e19 : x_up h1 75 0 2147483649 = h17 at j18 f20 ⊢
    refine x_iload (np := 10) (x := 1) (by decide +kernel) rfl (by decide) ?_
    refine x_retI (np := 11) (x := 0) (by decide +kernel) (by decide) (Or.inr ⟨by decide +kernel, by first | decide | omega, by first | decide | omega⟩) ⟨_, rfl, (by decide), ?_⟩
    refine x_ifz (k := 0) (tg := 20) (np := 18) (by decide +kernel) (by decide) (by decide) (fun q21 => ?_) (fun q22 => ?_)
    · have q21 : 2147483649 = 2147483648 := q21
      exfalso; omega
    have q22 : ¬ (2147483649 = 2147483648) := q22
    refine x_const (np := 19) (x := 9223372039002259456) (a := 2147483648) (by decide +kernel) (by decide) (by decide) ?_
    refine x_retI (np := 20) (x := 0) (by decide +kernel) (by decide) (Or.inl (by decide +kernel)) ⟨_, rfl, (by decide), ?_⟩
    exact ⟨j18, f20, (by first | decide | omega)⟩
  have q12 : ¬ (a1 < 2147483648) := q12
  refine x_iload (np := 6) (x := 0) (by decide +kernel) rfl la1 ?_
  refine x_iload (np := 7) (x := 2) (by decide +kernel) rfl (by first | decide | omega) ?_
  refine x_icmp (k := 4) (tg := 14) (np := 10) (by decide +kernel) (by decide) la1 (by first | decide | omega) (fun q23 => ?_) (fun q24 => ?_)
  · have q23 : v9 < a1 := q23
    refine x_const (np := 15) (x := 9223372039002259456) (a := 2147483648) (by decide +kernel) (by decide) (by decide) ?_
    refine x_retI (np := 16) (x := 0) (by decide +kernel) (by decide) (Or.inr ⟨by decide +kernel, by first | decide | omega, by first | decide | omega⟩) ⟨_, rfl, (by decide), ?_⟩
    refine x_ifz (k := 1) (tg := 20) (np := 16) (by decide +kernel) (by decide) (by decide) (fun q25 => ?_) (fun q26 => ?_)
    · have q25 : 2147483648 ≠ 2147483648 := q25
      exfalso; omega
    have q26 : ¬ (2147483648 ≠ 2147483648) := q26
    refine x_const (np := 17) (x := 9223372043297226753) (a := 2147483649) (by decide +kernel) (by decide) (by decide) ?_
    refine x_goto (np := 20) (x := 21) (by decide +kernel) ?_
    refine x_retI (np := 22) (x := 0) (by decide +kernel) (by decide) (Or.inr ⟨by decide +kernel, by first | decide | omega, by first | decide | omega⟩) ⟨_, rfl, (by decide), ?_⟩
    refine x_retI (np := 7) (x := 0) (by decide +kernel) (by decide) (Or.inr ⟨by decide +kernel, by first | decide | omega, by first | decide | omega⟩) ⟨_, rfl, (by decide), ?_⟩
    refine x_const (np := 12) (x := 9223372043297226753) (a := 2147483649) (by decide +kernel) (by decide) (by decide) ?_
    refine x_nI (t := 6) (mj := 152) (n := 3) (rc := 12) (ml := 3) (nr := 0) (np := 15) (as := [x_r 75, iv_c 2147483649, iv_c 2147483649]) (rest := []) (lo1 := [x_r 75, iv_c 2147483649, iv_c 2147483649]) (by decide +kernel) (by decide) (by decide +kernel) (x_rb_of (by decide +kernel)) rfl rfl (x_wr (by decide) (x_wi (by decide) (x_wi (by decide) x_wn))) x_wn (by decide) rfl ?_
    refine x_iload (np := 1) (x := 1) (by decide +kernel) rfl (by decide) ?_
    refine x_ifz (k := 0) (tg := 9) (np := 4) (by decide +kernel) (by decide) (by decide) (fun q27 => ?_) (fun q28 => ?_)
    · have q27 : 2147483649 = 2147483648 := q27
      exfalso; omega
    have q28 : ¬ (2147483649 = 2147483648) := q28
    refine x_aload (np := 5) (x := 0) (by decide +kernel) rfl (x_nc_le (by decide)) ?_
    refine x_iload (np := 6) (x := 2) (by decide +kernel) rfl (by decide) ?_
    refine x_putI (np := 9) (x := 704) (f := 0) (by decide +kernel) (by decide +kernel) (by decide) (Or.inl (by decide)) ?_
    have j30 := jU (e := 0) (v := 2147483649) 0 j2 rg_75_0_0_1 (by first | decide | omega) (by first | decide | omega) (by first | decide | omega)
    have f32 := jF (e := 0) (v := 2147483649) 0 f4 rg_75_0_0_1 (by first | decide | omega) (by first | decide | omega) (by decide)
    generalize e31 : x_up h1 75 0 2147483649 = h29 at j30 f32 ⊢
    refine x_iload (np := 10) (x := 1) (by decide +kernel) rfl (by decide) ?_
    refine x_retI (np := 11) (x := 0) (by decide +kernel) (by decide) (Or.inr ⟨by decide +kernel, by first | decide | omega, by first | decide | omega⟩) ⟨_, rfl, (by decide), ?_⟩
    refine x_ifz (k := 0) (tg := 20) (np := 18) (by decide +kernel) (by decide) (by decide) (fun q33 => ?_) (fun q34 => ?_)
    · have q33 : 2147483649 = 2147483648 := q33
      exfalso; omega
    have q34 : ¬ (2147483649 = 2147483648) := q34
    refine x_const (np := 19) (x := 9223372039002259456) (a := 2147483648) (by decide +kernel) (by decide) (by decide) ?_
    refine x_retI (np := 20) (x := 0) (by decide +kernel) (by decide) (Or.inl (by decide +kernel)) ⟨_, rfl, (by decide), ?_⟩
    exact ⟨j30, f32, (by first | decide | omega)⟩
  have q24 : ¬ (v9 < a1) := q24
  refine x_const (np := 11) (x := 9223372043297226753) (a := 2147483649) (by decide +kernel) (by decide) (by decide) ?_
  refine x_goto (np := 14) (x := 15) (by decide +kernel) ?_
  refine x_retI (np := 16) (x := 0) (by decide +kernel) (by decide) (Or.inr ⟨by decide +kernel, by first | decide | omega, by first | decide | omega⟩) ⟨_, rfl, (by decide), ?_⟩
  refine x_ifz (k := 1) (tg := 20) (np := 16) (by decide +kernel) (by decide) (by decide) (fun q35 => ?_) (fun q36 => ?_)
  · have q35 : 2147483649 ≠ 2147483648 := q35
    refine x_const (np := 21) (x := 9223372039002259456) (a := 2147483648) (by decide +kernel) (by decide) (by decide) ?_
    refine x_retI (np := 22) (x := 0) (by decide +kernel) (by decide) (Or.inr ⟨by decide +kernel, by first | decide | omega, by first | decide | omega⟩) ⟨_, rfl, (by decide), ?_⟩
    refine x_retI (np := 7) (x := 0) (by decide +kernel) (by decide) (Or.inr ⟨by decide +kernel, by first | decide | omega, by first | decide | omega⟩) ⟨_, rfl, (by decide), ?_⟩
    refine x_const (np := 12) (x := 9223372043297226753) (a := 2147483649) (by decide +kernel) (by decide) (by decide) ?_
    refine x_nI (t := 6) (mj := 152) (n := 3) (rc := 12) (ml := 3) (nr := 0) (np := 15) (as := [x_r 75, iv_c 2147483648, iv_c 2147483649]) (rest := []) (lo1 := [x_r 75, iv_c 2147483648, iv_c 2147483649]) (by decide +kernel) (by decide) (by decide +kernel) (x_rb_of (by decide +kernel)) rfl rfl (x_wr (by decide) (x_wi (by decide) (x_wi (by decide) x_wn))) x_wn (by decide) rfl ?_
    refine x_iload (np := 1) (x := 1) (by decide +kernel) rfl (by decide) ?_
    refine x_ifz (k := 0) (tg := 9) (np := 4) (by decide +kernel) (by decide) (by decide) (fun q37 => ?_) (fun q38 => ?_)
    · have q37 : 2147483648 = 2147483648 := q37
      refine x_iload (np := 10) (x := 1) (by decide +kernel) rfl (by decide) ?_
      refine x_retI (np := 11) (x := 0) (by decide +kernel) (by decide) (Or.inr ⟨by decide +kernel, by first | decide | omega, by first | decide | omega⟩) ⟨_, rfl, (by decide), ?_⟩
      refine x_ifz (k := 0) (tg := 20) (np := 18) (by decide +kernel) (by decide) (by decide) (fun q39 => ?_) (fun q40 => ?_)
      · have q39 : 2147483648 = 2147483648 := q39
        refine x_aload (np := 21) (x := 0) (by decide +kernel) rfl (x_nc_le (by decide)) ?_
        have m44 : WT 76 h1 := by rw [← e3]; exact WT.oth hW hJ (by decide)
        refine x_cV (t := 6) (mj := 210) (n := 1) (rc := 12) (ml := 5) (nr := 0) (np := 24) (as := [x_r 75]) (rest := []) (lo1 := [x_r 75, 147573952589676412928, 147573952589676412928, 147573952589676412928, 147573952589676412928]) (by decide +kernel) (by decide) (by decide +kernel) (x_rb_of (by decide +kernel)) rfl rfl (x_wr (by decide) x_wn) x_wn (by decide) rfl (c210_75 j2  m44) (fun h45 q43 => ?_)
        obtain ⟨j46, f47⟩ := q43
        have f50 := Fr.trans f4 f47 (by decide)
        refine x_const (np := 25) (x := 9223372039002259456) (a := 2147483648) (by decide +kernel) (by decide) (by decide) ?_
        refine x_istore (np := 26) (x := 2) (lo' := [x_r 75, iv_c a1, iv_c 2147483648, 147573952589676412928, 147573952589676412928]) (by decide +kernel) (by decide) (Nat.le_of_ble_eq_true rfl) rfl ?_
        refine x_const (np := 27) (x := 9223372039002259456) (a := 2147483648) (by decide +kernel) (by decide) (by decide) ?_
        refine x_istore (np := 28) (x := 3) (lo' := [x_r 75, iv_c a1, iv_c 2147483648, iv_c 2147483648, 147573952589676412928]) (by decide +kernel) (by decide) (Nat.le_of_ble_eq_true rfl) rfl ?_
        refine x_const (np := 29) (x := 9223372039002259456) (a := 2147483648) (by decide +kernel) (by decide) (by decide) ?_
        refine x_istore (np := 31) (x := 4) (lo' := [x_r 75, iv_c a1, iv_c 2147483648, iv_c 2147483648, iv_c 2147483648]) (by decide +kernel) (by decide) (Nat.le_of_ble_eq_true rfl) rfl ?_
        have p650 : ∀ (n : Nat) (v644 : Nat) (v646 : Nat) (v648 : Nat), 4294967296 - v648 < n → (2147483648 ≤ v644 ∧ v644 ≤ 4294967295) → (0 ≤ v646 ∧ v646 ≤ 4294967295) → (2147483648 ≤ v648 ∧ v648 ≤ 2147483660) → X sc 220 (d + 5) (xI fun r h' => J h' ∧ Fr 135291600897 h h' ∧ (2147483648 ≤ r ∧ r ≤ 4294967295)) 0 0 31 [x_r 75, iv_c a1, iv_c v644, iv_c v646, iv_c v648] [] h45 := by
          intro n
          induction n with
          | zero => intro v644 v646 v648 q651; exact absurd q651 (Nat.not_lt_zero _)
          | succ n i652 =>
            intro v644 v646 v648 q651 b645 b647 b649
            refine x_iload (np := 33) (x := 4) (by decide +kernel) rfl (by first | decide | omega) ?_
            refine x_const (np := 35) (x := 9223372090541867020) (a := 2147483660) (by decide +kernel) (by decide) (by decide) ?_
            refine x_icmp (k := 3) (tg := 68) (np := 38) (by decide +kernel) (by decide) (by first | decide | omega) (by decide) (fun q653 => ?_) (fun q654 => ?_)
            · have q653 : 2147483660 ≤ v648 := q653
              refine x_iload (np := 69) (x := 2) (by decide +kernel) rfl (by first | decide | omega) ?_
              refine x_retI (np := 70) (x := 0) (by decide +kernel) (by first | decide | omega) (Or.inl (by decide +kernel)) ⟨_, rfl, (by first | decide | omega), ?_⟩
              exact ⟨j46, f50, (by first | decide | omega)⟩
            have q654 : ¬ (2147483660 ≤ v648) := q654
            refine x_aload (np := 39) (x := 0) (by decide +kernel) rfl (x_nc_le (by decide)) ?_
            refine x_iload (np := 40) (x := 1) (by decide +kernel) rfl la1 ?_
            refine x_iload (np := 42) (x := 4) (by decide +kernel) rfl (by first | decide | omega) ?_
            refine x_cP (t := 6) (mj := 218) (n := 3) (rc := 12) (ml := 5) (nr := 0) (np := 45) (as := [x_r 75, iv_c a1, iv_c v648]) (rest := []) (lo1 := [x_r 75, iv_c a1, iv_c v648, 147573952589676412928, 147573952589676412928]) (by decide +kernel) (by decide) (by decide +kernel) (x_rb_of (by decide +kernel)) rfl rfl (x_wr (by decide) (x_wi la1 (x_wi (by first | decide | omega) x_wn))) x_wn (by decide) rfl (c218_75 j46  (by first | decide | omega) (by first | decide | omega)) (fun v655 l656 q657 => ?_)
            refine x_ifz (k := 0) (tg := 54) (np := 48) (by decide +kernel) (by decide) l656 (fun q658 => ?_) (fun q659 => ?_)
            · have q658 : v655 = 2147483648 := q658
              refine x_const (np := 55) (x := 9223372039002259456) (a := 2147483648) (by decide +kernel) (by decide) (by decide) ?_
              refine x_istore (np := 56) (x := 3) (lo' := [x_r 75, iv_c a1, iv_c v644, iv_c 2147483648, iv_c v648]) (by decide +kernel) (by decide) (Nat.le_of_ble_eq_true rfl) rfl ?_
              refine x_iload (np := 57) (x := 2) (by decide +kernel) rfl (by first | decide | omega) ?_
              refine x_iload (np := 58) (x := 3) (by decide +kernel) rfl (by decide) ?_
              refine x_max (np := 61) (by decide +kernel) (by first | decide | omega) (by decide) (Nat.le_trans (x_wi (by decide) (x_wi (by first | decide | omega) x_wn)) (by decide)) ?_
              obtain ⟨v660, q661⟩ : ∃ w, w = max v644 2147483648 := ⟨_, rfl⟩
              rw [← q661]
              have b662 : v644 ≤ v660 ∧ 2147483648 ≤ v660 := by first | decide | omega
              refine x_istore (np := 62) (x := 2) (lo' := [x_r 75, iv_c a1, iv_c v660, iv_c 2147483648, iv_c v648]) (by decide +kernel) (by first | decide | omega) (Nat.le_of_ble_eq_true rfl) rfl ?_
              refine x_iinc (np := 65) (i := 4) (j := 2147483649) (v := (1 + v648)) (lo' := [x_r 75, iv_c a1, iv_c v660, iv_c 2147483648, iv_c (1 + v648)]) (by decide +kernel) (by decide) (by decide) rfl (by first | decide | omega) (by first | decide | omega) (by first | decide | omega) rfl ?_
              refine x_goto (np := 68) (x := 31) (by decide +kernel) ?_
              exact i652 v660 2147483648 (1 + v648) (by first | decide | omega) (by first | decide | omega) (by first | decide | omega) (by first | decide | omega)
            have q659 : ¬ (v655 = 2147483648) := q659
            refine x_iload (np := 49) (x := 3) (by decide +kernel) rfl (by first | decide | omega) ?_
            refine x_const (np := 50) (x := 9223372043297226753) (a := 2147483649) (by decide +kernel) (by decide) (by decide) ?_
            refine x_addA (by rw [tb_b220]; decide +kernel) (by first | decide | omega) (by decide) (fun v663 l664 => ?_)
            refine x_goto (np := 54) (x := 55) (by decide +kernel) ?_
            refine x_istore (np := 56) (x := 3) (lo' := [x_r 75, iv_c a1, iv_c v644, iv_c v663, iv_c v648]) (by decide +kernel) l664 (Nat.le_of_ble_eq_true rfl) rfl ?_
            refine x_iload (np := 57) (x := 2) (by decide +kernel) rfl (by first | decide | omega) ?_
            refine x_iload (np := 58) (x := 3) (by decide +kernel) rfl l664 ?_
            refine x_max (np := 61) (by decide +kernel) (by first | decide | omega) l664 (Nat.le_trans (x_wi l664 (x_wi (by first | decide | omega) x_wn)) (by decide)) ?_
            obtain ⟨v665, q666⟩ : ∃ w, w = max v644 v663 := ⟨_, rfl⟩
            rw [← q666]
            have b667 : v644 ≤ v665 ∧ v663 ≤ v665 := by first | decide | omega
            refine x_istore (np := 62) (x := 2) (lo' := [x_r 75, iv_c a1, iv_c v665, iv_c v663, iv_c v648]) (by decide +kernel) (by first | decide | omega) (Nat.le_of_ble_eq_true rfl) rfl ?_
            refine x_iinc (np := 65) (i := 4) (j := 2147483649) (v := (1 + v648)) (lo' := [x_r 75, iv_c a1, iv_c v665, iv_c v663, iv_c (1 + v648)]) (by decide +kernel) (by decide) (by decide) rfl (by first | decide | omega) (by first | decide | omega) (by first | decide | omega) rfl ?_
            refine x_goto (np := 68) (x := 31) (by decide +kernel) ?_
            exact i652 v665 v663 (1 + v648) (by first | decide | omega) (by first | decide | omega) (by first | decide | omega) (by first | decide | omega)
        exact p650 _ 2147483648 2147483648 2147483648 (Nat.lt_succ_self _) (by first | decide | omega) (by first | decide | omega) (by first | decide | omega)
      have q40 : ¬ (2147483648 = 2147483648) := q40
      exfalso; omega
    have q38 : ¬ (2147483648 = 2147483648) := q38
    exfalso; omega
  have q36 : ¬ (2147483649 ≠ 2147483648) := q36
  exfalso; omega
set_option maxHeartbeats 0 in
/-- LentNamesModel.lives(II)Z -/
theorem c221_75 {sc : Nat × Nat} {d a1 a2 : Nat} {h : xh} (hJ : J h) (ba1 : 0 ≤ a1 ∧ a1 ≤ 4294967295) (ba2 : 0 ≤ a2 ∧ a2 ≤ 4294967295) : X sc 221 (d + 3) (xI fun r h' => J h' ∧ Fr 131072 h h' ∧ (2147483648 ≤ r ∧ r ≤ 2147483649) ∧ Lf h h' a1 a2 r) 0 0 0 [x_r 75, iv_c a1, iv_c a2] [] h := by
  have la1 : a1 < 4294967296 := by first | decide | omega
  have la2 : a2 < 4294967296 := by first | decide | omega
  have hF := Fr.refl 131072 h
  refine x_aload (np := 1) (x := 0) (by decide +kernel) rfl (x_nc_le (by decide)) ?_
  refine x_const (np := 2) (x := 9223372039002259456) (a := 2147483648) (by decide +kernel) (by decide) (by decide) ?_
  refine x_putI (np := 5) (x := 704) (f := 0) (by decide +kernel) (by decide +kernel) (by decide) (Or.inl (by decide)) ?_
  have j2 := jU (e := 0) (v := 2147483648) 0 hJ rg_75_0_0_1 (by first | decide | omega) (by first | decide | omega) (by first | decide | omega)
  have f4 := jF (e := 0) (v := 2147483648) 0 hF rg_75_0_0_1 (by first | decide | omega) (by first | decide | omega) (by decide)
  generalize e3 : x_up h 75 0 2147483648 = h1 at j2 f4 ⊢
  refine x_aload (np := 6) (x := 0) (by decide +kernel) rfl (x_nc_le (by decide)) ?_
  refine x_aload (np := 7) (x := 0) (by decide +kernel) rfl (x_nc_le (by decide)) ?_
  refine x_iload (np := 8) (x := 1) (by decide +kernel) rfl la1 ?_
  refine x_nI (t := 6) (mj := 159) (n := 2) (rc := 12) (ml := 2) (nr := 1) (np := 11) (as := [x_r 75, iv_c a1]) (rest := [x_r 75]) (lo1 := [x_r 75, iv_c a1]) (by decide +kernel) (by decide) (by decide +kernel) (x_rb_of (by decide +kernel)) rfl rfl (x_wr (by decide) (x_wi la1 x_wn)) (x_wr (by decide) x_wn) (by decide) rfl ?_
  refine x_aload (np := 1) (x := 0) (by decide +kernel) rfl (x_nc_le (by decide)) ?_
  refine x_iload (np := 2) (x := 1) (by decide +kernel) rfl la1 ?_
  refine x_const (np := 3) (x := 9223372039002259456) (a := 2147483648) (by decide +kernel) (by decide) (by decide) ?_
  refine x_nI (t := 6) (mj := 158) (n := 3) (rc := 12) (ml := 3) (nr := 0) (np := 6) (as := [x_r 75, iv_c a1, iv_c 2147483648]) (rest := []) (lo1 := [x_r 75, iv_c a1, iv_c 2147483648]) (by decide +kernel) (by decide) (by decide +kernel) (x_rb_of (by decide +kernel)) rfl rfl (x_wr (by decide) (x_wi la1 (x_wi (by decide) x_wn))) x_wn (by decide) rfl ?_
  refine x_iload (np := 1) (x := 1) (by decide +kernel) rfl la1 ?_
  refine x_const (np := 2) (x := 9223372039002259456) (a := 2147483648) (by decide +kernel) (by decide) (by decide) ?_
  refine x_aload (np := 3) (x := 0) (by decide +kernel) rfl (x_nc_le (by decide)) ?_
  have q5 : h1 75 1 = 76 := by have z := jB (e := 1) 0 j2 rg_75_1_0_1 (by decide) (by decide); omega
  refine x_getR (np := 6) (x := 705) (f := 1) (q := 76) (by decide +kernel) (by decide) (by decide +kernel) q5 ?_
  refine x_iload (np := 7) (x := 2) (by decide +kernel) rfl (by decide) ?_
  have q6 : h1 76 0 = h 76 0 := by rw [← e3]; exact x_up_k (by decide)
  have b7 := jB (e := 0) 0 hJ rg_76_0_0_1 (by first | decide | omega) (by first | decide | omega)
  refine x_aldC (np := 8) (x := 0) (n := 1952) (i := 0) (q := (h 76 0)) (by decide +kernel) (by decide +kernel) (by first | decide | omega) (by first | decide | omega) (by decide) q6 (fun l8 => ?_)
  refine x_const (np := 9) (x := 9223372043297226753) (a := 2147483649) (by decide +kernel) (by decide) (by decide) ?_
  obtain ⟨v9, q10⟩ : ∃ z, z + 2147483649 = (h 76 0) + 2147483648 := ⟨(h 76 0) + 2147483648 - 2147483649, by first | decide | omega⟩
  refine x_isub (np := 10) (x := 0) (v := v9) (by decide +kernel) l8 (by decide) (by first | decide | omega) (by first | decide | omega) ?_
  refine x_nI (t := 0) (mj := 153) (n := 3) (rc := 0) (ml := 3) (nr := 0) (np := 13) (as := [iv_c a1, iv_c 2147483648, iv_c v9]) (rest := []) (lo1 := [iv_c a1, iv_c 2147483648, iv_c v9]) (by decide +kernel) (by decide) (by decide +kernel) (Or.inl rfl) rfl rfl (x_wi la1 (x_wi (by decide) (x_wi (by first | decide | omega) x_wn))) x_wn (by decide) rfl ?_
  refine x_iload (np := 1) (x := 0) (by decide +kernel) rfl la1 ?_
  refine x_iload (np := 2) (x := 1) (by decide +kernel) rfl (by decide) ?_
  refine x_icmp (k := 2) (tg := 14) (np := 5) (by decide +kernel) (by decide) la1 (by decide) (fun q11 => ?_) (fun q12 => ?_)
  · have q11 : a1 < 2147483648 := q11
    refine x_const (np := 15) (x := 9223372039002259456) (a := 2147483648) (by decide +kernel) (by decide) (by decide) ?_
    refine x_retI (np := 16) (x := 0) (by decide +kernel) (by decide) (Or.inr ⟨by decide +kernel, by first | decide | omega, by first | decide | omega⟩) ⟨_, rfl, (by decide), ?_⟩
    refine x_ifz (k := 1) (tg := 20) (np := 16) (by decide +kernel) (by decide) (by decide) (fun q13 => ?_) (fun q14 => ?_)
    · have q13 : 2147483648 ≠ 2147483648 := q13
      exfalso; omega
    have q14 : ¬ (2147483648 ≠ 2147483648) := q14
    refine x_const (np := 17) (x := 9223372043297226753) (a := 2147483649) (by decide +kernel) (by decide) (by decide) ?_
    refine x_goto (np := 20) (x := 21) (by decide +kernel) ?_
    refine x_retI (np := 22) (x := 0) (by decide +kernel) (by decide) (Or.inr ⟨by decide +kernel, by first | decide | omega, by first | decide | omega⟩) ⟨_, rfl, (by decide), ?_⟩
    refine x_retI (np := 7) (x := 0) (by decide +kernel) (by decide) (Or.inr ⟨by decide +kernel, by first | decide | omega, by first | decide | omega⟩) ⟨_, rfl, (by decide), ?_⟩
    refine x_ifz (k := 1) (tg := 21) (np := 14) (by decide +kernel) (by decide) (by decide) (fun q15 => ?_) (fun q16 => ?_)
    · have q15 : 2147483649 ≠ 2147483648 := q15
      refine x_const (np := 22) (x := 9223372043297226753) (a := 2147483649) (by decide +kernel) (by decide) (by decide) ?_
      refine x_goto (np := 25) (x := 26) (by decide +kernel) ?_
      refine x_const (np := 27) (x := 9223372043297226753) (a := 2147483649) (by decide +kernel) (by decide) (by decide) ?_
      refine x_nI (t := 6) (mj := 152) (n := 3) (rc := 12) (ml := 3) (nr := 0) (np := 30) (as := [x_r 75, iv_c 2147483649, iv_c 2147483649]) (rest := []) (lo1 := [x_r 75, iv_c 2147483649, iv_c 2147483649]) (by decide +kernel) (by decide) (by decide +kernel) (x_rb_of (by decide +kernel)) rfl rfl (x_wr (by decide) (x_wi (by decide) (x_wi (by decide) x_wn))) x_wn (by decide) rfl ?_
      refine x_iload (np := 1) (x := 1) (by decide +kernel) rfl (by decide) ?_
      refine x_ifz (k := 0) (tg := 9) (np := 4) (by decide +kernel) (by decide) (by decide) (fun q17 => ?_) (fun q18 => ?_)
      · have q17 : 2147483649 = 2147483648 := q17
        exfalso; omega
      have q18 : ¬ (2147483649 = 2147483648) := q18
      refine x_aload (np := 5) (x := 0) (by decide +kernel) rfl (x_nc_le (by decide)) ?_
      refine x_iload (np := 6) (x := 2) (by decide +kernel) rfl (by decide) ?_
      refine x_putI (np := 9) (x := 704) (f := 0) (by decide +kernel) (by decide +kernel) (by decide) (Or.inl (by decide)) ?_
      have j20 := jU (e := 0) (v := 2147483649) 0 j2 rg_75_0_0_1 (by first | decide | omega) (by first | decide | omega) (by first | decide | omega)
      have f22 := jF (e := 0) (v := 2147483649) 0 f4 rg_75_0_0_1 (by first | decide | omega) (by first | decide | omega) (by decide)
      generalize e21 : x_up h1 75 0 2147483649 = h19 at j20 f22 ⊢
      refine x_iload (np := 10) (x := 1) (by decide +kernel) rfl (by decide) ?_
      refine x_retI (np := 11) (x := 0) (by decide +kernel) (by decide) (Or.inr ⟨by decide +kernel, by first | decide | omega, by first | decide | omega⟩) ⟨_, rfl, (by decide), ?_⟩
      refine x_ifz (k := 1) (tg := 46) (np := 33) (by decide +kernel) (by decide) (by decide) (fun q23 => ?_) (fun q24 => ?_)
      · have q23 : 2147483649 ≠ 2147483648 := q23
        refine x_const (np := 47) (x := 9223372039002259456) (a := 2147483648) (by decide +kernel) (by decide) (by decide) ?_
        have q25 : h19 75 0 = 2147483649 := by rw [← e21]; exact x_up_at
        refine x_retI (np := 48) (x := 0) (by decide +kernel) (by decide) (Or.inr ⟨by decide +kernel, by first | decide | omega, by first | decide | omega⟩) ⟨_, rfl, (by decide), ?_⟩
        exact ⟨j20, f22, (by first | decide | omega), (Or.inr ⟨by first | decide | omega, by first | decide | omega⟩)⟩
      have q24 : ¬ (2147483649 ≠ 2147483648) := q24
      exfalso; omega
    have q16 : ¬ (2147483649 ≠ 2147483648) := q16
    exfalso; omega
  have q12 : ¬ (a1 < 2147483648) := q12
  refine x_iload (np := 6) (x := 0) (by decide +kernel) rfl la1 ?_
  refine x_iload (np := 7) (x := 2) (by decide +kernel) rfl (by first | decide | omega) ?_
  refine x_icmp (k := 4) (tg := 14) (np := 10) (by decide +kernel) (by decide) la1 (by first | decide | omega) (fun q26 => ?_) (fun q27 => ?_)
  · have q26 : v9 < a1 := q26
    refine x_const (np := 15) (x := 9223372039002259456) (a := 2147483648) (by decide +kernel) (by decide) (by decide) ?_
    refine x_retI (np := 16) (x := 0) (by decide +kernel) (by decide) (Or.inr ⟨by decide +kernel, by first | decide | omega, by first | decide | omega⟩) ⟨_, rfl, (by decide), ?_⟩
    refine x_ifz (k := 1) (tg := 20) (np := 16) (by decide +kernel) (by decide) (by decide) (fun q28 => ?_) (fun q29 => ?_)
    · have q28 : 2147483648 ≠ 2147483648 := q28
      exfalso; omega
    have q29 : ¬ (2147483648 ≠ 2147483648) := q29
    refine x_const (np := 17) (x := 9223372043297226753) (a := 2147483649) (by decide +kernel) (by decide) (by decide) ?_
    refine x_goto (np := 20) (x := 21) (by decide +kernel) ?_
    refine x_retI (np := 22) (x := 0) (by decide +kernel) (by decide) (Or.inr ⟨by decide +kernel, by first | decide | omega, by first | decide | omega⟩) ⟨_, rfl, (by decide), ?_⟩
    refine x_retI (np := 7) (x := 0) (by decide +kernel) (by decide) (Or.inr ⟨by decide +kernel, by first | decide | omega, by first | decide | omega⟩) ⟨_, rfl, (by decide), ?_⟩
    refine x_ifz (k := 1) (tg := 21) (np := 14) (by decide +kernel) (by decide) (by decide) (fun q30 => ?_) (fun q31 => ?_)
    · have q30 : 2147483649 ≠ 2147483648 := q30
      refine x_const (np := 22) (x := 9223372043297226753) (a := 2147483649) (by decide +kernel) (by decide) (by decide) ?_
      refine x_goto (np := 25) (x := 26) (by decide +kernel) ?_
      refine x_const (np := 27) (x := 9223372043297226753) (a := 2147483649) (by decide +kernel) (by decide) (by decide) ?_
      refine x_nI (t := 6) (mj := 152) (n := 3) (rc := 12) (ml := 3) (nr := 0) (np := 30) (as := [x_r 75, iv_c 2147483649, iv_c 2147483649]) (rest := []) (lo1 := [x_r 75, iv_c 2147483649, iv_c 2147483649]) (by decide +kernel) (by decide) (by decide +kernel) (x_rb_of (by decide +kernel)) rfl rfl (x_wr (by decide) (x_wi (by decide) (x_wi (by decide) x_wn))) x_wn (by decide) rfl ?_
      refine x_iload (np := 1) (x := 1) (by decide +kernel) rfl (by decide) ?_
      refine x_ifz (k := 0) (tg := 9) (np := 4) (by decide +kernel) (by decide) (by decide) (fun q32 => ?_) (fun q33 => ?_)
      · have q32 : 2147483649 = 2147483648 := q32
        exfalso; omega
      have q33 : ¬ (2147483649 = 2147483648) := q33
      refine x_aload (np := 5) (x := 0) (by decide +kernel) rfl (x_nc_le (by decide)) ?_
      refine x_iload (np := 6) (x := 2) (by decide +kernel) rfl (by decide) ?_
      refine x_putI (np := 9) (x := 704) (f := 0) (by decide +kernel) (by decide +kernel) (by decide) (Or.inl (by decide)) ?_
      have j35 := jU (e := 0) (v := 2147483649) 0 j2 rg_75_0_0_1 (by first | decide | omega) (by first | decide | omega) (by first | decide | omega)
      have f37 := jF (e := 0) (v := 2147483649) 0 f4 rg_75_0_0_1 (by first | decide | omega) (by first | decide | omega) (by decide)
      generalize e36 : x_up h1 75 0 2147483649 = h34 at j35 f37 ⊢
      refine x_iload (np := 10) (x := 1) (by decide +kernel) rfl (by decide) ?_
      refine x_retI (np := 11) (x := 0) (by decide +kernel) (by decide) (Or.inr ⟨by decide +kernel, by first | decide | omega, by first | decide | omega⟩) ⟨_, rfl, (by decide), ?_⟩
      refine x_ifz (k := 1) (tg := 46) (np := 33) (by decide +kernel) (by decide) (by decide) (fun q38 => ?_) (fun q39 => ?_)
      · have q38 : 2147483649 ≠ 2147483648 := q38
        refine x_const (np := 47) (x := 9223372039002259456) (a := 2147483648) (by decide +kernel) (by decide) (by decide) ?_
        have q40 : h34 75 0 = 2147483649 := by rw [← e36]; exact x_up_at
        refine x_retI (np := 48) (x := 0) (by decide +kernel) (by decide) (Or.inr ⟨by decide +kernel, by first | decide | omega, by first | decide | omega⟩) ⟨_, rfl, (by decide), ?_⟩
        exact ⟨j35, f37, (by first | decide | omega), (Or.inr ⟨by first | decide | omega, by first | decide | omega⟩)⟩
      have q39 : ¬ (2147483649 ≠ 2147483648) := q39
      exfalso; omega
    have q31 : ¬ (2147483649 ≠ 2147483648) := q31
    exfalso; omega
  have q27 : ¬ (v9 < a1) := q27
  refine x_const (np := 11) (x := 9223372043297226753) (a := 2147483649) (by decide +kernel) (by decide) (by decide) ?_
  refine x_goto (np := 14) (x := 15) (by decide +kernel) ?_
  refine x_retI (np := 16) (x := 0) (by decide +kernel) (by decide) (Or.inr ⟨by decide +kernel, by first | decide | omega, by first | decide | omega⟩) ⟨_, rfl, (by decide), ?_⟩
  refine x_ifz (k := 1) (tg := 20) (np := 16) (by decide +kernel) (by decide) (by decide) (fun q41 => ?_) (fun q42 => ?_)
  · have q41 : 2147483649 ≠ 2147483648 := q41
    refine x_const (np := 21) (x := 9223372039002259456) (a := 2147483648) (by decide +kernel) (by decide) (by decide) ?_
    refine x_retI (np := 22) (x := 0) (by decide +kernel) (by decide) (Or.inr ⟨by decide +kernel, by first | decide | omega, by first | decide | omega⟩) ⟨_, rfl, (by decide), ?_⟩
    refine x_retI (np := 7) (x := 0) (by decide +kernel) (by decide) (Or.inr ⟨by decide +kernel, by first | decide | omega, by first | decide | omega⟩) ⟨_, rfl, (by decide), ?_⟩
    refine x_ifz (k := 1) (tg := 21) (np := 14) (by decide +kernel) (by decide) (by decide) (fun q43 => ?_) (fun q44 => ?_)
    · have q43 : 2147483648 ≠ 2147483648 := q43
      exfalso; omega
    have q44 : ¬ (2147483648 ≠ 2147483648) := q44
    refine x_iload (np := 15) (x := 2) (by decide +kernel) rfl la2 ?_
    refine x_nI (t := 0) (mj := 160) (n := 1) (rc := 0) (ml := 1) (nr := 1) (np := 18) (as := [iv_c a2]) (rest := [x_r 75]) (lo1 := [iv_c a2]) (by decide +kernel) (by decide) (by decide +kernel) (Or.inl rfl) rfl rfl (x_wi la2 x_wn) (x_wr (by decide) x_wn) (by decide) rfl ?_
    refine x_iload (np := 1) (x := 0) (by decide +kernel) rfl la2 ?_
    refine x_const (np := 2) (x := 9223372039002259456) (a := 2147483648) (by decide +kernel) (by decide) (by decide) ?_
    refine x_const (np := 4) (x := 9223372086246899723) (a := 2147483659) (by decide +kernel) (by decide) (by decide) ?_
    refine x_nI (t := 0) (mj := 153) (n := 3) (rc := 0) (ml := 3) (nr := 0) (np := 7) (as := [iv_c a2, iv_c 2147483648, iv_c 2147483659]) (rest := []) (lo1 := [iv_c a2, iv_c 2147483648, iv_c 2147483659]) (by decide +kernel) (by decide) (by decide +kernel) (Or.inl rfl) rfl rfl (x_wi la2 (x_wi (by decide) (x_wi (by decide) x_wn))) x_wn (by decide) rfl ?_
    refine x_iload (np := 1) (x := 0) (by decide +kernel) rfl la2 ?_
    refine x_iload (np := 2) (x := 1) (by decide +kernel) rfl (by decide) ?_
    refine x_icmp (k := 2) (tg := 14) (np := 5) (by decide +kernel) (by decide) la2 (by decide) (fun q45 => ?_) (fun q46 => ?_)
    · have q45 : a2 < 2147483648 := q45
      refine x_const (np := 15) (x := 9223372039002259456) (a := 2147483648) (by decide +kernel) (by decide) (by decide) ?_
      refine x_retI (np := 16) (x := 0) (by decide +kernel) (by decide) (Or.inr ⟨by decide +kernel, by first | decide | omega, by first | decide | omega⟩) ⟨_, rfl, (by decide), ?_⟩
      refine x_ifz (k := 1) (tg := 14) (np := 10) (by decide +kernel) (by decide) (by decide) (fun q47 => ?_) (fun q48 => ?_)
      · have q47 : 2147483648 ≠ 2147483648 := q47
        exfalso; omega
      have q48 : ¬ (2147483648 ≠ 2147483648) := q48
      refine x_const (np := 11) (x := 9223372043297226753) (a := 2147483649) (by decide +kernel) (by decide) (by decide) ?_
      refine x_goto (np := 14) (x := 15) (by decide +kernel) ?_
      refine x_retI (np := 16) (x := 0) (by decide +kernel) (by decide) (Or.inr ⟨by decide +kernel, by first | decide | omega, by first | decide | omega⟩) ⟨_, rfl, (by decide), ?_⟩
      refine x_ifz (k := 0) (tg := 25) (np := 21) (by decide +kernel) (by decide) (by decide) (fun q49 => ?_) (fun q50 => ?_)
      · have q49 : 2147483649 = 2147483648 := q49
        exfalso; omega
      have q50 : ¬ (2147483649 = 2147483648) := q50
      refine x_const (np := 22) (x := 9223372043297226753) (a := 2147483649) (by decide +kernel) (by decide) (by decide) ?_
      refine x_goto (np := 25) (x := 26) (by decide +kernel) ?_
      refine x_const (np := 27) (x := 9223372043297226753) (a := 2147483649) (by decide +kernel) (by decide) (by decide) ?_
      refine x_nI (t := 6) (mj := 152) (n := 3) (rc := 12) (ml := 3) (nr := 0) (np := 30) (as := [x_r 75, iv_c 2147483649, iv_c 2147483649]) (rest := []) (lo1 := [x_r 75, iv_c 2147483649, iv_c 2147483649]) (by decide +kernel) (by decide) (by decide +kernel) (x_rb_of (by decide +kernel)) rfl rfl (x_wr (by decide) (x_wi (by decide) (x_wi (by decide) x_wn))) x_wn (by decide) rfl ?_
      refine x_iload (np := 1) (x := 1) (by decide +kernel) rfl (by decide) ?_
      refine x_ifz (k := 0) (tg := 9) (np := 4) (by decide +kernel) (by decide) (by decide) (fun q51 => ?_) (fun q52 => ?_)
      · have q51 : 2147483649 = 2147483648 := q51
        exfalso; omega
      have q52 : ¬ (2147483649 = 2147483648) := q52
      refine x_aload (np := 5) (x := 0) (by decide +kernel) rfl (x_nc_le (by decide)) ?_
      refine x_iload (np := 6) (x := 2) (by decide +kernel) rfl (by decide) ?_
      refine x_putI (np := 9) (x := 704) (f := 0) (by decide +kernel) (by decide +kernel) (by decide) (Or.inl (by decide)) ?_
      have j54 := jU (e := 0) (v := 2147483649) 0 j2 rg_75_0_0_1 (by first | decide | omega) (by first | decide | omega) (by first | decide | omega)
      have f56 := jF (e := 0) (v := 2147483649) 0 f4 rg_75_0_0_1 (by first | decide | omega) (by first | decide | omega) (by decide)
      generalize e55 : x_up h1 75 0 2147483649 = h53 at j54 f56 ⊢
      refine x_iload (np := 10) (x := 1) (by decide +kernel) rfl (by decide) ?_
      refine x_retI (np := 11) (x := 0) (by decide +kernel) (by decide) (Or.inr ⟨by decide +kernel, by first | decide | omega, by first | decide | omega⟩) ⟨_, rfl, (by decide), ?_⟩
      refine x_ifz (k := 1) (tg := 46) (np := 33) (by decide +kernel) (by decide) (by decide) (fun q57 => ?_) (fun q58 => ?_)
      · have q57 : 2147483649 ≠ 2147483648 := q57
        refine x_const (np := 47) (x := 9223372039002259456) (a := 2147483648) (by decide +kernel) (by decide) (by decide) ?_
        have q59 : h53 75 0 = 2147483649 := by rw [← e55]; exact x_up_at
        refine x_retI (np := 48) (x := 0) (by decide +kernel) (by decide) (Or.inr ⟨by decide +kernel, by first | decide | omega, by first | decide | omega⟩) ⟨_, rfl, (by decide), ?_⟩
        exact ⟨j54, f56, (by first | decide | omega), (Or.inr ⟨by first | decide | omega, by first | decide | omega⟩)⟩
      have q58 : ¬ (2147483649 ≠ 2147483648) := q58
      exfalso; omega
    have q46 : ¬ (a2 < 2147483648) := q46
    refine x_iload (np := 6) (x := 0) (by decide +kernel) rfl la2 ?_
    refine x_iload (np := 7) (x := 2) (by decide +kernel) rfl (by decide) ?_
    refine x_icmp (k := 4) (tg := 14) (np := 10) (by decide +kernel) (by decide) la2 (by decide) (fun q60 => ?_) (fun q61 => ?_)
    · have q60 : 2147483659 < a2 := q60
      refine x_const (np := 15) (x := 9223372039002259456) (a := 2147483648) (by decide +kernel) (by decide) (by decide) ?_
      refine x_retI (np := 16) (x := 0) (by decide +kernel) (by decide) (Or.inr ⟨by decide +kernel, by first | decide | omega, by first | decide | omega⟩) ⟨_, rfl, (by decide), ?_⟩
      refine x_ifz (k := 1) (tg := 14) (np := 10) (by decide +kernel) (by decide) (by decide) (fun q62 => ?_) (fun q63 => ?_)
      · have q62 : 2147483648 ≠ 2147483648 := q62
        exfalso; omega
      have q63 : ¬ (2147483648 ≠ 2147483648) := q63
      refine x_const (np := 11) (x := 9223372043297226753) (a := 2147483649) (by decide +kernel) (by decide) (by decide) ?_
      refine x_goto (np := 14) (x := 15) (by decide +kernel) ?_
      refine x_retI (np := 16) (x := 0) (by decide +kernel) (by decide) (Or.inr ⟨by decide +kernel, by first | decide | omega, by first | decide | omega⟩) ⟨_, rfl, (by decide), ?_⟩
      refine x_ifz (k := 0) (tg := 25) (np := 21) (by decide +kernel) (by decide) (by decide) (fun q64 => ?_) (fun q65 => ?_)
      · have q64 : 2147483649 = 2147483648 := q64
        exfalso; omega
      have q65 : ¬ (2147483649 = 2147483648) := q65
      refine x_const (np := 22) (x := 9223372043297226753) (a := 2147483649) (by decide +kernel) (by decide) (by decide) ?_
      refine x_goto (np := 25) (x := 26) (by decide +kernel) ?_
      refine x_const (np := 27) (x := 9223372043297226753) (a := 2147483649) (by decide +kernel) (by decide) (by decide) ?_
      refine x_nI (t := 6) (mj := 152) (n := 3) (rc := 12) (ml := 3) (nr := 0) (np := 30) (as := [x_r 75, iv_c 2147483649, iv_c 2147483649]) (rest := []) (lo1 := [x_r 75, iv_c 2147483649, iv_c 2147483649]) (by decide +kernel) (by decide) (by decide +kernel) (x_rb_of (by decide +kernel)) rfl rfl (x_wr (by decide) (x_wi (by decide) (x_wi (by decide) x_wn))) x_wn (by decide) rfl ?_
      refine x_iload (np := 1) (x := 1) (by decide +kernel) rfl (by decide) ?_
      refine x_ifz (k := 0) (tg := 9) (np := 4) (by decide +kernel) (by decide) (by decide) (fun q66 => ?_) (fun q67 => ?_)
      · have q66 : 2147483649 = 2147483648 := q66
        exfalso; omega
      have q67 : ¬ (2147483649 = 2147483648) := q67
      refine x_aload (np := 5) (x := 0) (by decide +kernel) rfl (x_nc_le (by decide)) ?_
      refine x_iload (np := 6) (x := 2) (by decide +kernel) rfl (by decide) ?_
      refine x_putI (np := 9) (x := 704) (f := 0) (by decide +kernel) (by decide +kernel) (by decide) (Or.inl (by decide)) ?_
      have j69 := jU (e := 0) (v := 2147483649) 0 j2 rg_75_0_0_1 (by first | decide | omega) (by first | decide | omega) (by first | decide | omega)
      have f71 := jF (e := 0) (v := 2147483649) 0 f4 rg_75_0_0_1 (by first | decide | omega) (by first | decide | omega) (by decide)
      generalize e70 : x_up h1 75 0 2147483649 = h68 at j69 f71 ⊢
      refine x_iload (np := 10) (x := 1) (by decide +kernel) rfl (by decide) ?_
      refine x_retI (np := 11) (x := 0) (by decide +kernel) (by decide) (Or.inr ⟨by decide +kernel, by first | decide | omega, by first | decide | omega⟩) ⟨_, rfl, (by decide), ?_⟩
      refine x_ifz (k := 1) (tg := 46) (np := 33) (by decide +kernel) (by decide) (by decide) (fun q72 => ?_) (fun q73 => ?_)
      · have q72 : 2147483649 ≠ 2147483648 := q72
        refine x_const (np := 47) (x := 9223372039002259456) (a := 2147483648) (by decide +kernel) (by decide) (by decide) ?_
        have q74 : h68 75 0 = 2147483649 := by rw [← e70]; exact x_up_at
        refine x_retI (np := 48) (x := 0) (by decide +kernel) (by decide) (Or.inr ⟨by decide +kernel, by first | decide | omega, by first | decide | omega⟩) ⟨_, rfl, (by decide), ?_⟩
        exact ⟨j69, f71, (by first | decide | omega), (Or.inr ⟨by first | decide | omega, by first | decide | omega⟩)⟩
      have q73 : ¬ (2147483649 ≠ 2147483648) := q73
      exfalso; omega
    have q61 : ¬ (2147483659 < a2) := q61
    refine x_const (np := 11) (x := 9223372043297226753) (a := 2147483649) (by decide +kernel) (by decide) (by decide) ?_
    refine x_goto (np := 14) (x := 15) (by decide +kernel) ?_
    refine x_retI (np := 16) (x := 0) (by decide +kernel) (by decide) (Or.inr ⟨by decide +kernel, by first | decide | omega, by first | decide | omega⟩) ⟨_, rfl, (by decide), ?_⟩
    refine x_ifz (k := 1) (tg := 14) (np := 10) (by decide +kernel) (by decide) (by decide) (fun q75 => ?_) (fun q76 => ?_)
    · have q75 : 2147483649 ≠ 2147483648 := q75
      refine x_const (np := 15) (x := 9223372039002259456) (a := 2147483648) (by decide +kernel) (by decide) (by decide) ?_
      refine x_retI (np := 16) (x := 0) (by decide +kernel) (by decide) (Or.inr ⟨by decide +kernel, by first | decide | omega, by first | decide | omega⟩) ⟨_, rfl, (by decide), ?_⟩
      refine x_ifz (k := 0) (tg := 25) (np := 21) (by decide +kernel) (by decide) (by decide) (fun q77 => ?_) (fun q78 => ?_)
      · have q77 : 2147483648 = 2147483648 := q77
        refine x_const (np := 26) (x := 9223372039002259456) (a := 2147483648) (by decide +kernel) (by decide) (by decide) ?_
        refine x_const (np := 27) (x := 9223372043297226753) (a := 2147483649) (by decide +kernel) (by decide) (by decide) ?_
        refine x_nI (t := 6) (mj := 152) (n := 3) (rc := 12) (ml := 3) (nr := 0) (np := 30) (as := [x_r 75, iv_c 2147483648, iv_c 2147483649]) (rest := []) (lo1 := [x_r 75, iv_c 2147483648, iv_c 2147483649]) (by decide +kernel) (by decide) (by decide +kernel) (x_rb_of (by decide +kernel)) rfl rfl (x_wr (by decide) (x_wi (by decide) (x_wi (by decide) x_wn))) x_wn (by decide) rfl ?_
        refine x_iload (np := 1) (x := 1) (by decide +kernel) rfl (by decide) ?_
        refine x_ifz (k := 0) (tg := 9) (np := 4) (by decide +kernel) (by decide) (by decide) (fun q79 => ?_) (fun q80 => ?_)
        · have q79 : 2147483648 = 2147483648 := q79
          refine x_iload (np := 10) (x := 1) (by decide +kernel) rfl (by decide) ?_
          refine x_retI (np := 11) (x := 0) (by decide +kernel) (by decide) (Or.inr ⟨by decide +kernel, by first | decide | omega, by first | decide | omega⟩) ⟨_, rfl, (by decide), ?_⟩
          refine x_ifz (k := 1) (tg := 46) (np := 33) (by decide +kernel) (by decide) (by decide) (fun q81 => ?_) (fun q82 => ?_)
          · have q81 : 2147483648 ≠ 2147483648 := q81
            exfalso; omega
          have q82 : ¬ (2147483648 ≠ 2147483648) := q82
          refine x_aload (np := 34) (x := 0) (by decide +kernel) rfl (x_nc_le (by decide)) ?_
          refine x_iload (np := 35) (x := 1) (by decide +kernel) rfl la1 ?_
          refine x_iload (np := 36) (x := 2) (by decide +kernel) rfl la2 ?_
          refine x_nI (t := 6) (mj := 200) (n := 3) (rc := 12) (ml := 3) (nr := 0) (np := 39) (as := [x_r 75, iv_c a1, iv_c a2]) (rest := []) (lo1 := [x_r 75, iv_c a1, iv_c a2]) (by decide +kernel) (by decide) (by decide +kernel) (x_rb_of (by decide +kernel)) rfl rfl (x_wr (by decide) (x_wi la1 (x_wi la2 x_wn))) x_wn (by decide) rfl ?_
          refine x_aload (np := 1) (x := 0) (by decide +kernel) rfl (x_nc_le (by decide)) ?_
          have q83 : h1 75 1 = 76 := by have z := jB (e := 1) 0 j2 rg_75_1_0_1 (by decide) (by decide); omega
          refine x_getR (np := 4) (x := 705) (f := 1) (q := 76) (by decide +kernel) (by decide) (by decide +kernel) q83 ?_
          refine x_const (np := 6) (x := 9223372073361997832) (a := 2147483656) (by decide +kernel) (by decide) (by decide) ?_
          refine x_iload (np := 7) (x := 1) (by decide +kernel) rfl la1 ?_
          refine x_iadd (np := 8) (x := 0) (v := (8 + a1)) (by decide +kernel) (by decide) la1 (by first | decide | omega) (by first | decide | omega) ?_
          obtain ⟨u84, q85⟩ : ∃ z, a1 = 2147483648 + z := ⟨a1 - 2147483648, by first | decide | omega⟩
          have q86 : h1 76 (8 + u84) = h 76 (8 + u84) := by rw [← e3]; exact x_up_k (by decide)
          have b87 := jB (e := (8 + u84)) u84 hJ rg_76_8_1_6 (by first | decide | omega) (by first | decide | omega)
          refine x_aldC (np := 9) (x := 0) (n := 1952) (i := (8 + u84)) (q := (h 76 (8 + u84))) (by decide +kernel) (by decide +kernel) (by first | decide | omega) (by first | decide | omega) (by decide) q86 (fun l88 => ?_)
          refine x_iload (np := 10) (x := 2) (by decide +kernel) rfl la2 ?_
          refine x_icmp (k := 5) (tg := 17) (np := 13) (by decide +kernel) (by decide) l88 la2 (fun q89 => ?_) (fun q90 => ?_)
          · have q89 : (h 76 (8 + u84)) ≤ a2 := q89
            refine x_const (np := 18) (x := 9223372039002259456) (a := 2147483648) (by decide +kernel) (by decide) (by decide) ?_
            refine x_retI (np := 19) (x := 0) (by decide +kernel) (by decide) (Or.inr ⟨by decide +kernel, by first | decide | omega, by first | decide | omega⟩) ⟨_, rfl, (by decide), ?_⟩
            refine x_ifz (k := 0) (tg := 46) (np := 42) (by decide +kernel) (by decide) (by decide) (fun q91 => ?_) (fun q92 => ?_)
            · have q91 : 2147483648 = 2147483648 := q91
              refine x_const (np := 47) (x := 9223372039002259456) (a := 2147483648) (by decide +kernel) (by decide) (by decide) ?_
              have q93 : h1 75 0 = 2147483648 := by rw [← e3]; exact x_up_at
              have q94 : h1 76 (8 + u84) = h 76 (8 + u84) := by rw [← e3]; exact x_up_k (by decide)
              refine x_retI (np := 48) (x := 0) (by decide +kernel) (by decide) (Or.inr ⟨by decide +kernel, by first | decide | omega, by first | decide | omega⟩) ⟨_, rfl, (by decide), ?_⟩
              exact ⟨j2, f4, (by first | decide | omega), (Or.inl ⟨by first | decide | omega, u84, by first | decide | omega, by first | decide | omega, by first | decide | omega, by first | decide | omega, by first | decide | omega, by first | decide | omega⟩)⟩
            have q92 : ¬ (2147483648 = 2147483648) := q92
            exfalso; omega
          have q90 : ¬ ((h 76 (8 + u84)) ≤ a2) := q90
          refine x_const (np := 14) (x := 9223372043297226753) (a := 2147483649) (by decide +kernel) (by decide) (by decide) ?_
          refine x_goto (np := 17) (x := 18) (by decide +kernel) ?_
          refine x_retI (np := 19) (x := 0) (by decide +kernel) (by decide) (Or.inr ⟨by decide +kernel, by first | decide | omega, by first | decide | omega⟩) ⟨_, rfl, (by decide), ?_⟩
          refine x_ifz (k := 0) (tg := 46) (np := 42) (by decide +kernel) (by decide) (by decide) (fun q95 => ?_) (fun q96 => ?_)
          · have q95 : 2147483649 = 2147483648 := q95
            exfalso; omega
          have q96 : ¬ (2147483649 = 2147483648) := q96
          refine x_const (np := 43) (x := 9223372043297226753) (a := 2147483649) (by decide +kernel) (by decide) (by decide) ?_
          refine x_goto (np := 46) (x := 47) (by decide +kernel) ?_
          have q97 : h1 75 0 = 2147483648 := by rw [← e3]; exact x_up_at
          have q98 : h1 76 (8 + u84) = h 76 (8 + u84) := by rw [← e3]; exact x_up_k (by decide)
          refine x_retI (np := 48) (x := 0) (by decide +kernel) (by decide) (Or.inr ⟨by decide +kernel, by first | decide | omega, by first | decide | omega⟩) ⟨_, rfl, (by decide), ?_⟩
          exact ⟨j2, f4, (by first | decide | omega), (Or.inl ⟨by first | decide | omega, u84, by first | decide | omega, by first | decide | omega, by first | decide | omega, by first | decide | omega, by first | decide | omega, by first | decide | omega⟩)⟩
        have q80 : ¬ (2147483648 = 2147483648) := q80
        exfalso; omega
      have q78 : ¬ (2147483648 = 2147483648) := q78
      exfalso; omega
    have q76 : ¬ (2147483649 ≠ 2147483648) := q76
    exfalso; omega
  have q42 : ¬ (2147483649 ≠ 2147483648) := q42
  exfalso; omega
set_option maxHeartbeats 0 in
/-- LentNamesModel.look(II)I -/
theorem c223_75 {sc : Nat × Nat} {d a1 a2 : Nat} {h : xh} (hJ : J h) (ba1 : 0 ≤ a1 ∧ a1 ≤ 4294967295) (ba2 : 0 ≤ a2 ∧ a2 ≤ 4294967295) (hW : WT 76 h) : X sc 223 (d + 5) (xI fun r h' => J h' ∧ Fr 135291600897 h h' ∧ (0 ≤ r ∧ r ≤ 4294967295)) 0 0 0 [x_r 75, iv_c a1, iv_c a2] [] h := by
  have la1 : a1 < 4294967296 := by first | decide | omega
  have la2 : a2 < 4294967296 := by first | decide | omega
  have hF := Fr.refl 135291600897 h
  refine x_aload (np := 1) (x := 0) (by decide +kernel) rfl (x_nc_le (by decide)) ?_
  refine x_const (np := 2) (x := 9223372039002259456) (a := 2147483648) (by decide +kernel) (by decide) (by decide) ?_
  refine x_putI (np := 5) (x := 704) (f := 0) (by decide +kernel) (by decide +kernel) (by decide) (Or.inl (by decide)) ?_
  have j2 := jU (e := 0) (v := 2147483648) 0 hJ rg_75_0_0_1 (by first | decide | omega) (by first | decide | omega) (by first | decide | omega)
  have f4 := jF (e := 0) (v := 2147483648) 0 hF rg_75_0_0_1 (by first | decide | omega) (by first | decide | omega) (by decide)
  generalize e3 : x_up h 75 0 2147483648 = h1 at j2 f4 ⊢
  refine x_aload (np := 6) (x := 0) (by decide +kernel) rfl (x_nc_le (by decide)) ?_
  refine x_aload (np := 7) (x := 0) (by decide +kernel) rfl (x_nc_le (by decide)) ?_
  refine x_iload (np := 8) (x := 1) (by decide +kernel) rfl la1 ?_
  refine x_const (np := 9) (x := 9223372047592194050) (a := 2147483650) (by decide +kernel) (by decide) (by decide) ?_
  refine x_nI (t := 6) (mj := 158) (n := 3) (rc := 12) (ml := 3) (nr := 1) (np := 12) (as := [x_r 75, iv_c a1, iv_c 2147483650]) (rest := [x_r 75]) (lo1 := [x_r 75, iv_c a1, iv_c 2147483650]) (by decide +kernel) (by decide) (by decide +kernel) (x_rb_of (by decide +kernel)) rfl rfl (x_wr (by decide) (x_wi la1 (x_wi (by decide) x_wn))) (x_wr (by decide) x_wn) (by decide) rfl ?_
  refine x_iload (np := 1) (x := 1) (by decide +kernel) rfl la1 ?_
  refine x_const (np := 2) (x := 9223372039002259456) (a := 2147483648) (by decide +kernel) (by decide) (by decide) ?_
  refine x_aload (np := 3) (x := 0) (by decide +kernel) rfl (x_nc_le (by decide)) ?_
  have q5 : h1 75 1 = 76 := by have z := jB (e := 1) 0 j2 rg_75_1_0_1 (by decide) (by decide); omega
  refine x_getR (np := 6) (x := 705) (f := 1) (q := 76) (by decide +kernel) (by decide) (by decide +kernel) q5 ?_
  refine x_iload (np := 7) (x := 2) (by decide +kernel) rfl (by decide) ?_
  have q6 : h1 76 2 = h 76 2 := by rw [← e3]; exact x_up_k (by decide)
  have b7 := jB (e := 2) 0 hJ rg_76_2_0_1 (by first | decide | omega) (by first | decide | omega)
  refine x_aldC (np := 8) (x := 0) (n := 1952) (i := 2) (q := (h 76 2)) (by decide +kernel) (by decide +kernel) (by first | decide | omega) (by first | decide | omega) (by decide) q6 (fun l8 => ?_)
  refine x_const (np := 9) (x := 9223372043297226753) (a := 2147483649) (by decide +kernel) (by decide) (by decide) ?_
  obtain ⟨v9, q10⟩ : ∃ z, z + 2147483649 = (h 76 2) + 2147483648 := ⟨(h 76 2) + 2147483648 - 2147483649, by first | decide | omega⟩
  refine x_isub (np := 10) (x := 0) (v := v9) (by decide +kernel) l8 (by decide) (by first | decide | omega) (by first | decide | omega) ?_
  refine x_nI (t := 0) (mj := 153) (n := 3) (rc := 0) (ml := 3) (nr := 0) (np := 13) (as := [iv_c a1, iv_c 2147483648, iv_c v9]) (rest := []) (lo1 := [iv_c a1, iv_c 2147483648, iv_c v9]) (by decide +kernel) (by decide) (by decide +kernel) (Or.inl rfl) rfl rfl (x_wi la1 (x_wi (by decide) (x_wi (by first | decide | omega) x_wn))) x_wn (by decide) rfl ?_
  refine x_iload (np := 1) (x := 0) (by decide +kernel) rfl la1 ?_
  refine x_iload (np := 2) (x := 1) (by decide +kernel) rfl (by decide) ?_
  refine x_icmp (k := 2) (tg := 14) (np := 5) (by decide +kernel) (by decide) la1 (by decide) (fun q11 => ?_) (fun q12 => ?_)
  · have q11 : a1 < 2147483648 := q11
    refine x_const (np := 15) (x := 9223372039002259456) (a := 2147483648) (by decide +kernel) (by decide) (by decide) ?_
    refine x_retI (np := 16) (x := 0) (by decide +kernel) (by decide) (Or.inr ⟨by decide +kernel, by first | decide | omega, by first | decide | omega⟩) ⟨_, rfl, (by decide), ?_⟩
    refine x_ifz (k := 1) (tg := 20) (np := 16) (by decide +kernel) (by decide) (by decide) (fun q13 => ?_) (fun q14 => ?_)
    · have q13 : 2147483648 ≠ 2147483648 := q13
      exfalso; omega
    have q14 : ¬ (2147483648 ≠ 2147483648) := q14
    refine x_const (np := 17) (x := 9223372043297226753) (a := 2147483649) (by decide +kernel) (by decide) (by decide) ?_
    refine x_goto (np := 20) (x := 21) (by decide +kernel) ?_
    refine x_retI (np := 22) (x := 0) (by decide +kernel) (by decide) (Or.inr ⟨by decide +kernel, by first | decide | omega, by first | decide | omega⟩) ⟨_, rfl, (by decide), ?_⟩
    refine x_const (np := 13) (x := 9223372043297226753) (a := 2147483649) (by decide +kernel) (by decide) (by decide) ?_
    refine x_nI (t := 6) (mj := 152) (n := 3) (rc := 12) (ml := 3) (nr := 0) (np := 16) (as := [x_r 75, iv_c 2147483649, iv_c 2147483649]) (rest := []) (lo1 := [x_r 75, iv_c 2147483649, iv_c 2147483649]) (by decide +kernel) (by decide) (by decide +kernel) (x_rb_of (by decide +kernel)) rfl rfl (x_wr (by decide) (x_wi (by decide) (x_wi (by decide) x_wn))) x_wn (by decide) rfl ?_
    refine x_iload (np := 1) (x := 1) (by decide +kernel) rfl (by decide) ?_
    refine x_ifz (k := 0) (tg := 9) (np := 4) (by decide +kernel) (by decide) (by decide) (fun q15 => ?_) (fun q16 => ?_)
    · have q15 : 2147483649 = 2147483648 := q15
      exfalso; omega
    have q16 : ¬ (2147483649 = 2147483648) := q16
    refine x_aload (np := 5) (x := 0) (by decide +kernel) rfl (x_nc_le (by decide)) ?_
    refine x_iload (np := 6) (x := 2) (by decide +kernel) rfl (by decide) ?_
    refine x_putI (np := 9) (x := 704) (f := 0) (by decide +kernel) (by decide +kernel) (by decide) (Or.inl (by decide)) ?_
    have j18 := jU (e := 0) (v := 2147483649) 0 j2 rg_75_0_0_1 (by first | decide | omega) (by first | decide | omega) (by first | decide | omega)
    have f20 := jF (e := 0) (v := 2147483649) 0 f4 rg_75_0_0_1 (by first | decide | omega) (by first | decide | omega) (by decide)
    generalize e19 : x_up h1 75 0 2147483649 = h17 at j18 f20 ⊢
    refine x_iload (np := 10) (x := 1) (by decide +kernel) rfl (by decide) ?_
    refine x_retI (np := 11) (x := 0) (by decide +kernel) (by decide) (Or.inr ⟨by decide +kernel, by first | decide | omega, by first | decide | omega⟩) ⟨_, rfl, (by decide), ?_⟩
    refine x_ifz (k := 1) (tg := 42) (np := 19) (by decide +kernel) (by decide) (by decide) (fun q21 => ?_) (fun q22 => ?_)
    · have q21 : 2147483649 ≠ 2147483648 := q21
      refine x_const (np := 43) (x := 9223372039002259456) (a := 2147483648) (by decide +kernel) (by decide) (by decide) ?_
      refine x_retI (np := 44) (x := 0) (by decide +kernel) (by decide) (Or.inl (by decide +kernel)) ⟨_, rfl, (by decide), ?_⟩
      exact ⟨j18, f20, (by first | decide | omega)⟩
    have q22 : ¬ (2147483649 ≠ 2147483648) := q22
    exfalso; omega
  have q12 : ¬ (a1 < 2147483648) := q12
  refine x_iload (np := 6) (x := 0) (by decide +kernel) rfl la1 ?_
  refine x_iload (np := 7) (x := 2) (by decide +kernel) rfl (by first | decide | omega) ?_
  refine x_icmp (k := 4) (tg := 14) (np := 10) (by decide +kernel) (by decide) la1 (by first | decide | omega) (fun q23 => ?_) (fun q24 => ?_)
  · have q23 : v9 < a1 := q23
    refine x_const (np := 15) (x := 9223372039002259456) (a := 2147483648) (by decide +kernel) (by decide) (by decide) ?_
    refine x_retI (np := 16) (x := 0) (by decide +kernel) (by decide) (Or.inr ⟨by decide +kernel, by first | decide | omega, by first | decide | omega⟩) ⟨_, rfl, (by decide), ?_⟩
    refine x_ifz (k := 1) (tg := 20) (np := 16) (by decide +kernel) (by decide) (by decide) (fun q25 => ?_) (fun q26 => ?_)
    · have q25 : 2147483648 ≠ 2147483648 := q25
      exfalso; omega
    have q26 : ¬ (2147483648 ≠ 2147483648) := q26
    refine x_const (np := 17) (x := 9223372043297226753) (a := 2147483649) (by decide +kernel) (by decide) (by decide) ?_
    refine x_goto (np := 20) (x := 21) (by decide +kernel) ?_
    refine x_retI (np := 22) (x := 0) (by decide +kernel) (by decide) (Or.inr ⟨by decide +kernel, by first | decide | omega, by first | decide | omega⟩) ⟨_, rfl, (by decide), ?_⟩
    refine x_const (np := 13) (x := 9223372043297226753) (a := 2147483649) (by decide +kernel) (by decide) (by decide) ?_
    refine x_nI (t := 6) (mj := 152) (n := 3) (rc := 12) (ml := 3) (nr := 0) (np := 16) (as := [x_r 75, iv_c 2147483649, iv_c 2147483649]) (rest := []) (lo1 := [x_r 75, iv_c 2147483649, iv_c 2147483649]) (by decide +kernel) (by decide) (by decide +kernel) (x_rb_of (by decide +kernel)) rfl rfl (x_wr (by decide) (x_wi (by decide) (x_wi (by decide) x_wn))) x_wn (by decide) rfl ?_
    refine x_iload (np := 1) (x := 1) (by decide +kernel) rfl (by decide) ?_
    refine x_ifz (k := 0) (tg := 9) (np := 4) (by decide +kernel) (by decide) (by decide) (fun q27 => ?_) (fun q28 => ?_)
    · have q27 : 2147483649 = 2147483648 := q27
      exfalso; omega
    have q28 : ¬ (2147483649 = 2147483648) := q28
    refine x_aload (np := 5) (x := 0) (by decide +kernel) rfl (x_nc_le (by decide)) ?_
    refine x_iload (np := 6) (x := 2) (by decide +kernel) rfl (by decide) ?_
    refine x_putI (np := 9) (x := 704) (f := 0) (by decide +kernel) (by decide +kernel) (by decide) (Or.inl (by decide)) ?_
    have j30 := jU (e := 0) (v := 2147483649) 0 j2 rg_75_0_0_1 (by first | decide | omega) (by first | decide | omega) (by first | decide | omega)
    have f32 := jF (e := 0) (v := 2147483649) 0 f4 rg_75_0_0_1 (by first | decide | omega) (by first | decide | omega) (by decide)
    generalize e31 : x_up h1 75 0 2147483649 = h29 at j30 f32 ⊢
    refine x_iload (np := 10) (x := 1) (by decide +kernel) rfl (by decide) ?_
    refine x_retI (np := 11) (x := 0) (by decide +kernel) (by decide) (Or.inr ⟨by decide +kernel, by first | decide | omega, by first | decide | omega⟩) ⟨_, rfl, (by decide), ?_⟩
    refine x_ifz (k := 1) (tg := 42) (np := 19) (by decide +kernel) (by decide) (by decide) (fun q33 => ?_) (fun q34 => ?_)
    · have q33 : 2147483649 ≠ 2147483648 := q33
      refine x_const (np := 43) (x := 9223372039002259456) (a := 2147483648) (by decide +kernel) (by decide) (by decide) ?_
      refine x_retI (np := 44) (x := 0) (by decide +kernel) (by decide) (Or.inl (by decide +kernel)) ⟨_, rfl, (by decide), ?_⟩
      exact ⟨j30, f32, (by first | decide | omega)⟩
    have q34 : ¬ (2147483649 ≠ 2147483648) := q34
    exfalso; omega
  have q24 : ¬ (v9 < a1) := q24
  refine x_const (np := 11) (x := 9223372043297226753) (a := 2147483649) (by decide +kernel) (by decide) (by decide) ?_
  refine x_goto (np := 14) (x := 15) (by decide +kernel) ?_
  refine x_retI (np := 16) (x := 0) (by decide +kernel) (by decide) (Or.inr ⟨by decide +kernel, by first | decide | omega, by first | decide | omega⟩) ⟨_, rfl, (by decide), ?_⟩
  refine x_ifz (k := 1) (tg := 20) (np := 16) (by decide +kernel) (by decide) (by decide) (fun q35 => ?_) (fun q36 => ?_)
  · have q35 : 2147483649 ≠ 2147483648 := q35
    refine x_const (np := 21) (x := 9223372039002259456) (a := 2147483648) (by decide +kernel) (by decide) (by decide) ?_
    refine x_retI (np := 22) (x := 0) (by decide +kernel) (by decide) (Or.inr ⟨by decide +kernel, by first | decide | omega, by first | decide | omega⟩) ⟨_, rfl, (by decide), ?_⟩
    refine x_const (np := 13) (x := 9223372043297226753) (a := 2147483649) (by decide +kernel) (by decide) (by decide) ?_
    refine x_nI (t := 6) (mj := 152) (n := 3) (rc := 12) (ml := 3) (nr := 0) (np := 16) (as := [x_r 75, iv_c 2147483648, iv_c 2147483649]) (rest := []) (lo1 := [x_r 75, iv_c 2147483648, iv_c 2147483649]) (by decide +kernel) (by decide) (by decide +kernel) (x_rb_of (by decide +kernel)) rfl rfl (x_wr (by decide) (x_wi (by decide) (x_wi (by decide) x_wn))) x_wn (by decide) rfl ?_
    refine x_iload (np := 1) (x := 1) (by decide +kernel) rfl (by decide) ?_
    refine x_ifz (k := 0) (tg := 9) (np := 4) (by decide +kernel) (by decide) (by decide) (fun q37 => ?_) (fun q38 => ?_)
    · have q37 : 2147483648 = 2147483648 := q37
      refine x_iload (np := 10) (x := 1) (by decide +kernel) rfl (by decide) ?_
      refine x_retI (np := 11) (x := 0) (by decide +kernel) (by decide) (Or.inr ⟨by decide +kernel, by first | decide | omega, by first | decide | omega⟩) ⟨_, rfl, (by decide), ?_⟩
      refine x_ifz (k := 1) (tg := 42) (np := 19) (by decide +kernel) (by decide) (by decide) (fun q39 => ?_) (fun q40 => ?_)
      · have q39 : 2147483648 ≠ 2147483648 := q39
        exfalso; omega
      have q40 : ¬ (2147483648 ≠ 2147483648) := q40
      refine x_aload (np := 20) (x := 0) (by decide +kernel) rfl (x_nc_le (by decide)) ?_
      refine x_iload (np := 21) (x := 2) (by decide +kernel) rfl la2 ?_
      refine x_const (np := 22) (x := 9223372039002259456) (a := 2147483648) (by decide +kernel) (by decide) (by decide) ?_
      refine x_const (np := 24) (x := 9223372069067030535) (a := 2147483655) (by decide +kernel) (by decide) (by decide) ?_
      refine x_nI (t := 0) (mj := 153) (n := 3) (rc := 0) (ml := 3) (nr := 1) (np := 27) (as := [iv_c a2, iv_c 2147483648, iv_c 2147483655]) (rest := [x_r 75]) (lo1 := [iv_c a2, iv_c 2147483648, iv_c 2147483655]) (by decide +kernel) (by decide) (by decide +kernel) (Or.inl rfl) rfl rfl (x_wi la2 (x_wi (by decide) (x_wi (by decide) x_wn))) (x_wr (by decide) x_wn) (by decide) rfl ?_
      refine x_iload (np := 1) (x := 0) (by decide +kernel) rfl la2 ?_
      refine x_iload (np := 2) (x := 1) (by decide +kernel) rfl (by decide) ?_
      refine x_icmp (k := 2) (tg := 14) (np := 5) (by decide +kernel) (by decide) la2 (by decide) (fun q41 => ?_) (fun q42 => ?_)
      · have q41 : a2 < 2147483648 := q41
        refine x_const (np := 15) (x := 9223372039002259456) (a := 2147483648) (by decide +kernel) (by decide) (by decide) ?_
        refine x_retI (np := 16) (x := 0) (by decide +kernel) (by decide) (Or.inr ⟨by decide +kernel, by first | decide | omega, by first | decide | omega⟩) ⟨_, rfl, (by decide), ?_⟩
        refine x_ifz (k := 1) (tg := 34) (np := 30) (by decide +kernel) (by decide) (by decide) (fun q43 => ?_) (fun q44 => ?_)
        · have q43 : 2147483648 ≠ 2147483648 := q43
          exfalso; omega
        have q44 : ¬ (2147483648 ≠ 2147483648) := q44
        refine x_const (np := 31) (x := 9223372043297226753) (a := 2147483649) (by decide +kernel) (by decide) (by decide) ?_
        refine x_goto (np := 34) (x := 35) (by decide +kernel) ?_
        refine x_const (np := 36) (x := 9223372047592194050) (a := 2147483650) (by decide +kernel) (by decide) (by decide) ?_
        refine x_nI (t := 6) (mj := 152) (n := 3) (rc := 12) (ml := 3) (nr := 0) (np := 39) (as := [x_r 75, iv_c 2147483649, iv_c 2147483650]) (rest := []) (lo1 := [x_r 75, iv_c 2147483649, iv_c 2147483650]) (by decide +kernel) (by decide) (by decide +kernel) (x_rb_of (by decide +kernel)) rfl rfl (x_wr (by decide) (x_wi (by decide) (x_wi (by decide) x_wn))) x_wn (by decide) rfl ?_
        refine x_iload (np := 1) (x := 1) (by decide +kernel) rfl (by decide) ?_
        refine x_ifz (k := 0) (tg := 9) (np := 4) (by decide +kernel) (by decide) (by decide) (fun q45 => ?_) (fun q46 => ?_)
        · have q45 : 2147483649 = 2147483648 := q45
          exfalso; omega
        have q46 : ¬ (2147483649 = 2147483648) := q46
        refine x_aload (np := 5) (x := 0) (by decide +kernel) rfl (x_nc_le (by decide)) ?_
        refine x_iload (np := 6) (x := 2) (by decide +kernel) rfl (by decide) ?_
        refine x_putI (np := 9) (x := 704) (f := 0) (by decide +kernel) (by decide +kernel) (by decide) (Or.inl (by decide)) ?_
        have j48 := jU (e := 0) (v := 2147483650) 0 j2 rg_75_0_0_1 (by first | decide | omega) (by first | decide | omega) (by first | decide | omega)
        have f50 := jF (e := 0) (v := 2147483650) 0 f4 rg_75_0_0_1 (by first | decide | omega) (by first | decide | omega) (by decide)
        generalize e49 : x_up h1 75 0 2147483650 = h47 at j48 f50 ⊢
        refine x_iload (np := 10) (x := 1) (by decide +kernel) rfl (by decide) ?_
        refine x_retI (np := 11) (x := 0) (by decide +kernel) (by decide) (Or.inr ⟨by decide +kernel, by first | decide | omega, by first | decide | omega⟩) ⟨_, rfl, (by decide), ?_⟩
        refine x_ifz (k := 0) (tg := 44) (np := 42) (by decide +kernel) (by decide) (by decide) (fun q51 => ?_) (fun q52 => ?_)
        · have q51 : 2147483649 = 2147483648 := q51
          exfalso; omega
        have q52 : ¬ (2147483649 = 2147483648) := q52
        refine x_const (np := 43) (x := 9223372039002259456) (a := 2147483648) (by decide +kernel) (by decide) (by decide) ?_
        refine x_retI (np := 44) (x := 0) (by decide +kernel) (by decide) (Or.inl (by decide +kernel)) ⟨_, rfl, (by decide), ?_⟩
        exact ⟨j48, f50, (by first | decide | omega)⟩
      have q42 : ¬ (a2 < 2147483648) := q42
      refine x_iload (np := 6) (x := 0) (by decide +kernel) rfl la2 ?_
      refine x_iload (np := 7) (x := 2) (by decide +kernel) rfl (by decide) ?_
      refine x_icmp (k := 4) (tg := 14) (np := 10) (by decide +kernel) (by decide) la2 (by decide) (fun q53 => ?_) (fun q54 => ?_)
      · have q53 : 2147483655 < a2 := q53
        refine x_const (np := 15) (x := 9223372039002259456) (a := 2147483648) (by decide +kernel) (by decide) (by decide) ?_
        refine x_retI (np := 16) (x := 0) (by decide +kernel) (by decide) (Or.inr ⟨by decide +kernel, by first | decide | omega, by first | decide | omega⟩) ⟨_, rfl, (by decide), ?_⟩
        refine x_ifz (k := 1) (tg := 34) (np := 30) (by decide +kernel) (by decide) (by decide) (fun q55 => ?_) (fun q56 => ?_)
        · have q55 : 2147483648 ≠ 2147483648 := q55
          exfalso; omega
        have q56 : ¬ (2147483648 ≠ 2147483648) := q56
        refine x_const (np := 31) (x := 9223372043297226753) (a := 2147483649) (by decide +kernel) (by decide) (by decide) ?_
        refine x_goto (np := 34) (x := 35) (by decide +kernel) ?_
        refine x_const (np := 36) (x := 9223372047592194050) (a := 2147483650) (by decide +kernel) (by decide) (by decide) ?_
        refine x_nI (t := 6) (mj := 152) (n := 3) (rc := 12) (ml := 3) (nr := 0) (np := 39) (as := [x_r 75, iv_c 2147483649, iv_c 2147483650]) (rest := []) (lo1 := [x_r 75, iv_c 2147483649, iv_c 2147483650]) (by decide +kernel) (by decide) (by decide +kernel) (x_rb_of (by decide +kernel)) rfl rfl (x_wr (by decide) (x_wi (by decide) (x_wi (by decide) x_wn))) x_wn (by decide) rfl ?_
        refine x_iload (np := 1) (x := 1) (by decide +kernel) rfl (by decide) ?_
        refine x_ifz (k := 0) (tg := 9) (np := 4) (by decide +kernel) (by decide) (by decide) (fun q57 => ?_) (fun q58 => ?_)
        · have q57 : 2147483649 = 2147483648 := q57
          exfalso; omega
        have q58 : ¬ (2147483649 = 2147483648) := q58
        refine x_aload (np := 5) (x := 0) (by decide +kernel) rfl (x_nc_le (by decide)) ?_
        refine x_iload (np := 6) (x := 2) (by decide +kernel) rfl (by decide) ?_
        refine x_putI (np := 9) (x := 704) (f := 0) (by decide +kernel) (by decide +kernel) (by decide) (Or.inl (by decide)) ?_
        have j60 := jU (e := 0) (v := 2147483650) 0 j2 rg_75_0_0_1 (by first | decide | omega) (by first | decide | omega) (by first | decide | omega)
        have f62 := jF (e := 0) (v := 2147483650) 0 f4 rg_75_0_0_1 (by first | decide | omega) (by first | decide | omega) (by decide)
        generalize e61 : x_up h1 75 0 2147483650 = h59 at j60 f62 ⊢
        refine x_iload (np := 10) (x := 1) (by decide +kernel) rfl (by decide) ?_
        refine x_retI (np := 11) (x := 0) (by decide +kernel) (by decide) (Or.inr ⟨by decide +kernel, by first | decide | omega, by first | decide | omega⟩) ⟨_, rfl, (by decide), ?_⟩
        refine x_ifz (k := 0) (tg := 44) (np := 42) (by decide +kernel) (by decide) (by decide) (fun q63 => ?_) (fun q64 => ?_)
        · have q63 : 2147483649 = 2147483648 := q63
          exfalso; omega
        have q64 : ¬ (2147483649 = 2147483648) := q64
        refine x_const (np := 43) (x := 9223372039002259456) (a := 2147483648) (by decide +kernel) (by decide) (by decide) ?_
        refine x_retI (np := 44) (x := 0) (by decide +kernel) (by decide) (Or.inl (by decide +kernel)) ⟨_, rfl, (by decide), ?_⟩
        exact ⟨j60, f62, (by first | decide | omega)⟩
      have q54 : ¬ (2147483655 < a2) := q54
      refine x_const (np := 11) (x := 9223372043297226753) (a := 2147483649) (by decide +kernel) (by decide) (by decide) ?_
      refine x_goto (np := 14) (x := 15) (by decide +kernel) ?_
      refine x_retI (np := 16) (x := 0) (by decide +kernel) (by decide) (Or.inr ⟨by decide +kernel, by first | decide | omega, by first | decide | omega⟩) ⟨_, rfl, (by decide), ?_⟩
      refine x_ifz (k := 1) (tg := 34) (np := 30) (by decide +kernel) (by decide) (by decide) (fun q65 => ?_) (fun q66 => ?_)
      · have q65 : 2147483649 ≠ 2147483648 := q65
        refine x_const (np := 35) (x := 9223372039002259456) (a := 2147483648) (by decide +kernel) (by decide) (by decide) ?_
        refine x_const (np := 36) (x := 9223372047592194050) (a := 2147483650) (by decide +kernel) (by decide) (by decide) ?_
        refine x_nI (t := 6) (mj := 152) (n := 3) (rc := 12) (ml := 3) (nr := 0) (np := 39) (as := [x_r 75, iv_c 2147483648, iv_c 2147483650]) (rest := []) (lo1 := [x_r 75, iv_c 2147483648, iv_c 2147483650]) (by decide +kernel) (by decide) (by decide +kernel) (x_rb_of (by decide +kernel)) rfl rfl (x_wr (by decide) (x_wi (by decide) (x_wi (by decide) x_wn))) x_wn (by decide) rfl ?_
        refine x_iload (np := 1) (x := 1) (by decide +kernel) rfl (by decide) ?_
        refine x_ifz (k := 0) (tg := 9) (np := 4) (by decide +kernel) (by decide) (by decide) (fun q67 => ?_) (fun q68 => ?_)
        · have q67 : 2147483648 = 2147483648 := q67
          refine x_iload (np := 10) (x := 1) (by decide +kernel) rfl (by decide) ?_
          refine x_retI (np := 11) (x := 0) (by decide +kernel) (by decide) (Or.inr ⟨by decide +kernel, by first | decide | omega, by first | decide | omega⟩) ⟨_, rfl, (by decide), ?_⟩
          refine x_ifz (k := 0) (tg := 44) (np := 42) (by decide +kernel) (by decide) (by decide) (fun q69 => ?_) (fun q70 => ?_)
          · have q69 : 2147483648 = 2147483648 := q69
            refine x_iload (np := 45) (x := 2) (by decide +kernel) rfl la2 ?_
            refine x_const (np := 46) (x := 9223372051887161347) (a := 2147483651) (by decide +kernel) (by decide) (by decide) ?_
            refine x_icmp (k := 3) (tg := 56) (np := 49) (by decide +kernel) (by decide) la2 (by decide) (fun q71 => ?_) (fun q72 => ?_)
            · have q71 : 2147483651 ≤ a2 := q71
              refine x_iload (np := 57) (x := 2) (by decide +kernel) rfl la2 ?_
              refine x_const (np := 58) (x := 9223372051887161347) (a := 2147483651) (by decide +kernel) (by decide) (by decide) ?_
              refine x_icmp (k := 1) (tg := 67) (np := 61) (by decide +kernel) (by decide) la2 (by decide) (fun q73 => ?_) (fun q74 => ?_)
              · have q73 : a2 ≠ 2147483651 := q73
                refine x_aload (np := 68) (x := 0) (by decide +kernel) rfl (x_nc_le (by decide)) ?_
                have m78 : WT 76 h1 := by rw [← e3]; exact WT.oth hW hJ (by decide)
                refine x_cV (t := 6) (mj := 210) (n := 1) (rc := 12) (ml := 5) (nr := 0) (np := 71) (as := [x_r 75]) (rest := []) (lo1 := [x_r 75, 147573952589676412928, 147573952589676412928, 147573952589676412928, 147573952589676412928]) (by decide +kernel) (by decide) (by decide +kernel) (x_rb_of (by decide +kernel)) rfl rfl (x_wr (by decide) x_wn) x_wn (by decide) rfl (c210_75 j2  m78) (fun h79 q77 => ?_)
                obtain ⟨j80, f81⟩ := q77
                have f84 := Fr.trans f4 f81 (by decide)
                refine x_iload (np := 72) (x := 2) (by decide +kernel) rfl la2 ?_
                refine x_const (np := 73) (x := 9223372056182128644) (a := 2147483652) (by decide +kernel) (by decide) (by decide) ?_
                refine x_icmp (k := 1) (tg := 92) (np := 76) (by decide +kernel) (by decide) la2 (by decide) (fun q85 => ?_) (fun q86 => ?_)
                · have q85 : a2 ≠ 2147483652 := q85
                  refine x_iload (np := 93) (x := 2) (by decide +kernel) rfl la2 ?_
                  refine x_const (np := 94) (x := 9223372060477095941) (a := 2147483653) (by decide +kernel) (by decide) (by decide) ?_
                  refine x_icmp (k := 1) (tg := 106) (np := 97) (by decide +kernel) (by decide) la2 (by decide) (fun q87 => ?_) (fun q88 => ?_)
                  · have q87 : a2 ≠ 2147483653 := q87
                    refine x_iload (np := 107) (x := 2) (by decide +kernel) rfl la2 ?_
                    refine x_const (np := 109) (x := 9223372064772063238) (a := 2147483654) (by decide +kernel) (by decide) (by decide) ?_
                    refine x_icmp (k := 1) (tg := 121) (np := 112) (by decide +kernel) (by decide) la2 (by decide) (fun q89 => ?_) (fun q90 => ?_)
                    · have q89 : a2 ≠ 2147483654 := q89
                      refine x_aload (np := 122) (x := 0) (by decide +kernel) rfl (x_nc_le (by decide)) ?_
                      have q91 : h79 75 23 = 90 := by have z := jB (e := 23) 0 j80 rg_75_23_0_1 (by decide) (by decide); omega
                      refine x_getR (np := 125) (x := 727) (f := 23) (q := 90) (by decide +kernel) (by decide) (by decide +kernel) q91 ?_
                      refine x_iload (np := 126) (x := 1) (by decide +kernel) rfl la1 ?_
                      obtain ⟨u92, q93⟩ : ∃ z, a1 = 2147483648 + z := ⟨a1 - 2147483648, by first | decide | omega⟩
                      refine x_aldC (np := 127) (x := 0) (n := 20) (i := u92) (q := (h79 90 u92)) (by decide +kernel) (by decide +kernel) (by first | decide | omega) (by first | decide | omega) (by decide) rfl (fun l94 => ?_)
                      refine x_retI (np := 128) (x := 0) (by decide +kernel) l94 (Or.inl (by decide +kernel)) ⟨_, rfl, l94, ?_⟩
                      exact ⟨j80, f84, (by first | decide | omega)⟩
                    have q90 : ¬ (a2 ≠ 2147483654) := q90
                    refine x_aload (np := 113) (x := 0) (by decide +kernel) rfl (x_nc_le (by decide)) ?_
                    have q95 : h79 75 22 = 89 := by have z := jB (e := 22) 0 j80 rg_75_22_0_1 (by decide) (by decide); omega
                    refine x_getR (np := 116) (x := 726) (f := 22) (q := 89) (by decide +kernel) (by decide) (by decide +kernel) q95 ?_
                    refine x_iload (np := 117) (x := 1) (by decide +kernel) rfl la1 ?_
                    obtain ⟨u96, q97⟩ : ∃ z, a1 = 2147483648 + z := ⟨a1 - 2147483648, by first | decide | omega⟩
                    refine x_aldC (np := 118) (x := 0) (n := 20) (i := u96) (q := (h79 89 u96)) (by decide +kernel) (by decide +kernel) (by first | decide | omega) (by first | decide | omega) (by decide) rfl (fun l98 => ?_)
                    refine x_goto (np := 121) (x := 127) (by decide +kernel) ?_
                    refine x_retI (np := 128) (x := 0) (by decide +kernel) l98 (Or.inl (by decide +kernel)) ⟨_, rfl, l98, ?_⟩
                    exact ⟨j80, f84, (by first | decide | omega)⟩
                  have q88 : ¬ (a2 ≠ 2147483653) := q88
                  refine x_aload (np := 98) (x := 0) (by decide +kernel) rfl (x_nc_le (by decide)) ?_
                  have q99 : h79 75 21 = 88 := by have z := jB (e := 21) 0 j80 rg_75_21_0_1 (by decide) (by decide); omega
                  refine x_getR (np := 101) (x := 725) (f := 21) (q := 88) (by decide +kernel) (by decide) (by decide +kernel) q99 ?_
                  refine x_iload (np := 102) (x := 1) (by decide +kernel) rfl la1 ?_
                  obtain ⟨u100, q101⟩ : ∃ z, a1 = 2147483648 + z := ⟨a1 - 2147483648, by first | decide | omega⟩
                  refine x_aldC (np := 103) (x := 0) (n := 20) (i := u100) (q := (h79 88 u100)) (by decide +kernel) (by decide +kernel) (by first | decide | omega) (by first | decide | omega) (by decide) rfl (fun l102 => ?_)
                  refine x_goto (np := 106) (x := 127) (by decide +kernel) ?_
                  refine x_retI (np := 128) (x := 0) (by decide +kernel) l102 (Or.inl (by decide +kernel)) ⟨_, rfl, l102, ?_⟩
                  exact ⟨j80, f84, (by first | decide | omega)⟩
                have q86 : ¬ (a2 ≠ 2147483652) := q86
                refine x_aload (np := 77) (x := 0) (by decide +kernel) rfl (x_nc_le (by decide)) ?_
                refine x_iload (np := 78) (x := 1) (by decide +kernel) rfl la1 ?_
                refine x_nI (t := 6) (mj := 222) (n := 2) (rc := 12) (ml := 2) (nr := 0) (np := 81) (as := [x_r 75, iv_c a1]) (rest := []) (lo1 := [x_r 75, iv_c a1]) (by decide +kernel) (by decide) (by decide +kernel) (x_rb_of (by decide +kernel)) rfl rfl (x_wr (by decide) (x_wi la1 x_wn)) x_wn (by decide) rfl ?_
                refine x_aload (np := 1) (x := 0) (by decide +kernel) rfl (x_nc_le (by decide)) ?_
                have q103 : h79 75 21 = 88 := by have z := jB (e := 21) 0 j80 rg_75_21_0_1 (by decide) (by decide); omega
                refine x_getR (np := 4) (x := 725) (f := 21) (q := 88) (by decide +kernel) (by decide) (by decide +kernel) q103 ?_
                refine x_iload (np := 5) (x := 1) (by decide +kernel) rfl la1 ?_
                obtain ⟨u104, q105⟩ : ∃ z, a1 = 2147483648 + z := ⟨a1 - 2147483648, by first | decide | omega⟩
                refine x_aldC (np := 6) (x := 0) (n := 20) (i := u104) (q := (h79 88 u104)) (by decide +kernel) (by decide +kernel) (by first | decide | omega) (by first | decide | omega) (by decide) rfl (fun l106 => ?_)
                refine x_ifz (k := 3) (tg := 13) (np := 9) (by decide +kernel) (by decide) l106 (fun q107 => ?_) (fun q108 => ?_)
                · have q107 : 2147483648 ≤ (h79 88 u104) := q107
                  refine x_const (np := 14) (x := 9223372039002259456) (a := 2147483648) (by decide +kernel) (by decide) (by decide) ?_
                  refine x_retI (np := 15) (x := 0) (by decide +kernel) (by decide) (Or.inr ⟨by decide +kernel, by first | decide | omega, by first | decide | omega⟩) ⟨_, rfl, (by decide), ?_⟩
                  refine x_ifz (k := 0) (tg := 88) (np := 84) (by decide +kernel) (by decide) (by decide) (fun q109 => ?_) (fun q110 => ?_)
                  · have q109 : 2147483648 = 2147483648 := q109
                    refine x_const (np := 89) (x := 9223372039002259456) (a := 2147483648) (by decide +kernel) (by decide) (by decide) ?_
                    refine x_goto (np := 92) (x := 127) (by decide +kernel) ?_
                    refine x_retI (np := 128) (x := 0) (by decide +kernel) (by decide) (Or.inl (by decide +kernel)) ⟨_, rfl, (by decide), ?_⟩
                    exact ⟨j80, f84, (by first | decide | omega)⟩
                  have q110 : ¬ (2147483648 = 2147483648) := q110
                  exfalso; omega
                have q108 : ¬ (2147483648 ≤ (h79 88 u104)) := q108
                refine x_const (np := 10) (x := 9223372043297226753) (a := 2147483649) (by decide +kernel) (by decide) (by decide) ?_
                refine x_goto (np := 13) (x := 14) (by decide +kernel) ?_
                refine x_retI (np := 15) (x := 0) (by decide +kernel) (by decide) (Or.inr ⟨by decide +kernel, by first | decide | omega, by first | decide | omega⟩) ⟨_, rfl, (by decide), ?_⟩
                refine x_ifz (k := 0) (tg := 88) (np := 84) (by decide +kernel) (by decide) (by decide) (fun q111 => ?_) (fun q112 => ?_)
                · have q111 : 2147483649 = 2147483648 := q111
                  exfalso; omega
                have q112 : ¬ (2147483649 = 2147483648) := q112
                refine x_const (np := 85) (x := 9223372043297226753) (a := 2147483649) (by decide +kernel) (by decide) (by decide) ?_
                refine x_goto (np := 88) (x := 127) (by decide +kernel) ?_
                refine x_retI (np := 128) (x := 0) (by decide +kernel) (by decide) (Or.inl (by decide +kernel)) ⟨_, rfl, (by decide), ?_⟩
                exact ⟨j80, f84, (by first | decide | omega)⟩
              have q74 : ¬ (a2 ≠ 2147483651) := q74
              refine x_aload (np := 62) (x := 0) (by decide +kernel) rfl (x_nc_le (by decide)) ?_
              refine x_iload (np := 63) (x := 1) (by decide +kernel) rfl la1 ?_
              refine x_nI (t := 6) (mj := 201) (n := 2) (rc := 12) (ml := 2) (nr := 0) (np := 66) (as := [x_r 75, iv_c a1]) (rest := []) (lo1 := [x_r 75, iv_c a1]) (by decide +kernel) (by decide) (by decide +kernel) (x_rb_of (by decide +kernel)) rfl rfl (x_wr (by decide) (x_wi la1 x_wn)) x_wn (by decide) rfl ?_
              refine x_aload (np := 1) (x := 0) (by decide +kernel) rfl (x_nc_le (by decide)) ?_
              refine x_iload (np := 2) (x := 1) (by decide +kernel) rfl la1 ?_
              refine x_const (np := 3) (x := 9223372047592194050) (a := 2147483650) (by decide +kernel) (by decide) (by decide) ?_
              refine x_nI (t := 6) (mj := 161) (n := 3) (rc := 12) (ml := 3) (nr := 0) (np := 6) (as := [x_r 75, iv_c a1, iv_c 2147483650]) (rest := []) (lo1 := [x_r 75, iv_c a1, iv_c 2147483650]) (by decide +kernel) (by decide) (by decide +kernel) (x_rb_of (by decide +kernel)) rfl rfl (x_wr (by decide) (x_wi la1 (x_wi (by decide) x_wn))) x_wn (by decide) rfl ?_
              refine x_aload (np := 1) (x := 0) (by decide +kernel) rfl (x_nc_le (by decide)) ?_
              have q113 : h1 75 1 = 76 := by have z := jB (e := 1) 0 j2 rg_75_1_0_1 (by decide) (by decide); omega
              refine x_getR (np := 4) (x := 705) (f := 1) (q := 76) (by decide +kernel) (by decide) (by decide +kernel) q113 ?_
              refine x_const (np := 6) (x := 9223372124901605396) (a := 2147483668) (by decide +kernel) (by decide) (by decide) ?_
              refine x_const (np := 8) (x := 9223372069067030535) (a := 2147483655) (by decide +kernel) (by decide) (by decide) ?_
              refine x_iload (np := 9) (x := 1) (by decide +kernel) rfl la1 ?_
              obtain ⟨u114, q115⟩ : ∃ z, a1 = 2147483648 + z := ⟨a1 - 2147483648, by first | decide | omega⟩
              refine x_imul (np := 10) (x := 0) (i := 7) (j := u114) (v := (2147483648 + 7 * u114)) (by decide +kernel) (by first | decide | omega) (by first | decide | omega) (by first | decide | omega) (by first | decide | omega) (by decide) la1 ?_
              refine x_iadd (np := 11) (x := 0) (v := (2147483668 + 7 * u114)) (by decide +kernel) (by decide) (by first | decide | omega) (by first | decide | omega) (by first | decide | omega) ?_
              refine x_iload (np := 12) (x := 2) (by decide +kernel) rfl (by decide) ?_
              refine x_iadd (np := 13) (x := 0) (v := (2147483670 + 7 * u114)) (by decide +kernel) (by first | decide | omega) (by decide) (by first | decide | omega) (by first | decide | omega) ?_
              have q117 : h1 76 (22 + 7 * u114) = h 76 (22 + 7 * u114) := by rw [← e3]; exact x_up_k (by decide)
              refine x_aldC (np := 14) (x := 0) (n := 1952) (i := (22 + 7 * u114)) (q := ((h 76 (22 + 7 * u114)))) (by decide +kernel) (by decide +kernel) (by first | decide | omega) (by first | decide | omega) (by decide) q117 (fun l118 => ?_)
              refine x_retI (np := 15) (x := 0) (by decide +kernel) l118 (Or.inl (by decide +kernel)) ⟨_, rfl, l118, ?_⟩
              refine x_aload (np := 7) (x := 0) (by decide +kernel) rfl (x_nc_le (by decide)) ?_
              refine x_iload (np := 8) (x := 1) (by decide +kernel) rfl la1 ?_
              refine x_const (np := 9) (x := 9223372051887161347) (a := 2147483651) (by decide +kernel) (by decide) (by decide) ?_
              refine x_nI (t := 6) (mj := 161) (n := 3) (rc := 12) (ml := 3) (nr := 1) (np := 12) (as := [x_r 75, iv_c a1, iv_c 2147483651]) (rest := [iv_c ((h 76 (22 + 7 * u114)))]) (lo1 := [x_r 75, iv_c a1, iv_c 2147483651]) (by decide +kernel) (by decide) (by decide +kernel) (x_rb_of (by decide +kernel)) rfl rfl (x_wr (by decide) (x_wi la1 (x_wi (by decide) x_wn))) (x_wi l118 x_wn) (by decide) rfl ?_
              refine x_aload (np := 1) (x := 0) (by decide +kernel) rfl (x_nc_le (by decide)) ?_
              have q119 : h1 75 1 = 76 := by have z := jB (e := 1) 0 j2 rg_75_1_0_1 (by decide) (by decide); omega
              refine x_getR (np := 4) (x := 705) (f := 1) (q := 76) (by decide +kernel) (by decide) (by decide +kernel) q119 ?_
              refine x_const (np := 6) (x := 9223372124901605396) (a := 2147483668) (by decide +kernel) (by decide) (by decide) ?_
              refine x_const (np := 8) (x := 9223372069067030535) (a := 2147483655) (by decide +kernel) (by decide) (by decide) ?_
              refine x_iload (np := 9) (x := 1) (by decide +kernel) rfl la1 ?_
              refine x_imul (np := 10) (x := 0) (i := 7) (j := u114) (v := (2147483648 + 7 * u114)) (by decide +kernel) (by first | decide | omega) (by first | decide | omega) (by first | decide | omega) (by first | decide | omega) (by decide) la1 ?_
              refine x_iadd (np := 11) (x := 0) (v := (2147483668 + 7 * u114)) (by decide +kernel) (by decide) (by first | decide | omega) (by first | decide | omega) (by first | decide | omega) ?_
              refine x_iload (np := 12) (x := 2) (by decide +kernel) rfl (by decide) ?_
              refine x_iadd (np := 13) (x := 0) (v := (2147483671 + 7 * u114)) (by decide +kernel) (by first | decide | omega) (by decide) (by first | decide | omega) (by first | decide | omega) ?_
              have q121 : h1 76 (23 + 7 * u114) = h 76 (23 + 7 * u114) := by rw [← e3]; exact x_up_k (by decide)
              refine x_aldC (np := 14) (x := 0) (n := 1952) (i := (23 + 7 * u114)) (q := ((h 76 (23 + 7 * u114)))) (by decide +kernel) (by decide +kernel) (by first | decide | omega) (by first | decide | omega) (by decide) q121 (fun l122 => ?_)
              refine x_retI (np := 15) (x := 0) (by decide +kernel) l122 (Or.inl (by decide +kernel)) ⟨_, rfl, l122, ?_⟩
              refine x_addA (by rw [tb_b201]; decide +kernel) l118 l122 (fun v123 l124 => ?_)
              refine x_const (np := 14) (x := 9223372043297226753) (a := 2147483649) (by decide +kernel) (by decide) (by decide) ?_
              refine x_subA (by rw [tb_b201]; decide +kernel) l124 (by decide) (fun v125 l126 => ?_)
              refine x_aload (np := 16) (x := 0) (by decide +kernel) rfl (x_nc_le (by decide)) ?_
              refine x_iload (np := 17) (x := 1) (by decide +kernel) rfl la1 ?_
              refine x_const (np := 19) (x := 9223372064772063238) (a := 2147483654) (by decide +kernel) (by decide) (by decide) ?_
              refine x_nI (t := 6) (mj := 161) (n := 3) (rc := 12) (ml := 3) (nr := 1) (np := 22) (as := [x_r 75, iv_c a1, iv_c 2147483654]) (rest := [iv_c v125]) (lo1 := [x_r 75, iv_c a1, iv_c 2147483654]) (by decide +kernel) (by decide) (by decide +kernel) (x_rb_of (by decide +kernel)) rfl rfl (x_wr (by decide) (x_wi la1 (x_wi (by decide) x_wn))) (x_wi l126 x_wn) (by decide) rfl ?_
              refine x_aload (np := 1) (x := 0) (by decide +kernel) rfl (x_nc_le (by decide)) ?_
              have q127 : h1 75 1 = 76 := by have z := jB (e := 1) 0 j2 rg_75_1_0_1 (by decide) (by decide); omega
              refine x_getR (np := 4) (x := 705) (f := 1) (q := 76) (by decide +kernel) (by decide) (by decide +kernel) q127 ?_
              refine x_const (np := 6) (x := 9223372124901605396) (a := 2147483668) (by decide +kernel) (by decide) (by decide) ?_
              refine x_const (np := 8) (x := 9223372069067030535) (a := 2147483655) (by decide +kernel) (by decide) (by decide) ?_
              refine x_iload (np := 9) (x := 1) (by decide +kernel) rfl la1 ?_
              refine x_imul (np := 10) (x := 0) (i := 7) (j := u114) (v := (2147483648 + 7 * u114)) (by decide +kernel) (by first | decide | omega) (by first | decide | omega) (by first | decide | omega) (by first | decide | omega) (by decide) la1 ?_
              refine x_iadd (np := 11) (x := 0) (v := (2147483668 + 7 * u114)) (by decide +kernel) (by decide) (by first | decide | omega) (by first | decide | omega) (by first | decide | omega) ?_
              refine x_iload (np := 12) (x := 2) (by decide +kernel) rfl (by decide) ?_
              refine x_iadd (np := 13) (x := 0) (v := (2147483674 + 7 * u114)) (by decide +kernel) (by first | decide | omega) (by decide) (by first | decide | omega) (by first | decide | omega) ?_
              have q129 : h1 76 (26 + 7 * u114) = h 76 (26 + 7 * u114) := by rw [← e3]; exact x_up_k (by decide)
              refine x_aldC (np := 14) (x := 0) (n := 1952) (i := (26 + 7 * u114)) (q := ((h 76 (26 + 7 * u114)))) (by decide +kernel) (by decide +kernel) (by first | decide | omega) (by first | decide | omega) (by decide) q129 (fun l130 => ?_)
              refine x_retI (np := 15) (x := 0) (by decide +kernel) l130 (Or.inl (by decide +kernel)) ⟨_, rfl, l130, ?_⟩
              refine x_addA (by rw [tb_b201]; decide +kernel) l126 l130 (fun v131 l132 => ?_)
              refine x_retI (np := 24) (x := 0) (by decide +kernel) l132 (Or.inl (by decide +kernel)) ⟨_, rfl, l132, ?_⟩
              refine x_retI (np := 67) (x := 0) (by decide +kernel) l132 (Or.inl (by decide +kernel)) ⟨_, rfl, l132, ?_⟩
              exact ⟨j2, f4, (by first | decide | omega)⟩
            have q72 : ¬ (2147483651 ≤ a2) := q72
            refine x_aload (np := 50) (x := 0) (by decide +kernel) rfl (x_nc_le (by decide)) ?_
            refine x_iload (np := 51) (x := 1) (by decide +kernel) rfl la1 ?_
            refine x_iload (np := 52) (x := 2) (by decide +kernel) rfl la2 ?_
            refine x_nI (t := 6) (mj := 161) (n := 3) (rc := 12) (ml := 3) (nr := 0) (np := 55) (as := [x_r 75, iv_c a1, iv_c a2]) (rest := []) (lo1 := [x_r 75, iv_c a1, iv_c a2]) (by decide +kernel) (by decide) (by decide +kernel) (x_rb_of (by decide +kernel)) rfl rfl (x_wr (by decide) (x_wi la1 (x_wi la2 x_wn))) x_wn (by decide) rfl ?_
            refine x_aload (np := 1) (x := 0) (by decide +kernel) rfl (x_nc_le (by decide)) ?_
            have q133 : h1 75 1 = 76 := by have z := jB (e := 1) 0 j2 rg_75_1_0_1 (by decide) (by decide); omega
            refine x_getR (np := 4) (x := 705) (f := 1) (q := 76) (by decide +kernel) (by decide) (by decide +kernel) q133 ?_
            refine x_const (np := 6) (x := 9223372124901605396) (a := 2147483668) (by decide +kernel) (by decide) (by decide) ?_
            refine x_const (np := 8) (x := 9223372069067030535) (a := 2147483655) (by decide +kernel) (by decide) (by decide) ?_
            refine x_iload (np := 9) (x := 1) (by decide +kernel) rfl la1 ?_
            obtain ⟨u134, q135⟩ : ∃ z, a1 = 2147483648 + z := ⟨a1 - 2147483648, by first | decide | omega⟩
            refine x_imul (np := 10) (x := 0) (i := 7) (j := u134) (v := (2147483648 + 7 * u134)) (by decide +kernel) (by first | decide | omega) (by first | decide | omega) (by first | decide | omega) (by first | decide | omega) (by decide) la1 ?_
            refine x_iadd (np := 11) (x := 0) (v := (2147483668 + 7 * u134)) (by decide +kernel) (by decide) (by first | decide | omega) (by first | decide | omega) (by first | decide | omega) ?_
            refine x_iload (np := 12) (x := 2) (by decide +kernel) rfl la2 ?_
            refine x_iadd (np := 13) (x := 0) (v := (20 + 7 * u134 + a2)) (by decide +kernel) (by first | decide | omega) la2 (by first | decide | omega) (by first | decide | omega) ?_
            obtain ⟨u137, q138⟩ : ∃ z, a2 = 2147483648 + z := ⟨a2 - 2147483648, by first | decide | omega⟩
            have q139 : h1 76 (20 + 7 * u134 + u137) = h 76 (20 + 7 * u134 + u137) := by rw [← e3]; exact x_up_k (by decide)
            refine x_aldC (np := 14) (x := 0) (n := 1952) (i := (20 + 7 * u134 + u137)) (q := ((h 76 (20 + 7 * u134 + u137)))) (by decide +kernel) (by decide +kernel) (by first | decide | omega) (by first | decide | omega) (by decide) q139 (fun l140 => ?_)
            refine x_retI (np := 15) (x := 0) (by decide +kernel) l140 (Or.inl (by decide +kernel)) ⟨_, rfl, l140, ?_⟩
            refine x_retI (np := 56) (x := 0) (by decide +kernel) l140 (Or.inl (by decide +kernel)) ⟨_, rfl, l140, ?_⟩
            exact ⟨j2, f4, (by first | decide | omega)⟩
          have q70 : ¬ (2147483648 = 2147483648) := q70
          exfalso; omega
        have q68 : ¬ (2147483648 = 2147483648) := q68
        exfalso; omega
      have q66 : ¬ (2147483649 ≠ 2147483648) := q66
      exfalso; omega
    have q38 : ¬ (2147483648 = 2147483648) := q38
    exfalso; omega
  have q36 : ¬ (2147483649 ≠ 2147483648) := q36
  exfalso; omega
set_option maxHeartbeats 0 in
/-- LentNamesModel.owes(IZ)I -/
theorem c224_75 {sc : Nat × Nat} {d a1 a2 : Nat} {h : xh} (hJ : J h) (ba1 : 0 ≤ a1 ∧ a1 ≤ 4294967295) (ba2 : 2147483648 ≤ a2 ∧ a2 ≤ 2147483649) (hW : WT 76 h) : X sc 224 (d + 5) (xI fun r h' => J h' ∧ Fr 135291600897 h h' ∧ (0 ≤ r ∧ r ≤ 4294967295)) 0 0 0 [x_r 75, iv_c a1, iv_c a2, 147573952589676412928, 147573952589676412928] [] h := by
  have la1 : a1 < 4294967296 := by first | decide | omega
  have la2 : a2 < 4294967296 := by first | decide | omega
  have hF := Fr.refl 135291600897 h
  refine x_aload (np := 1) (x := 0) (by decide +kernel) rfl (x_nc_le (by decide)) ?_
  refine x_const (np := 2) (x := 9223372039002259456) (a := 2147483648) (by decide +kernel) (by decide) (by decide) ?_
  refine x_putI (np := 5) (x := 704) (f := 0) (by decide +kernel) (by decide +kernel) (by decide) (Or.inl (by decide)) ?_
  have j2 := jU (e := 0) (v := 2147483648) 0 hJ rg_75_0_0_1 (by first | decide | omega) (by first | decide | omega) (by first | decide | omega)
  have f4 := jF (e := 0) (v := 2147483648) 0 hF rg_75_0_0_1 (by first | decide | omega) (by first | decide | omega) (by decide)
  generalize e3 : x_up h 75 0 2147483648 = h1 at j2 f4 ⊢
  refine x_aload (np := 6) (x := 0) (by decide +kernel) rfl (x_nc_le (by decide)) ?_
  refine x_aload (np := 7) (x := 0) (by decide +kernel) rfl (x_nc_le (by decide)) ?_
  refine x_iload (np := 8) (x := 1) (by decide +kernel) rfl la1 ?_
  refine x_nI (t := 6) (mj := 159) (n := 2) (rc := 12) (ml := 2) (nr := 1) (np := 11) (as := [x_r 75, iv_c a1]) (rest := [x_r 75]) (lo1 := [x_r 75, iv_c a1]) (by decide +kernel) (by decide) (by decide +kernel) (x_rb_of (by decide +kernel)) rfl rfl (x_wr (by decide) (x_wi la1 x_wn)) (x_wr (by decide) x_wn) (by decide) rfl ?_
  refine x_aload (np := 1) (x := 0) (by decide +kernel) rfl (x_nc_le (by decide)) ?_
  refine x_iload (np := 2) (x := 1) (by decide +kernel) rfl la1 ?_
  refine x_const (np := 3) (x := 9223372039002259456) (a := 2147483648) (by decide +kernel) (by decide) (by decide) ?_
  refine x_nI (t := 6) (mj := 158) (n := 3) (rc := 12) (ml := 3) (nr := 0) (np := 6) (as := [x_r 75, iv_c a1, iv_c 2147483648]) (rest := []) (lo1 := [x_r 75, iv_c a1, iv_c 2147483648]) (by decide +kernel) (by decide) (by decide +kernel) (x_rb_of (by decide +kernel)) rfl rfl (x_wr (by decide) (x_wi la1 (x_wi (by decide) x_wn))) x_wn (by decide) rfl ?_
  refine x_iload (np := 1) (x := 1) (by decide +kernel) rfl la1 ?_
  refine x_const (np := 2) (x := 9223372039002259456) (a := 2147483648) (by decide +kernel) (by decide) (by decide) ?_
  refine x_aload (np := 3) (x := 0) (by decide +kernel) rfl (x_nc_le (by decide)) ?_
  have q5 : h1 75 1 = 76 := by have z := jB (e := 1) 0 j2 rg_75_1_0_1 (by decide) (by decide); omega
  refine x_getR (np := 6) (x := 705) (f := 1) (q := 76) (by decide +kernel) (by decide) (by decide +kernel) q5 ?_
  refine x_iload (np := 7) (x := 2) (by decide +kernel) rfl (by decide) ?_
  have q6 : h1 76 0 = h 76 0 := by rw [← e3]; exact x_up_k (by decide)
  have b7 := jB (e := 0) 0 hJ rg_76_0_0_1 (by first | decide | omega) (by first | decide | omega)
  refine x_aldC (np := 8) (x := 0) (n := 1952) (i := 0) (q := (h 76 0)) (by decide +kernel) (by decide +kernel) (by first | decide | omega) (by first | decide | omega) (by decide) q6 (fun l8 => ?_)
  refine x_const (np := 9) (x := 9223372043297226753) (a := 2147483649) (by decide +kernel) (by decide) (by decide) ?_
  obtain ⟨v9, q10⟩ : ∃ z, z + 2147483649 = (h 76 0) + 2147483648 := ⟨(h 76 0) + 2147483648 - 2147483649, by first | decide | omega⟩
  refine x_isub (np := 10) (x := 0) (v := v9) (by decide +kernel) l8 (by decide) (by first | decide | omega) (by first | decide | omega) ?_
  refine x_nI (t := 0) (mj := 153) (n := 3) (rc := 0) (ml := 3) (nr := 0) (np := 13) (as := [iv_c a1, iv_c 2147483648, iv_c v9]) (rest := []) (lo1 := [iv_c a1, iv_c 2147483648, iv_c v9]) (by decide +kernel) (by decide) (by decide +kernel) (Or.inl rfl) rfl rfl (x_wi la1 (x_wi (by decide) (x_wi (by first | decide | omega) x_wn))) x_wn (by decide) rfl ?_
  refine x_iload (np := 1) (x := 0) (by decide +kernel) rfl la1 ?_
  refine x_iload (np := 2) (x := 1) (by decide +kernel) rfl (by decide) ?_
  refine x_icmp (k := 2) (tg := 14) (np := 5) (by decide +kernel) (by decide) la1 (by decide) (fun q11 => ?_) (fun q12 => ?_)
  · have q11 : a1 < 2147483648 := q11
    refine x_const (np := 15) (x := 9223372039002259456) (a := 2147483648) (by decide +kernel) (by decide) (by decide) ?_
    refine x_retI (np := 16) (x := 0) (by decide +kernel) (by decide) (Or.inr ⟨by decide +kernel, by first | decide | omega, by first | decide | omega⟩) ⟨_, rfl, (by decide), ?_⟩
    refine x_ifz (k := 1) (tg := 20) (np := 16) (by decide +kernel) (by decide) (by decide) (fun q13 => ?_) (fun q14 => ?_)
    · have q13 : 2147483648 ≠ 2147483648 := q13
      exfalso; omega
    have q14 : ¬ (2147483648 ≠ 2147483648) := q14
    refine x_const (np := 17) (x := 9223372043297226753) (a := 2147483649) (by decide +kernel) (by decide) (by decide) ?_
    refine x_goto (np := 20) (x := 21) (by decide +kernel) ?_
    refine x_retI (np := 22) (x := 0) (by decide +kernel) (by decide) (Or.inr ⟨by decide +kernel, by first | decide | omega, by first | decide | omega⟩) ⟨_, rfl, (by decide), ?_⟩
    refine x_retI (np := 7) (x := 0) (by decide +kernel) (by decide) (Or.inr ⟨by decide +kernel, by first | decide | omega, by first | decide | omega⟩) ⟨_, rfl, (by decide), ?_⟩
    refine x_const (np := 12) (x := 9223372043297226753) (a := 2147483649) (by decide +kernel) (by decide) (by decide) ?_
    refine x_nI (t := 6) (mj := 152) (n := 3) (rc := 12) (ml := 3) (nr := 0) (np := 15) (as := [x_r 75, iv_c 2147483649, iv_c 2147483649]) (rest := []) (lo1 := [x_r 75, iv_c 2147483649, iv_c 2147483649]) (by decide +kernel) (by decide) (by decide +kernel) (x_rb_of (by decide +kernel)) rfl rfl (x_wr (by decide) (x_wi (by decide) (x_wi (by decide) x_wn))) x_wn (by decide) rfl ?_
    refine x_iload (np := 1) (x := 1) (by decide +kernel) rfl (by decide) ?_
    refine x_ifz (k := 0) (tg := 9) (np := 4) (by decide +kernel) (by decide) (by decide) (fun q15 => ?_) (fun q16 => ?_)
    · have q15 : 2147483649 = 2147483648 := q15
      exfalso; omega
    have q16 : ¬ (2147483649 = 2147483648) := q16
    refine x_aload (np := 5) (x := 0) (by decide +kernel) rfl (x_nc_le (by decide)) ?_
    refine x_iload (np := 6) (x := 2) (by decide +kernel) rfl (by decide) ?_
    refine x_putI (np := 9) (x := 704) (f := 0) (by decide +kernel) (by decide +kernel) (by decide) (Or.inl (by decide)) ?_
    have j18 := jU (e := 0) (v := 2147483649) 0 j2 rg_75_0_0_1 (by first | decide | omega) (by first | decide | omega) (by first | decide | omega)
    have f20 := jF (e := 0) (v := 2147483649) 0 f4 rg_75_0_0_1 (by first | decide | omega) (by first | decide | omega) (by decide)
    generalize e19 : x_up h1 75 0 2147483649 = h17 at j18 f20 ⊢
    refine x_iload (np := 10) (x := 1) (by decide +kernel) rfl (by decide) ?_
    refine x_retI (np := 11) (x := 0) (by decide +kernel) (by decide) (Or.inr ⟨by decide +kernel, by first | decide | omega, by first | decide | omega⟩) ⟨_, rfl, (by decide), ?_⟩
    refine x_ifz (k := 0) (tg := 20) (np := 18) (by decide +kernel) (by decide) (by decide) (fun q21 => ?_) (fun q22 => ?_)
    · have q21 : 2147483649 = 2147483648 := q21
      exfalso; omega
    have q22 : ¬ (2147483649 = 2147483648) := q22
    refine x_const (np := 19) (x := 9223372039002259456) (a := 2147483648) (by decide +kernel) (by decide) (by decide) ?_
    refine x_retI (np := 20) (x := 0) (by decide +kernel) (by decide) (Or.inl (by decide +kernel)) ⟨_, rfl, (by decide), ?_⟩
    exact ⟨j18, f20, (by first | decide | omega)⟩
  have q12 : ¬ (a1 < 2147483648) := q12
  refine x_iload (np := 6) (x := 0) (by decide +kernel) rfl la1 ?_
  refine x_iload (np := 7) (x := 2) (by decide +kernel) rfl (by first | decide | omega) ?_
  refine x_icmp (k := 4) (tg := 14) (np := 10) (by decide +kernel) (by decide) la1 (by first | decide | omega) (fun q23 => ?_) (fun q24 => ?_)
  · have q23 : v9 < a1 := q23
    refine x_const (np := 15) (x := 9223372039002259456) (a := 2147483648) (by decide +kernel) (by decide) (by decide) ?_
    refine x_retI (np := 16) (x := 0) (by decide +kernel) (by decide) (Or.inr ⟨by decide +kernel, by first | decide | omega, by first | decide | omega⟩) ⟨_, rfl, (by decide), ?_⟩
    refine x_ifz (k := 1) (tg := 20) (np := 16) (by decide +kernel) (by decide) (by decide) (fun q25 => ?_) (fun q26 => ?_)
    · have q25 : 2147483648 ≠ 2147483648 := q25
      exfalso; omega
    have q26 : ¬ (2147483648 ≠ 2147483648) := q26
    refine x_const (np := 17) (x := 9223372043297226753) (a := 2147483649) (by decide +kernel) (by decide) (by decide) ?_
    refine x_goto (np := 20) (x := 21) (by decide +kernel) ?_
    refine x_retI (np := 22) (x := 0) (by decide +kernel) (by decide) (Or.inr ⟨by decide +kernel, by first | decide | omega, by first | decide | omega⟩) ⟨_, rfl, (by decide), ?_⟩
    refine x_retI (np := 7) (x := 0) (by decide +kernel) (by decide) (Or.inr ⟨by decide +kernel, by first | decide | omega, by first | decide | omega⟩) ⟨_, rfl, (by decide), ?_⟩
    refine x_const (np := 12) (x := 9223372043297226753) (a := 2147483649) (by decide +kernel) (by decide) (by decide) ?_
    refine x_nI (t := 6) (mj := 152) (n := 3) (rc := 12) (ml := 3) (nr := 0) (np := 15) (as := [x_r 75, iv_c 2147483649, iv_c 2147483649]) (rest := []) (lo1 := [x_r 75, iv_c 2147483649, iv_c 2147483649]) (by decide +kernel) (by decide) (by decide +kernel) (x_rb_of (by decide +kernel)) rfl rfl (x_wr (by decide) (x_wi (by decide) (x_wi (by decide) x_wn))) x_wn (by decide) rfl ?_
    refine x_iload (np := 1) (x := 1) (by decide +kernel) rfl (by decide) ?_
    refine x_ifz (k := 0) (tg := 9) (np := 4) (by decide +kernel) (by decide) (by decide) (fun q27 => ?_) (fun q28 => ?_)
    · have q27 : 2147483649 = 2147483648 := q27
      exfalso; omega
    have q28 : ¬ (2147483649 = 2147483648) := q28
    refine x_aload (np := 5) (x := 0) (by decide +kernel) rfl (x_nc_le (by decide)) ?_
    refine x_iload (np := 6) (x := 2) (by decide +kernel) rfl (by decide) ?_
    refine x_putI (np := 9) (x := 704) (f := 0) (by decide +kernel) (by decide +kernel) (by decide) (Or.inl (by decide)) ?_
    have j30 := jU (e := 0) (v := 2147483649) 0 j2 rg_75_0_0_1 (by first | decide | omega) (by first | decide | omega) (by first | decide | omega)
    have f32 := jF (e := 0) (v := 2147483649) 0 f4 rg_75_0_0_1 (by first | decide | omega) (by first | decide | omega) (by decide)
    generalize e31 : x_up h1 75 0 2147483649 = h29 at j30 f32 ⊢
    refine x_iload (np := 10) (x := 1) (by decide +kernel) rfl (by decide) ?_
    refine x_retI (np := 11) (x := 0) (by decide +kernel) (by decide) (Or.inr ⟨by decide +kernel, by first | decide | omega, by first | decide | omega⟩) ⟨_, rfl, (by decide), ?_⟩
    refine x_ifz (k := 0) (tg := 20) (np := 18) (by decide +kernel) (by decide) (by decide) (fun q33 => ?_) (fun q34 => ?_)
    · have q33 : 2147483649 = 2147483648 := q33
      exfalso; omega
    have q34 : ¬ (2147483649 = 2147483648) := q34
    refine x_const (np := 19) (x := 9223372039002259456) (a := 2147483648) (by decide +kernel) (by decide) (by decide) ?_
    refine x_retI (np := 20) (x := 0) (by decide +kernel) (by decide) (Or.inl (by decide +kernel)) ⟨_, rfl, (by decide), ?_⟩
    exact ⟨j30, f32, (by first | decide | omega)⟩
  have q24 : ¬ (v9 < a1) := q24
  refine x_const (np := 11) (x := 9223372043297226753) (a := 2147483649) (by decide +kernel) (by decide) (by decide) ?_
  refine x_goto (np := 14) (x := 15) (by decide +kernel) ?_
  refine x_retI (np := 16) (x := 0) (by decide +kernel) (by decide) (Or.inr ⟨by decide +kernel, by first | decide | omega, by first | decide | omega⟩) ⟨_, rfl, (by decide), ?_⟩
  refine x_ifz (k := 1) (tg := 20) (np := 16) (by decide +kernel) (by decide) (by decide) (fun q35 => ?_) (fun q36 => ?_)
  · have q35 : 2147483649 ≠ 2147483648 := q35
    refine x_const (np := 21) (x := 9223372039002259456) (a := 2147483648) (by decide +kernel) (by decide) (by decide) ?_
    refine x_retI (np := 22) (x := 0) (by decide +kernel) (by decide) (Or.inr ⟨by decide +kernel, by first | decide | omega, by first | decide | omega⟩) ⟨_, rfl, (by decide), ?_⟩
    refine x_retI (np := 7) (x := 0) (by decide +kernel) (by decide) (Or.inr ⟨by decide +kernel, by first | decide | omega, by first | decide | omega⟩) ⟨_, rfl, (by decide), ?_⟩
    refine x_const (np := 12) (x := 9223372043297226753) (a := 2147483649) (by decide +kernel) (by decide) (by decide) ?_
    refine x_nI (t := 6) (mj := 152) (n := 3) (rc := 12) (ml := 3) (nr := 0) (np := 15) (as := [x_r 75, iv_c 2147483648, iv_c 2147483649]) (rest := []) (lo1 := [x_r 75, iv_c 2147483648, iv_c 2147483649]) (by decide +kernel) (by decide) (by decide +kernel) (x_rb_of (by decide +kernel)) rfl rfl (x_wr (by decide) (x_wi (by decide) (x_wi (by decide) x_wn))) x_wn (by decide) rfl ?_
    refine x_iload (np := 1) (x := 1) (by decide +kernel) rfl (by decide) ?_
    refine x_ifz (k := 0) (tg := 9) (np := 4) (by decide +kernel) (by decide) (by decide) (fun q37 => ?_) (fun q38 => ?_)
    · have q37 : 2147483648 = 2147483648 := q37
      refine x_iload (np := 10) (x := 1) (by decide +kernel) rfl (by decide) ?_
      refine x_retI (np := 11) (x := 0) (by decide +kernel) (by decide) (Or.inr ⟨by decide +kernel, by first | decide | omega, by first | decide | omega⟩) ⟨_, rfl, (by decide), ?_⟩
      refine x_ifz (k := 0) (tg := 20) (np := 18) (by decide +kernel) (by decide) (by decide) (fun q39 => ?_) (fun q40 => ?_)
      · have q39 : 2147483648 = 2147483648 := q39
        refine x_aload (np := 21) (x := 0) (by decide +kernel) rfl (x_nc_le (by decide)) ?_
        have m44 : WT 76 h1 := by rw [← e3]; exact WT.oth hW hJ (by decide)
        refine x_cV (t := 6) (mj := 210) (n := 1) (rc := 12) (ml := 5) (nr := 0) (np := 24) (as := [x_r 75]) (rest := []) (lo1 := [x_r 75, 147573952589676412928, 147573952589676412928, 147573952589676412928, 147573952589676412928]) (by decide +kernel) (by decide) (by decide +kernel) (x_rb_of (by decide +kernel)) rfl rfl (x_wr (by decide) x_wn) x_wn (by decide) rfl (c210_75 j2  m44) (fun h45 q43 => ?_)
        obtain ⟨j46, f47⟩ := q43
        have f50 := Fr.trans f4 f47 (by decide)
        refine x_const (np := 25) (x := 9223372039002259456) (a := 2147483648) (by decide +kernel) (by decide) (by decide) ?_
        refine x_istore (np := 26) (x := 3) (lo' := [x_r 75, iv_c a1, iv_c a2, iv_c 2147483648, 147573952589676412928]) (by decide +kernel) (by decide) (Nat.le_of_ble_eq_true rfl) rfl ?_
        refine x_const (np := 27) (x := 9223372039002259456) (a := 2147483648) (by decide +kernel) (by decide) (by decide) ?_
        refine x_istore (np := 29) (x := 4) (lo' := [x_r 75, iv_c a1, iv_c a2, iv_c 2147483648, iv_c 2147483648]) (by decide +kernel) (by decide) (Nat.le_of_ble_eq_true rfl) rfl ?_
        have p700 : ∀ (n : Nat) (v696 : Nat) (v698 : Nat), 4294967296 - v698 < n → (0 ≤ v696 ∧ v696 ≤ 4294967295) → (2147483648 ≤ v698 ∧ v698 ≤ 2147483668) → X sc 224 (d + 5) (xI fun r h' => J h' ∧ Fr 135291600897 h h' ∧ (0 ≤ r ∧ r ≤ 4294967295)) 0 0 29 [x_r 75, iv_c a1, iv_c a2, iv_c v696, iv_c v698] [] h45 := by
          intro n
          induction n with
          | zero => intro v696 v698 q701; exact absurd q701 (Nat.not_lt_zero _)
          | succ n i702 =>
            intro v696 v698 q701 b697 b699
            refine x_iload (np := 31) (x := 4) (by decide +kernel) rfl (by first | decide | omega) ?_
            refine x_aload (np := 32) (x := 0) (by decide +kernel) rfl (x_nc_le (by decide)) ?_
            have q703 : h45 75 1 = 76 := by have z := jB (e := 1) 0 j46 rg_75_1_0_1 (by decide) (by decide); omega
            refine x_getR (np := 35) (x := 705) (f := 1) (q := 76) (by decide +kernel) (by decide) (by decide +kernel) q703 ?_
            refine x_const (np := 36) (x := 9223372047592194050) (a := 2147483650) (by decide +kernel) (by decide) (by decide) ?_
            have q704 : h45 76 2 = h1 76 2 := jK 0 f47 rg_76_2_0_1 (by first | decide | omega) (by first | decide | omega) (by decide)
            have q705 : h1 76 2 = h 76 2 := by rw [← e3]; exact x_up_k (by decide)
            have b706 := jB (e := 2) 0 hJ rg_76_2_0_1 (by first | decide | omega) (by first | decide | omega)
            refine x_aldC (np := 37) (x := 0) (n := 1952) (i := 2) (q := (h 76 2)) (by decide +kernel) (by decide +kernel) (by first | decide | omega) (by first | decide | omega) (by decide) (q704.trans q705) (fun l707 => ?_)
            refine x_icmp (k := 3) (tg := 94) (np := 40) (by decide +kernel) (by decide) (by first | decide | omega) l707 (fun q708 => ?_) (fun q709 => ?_)
            · have q708 : (h 76 2) ≤ v698 := q708
              refine x_iload (np := 95) (x := 3) (by decide +kernel) rfl (by first | decide | omega) ?_
              refine x_retI (np := 96) (x := 0) (by decide +kernel) (by first | decide | omega) (Or.inl (by decide +kernel)) ⟨_, rfl, (by first | decide | omega), ?_⟩
              exact ⟨j46, f50, (by first | decide | omega)⟩
            have q709 : ¬ ((h 76 2) ≤ v698) := q709
            refine x_iload (np := 41) (x := 3) (by decide +kernel) rfl (by first | decide | omega) ?_
            refine x_aload (np := 42) (x := 0) (by decide +kernel) rfl (x_nc_le (by decide)) ?_
            refine x_iload (np := 44) (x := 4) (by decide +kernel) rfl (by first | decide | omega) ?_
            refine x_nI (t := 6) (mj := 222) (n := 2) (rc := 12) (ml := 2) (nr := 1) (np := 47) (as := [x_r 75, iv_c v698]) (rest := [iv_c v696]) (lo1 := [x_r 75, iv_c v698]) (by decide +kernel) (by decide) (by decide +kernel) (x_rb_of (by decide +kernel)) rfl rfl (x_wr (by decide) (x_wi (by first | decide | omega) x_wn)) (x_wi (by first | decide | omega) x_wn) (by decide) rfl ?_
            refine x_aload (np := 1) (x := 0) (by decide +kernel) rfl (x_nc_le (by decide)) ?_
            have q710 : h45 75 21 = 88 := by have z := jB (e := 21) 0 j46 rg_75_21_0_1 (by decide) (by decide); omega
            refine x_getR (np := 4) (x := 725) (f := 21) (q := 88) (by decide +kernel) (by decide) (by decide +kernel) q710 ?_
            refine x_iload (np := 5) (x := 1) (by decide +kernel) rfl (by first | decide | omega) ?_
            obtain ⟨u711, q712⟩ : ∃ z, v698 = 2147483648 + z := ⟨v698 - 2147483648, by first | decide | omega⟩
            refine x_aldC (np := 6) (x := 0) (n := 20) (i := u711) (q := (h45 88 u711)) (by decide +kernel) (by decide +kernel) (by first | decide | omega) (by first | decide | omega) (by decide) rfl (fun l713 => ?_)
            refine x_ifz (k := 3) (tg := 13) (np := 9) (by decide +kernel) (by decide) l713 (fun q714 => ?_) (fun q715 => ?_)
            · have q714 : 2147483648 ≤ (h45 88 u711) := q714
              refine x_const (np := 14) (x := 9223372039002259456) (a := 2147483648) (by decide +kernel) (by decide) (by decide) ?_
              refine x_retI (np := 15) (x := 0) (by decide +kernel) (by decide) (Or.inr ⟨by decide +kernel, by first | decide | omega, by first | decide | omega⟩) ⟨_, rfl, (by decide), ?_⟩
              refine x_ifz (k := 1) (tg := 85) (np := 50) (by decide +kernel) (by decide) (by decide) (fun q716 => ?_) (fun q717 => ?_)
              · have q716 : 2147483648 ≠ 2147483648 := q716
                exfalso; omega
              have q717 : ¬ (2147483648 ≠ 2147483648) := q717
              refine x_iload (np := 51) (x := 2) (by decide +kernel) rfl la2 ?_
              refine x_ifz (k := 0) (tg := 64) (np := 54) (by decide +kernel) (by decide) la2 (fun q718 => ?_) (fun q719 => ?_)
              · have q718 : a2 = 2147483648 := q718
                refine x_aload (np := 65) (x := 0) (by decide +kernel) rfl (x_nc_le (by decide)) ?_
                refine x_iload (np := 67) (x := 4) (by decide +kernel) rfl (by first | decide | omega) ?_
                refine x_const (np := 68) (x := 9223372043297226753) (a := 2147483649) (by decide +kernel) (by decide) (by decide) ?_
                refine x_nI (t := 6) (mj := 161) (n := 3) (rc := 12) (ml := 3) (nr := 1) (np := 71) (as := [x_r 75, iv_c v698, iv_c 2147483649]) (rest := [iv_c v696]) (lo1 := [x_r 75, iv_c v698, iv_c 2147483649]) (by decide +kernel) (by decide) (by decide +kernel) (x_rb_of (by decide +kernel)) rfl rfl (x_wr (by decide) (x_wi (by first | decide | omega) (x_wi (by decide) x_wn))) (x_wi (by first | decide | omega) x_wn) (by decide) rfl ?_
                refine x_aload (np := 1) (x := 0) (by decide +kernel) rfl (x_nc_le (by decide)) ?_
                have q720 : h45 75 1 = 76 := by have z := jB (e := 1) 0 j46 rg_75_1_0_1 (by decide) (by decide); omega
                refine x_getR (np := 4) (x := 705) (f := 1) (q := 76) (by decide +kernel) (by decide) (by decide +kernel) q720 ?_
                refine x_const (np := 6) (x := 9223372124901605396) (a := 2147483668) (by decide +kernel) (by decide) (by decide) ?_
                refine x_const (np := 8) (x := 9223372069067030535) (a := 2147483655) (by decide +kernel) (by decide) (by decide) ?_
                refine x_iload (np := 9) (x := 1) (by decide +kernel) rfl (by first | decide | omega) ?_
                refine x_imul (np := 10) (x := 0) (i := 7) (j := u711) (v := (2147483648 + 7 * u711)) (by decide +kernel) (by first | decide | omega) (by first | decide | omega) (by first | decide | omega) (by first | decide | omega) (by decide) (by first | decide | omega) ?_
                refine x_iadd (np := 11) (x := 0) (v := (2147483668 + 7 * u711)) (by decide +kernel) (by decide) (by first | decide | omega) (by first | decide | omega) (by first | decide | omega) ?_
                refine x_iload (np := 12) (x := 2) (by decide +kernel) rfl (by decide) ?_
                refine x_iadd (np := 13) (x := 0) (v := (2147483669 + 7 * u711)) (by decide +kernel) (by first | decide | omega) (by decide) (by first | decide | omega) (by first | decide | omega) ?_
                have q722 : h45 76 (21 + 7 * u711) = h1 76 (21 + 7 * u711) := jK u711 f47 rg_76_21_7_20 (by first | decide | omega) (by first | decide | omega) (by decide)
                have q723 : h1 76 (21 + 7 * u711) = h 76 (21 + 7 * u711) := by rw [← e3]; exact x_up_k (by decide)
                have b724 := jB (e := (21 + 7 * u711)) u711 hJ rg_76_21_7_20 (by first | decide | omega) (by first | decide | omega)
                refine x_aldC (np := 14) (x := 0) (n := 1952) (i := (21 + 7 * u711)) (q := ((h 76 (21 + 7 * u711)))) (by decide +kernel) (by decide +kernel) (by first | decide | omega) (by first | decide | omega) (by decide) (q722.trans q723) (fun l725 => ?_)
                refine x_retI (np := 15) (x := 0) (by decide +kernel) l725 (Or.inl (by decide +kernel)) ⟨_, rfl, l725, ?_⟩
                refine x_iload (np := 72) (x := 1) (by decide +kernel) rfl la1 ?_
                refine x_icmp (k := 1) (tg := 85) (np := 75) (by decide +kernel) (by decide) l725 la1 (fun q726 => ?_) (fun q727 => ?_)
                · have q726 : ((h 76 (21 + 7 * u711))) ≠ a1 := q726
                  refine x_const (np := 86) (x := 9223372039002259456) (a := 2147483648) (by decide +kernel) (by decide) (by decide) ?_
                  refine x_iadd (np := 87) (x := 0) (v := v696) (by decide +kernel) (by first | decide | omega) (by decide) (by first | decide | omega) (by first | decide | omega) ?_
                  refine x_istore (np := 88) (x := 3) (lo' := [x_r 75, iv_c a1, iv_c a2, iv_c v696, iv_c v698]) (by decide +kernel) (by first | decide | omega) (Nat.le_of_ble_eq_true rfl) rfl ?_
                  refine x_iinc (np := 91) (i := 4) (j := 2147483649) (v := (1 + v698)) (lo' := [x_r 75, iv_c a1, iv_c a2, iv_c v696, iv_c (1 + v698)]) (by decide +kernel) (by decide) (by decide) rfl (by first | decide | omega) (by first | decide | omega) (by first | decide | omega) rfl ?_
                  refine x_goto (np := 94) (x := 29) (by decide +kernel) ?_
                  exact i702 v696 (1 + v698) (by first | decide | omega) (by first | decide | omega) (by first | decide | omega)
                have q727 : ¬ (((h 76 (21 + 7 * u711))) ≠ a1) := q727
                refine x_aload (np := 76) (x := 0) (by decide +kernel) rfl (x_nc_le (by decide)) ?_
                have q728 : h45 75 23 = 90 := by have z := jB (e := 23) 0 j46 rg_75_23_0_1 (by decide) (by decide); omega
                refine x_getR (np := 79) (x := 727) (f := 23) (q := 90) (by decide +kernel) (by decide) (by decide +kernel) q728 ?_
                refine x_iload (np := 81) (x := 4) (by decide +kernel) rfl (by first | decide | omega) ?_
                refine x_aldC (np := 82) (x := 0) (n := 20) (i := u711) (q := (h45 90 u711)) (by decide +kernel) (by decide +kernel) (by first | decide | omega) (by first | decide | omega) (by decide) rfl (fun l729 => ?_)
                refine x_goto (np := 85) (x := 86) (by decide +kernel) ?_
                refine x_addA (by rw [tb_b224]; decide +kernel) (by first | decide | omega) l729 (fun v730 l731 => ?_)
                refine x_istore (np := 88) (x := 3) (lo' := [x_r 75, iv_c a1, iv_c a2, iv_c v730, iv_c v698]) (by decide +kernel) l731 (Nat.le_of_ble_eq_true rfl) rfl ?_
                refine x_iinc (np := 91) (i := 4) (j := 2147483649) (v := (1 + v698)) (lo' := [x_r 75, iv_c a1, iv_c a2, iv_c v730, iv_c (1 + v698)]) (by decide +kernel) (by decide) (by decide) rfl (by first | decide | omega) (by first | decide | omega) (by first | decide | omega) rfl ?_
                refine x_goto (np := 94) (x := 29) (by decide +kernel) ?_
                exact i702 v730 (1 + v698) (by first | decide | omega) (by first | decide | omega) (by first | decide | omega)
              have q719 : ¬ (a2 = 2147483648) := q719
              refine x_aload (np := 55) (x := 0) (by decide +kernel) rfl (x_nc_le (by decide)) ?_
              have q732 : h45 75 21 = 88 := by have z := jB (e := 21) 0 j46 rg_75_21_0_1 (by decide) (by decide); omega
              refine x_getR (np := 58) (x := 725) (f := 21) (q := 88) (by decide +kernel) (by decide) (by decide +kernel) q732 ?_
              refine x_iload (np := 60) (x := 4) (by decide +kernel) rfl (by first | decide | omega) ?_
              refine x_aldC (np := 61) (x := 0) (n := 20) (i := u711) (q := (h45 88 u711)) (by decide +kernel) (by decide +kernel) (by first | decide | omega) (by first | decide | omega) (by decide) rfl (fun l733 => ?_)
              refine x_goto (np := 64) (x := 71) (by decide +kernel) ?_
              refine x_iload (np := 72) (x := 1) (by decide +kernel) rfl la1 ?_
              refine x_icmp (k := 1) (tg := 85) (np := 75) (by decide +kernel) (by decide) l713 la1 (fun q734 => ?_) (fun q735 => ?_)
              · have q734 : (h45 88 u711) ≠ a1 := q734
                refine x_const (np := 86) (x := 9223372039002259456) (a := 2147483648) (by decide +kernel) (by decide) (by decide) ?_
                refine x_iadd (np := 87) (x := 0) (v := v696) (by decide +kernel) (by first | decide | omega) (by decide) (by first | decide | omega) (by first | decide | omega) ?_
                refine x_istore (np := 88) (x := 3) (lo' := [x_r 75, iv_c a1, iv_c a2, iv_c v696, iv_c v698]) (by decide +kernel) (by first | decide | omega) (Nat.le_of_ble_eq_true rfl) rfl ?_
                refine x_iinc (np := 91) (i := 4) (j := 2147483649) (v := (1 + v698)) (lo' := [x_r 75, iv_c a1, iv_c a2, iv_c v696, iv_c (1 + v698)]) (by decide +kernel) (by decide) (by decide) rfl (by first | decide | omega) (by first | decide | omega) (by first | decide | omega) rfl ?_
                refine x_goto (np := 94) (x := 29) (by decide +kernel) ?_
                exact i702 v696 (1 + v698) (by first | decide | omega) (by first | decide | omega) (by first | decide | omega)
              have q735 : ¬ ((h45 88 u711) ≠ a1) := q735
              refine x_aload (np := 76) (x := 0) (by decide +kernel) rfl (x_nc_le (by decide)) ?_
              have q736 : h45 75 23 = 90 := by have z := jB (e := 23) 0 j46 rg_75_23_0_1 (by decide) (by decide); omega
              refine x_getR (np := 79) (x := 727) (f := 23) (q := 90) (by decide +kernel) (by decide) (by decide +kernel) q736 ?_
              refine x_iload (np := 81) (x := 4) (by decide +kernel) rfl (by first | decide | omega) ?_
              refine x_aldC (np := 82) (x := 0) (n := 20) (i := u711) (q := (h45 90 u711)) (by decide +kernel) (by decide +kernel) (by first | decide | omega) (by first | decide | omega) (by decide) rfl (fun l737 => ?_)
              refine x_goto (np := 85) (x := 86) (by decide +kernel) ?_
              refine x_addA (by rw [tb_b224]; decide +kernel) (by first | decide | omega) l737 (fun v738 l739 => ?_)
              refine x_istore (np := 88) (x := 3) (lo' := [x_r 75, iv_c a1, iv_c a2, iv_c v738, iv_c v698]) (by decide +kernel) l739 (Nat.le_of_ble_eq_true rfl) rfl ?_
              refine x_iinc (np := 91) (i := 4) (j := 2147483649) (v := (1 + v698)) (lo' := [x_r 75, iv_c a1, iv_c a2, iv_c v738, iv_c (1 + v698)]) (by decide +kernel) (by decide) (by decide) rfl (by first | decide | omega) (by first | decide | omega) (by first | decide | omega) rfl ?_
              refine x_goto (np := 94) (x := 29) (by decide +kernel) ?_
              exact i702 v738 (1 + v698) (by first | decide | omega) (by first | decide | omega) (by first | decide | omega)
            have q715 : ¬ (2147483648 ≤ (h45 88 u711)) := q715
            refine x_const (np := 10) (x := 9223372043297226753) (a := 2147483649) (by decide +kernel) (by decide) (by decide) ?_
            refine x_goto (np := 13) (x := 14) (by decide +kernel) ?_
            refine x_retI (np := 15) (x := 0) (by decide +kernel) (by decide) (Or.inr ⟨by decide +kernel, by first | decide | omega, by first | decide | omega⟩) ⟨_, rfl, (by decide), ?_⟩
            refine x_ifz (k := 1) (tg := 85) (np := 50) (by decide +kernel) (by decide) (by decide) (fun q740 => ?_) (fun q741 => ?_)
            · have q740 : 2147483649 ≠ 2147483648 := q740
              refine x_const (np := 86) (x := 9223372039002259456) (a := 2147483648) (by decide +kernel) (by decide) (by decide) ?_
              refine x_iadd (np := 87) (x := 0) (v := v696) (by decide +kernel) (by first | decide | omega) (by decide) (by first | decide | omega) (by first | decide | omega) ?_
              refine x_istore (np := 88) (x := 3) (lo' := [x_r 75, iv_c a1, iv_c a2, iv_c v696, iv_c v698]) (by decide +kernel) (by first | decide | omega) (Nat.le_of_ble_eq_true rfl) rfl ?_
              refine x_iinc (np := 91) (i := 4) (j := 2147483649) (v := (1 + v698)) (lo' := [x_r 75, iv_c a1, iv_c a2, iv_c v696, iv_c (1 + v698)]) (by decide +kernel) (by decide) (by decide) rfl (by first | decide | omega) (by first | decide | omega) (by first | decide | omega) rfl ?_
              refine x_goto (np := 94) (x := 29) (by decide +kernel) ?_
              exact i702 v696 (1 + v698) (by first | decide | omega) (by first | decide | omega) (by first | decide | omega)
            have q741 : ¬ (2147483649 ≠ 2147483648) := q741
            exfalso; omega
        exact p700 _ 2147483648 2147483648 (Nat.lt_succ_self _) (by first | decide | omega) (by first | decide | omega)
      have q40 : ¬ (2147483648 = 2147483648) := q40
      exfalso; omega
    have q38 : ¬ (2147483648 = 2147483648) := q38
    exfalso; omega
  have q36 : ¬ (2147483649 ≠ 2147483648) := q36
  exfalso; omega
set_option maxHeartbeats 0 in
/-- LentNamesModel.letter(II)I -/
theorem c226_75 {sc : Nat × Nat} {d a1 a2 : Nat} {h : xh} (hJ : J h) (ba1 : 0 ≤ a1 ∧ a1 ≤ 4294967295) (ba2 : 0 ≤ a2 ∧ a2 ≤ 4294967295) (hW : WT 76 h) : X sc 226 (d + 5) (xI fun r h' => J h' ∧ Fr 135291600897 h h' ∧ (2147483647 ≤ r ∧ r ≤ 2147483659)) 0 0 0 [x_r 75, iv_c a1, iv_c a2, 147573952589676412928, 147573952589676412928] [] h := by
  have la1 : a1 < 4294967296 := by first | decide | omega
  have la2 : a2 < 4294967296 := by first | decide | omega
  have hF := Fr.refl 135291600897 h
  refine x_aload (np := 1) (x := 0) (by decide +kernel) rfl (x_nc_le (by decide)) ?_
  refine x_const (np := 2) (x := 9223372039002259456) (a := 2147483648) (by decide +kernel) (by decide) (by decide) ?_
  refine x_putI (np := 5) (x := 704) (f := 0) (by decide +kernel) (by decide +kernel) (by decide) (Or.inl (by decide)) ?_
  have j2 := jU (e := 0) (v := 2147483648) 0 hJ rg_75_0_0_1 (by first | decide | omega) (by first | decide | omega) (by first | decide | omega)
  have f4 := jF (e := 0) (v := 2147483648) 0 hF rg_75_0_0_1 (by first | decide | omega) (by first | decide | omega) (by decide)
  generalize e3 : x_up h 75 0 2147483648 = h1 at j2 f4 ⊢
  refine x_aload (np := 6) (x := 0) (by decide +kernel) rfl (x_nc_le (by decide)) ?_
  refine x_aload (np := 7) (x := 0) (by decide +kernel) rfl (x_nc_le (by decide)) ?_
  refine x_iload (np := 8) (x := 1) (by decide +kernel) rfl la1 ?_
  refine x_nI (t := 6) (mj := 225) (n := 2) (rc := 12) (ml := 2) (nr := 1) (np := 11) (as := [x_r 75, iv_c a1]) (rest := [x_r 75]) (lo1 := [x_r 75, iv_c a1]) (by decide +kernel) (by decide) (by decide +kernel) (x_rb_of (by decide +kernel)) rfl rfl (x_wr (by decide) (x_wi la1 x_wn)) (x_wr (by decide) x_wn) (by decide) rfl ?_
  refine x_aload (np := 1) (x := 0) (by decide +kernel) rfl (x_nc_le (by decide)) ?_
  refine x_iload (np := 2) (x := 1) (by decide +kernel) rfl la1 ?_
  refine x_const (np := 3) (x := 9223372051887161347) (a := 2147483651) (by decide +kernel) (by decide) (by decide) ?_
  refine x_nI (t := 6) (mj := 158) (n := 3) (rc := 12) (ml := 3) (nr := 0) (np := 6) (as := [x_r 75, iv_c a1, iv_c 2147483651]) (rest := []) (lo1 := [x_r 75, iv_c a1, iv_c 2147483651]) (by decide +kernel) (by decide) (by decide +kernel) (x_rb_of (by decide +kernel)) rfl rfl (x_wr (by decide) (x_wi la1 (x_wi (by decide) x_wn))) x_wn (by decide) rfl ?_
  refine x_iload (np := 1) (x := 1) (by decide +kernel) rfl la1 ?_
  refine x_const (np := 2) (x := 9223372039002259456) (a := 2147483648) (by decide +kernel) (by decide) (by decide) ?_
  refine x_aload (np := 3) (x := 0) (by decide +kernel) rfl (x_nc_le (by decide)) ?_
  have q5 : h1 75 1 = 76 := by have z := jB (e := 1) 0 j2 rg_75_1_0_1 (by decide) (by decide); omega
  refine x_getR (np := 6) (x := 705) (f := 1) (q := 76) (by decide +kernel) (by decide) (by decide +kernel) q5 ?_
  refine x_iload (np := 7) (x := 2) (by decide +kernel) rfl (by decide) ?_
  have q6 : h1 76 3 = h 76 3 := by rw [← e3]; exact x_up_k (by decide)
  have b7 := jB (e := 3) 0 hJ rg_76_3_0_1 (by first | decide | omega) (by first | decide | omega)
  refine x_aldC (np := 8) (x := 0) (n := 1952) (i := 3) (q := (h 76 3)) (by decide +kernel) (by decide +kernel) (by first | decide | omega) (by first | decide | omega) (by decide) q6 (fun l8 => ?_)
  refine x_const (np := 9) (x := 9223372043297226753) (a := 2147483649) (by decide +kernel) (by decide) (by decide) ?_
  obtain ⟨v9, q10⟩ : ∃ z, z + 2147483649 = (h 76 3) + 2147483648 := ⟨(h 76 3) + 2147483648 - 2147483649, by first | decide | omega⟩
  refine x_isub (np := 10) (x := 0) (v := v9) (by decide +kernel) l8 (by decide) (by first | decide | omega) (by first | decide | omega) ?_
  refine x_nI (t := 0) (mj := 153) (n := 3) (rc := 0) (ml := 3) (nr := 0) (np := 13) (as := [iv_c a1, iv_c 2147483648, iv_c v9]) (rest := []) (lo1 := [iv_c a1, iv_c 2147483648, iv_c v9]) (by decide +kernel) (by decide) (by decide +kernel) (Or.inl rfl) rfl rfl (x_wi la1 (x_wi (by decide) (x_wi (by first | decide | omega) x_wn))) x_wn (by decide) rfl ?_
  refine x_iload (np := 1) (x := 0) (by decide +kernel) rfl la1 ?_
  refine x_iload (np := 2) (x := 1) (by decide +kernel) rfl (by decide) ?_
  refine x_icmp (k := 2) (tg := 14) (np := 5) (by decide +kernel) (by decide) la1 (by decide) (fun q11 => ?_) (fun q12 => ?_)
  · have q11 : a1 < 2147483648 := q11
    refine x_const (np := 15) (x := 9223372039002259456) (a := 2147483648) (by decide +kernel) (by decide) (by decide) ?_
    refine x_retI (np := 16) (x := 0) (by decide +kernel) (by decide) (Or.inr ⟨by decide +kernel, by first | decide | omega, by first | decide | omega⟩) ⟨_, rfl, (by decide), ?_⟩
    refine x_ifz (k := 1) (tg := 20) (np := 16) (by decide +kernel) (by decide) (by decide) (fun q13 => ?_) (fun q14 => ?_)
    · have q13 : 2147483648 ≠ 2147483648 := q13
      exfalso; omega
    have q14 : ¬ (2147483648 ≠ 2147483648) := q14
    refine x_const (np := 17) (x := 9223372043297226753) (a := 2147483649) (by decide +kernel) (by decide) (by decide) ?_
    refine x_goto (np := 20) (x := 21) (by decide +kernel) ?_
    refine x_retI (np := 22) (x := 0) (by decide +kernel) (by decide) (Or.inr ⟨by decide +kernel, by first | decide | omega, by first | decide | omega⟩) ⟨_, rfl, (by decide), ?_⟩
    refine x_retI (np := 7) (x := 0) (by decide +kernel) (by decide) (Or.inr ⟨by decide +kernel, by first | decide | omega, by first | decide | omega⟩) ⟨_, rfl, (by decide), ?_⟩
    refine x_const (np := 12) (x := 9223372043297226753) (a := 2147483649) (by decide +kernel) (by decide) (by decide) ?_
    refine x_nI (t := 6) (mj := 152) (n := 3) (rc := 12) (ml := 3) (nr := 0) (np := 15) (as := [x_r 75, iv_c 2147483649, iv_c 2147483649]) (rest := []) (lo1 := [x_r 75, iv_c 2147483649, iv_c 2147483649]) (by decide +kernel) (by decide) (by decide +kernel) (x_rb_of (by decide +kernel)) rfl rfl (x_wr (by decide) (x_wi (by decide) (x_wi (by decide) x_wn))) x_wn (by decide) rfl ?_
    refine x_iload (np := 1) (x := 1) (by decide +kernel) rfl (by decide) ?_
    refine x_ifz (k := 0) (tg := 9) (np := 4) (by decide +kernel) (by decide) (by decide) (fun q15 => ?_) (fun q16 => ?_)
    · have q15 : 2147483649 = 2147483648 := q15
      exfalso; omega
    have q16 : ¬ (2147483649 = 2147483648) := q16
    refine x_aload (np := 5) (x := 0) (by decide +kernel) rfl (x_nc_le (by decide)) ?_
    refine x_iload (np := 6) (x := 2) (by decide +kernel) rfl (by decide) ?_
    refine x_putI (np := 9) (x := 704) (f := 0) (by decide +kernel) (by decide +kernel) (by decide) (Or.inl (by decide)) ?_
    have j18 := jU (e := 0) (v := 2147483649) 0 j2 rg_75_0_0_1 (by first | decide | omega) (by first | decide | omega) (by first | decide | omega)
    have f20 := jF (e := 0) (v := 2147483649) 0 f4 rg_75_0_0_1 (by first | decide | omega) (by first | decide | omega) (by decide)
    generalize e19 : x_up h1 75 0 2147483649 = h17 at j18 f20 ⊢
    refine x_iload (np := 10) (x := 1) (by decide +kernel) rfl (by decide) ?_
    refine x_retI (np := 11) (x := 0) (by decide +kernel) (by decide) (Or.inr ⟨by decide +kernel, by first | decide | omega, by first | decide | omega⟩) ⟨_, rfl, (by decide), ?_⟩
    refine x_ifz (k := 1) (tg := 40) (np := 18) (by decide +kernel) (by decide) (by decide) (fun q21 => ?_) (fun q22 => ?_)
    · have q21 : 2147483649 ≠ 2147483648 := q21
      refine x_const (np := 41) (x := 9223372039002259456) (a := 2147483648) (by decide +kernel) (by decide) (by decide) ?_
      refine x_retI (np := 42) (x := 0) (by decide +kernel) (by decide) (Or.inl (by decide +kernel)) ⟨_, rfl, (by decide), ?_⟩
      exact ⟨j18, f20, (by first | decide | omega)⟩
    have q22 : ¬ (2147483649 ≠ 2147483648) := q22
    exfalso; omega
  have q12 : ¬ (a1 < 2147483648) := q12
  refine x_iload (np := 6) (x := 0) (by decide +kernel) rfl la1 ?_
  refine x_iload (np := 7) (x := 2) (by decide +kernel) rfl (by first | decide | omega) ?_
  refine x_icmp (k := 4) (tg := 14) (np := 10) (by decide +kernel) (by decide) la1 (by first | decide | omega) (fun q23 => ?_) (fun q24 => ?_)
  · have q23 : v9 < a1 := q23
    refine x_const (np := 15) (x := 9223372039002259456) (a := 2147483648) (by decide +kernel) (by decide) (by decide) ?_
    refine x_retI (np := 16) (x := 0) (by decide +kernel) (by decide) (Or.inr ⟨by decide +kernel, by first | decide | omega, by first | decide | omega⟩) ⟨_, rfl, (by decide), ?_⟩
    refine x_ifz (k := 1) (tg := 20) (np := 16) (by decide +kernel) (by decide) (by decide) (fun q25 => ?_) (fun q26 => ?_)
    · have q25 : 2147483648 ≠ 2147483648 := q25
      exfalso; omega
    have q26 : ¬ (2147483648 ≠ 2147483648) := q26
    refine x_const (np := 17) (x := 9223372043297226753) (a := 2147483649) (by decide +kernel) (by decide) (by decide) ?_
    refine x_goto (np := 20) (x := 21) (by decide +kernel) ?_
    refine x_retI (np := 22) (x := 0) (by decide +kernel) (by decide) (Or.inr ⟨by decide +kernel, by first | decide | omega, by first | decide | omega⟩) ⟨_, rfl, (by decide), ?_⟩
    refine x_retI (np := 7) (x := 0) (by decide +kernel) (by decide) (Or.inr ⟨by decide +kernel, by first | decide | omega, by first | decide | omega⟩) ⟨_, rfl, (by decide), ?_⟩
    refine x_const (np := 12) (x := 9223372043297226753) (a := 2147483649) (by decide +kernel) (by decide) (by decide) ?_
    refine x_nI (t := 6) (mj := 152) (n := 3) (rc := 12) (ml := 3) (nr := 0) (np := 15) (as := [x_r 75, iv_c 2147483649, iv_c 2147483649]) (rest := []) (lo1 := [x_r 75, iv_c 2147483649, iv_c 2147483649]) (by decide +kernel) (by decide) (by decide +kernel) (x_rb_of (by decide +kernel)) rfl rfl (x_wr (by decide) (x_wi (by decide) (x_wi (by decide) x_wn))) x_wn (by decide) rfl ?_
    refine x_iload (np := 1) (x := 1) (by decide +kernel) rfl (by decide) ?_
    refine x_ifz (k := 0) (tg := 9) (np := 4) (by decide +kernel) (by decide) (by decide) (fun q27 => ?_) (fun q28 => ?_)
    · have q27 : 2147483649 = 2147483648 := q27
      exfalso; omega
    have q28 : ¬ (2147483649 = 2147483648) := q28
    refine x_aload (np := 5) (x := 0) (by decide +kernel) rfl (x_nc_le (by decide)) ?_
    refine x_iload (np := 6) (x := 2) (by decide +kernel) rfl (by decide) ?_
    refine x_putI (np := 9) (x := 704) (f := 0) (by decide +kernel) (by decide +kernel) (by decide) (Or.inl (by decide)) ?_
    have j30 := jU (e := 0) (v := 2147483649) 0 j2 rg_75_0_0_1 (by first | decide | omega) (by first | decide | omega) (by first | decide | omega)
    have f32 := jF (e := 0) (v := 2147483649) 0 f4 rg_75_0_0_1 (by first | decide | omega) (by first | decide | omega) (by decide)
    generalize e31 : x_up h1 75 0 2147483649 = h29 at j30 f32 ⊢
    refine x_iload (np := 10) (x := 1) (by decide +kernel) rfl (by decide) ?_
    refine x_retI (np := 11) (x := 0) (by decide +kernel) (by decide) (Or.inr ⟨by decide +kernel, by first | decide | omega, by first | decide | omega⟩) ⟨_, rfl, (by decide), ?_⟩
    refine x_ifz (k := 1) (tg := 40) (np := 18) (by decide +kernel) (by decide) (by decide) (fun q33 => ?_) (fun q34 => ?_)
    · have q33 : 2147483649 ≠ 2147483648 := q33
      refine x_const (np := 41) (x := 9223372039002259456) (a := 2147483648) (by decide +kernel) (by decide) (by decide) ?_
      refine x_retI (np := 42) (x := 0) (by decide +kernel) (by decide) (Or.inl (by decide +kernel)) ⟨_, rfl, (by decide), ?_⟩
      exact ⟨j30, f32, (by first | decide | omega)⟩
    have q34 : ¬ (2147483649 ≠ 2147483648) := q34
    exfalso; omega
  have q24 : ¬ (v9 < a1) := q24
  refine x_const (np := 11) (x := 9223372043297226753) (a := 2147483649) (by decide +kernel) (by decide) (by decide) ?_
  refine x_goto (np := 14) (x := 15) (by decide +kernel) ?_
  refine x_retI (np := 16) (x := 0) (by decide +kernel) (by decide) (Or.inr ⟨by decide +kernel, by first | decide | omega, by first | decide | omega⟩) ⟨_, rfl, (by decide), ?_⟩
  refine x_ifz (k := 1) (tg := 20) (np := 16) (by decide +kernel) (by decide) (by decide) (fun q35 => ?_) (fun q36 => ?_)
  · have q35 : 2147483649 ≠ 2147483648 := q35
    refine x_const (np := 21) (x := 9223372039002259456) (a := 2147483648) (by decide +kernel) (by decide) (by decide) ?_
    refine x_retI (np := 22) (x := 0) (by decide +kernel) (by decide) (Or.inr ⟨by decide +kernel, by first | decide | omega, by first | decide | omega⟩) ⟨_, rfl, (by decide), ?_⟩
    refine x_retI (np := 7) (x := 0) (by decide +kernel) (by decide) (Or.inr ⟨by decide +kernel, by first | decide | omega, by first | decide | omega⟩) ⟨_, rfl, (by decide), ?_⟩
    refine x_const (np := 12) (x := 9223372043297226753) (a := 2147483649) (by decide +kernel) (by decide) (by decide) ?_
    refine x_nI (t := 6) (mj := 152) (n := 3) (rc := 12) (ml := 3) (nr := 0) (np := 15) (as := [x_r 75, iv_c 2147483648, iv_c 2147483649]) (rest := []) (lo1 := [x_r 75, iv_c 2147483648, iv_c 2147483649]) (by decide +kernel) (by decide) (by decide +kernel) (x_rb_of (by decide +kernel)) rfl rfl (x_wr (by decide) (x_wi (by decide) (x_wi (by decide) x_wn))) x_wn (by decide) rfl ?_
    refine x_iload (np := 1) (x := 1) (by decide +kernel) rfl (by decide) ?_
    refine x_ifz (k := 0) (tg := 9) (np := 4) (by decide +kernel) (by decide) (by decide) (fun q37 => ?_) (fun q38 => ?_)
    · have q37 : 2147483648 = 2147483648 := q37
      refine x_iload (np := 10) (x := 1) (by decide +kernel) rfl (by decide) ?_
      refine x_retI (np := 11) (x := 0) (by decide +kernel) (by decide) (Or.inr ⟨by decide +kernel, by first | decide | omega, by first | decide | omega⟩) ⟨_, rfl, (by decide), ?_⟩
      refine x_ifz (k := 1) (tg := 40) (np := 18) (by decide +kernel) (by decide) (by decide) (fun q39 => ?_) (fun q40 => ?_)
      · have q39 : 2147483648 ≠ 2147483648 := q39
        exfalso; omega
      have q40 : ¬ (2147483648 ≠ 2147483648) := q40
      refine x_aload (np := 19) (x := 0) (by decide +kernel) rfl (x_nc_le (by decide)) ?_
      refine x_iload (np := 20) (x := 2) (by decide +kernel) rfl la2 ?_
      refine x_const (np := 21) (x := 9223372039002259456) (a := 2147483648) (by decide +kernel) (by decide) (by decide) ?_
      refine x_const (np := 22) (x := 9223372047592194050) (a := 2147483650) (by decide +kernel) (by decide) (by decide) ?_
      refine x_nI (t := 0) (mj := 153) (n := 3) (rc := 0) (ml := 3) (nr := 1) (np := 25) (as := [iv_c a2, iv_c 2147483648, iv_c 2147483650]) (rest := [x_r 75]) (lo1 := [iv_c a2, iv_c 2147483648, iv_c 2147483650]) (by decide +kernel) (by decide) (by decide +kernel) (Or.inl rfl) rfl rfl (x_wi la2 (x_wi (by decide) (x_wi (by decide) x_wn))) (x_wr (by decide) x_wn) (by decide) rfl ?_
      refine x_iload (np := 1) (x := 0) (by decide +kernel) rfl la2 ?_
      refine x_iload (np := 2) (x := 1) (by decide +kernel) rfl (by decide) ?_
      refine x_icmp (k := 2) (tg := 14) (np := 5) (by decide +kernel) (by decide) la2 (by decide) (fun q41 => ?_) (fun q42 => ?_)
      · have q41 : a2 < 2147483648 := q41
        refine x_const (np := 15) (x := 9223372039002259456) (a := 2147483648) (by decide +kernel) (by decide) (by decide) ?_
        refine x_retI (np := 16) (x := 0) (by decide +kernel) (by decide) (Or.inr ⟨by decide +kernel, by first | decide | omega, by first | decide | omega⟩) ⟨_, rfl, (by decide), ?_⟩
        refine x_ifz (k := 1) (tg := 32) (np := 28) (by decide +kernel) (by decide) (by decide) (fun q43 => ?_) (fun q44 => ?_)
        · have q43 : 2147483648 ≠ 2147483648 := q43
          exfalso; omega
        have q44 : ¬ (2147483648 ≠ 2147483648) := q44
        refine x_const (np := 29) (x := 9223372043297226753) (a := 2147483649) (by decide +kernel) (by decide) (by decide) ?_
        refine x_goto (np := 32) (x := 33) (by decide +kernel) ?_
        refine x_const (np := 34) (x := 9223372047592194050) (a := 2147483650) (by decide +kernel) (by decide) (by decide) ?_
        refine x_nI (t := 6) (mj := 152) (n := 3) (rc := 12) (ml := 3) (nr := 0) (np := 37) (as := [x_r 75, iv_c 2147483649, iv_c 2147483650]) (rest := []) (lo1 := [x_r 75, iv_c 2147483649, iv_c 2147483650]) (by decide +kernel) (by decide) (by decide +kernel) (x_rb_of (by decide +kernel)) rfl rfl (x_wr (by decide) (x_wi (by decide) (x_wi (by decide) x_wn))) x_wn (by decide) rfl ?_
        refine x_iload (np := 1) (x := 1) (by decide +kernel) rfl (by decide) ?_
        refine x_ifz (k := 0) (tg := 9) (np := 4) (by decide +kernel) (by decide) (by decide) (fun q45 => ?_) (fun q46 => ?_)
        · have q45 : 2147483649 = 2147483648 := q45
          exfalso; omega
        have q46 : ¬ (2147483649 = 2147483648) := q46
        refine x_aload (np := 5) (x := 0) (by decide +kernel) rfl (x_nc_le (by decide)) ?_
        refine x_iload (np := 6) (x := 2) (by decide +kernel) rfl (by decide) ?_
        refine x_putI (np := 9) (x := 704) (f := 0) (by decide +kernel) (by decide +kernel) (by decide) (Or.inl (by decide)) ?_
        have j48 := jU (e := 0) (v := 2147483650) 0 j2 rg_75_0_0_1 (by first | decide | omega) (by first | decide | omega) (by first | decide | omega)
        have f50 := jF (e := 0) (v := 2147483650) 0 f4 rg_75_0_0_1 (by first | decide | omega) (by first | decide | omega) (by decide)
        generalize e49 : x_up h1 75 0 2147483650 = h47 at j48 f50 ⊢
        refine x_iload (np := 10) (x := 1) (by decide +kernel) rfl (by decide) ?_
        refine x_retI (np := 11) (x := 0) (by decide +kernel) (by decide) (Or.inr ⟨by decide +kernel, by first | decide | omega, by first | decide | omega⟩) ⟨_, rfl, (by decide), ?_⟩
        refine x_ifz (k := 0) (tg := 42) (np := 40) (by decide +kernel) (by decide) (by decide) (fun q51 => ?_) (fun q52 => ?_)
        · have q51 : 2147483649 = 2147483648 := q51
          exfalso; omega
        have q52 : ¬ (2147483649 = 2147483648) := q52
        refine x_const (np := 41) (x := 9223372039002259456) (a := 2147483648) (by decide +kernel) (by decide) (by decide) ?_
        refine x_retI (np := 42) (x := 0) (by decide +kernel) (by decide) (Or.inl (by decide +kernel)) ⟨_, rfl, (by decide), ?_⟩
        exact ⟨j48, f50, (by first | decide | omega)⟩
      have q42 : ¬ (a2 < 2147483648) := q42
      refine x_iload (np := 6) (x := 0) (by decide +kernel) rfl la2 ?_
      refine x_iload (np := 7) (x := 2) (by decide +kernel) rfl (by decide) ?_
      refine x_icmp (k := 4) (tg := 14) (np := 10) (by decide +kernel) (by decide) la2 (by decide) (fun q53 => ?_) (fun q54 => ?_)
      · have q53 : 2147483650 < a2 := q53
        refine x_const (np := 15) (x := 9223372039002259456) (a := 2147483648) (by decide +kernel) (by decide) (by decide) ?_
        refine x_retI (np := 16) (x := 0) (by decide +kernel) (by decide) (Or.inr ⟨by decide +kernel, by first | decide | omega, by first | decide | omega⟩) ⟨_, rfl, (by decide), ?_⟩
        refine x_ifz (k := 1) (tg := 32) (np := 28) (by decide +kernel) (by decide) (by decide) (fun q55 => ?_) (fun q56 => ?_)
        · have q55 : 2147483648 ≠ 2147483648 := q55
          exfalso; omega
        have q56 : ¬ (2147483648 ≠ 2147483648) := q56
        refine x_const (np := 29) (x := 9223372043297226753) (a := 2147483649) (by decide +kernel) (by decide) (by decide) ?_
        refine x_goto (np := 32) (x := 33) (by decide +kernel) ?_
        refine x_const (np := 34) (x := 9223372047592194050) (a := 2147483650) (by decide +kernel) (by decide) (by decide) ?_
        refine x_nI (t := 6) (mj := 152) (n := 3) (rc := 12) (ml := 3) (nr := 0) (np := 37) (as := [x_r 75, iv_c 2147483649, iv_c 2147483650]) (rest := []) (lo1 := [x_r 75, iv_c 2147483649, iv_c 2147483650]) (by decide +kernel) (by decide) (by decide +kernel) (x_rb_of (by decide +kernel)) rfl rfl (x_wr (by decide) (x_wi (by decide) (x_wi (by decide) x_wn))) x_wn (by decide) rfl ?_
        refine x_iload (np := 1) (x := 1) (by decide +kernel) rfl (by decide) ?_
        refine x_ifz (k := 0) (tg := 9) (np := 4) (by decide +kernel) (by decide) (by decide) (fun q57 => ?_) (fun q58 => ?_)
        · have q57 : 2147483649 = 2147483648 := q57
          exfalso; omega
        have q58 : ¬ (2147483649 = 2147483648) := q58
        refine x_aload (np := 5) (x := 0) (by decide +kernel) rfl (x_nc_le (by decide)) ?_
        refine x_iload (np := 6) (x := 2) (by decide +kernel) rfl (by decide) ?_
        refine x_putI (np := 9) (x := 704) (f := 0) (by decide +kernel) (by decide +kernel) (by decide) (Or.inl (by decide)) ?_
        have j60 := jU (e := 0) (v := 2147483650) 0 j2 rg_75_0_0_1 (by first | decide | omega) (by first | decide | omega) (by first | decide | omega)
        have f62 := jF (e := 0) (v := 2147483650) 0 f4 rg_75_0_0_1 (by first | decide | omega) (by first | decide | omega) (by decide)
        generalize e61 : x_up h1 75 0 2147483650 = h59 at j60 f62 ⊢
        refine x_iload (np := 10) (x := 1) (by decide +kernel) rfl (by decide) ?_
        refine x_retI (np := 11) (x := 0) (by decide +kernel) (by decide) (Or.inr ⟨by decide +kernel, by first | decide | omega, by first | decide | omega⟩) ⟨_, rfl, (by decide), ?_⟩
        refine x_ifz (k := 0) (tg := 42) (np := 40) (by decide +kernel) (by decide) (by decide) (fun q63 => ?_) (fun q64 => ?_)
        · have q63 : 2147483649 = 2147483648 := q63
          exfalso; omega
        have q64 : ¬ (2147483649 = 2147483648) := q64
        refine x_const (np := 41) (x := 9223372039002259456) (a := 2147483648) (by decide +kernel) (by decide) (by decide) ?_
        refine x_retI (np := 42) (x := 0) (by decide +kernel) (by decide) (Or.inl (by decide +kernel)) ⟨_, rfl, (by decide), ?_⟩
        exact ⟨j60, f62, (by first | decide | omega)⟩
      have q54 : ¬ (2147483650 < a2) := q54
      refine x_const (np := 11) (x := 9223372043297226753) (a := 2147483649) (by decide +kernel) (by decide) (by decide) ?_
      refine x_goto (np := 14) (x := 15) (by decide +kernel) ?_
      refine x_retI (np := 16) (x := 0) (by decide +kernel) (by decide) (Or.inr ⟨by decide +kernel, by first | decide | omega, by first | decide | omega⟩) ⟨_, rfl, (by decide), ?_⟩
      refine x_ifz (k := 1) (tg := 32) (np := 28) (by decide +kernel) (by decide) (by decide) (fun q65 => ?_) (fun q66 => ?_)
      · have q65 : 2147483649 ≠ 2147483648 := q65
        refine x_const (np := 33) (x := 9223372039002259456) (a := 2147483648) (by decide +kernel) (by decide) (by decide) ?_
        refine x_const (np := 34) (x := 9223372047592194050) (a := 2147483650) (by decide +kernel) (by decide) (by decide) ?_
        refine x_nI (t := 6) (mj := 152) (n := 3) (rc := 12) (ml := 3) (nr := 0) (np := 37) (as := [x_r 75, iv_c 2147483648, iv_c 2147483650]) (rest := []) (lo1 := [x_r 75, iv_c 2147483648, iv_c 2147483650]) (by decide +kernel) (by decide) (by decide +kernel) (x_rb_of (by decide +kernel)) rfl rfl (x_wr (by decide) (x_wi (by decide) (x_wi (by decide) x_wn))) x_wn (by decide) rfl ?_
        refine x_iload (np := 1) (x := 1) (by decide +kernel) rfl (by decide) ?_
        refine x_ifz (k := 0) (tg := 9) (np := 4) (by decide +kernel) (by decide) (by decide) (fun q67 => ?_) (fun q68 => ?_)
        · have q67 : 2147483648 = 2147483648 := q67
          refine x_iload (np := 10) (x := 1) (by decide +kernel) rfl (by decide) ?_
          refine x_retI (np := 11) (x := 0) (by decide +kernel) (by decide) (Or.inr ⟨by decide +kernel, by first | decide | omega, by first | decide | omega⟩) ⟨_, rfl, (by decide), ?_⟩
          refine x_ifz (k := 0) (tg := 42) (np := 40) (by decide +kernel) (by decide) (by decide) (fun q69 => ?_) (fun q70 => ?_)
          · have q69 : 2147483648 = 2147483648 := q69
            refine x_aload (np := 43) (x := 0) (by decide +kernel) rfl (x_nc_le (by decide)) ?_
            have m74 : WT 76 h1 := by rw [← e3]; exact WT.oth hW hJ (by decide)
            refine x_cV (t := 6) (mj := 210) (n := 1) (rc := 12) (ml := 5) (nr := 0) (np := 46) (as := [x_r 75]) (rest := []) (lo1 := [x_r 75, 147573952589676412928, 147573952589676412928, 147573952589676412928, 147573952589676412928]) (by decide +kernel) (by decide) (by decide +kernel) (x_rb_of (by decide +kernel)) rfl rfl (x_wr (by decide) x_wn) x_wn (by decide) rfl (c210_75 j2  m74) (fun h75 q73 => ?_)
            obtain ⟨j76, f77⟩ := q73
            have f80 := Fr.trans f4 f77 (by decide)
            refine x_aload (np := 47) (x := 0) (by decide +kernel) rfl (x_nc_le (by decide)) ?_
            refine x_iload (np := 48) (x := 1) (by decide +kernel) rfl la1 ?_
            refine x_const (np := 49) (x := 9223372039002259456) (a := 2147483648) (by decide +kernel) (by decide) (by decide) ?_
            refine x_nI (t := 6) (mj := 162) (n := 3) (rc := 12) (ml := 3) (nr := 0) (np := 52) (as := [x_r 75, iv_c a1, iv_c 2147483648]) (rest := []) (lo1 := [x_r 75, iv_c a1, iv_c 2147483648]) (by decide +kernel) (by decide) (by decide +kernel) (x_rb_of (by decide +kernel)) rfl rfl (x_wr (by decide) (x_wi la1 (x_wi (by decide) x_wn))) x_wn (by decide) rfl ?_
            refine x_aload (np := 1) (x := 0) (by decide +kernel) rfl (x_nc_le (by decide)) ?_
            have q81 : h75 75 1 = 76 := by have z := jB (e := 1) 0 j76 rg_75_1_0_1 (by decide) (by decide); omega
            refine x_getR (np := 4) (x := 705) (f := 1) (q := 76) (by decide +kernel) (by decide) (by decide +kernel) q81 ?_
            refine x_const (np := 7) (x := 9223372726197026976) (a := 2147483808) (by decide +kernel) (by decide) (by decide) ?_
            refine x_const (np := 8) (x := 9223372056182128644) (a := 2147483652) (by decide +kernel) (by decide) (by decide) ?_
            refine x_iload (np := 9) (x := 1) (by decide +kernel) rfl la1 ?_
            obtain ⟨u82, q83⟩ : ∃ z, a1 = 2147483648 + z := ⟨a1 - 2147483648, by first | decide | omega⟩
            refine x_imul (np := 10) (x := 0) (i := 4) (j := u82) (v := (2147483648 + 4 * u82)) (by decide +kernel) (by first | decide | omega) (by first | decide | omega) (by first | decide | omega) (by first | decide | omega) (by decide) la1 ?_
            refine x_iadd (np := 11) (x := 0) (v := (2147483808 + 4 * u82)) (by decide +kernel) (by decide) (by first | decide | omega) (by first | decide | omega) (by first | decide | omega) ?_
            refine x_iload (np := 12) (x := 2) (by decide +kernel) rfl (by decide) ?_
            refine x_iadd (np := 13) (x := 0) (v := (2147483808 + 4 * u82)) (by decide +kernel) (by first | decide | omega) (by decide) (by first | decide | omega) (by first | decide | omega) ?_
            have q85 : h75 76 (160 + 4 * u82) = h1 76 (160 + 4 * u82) := jK u82 f77 rg_76_160_4_10 (by first | decide | omega) (by first | decide | omega) (by decide)
            have q86 : h1 76 (160 + 4 * u82) = h 76 (160 + 4 * u82) := by rw [← e3]; exact x_up_k (by decide)
            have b87 := jB (e := (160 + 4 * u82)) u82 hJ rg_76_160_4_10 (by first | decide | omega) (by first | decide | omega)
            refine x_aldC (np := 14) (x := 0) (n := 1952) (i := (160 + 4 * u82)) (q := ((h 76 (160 + 4 * u82)))) (by decide +kernel) (by decide +kernel) (by first | decide | omega) (by first | decide | omega) (by decide) (q85.trans q86) (fun l88 => ?_)
            refine x_retI (np := 15) (x := 0) (by decide +kernel) l88 (Or.inl (by decide +kernel)) ⟨_, rfl, l88, ?_⟩
            refine x_istore (np := 53) (x := 3) (lo' := [x_r 75, iv_c a1, iv_c a2, iv_c ((h 76 (160 + 4 * u82))), 147573952589676412928]) (by decide +kernel) l88 (Nat.le_of_ble_eq_true rfl) rfl ?_
            refine x_iload (np := 54) (x := 2) (by decide +kernel) rfl la2 ?_
            refine x_ifz (k := 1) (tg := 69) (np := 57) (by decide +kernel) (by decide) la2 (fun q89 => ?_) (fun q90 => ?_)
            · have q89 : a2 ≠ 2147483648 := q89
              refine x_aload (np := 70) (x := 0) (by decide +kernel) rfl (x_nc_le (by decide)) ?_
              refine x_iload (np := 71) (x := 1) (by decide +kernel) rfl la1 ?_
              refine x_const (np := 72) (x := 9223372047592194050) (a := 2147483650) (by decide +kernel) (by decide) (by decide) ?_
              refine x_nI (t := 6) (mj := 162) (n := 3) (rc := 12) (ml := 3) (nr := 0) (np := 75) (as := [x_r 75, iv_c a1, iv_c 2147483650]) (rest := []) (lo1 := [x_r 75, iv_c a1, iv_c 2147483650]) (by decide +kernel) (by decide) (by decide +kernel) (x_rb_of (by decide +kernel)) rfl rfl (x_wr (by decide) (x_wi la1 (x_wi (by decide) x_wn))) x_wn (by decide) rfl ?_
              refine x_aload (np := 1) (x := 0) (by decide +kernel) rfl (x_nc_le (by decide)) ?_
              have q91 : h75 75 1 = 76 := by have z := jB (e := 1) 0 j76 rg_75_1_0_1 (by decide) (by decide); omega
              refine x_getR (np := 4) (x := 705) (f := 1) (q := 76) (by decide +kernel) (by decide) (by decide +kernel) q91 ?_
              refine x_const (np := 7) (x := 9223372726197026976) (a := 2147483808) (by decide +kernel) (by decide) (by decide) ?_
              refine x_const (np := 8) (x := 9223372056182128644) (a := 2147483652) (by decide +kernel) (by decide) (by decide) ?_
              refine x_iload (np := 9) (x := 1) (by decide +kernel) rfl la1 ?_
              refine x_imul (np := 10) (x := 0) (i := 4) (j := u82) (v := (2147483648 + 4 * u82)) (by decide +kernel) (by first | decide | omega) (by first | decide | omega) (by first | decide | omega) (by first | decide | omega) (by decide) la1 ?_
              refine x_iadd (np := 11) (x := 0) (v := (2147483808 + 4 * u82)) (by decide +kernel) (by decide) (by first | decide | omega) (by first | decide | omega) (by first | decide | omega) ?_
              refine x_iload (np := 12) (x := 2) (by decide +kernel) rfl (by decide) ?_
              refine x_iadd (np := 13) (x := 0) (v := (2147483810 + 4 * u82)) (by decide +kernel) (by first | decide | omega) (by decide) (by first | decide | omega) (by first | decide | omega) ?_
              have q93 : h75 76 (162 + 4 * u82) = h1 76 (162 + 4 * u82) := jK u82 f77 rg_76_162_4_10 (by first | decide | omega) (by first | decide | omega) (by decide)
              have q94 : h1 76 (162 + 4 * u82) = h 76 (162 + 4 * u82) := by rw [← e3]; exact x_up_k (by decide)
              have b95 := jB (e := (162 + 4 * u82)) u82 hJ rg_76_162_4_10 (by first | decide | omega) (by first | decide | omega)
              refine x_aldC (np := 14) (x := 0) (n := 1952) (i := (162 + 4 * u82)) (q := ((h 76 (162 + 4 * u82)))) (by decide +kernel) (by decide +kernel) (by first | decide | omega) (by first | decide | omega) (by decide) (q93.trans q94) (fun l96 => ?_)
              refine x_retI (np := 15) (x := 0) (by decide +kernel) l96 (Or.inl (by decide +kernel)) ⟨_, rfl, l96, ?_⟩
              refine x_istore (np := 77) (x := 4) (lo' := [x_r 75, iv_c a1, iv_c a2, iv_c ((h 76 (160 + 4 * u82))), iv_c ((h 76 (162 + 4 * u82)))]) (by decide +kernel) l96 (Nat.le_of_ble_eq_true rfl) rfl ?_
              have p127 : ∀ (n : Nat) (v125 : Nat), 4294967296 - v125 < n → (2147483648 ≤ v125 ∧ v125 ≤ 2147483660) → X sc 226 (d + 5) (xI fun r h' => J h' ∧ Fr 135291600897 h h' ∧ (2147483647 ≤ r ∧ r ≤ 2147483659)) 0 0 77 [x_r 75, iv_c a1, iv_c a2, iv_c ((h 76 (160 + 4 * u82))), iv_c v125] [] h75 := by
                intro n
                induction n with
                | zero => intro v125 q128; exact absurd q128 (Nat.not_lt_zero _)
                | succ n i129 =>
                  intro v125 q128 b126
                  refine x_iload (np := 79) (x := 4) (by decide +kernel) rfl (by first | decide | omega) ?_
                  refine x_const (np := 81) (x := 9223372090541867020) (a := 2147483660) (by decide +kernel) (by decide) (by decide) ?_
                  refine x_icmp (k := 3) (tg := 100) (np := 84) (by decide +kernel) (by decide) (by first | decide | omega) (by decide) (fun q130 => ?_) (fun q131 => ?_)
                  · have q130 : 2147483660 ≤ v125 := q130
                    refine x_iload (np := 102) (x := 4) (by decide +kernel) rfl (by first | decide | omega) ?_
                    refine x_const (np := 104) (x := 9223372090541867020) (a := 2147483660) (by decide +kernel) (by decide) (by decide) ?_
                    refine x_icmp (k := 1) (tg := 111) (np := 107) (by decide +kernel) (by decide) (by first | decide | omega) (by decide) (fun q132 => ?_) (fun q133 => ?_)
                    · have q132 : v125 ≠ 2147483660 := q132
                      exfalso; omega
                    have q133 : ¬ (v125 ≠ 2147483660) := q133
                    refine x_const (np := 108) (x := 9223372034707292159) (a := 2147483647) (by decide +kernel) (by decide) (by decide) ?_
                    refine x_goto (np := 111) (x := 128) (by decide +kernel) ?_
                    refine x_retI (np := 129) (x := 0) (by decide +kernel) (by decide) (Or.inl (by decide +kernel)) ⟨_, rfl, (by decide), ?_⟩
                    exact ⟨j76, f80, (by first | decide | omega)⟩
                  have q131 : ¬ (2147483660 ≤ v125) := q131
                  refine x_aload (np := 85) (x := 0) (by decide +kernel) rfl (x_nc_le (by decide)) ?_
                  refine x_iload (np := 86) (x := 3) (by decide +kernel) rfl l88 ?_
                  refine x_iload (np := 88) (x := 4) (by decide +kernel) rfl (by first | decide | omega) ?_
                  refine x_nI (t := 6) (mj := 211) (n := 3) (rc := 12) (ml := 3) (nr := 0) (np := 91) (as := [x_r 75, iv_c ((h 76 (160 + 4 * u82))), iv_c v125]) (rest := []) (lo1 := [x_r 75, iv_c ((h 76 (160 + 4 * u82))), iv_c v125]) (by decide +kernel) (by decide) (by decide +kernel) (x_rb_of (by decide +kernel)) rfl rfl (x_wr (by decide) (x_wi l88 (x_wi (by first | decide | omega) x_wn))) x_wn (by decide) rfl ?_
                  refine x_aload (np := 1) (x := 0) (by decide +kernel) rfl (x_nc_le (by decide)) ?_
                  have q134 : h75 75 20 = 87 := by have z := jB (e := 20) 0 j76 rg_75_20_0_1 (by decide) (by decide); omega
                  refine x_getR (np := 4) (x := 724) (f := 20) (q := 87) (by decide +kernel) (by decide) (by decide +kernel) q134 ?_
                  refine x_const (np := 6) (x := 9223372090541867020) (a := 2147483660) (by decide +kernel) (by decide) (by decide) ?_
                  refine x_iload (np := 7) (x := 1) (by decide +kernel) rfl l88 ?_
                  obtain ⟨u135, q136⟩ : ∃ z, ((h 76 (160 + 4 * u82))) = 2147483648 + z := ⟨((h 76 (160 + 4 * u82))) - 2147483648, by first | decide | omega⟩
                  refine x_imul (np := 8) (x := 0) (i := 12) (j := u135) (v := (2147483648 + 12 * u135)) (by decide +kernel) (by first | decide | omega) (by first | decide | omega) (by first | decide | omega) (by first | decide | omega) (by decide) l88 ?_
                  refine x_iload (np := 9) (x := 2) (by decide +kernel) rfl (by first | decide | omega) ?_
                  refine x_iadd (np := 10) (x := 0) (v := (12 * u135 + v125)) (by decide +kernel) (by first | decide | omega) (by first | decide | omega) (by first | decide | omega) (by first | decide | omega) ?_
                  obtain ⟨u138, q139⟩ : ∃ z, v125 = 2147483648 + z := ⟨v125 - 2147483648, by first | decide | omega⟩
                  have b140 := jB (e := (12 * u135 + u138)) (12 * u135 + u138) j76 rg_87_0_1_72 (by first | decide | omega) (by first | decide | omega)
                  refine x_aldC (np := 11) (x := 0) (n := 72) (i := (12 * u135 + u138)) (q := ((h75 87 (12 * u135 + u138)))) (by decide +kernel) (by decide +kernel) (by first | decide | omega) (by first | decide | omega) (by decide) rfl (fun l141 => ?_)
                  refine x_retI (np := 12) (x := 0) (by decide +kernel) l141 (Or.inl (by decide +kernel)) ⟨_, rfl, l141, ?_⟩
                  refine x_ifz (k := 3) (tg := 100) (np := 94) (by decide +kernel) (by decide) l141 (fun q142 => ?_) (fun q143 => ?_)
                  · have q142 : 2147483648 ≤ ((h75 87 (12 * u135 + u138))) := q142
                    refine x_iload (np := 102) (x := 4) (by decide +kernel) rfl (by first | decide | omega) ?_
                    refine x_const (np := 104) (x := 9223372090541867020) (a := 2147483660) (by decide +kernel) (by decide) (by decide) ?_
                    refine x_icmp (k := 1) (tg := 111) (np := 107) (by decide +kernel) (by decide) (by first | decide | omega) (by decide) (fun q144 => ?_) (fun q145 => ?_)
                    · have q144 : v125 ≠ 2147483660 := q144
                      refine x_iload (np := 112) (x := 2) (by decide +kernel) rfl la2 ?_
                      refine x_const (np := 113) (x := 9223372043297226753) (a := 2147483649) (by decide +kernel) (by decide) (by decide) ?_
                      refine x_icmp (k := 1) (tg := 126) (np := 116) (by decide +kernel) (by decide) la2 (by decide) (fun q146 => ?_) (fun q147 => ?_)
                      · have q146 : a2 ≠ 2147483649 := q146
                        refine x_iload (np := 128) (x := 4) (by decide +kernel) rfl (by first | decide | omega) ?_
                        refine x_retI (np := 129) (x := 0) (by decide +kernel) (by first | decide | omega) (Or.inl (by decide +kernel)) ⟨_, rfl, (by first | decide | omega), ?_⟩
                        exact ⟨j76, f80, (by first | decide | omega)⟩
                      have q147 : ¬ (a2 ≠ 2147483649) := q147
                      refine x_aload (np := 117) (x := 0) (by decide +kernel) rfl (x_nc_le (by decide)) ?_
                      refine x_iload (np := 118) (x := 3) (by decide +kernel) rfl l88 ?_
                      refine x_iload (np := 120) (x := 4) (by decide +kernel) rfl (by first | decide | omega) ?_
                      refine x_nI (t := 6) (mj := 211) (n := 3) (rc := 12) (ml := 3) (nr := 0) (np := 123) (as := [x_r 75, iv_c ((h 76 (160 + 4 * u82))), iv_c v125]) (rest := []) (lo1 := [x_r 75, iv_c ((h 76 (160 + 4 * u82))), iv_c v125]) (by decide +kernel) (by decide) (by decide +kernel) (x_rb_of (by decide +kernel)) rfl rfl (x_wr (by decide) (x_wi l88 (x_wi (by first | decide | omega) x_wn))) x_wn (by decide) rfl ?_
                      refine x_aload (np := 1) (x := 0) (by decide +kernel) rfl (x_nc_le (by decide)) ?_
                      have q148 : h75 75 20 = 87 := by have z := jB (e := 20) 0 j76 rg_75_20_0_1 (by decide) (by decide); omega
                      refine x_getR (np := 4) (x := 724) (f := 20) (q := 87) (by decide +kernel) (by decide) (by decide +kernel) q148 ?_
                      refine x_const (np := 6) (x := 9223372090541867020) (a := 2147483660) (by decide +kernel) (by decide) (by decide) ?_
                      refine x_iload (np := 7) (x := 1) (by decide +kernel) rfl l88 ?_
                      refine x_imul (np := 8) (x := 0) (i := 12) (j := u135) (v := (2147483648 + 12 * u135)) (by decide +kernel) (by first | decide | omega) (by first | decide | omega) (by first | decide | omega) (by first | decide | omega) (by decide) l88 ?_
                      refine x_iload (np := 9) (x := 2) (by decide +kernel) rfl (by first | decide | omega) ?_
                      refine x_iadd (np := 10) (x := 0) (v := (12 * u135 + v125)) (by decide +kernel) (by first | decide | omega) (by first | decide | omega) (by first | decide | omega) (by first | decide | omega) ?_
                      refine x_aldC (np := 11) (x := 0) (n := 72) (i := (12 * u135 + u138)) (q := ((h75 87 (12 * u135 + u138)))) (by decide +kernel) (by decide +kernel) (by first | decide | omega) (by first | decide | omega) (by decide) rfl (fun l150 => ?_)
                      refine x_retI (np := 12) (x := 0) (by decide +kernel) l141 (Or.inl (by decide +kernel)) ⟨_, rfl, l141, ?_⟩
                      refine x_goto (np := 126) (x := 128) (by decide +kernel) ?_
                      refine x_retI (np := 129) (x := 0) (by decide +kernel) l141 (Or.inl (by decide +kernel)) ⟨_, rfl, l141, ?_⟩
                      exact ⟨j76, f80, (by first | decide | omega)⟩
                    have q145 : ¬ (v125 ≠ 2147483660) := q145
                    exfalso; omega
                  have q143 : ¬ (2147483648 ≤ ((h75 87 (12 * u135 + u138)))) := q143
                  refine x_iinc (np := 97) (i := 4) (j := 2147483649) (v := (1 + v125)) (lo' := [x_r 75, iv_c a1, iv_c a2, iv_c ((h 76 (160 + 4 * u82))), iv_c (1 + v125)]) (by decide +kernel) (by decide) (by decide) rfl (by first | decide | omega) (by first | decide | omega) (by first | decide | omega) rfl ?_
                  refine x_goto (np := 100) (x := 77) (by decide +kernel) ?_
                  exact i129 (1 + v125) (by first | decide | omega) (by first | decide | omega)
              exact p127 _ ((h 76 (162 + 4 * u82))) (Nat.lt_succ_self _) (by first | decide | omega)
            have q90 : ¬ (a2 ≠ 2147483648) := q90
            refine x_aload (np := 58) (x := 0) (by decide +kernel) rfl (x_nc_le (by decide)) ?_
            refine x_iload (np := 59) (x := 3) (by decide +kernel) rfl l88 ?_
            refine x_aload (np := 60) (x := 0) (by decide +kernel) rfl (x_nc_le (by decide)) ?_
            refine x_iload (np := 61) (x := 1) (by decide +kernel) rfl la1 ?_
            refine x_const (np := 62) (x := 9223372043297226753) (a := 2147483649) (by decide +kernel) (by decide) (by decide) ?_
            refine x_nI (t := 6) (mj := 162) (n := 3) (rc := 12) (ml := 3) (nr := 2) (np := 65) (as := [x_r 75, iv_c a1, iv_c 2147483649]) (rest := [iv_c ((h 76 (160 + 4 * u82))), x_r 75]) (lo1 := [x_r 75, iv_c a1, iv_c 2147483649]) (by decide +kernel) (by decide) (by decide +kernel) (x_rb_of (by decide +kernel)) rfl rfl (x_wr (by decide) (x_wi la1 (x_wi (by decide) x_wn))) (x_wi l88 (x_wr (by decide) x_wn)) (by decide) rfl ?_
            refine x_aload (np := 1) (x := 0) (by decide +kernel) rfl (x_nc_le (by decide)) ?_
            have q151 : h75 75 1 = 76 := by have z := jB (e := 1) 0 j76 rg_75_1_0_1 (by decide) (by decide); omega
            refine x_getR (np := 4) (x := 705) (f := 1) (q := 76) (by decide +kernel) (by decide) (by decide +kernel) q151 ?_
            refine x_const (np := 7) (x := 9223372726197026976) (a := 2147483808) (by decide +kernel) (by decide) (by decide) ?_
            refine x_const (np := 8) (x := 9223372056182128644) (a := 2147483652) (by decide +kernel) (by decide) (by decide) ?_
            refine x_iload (np := 9) (x := 1) (by decide +kernel) rfl la1 ?_
            refine x_imul (np := 10) (x := 0) (i := 4) (j := u82) (v := (2147483648 + 4 * u82)) (by decide +kernel) (by first | decide | omega) (by first | decide | omega) (by first | decide | omega) (by first | decide | omega) (by decide) la1 ?_
            refine x_iadd (np := 11) (x := 0) (v := (2147483808 + 4 * u82)) (by decide +kernel) (by decide) (by first | decide | omega) (by first | decide | omega) (by first | decide | omega) ?_
            refine x_iload (np := 12) (x := 2) (by decide +kernel) rfl (by decide) ?_
            refine x_iadd (np := 13) (x := 0) (v := (2147483809 + 4 * u82)) (by decide +kernel) (by first | decide | omega) (by decide) (by first | decide | omega) (by first | decide | omega) ?_
            have q153 : h75 76 (161 + 4 * u82) = h1 76 (161 + 4 * u82) := jK u82 f77 rg_76_161_4_10 (by first | decide | omega) (by first | decide | omega) (by decide)
            have q154 : h1 76 (161 + 4 * u82) = h 76 (161 + 4 * u82) := by rw [← e3]; exact x_up_k (by decide)
            have b155 := jB (e := (161 + 4 * u82)) u82 hJ rg_76_161_4_10 (by first | decide | omega) (by first | decide | omega)
            refine x_aldC (np := 14) (x := 0) (n := 1952) (i := (161 + 4 * u82)) (q := ((h 76 (161 + 4 * u82)))) (by decide +kernel) (by decide +kernel) (by first | decide | omega) (by first | decide | omega) (by decide) (q153.trans q154) (fun l156 => ?_)
            refine x_retI (np := 15) (x := 0) (by decide +kernel) l156 (Or.inl (by decide +kernel)) ⟨_, rfl, l156, ?_⟩
            refine x_nI (t := 6) (mj := 211) (n := 3) (rc := 12) (ml := 3) (nr := 0) (np := 68) (as := [x_r 75, iv_c ((h 76 (160 + 4 * u82))), iv_c ((h 76 (161 + 4 * u82)))]) (rest := []) (lo1 := [x_r 75, iv_c ((h 76 (160 + 4 * u82))), iv_c ((h 76 (161 + 4 * u82)))]) (by decide +kernel) (by decide) (by decide +kernel) (x_rb_of (by decide +kernel)) rfl rfl (x_wr (by decide) (x_wi l88 (x_wi l156 x_wn))) x_wn (by decide) rfl ?_
            refine x_aload (np := 1) (x := 0) (by decide +kernel) rfl (x_nc_le (by decide)) ?_
            have q157 : h75 75 20 = 87 := by have z := jB (e := 20) 0 j76 rg_75_20_0_1 (by decide) (by decide); omega
            refine x_getR (np := 4) (x := 724) (f := 20) (q := 87) (by decide +kernel) (by decide) (by decide +kernel) q157 ?_
            refine x_const (np := 6) (x := 9223372090541867020) (a := 2147483660) (by decide +kernel) (by decide) (by decide) ?_
            refine x_iload (np := 7) (x := 1) (by decide +kernel) rfl l88 ?_
            obtain ⟨u158, q159⟩ : ∃ z, ((h 76 (160 + 4 * u82))) = 2147483648 + z := ⟨((h 76 (160 + 4 * u82))) - 2147483648, by first | decide | omega⟩
            refine x_imul (np := 8) (x := 0) (i := 12) (j := u158) (v := (2147483648 + 12 * u158)) (by decide +kernel) (by first | decide | omega) (by first | decide | omega) (by first | decide | omega) (by first | decide | omega) (by decide) l88 ?_
            refine x_iload (np := 9) (x := 2) (by decide +kernel) rfl l156 ?_
            refine x_iadd (np := 10) (x := 0) (v := (12 * u158 + (h 76 (161 + 4 * u82)))) (by decide +kernel) (by first | decide | omega) l156 (by first | decide | omega) (by first | decide | omega) ?_
            obtain ⟨u161, q162⟩ : ∃ z, ((h 76 (161 + 4 * u82))) = 2147483648 + z := ⟨((h 76 (161 + 4 * u82))) - 2147483648, by first | decide | omega⟩
            have b163 := jB (e := (12 * u158 + u161)) (12 * u158 + u161) j76 rg_87_0_1_72 (by first | decide | omega) (by first | decide | omega)
            refine x_aldC (np := 11) (x := 0) (n := 72) (i := (12 * u158 + u161)) (q := ((h75 87 (12 * u158 + u161)))) (by decide +kernel) (by decide +kernel) (by first | decide | omega) (by first | decide | omega) (by decide) rfl (fun l164 => ?_)
            refine x_retI (np := 12) (x := 0) (by decide +kernel) l164 (Or.inl (by decide +kernel)) ⟨_, rfl, l164, ?_⟩
            refine x_retI (np := 69) (x := 0) (by decide +kernel) l164 (Or.inl (by decide +kernel)) ⟨_, rfl, l164, ?_⟩
            exact ⟨j76, f80, (by first | decide | omega)⟩
          have q70 : ¬ (2147483648 = 2147483648) := q70
          exfalso; omega
        have q68 : ¬ (2147483648 = 2147483648) := q68
        exfalso; omega
      have q66 : ¬ (2147483649 ≠ 2147483648) := q66
      exfalso; omega
    have q38 : ¬ (2147483648 = 2147483648) := q38
    exfalso; omega
  have q36 : ¬ (2147483649 ≠ 2147483648) := q36
  exfalso; omega
