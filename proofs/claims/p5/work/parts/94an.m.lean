/-! ===== methods ===== -/
set_option maxHeartbeats 0 in
/-- LentNamesModel.bears(II)I -/
theorem c212_75 {sc : Nat × Nat} {d a1 a2 : Nat} {h : xh} (hJ : J h) (ba1 : 0 ≤ a1 ∧ a1 ≤ 4294967295) (ba2 : 0 ≤ a2 ∧ a2 ≤ 4294967295) (hW : WT 76 h) : X sc 212 (d + 5) (xI fun r h' => J h' ∧ Fr 135291600897 h h' ∧ (2147483647 ≤ r ∧ r ≤ 2147483653)) 0 0 0 [x_r 75, iv_c a1, iv_c a2] [] h := by
  have la1 : a1 < 4294967296 := by first | decide | omega
  have la2 : a2 < 4294967296 := by first | decide | omega
  have hF := Fr.refl 135291600897 h
  refine x_aload (np := 1) (x := 0) (by decide +kernel) rfl (x_nc_le (by decide)) ?_
  refine x_const (np := 2) (x := 9223372039002259456) (a := 2147483648) (by decide +kernel) (by decide) (by decide) ?_
  refine x_putI (np := 5) (x := 704) (f := 0) (by decide +kernel) (by decide +kernel) (by decide) (Or.inl (by decide)) ?_
  have j2 := jU (e := 0) (v := 2147483648) 0 hJ rg_75_0_0_1 (by first | decide | omega) (by first | decide | omega) (by first | decide | omega)
  have f4 := jF (e := 0) (v := 2147483648) 0 hF rg_75_0_0_1 (by first | decide | omega) (by first | decide | omega) (by decide)
  generalize e3 : x_up h 75 0 2147483648 = h1 at j2 f4 ⊢
  refine x_aload (np := 6) (x := 0) (by decide +kernel) rfl (x_nc_le (by decide)) ?_
  refine x_aload (np := 7) (x := 0) (by decide +kernel) rfl (x_nc_le (by decide)) ?_
  refine x_iload (np := 8) (x := 1) (by decide +kernel) rfl la1 ?_
  refine x_nI (t := 6) (mj := 159) (n := 2) (rc := 12) (ml := 2) (nr := 1) (np := 11) (as := [x_r 75, iv_c a1]) (rest := [x_r 75]) (lo1 := [x_r 75, iv_c a1]) (by decide +kernel) (by decide) (by decide +kernel) (x_rb_of (by decide +kernel)) rfl rfl (x_wr (by decide) (x_wi la1 x_wn)) (x_wr (by decide) x_wn) (by decide) rfl ?_
  refine x_aload (np := 1) (x := 0) (by decide +kernel) rfl (x_nc_le (by decide)) ?_
  refine x_iload (np := 2) (x := 1) (by decide +kernel) rfl la1 ?_
  refine x_const (np := 3) (x := 9223372039002259456) (a := 2147483648) (by decide +kernel) (by decide) (by decide) ?_
  refine x_nI (t := 6) (mj := 158) (n := 3) (rc := 12) (ml := 3) (nr := 0) (np := 6) (as := [x_r 75, iv_c a1, iv_c 2147483648]) (rest := []) (lo1 := [x_r 75, iv_c a1, iv_c 2147483648]) (by decide +kernel) (by decide) (by decide +kernel) (x_rb_of (by decide +kernel)) rfl rfl (x_wr (by decide) (x_wi la1 (x_wi (by decide) x_wn))) x_wn (by decide) rfl ?_
  refine x_iload (np := 1) (x := 1) (by decide +kernel) rfl la1 ?_
  refine x_const (np := 2) (x := 9223372039002259456) (a := 2147483648) (by decide +kernel) (by decide) (by decide) ?_
  refine x_aload (np := 3) (x := 0) (by decide +kernel) rfl (x_nc_le (by decide)) ?_
  have q5 : h1 75 1 = 76 := by have z := jB (e := 1) 0 j2 rg_75_1_0_1 (by decide) (by decide); omega
  refine x_getR (np := 6) (x := 705) (f := 1) (q := 76) (by decide +kernel) (by decide) (by decide +kernel) q5 ?_
  refine x_iload (np := 7) (x := 2) (by decide +kernel) rfl (by decide) ?_
  have q6 : h1 76 0 = h 76 0 := by rw [← e3]; exact x_up_k (by decide)
  have b7 := jB (e := 0) 0 hJ rg_76_0_0_1 (by first | decide | omega) (by first | decide | omega)
  refine x_aldC (np := 8) (x := 0) (n := 1952) (i := 0) (q := (h 76 0)) (by decide +kernel) (by decide +kernel) (by first | decide | omega) (by first | decide | omega) (by decide) q6 (fun l8 => ?_)
  refine x_const (np := 9) (x := 9223372043297226753) (a := 2147483649) (by decide +kernel) (by decide) (by decide) ?_
  obtain ⟨v9, q10⟩ : ∃ z, z + 2147483649 = (h 76 0) + 2147483648 := ⟨(h 76 0) + 2147483648 - 2147483649, by first | decide | omega⟩
  refine x_isub (np := 10) (x := 0) (v := v9) (by decide +kernel) l8 (by decide) (by first | decide | omega) (by first | decide | omega) ?_
  refine x_nI (t := 0) (mj := 153) (n := 3) (rc := 0) (ml := 3) (nr := 0) (np := 13) (as := [iv_c a1, iv_c 2147483648, iv_c v9]) (rest := []) (lo1 := [iv_c a1, iv_c 2147483648, iv_c v9]) (by decide +kernel) (by decide) (by decide +kernel) (Or.inl rfl) rfl rfl (x_wi la1 (x_wi (by decide) (x_wi (by first | decide | omega) x_wn))) x_wn (by decide) rfl ?_
  refine x_iload (np := 1) (x := 0) (by decide +kernel) rfl la1 ?_
  refine x_iload (np := 2) (x := 1) (by decide +kernel) rfl (by decide) ?_
  refine x_icmp (k := 2) (tg := 14) (np := 5) (by decide +kernel) (by decide) la1 (by decide) (fun q11 => ?_) (fun q12 => ?_)
  · have q11 : a1 < 2147483648 := q11
    refine x_const (np := 15) (x := 9223372039002259456) (a := 2147483648) (by decide +kernel) (by decide) (by decide) ?_
    refine x_retI (np := 16) (x := 0) (by decide +kernel) (by decide) (Or.inr ⟨by decide +kernel, by first | decide | omega, by first | decide | omega⟩) ⟨_, rfl, (by decide), ?_⟩
    refine x_ifz (k := 1) (tg := 20) (np := 16) (by decide +kernel) (by decide) (by decide) (fun q13 => ?_) (fun q14 => ?_)
    · have q13 : 2147483648 ≠ 2147483648 := q13
      exfalso; omega
    have q14 : ¬ (2147483648 ≠ 2147483648) := q14
    refine x_const (np := 17) (x := 9223372043297226753) (a := 2147483649) (by decide +kernel) (by decide) (by decide) ?_
    refine x_goto (np := 20) (x := 21) (by decide +kernel) ?_
    refine x_retI (np := 22) (x := 0) (by decide +kernel) (by decide) (Or.inr ⟨by decide +kernel, by first | decide | omega, by first | decide | omega⟩) ⟨_, rfl, (by decide), ?_⟩
    refine x_retI (np := 7) (x := 0) (by decide +kernel) (by decide) (Or.inr ⟨by decide +kernel, by first | decide | omega, by first | decide | omega⟩) ⟨_, rfl, (by decide), ?_⟩
    refine x_ifz (k := 1) (tg := 21) (np := 14) (by decide +kernel) (by decide) (by decide) (fun q15 => ?_) (fun q16 => ?_)
    · have q15 : 2147483649 ≠ 2147483648 := q15
      refine x_const (np := 22) (x := 9223372043297226753) (a := 2147483649) (by decide +kernel) (by decide) (by decide) ?_
      refine x_goto (np := 25) (x := 26) (by decide +kernel) ?_
      refine x_const (np := 27) (x := 9223372043297226753) (a := 2147483649) (by decide +kernel) (by decide) (by decide) ?_
      refine x_nI (t := 6) (mj := 152) (n := 3) (rc := 12) (ml := 3) (nr := 0) (np := 30) (as := [x_r 75, iv_c 2147483649, iv_c 2147483649]) (rest := []) (lo1 := [x_r 75, iv_c 2147483649, iv_c 2147483649]) (by decide +kernel) (by decide) (by decide +kernel) (x_rb_of (by decide +kernel)) rfl rfl (x_wr (by decide) (x_wi (by decide) (x_wi (by decide) x_wn))) x_wn (by decide) rfl ?_
      refine x_iload (np := 1) (x := 1) (by decide +kernel) rfl (by decide) ?_
      refine x_ifz (k := 0) (tg := 9) (np := 4) (by decide +kernel) (by decide) (by decide) (fun q17 => ?_) (fun q18 => ?_)
      · have q17 : 2147483649 = 2147483648 := q17
        exfalso; omega
      have q18 : ¬ (2147483649 = 2147483648) := q18
      refine x_aload (np := 5) (x := 0) (by decide +kernel) rfl (x_nc_le (by decide)) ?_
      refine x_iload (np := 6) (x := 2) (by decide +kernel) rfl (by decide) ?_
      refine x_putI (np := 9) (x := 704) (f := 0) (by decide +kernel) (by decide +kernel) (by decide) (Or.inl (by decide)) ?_
      have j20 := jU (e := 0) (v := 2147483649) 0 j2 rg_75_0_0_1 (by first | decide | omega) (by first | decide | omega) (by first | decide | omega)
      have f22 := jF (e := 0) (v := 2147483649) 0 f4 rg_75_0_0_1 (by first | decide | omega) (by first | decide | omega) (by decide)
      generalize e21 : x_up h1 75 0 2147483649 = h19 at j20 f22 ⊢
      refine x_iload (np := 10) (x := 1) (by decide +kernel) rfl (by decide) ?_
      refine x_retI (np := 11) (x := 0) (by decide +kernel) (by decide) (Or.inr ⟨by decide +kernel, by first | decide | omega, by first | decide | omega⟩) ⟨_, rfl, (by decide), ?_⟩
      refine x_ifz (k := 0) (tg := 35) (np := 33) (by decide +kernel) (by decide) (by decide) (fun q23 => ?_) (fun q24 => ?_)
      · have q23 : 2147483649 = 2147483648 := q23
        exfalso; omega
      have q24 : ¬ (2147483649 = 2147483648) := q24
      refine x_const (np := 34) (x := 9223372039002259456) (a := 2147483648) (by decide +kernel) (by decide) (by decide) ?_
      refine x_retI (np := 35) (x := 0) (by decide +kernel) (by decide) (Or.inl (by decide +kernel)) ⟨_, rfl, (by decide), ?_⟩
      exact ⟨j20, f22, (by first | decide | omega)⟩
    have q16 : ¬ (2147483649 ≠ 2147483648) := q16
    exfalso; omega
  have q12 : ¬ (a1 < 2147483648) := q12
  refine x_iload (np := 6) (x := 0) (by decide +kernel) rfl la1 ?_
  refine x_iload (np := 7) (x := 2) (by decide +kernel) rfl (by first | decide | omega) ?_
  refine x_icmp (k := 4) (tg := 14) (np := 10) (by decide +kernel) (by decide) la1 (by first | decide | omega) (fun q25 => ?_) (fun q26 => ?_)
  · have q25 : v9 < a1 := q25
    refine x_const (np := 15) (x := 9223372039002259456) (a := 2147483648) (by decide +kernel) (by decide) (by decide) ?_
    refine x_retI (np := 16) (x := 0) (by decide +kernel) (by decide) (Or.inr ⟨by decide +kernel, by first | decide | omega, by first | decide | omega⟩) ⟨_, rfl, (by decide), ?_⟩
    refine x_ifz (k := 1) (tg := 20) (np := 16) (by decide +kernel) (by decide) (by decide) (fun q27 => ?_) (fun q28 => ?_)
    · have q27 : 2147483648 ≠ 2147483648 := q27
      exfalso; omega
    have q28 : ¬ (2147483648 ≠ 2147483648) := q28
    refine x_const (np := 17) (x := 9223372043297226753) (a := 2147483649) (by decide +kernel) (by decide) (by decide) ?_
    refine x_goto (np := 20) (x := 21) (by decide +kernel) ?_
    refine x_retI (np := 22) (x := 0) (by decide +kernel) (by decide) (Or.inr ⟨by decide +kernel, by first | decide | omega, by first | decide | omega⟩) ⟨_, rfl, (by decide), ?_⟩
    refine x_retI (np := 7) (x := 0) (by decide +kernel) (by decide) (Or.inr ⟨by decide +kernel, by first | decide | omega, by first | decide | omega⟩) ⟨_, rfl, (by decide), ?_⟩
    refine x_ifz (k := 1) (tg := 21) (np := 14) (by decide +kernel) (by decide) (by decide) (fun q29 => ?_) (fun q30 => ?_)
    · have q29 : 2147483649 ≠ 2147483648 := q29
      refine x_const (np := 22) (x := 9223372043297226753) (a := 2147483649) (by decide +kernel) (by decide) (by decide) ?_
      refine x_goto (np := 25) (x := 26) (by decide +kernel) ?_
      refine x_const (np := 27) (x := 9223372043297226753) (a := 2147483649) (by decide +kernel) (by decide) (by decide) ?_
      refine x_nI (t := 6) (mj := 152) (n := 3) (rc := 12) (ml := 3) (nr := 0) (np := 30) (as := [x_r 75, iv_c 2147483649, iv_c 2147483649]) (rest := []) (lo1 := [x_r 75, iv_c 2147483649, iv_c 2147483649]) (by decide +kernel) (by decide) (by decide +kernel) (x_rb_of (by decide +kernel)) rfl rfl (x_wr (by decide) (x_wi (by decide) (x_wi (by decide) x_wn))) x_wn (by decide) rfl ?_
      refine x_iload (np := 1) (x := 1) (by decide +kernel) rfl (by decide) ?_
      refine x_ifz (k := 0) (tg := 9) (np := 4) (by decide +kernel) (by decide) (by decide) (fun q31 => ?_) (fun q32 => ?_)
      · have q31 : 2147483649 = 2147483648 := q31
        exfalso; omega
      have q32 : ¬ (2147483649 = 2147483648) := q32
      refine x_aload (np := 5) (x := 0) (by decide +kernel) rfl (x_nc_le (by decide)) ?_
      refine x_iload (np := 6) (x := 2) (by decide +kernel) rfl (by decide) ?_
      refine x_putI (np := 9) (x := 704) (f := 0) (by decide +kernel) (by decide +kernel) (by decide) (Or.inl (by decide)) ?_
      have j34 := jU (e := 0) (v := 2147483649) 0 j2 rg_75_0_0_1 (by first | decide | omega) (by first | decide | omega) (by first | decide | omega)
      have f36 := jF (e := 0) (v := 2147483649) 0 f4 rg_75_0_0_1 (by first | decide | omega) (by first | decide | omega) (by decide)
      generalize e35 : x_up h1 75 0 2147483649 = h33 at j34 f36 ⊢
      refine x_iload (np := 10) (x := 1) (by decide +kernel) rfl (by decide) ?_
      refine x_retI (np := 11) (x := 0) (by decide +kernel) (by decide) (Or.inr ⟨by decide +kernel, by first | decide | omega, by first | decide | omega⟩) ⟨_, rfl, (by decide), ?_⟩
      refine x_ifz (k := 0) (tg := 35) (np := 33) (by decide +kernel) (by decide) (by decide) (fun q37 => ?_) (fun q38 => ?_)
      · have q37 : 2147483649 = 2147483648 := q37
        exfalso; omega
      have q38 : ¬ (2147483649 = 2147483648) := q38
      refine x_const (np := 34) (x := 9223372039002259456) (a := 2147483648) (by decide +kernel) (by decide) (by decide) ?_
      refine x_retI (np := 35) (x := 0) (by decide +kernel) (by decide) (Or.inl (by decide +kernel)) ⟨_, rfl, (by decide), ?_⟩
      exact ⟨j34, f36, (by first | decide | omega)⟩
    have q30 : ¬ (2147483649 ≠ 2147483648) := q30
    exfalso; omega
  have q26 : ¬ (v9 < a1) := q26
  refine x_const (np := 11) (x := 9223372043297226753) (a := 2147483649) (by decide +kernel) (by decide) (by decide) ?_
  refine x_goto (np := 14) (x := 15) (by decide +kernel) ?_
  refine x_retI (np := 16) (x := 0) (by decide +kernel) (by decide) (Or.inr ⟨by decide +kernel, by first | decide | omega, by first | decide | omega⟩) ⟨_, rfl, (by decide), ?_⟩
  refine x_ifz (k := 1) (tg := 20) (np := 16) (by decide +kernel) (by decide) (by decide) (fun q39 => ?_) (fun q40 => ?_)
  · have q39 : 2147483649 ≠ 2147483648 := q39
    refine x_const (np := 21) (x := 9223372039002259456) (a := 2147483648) (by decide +kernel) (by decide) (by decide) ?_
    refine x_retI (np := 22) (x := 0) (by decide +kernel) (by decide) (Or.inr ⟨by decide +kernel, by first | decide | omega, by first | decide | omega⟩) ⟨_, rfl, (by decide), ?_⟩
    refine x_retI (np := 7) (x := 0) (by decide +kernel) (by decide) (Or.inr ⟨by decide +kernel, by first | decide | omega, by first | decide | omega⟩) ⟨_, rfl, (by decide), ?_⟩
    refine x_ifz (k := 1) (tg := 21) (np := 14) (by decide +kernel) (by decide) (by decide) (fun q41 => ?_) (fun q42 => ?_)
    · have q41 : 2147483648 ≠ 2147483648 := q41
      exfalso; omega
    have q42 : ¬ (2147483648 ≠ 2147483648) := q42
    refine x_iload (np := 15) (x := 2) (by decide +kernel) rfl la2 ?_
    refine x_nI (t := 0) (mj := 160) (n := 1) (rc := 0) (ml := 1) (nr := 1) (np := 18) (as := [iv_c a2]) (rest := [x_r 75]) (lo1 := [iv_c a2]) (by decide +kernel) (by decide) (by decide +kernel) (Or.inl rfl) rfl rfl (x_wi la2 x_wn) (x_wr (by decide) x_wn) (by decide) rfl ?_
    refine x_iload (np := 1) (x := 0) (by decide +kernel) rfl la2 ?_
    refine x_const (np := 2) (x := 9223372039002259456) (a := 2147483648) (by decide +kernel) (by decide) (by decide) ?_
    refine x_const (np := 4) (x := 9223372086246899723) (a := 2147483659) (by decide +kernel) (by decide) (by decide) ?_
    refine x_nI (t := 0) (mj := 153) (n := 3) (rc := 0) (ml := 3) (nr := 0) (np := 7) (as := [iv_c a2, iv_c 2147483648, iv_c 2147483659]) (rest := []) (lo1 := [iv_c a2, iv_c 2147483648, iv_c 2147483659]) (by decide +kernel) (by decide) (by decide +kernel) (Or.inl rfl) rfl rfl (x_wi la2 (x_wi (by decide) (x_wi (by decide) x_wn))) x_wn (by decide) rfl ?_
    refine x_iload (np := 1) (x := 0) (by decide +kernel) rfl la2 ?_
    refine x_iload (np := 2) (x := 1) (by decide +kernel) rfl (by decide) ?_
    refine x_icmp (k := 2) (tg := 14) (np := 5) (by decide +kernel) (by decide) la2 (by decide) (fun q43 => ?_) (fun q44 => ?_)
    · have q43 : a2 < 2147483648 := q43
      refine x_const (np := 15) (x := 9223372039002259456) (a := 2147483648) (by decide +kernel) (by decide) (by decide) ?_
      refine x_retI (np := 16) (x := 0) (by decide +kernel) (by decide) (Or.inr ⟨by decide +kernel, by first | decide | omega, by first | decide | omega⟩) ⟨_, rfl, (by decide), ?_⟩
      refine x_ifz (k := 1) (tg := 14) (np := 10) (by decide +kernel) (by decide) (by decide) (fun q45 => ?_) (fun q46 => ?_)
      · have q45 : 2147483648 ≠ 2147483648 := q45
        exfalso; omega
      have q46 : ¬ (2147483648 ≠ 2147483648) := q46
      refine x_const (np := 11) (x := 9223372043297226753) (a := 2147483649) (by decide +kernel) (by decide) (by decide) ?_
      refine x_goto (np := 14) (x := 15) (by decide +kernel) ?_
      refine x_retI (np := 16) (x := 0) (by decide +kernel) (by decide) (Or.inr ⟨by decide +kernel, by first | decide | omega, by first | decide | omega⟩) ⟨_, rfl, (by decide), ?_⟩
      refine x_ifz (k := 0) (tg := 25) (np := 21) (by decide +kernel) (by decide) (by decide) (fun q47 => ?_) (fun q48 => ?_)
      · have q47 : 2147483649 = 2147483648 := q47
        exfalso; omega
      have q48 : ¬ (2147483649 = 2147483648) := q48
      refine x_const (np := 22) (x := 9223372043297226753) (a := 2147483649) (by decide +kernel) (by decide) (by decide) ?_
      refine x_goto (np := 25) (x := 26) (by decide +kernel) ?_
      refine x_const (np := 27) (x := 9223372043297226753) (a := 2147483649) (by decide +kernel) (by decide) (by decide) ?_
      refine x_nI (t := 6) (mj := 152) (n := 3) (rc := 12) (ml := 3) (nr := 0) (np := 30) (as := [x_r 75, iv_c 2147483649, iv_c 2147483649]) (rest := []) (lo1 := [x_r 75, iv_c 2147483649, iv_c 2147483649]) (by decide +kernel) (by decide) (by decide +kernel) (x_rb_of (by decide +kernel)) rfl rfl (x_wr (by decide) (x_wi (by decide) (x_wi (by decide) x_wn))) x_wn (by decide) rfl ?_
      refine x_iload (np := 1) (x := 1) (by decide +kernel) rfl (by decide) ?_
      refine x_ifz (k := 0) (tg := 9) (np := 4) (by decide +kernel) (by decide) (by decide) (fun q49 => ?_) (fun q50 => ?_)
      · have q49 : 2147483649 = 2147483648 := q49
        exfalso; omega
      have q50 : ¬ (2147483649 = 2147483648) := q50
      refine x_aload (np := 5) (x := 0) (by decide +kernel) rfl (x_nc_le (by decide)) ?_
      refine x_iload (np := 6) (x := 2) (by decide +kernel) rfl (by decide) ?_
      refine x_putI (np := 9) (x := 704) (f := 0) (by decide +kernel) (by decide +kernel) (by decide) (Or.inl (by decide)) ?_
      have j52 := jU (e := 0) (v := 2147483649) 0 j2 rg_75_0_0_1 (by first | decide | omega) (by first | decide | omega) (by first | decide | omega)
      have f54 := jF (e := 0) (v := 2147483649) 0 f4 rg_75_0_0_1 (by first | decide | omega) (by first | decide | omega) (by decide)
      generalize e53 : x_up h1 75 0 2147483649 = h51 at j52 f54 ⊢
      refine x_iload (np := 10) (x := 1) (by decide +kernel) rfl (by decide) ?_
      refine x_retI (np := 11) (x := 0) (by decide +kernel) (by decide) (Or.inr ⟨by decide +kernel, by first | decide | omega, by first | decide | omega⟩) ⟨_, rfl, (by decide), ?_⟩
      refine x_ifz (k := 0) (tg := 35) (np := 33) (by decide +kernel) (by decide) (by decide) (fun q55 => ?_) (fun q56 => ?_)
      · have q55 : 2147483649 = 2147483648 := q55
        exfalso; omega
      have q56 : ¬ (2147483649 = 2147483648) := q56
      refine x_const (np := 34) (x := 9223372039002259456) (a := 2147483648) (by decide +kernel) (by decide) (by decide) ?_
      refine x_retI (np := 35) (x := 0) (by decide +kernel) (by decide) (Or.inl (by decide +kernel)) ⟨_, rfl, (by decide), ?_⟩
      exact ⟨j52, f54, (by first | decide | omega)⟩
    have q44 : ¬ (a2 < 2147483648) := q44
    refine x_iload (np := 6) (x := 0) (by decide +kernel) rfl la2 ?_
    refine x_iload (np := 7) (x := 2) (by decide +kernel) rfl (by decide) ?_
    refine x_icmp (k := 4) (tg := 14) (np := 10) (by decide +kernel) (by decide) la2 (by decide) (fun q57 => ?_) (fun q58 => ?_)
    · have q57 : 2147483659 < a2 := q57
      refine x_const (np := 15) (x := 9223372039002259456) (a := 2147483648) (by decide +kernel) (by decide) (by decide) ?_
      refine x_retI (np := 16) (x := 0) (by decide +kernel) (by decide) (Or.inr ⟨by decide +kernel, by first | decide | omega, by first | decide | omega⟩) ⟨_, rfl, (by decide), ?_⟩
      refine x_ifz (k := 1) (tg := 14) (np := 10) (by decide +kernel) (by decide) (by decide) (fun q59 => ?_) (fun q60 => ?_)
      · have q59 : 2147483648 ≠ 2147483648 := q59
        exfalso; omega
      have q60 : ¬ (2147483648 ≠ 2147483648) := q60
      refine x_const (np := 11) (x := 9223372043297226753) (a := 2147483649) (by decide +kernel) (by decide) (by decide) ?_
      refine x_goto (np := 14) (x := 15) (by decide +kernel) ?_
      refine x_retI (np := 16) (x := 0) (by decide +kernel) (by decide) (Or.inr ⟨by decide +kernel, by first | decide | omega, by first | decide | omega⟩) ⟨_, rfl, (by decide), ?_⟩
      refine x_ifz (k := 0) (tg := 25) (np := 21) (by decide +kernel) (by decide) (by decide) (fun q61 => ?_) (fun q62 => ?_)
      · have q61 : 2147483649 = 2147483648 := q61
        exfalso; omega
      have q62 : ¬ (2147483649 = 2147483648) := q62
      refine x_const (np := 22) (x := 9223372043297226753) (a := 2147483649) (by decide +kernel) (by decide) (by decide) ?_
      refine x_goto (np := 25) (x := 26) (by decide +kernel) ?_
      refine x_const (np := 27) (x := 9223372043297226753) (a := 2147483649) (by decide +kernel) (by decide) (by decide) ?_
      refine x_nI (t := 6) (mj := 152) (n := 3) (rc := 12) (ml := 3) (nr := 0) (np := 30) (as := [x_r 75, iv_c 2147483649, iv_c 2147483649]) (rest := []) (lo1 := [x_r 75, iv_c 2147483649, iv_c 2147483649]) (by decide +kernel) (by decide) (by decide +kernel) (x_rb_of (by decide +kernel)) rfl rfl (x_wr (by decide) (x_wi (by decide) (x_wi (by decide) x_wn))) x_wn (by decide) rfl ?_
      refine x_iload (np := 1) (x := 1) (by decide +kernel) rfl (by decide) ?_
      refine x_ifz (k := 0) (tg := 9) (np := 4) (by decide +kernel) (by decide) (by decide) (fun q63 => ?_) (fun q64 => ?_)
      · have q63 : 2147483649 = 2147483648 := q63
        exfalso; omega
      have q64 : ¬ (2147483649 = 2147483648) := q64
      refine x_aload (np := 5) (x := 0) (by decide +kernel) rfl (x_nc_le (by decide)) ?_
      refine x_iload (np := 6) (x := 2) (by decide +kernel) rfl (by decide) ?_
      refine x_putI (np := 9) (x := 704) (f := 0) (by decide +kernel) (by decide +kernel) (by decide) (Or.inl (by decide)) ?_
      have j66 := jU (e := 0) (v := 2147483649) 0 j2 rg_75_0_0_1 (by first | decide | omega) (by first | decide | omega) (by first | decide | omega)
      have f68 := jF (e := 0) (v := 2147483649) 0 f4 rg_75_0_0_1 (by first | decide | omega) (by first | decide | omega) (by decide)
      generalize e67 : x_up h1 75 0 2147483649 = h65 at j66 f68 ⊢
      refine x_iload (np := 10) (x := 1) (by decide +kernel) rfl (by decide) ?_
      refine x_retI (np := 11) (x := 0) (by decide +kernel) (by decide) (Or.inr ⟨by decide +kernel, by first | decide | omega, by first | decide | omega⟩) ⟨_, rfl, (by decide), ?_⟩
      refine x_ifz (k := 0) (tg := 35) (np := 33) (by decide +kernel) (by decide) (by decide) (fun q69 => ?_) (fun q70 => ?_)
      · have q69 : 2147483649 = 2147483648 := q69
        exfalso; omega
      have q70 : ¬ (2147483649 = 2147483648) := q70
      refine x_const (np := 34) (x := 9223372039002259456) (a := 2147483648) (by decide +kernel) (by decide) (by decide) ?_
      refine x_retI (np := 35) (x := 0) (by decide +kernel) (by decide) (Or.inl (by decide +kernel)) ⟨_, rfl, (by decide), ?_⟩
      exact ⟨j66, f68, (by first | decide | omega)⟩
    have q58 : ¬ (2147483659 < a2) := q58
    refine x_const (np := 11) (x := 9223372043297226753) (a := 2147483649) (by decide +kernel) (by decide) (by decide) ?_
    refine x_goto (np := 14) (x := 15) (by decide +kernel) ?_
    refine x_retI (np := 16) (x := 0) (by decide +kernel) (by decide) (Or.inr ⟨by decide +kernel, by first | decide | omega, by first | decide | omega⟩) ⟨_, rfl, (by decide), ?_⟩
    refine x_ifz (k := 1) (tg := 14) (np := 10) (by decide +kernel) (by decide) (by decide) (fun q71 => ?_) (fun q72 => ?_)
    · have q71 : 2147483649 ≠ 2147483648 := q71
      refine x_const (np := 15) (x := 9223372039002259456) (a := 2147483648) (by decide +kernel) (by decide) (by decide) ?_
      refine x_retI (np := 16) (x := 0) (by decide +kernel) (by decide) (Or.inr ⟨by decide +kernel, by first | decide | omega, by first | decide | omega⟩) ⟨_, rfl, (by decide), ?_⟩
      refine x_ifz (k := 0) (tg := 25) (np := 21) (by decide +kernel) (by decide) (by decide) (fun q73 => ?_) (fun q74 => ?_)
      · have q73 : 2147483648 = 2147483648 := q73
        refine x_const (np := 26) (x := 9223372039002259456) (a := 2147483648) (by decide +kernel) (by decide) (by decide) ?_
        refine x_const (np := 27) (x := 9223372043297226753) (a := 2147483649) (by decide +kernel) (by decide) (by decide) ?_
        refine x_nI (t := 6) (mj := 152) (n := 3) (rc := 12) (ml := 3) (nr := 0) (np := 30) (as := [x_r 75, iv_c 2147483648, iv_c 2147483649]) (rest := []) (lo1 := [x_r 75, iv_c 2147483648, iv_c 2147483649]) (by decide +kernel) (by decide) (by decide +kernel) (x_rb_of (by decide +kernel)) rfl rfl (x_wr (by decide) (x_wi (by decide) (x_wi (by decide) x_wn))) x_wn (by decide) rfl ?_
        refine x_iload (np := 1) (x := 1) (by decide +kernel) rfl (by decide) ?_
        refine x_ifz (k := 0) (tg := 9) (np := 4) (by decide +kernel) (by decide) (by decide) (fun q75 => ?_) (fun q76 => ?_)
        · have q75 : 2147483648 = 2147483648 := q75
          refine x_iload (np := 10) (x := 1) (by decide +kernel) rfl (by decide) ?_
          refine x_retI (np := 11) (x := 0) (by decide +kernel) (by decide) (Or.inr ⟨by decide +kernel, by first | decide | omega, by first | decide | omega⟩) ⟨_, rfl, (by decide), ?_⟩
          refine x_ifz (k := 0) (tg := 35) (np := 33) (by decide +kernel) (by decide) (by decide) (fun q77 => ?_) (fun q78 => ?_)
          · have q77 : 2147483648 = 2147483648 := q77
            refine x_aload (np := 36) (x := 0) (by decide +kernel) rfl (x_nc_le (by decide)) ?_
            have m82 : WT 76 h1 := by rw [← e3]; exact WT.oth hW hJ (by decide)
            refine x_cV (t := 6) (mj := 210) (n := 1) (rc := 12) (ml := 5) (nr := 0) (np := 39) (as := [x_r 75]) (rest := []) (lo1 := [x_r 75, 147573952589676412928, 147573952589676412928, 147573952589676412928, 147573952589676412928]) (by decide +kernel) (by decide) (by decide +kernel) (x_rb_of (by decide +kernel)) rfl rfl (x_wr (by decide) x_wn) x_wn (by decide) rfl (c210_75 j2  m82) (fun h83 q81 => ?_)
            obtain ⟨j84, f85⟩ := q81
            have f88 := Fr.trans f4 f85 (by decide)
            refine x_aload (np := 40) (x := 0) (by decide +kernel) rfl (x_nc_le (by decide)) ?_
            refine x_iload (np := 41) (x := 1) (by decide +kernel) rfl la1 ?_
            refine x_iload (np := 42) (x := 2) (by decide +kernel) rfl la2 ?_
            refine x_nI (t := 6) (mj := 211) (n := 3) (rc := 12) (ml := 3) (nr := 0) (np := 45) (as := [x_r 75, iv_c a1, iv_c a2]) (rest := []) (lo1 := [x_r 75, iv_c a1, iv_c a2]) (by decide +kernel) (by decide) (by decide +kernel) (x_rb_of (by decide +kernel)) rfl rfl (x_wr (by decide) (x_wi la1 (x_wi la2 x_wn))) x_wn (by decide) rfl ?_
            refine x_aload (np := 1) (x := 0) (by decide +kernel) rfl (x_nc_le (by decide)) ?_
            have q89 : h83 75 20 = 87 := by have z := jB (e := 20) 0 j84 rg_75_20_0_1 (by decide) (by decide); omega
            refine x_getR (np := 4) (x := 724) (f := 20) (q := 87) (by decide +kernel) (by decide) (by decide +kernel) q89 ?_
            refine x_const (np := 6) (x := 9223372090541867020) (a := 2147483660) (by decide +kernel) (by decide) (by decide) ?_
            refine x_iload (np := 7) (x := 1) (by decide +kernel) rfl la1 ?_
            obtain ⟨u90, q91⟩ : ∃ z, a1 = 2147483648 + z := ⟨a1 - 2147483648, by first | decide | omega⟩
            refine x_imul (np := 8) (x := 0) (i := 12) (j := u90) (v := (2147483648 + 12 * u90)) (by decide +kernel) (by first | decide | omega) (by first | decide | omega) (by first | decide | omega) (by first | decide | omega) (by decide) la1 ?_
            refine x_iload (np := 9) (x := 2) (by decide +kernel) rfl la2 ?_
            refine x_iadd (np := 10) (x := 0) (v := (12 * u90 + a2)) (by decide +kernel) (by first | decide | omega) la2 (by first | decide | omega) (by first | decide | omega) ?_
            obtain ⟨u93, q94⟩ : ∃ z, a2 = 2147483648 + z := ⟨a2 - 2147483648, by first | decide | omega⟩
            have b95 := jB (e := (12 * u90 + u93)) (12 * u90 + u93) j84 rg_87_0_1_72 (by first | decide | omega) (by first | decide | omega)
            refine x_aldC (np := 11) (x := 0) (n := 72) (i := (12 * u90 + u93)) (q := ((h83 87 (12 * u90 + u93)))) (by decide +kernel) (by decide +kernel) (by first | decide | omega) (by first | decide | omega) (by decide) rfl (fun l96 => ?_)
            refine x_retI (np := 12) (x := 0) (by decide +kernel) l96 (Or.inl (by decide +kernel)) ⟨_, rfl, l96, ?_⟩
            refine x_retI (np := 46) (x := 0) (by decide +kernel) l96 (Or.inl (by decide +kernel)) ⟨_, rfl, l96, ?_⟩
            exact ⟨j84, f88, (by first | decide | omega)⟩
          have q78 : ¬ (2147483648 = 2147483648) := q78
          exfalso; omega
        have q76 : ¬ (2147483648 = 2147483648) := q76
        exfalso; omega
      have q74 : ¬ (2147483648 = 2147483648) := q74
      exfalso; omega
    have q72 : ¬ (2147483649 ≠ 2147483648) := q72
    exfalso; omega
  have q40 : ¬ (2147483649 ≠ 2147483648) := q40
  exfalso; omega
set_option maxHeartbeats 0 in
/-- LentNamesModel.namesOf(II)I -/
theorem c213_75 {sc : Nat × Nat} {d a1 a2 : Nat} {h : xh} (hJ : J h) (ba1 : 2147483648 ≤ a1 ∧ a1 ≤ 2147483653) (ba2 : 2147483648 ≤ a2 ∧ a2 ≤ 2147483659) : X sc 213 (d + 1) (xI fun r h' => h' = h ∧ (0 ≤ r ∧ r ≤ 4294967295)) 0 0 0 [x_r 75, iv_c a1, iv_c a2, 147573952589676412928, 147573952589676412928] [] h := by
  have la1 : a1 < 4294967296 := by first | decide | omega
  have la2 : a2 < 4294967296 := by first | decide | omega
  refine x_const (np := 1) (x := 9223372039002259456) (a := 2147483648) (by decide +kernel) (by decide) (by decide) ?_
  refine x_istore (np := 2) (x := 3) (lo' := [x_r 75, iv_c a1, iv_c a2, iv_c 2147483648, 147573952589676412928]) (by decide +kernel) (by decide) (Nat.le_of_ble_eq_true rfl) rfl ?_
  refine x_const (np := 3) (x := 9223372039002259456) (a := 2147483648) (by decide +kernel) (by decide) (by decide) ?_
  refine x_istore (np := 5) (x := 4) (lo' := [x_r 75, iv_c a1, iv_c a2, iv_c 2147483648, iv_c 2147483648]) (by decide +kernel) (by decide) (Nat.le_of_ble_eq_true rfl) rfl ?_
  have p155 : ∀ (n : Nat) (v151 : Nat) (v153 : Nat), 4294967296 - v153 < n → (0 ≤ v151 ∧ v151 ≤ 4294967295) → (2147483648 ≤ v153 ∧ v153 ≤ 2147483654) → X sc 213 (d + 1) (xI fun r h' => h' = h ∧ (0 ≤ r ∧ r ≤ 4294967295)) 0 0 5 [x_r 75, iv_c a1, iv_c a2, iv_c v151, iv_c v153] [] h := by
    intro n
    induction n with
    | zero => intro v151 v153 q156; exact absurd q156 (Nat.not_lt_zero _)
    | succ n i157 =>
      intro v151 v153 q156 b152 b154
      refine x_iload (np := 7) (x := 4) (by decide +kernel) rfl (by first | decide | omega) ?_
      refine x_aload (np := 8) (x := 0) (by decide +kernel) rfl (x_nc_le (by decide)) ?_
      refine x_nI (t := 6) (mj := 157) (n := 1) (rc := 12) (ml := 1) (nr := 1) (np := 11) (as := [x_r 75]) (rest := [iv_c v153]) (lo1 := [x_r 75]) (by decide +kernel) (by decide) (by decide +kernel) (x_rb_of (by decide +kernel)) rfl rfl (x_wr (by decide) x_wn) (x_wi (by first | decide | omega) x_wn) (by decide) rfl ?_
      refine x_aload (np := 1) (x := 0) (by decide +kernel) rfl (x_nc_le (by decide)) ?_
      have q158 : h 75 1 = 76 := by have z := jB (e := 1) 0 hJ rg_75_1_0_1 (by decide) (by decide); omega
      refine x_getR (np := 4) (x := 705) (f := 1) (q := 76) (by decide +kernel) (by decide) (by decide +kernel) q158 ?_
      refine x_const (np := 5) (x := 9223372039002259456) (a := 2147483648) (by decide +kernel) (by decide) (by decide) ?_
      have b159 := jB (e := 0) 0 hJ rg_76_0_0_1 (by first | decide | omega) (by first | decide | omega)
      refine x_aldC (np := 6) (x := 0) (n := 1952) (i := 0) (q := (h 76 0)) (by decide +kernel) (by decide +kernel) (by first | decide | omega) (by first | decide | omega) (by decide) rfl (fun l160 => ?_)
      refine x_retI (np := 7) (x := 0) (by decide +kernel) l160 (Or.inl (by decide +kernel)) ⟨_, rfl, l160, ?_⟩
      refine x_icmp (k := 3) (tg := 42) (np := 14) (by decide +kernel) (by decide) (by first | decide | omega) l160 (fun q161 => ?_) (fun q162 => ?_)
      · have q161 : (h 76 0) ≤ v153 := q161
        refine x_iload (np := 43) (x := 3) (by decide +kernel) rfl (by first | decide | omega) ?_
        refine x_retI (np := 44) (x := 0) (by decide +kernel) (by first | decide | omega) (Or.inl (by decide +kernel)) ⟨_, rfl, (by first | decide | omega), ?_⟩
        exact ⟨rfl, (by first | decide | omega)⟩
      have q162 : ¬ ((h 76 0) ≤ v153) := q162
      refine x_iload (np := 15) (x := 3) (by decide +kernel) rfl (by first | decide | omega) ?_
      refine x_aload (np := 16) (x := 0) (by decide +kernel) rfl (x_nc_le (by decide)) ?_
      refine x_iload (np := 18) (x := 4) (by decide +kernel) rfl (by first | decide | omega) ?_
      refine x_iload (np := 19) (x := 2) (by decide +kernel) rfl la2 ?_
      refine x_nI (t := 6) (mj := 211) (n := 3) (rc := 12) (ml := 3) (nr := 1) (np := 22) (as := [x_r 75, iv_c v153, iv_c a2]) (rest := [iv_c v151]) (lo1 := [x_r 75, iv_c v153, iv_c a2]) (by decide +kernel) (by decide) (by decide +kernel) (x_rb_of (by decide +kernel)) rfl rfl (x_wr (by decide) (x_wi (by first | decide | omega) (x_wi la2 x_wn))) (x_wi (by first | decide | omega) x_wn) (by decide) rfl ?_
      refine x_aload (np := 1) (x := 0) (by decide +kernel) rfl (x_nc_le (by decide)) ?_
      have q163 : h 75 20 = 87 := by have z := jB (e := 20) 0 hJ rg_75_20_0_1 (by decide) (by decide); omega
      refine x_getR (np := 4) (x := 724) (f := 20) (q := 87) (by decide +kernel) (by decide) (by decide +kernel) q163 ?_
      refine x_const (np := 6) (x := 9223372090541867020) (a := 2147483660) (by decide +kernel) (by decide) (by decide) ?_
      refine x_iload (np := 7) (x := 1) (by decide +kernel) rfl (by first | decide | omega) ?_
      obtain ⟨u164, q165⟩ : ∃ z, v153 = 2147483648 + z := ⟨v153 - 2147483648, by first | decide | omega⟩
      refine x_imul (np := 8) (x := 0) (i := 12) (j := u164) (v := (2147483648 + 12 * u164)) (by decide +kernel) (by first | decide | omega) (by first | decide | omega) (by first | decide | omega) (by first | decide | omega) (by decide) (by first | decide | omega) ?_
      refine x_iload (np := 9) (x := 2) (by decide +kernel) rfl la2 ?_
      refine x_iadd (np := 10) (x := 0) (v := (12 * u164 + a2)) (by decide +kernel) (by first | decide | omega) la2 (by first | decide | omega) (by first | decide | omega) ?_
      obtain ⟨u167, q168⟩ : ∃ z, a2 = 2147483648 + z := ⟨a2 - 2147483648, by first | decide | omega⟩
      have b169 := jB (e := (12 * u164 + u167)) (12 * u164 + u167) hJ rg_87_0_1_72 (by first | decide | omega) (by first | decide | omega)
      refine x_aldC (np := 11) (x := 0) (n := 72) (i := (12 * u164 + u167)) (q := ((h 87 (12 * u164 + u167)))) (by decide +kernel) (by decide +kernel) (by first | decide | omega) (by first | decide | omega) (by decide) rfl (fun l170 => ?_)
      refine x_retI (np := 12) (x := 0) (by decide +kernel) l170 (Or.inl (by decide +kernel)) ⟨_, rfl, l170, ?_⟩
      refine x_iload (np := 23) (x := 1) (by decide +kernel) rfl la1 ?_
      refine x_icmp (k := 1) (tg := 33) (np := 26) (by decide +kernel) (by decide) l170 la1 (fun q171 => ?_) (fun q172 => ?_)
      · have q171 : ((h 87 (12 * u164 + u167))) ≠ a1 := q171
        refine x_const (np := 34) (x := 9223372039002259456) (a := 2147483648) (by decide +kernel) (by decide) (by decide) ?_
        refine x_any (np := 35) (k9 := 1) (by decide +kernel) (by decide) (by first | decide | omega) (by decide) (fun v173 l174 => ?_)
        refine x_istore (np := 36) (x := 3) (lo' := [x_r 75, iv_c a1, iv_c a2, iv_c v173, iv_c v153]) (by decide +kernel) l174 (Nat.le_of_ble_eq_true rfl) rfl ?_
        refine x_iinc (np := 39) (i := 4) (j := 2147483649) (v := (1 + v153)) (lo' := [x_r 75, iv_c a1, iv_c a2, iv_c v173, iv_c (1 + v153)]) (by decide +kernel) (by decide) (by decide) rfl (by first | decide | omega) (by first | decide | omega) (by first | decide | omega) rfl ?_
        refine x_goto (np := 42) (x := 5) (by decide +kernel) ?_
        exact i157 v173 (1 + v153) (by first | decide | omega) (by first | decide | omega) (by first | decide | omega)
      have q172 : ¬ (((h 87 (12 * u164 + u167))) ≠ a1) := q172
      refine x_const (np := 27) (x := 9223372043297226753) (a := 2147483649) (by decide +kernel) (by decide) (by decide) ?_
      refine x_iload (np := 29) (x := 4) (by decide +kernel) rfl (by first | decide | omega) ?_
      refine x_any (np := 30) (k9 := 3) (by decide +kernel) (by decide) (by decide) (by first | decide | omega) (fun v175 l176 => ?_)
      refine x_goto (np := 33) (x := 34) (by decide +kernel) ?_
      refine x_any (np := 35) (k9 := 1) (by decide +kernel) (by decide) (by first | decide | omega) l176 (fun v177 l178 => ?_)
      refine x_istore (np := 36) (x := 3) (lo' := [x_r 75, iv_c a1, iv_c a2, iv_c v177, iv_c v153]) (by decide +kernel) l178 (Nat.le_of_ble_eq_true rfl) rfl ?_
      refine x_iinc (np := 39) (i := 4) (j := 2147483649) (v := (1 + v153)) (lo' := [x_r 75, iv_c a1, iv_c a2, iv_c v177, iv_c (1 + v153)]) (by decide +kernel) (by decide) (by decide) rfl (by first | decide | omega) (by first | decide | omega) (by first | decide | omega) rfl ?_
      refine x_goto (np := 42) (x := 5) (by decide +kernel) ?_
      exact i157 v177 (1 + v153) (by first | decide | omega) (by first | decide | omega) (by first | decide | omega)
  exact p155 _ 2147483648 2147483648 (Nat.lt_succ_self _) (by first | decide | omega) (by first | decide | omega)
set_option maxHeartbeats 0 in
/-- LentNamesModel.names(II)I -/
theorem c214_75 {sc : Nat × Nat} {d a1 a2 : Nat} {h : xh} (hJ : J h) (ba1 : 0 ≤ a1 ∧ a1 ≤ 4294967295) (ba2 : 0 ≤ a2 ∧ a2 ≤ 4294967295) (hW : WT 76 h) : X sc 214 (d + 5) (xI fun r h' => J h' ∧ Fr 135291600897 h h' ∧ (0 ≤ r ∧ r ≤ 4294967295)) 0 0 0 [x_r 75, iv_c a1, iv_c a2] [] h := by
  have la1 : a1 < 4294967296 := by first | decide | omega
  have la2 : a2 < 4294967296 := by first | decide | omega
  have hF := Fr.refl 135291600897 h
  refine x_aload (np := 1) (x := 0) (by decide +kernel) rfl (x_nc_le (by decide)) ?_
  refine x_const (np := 2) (x := 9223372039002259456) (a := 2147483648) (by decide +kernel) (by decide) (by decide) ?_
  refine x_putI (np := 5) (x := 704) (f := 0) (by decide +kernel) (by decide +kernel) (by decide) (Or.inl (by decide)) ?_
  have j2 := jU (e := 0) (v := 2147483648) 0 hJ rg_75_0_0_1 (by first | decide | omega) (by first | decide | omega) (by first | decide | omega)
  have f4 := jF (e := 0) (v := 2147483648) 0 hF rg_75_0_0_1 (by first | decide | omega) (by first | decide | omega) (by decide)
  generalize e3 : x_up h 75 0 2147483648 = h1 at j2 f4 ⊢
  refine x_aload (np := 6) (x := 0) (by decide +kernel) rfl (x_nc_le (by decide)) ?_
  refine x_aload (np := 7) (x := 0) (by decide +kernel) rfl (x_nc_le (by decide)) ?_
  refine x_iload (np := 8) (x := 1) (by decide +kernel) rfl la1 ?_
  refine x_nI (t := 6) (mj := 159) (n := 2) (rc := 12) (ml := 2) (nr := 1) (np := 11) (as := [x_r 75, iv_c a1]) (rest := [x_r 75]) (lo1 := [x_r 75, iv_c a1]) (by decide +kernel) (by decide) (by decide +kernel) (x_rb_of (by decide +kernel)) rfl rfl (x_wr (by decide) (x_wi la1 x_wn)) (x_wr (by decide) x_wn) (by decide) rfl ?_
  refine x_aload (np := 1) (x := 0) (by decide +kernel) rfl (x_nc_le (by decide)) ?_
  refine x_iload (np := 2) (x := 1) (by decide +kernel) rfl la1 ?_
  refine x_const (np := 3) (x := 9223372039002259456) (a := 2147483648) (by decide +kernel) (by decide) (by decide) ?_
  refine x_nI (t := 6) (mj := 158) (n := 3) (rc := 12) (ml := 3) (nr := 0) (np := 6) (as := [x_r 75, iv_c a1, iv_c 2147483648]) (rest := []) (lo1 := [x_r 75, iv_c a1, iv_c 2147483648]) (by decide +kernel) (by decide) (by decide +kernel) (x_rb_of (by decide +kernel)) rfl rfl (x_wr (by decide) (x_wi la1 (x_wi (by decide) x_wn))) x_wn (by decide) rfl ?_
  refine x_iload (np := 1) (x := 1) (by decide +kernel) rfl la1 ?_
  refine x_const (np := 2) (x := 9223372039002259456) (a := 2147483648) (by decide +kernel) (by decide) (by decide) ?_
  refine x_aload (np := 3) (x := 0) (by decide +kernel) rfl (x_nc_le (by decide)) ?_
  have q5 : h1 75 1 = 76 := by have z := jB (e := 1) 0 j2 rg_75_1_0_1 (by decide) (by decide); omega
  refine x_getR (np := 6) (x := 705) (f := 1) (q := 76) (by decide +kernel) (by decide) (by decide +kernel) q5 ?_
  refine x_iload (np := 7) (x := 2) (by decide +kernel) rfl (by decide) ?_
  have q6 : h1 76 0 = h 76 0 := by rw [← e3]; exact x_up_k (by decide)
  have b7 := jB (e := 0) 0 hJ rg_76_0_0_1 (by first | decide | omega) (by first | decide | omega)
  refine x_aldC (np := 8) (x := 0) (n := 1952) (i := 0) (q := (h 76 0)) (by decide +kernel) (by decide +kernel) (by first | decide | omega) (by first | decide | omega) (by decide) q6 (fun l8 => ?_)
  refine x_const (np := 9) (x := 9223372043297226753) (a := 2147483649) (by decide +kernel) (by decide) (by decide) ?_
  obtain ⟨v9, q10⟩ : ∃ z, z + 2147483649 = (h 76 0) + 2147483648 := ⟨(h 76 0) + 2147483648 - 2147483649, by first | decide | omega⟩
  refine x_isub (np := 10) (x := 0) (v := v9) (by decide +kernel) l8 (by decide) (by first | decide | omega) (by first | decide | omega) ?_
  refine x_nI (t := 0) (mj := 153) (n := 3) (rc := 0) (ml := 3) (nr := 0) (np := 13) (as := [iv_c a1, iv_c 2147483648, iv_c v9]) (rest := []) (lo1 := [iv_c a1, iv_c 2147483648, iv_c v9]) (by decide +kernel) (by decide) (by decide +kernel) (Or.inl rfl) rfl rfl (x_wi la1 (x_wi (by decide) (x_wi (by first | decide | omega) x_wn))) x_wn (by decide) rfl ?_
  refine x_iload (np := 1) (x := 0) (by decide +kernel) rfl la1 ?_
  refine x_iload (np := 2) (x := 1) (by decide +kernel) rfl (by decide) ?_
  refine x_icmp (k := 2) (tg := 14) (np := 5) (by decide +kernel) (by decide) la1 (by decide) (fun q11 => ?_) (fun q12 => ?_)
  · have q11 : a1 < 2147483648 := q11
    refine x_const (np := 15) (x := 9223372039002259456) (a := 2147483648) (by decide +kernel) (by decide) (by decide) ?_
    refine x_retI (np := 16) (x := 0) (by decide +kernel) (by decide) (Or.inr ⟨by decide +kernel, by first | decide | omega, by first | decide | omega⟩) ⟨_, rfl, (by decide), ?_⟩
    refine x_ifz (k := 1) (tg := 20) (np := 16) (by decide +kernel) (by decide) (by decide) (fun q13 => ?_) (fun q14 => ?_)
    · have q13 : 2147483648 ≠ 2147483648 := q13
      exfalso; omega
    have q14 : ¬ (2147483648 ≠ 2147483648) := q14
    refine x_const (np := 17) (x := 9223372043297226753) (a := 2147483649) (by decide +kernel) (by decide) (by decide) ?_
    refine x_goto (np := 20) (x := 21) (by decide +kernel) ?_
    refine x_retI (np := 22) (x := 0) (by decide +kernel) (by decide) (Or.inr ⟨by decide +kernel, by first | decide | omega, by first | decide | omega⟩) ⟨_, rfl, (by decide), ?_⟩
    refine x_retI (np := 7) (x := 0) (by decide +kernel) (by decide) (Or.inr ⟨by decide +kernel, by first | decide | omega, by first | decide | omega⟩) ⟨_, rfl, (by decide), ?_⟩
    refine x_ifz (k := 1) (tg := 21) (np := 14) (by decide +kernel) (by decide) (by decide) (fun q15 => ?_) (fun q16 => ?_)
    · have q15 : 2147483649 ≠ 2147483648 := q15
      refine x_const (np := 22) (x := 9223372043297226753) (a := 2147483649) (by decide +kernel) (by decide) (by decide) ?_
      refine x_goto (np := 25) (x := 26) (by decide +kernel) ?_
      refine x_const (np := 27) (x := 9223372043297226753) (a := 2147483649) (by decide +kernel) (by decide) (by decide) ?_
      refine x_nI (t := 6) (mj := 152) (n := 3) (rc := 12) (ml := 3) (nr := 0) (np := 30) (as := [x_r 75, iv_c 2147483649, iv_c 2147483649]) (rest := []) (lo1 := [x_r 75, iv_c 2147483649, iv_c 2147483649]) (by decide +kernel) (by decide) (by decide +kernel) (x_rb_of (by decide +kernel)) rfl rfl (x_wr (by decide) (x_wi (by decide) (x_wi (by decide) x_wn))) x_wn (by decide) rfl ?_
      refine x_iload (np := 1) (x := 1) (by decide +kernel) rfl (by decide) ?_
      refine x_ifz (k := 0) (tg := 9) (np := 4) (by decide +kernel) (by decide) (by decide) (fun q17 => ?_) (fun q18 => ?_)
      · have q17 : 2147483649 = 2147483648 := q17
        exfalso; omega
      have q18 : ¬ (2147483649 = 2147483648) := q18
      refine x_aload (np := 5) (x := 0) (by decide +kernel) rfl (x_nc_le (by decide)) ?_
      refine x_iload (np := 6) (x := 2) (by decide +kernel) rfl (by decide) ?_
      refine x_putI (np := 9) (x := 704) (f := 0) (by decide +kernel) (by decide +kernel) (by decide) (Or.inl (by decide)) ?_
      have j20 := jU (e := 0) (v := 2147483649) 0 j2 rg_75_0_0_1 (by first | decide | omega) (by first | decide | omega) (by first | decide | omega)
      have f22 := jF (e := 0) (v := 2147483649) 0 f4 rg_75_0_0_1 (by first | decide | omega) (by first | decide | omega) (by decide)
      generalize e21 : x_up h1 75 0 2147483649 = h19 at j20 f22 ⊢
      refine x_iload (np := 10) (x := 1) (by decide +kernel) rfl (by decide) ?_
      refine x_retI (np := 11) (x := 0) (by decide +kernel) (by decide) (Or.inr ⟨by decide +kernel, by first | decide | omega, by first | decide | omega⟩) ⟨_, rfl, (by decide), ?_⟩
      refine x_ifz (k := 0) (tg := 35) (np := 33) (by decide +kernel) (by decide) (by decide) (fun q23 => ?_) (fun q24 => ?_)
      · have q23 : 2147483649 = 2147483648 := q23
        exfalso; omega
      have q24 : ¬ (2147483649 = 2147483648) := q24
      refine x_const (np := 34) (x := 9223372039002259456) (a := 2147483648) (by decide +kernel) (by decide) (by decide) ?_
      refine x_retI (np := 35) (x := 0) (by decide +kernel) (by decide) (Or.inl (by decide +kernel)) ⟨_, rfl, (by decide), ?_⟩
      exact ⟨j20, f22, (by first | decide | omega)⟩
    have q16 : ¬ (2147483649 ≠ 2147483648) := q16
    exfalso; omega
  have q12 : ¬ (a1 < 2147483648) := q12
  refine x_iload (np := 6) (x := 0) (by decide +kernel) rfl la1 ?_
  refine x_iload (np := 7) (x := 2) (by decide +kernel) rfl (by first | decide | omega) ?_
  refine x_icmp (k := 4) (tg := 14) (np := 10) (by decide +kernel) (by decide) la1 (by first | decide | omega) (fun q25 => ?_) (fun q26 => ?_)
  · have q25 : v9 < a1 := q25
    refine x_const (np := 15) (x := 9223372039002259456) (a := 2147483648) (by decide +kernel) (by decide) (by decide) ?_
    refine x_retI (np := 16) (x := 0) (by decide +kernel) (by decide) (Or.inr ⟨by decide +kernel, by first | decide | omega, by first | decide | omega⟩) ⟨_, rfl, (by decide), ?_⟩
    refine x_ifz (k := 1) (tg := 20) (np := 16) (by decide +kernel) (by decide) (by decide) (fun q27 => ?_) (fun q28 => ?_)
    · have q27 : 2147483648 ≠ 2147483648 := q27
      exfalso; omega
    have q28 : ¬ (2147483648 ≠ 2147483648) := q28
    refine x_const (np := 17) (x := 9223372043297226753) (a := 2147483649) (by decide +kernel) (by decide) (by decide) ?_
    refine x_goto (np := 20) (x := 21) (by decide +kernel) ?_
    refine x_retI (np := 22) (x := 0) (by decide +kernel) (by decide) (Or.inr ⟨by decide +kernel, by first | decide | omega, by first | decide | omega⟩) ⟨_, rfl, (by decide), ?_⟩
    refine x_retI (np := 7) (x := 0) (by decide +kernel) (by decide) (Or.inr ⟨by decide +kernel, by first | decide | omega, by first | decide | omega⟩) ⟨_, rfl, (by decide), ?_⟩
    refine x_ifz (k := 1) (tg := 21) (np := 14) (by decide +kernel) (by decide) (by decide) (fun q29 => ?_) (fun q30 => ?_)
    · have q29 : 2147483649 ≠ 2147483648 := q29
      refine x_const (np := 22) (x := 9223372043297226753) (a := 2147483649) (by decide +kernel) (by decide) (by decide) ?_
      refine x_goto (np := 25) (x := 26) (by decide +kernel) ?_
      refine x_const (np := 27) (x := 9223372043297226753) (a := 2147483649) (by decide +kernel) (by decide) (by decide) ?_
      refine x_nI (t := 6) (mj := 152) (n := 3) (rc := 12) (ml := 3) (nr := 0) (np := 30) (as := [x_r 75, iv_c 2147483649, iv_c 2147483649]) (rest := []) (lo1 := [x_r 75, iv_c 2147483649, iv_c 2147483649]) (by decide +kernel) (by decide) (by decide +kernel) (x_rb_of (by decide +kernel)) rfl rfl (x_wr (by decide) (x_wi (by decide) (x_wi (by decide) x_wn))) x_wn (by decide) rfl ?_
      refine x_iload (np := 1) (x := 1) (by decide +kernel) rfl (by decide) ?_
      refine x_ifz (k := 0) (tg := 9) (np := 4) (by decide +kernel) (by decide) (by decide) (fun q31 => ?_) (fun q32 => ?_)
      · have q31 : 2147483649 = 2147483648 := q31
        exfalso; omega
      have q32 : ¬ (2147483649 = 2147483648) := q32
      refine x_aload (np := 5) (x := 0) (by decide +kernel) rfl (x_nc_le (by decide)) ?_
      refine x_iload (np := 6) (x := 2) (by decide +kernel) rfl (by decide) ?_
      refine x_putI (np := 9) (x := 704) (f := 0) (by decide +kernel) (by decide +kernel) (by decide) (Or.inl (by decide)) ?_
      have j34 := jU (e := 0) (v := 2147483649) 0 j2 rg_75_0_0_1 (by first | decide | omega) (by first | decide | omega) (by first | decide | omega)
      have f36 := jF (e := 0) (v := 2147483649) 0 f4 rg_75_0_0_1 (by first | decide | omega) (by first | decide | omega) (by decide)
      generalize e35 : x_up h1 75 0 2147483649 = h33 at j34 f36 ⊢
      refine x_iload (np := 10) (x := 1) (by decide +kernel) rfl (by decide) ?_
      refine x_retI (np := 11) (x := 0) (by decide +kernel) (by decide) (Or.inr ⟨by decide +kernel, by first | decide | omega, by first | decide | omega⟩) ⟨_, rfl, (by decide), ?_⟩
      refine x_ifz (k := 0) (tg := 35) (np := 33) (by decide +kernel) (by decide) (by decide) (fun q37 => ?_) (fun q38 => ?_)
      · have q37 : 2147483649 = 2147483648 := q37
        exfalso; omega
      have q38 : ¬ (2147483649 = 2147483648) := q38
      refine x_const (np := 34) (x := 9223372039002259456) (a := 2147483648) (by decide +kernel) (by decide) (by decide) ?_
      refine x_retI (np := 35) (x := 0) (by decide +kernel) (by decide) (Or.inl (by decide +kernel)) ⟨_, rfl, (by decide), ?_⟩
      exact ⟨j34, f36, (by first | decide | omega)⟩
    have q30 : ¬ (2147483649 ≠ 2147483648) := q30
    exfalso; omega
  have q26 : ¬ (v9 < a1) := q26
  refine x_const (np := 11) (x := 9223372043297226753) (a := 2147483649) (by decide +kernel) (by decide) (by decide) ?_
  refine x_goto (np := 14) (x := 15) (by decide +kernel) ?_
  refine x_retI (np := 16) (x := 0) (by decide +kernel) (by decide) (Or.inr ⟨by decide +kernel, by first | decide | omega, by first | decide | omega⟩) ⟨_, rfl, (by decide), ?_⟩
  refine x_ifz (k := 1) (tg := 20) (np := 16) (by decide +kernel) (by decide) (by decide) (fun q39 => ?_) (fun q40 => ?_)
  · have q39 : 2147483649 ≠ 2147483648 := q39
    refine x_const (np := 21) (x := 9223372039002259456) (a := 2147483648) (by decide +kernel) (by decide) (by decide) ?_
    refine x_retI (np := 22) (x := 0) (by decide +kernel) (by decide) (Or.inr ⟨by decide +kernel, by first | decide | omega, by first | decide | omega⟩) ⟨_, rfl, (by decide), ?_⟩
    refine x_retI (np := 7) (x := 0) (by decide +kernel) (by decide) (Or.inr ⟨by decide +kernel, by first | decide | omega, by first | decide | omega⟩) ⟨_, rfl, (by decide), ?_⟩
    refine x_ifz (k := 1) (tg := 21) (np := 14) (by decide +kernel) (by decide) (by decide) (fun q41 => ?_) (fun q42 => ?_)
    · have q41 : 2147483648 ≠ 2147483648 := q41
      exfalso; omega
    have q42 : ¬ (2147483648 ≠ 2147483648) := q42
    refine x_iload (np := 15) (x := 2) (by decide +kernel) rfl la2 ?_
    refine x_nI (t := 0) (mj := 160) (n := 1) (rc := 0) (ml := 1) (nr := 1) (np := 18) (as := [iv_c a2]) (rest := [x_r 75]) (lo1 := [iv_c a2]) (by decide +kernel) (by decide) (by decide +kernel) (Or.inl rfl) rfl rfl (x_wi la2 x_wn) (x_wr (by decide) x_wn) (by decide) rfl ?_
    refine x_iload (np := 1) (x := 0) (by decide +kernel) rfl la2 ?_
    refine x_const (np := 2) (x := 9223372039002259456) (a := 2147483648) (by decide +kernel) (by decide) (by decide) ?_
    refine x_const (np := 4) (x := 9223372086246899723) (a := 2147483659) (by decide +kernel) (by decide) (by decide) ?_
    refine x_nI (t := 0) (mj := 153) (n := 3) (rc := 0) (ml := 3) (nr := 0) (np := 7) (as := [iv_c a2, iv_c 2147483648, iv_c 2147483659]) (rest := []) (lo1 := [iv_c a2, iv_c 2147483648, iv_c 2147483659]) (by decide +kernel) (by decide) (by decide +kernel) (Or.inl rfl) rfl rfl (x_wi la2 (x_wi (by decide) (x_wi (by decide) x_wn))) x_wn (by decide) rfl ?_
    refine x_iload (np := 1) (x := 0) (by decide +kernel) rfl la2 ?_
    refine x_iload (np := 2) (x := 1) (by decide +kernel) rfl (by decide) ?_
    refine x_icmp (k := 2) (tg := 14) (np := 5) (by decide +kernel) (by decide) la2 (by decide) (fun q43 => ?_) (fun q44 => ?_)
    · have q43 : a2 < 2147483648 := q43
      refine x_const (np := 15) (x := 9223372039002259456) (a := 2147483648) (by decide +kernel) (by decide) (by decide) ?_
      refine x_retI (np := 16) (x := 0) (by decide +kernel) (by decide) (Or.inr ⟨by decide +kernel, by first | decide | omega, by first | decide | omega⟩) ⟨_, rfl, (by decide), ?_⟩
      refine x_ifz (k := 1) (tg := 14) (np := 10) (by decide +kernel) (by decide) (by decide) (fun q45 => ?_) (fun q46 => ?_)
      · have q45 : 2147483648 ≠ 2147483648 := q45
        exfalso; omega
      have q46 : ¬ (2147483648 ≠ 2147483648) := q46
      refine x_const (np := 11) (x := 9223372043297226753) (a := 2147483649) (by decide +kernel) (by decide) (by decide) ?_
      refine x_goto (np := 14) (x := 15) (by decide +kernel) ?_
      refine x_retI (np := 16) (x := 0) (by decide +kernel) (by decide) (Or.inr ⟨by decide +kernel, by first | decide | omega, by first | decide | omega⟩) ⟨_, rfl, (by decide), ?_⟩
      refine x_ifz (k := 0) (tg := 25) (np := 21) (by decide +kernel) (by decide) (by decide) (fun q47 => ?_) (fun q48 => ?_)
      · have q47 : 2147483649 = 2147483648 := q47
        exfalso; omega
      have q48 : ¬ (2147483649 = 2147483648) := q48
      refine x_const (np := 22) (x := 9223372043297226753) (a := 2147483649) (by decide +kernel) (by decide) (by decide) ?_
      refine x_goto (np := 25) (x := 26) (by decide +kernel) ?_
      refine x_const (np := 27) (x := 9223372043297226753) (a := 2147483649) (by decide +kernel) (by decide) (by decide) ?_
      refine x_nI (t := 6) (mj := 152) (n := 3) (rc := 12) (ml := 3) (nr := 0) (np := 30) (as := [x_r 75, iv_c 2147483649, iv_c 2147483649]) (rest := []) (lo1 := [x_r 75, iv_c 2147483649, iv_c 2147483649]) (by decide +kernel) (by decide) (by decide +kernel) (x_rb_of (by decide +kernel)) rfl rfl (x_wr (by decide) (x_wi (by decide) (x_wi (by decide) x_wn))) x_wn (by decide) rfl ?_
      refine x_iload (np := 1) (x := 1) (by decide +kernel) rfl (by decide) ?_
      refine x_ifz (k := 0) (tg := 9) (np := 4) (by decide +kernel) (by decide) (by decide) (fun q49 => ?_) (fun q50 => ?_)
      · have q49 : 2147483649 = 2147483648 := q49
        exfalso; omega
      have q50 : ¬ (2147483649 = 2147483648) := q50
      refine x_aload (np := 5) (x := 0) (by decide +kernel) rfl (x_nc_le (by decide)) ?_
      refine x_iload (np := 6) (x := 2) (by decide +kernel) rfl (by decide) ?_
      refine x_putI (np := 9) (x := 704) (f := 0) (by decide +kernel) (by decide +kernel) (by decide) (Or.inl (by decide)) ?_
      have j52 := jU (e := 0) (v := 2147483649) 0 j2 rg_75_0_0_1 (by first | decide | omega) (by first | decide | omega) (by first | decide | omega)
      have f54 := jF (e := 0) (v := 2147483649) 0 f4 rg_75_0_0_1 (by first | decide | omega) (by first | decide | omega) (by decide)
      generalize e53 : x_up h1 75 0 2147483649 = h51 at j52 f54 ⊢
      refine x_iload (np := 10) (x := 1) (by decide +kernel) rfl (by decide) ?_
      refine x_retI (np := 11) (x := 0) (by decide +kernel) (by decide) (Or.inr ⟨by decide +kernel, by first | decide | omega, by first | decide | omega⟩) ⟨_, rfl, (by decide), ?_⟩
      refine x_ifz (k := 0) (tg := 35) (np := 33) (by decide +kernel) (by decide) (by decide) (fun q55 => ?_) (fun q56 => ?_)
      · have q55 : 2147483649 = 2147483648 := q55
        exfalso; omega
      have q56 : ¬ (2147483649 = 2147483648) := q56
      refine x_const (np := 34) (x := 9223372039002259456) (a := 2147483648) (by decide +kernel) (by decide) (by decide) ?_
      refine x_retI (np := 35) (x := 0) (by decide +kernel) (by decide) (Or.inl (by decide +kernel)) ⟨_, rfl, (by decide), ?_⟩
      exact ⟨j52, f54, (by first | decide | omega)⟩
    have q44 : ¬ (a2 < 2147483648) := q44
    refine x_iload (np := 6) (x := 0) (by decide +kernel) rfl la2 ?_
    refine x_iload (np := 7) (x := 2) (by decide +kernel) rfl (by decide) ?_
    refine x_icmp (k := 4) (tg := 14) (np := 10) (by decide +kernel) (by decide) la2 (by decide) (fun q57 => ?_) (fun q58 => ?_)
    · have q57 : 2147483659 < a2 := q57
      refine x_const (np := 15) (x := 9223372039002259456) (a := 2147483648) (by decide +kernel) (by decide) (by decide) ?_
      refine x_retI (np := 16) (x := 0) (by decide +kernel) (by decide) (Or.inr ⟨by decide +kernel, by first | decide | omega, by first | decide | omega⟩) ⟨_, rfl, (by decide), ?_⟩
      refine x_ifz (k := 1) (tg := 14) (np := 10) (by decide +kernel) (by decide) (by decide) (fun q59 => ?_) (fun q60 => ?_)
      · have q59 : 2147483648 ≠ 2147483648 := q59
        exfalso; omega
      have q60 : ¬ (2147483648 ≠ 2147483648) := q60
      refine x_const (np := 11) (x := 9223372043297226753) (a := 2147483649) (by decide +kernel) (by decide) (by decide) ?_
      refine x_goto (np := 14) (x := 15) (by decide +kernel) ?_
      refine x_retI (np := 16) (x := 0) (by decide +kernel) (by decide) (Or.inr ⟨by decide +kernel, by first | decide | omega, by first | decide | omega⟩) ⟨_, rfl, (by decide), ?_⟩
      refine x_ifz (k := 0) (tg := 25) (np := 21) (by decide +kernel) (by decide) (by decide) (fun q61 => ?_) (fun q62 => ?_)
      · have q61 : 2147483649 = 2147483648 := q61
        exfalso; omega
      have q62 : ¬ (2147483649 = 2147483648) := q62
      refine x_const (np := 22) (x := 9223372043297226753) (a := 2147483649) (by decide +kernel) (by decide) (by decide) ?_
      refine x_goto (np := 25) (x := 26) (by decide +kernel) ?_
      refine x_const (np := 27) (x := 9223372043297226753) (a := 2147483649) (by decide +kernel) (by decide) (by decide) ?_
      refine x_nI (t := 6) (mj := 152) (n := 3) (rc := 12) (ml := 3) (nr := 0) (np := 30) (as := [x_r 75, iv_c 2147483649, iv_c 2147483649]) (rest := []) (lo1 := [x_r 75, iv_c 2147483649, iv_c 2147483649]) (by decide +kernel) (by decide) (by decide +kernel) (x_rb_of (by decide +kernel)) rfl rfl (x_wr (by decide) (x_wi (by decide) (x_wi (by decide) x_wn))) x_wn (by decide) rfl ?_
      refine x_iload (np := 1) (x := 1) (by decide +kernel) rfl (by decide) ?_
      refine x_ifz (k := 0) (tg := 9) (np := 4) (by decide +kernel) (by decide) (by decide) (fun q63 => ?_) (fun q64 => ?_)
      · have q63 : 2147483649 = 2147483648 := q63
        exfalso; omega
      have q64 : ¬ (2147483649 = 2147483648) := q64
      refine x_aload (np := 5) (x := 0) (by decide +kernel) rfl (x_nc_le (by decide)) ?_
      refine x_iload (np := 6) (x := 2) (by decide +kernel) rfl (by decide) ?_
      refine x_putI (np := 9) (x := 704) (f := 0) (by decide +kernel) (by decide +kernel) (by decide) (Or.inl (by decide)) ?_
      have j66 := jU (e := 0) (v := 2147483649) 0 j2 rg_75_0_0_1 (by first | decide | omega) (by first | decide | omega) (by first | decide | omega)
      have f68 := jF (e := 0) (v := 2147483649) 0 f4 rg_75_0_0_1 (by first | decide | omega) (by first | decide | omega) (by decide)
      generalize e67 : x_up h1 75 0 2147483649 = h65 at j66 f68 ⊢
      refine x_iload (np := 10) (x := 1) (by decide +kernel) rfl (by decide) ?_
      refine x_retI (np := 11) (x := 0) (by decide +kernel) (by decide) (Or.inr ⟨by decide +kernel, by first | decide | omega, by first | decide | omega⟩) ⟨_, rfl, (by decide), ?_⟩
      refine x_ifz (k := 0) (tg := 35) (np := 33) (by decide +kernel) (by decide) (by decide) (fun q69 => ?_) (fun q70 => ?_)
      · have q69 : 2147483649 = 2147483648 := q69
        exfalso; omega
      have q70 : ¬ (2147483649 = 2147483648) := q70
      refine x_const (np := 34) (x := 9223372039002259456) (a := 2147483648) (by decide +kernel) (by decide) (by decide) ?_
      refine x_retI (np := 35) (x := 0) (by decide +kernel) (by decide) (Or.inl (by decide +kernel)) ⟨_, rfl, (by decide), ?_⟩
      exact ⟨j66, f68, (by first | decide | omega)⟩
    have q58 : ¬ (2147483659 < a2) := q58
    refine x_const (np := 11) (x := 9223372043297226753) (a := 2147483649) (by decide +kernel) (by decide) (by decide) ?_
    refine x_goto (np := 14) (x := 15) (by decide +kernel) ?_
    refine x_retI (np := 16) (x := 0) (by decide +kernel) (by decide) (Or.inr ⟨by decide +kernel, by first | decide | omega, by first | decide | omega⟩) ⟨_, rfl, (by decide), ?_⟩
    refine x_ifz (k := 1) (tg := 14) (np := 10) (by decide +kernel) (by decide) (by decide) (fun q71 => ?_) (fun q72 => ?_)
    · have q71 : 2147483649 ≠ 2147483648 := q71
      refine x_const (np := 15) (x := 9223372039002259456) (a := 2147483648) (by decide +kernel) (by decide) (by decide) ?_
      refine x_retI (np := 16) (x := 0) (by decide +kernel) (by decide) (Or.inr ⟨by decide +kernel, by first | decide | omega, by first | decide | omega⟩) ⟨_, rfl, (by decide), ?_⟩
      refine x_ifz (k := 0) (tg := 25) (np := 21) (by decide +kernel) (by decide) (by decide) (fun q73 => ?_) (fun q74 => ?_)
      · have q73 : 2147483648 = 2147483648 := q73
        refine x_const (np := 26) (x := 9223372039002259456) (a := 2147483648) (by decide +kernel) (by decide) (by decide) ?_
        refine x_const (np := 27) (x := 9223372043297226753) (a := 2147483649) (by decide +kernel) (by decide) (by decide) ?_
        refine x_nI (t := 6) (mj := 152) (n := 3) (rc := 12) (ml := 3) (nr := 0) (np := 30) (as := [x_r 75, iv_c 2147483648, iv_c 2147483649]) (rest := []) (lo1 := [x_r 75, iv_c 2147483648, iv_c 2147483649]) (by decide +kernel) (by decide) (by decide +kernel) (x_rb_of (by decide +kernel)) rfl rfl (x_wr (by decide) (x_wi (by decide) (x_wi (by decide) x_wn))) x_wn (by decide) rfl ?_
        refine x_iload (np := 1) (x := 1) (by decide +kernel) rfl (by decide) ?_
        refine x_ifz (k := 0) (tg := 9) (np := 4) (by decide +kernel) (by decide) (by decide) (fun q75 => ?_) (fun q76 => ?_)
        · have q75 : 2147483648 = 2147483648 := q75
          refine x_iload (np := 10) (x := 1) (by decide +kernel) rfl (by decide) ?_
          refine x_retI (np := 11) (x := 0) (by decide +kernel) (by decide) (Or.inr ⟨by decide +kernel, by first | decide | omega, by first | decide | omega⟩) ⟨_, rfl, (by decide), ?_⟩
          refine x_ifz (k := 0) (tg := 35) (np := 33) (by decide +kernel) (by decide) (by decide) (fun q77 => ?_) (fun q78 => ?_)
          · have q77 : 2147483648 = 2147483648 := q77
            refine x_aload (np := 36) (x := 0) (by decide +kernel) rfl (x_nc_le (by decide)) ?_
            have m82 : WT 76 h1 := by rw [← e3]; exact WT.oth hW hJ (by decide)
            refine x_cV (t := 6) (mj := 210) (n := 1) (rc := 12) (ml := 5) (nr := 0) (np := 39) (as := [x_r 75]) (rest := []) (lo1 := [x_r 75, 147573952589676412928, 147573952589676412928, 147573952589676412928, 147573952589676412928]) (by decide +kernel) (by decide) (by decide +kernel) (x_rb_of (by decide +kernel)) rfl rfl (x_wr (by decide) x_wn) x_wn (by decide) rfl (c210_75 j2  m82) (fun h83 q81 => ?_)
            obtain ⟨j84, f85⟩ := q81
            have f88 := Fr.trans f4 f85 (by decide)
            refine x_aload (np := 40) (x := 0) (by decide +kernel) rfl (x_nc_le (by decide)) ?_
            refine x_iload (np := 41) (x := 1) (by decide +kernel) rfl la1 ?_
            refine x_iload (np := 42) (x := 2) (by decide +kernel) rfl la2 ?_
            refine x_cP (t := 6) (mj := 213) (n := 3) (rc := 12) (ml := 5) (nr := 0) (np := 45) (as := [x_r 75, iv_c a1, iv_c a2]) (rest := []) (lo1 := [x_r 75, iv_c a1, iv_c a2, 147573952589676412928, 147573952589676412928]) (by decide +kernel) (by decide) (by decide +kernel) (x_rb_of (by decide +kernel)) rfl rfl (x_wr (by decide) (x_wi la1 (x_wi la2 x_wn))) x_wn (by decide) rfl (c213_75 j84  (by first | decide | omega) (by first | decide | omega)) (fun v89 l90 q91 => ?_)
            refine x_retI (np := 46) (x := 0) (by decide +kernel) l90 (Or.inl (by decide +kernel)) ⟨_, rfl, l90, ?_⟩
            exact ⟨j84, f88, (by first | decide | omega)⟩
          have q78 : ¬ (2147483648 = 2147483648) := q78
          exfalso; omega
        have q76 : ¬ (2147483648 = 2147483648) := q76
        exfalso; omega
      have q74 : ¬ (2147483648 = 2147483648) := q74
      exfalso; omega
    have q72 : ¬ (2147483649 ≠ 2147483648) := q72
    exfalso; omega
  have q40 : ¬ (2147483649 ≠ 2147483648) := q40
  exfalso; omega
set_option maxHeartbeats 0 in
/-- LentNamesModel.how(II)I -/
theorem c215_75 {sc : Nat × Nat} {d a1 a2 : Nat} {h : xh} (hJ : J h) (ba1 : 0 ≤ a1 ∧ a1 ≤ 4294967295) (ba2 : 0 ≤ a2 ∧ a2 ≤ 4294967295) (hW : WT 76 h) : X sc 215 (d + 5) (xI fun r h' => J h' ∧ Fr 135291600897 h h' ∧ (2147483648 ≤ r ∧ r ≤ 2147483651)) 0 0 0 [x_r 75, iv_c a1, iv_c a2, 147573952589676412928, 147573952589676412928, 147573952589676412928] [] h := by
  have la1 : a1 < 4294967296 := by first | decide | omega
  have la2 : a2 < 4294967296 := by first | decide | omega
  have hF := Fr.refl 135291600897 h
  refine x_aload (np := 1) (x := 0) (by decide +kernel) rfl (x_nc_le (by decide)) ?_
  refine x_const (np := 2) (x := 9223372039002259456) (a := 2147483648) (by decide +kernel) (by decide) (by decide) ?_
  refine x_putI (np := 5) (x := 704) (f := 0) (by decide +kernel) (by decide +kernel) (by decide) (Or.inl (by decide)) ?_
  have j2 := jU (e := 0) (v := 2147483648) 0 hJ rg_75_0_0_1 (by first | decide | omega) (by first | decide | omega) (by first | decide | omega)
  have f4 := jF (e := 0) (v := 2147483648) 0 hF rg_75_0_0_1 (by first | decide | omega) (by first | decide | omega) (by decide)
  generalize e3 : x_up h 75 0 2147483648 = h1 at j2 f4 ⊢
  refine x_aload (np := 6) (x := 0) (by decide +kernel) rfl (x_nc_le (by decide)) ?_
  refine x_aload (np := 7) (x := 0) (by decide +kernel) rfl (x_nc_le (by decide)) ?_
  refine x_iload (np := 8) (x := 1) (by decide +kernel) rfl la1 ?_
  refine x_nI (t := 6) (mj := 159) (n := 2) (rc := 12) (ml := 2) (nr := 1) (np := 11) (as := [x_r 75, iv_c a1]) (rest := [x_r 75]) (lo1 := [x_r 75, iv_c a1]) (by decide +kernel) (by decide) (by decide +kernel) (x_rb_of (by decide +kernel)) rfl rfl (x_wr (by decide) (x_wi la1 x_wn)) (x_wr (by decide) x_wn) (by decide) rfl ?_
  refine x_aload (np := 1) (x := 0) (by decide +kernel) rfl (x_nc_le (by decide)) ?_
  refine x_iload (np := 2) (x := 1) (by decide +kernel) rfl la1 ?_
  refine x_const (np := 3) (x := 9223372039002259456) (a := 2147483648) (by decide +kernel) (by decide) (by decide) ?_
  refine x_nI (t := 6) (mj := 158) (n := 3) (rc := 12) (ml := 3) (nr := 0) (np := 6) (as := [x_r 75, iv_c a1, iv_c 2147483648]) (rest := []) (lo1 := [x_r 75, iv_c a1, iv_c 2147483648]) (by decide +kernel) (by decide) (by decide +kernel) (x_rb_of (by decide +kernel)) rfl rfl (x_wr (by decide) (x_wi la1 (x_wi (by decide) x_wn))) x_wn (by decide) rfl ?_
  refine x_iload (np := 1) (x := 1) (by decide +kernel) rfl la1 ?_
  refine x_const (np := 2) (x := 9223372039002259456) (a := 2147483648) (by decide +kernel) (by decide) (by decide) ?_
  refine x_aload (np := 3) (x := 0) (by decide +kernel) rfl (x_nc_le (by decide)) ?_
  have q5 : h1 75 1 = 76 := by have z := jB (e := 1) 0 j2 rg_75_1_0_1 (by decide) (by decide); omega
  refine x_getR (np := 6) (x := 705) (f := 1) (q := 76) (by decide +kernel) (by decide) (by decide +kernel) q5 ?_
  refine x_iload (np := 7) (x := 2) (by decide +kernel) rfl (by decide) ?_
  have q6 : h1 76 0 = h 76 0 := by rw [← e3]; exact x_up_k (by decide)
  have b7 := jB (e := 0) 0 hJ rg_76_0_0_1 (by first | decide | omega) (by first | decide | omega)
  refine x_aldC (np := 8) (x := 0) (n := 1952) (i := 0) (q := (h 76 0)) (by decide +kernel) (by decide +kernel) (by first | decide | omega) (by first | decide | omega) (by decide) q6 (fun l8 => ?_)
  refine x_const (np := 9) (x := 9223372043297226753) (a := 2147483649) (by decide +kernel) (by decide) (by decide) ?_
  obtain ⟨v9, q10⟩ : ∃ z, z + 2147483649 = (h 76 0) + 2147483648 := ⟨(h 76 0) + 2147483648 - 2147483649, by first | decide | omega⟩
  refine x_isub (np := 10) (x := 0) (v := v9) (by decide +kernel) l8 (by decide) (by first | decide | omega) (by first | decide | omega) ?_
  refine x_nI (t := 0) (mj := 153) (n := 3) (rc := 0) (ml := 3) (nr := 0) (np := 13) (as := [iv_c a1, iv_c 2147483648, iv_c v9]) (rest := []) (lo1 := [iv_c a1, iv_c 2147483648, iv_c v9]) (by decide +kernel) (by decide) (by decide +kernel) (Or.inl rfl) rfl rfl (x_wi la1 (x_wi (by decide) (x_wi (by first | decide | omega) x_wn))) x_wn (by decide) rfl ?_
  refine x_iload (np := 1) (x := 0) (by decide +kernel) rfl la1 ?_
  refine x_iload (np := 2) (x := 1) (by decide +kernel) rfl (by decide) ?_
  refine x_icmp (k := 2) (tg := 14) (np := 5) (by decide +kernel) (by decide) la1 (by decide) (fun q11 => ?_) (fun q12 => ?_)
  · have q11 : a1 < 2147483648 := q11
    refine x_const (np := 15) (x := 9223372039002259456) (a := 2147483648) (by decide +kernel) (by decide) (by decide) ?_
    refine x_retI (np := 16) (x := 0) (by decide +kernel) (by decide) (Or.inr ⟨by decide +kernel, by first | decide | omega, by first | decide | omega⟩) ⟨_, rfl, (by decide), ?_⟩
    refine x_ifz (k := 1) (tg := 20) (np := 16) (by decide +kernel) (by decide) (by decide) (fun q13 => ?_) (fun q14 => ?_)
    · have q13 : 2147483648 ≠ 2147483648 := q13
      exfalso; omega
    have q14 : ¬ (2147483648 ≠ 2147483648) := q14
    refine x_const (np := 17) (x := 9223372043297226753) (a := 2147483649) (by decide +kernel) (by decide) (by decide) ?_
    refine x_goto (np := 20) (x := 21) (by decide +kernel) ?_
    refine x_retI (np := 22) (x := 0) (by decide +kernel) (by decide) (Or.inr ⟨by decide +kernel, by first | decide | omega, by first | decide | omega⟩) ⟨_, rfl, (by decide), ?_⟩
    refine x_retI (np := 7) (x := 0) (by decide +kernel) (by decide) (Or.inr ⟨by decide +kernel, by first | decide | omega, by first | decide | omega⟩) ⟨_, rfl, (by decide), ?_⟩
    refine x_ifz (k := 1) (tg := 21) (np := 14) (by decide +kernel) (by decide) (by decide) (fun q15 => ?_) (fun q16 => ?_)
    · have q15 : 2147483649 ≠ 2147483648 := q15
      refine x_const (np := 22) (x := 9223372043297226753) (a := 2147483649) (by decide +kernel) (by decide) (by decide) ?_
      refine x_goto (np := 25) (x := 26) (by decide +kernel) ?_
      refine x_const (np := 27) (x := 9223372043297226753) (a := 2147483649) (by decide +kernel) (by decide) (by decide) ?_
      refine x_nI (t := 6) (mj := 152) (n := 3) (rc := 12) (ml := 3) (nr := 0) (np := 30) (as := [x_r 75, iv_c 2147483649, iv_c 2147483649]) (rest := []) (lo1 := [x_r 75, iv_c 2147483649, iv_c 2147483649]) (by decide +kernel) (by decide) (by decide +kernel) (x_rb_of (by decide +kernel)) rfl rfl (x_wr (by decide) (x_wi (by decide) (x_wi (by decide) x_wn))) x_wn (by decide) rfl ?_
      refine x_iload (np := 1) (x := 1) (by decide +kernel) rfl (by decide) ?_
      refine x_ifz (k := 0) (tg := 9) (np := 4) (by decide +kernel) (by decide) (by decide) (fun q17 => ?_) (fun q18 => ?_)
      · have q17 : 2147483649 = 2147483648 := q17
        exfalso; omega
      have q18 : ¬ (2147483649 = 2147483648) := q18
      refine x_aload (np := 5) (x := 0) (by decide +kernel) rfl (x_nc_le (by decide)) ?_
      refine x_iload (np := 6) (x := 2) (by decide +kernel) rfl (by decide) ?_
      refine x_putI (np := 9) (x := 704) (f := 0) (by decide +kernel) (by decide +kernel) (by decide) (Or.inl (by decide)) ?_
      have j20 := jU (e := 0) (v := 2147483649) 0 j2 rg_75_0_0_1 (by first | decide | omega) (by first | decide | omega) (by first | decide | omega)
      have f22 := jF (e := 0) (v := 2147483649) 0 f4 rg_75_0_0_1 (by first | decide | omega) (by first | decide | omega) (by decide)
      generalize e21 : x_up h1 75 0 2147483649 = h19 at j20 f22 ⊢
      refine x_iload (np := 10) (x := 1) (by decide +kernel) rfl (by decide) ?_
      refine x_retI (np := 11) (x := 0) (by decide +kernel) (by decide) (Or.inr ⟨by decide +kernel, by first | decide | omega, by first | decide | omega⟩) ⟨_, rfl, (by decide), ?_⟩
      refine x_ifz (k := 0) (tg := 35) (np := 33) (by decide +kernel) (by decide) (by decide) (fun q23 => ?_) (fun q24 => ?_)
      · have q23 : 2147483649 = 2147483648 := q23
        exfalso; omega
      have q24 : ¬ (2147483649 = 2147483648) := q24
      refine x_const (np := 34) (x := 9223372039002259456) (a := 2147483648) (by decide +kernel) (by decide) (by decide) ?_
      refine x_retI (np := 35) (x := 0) (by decide +kernel) (by decide) (Or.inl (by decide +kernel)) ⟨_, rfl, (by decide), ?_⟩
      exact ⟨j20, f22, (by first | decide | omega)⟩
    have q16 : ¬ (2147483649 ≠ 2147483648) := q16
    exfalso; omega
  have q12 : ¬ (a1 < 2147483648) := q12
  refine x_iload (np := 6) (x := 0) (by decide +kernel) rfl la1 ?_
  refine x_iload (np := 7) (x := 2) (by decide +kernel) rfl (by first | decide | omega) ?_
  refine x_icmp (k := 4) (tg := 14) (np := 10) (by decide +kernel) (by decide) la1 (by first | decide | omega) (fun q25 => ?_) (fun q26 => ?_)
  · have q25 : v9 < a1 := q25
    refine x_const (np := 15) (x := 9223372039002259456) (a := 2147483648) (by decide +kernel) (by decide) (by decide) ?_
    refine x_retI (np := 16) (x := 0) (by decide +kernel) (by decide) (Or.inr ⟨by decide +kernel, by first | decide | omega, by first | decide | omega⟩) ⟨_, rfl, (by decide), ?_⟩
    refine x_ifz (k := 1) (tg := 20) (np := 16) (by decide +kernel) (by decide) (by decide) (fun q27 => ?_) (fun q28 => ?_)
    · have q27 : 2147483648 ≠ 2147483648 := q27
      exfalso; omega
    have q28 : ¬ (2147483648 ≠ 2147483648) := q28
    refine x_const (np := 17) (x := 9223372043297226753) (a := 2147483649) (by decide +kernel) (by decide) (by decide) ?_
    refine x_goto (np := 20) (x := 21) (by decide +kernel) ?_
    refine x_retI (np := 22) (x := 0) (by decide +kernel) (by decide) (Or.inr ⟨by decide +kernel, by first | decide | omega, by first | decide | omega⟩) ⟨_, rfl, (by decide), ?_⟩
    refine x_retI (np := 7) (x := 0) (by decide +kernel) (by decide) (Or.inr ⟨by decide +kernel, by first | decide | omega, by first | decide | omega⟩) ⟨_, rfl, (by decide), ?_⟩
    refine x_ifz (k := 1) (tg := 21) (np := 14) (by decide +kernel) (by decide) (by decide) (fun q29 => ?_) (fun q30 => ?_)
    · have q29 : 2147483649 ≠ 2147483648 := q29
      refine x_const (np := 22) (x := 9223372043297226753) (a := 2147483649) (by decide +kernel) (by decide) (by decide) ?_
      refine x_goto (np := 25) (x := 26) (by decide +kernel) ?_
      refine x_const (np := 27) (x := 9223372043297226753) (a := 2147483649) (by decide +kernel) (by decide) (by decide) ?_
      refine x_nI (t := 6) (mj := 152) (n := 3) (rc := 12) (ml := 3) (nr := 0) (np := 30) (as := [x_r 75, iv_c 2147483649, iv_c 2147483649]) (rest := []) (lo1 := [x_r 75, iv_c 2147483649, iv_c 2147483649]) (by decide +kernel) (by decide) (by decide +kernel) (x_rb_of (by decide +kernel)) rfl rfl (x_wr (by decide) (x_wi (by decide) (x_wi (by decide) x_wn))) x_wn (by decide) rfl ?_
      refine x_iload (np := 1) (x := 1) (by decide +kernel) rfl (by decide) ?_
      refine x_ifz (k := 0) (tg := 9) (np := 4) (by decide +kernel) (by decide) (by decide) (fun q31 => ?_) (fun q32 => ?_)
      · have q31 : 2147483649 = 2147483648 := q31
        exfalso; omega
      have q32 : ¬ (2147483649 = 2147483648) := q32
      refine x_aload (np := 5) (x := 0) (by decide +kernel) rfl (x_nc_le (by decide)) ?_
      refine x_iload (np := 6) (x := 2) (by decide +kernel) rfl (by decide) ?_
      refine x_putI (np := 9) (x := 704) (f := 0) (by decide +kernel) (by decide +kernel) (by decide) (Or.inl (by decide)) ?_
      have j34 := jU (e := 0) (v := 2147483649) 0 j2 rg_75_0_0_1 (by first | decide | omega) (by first | decide | omega) (by first | decide | omega)
      have f36 := jF (e := 0) (v := 2147483649) 0 f4 rg_75_0_0_1 (by first | decide | omega) (by first | decide | omega) (by decide)
      generalize e35 : x_up h1 75 0 2147483649 = h33 at j34 f36 ⊢
      refine x_iload (np := 10) (x := 1) (by decide +kernel) rfl (by decide) ?_
      refine x_retI (np := 11) (x := 0) (by decide +kernel) (by decide) (Or.inr ⟨by decide +kernel, by first | decide | omega, by first | decide | omega⟩) ⟨_, rfl, (by decide), ?_⟩
      refine x_ifz (k := 0) (tg := 35) (np := 33) (by decide +kernel) (by decide) (by decide) (fun q37 => ?_) (fun q38 => ?_)
      · have q37 : 2147483649 = 2147483648 := q37
        exfalso; omega
      have q38 : ¬ (2147483649 = 2147483648) := q38
      refine x_const (np := 34) (x := 9223372039002259456) (a := 2147483648) (by decide +kernel) (by decide) (by decide) ?_
      refine x_retI (np := 35) (x := 0) (by decide +kernel) (by decide) (Or.inl (by decide +kernel)) ⟨_, rfl, (by decide), ?_⟩
      exact ⟨j34, f36, (by first | decide | omega)⟩
    have q30 : ¬ (2147483649 ≠ 2147483648) := q30
    exfalso; omega
  have q26 : ¬ (v9 < a1) := q26
  refine x_const (np := 11) (x := 9223372043297226753) (a := 2147483649) (by decide +kernel) (by decide) (by decide) ?_
  refine x_goto (np := 14) (x := 15) (by decide +kernel) ?_
  refine x_retI (np := 16) (x := 0) (by decide +kernel) (by decide) (Or.inr ⟨by decide +kernel, by first | decide | omega, by first | decide | omega⟩) ⟨_, rfl, (by decide), ?_⟩
  refine x_ifz (k := 1) (tg := 20) (np := 16) (by decide +kernel) (by decide) (by decide) (fun q39 => ?_) (fun q40 => ?_)
  · have q39 : 2147483649 ≠ 2147483648 := q39
    refine x_const (np := 21) (x := 9223372039002259456) (a := 2147483648) (by decide +kernel) (by decide) (by decide) ?_
    refine x_retI (np := 22) (x := 0) (by decide +kernel) (by decide) (Or.inr ⟨by decide +kernel, by first | decide | omega, by first | decide | omega⟩) ⟨_, rfl, (by decide), ?_⟩
    refine x_retI (np := 7) (x := 0) (by decide +kernel) (by decide) (Or.inr ⟨by decide +kernel, by first | decide | omega, by first | decide | omega⟩) ⟨_, rfl, (by decide), ?_⟩
    refine x_ifz (k := 1) (tg := 21) (np := 14) (by decide +kernel) (by decide) (by decide) (fun q41 => ?_) (fun q42 => ?_)
    · have q41 : 2147483648 ≠ 2147483648 := q41
      exfalso; omega
    have q42 : ¬ (2147483648 ≠ 2147483648) := q42
    refine x_iload (np := 15) (x := 2) (by decide +kernel) rfl la2 ?_
    refine x_nI (t := 0) (mj := 160) (n := 1) (rc := 0) (ml := 1) (nr := 1) (np := 18) (as := [iv_c a2]) (rest := [x_r 75]) (lo1 := [iv_c a2]) (by decide +kernel) (by decide) (by decide +kernel) (Or.inl rfl) rfl rfl (x_wi la2 x_wn) (x_wr (by decide) x_wn) (by decide) rfl ?_
    refine x_iload (np := 1) (x := 0) (by decide +kernel) rfl la2 ?_
    refine x_const (np := 2) (x := 9223372039002259456) (a := 2147483648) (by decide +kernel) (by decide) (by decide) ?_
    refine x_const (np := 4) (x := 9223372086246899723) (a := 2147483659) (by decide +kernel) (by decide) (by decide) ?_
    refine x_nI (t := 0) (mj := 153) (n := 3) (rc := 0) (ml := 3) (nr := 0) (np := 7) (as := [iv_c a2, iv_c 2147483648, iv_c 2147483659]) (rest := []) (lo1 := [iv_c a2, iv_c 2147483648, iv_c 2147483659]) (by decide +kernel) (by decide) (by decide +kernel) (Or.inl rfl) rfl rfl (x_wi la2 (x_wi (by decide) (x_wi (by decide) x_wn))) x_wn (by decide) rfl ?_
    refine x_iload (np := 1) (x := 0) (by decide +kernel) rfl la2 ?_
    refine x_iload (np := 2) (x := 1) (by decide +kernel) rfl (by decide) ?_
    refine x_icmp (k := 2) (tg := 14) (np := 5) (by decide +kernel) (by decide) la2 (by decide) (fun q43 => ?_) (fun q44 => ?_)
    · have q43 : a2 < 2147483648 := q43
      refine x_const (np := 15) (x := 9223372039002259456) (a := 2147483648) (by decide +kernel) (by decide) (by decide) ?_
      refine x_retI (np := 16) (x := 0) (by decide +kernel) (by decide) (Or.inr ⟨by decide +kernel, by first | decide | omega, by first | decide | omega⟩) ⟨_, rfl, (by decide), ?_⟩
      refine x_ifz (k := 1) (tg := 14) (np := 10) (by decide +kernel) (by decide) (by decide) (fun q45 => ?_) (fun q46 => ?_)
      · have q45 : 2147483648 ≠ 2147483648 := q45
        exfalso; omega
      have q46 : ¬ (2147483648 ≠ 2147483648) := q46
      refine x_const (np := 11) (x := 9223372043297226753) (a := 2147483649) (by decide +kernel) (by decide) (by decide) ?_
      refine x_goto (np := 14) (x := 15) (by decide +kernel) ?_
      refine x_retI (np := 16) (x := 0) (by decide +kernel) (by decide) (Or.inr ⟨by decide +kernel, by first | decide | omega, by first | decide | omega⟩) ⟨_, rfl, (by decide), ?_⟩
      refine x_ifz (k := 0) (tg := 25) (np := 21) (by decide +kernel) (by decide) (by decide) (fun q47 => ?_) (fun q48 => ?_)
      · have q47 : 2147483649 = 2147483648 := q47
        exfalso; omega
      have q48 : ¬ (2147483649 = 2147483648) := q48
      refine x_const (np := 22) (x := 9223372043297226753) (a := 2147483649) (by decide +kernel) (by decide) (by decide) ?_
      refine x_goto (np := 25) (x := 26) (by decide +kernel) ?_
      refine x_const (np := 27) (x := 9223372043297226753) (a := 2147483649) (by decide +kernel) (by decide) (by decide) ?_
      refine x_nI (t := 6) (mj := 152) (n := 3) (rc := 12) (ml := 3) (nr := 0) (np := 30) (as := [x_r 75, iv_c 2147483649, iv_c 2147483649]) (rest := []) (lo1 := [x_r 75, iv_c 2147483649, iv_c 2147483649]) (by decide +kernel) (by decide) (by decide +kernel) (x_rb_of (by decide +kernel)) rfl rfl (x_wr (by decide) (x_wi (by decide) (x_wi (by decide) x_wn))) x_wn (by decide) rfl ?_
      refine x_iload (np := 1) (x := 1) (by decide +kernel) rfl (by decide) ?_
      refine x_ifz (k := 0) (tg := 9) (np := 4) (by decide +kernel) (by decide) (by decide) (fun q49 => ?_) (fun q50 => ?_)
      · have q49 : 2147483649 = 2147483648 := q49
        exfalso; omega
      have q50 : ¬ (2147483649 = 2147483648) := q50
      refine x_aload (np := 5) (x := 0) (by decide +kernel) rfl (x_nc_le (by decide)) ?_
      refine x_iload (np := 6) (x := 2) (by decide +kernel) rfl (by decide) ?_
      refine x_putI (np := 9) (x := 704) (f := 0) (by decide +kernel) (by decide +kernel) (by decide) (Or.inl (by decide)) ?_
      have j52 := jU (e := 0) (v := 2147483649) 0 j2 rg_75_0_0_1 (by first | decide | omega) (by first | decide | omega) (by first | decide | omega)
      have f54 := jF (e := 0) (v := 2147483649) 0 f4 rg_75_0_0_1 (by first | decide | omega) (by first | decide | omega) (by decide)
      generalize e53 : x_up h1 75 0 2147483649 = h51 at j52 f54 ⊢
      refine x_iload (np := 10) (x := 1) (by decide +kernel) rfl (by decide) ?_
      refine x_retI (np := 11) (x := 0) (by decide +kernel) (by decide) (Or.inr ⟨by decide +kernel, by first | decide | omega, by first | decide | omega⟩) ⟨_, rfl, (by decide), ?_⟩
      refine x_ifz (k := 0) (tg := 35) (np := 33) (by decide +kernel) (by decide) (by decide) (fun q55 => ?_) (fun q56 => ?_)
      · have q55 : 2147483649 = 2147483648 := q55
        exfalso; omega
      have q56 : ¬ (2147483649 = 2147483648) := q56
      refine x_const (np := 34) (x := 9223372039002259456) (a := 2147483648) (by decide +kernel) (by decide) (by decide) ?_
      refine x_retI (np := 35) (x := 0) (by decide +kernel) (by decide) (Or.inl (by decide +kernel)) ⟨_, rfl, (by decide), ?_⟩
      exact ⟨j52, f54, (by first | decide | omega)⟩
    have q44 : ¬ (a2 < 2147483648) := q44
    refine x_iload (np := 6) (x := 0) (by decide +kernel) rfl la2 ?_
    refine x_iload (np := 7) (x := 2) (by decide +kernel) rfl (by decide) ?_
    refine x_icmp (k := 4) (tg := 14) (np := 10) (by decide +kernel) (by decide) la2 (by decide) (fun q57 => ?_) (fun q58 => ?_)
    · have q57 : 2147483659 < a2 := q57
      refine x_const (np := 15) (x := 9223372039002259456) (a := 2147483648) (by decide +kernel) (by decide) (by decide) ?_
      refine x_retI (np := 16) (x := 0) (by decide +kernel) (by decide) (Or.inr ⟨by decide +kernel, by first | decide | omega, by first | decide | omega⟩) ⟨_, rfl, (by decide), ?_⟩
      refine x_ifz (k := 1) (tg := 14) (np := 10) (by decide +kernel) (by decide) (by decide) (fun q59 => ?_) (fun q60 => ?_)
      · have q59 : 2147483648 ≠ 2147483648 := q59
        exfalso; omega
      have q60 : ¬ (2147483648 ≠ 2147483648) := q60
      refine x_const (np := 11) (x := 9223372043297226753) (a := 2147483649) (by decide +kernel) (by decide) (by decide) ?_
      refine x_goto (np := 14) (x := 15) (by decide +kernel) ?_
      refine x_retI (np := 16) (x := 0) (by decide +kernel) (by decide) (Or.inr ⟨by decide +kernel, by first | decide | omega, by first | decide | omega⟩) ⟨_, rfl, (by decide), ?_⟩
      refine x_ifz (k := 0) (tg := 25) (np := 21) (by decide +kernel) (by decide) (by decide) (fun q61 => ?_) (fun q62 => ?_)
      · have q61 : 2147483649 = 2147483648 := q61
        exfalso; omega
      have q62 : ¬ (2147483649 = 2147483648) := q62
      refine x_const (np := 22) (x := 9223372043297226753) (a := 2147483649) (by decide +kernel) (by decide) (by decide) ?_
      refine x_goto (np := 25) (x := 26) (by decide +kernel) ?_
      refine x_const (np := 27) (x := 9223372043297226753) (a := 2147483649) (by decide +kernel) (by decide) (by decide) ?_
      refine x_nI (t := 6) (mj := 152) (n := 3) (rc := 12) (ml := 3) (nr := 0) (np := 30) (as := [x_r 75, iv_c 2147483649, iv_c 2147483649]) (rest := []) (lo1 := [x_r 75, iv_c 2147483649, iv_c 2147483649]) (by decide +kernel) (by decide) (by decide +kernel) (x_rb_of (by decide +kernel)) rfl rfl (x_wr (by decide) (x_wi (by decide) (x_wi (by decide) x_wn))) x_wn (by decide) rfl ?_
      refine x_iload (np := 1) (x := 1) (by decide +kernel) rfl (by decide) ?_
      refine x_ifz (k := 0) (tg := 9) (np := 4) (by decide +kernel) (by decide) (by decide) (fun q63 => ?_) (fun q64 => ?_)
      · have q63 : 2147483649 = 2147483648 := q63
        exfalso; omega
      have q64 : ¬ (2147483649 = 2147483648) := q64
      refine x_aload (np := 5) (x := 0) (by decide +kernel) rfl (x_nc_le (by decide)) ?_
      refine x_iload (np := 6) (x := 2) (by decide +kernel) rfl (by decide) ?_
      refine x_putI (np := 9) (x := 704) (f := 0) (by decide +kernel) (by decide +kernel) (by decide) (Or.inl (by decide)) ?_
      have j66 := jU (e := 0) (v := 2147483649) 0 j2 rg_75_0_0_1 (by first | decide | omega) (by first | decide | omega) (by first | decide | omega)
      have f68 := jF (e := 0) (v := 2147483649) 0 f4 rg_75_0_0_1 (by first | decide | omega) (by first | decide | omega) (by decide)
      generalize e67 : x_up h1 75 0 2147483649 = h65 at j66 f68 ⊢
      refine x_iload (np := 10) (x := 1) (by decide +kernel) rfl (by decide) ?_
      refine x_retI (np := 11) (x := 0) (by decide +kernel) (by decide) (Or.inr ⟨by decide +kernel, by first | decide | omega, by first | decide | omega⟩) ⟨_, rfl, (by decide), ?_⟩
      refine x_ifz (k := 0) (tg := 35) (np := 33) (by decide +kernel) (by decide) (by decide) (fun q69 => ?_) (fun q70 => ?_)
      · have q69 : 2147483649 = 2147483648 := q69
        exfalso; omega
      have q70 : ¬ (2147483649 = 2147483648) := q70
      refine x_const (np := 34) (x := 9223372039002259456) (a := 2147483648) (by decide +kernel) (by decide) (by decide) ?_
      refine x_retI (np := 35) (x := 0) (by decide +kernel) (by decide) (Or.inl (by decide +kernel)) ⟨_, rfl, (by decide), ?_⟩
      exact ⟨j66, f68, (by first | decide | omega)⟩
    have q58 : ¬ (2147483659 < a2) := q58
    refine x_const (np := 11) (x := 9223372043297226753) (a := 2147483649) (by decide +kernel) (by decide) (by decide) ?_
    refine x_goto (np := 14) (x := 15) (by decide +kernel) ?_
    refine x_retI (np := 16) (x := 0) (by decide +kernel) (by decide) (Or.inr ⟨by decide +kernel, by first | decide | omega, by first | decide | omega⟩) ⟨_, rfl, (by decide), ?_⟩
    refine x_ifz (k := 1) (tg := 14) (np := 10) (by decide +kernel) (by decide) (by decide) (fun q71 => ?_) (fun q72 => ?_)
    · have q71 : 2147483649 ≠ 2147483648 := q71
      refine x_const (np := 15) (x := 9223372039002259456) (a := 2147483648) (by decide +kernel) (by decide) (by decide) ?_
      refine x_retI (np := 16) (x := 0) (by decide +kernel) (by decide) (Or.inr ⟨by decide +kernel, by first | decide | omega, by first | decide | omega⟩) ⟨_, rfl, (by decide), ?_⟩
      refine x_ifz (k := 0) (tg := 25) (np := 21) (by decide +kernel) (by decide) (by decide) (fun q73 => ?_) (fun q74 => ?_)
      · have q73 : 2147483648 = 2147483648 := q73
        refine x_const (np := 26) (x := 9223372039002259456) (a := 2147483648) (by decide +kernel) (by decide) (by decide) ?_
        refine x_const (np := 27) (x := 9223372043297226753) (a := 2147483649) (by decide +kernel) (by decide) (by decide) ?_
        refine x_nI (t := 6) (mj := 152) (n := 3) (rc := 12) (ml := 3) (nr := 0) (np := 30) (as := [x_r 75, iv_c 2147483648, iv_c 2147483649]) (rest := []) (lo1 := [x_r 75, iv_c 2147483648, iv_c 2147483649]) (by decide +kernel) (by decide) (by decide +kernel) (x_rb_of (by decide +kernel)) rfl rfl (x_wr (by decide) (x_wi (by decide) (x_wi (by decide) x_wn))) x_wn (by decide) rfl ?_
        refine x_iload (np := 1) (x := 1) (by decide +kernel) rfl (by decide) ?_
        refine x_ifz (k := 0) (tg := 9) (np := 4) (by decide +kernel) (by decide) (by decide) (fun q75 => ?_) (fun q76 => ?_)
        · have q75 : 2147483648 = 2147483648 := q75
          refine x_iload (np := 10) (x := 1) (by decide +kernel) rfl (by decide) ?_
          refine x_retI (np := 11) (x := 0) (by decide +kernel) (by decide) (Or.inr ⟨by decide +kernel, by first | decide | omega, by first | decide | omega⟩) ⟨_, rfl, (by decide), ?_⟩
          refine x_ifz (k := 0) (tg := 35) (np := 33) (by decide +kernel) (by decide) (by decide) (fun q77 => ?_) (fun q78 => ?_)
          · have q77 : 2147483648 = 2147483648 := q77
            refine x_aload (np := 36) (x := 0) (by decide +kernel) rfl (x_nc_le (by decide)) ?_
            have m82 : WT 76 h1 := by rw [← e3]; exact WT.oth hW hJ (by decide)
            refine x_cV (t := 6) (mj := 210) (n := 1) (rc := 12) (ml := 5) (nr := 0) (np := 39) (as := [x_r 75]) (rest := []) (lo1 := [x_r 75, 147573952589676412928, 147573952589676412928, 147573952589676412928, 147573952589676412928]) (by decide +kernel) (by decide) (by decide +kernel) (x_rb_of (by decide +kernel)) rfl rfl (x_wr (by decide) x_wn) x_wn (by decide) rfl (c210_75 j2  m82) (fun h83 q81 => ?_)
            obtain ⟨j84, f85⟩ := q81
            have f88 := Fr.trans f4 f85 (by decide)
            refine x_const (np := 41) (x := 9223372090541867020) (a := 2147483660) (by decide +kernel) (by decide) (by decide) ?_
            refine x_iload (np := 42) (x := 1) (by decide +kernel) rfl la1 ?_
            obtain ⟨u89, q90⟩ : ∃ z, a1 = 2147483648 + z := ⟨a1 - 2147483648, by first | decide | omega⟩
            refine x_imul (np := 43) (x := 0) (i := 12) (j := u89) (v := (2147483648 + 12 * u89)) (by decide +kernel) (by first | decide | omega) (by first | decide | omega) (by first | decide | omega) (by first | decide | omega) (by decide) la1 ?_
            refine x_iload (np := 44) (x := 2) (by decide +kernel) rfl la2 ?_
            refine x_iadd (np := 45) (x := 0) (v := (12 * u89 + a2)) (by decide +kernel) (by first | decide | omega) la2 (by first | decide | omega) (by first | decide | omega) ?_
            refine x_istore (np := 46) (x := 3) (lo' := [x_r 75, iv_c a1, iv_c a2, iv_c (12 * u89 + a2), 147573952589676412928, 147573952589676412928]) (by decide +kernel) (by first | decide | omega) (Nat.le_of_ble_eq_true rfl) rfl ?_
            refine x_aload (np := 47) (x := 0) (by decide +kernel) rfl (x_nc_le (by decide)) ?_
            have q92 : h83 75 20 = 87 := by have z := jB (e := 20) 0 j84 rg_75_20_0_1 (by decide) (by decide); omega
            refine x_getR (np := 50) (x := 724) (f := 20) (q := 87) (by decide +kernel) (by decide) (by decide +kernel) q92 ?_
            refine x_iload (np := 51) (x := 3) (by decide +kernel) rfl (by first | decide | omega) ?_
            obtain ⟨u93, q94⟩ : ∃ z, a2 = 2147483648 + z := ⟨a2 - 2147483648, by first | decide | omega⟩
            have b95 := jB (e := (12 * u89 + u93)) (12 * u89 + u93) j84 rg_87_0_1_72 (by first | decide | omega) (by first | decide | omega)
            refine x_aldC (np := 52) (x := 0) (n := 72) (i := (12 * u89 + u93)) (q := ((h83 87 (12 * u89 + u93)))) (by decide +kernel) (by decide +kernel) (by first | decide | omega) (by first | decide | omega) (by decide) rfl (fun l96 => ?_)
            refine x_ifz (k := 3) (tg := 57) (np := 55) (by decide +kernel) (by decide) l96 (fun q97 => ?_) (fun q98 => ?_)
            · have q97 : 2147483648 ≤ ((h83 87 (12 * u89 + u93))) := q97
              refine x_const (np := 58) (x := 9223372043297226753) (a := 2147483649) (by decide +kernel) (by decide) (by decide) ?_
              refine x_istore (np := 60) (x := 4) (lo' := [x_r 75, iv_c a1, iv_c a2, iv_c (12 * u89 + a2), iv_c 2147483649, 147573952589676412928]) (by decide +kernel) (by decide) (Nat.le_of_ble_eq_true rfl) rfl ?_
              refine x_const (np := 61) (x := 9223372039002259456) (a := 2147483648) (by decide +kernel) (by decide) (by decide) ?_
              refine x_istore (np := 63) (x := 5) (lo' := [x_r 75, iv_c a1, iv_c a2, iv_c (12 * u89 + a2), iv_c 2147483649, iv_c 2147483648]) (by decide +kernel) (by decide) (Nat.le_of_ble_eq_true rfl) rfl ?_
              have p433 : ∀ (n : Nat) (v429 : Nat) (v431 : Nat), 4294967296 - v431 < n → (2147483648 ≤ v429 ∧ v429 ≤ 2147483649) → (2147483648 ≤ v431 ∧ v431 ≤ 2147483668) → X sc 215 (d + 5) (xI fun r h' => J h' ∧ Fr 135291600897 h h' ∧ (2147483648 ≤ r ∧ r ≤ 2147483651)) 0 0 63 [x_r 75, iv_c a1, iv_c a2, iv_c (12 * u89 + a2), iv_c v429, iv_c v431] [] h83 := by
                intro n
                induction n with
                | zero => intro v429 v431 q434; exact absurd q434 (Nat.not_lt_zero _)
                | succ n i435 =>
                  intro v429 v431 q434 b430 b432
                  refine x_iload (np := 65) (x := 5) (by decide +kernel) rfl (by first | decide | omega) ?_
                  refine x_aload (np := 66) (x := 0) (by decide +kernel) rfl (x_nc_le (by decide)) ?_
                  have q436 : h83 75 18 = 85 := by have z := jB (e := 18) 0 j84 rg_75_18_0_1 (by decide) (by decide); omega
                  refine x_getR (np := 69) (x := 722) (f := 18) (q := 85) (by decide +kernel) (by decide) (by decide +kernel) q436 ?_
                  refine x_iload (np := 70) (x := 3) (by decide +kernel) rfl (by first | decide | omega) ?_
                  have b437 := jB (e := (12 * u89 + u93)) (12 * u89 + u93) j84 rg_85_0_1_72 (by first | decide | omega) (by first | decide | omega)
                  refine x_aldC (np := 71) (x := 0) (n := 72) (i := (12 * u89 + u93)) (q := ((h83 85 (12 * u89 + u93)))) (by decide +kernel) (by decide +kernel) (by first | decide | omega) (by first | decide | omega) (by decide) rfl (fun l438 => ?_)
                  refine x_icmp (k := 3) (tg := 112) (np := 74) (by decide +kernel) (by decide) (by first | decide | omega) l438 (fun q439 => ?_) (fun q440 => ?_)
                  · have q439 : ((h83 85 (12 * u89 + u93))) ≤ v431 := q439
                    refine x_iload (np := 114) (x := 4) (by decide +kernel) rfl (by first | decide | omega) ?_
                    refine x_ifz (k := 1) (tg := 121) (np := 117) (by decide +kernel) (by decide) (by first | decide | omega) (fun q441 => ?_) (fun q442 => ?_)
                    · have q441 : v429 ≠ 2147483648 := q441
                      refine x_aload (np := 122) (x := 0) (by decide +kernel) rfl (x_nc_le (by decide)) ?_
                      have q443 : h83 75 18 = 85 := by have z := jB (e := 18) 0 j84 rg_75_18_0_1 (by decide) (by decide); omega
                      refine x_getR (np := 125) (x := 722) (f := 18) (q := 85) (by decide +kernel) (by decide) (by decide +kernel) q443 ?_
                      refine x_iload (np := 126) (x := 3) (by decide +kernel) rfl (by first | decide | omega) ?_
                      refine x_aldC (np := 127) (x := 0) (n := 72) (i := (12 * u89 + u93)) (q := ((h83 85 (12 * u89 + u93)))) (by decide +kernel) (by decide +kernel) (by first | decide | omega) (by first | decide | omega) (by decide) rfl (fun l444 => ?_)
                      refine x_ifz (k := 5) (tg := 134) (np := 130) (by decide +kernel) (by decide) l438 (fun q445 => ?_) (fun q446 => ?_)
                      · have q445 : ((h83 85 (12 * u89 + u93))) ≤ 2147483648 := q445
                        refine x_const (np := 135) (x := 9223372039002259456) (a := 2147483648) (by decide +kernel) (by decide) (by decide) ?_
                        refine x_retI (np := 136) (x := 0) (by decide +kernel) (by decide) (Or.inl (by decide +kernel)) ⟨_, rfl, (by decide), ?_⟩
                        exact ⟨j84, f88, (by first | decide | omega)⟩
                      have q446 : ¬ (((h83 85 (12 * u89 + u93))) ≤ 2147483648) := q446
                      refine x_const (np := 131) (x := 9223372043297226753) (a := 2147483649) (by decide +kernel) (by decide) (by decide) ?_
                      refine x_goto (np := 134) (x := 135) (by decide +kernel) ?_
                      refine x_retI (np := 136) (x := 0) (by decide +kernel) (by decide) (Or.inl (by decide +kernel)) ⟨_, rfl, (by decide), ?_⟩
                      exact ⟨j84, f88, (by first | decide | omega)⟩
                    have q442 : ¬ (v429 ≠ 2147483648) := q442
                    refine x_const (np := 118) (x := 9223372047592194050) (a := 2147483650) (by decide +kernel) (by decide) (by decide) ?_
                    refine x_goto (np := 121) (x := 135) (by decide +kernel) ?_
                    refine x_retI (np := 136) (x := 0) (by decide +kernel) (by decide) (Or.inl (by decide +kernel)) ⟨_, rfl, (by decide), ?_⟩
                    exact ⟨j84, f88, (by first | decide | omega)⟩
                  have q440 : ¬ (((h83 85 (12 * u89 + u93))) ≤ v431) := q440
                  refine x_iload (np := 76) (x := 4) (by decide +kernel) rfl (by first | decide | omega) ?_
                  refine x_ifz (k := 0) (tg := 103) (np := 79) (by decide +kernel) (by decide) (by first | decide | omega) (fun q447 => ?_) (fun q448 => ?_)
                  · have q447 : v429 = 2147483648 := q447
                    refine x_const (np := 104) (x := 9223372039002259456) (a := 2147483648) (by decide +kernel) (by decide) (by decide) ?_
                    refine x_istore (np := 106) (x := 4) (lo' := [x_r 75, iv_c a1, iv_c a2, iv_c (12 * u89 + a2), iv_c 2147483648, iv_c v431]) (by decide +kernel) (by decide) (Nat.le_of_ble_eq_true rfl) rfl ?_
                    refine x_iinc (np := 109) (i := 5) (j := 2147483649) (v := (1 + v431)) (lo' := [x_r 75, iv_c a1, iv_c a2, iv_c (12 * u89 + a2), iv_c 2147483648, iv_c (1 + v431)]) (by decide +kernel) (by decide) (by decide) rfl (by first | decide | omega) (by first | decide | omega) (by first | decide | omega) rfl ?_
                    refine x_goto (np := 112) (x := 63) (by decide +kernel) ?_
                    exact i435 2147483648 (1 + v431) (by first | decide | omega) (by first | decide | omega) (by first | decide | omega)
                  have q448 : ¬ (v429 = 2147483648) := q448
                  refine x_aload (np := 80) (x := 0) (by decide +kernel) rfl (x_nc_le (by decide)) ?_
                  refine x_aload (np := 81) (x := 0) (by decide +kernel) rfl (x_nc_le (by decide)) ?_
                  have q449 : h83 75 19 = 86 := by have z := jB (e := 19) 0 j84 rg_75_19_0_1 (by decide) (by decide); omega
                  refine x_getR (np := 84) (x := 723) (f := 19) (q := 86) (by decide +kernel) (by decide) (by decide +kernel) q449 ?_
                  refine x_const (np := 86) (x := 9223372124901605396) (a := 2147483668) (by decide +kernel) (by decide) (by decide) ?_
                  refine x_iload (np := 87) (x := 3) (by decide +kernel) rfl (by first | decide | omega) ?_
                  refine x_imul (np := 88) (x := 0) (i := 20) (j := (12 * u89 + u93)) (v := (2147483648 + 240 * u89 + 20 * u93)) (by decide +kernel) (by first | decide | omega) (by first | decide | omega) (by first | decide | omega) (by first | decide | omega) (by decide) (by first | decide | omega) ?_
                  refine x_iload (np := 90) (x := 5) (by decide +kernel) rfl (by first | decide | omega) ?_
                  refine x_iadd (np := 91) (x := 0) (v := (240 * u89 + 20 * u93 + v431)) (by decide +kernel) (by first | decide | omega) (by first | decide | omega) (by first | decide | omega) (by first | decide | omega) ?_
                  obtain ⟨u451, q452⟩ : ∃ z, v431 = 2147483648 + z := ⟨v431 - 2147483648, by first | decide | omega⟩
                  have b453 := jB (e := (240 * u89 + 20 * u93 + u451)) (240 * u89 + 20 * u93 + u451) j84 rg_86_0_1_1440 (by first | decide | omega) (by first | decide | omega)
                  refine x_aldC (np := 92) (x := 0) (n := 1440) (i := (240 * u89 + 20 * u93 + u451)) (q := ((h83 86 (240 * u89 + 20 * u93 + u451)))) (by decide +kernel) (by decide +kernel) (by first | decide | omega) (by first | decide | omega) (by decide) rfl (fun l454 => ?_)
                  refine x_iload (np := 93) (x := 2) (by decide +kernel) rfl la2 ?_
                  refine x_cP (t := 6) (mj := 202) (n := 3) (rc := 12) (ml := 3) (nr := 0) (np := 96) (as := [x_r 75, iv_c ((h83 86 (240 * u89 + 20 * u93 + u451))), iv_c a2]) (rest := []) (lo1 := [x_r 75, iv_c ((h83 86 (240 * u89 + 20 * u93 + u451))), iv_c a2]) (by decide +kernel) (by decide) (by decide +kernel) (x_rb_of (by decide +kernel)) rfl rfl (x_wr (by decide) (x_wi l454 (x_wi la2 x_wn))) x_wn (by decide) rfl (c202_75 j84  (by first | decide | omega) (by first | decide | omega)) (fun v455 l456 q457 => ?_)
                  refine x_ifz (k := 1) (tg := 103) (np := 99) (by decide +kernel) (by decide) l456 (fun q458 => ?_) (fun q459 => ?_)
                  · have q458 : v455 ≠ 2147483648 := q458
                    refine x_const (np := 104) (x := 9223372039002259456) (a := 2147483648) (by decide +kernel) (by decide) (by decide) ?_
                    refine x_istore (np := 106) (x := 4) (lo' := [x_r 75, iv_c a1, iv_c a2, iv_c (12 * u89 + a2), iv_c 2147483648, iv_c v431]) (by decide +kernel) (by decide) (Nat.le_of_ble_eq_true rfl) rfl ?_
                    refine x_iinc (np := 109) (i := 5) (j := 2147483649) (v := (1 + v431)) (lo' := [x_r 75, iv_c a1, iv_c a2, iv_c (12 * u89 + a2), iv_c 2147483648, iv_c (1 + v431)]) (by decide +kernel) (by decide) (by decide) rfl (by first | decide | omega) (by first | decide | omega) (by first | decide | omega) rfl ?_
                    refine x_goto (np := 112) (x := 63) (by decide +kernel) ?_
                    exact i435 2147483648 (1 + v431) (by first | decide | omega) (by first | decide | omega) (by first | decide | omega)
                  have q459 : ¬ (v455 ≠ 2147483648) := q459
                  refine x_const (np := 100) (x := 9223372043297226753) (a := 2147483649) (by decide +kernel) (by decide) (by decide) ?_
                  refine x_goto (np := 103) (x := 104) (by decide +kernel) ?_
                  refine x_istore (np := 106) (x := 4) (lo' := [x_r 75, iv_c a1, iv_c a2, iv_c (12 * u89 + a2), iv_c 2147483649, iv_c v431]) (by decide +kernel) (by decide) (Nat.le_of_ble_eq_true rfl) rfl ?_
                  refine x_iinc (np := 109) (i := 5) (j := 2147483649) (v := (1 + v431)) (lo' := [x_r 75, iv_c a1, iv_c a2, iv_c (12 * u89 + a2), iv_c 2147483649, iv_c (1 + v431)]) (by decide +kernel) (by decide) (by decide) rfl (by first | decide | omega) (by first | decide | omega) (by first | decide | omega) rfl ?_
                  refine x_goto (np := 112) (x := 63) (by decide +kernel) ?_
                  exact i435 2147483649 (1 + v431) (by first | decide | omega) (by first | decide | omega) (by first | decide | omega)
              exact p433 _ 2147483649 2147483648 (Nat.lt_succ_self _) (by first | decide | omega) (by first | decide | omega)
            have q98 : ¬ (2147483648 ≤ ((h83 87 (12 * u89 + u93)))) := q98
            refine x_const (np := 56) (x := 9223372051887161347) (a := 2147483651) (by decide +kernel) (by decide) (by decide) ?_
            refine x_retI (np := 57) (x := 0) (by decide +kernel) (by decide) (Or.inl (by decide +kernel)) ⟨_, rfl, (by decide), ?_⟩
            exact ⟨j84, f88, (by first | decide | omega)⟩
          have q78 : ¬ (2147483648 = 2147483648) := q78
          exfalso; omega
        have q76 : ¬ (2147483648 = 2147483648) := q76
        exfalso; omega
      have q74 : ¬ (2147483648 = 2147483648) := q74
      exfalso; omega
    have q72 : ¬ (2147483649 ≠ 2147483648) := q72
    exfalso; omega
  have q40 : ¬ (2147483649 ≠ 2147483648) := q40
  exfalso; omega
set_option maxHeartbeats 0 in
/-- LentNamesModel.row(III)I -/
theorem c216_75 {sc : Nat × Nat} {d a1 a2 a3 : Nat} {h : xh} (hJ : J h) (ba1 : 0 ≤ a1 ∧ a1 ≤ 4294967295) (ba2 : 0 ≤ a2 ∧ a2 ≤ 4294967295) (ba3 : 0 ≤ a3 ∧ a3 ≤ 4294967295) (hW : WT 76 h) : X sc 216 (d + 5) (xI fun r h' => J h' ∧ Fr 135291600897 h h' ∧ (2147483647 ≤ r ∧ r ≤ 2147483653)) 0 0 0 [x_r 75, iv_c a1, iv_c a2, iv_c a3, 147573952589676412928] [] h := by
  have la1 : a1 < 4294967296 := by first | decide | omega
  have la2 : a2 < 4294967296 := by first | decide | omega
  have la3 : a3 < 4294967296 := by first | decide | omega
  have hF := Fr.refl 135291600897 h
  refine x_aload (np := 1) (x := 0) (by decide +kernel) rfl (x_nc_le (by decide)) ?_
  refine x_const (np := 2) (x := 9223372039002259456) (a := 2147483648) (by decide +kernel) (by decide) (by decide) ?_
  refine x_putI (np := 5) (x := 704) (f := 0) (by decide +kernel) (by decide +kernel) (by decide) (Or.inl (by decide)) ?_
  have j2 := jU (e := 0) (v := 2147483648) 0 hJ rg_75_0_0_1 (by first | decide | omega) (by first | decide | omega) (by first | decide | omega)
  have f4 := jF (e := 0) (v := 2147483648) 0 hF rg_75_0_0_1 (by first | decide | omega) (by first | decide | omega) (by decide)
  generalize e3 : x_up h 75 0 2147483648 = h1 at j2 f4 ⊢
  refine x_aload (np := 6) (x := 0) (by decide +kernel) rfl (x_nc_le (by decide)) ?_
  refine x_aload (np := 7) (x := 0) (by decide +kernel) rfl (x_nc_le (by decide)) ?_
  refine x_iload (np := 8) (x := 1) (by decide +kernel) rfl la1 ?_
  refine x_nI (t := 6) (mj := 159) (n := 2) (rc := 12) (ml := 2) (nr := 1) (np := 11) (as := [x_r 75, iv_c a1]) (rest := [x_r 75]) (lo1 := [x_r 75, iv_c a1]) (by decide +kernel) (by decide) (by decide +kernel) (x_rb_of (by decide +kernel)) rfl rfl (x_wr (by decide) (x_wi la1 x_wn)) (x_wr (by decide) x_wn) (by decide) rfl ?_
  refine x_aload (np := 1) (x := 0) (by decide +kernel) rfl (x_nc_le (by decide)) ?_
  refine x_iload (np := 2) (x := 1) (by decide +kernel) rfl la1 ?_
  refine x_const (np := 3) (x := 9223372039002259456) (a := 2147483648) (by decide +kernel) (by decide) (by decide) ?_
  refine x_nI (t := 6) (mj := 158) (n := 3) (rc := 12) (ml := 3) (nr := 0) (np := 6) (as := [x_r 75, iv_c a1, iv_c 2147483648]) (rest := []) (lo1 := [x_r 75, iv_c a1, iv_c 2147483648]) (by decide +kernel) (by decide) (by decide +kernel) (x_rb_of (by decide +kernel)) rfl rfl (x_wr (by decide) (x_wi la1 (x_wi (by decide) x_wn))) x_wn (by decide) rfl ?_
  refine x_iload (np := 1) (x := 1) (by decide +kernel) rfl la1 ?_
  refine x_const (np := 2) (x := 9223372039002259456) (a := 2147483648) (by decide +kernel) (by decide) (by decide) ?_
  refine x_aload (np := 3) (x := 0) (by decide +kernel) rfl (x_nc_le (by decide)) ?_
  have q5 : h1 75 1 = 76 := by have z := jB (e := 1) 0 j2 rg_75_1_0_1 (by decide) (by decide); omega
  refine x_getR (np := 6) (x := 705) (f := 1) (q := 76) (by decide +kernel) (by decide) (by decide +kernel) q5 ?_
  refine x_iload (np := 7) (x := 2) (by decide +kernel) rfl (by decide) ?_
  have q6 : h1 76 0 = h 76 0 := by rw [← e3]; exact x_up_k (by decide)
  have b7 := jB (e := 0) 0 hJ rg_76_0_0_1 (by first | decide | omega) (by first | decide | omega)
  refine x_aldC (np := 8) (x := 0) (n := 1952) (i := 0) (q := (h 76 0)) (by decide +kernel) (by decide +kernel) (by first | decide | omega) (by first | decide | omega) (by decide) q6 (fun l8 => ?_)
  refine x_const (np := 9) (x := 9223372043297226753) (a := 2147483649) (by decide +kernel) (by decide) (by decide) ?_
  obtain ⟨v9, q10⟩ : ∃ z, z + 2147483649 = (h 76 0) + 2147483648 := ⟨(h 76 0) + 2147483648 - 2147483649, by first | decide | omega⟩
  refine x_isub (np := 10) (x := 0) (v := v9) (by decide +kernel) l8 (by decide) (by first | decide | omega) (by first | decide | omega) ?_
  refine x_nI (t := 0) (mj := 153) (n := 3) (rc := 0) (ml := 3) (nr := 0) (np := 13) (as := [iv_c a1, iv_c 2147483648, iv_c v9]) (rest := []) (lo1 := [iv_c a1, iv_c 2147483648, iv_c v9]) (by decide +kernel) (by decide) (by decide +kernel) (Or.inl rfl) rfl rfl (x_wi la1 (x_wi (by decide) (x_wi (by first | decide | omega) x_wn))) x_wn (by decide) rfl ?_
  refine x_iload (np := 1) (x := 0) (by decide +kernel) rfl la1 ?_
  refine x_iload (np := 2) (x := 1) (by decide +kernel) rfl (by decide) ?_
  refine x_icmp (k := 2) (tg := 14) (np := 5) (by decide +kernel) (by decide) la1 (by decide) (fun q11 => ?_) (fun q12 => ?_)
  · have q11 : a1 < 2147483648 := q11
    refine x_const (np := 15) (x := 9223372039002259456) (a := 2147483648) (by decide +kernel) (by decide) (by decide) ?_
    refine x_retI (np := 16) (x := 0) (by decide +kernel) (by decide) (Or.inr ⟨by decide +kernel, by first | decide | omega, by first | decide | omega⟩) ⟨_, rfl, (by decide), ?_⟩
    refine x_ifz (k := 1) (tg := 20) (np := 16) (by decide +kernel) (by decide) (by decide) (fun q13 => ?_) (fun q14 => ?_)
    · have q13 : 2147483648 ≠ 2147483648 := q13
      exfalso; omega
    have q14 : ¬ (2147483648 ≠ 2147483648) := q14
    refine x_const (np := 17) (x := 9223372043297226753) (a := 2147483649) (by decide +kernel) (by decide) (by decide) ?_
    refine x_goto (np := 20) (x := 21) (by decide +kernel) ?_
    refine x_retI (np := 22) (x := 0) (by decide +kernel) (by decide) (Or.inr ⟨by decide +kernel, by first | decide | omega, by first | decide | omega⟩) ⟨_, rfl, (by decide), ?_⟩
    refine x_retI (np := 7) (x := 0) (by decide +kernel) (by decide) (Or.inr ⟨by decide +kernel, by first | decide | omega, by first | decide | omega⟩) ⟨_, rfl, (by decide), ?_⟩
    refine x_ifz (k := 1) (tg := 21) (np := 14) (by decide +kernel) (by decide) (by decide) (fun q15 => ?_) (fun q16 => ?_)
    · have q15 : 2147483649 ≠ 2147483648 := q15
      refine x_const (np := 22) (x := 9223372043297226753) (a := 2147483649) (by decide +kernel) (by decide) (by decide) ?_
      refine x_goto (np := 25) (x := 26) (by decide +kernel) ?_
      refine x_const (np := 27) (x := 9223372043297226753) (a := 2147483649) (by decide +kernel) (by decide) (by decide) ?_
      refine x_nI (t := 6) (mj := 152) (n := 3) (rc := 12) (ml := 3) (nr := 0) (np := 30) (as := [x_r 75, iv_c 2147483649, iv_c 2147483649]) (rest := []) (lo1 := [x_r 75, iv_c 2147483649, iv_c 2147483649]) (by decide +kernel) (by decide) (by decide +kernel) (x_rb_of (by decide +kernel)) rfl rfl (x_wr (by decide) (x_wi (by decide) (x_wi (by decide) x_wn))) x_wn (by decide) rfl ?_
      refine x_iload (np := 1) (x := 1) (by decide +kernel) rfl (by decide) ?_
      refine x_ifz (k := 0) (tg := 9) (np := 4) (by decide +kernel) (by decide) (by decide) (fun q17 => ?_) (fun q18 => ?_)
      · have q17 : 2147483649 = 2147483648 := q17
        exfalso; omega
      have q18 : ¬ (2147483649 = 2147483648) := q18
      refine x_aload (np := 5) (x := 0) (by decide +kernel) rfl (x_nc_le (by decide)) ?_
      refine x_iload (np := 6) (x := 2) (by decide +kernel) rfl (by decide) ?_
      refine x_putI (np := 9) (x := 704) (f := 0) (by decide +kernel) (by decide +kernel) (by decide) (Or.inl (by decide)) ?_
      have j20 := jU (e := 0) (v := 2147483649) 0 j2 rg_75_0_0_1 (by first | decide | omega) (by first | decide | omega) (by first | decide | omega)
      have f22 := jF (e := 0) (v := 2147483649) 0 f4 rg_75_0_0_1 (by first | decide | omega) (by first | decide | omega) (by decide)
      generalize e21 : x_up h1 75 0 2147483649 = h19 at j20 f22 ⊢
      refine x_iload (np := 10) (x := 1) (by decide +kernel) rfl (by decide) ?_
      refine x_retI (np := 11) (x := 0) (by decide +kernel) (by decide) (Or.inr ⟨by decide +kernel, by first | decide | omega, by first | decide | omega⟩) ⟨_, rfl, (by decide), ?_⟩
      refine x_ifz (k := 0) (tg := 35) (np := 33) (by decide +kernel) (by decide) (by decide) (fun q23 => ?_) (fun q24 => ?_)
      · have q23 : 2147483649 = 2147483648 := q23
        exfalso; omega
      have q24 : ¬ (2147483649 = 2147483648) := q24
      refine x_const (np := 34) (x := 9223372039002259456) (a := 2147483648) (by decide +kernel) (by decide) (by decide) ?_
      refine x_retI (np := 35) (x := 0) (by decide +kernel) (by decide) (Or.inl (by decide +kernel)) ⟨_, rfl, (by decide), ?_⟩
      exact ⟨j20, f22, (by first | decide | omega)⟩
    have q16 : ¬ (2147483649 ≠ 2147483648) := q16
    exfalso; omega
  have q12 : ¬ (a1 < 2147483648) := q12
  refine x_iload (np := 6) (x := 0) (by decide +kernel) rfl la1 ?_
  refine x_iload (np := 7) (x := 2) (by decide +kernel) rfl (by first | decide | omega) ?_
  refine x_icmp (k := 4) (tg := 14) (np := 10) (by decide +kernel) (by decide) la1 (by first | decide | omega) (fun q25 => ?_) (fun q26 => ?_)
  · have q25 : v9 < a1 := q25
    refine x_const (np := 15) (x := 9223372039002259456) (a := 2147483648) (by decide +kernel) (by decide) (by decide) ?_
    refine x_retI (np := 16) (x := 0) (by decide +kernel) (by decide) (Or.inr ⟨by decide +kernel, by first | decide | omega, by first | decide | omega⟩) ⟨_, rfl, (by decide), ?_⟩
    refine x_ifz (k := 1) (tg := 20) (np := 16) (by decide +kernel) (by decide) (by decide) (fun q27 => ?_) (fun q28 => ?_)
    · have q27 : 2147483648 ≠ 2147483648 := q27
      exfalso; omega
    have q28 : ¬ (2147483648 ≠ 2147483648) := q28
    refine x_const (np := 17) (x := 9223372043297226753) (a := 2147483649) (by decide +kernel) (by decide) (by decide) ?_
    refine x_goto (np := 20) (x := 21) (by decide +kernel) ?_
    refine x_retI (np := 22) (x := 0) (by decide +kernel) (by decide) (Or.inr ⟨by decide +kernel, by first | decide | omega, by first | decide | omega⟩) ⟨_, rfl, (by decide), ?_⟩
    refine x_retI (np := 7) (x := 0) (by decide +kernel) (by decide) (Or.inr ⟨by decide +kernel, by first | decide | omega, by first | decide | omega⟩) ⟨_, rfl, (by decide), ?_⟩
    refine x_ifz (k := 1) (tg := 21) (np := 14) (by decide +kernel) (by decide) (by decide) (fun q29 => ?_) (fun q30 => ?_)
    · have q29 : 2147483649 ≠ 2147483648 := q29
      refine x_const (np := 22) (x := 9223372043297226753) (a := 2147483649) (by decide +kernel) (by decide) (by decide) ?_
      refine x_goto (np := 25) (x := 26) (by decide +kernel) ?_
      refine x_const (np := 27) (x := 9223372043297226753) (a := 2147483649) (by decide +kernel) (by decide) (by decide) ?_
      refine x_nI (t := 6) (mj := 152) (n := 3) (rc := 12) (ml := 3) (nr := 0) (np := 30) (as := [x_r 75, iv_c 2147483649, iv_c 2147483649]) (rest := []) (lo1 := [x_r 75, iv_c 2147483649, iv_c 2147483649]) (by decide +kernel) (by decide) (by decide +kernel) (x_rb_of (by decide +kernel)) rfl rfl (x_wr (by decide) (x_wi (by decide) (x_wi (by decide) x_wn))) x_wn (by decide) rfl ?_
      refine x_iload (np := 1) (x := 1) (by decide +kernel) rfl (by decide) ?_
      refine x_ifz (k := 0) (tg := 9) (np := 4) (by decide +kernel) (by decide) (by decide) (fun q31 => ?_) (fun q32 => ?_)
      · have q31 : 2147483649 = 2147483648 := q31
        exfalso; omega
      have q32 : ¬ (2147483649 = 2147483648) := q32
      refine x_aload (np := 5) (x := 0) (by decide +kernel) rfl (x_nc_le (by decide)) ?_
      refine x_iload (np := 6) (x := 2) (by decide +kernel) rfl (by decide) ?_
      refine x_putI (np := 9) (x := 704) (f := 0) (by decide +kernel) (by decide +kernel) (by decide) (Or.inl (by decide)) ?_
      have j34 := jU (e := 0) (v := 2147483649) 0 j2 rg_75_0_0_1 (by first | decide | omega) (by first | decide | omega) (by first | decide | omega)
      have f36 := jF (e := 0) (v := 2147483649) 0 f4 rg_75_0_0_1 (by first | decide | omega) (by first | decide | omega) (by decide)
      generalize e35 : x_up h1 75 0 2147483649 = h33 at j34 f36 ⊢
      refine x_iload (np := 10) (x := 1) (by decide +kernel) rfl (by decide) ?_
      refine x_retI (np := 11) (x := 0) (by decide +kernel) (by decide) (Or.inr ⟨by decide +kernel, by first | decide | omega, by first | decide | omega⟩) ⟨_, rfl, (by decide), ?_⟩
      refine x_ifz (k := 0) (tg := 35) (np := 33) (by decide +kernel) (by decide) (by decide) (fun q37 => ?_) (fun q38 => ?_)
      · have q37 : 2147483649 = 2147483648 := q37
        exfalso; omega
      have q38 : ¬ (2147483649 = 2147483648) := q38
      refine x_const (np := 34) (x := 9223372039002259456) (a := 2147483648) (by decide +kernel) (by decide) (by decide) ?_
      refine x_retI (np := 35) (x := 0) (by decide +kernel) (by decide) (Or.inl (by decide +kernel)) ⟨_, rfl, (by decide), ?_⟩
      exact ⟨j34, f36, (by first | decide | omega)⟩
    have q30 : ¬ (2147483649 ≠ 2147483648) := q30
    exfalso; omega
  have q26 : ¬ (v9 < a1) := q26
  refine x_const (np := 11) (x := 9223372043297226753) (a := 2147483649) (by decide +kernel) (by decide) (by decide) ?_
  refine x_goto (np := 14) (x := 15) (by decide +kernel) ?_
  refine x_retI (np := 16) (x := 0) (by decide +kernel) (by decide) (Or.inr ⟨by decide +kernel, by first | decide | omega, by first | decide | omega⟩) ⟨_, rfl, (by decide), ?_⟩
  refine x_ifz (k := 1) (tg := 20) (np := 16) (by decide +kernel) (by decide) (by decide) (fun q39 => ?_) (fun q40 => ?_)
  · have q39 : 2147483649 ≠ 2147483648 := q39
    refine x_const (np := 21) (x := 9223372039002259456) (a := 2147483648) (by decide +kernel) (by decide) (by decide) ?_
    refine x_retI (np := 22) (x := 0) (by decide +kernel) (by decide) (Or.inr ⟨by decide +kernel, by first | decide | omega, by first | decide | omega⟩) ⟨_, rfl, (by decide), ?_⟩
    refine x_retI (np := 7) (x := 0) (by decide +kernel) (by decide) (Or.inr ⟨by decide +kernel, by first | decide | omega, by first | decide | omega⟩) ⟨_, rfl, (by decide), ?_⟩
    refine x_ifz (k := 1) (tg := 21) (np := 14) (by decide +kernel) (by decide) (by decide) (fun q41 => ?_) (fun q42 => ?_)
    · have q41 : 2147483648 ≠ 2147483648 := q41
      exfalso; omega
    have q42 : ¬ (2147483648 ≠ 2147483648) := q42
    refine x_iload (np := 15) (x := 2) (by decide +kernel) rfl la2 ?_
    refine x_nI (t := 0) (mj := 160) (n := 1) (rc := 0) (ml := 1) (nr := 1) (np := 18) (as := [iv_c a2]) (rest := [x_r 75]) (lo1 := [iv_c a2]) (by decide +kernel) (by decide) (by decide +kernel) (Or.inl rfl) rfl rfl (x_wi la2 x_wn) (x_wr (by decide) x_wn) (by decide) rfl ?_
    refine x_iload (np := 1) (x := 0) (by decide +kernel) rfl la2 ?_
    refine x_const (np := 2) (x := 9223372039002259456) (a := 2147483648) (by decide +kernel) (by decide) (by decide) ?_
    refine x_const (np := 4) (x := 9223372086246899723) (a := 2147483659) (by decide +kernel) (by decide) (by decide) ?_
    refine x_nI (t := 0) (mj := 153) (n := 3) (rc := 0) (ml := 3) (nr := 0) (np := 7) (as := [iv_c a2, iv_c 2147483648, iv_c 2147483659]) (rest := []) (lo1 := [iv_c a2, iv_c 2147483648, iv_c 2147483659]) (by decide +kernel) (by decide) (by decide +kernel) (Or.inl rfl) rfl rfl (x_wi la2 (x_wi (by decide) (x_wi (by decide) x_wn))) x_wn (by decide) rfl ?_
    refine x_iload (np := 1) (x := 0) (by decide +kernel) rfl la2 ?_
    refine x_iload (np := 2) (x := 1) (by decide +kernel) rfl (by decide) ?_
    refine x_icmp (k := 2) (tg := 14) (np := 5) (by decide +kernel) (by decide) la2 (by decide) (fun q43 => ?_) (fun q44 => ?_)
    · have q43 : a2 < 2147483648 := q43
      refine x_const (np := 15) (x := 9223372039002259456) (a := 2147483648) (by decide +kernel) (by decide) (by decide) ?_
      refine x_retI (np := 16) (x := 0) (by decide +kernel) (by decide) (Or.inr ⟨by decide +kernel, by first | decide | omega, by first | decide | omega⟩) ⟨_, rfl, (by decide), ?_⟩
      refine x_ifz (k := 1) (tg := 14) (np := 10) (by decide +kernel) (by decide) (by decide) (fun q45 => ?_) (fun q46 => ?_)
      · have q45 : 2147483648 ≠ 2147483648 := q45
        exfalso; omega
      have q46 : ¬ (2147483648 ≠ 2147483648) := q46
      refine x_const (np := 11) (x := 9223372043297226753) (a := 2147483649) (by decide +kernel) (by decide) (by decide) ?_
      refine x_goto (np := 14) (x := 15) (by decide +kernel) ?_
      refine x_retI (np := 16) (x := 0) (by decide +kernel) (by decide) (Or.inr ⟨by decide +kernel, by first | decide | omega, by first | decide | omega⟩) ⟨_, rfl, (by decide), ?_⟩
      refine x_ifz (k := 0) (tg := 25) (np := 21) (by decide +kernel) (by decide) (by decide) (fun q47 => ?_) (fun q48 => ?_)
      · have q47 : 2147483649 = 2147483648 := q47
        exfalso; omega
      have q48 : ¬ (2147483649 = 2147483648) := q48
      refine x_const (np := 22) (x := 9223372043297226753) (a := 2147483649) (by decide +kernel) (by decide) (by decide) ?_
      refine x_goto (np := 25) (x := 26) (by decide +kernel) ?_
      refine x_const (np := 27) (x := 9223372043297226753) (a := 2147483649) (by decide +kernel) (by decide) (by decide) ?_
      refine x_nI (t := 6) (mj := 152) (n := 3) (rc := 12) (ml := 3) (nr := 0) (np := 30) (as := [x_r 75, iv_c 2147483649, iv_c 2147483649]) (rest := []) (lo1 := [x_r 75, iv_c 2147483649, iv_c 2147483649]) (by decide +kernel) (by decide) (by decide +kernel) (x_rb_of (by decide +kernel)) rfl rfl (x_wr (by decide) (x_wi (by decide) (x_wi (by decide) x_wn))) x_wn (by decide) rfl ?_
      refine x_iload (np := 1) (x := 1) (by decide +kernel) rfl (by decide) ?_
      refine x_ifz (k := 0) (tg := 9) (np := 4) (by decide +kernel) (by decide) (by decide) (fun q49 => ?_) (fun q50 => ?_)
      · have q49 : 2147483649 = 2147483648 := q49
        exfalso; omega
      have q50 : ¬ (2147483649 = 2147483648) := q50
      refine x_aload (np := 5) (x := 0) (by decide +kernel) rfl (x_nc_le (by decide)) ?_
      refine x_iload (np := 6) (x := 2) (by decide +kernel) rfl (by decide) ?_
      refine x_putI (np := 9) (x := 704) (f := 0) (by decide +kernel) (by decide +kernel) (by decide) (Or.inl (by decide)) ?_
      have j52 := jU (e := 0) (v := 2147483649) 0 j2 rg_75_0_0_1 (by first | decide | omega) (by first | decide | omega) (by first | decide | omega)
      have f54 := jF (e := 0) (v := 2147483649) 0 f4 rg_75_0_0_1 (by first | decide | omega) (by first | decide | omega) (by decide)
      generalize e53 : x_up h1 75 0 2147483649 = h51 at j52 f54 ⊢
      refine x_iload (np := 10) (x := 1) (by decide +kernel) rfl (by decide) ?_
      refine x_retI (np := 11) (x := 0) (by decide +kernel) (by decide) (Or.inr ⟨by decide +kernel, by first | decide | omega, by first | decide | omega⟩) ⟨_, rfl, (by decide), ?_⟩
      refine x_ifz (k := 0) (tg := 35) (np := 33) (by decide +kernel) (by decide) (by decide) (fun q55 => ?_) (fun q56 => ?_)
      · have q55 : 2147483649 = 2147483648 := q55
        exfalso; omega
      have q56 : ¬ (2147483649 = 2147483648) := q56
      refine x_const (np := 34) (x := 9223372039002259456) (a := 2147483648) (by decide +kernel) (by decide) (by decide) ?_
      refine x_retI (np := 35) (x := 0) (by decide +kernel) (by decide) (Or.inl (by decide +kernel)) ⟨_, rfl, (by decide), ?_⟩
      exact ⟨j52, f54, (by first | decide | omega)⟩
    have q44 : ¬ (a2 < 2147483648) := q44
    refine x_iload (np := 6) (x := 0) (by decide +kernel) rfl la2 ?_
    refine x_iload (np := 7) (x := 2) (by decide +kernel) rfl (by decide) ?_
    refine x_icmp (k := 4) (tg := 14) (np := 10) (by decide +kernel) (by decide) la2 (by decide) (fun q57 => ?_) (fun q58 => ?_)
    · have q57 : 2147483659 < a2 := q57
      refine x_const (np := 15) (x := 9223372039002259456) (a := 2147483648) (by decide +kernel) (by decide) (by decide) ?_
      refine x_retI (np := 16) (x := 0) (by decide +kernel) (by decide) (Or.inr ⟨by decide +kernel, by first | decide | omega, by first | decide | omega⟩) ⟨_, rfl, (by decide), ?_⟩
      refine x_ifz (k := 1) (tg := 14) (np := 10) (by decide +kernel) (by decide) (by decide) (fun q59 => ?_) (fun q60 => ?_)
      · have q59 : 2147483648 ≠ 2147483648 := q59
        exfalso; omega
      have q60 : ¬ (2147483648 ≠ 2147483648) := q60
      refine x_const (np := 11) (x := 9223372043297226753) (a := 2147483649) (by decide +kernel) (by decide) (by decide) ?_
      refine x_goto (np := 14) (x := 15) (by decide +kernel) ?_
      refine x_retI (np := 16) (x := 0) (by decide +kernel) (by decide) (Or.inr ⟨by decide +kernel, by first | decide | omega, by first | decide | omega⟩) ⟨_, rfl, (by decide), ?_⟩
      refine x_ifz (k := 0) (tg := 25) (np := 21) (by decide +kernel) (by decide) (by decide) (fun q61 => ?_) (fun q62 => ?_)
      · have q61 : 2147483649 = 2147483648 := q61
        exfalso; omega
      have q62 : ¬ (2147483649 = 2147483648) := q62
      refine x_const (np := 22) (x := 9223372043297226753) (a := 2147483649) (by decide +kernel) (by decide) (by decide) ?_
      refine x_goto (np := 25) (x := 26) (by decide +kernel) ?_
      refine x_const (np := 27) (x := 9223372043297226753) (a := 2147483649) (by decide +kernel) (by decide) (by decide) ?_
      refine x_nI (t := 6) (mj := 152) (n := 3) (rc := 12) (ml := 3) (nr := 0) (np := 30) (as := [x_r 75, iv_c 2147483649, iv_c 2147483649]) (rest := []) (lo1 := [x_r 75, iv_c 2147483649, iv_c 2147483649]) (by decide +kernel) (by decide) (by decide +kernel) (x_rb_of (by decide +kernel)) rfl rfl (x_wr (by decide) (x_wi (by decide) (x_wi (by decide) x_wn))) x_wn (by decide) rfl ?_
      refine x_iload (np := 1) (x := 1) (by decide +kernel) rfl (by decide) ?_
      refine x_ifz (k := 0) (tg := 9) (np := 4) (by decide +kernel) (by decide) (by decide) (fun q63 => ?_) (fun q64 => ?_)
      · have q63 : 2147483649 = 2147483648 := q63
        exfalso; omega
      have q64 : ¬ (2147483649 = 2147483648) := q64
      refine x_aload (np := 5) (x := 0) (by decide +kernel) rfl (x_nc_le (by decide)) ?_
      refine x_iload (np := 6) (x := 2) (by decide +kernel) rfl (by decide) ?_
      refine x_putI (np := 9) (x := 704) (f := 0) (by decide +kernel) (by decide +kernel) (by decide) (Or.inl (by decide)) ?_
      have j66 := jU (e := 0) (v := 2147483649) 0 j2 rg_75_0_0_1 (by first | decide | omega) (by first | decide | omega) (by first | decide | omega)
      have f68 := jF (e := 0) (v := 2147483649) 0 f4 rg_75_0_0_1 (by first | decide | omega) (by first | decide | omega) (by decide)
      generalize e67 : x_up h1 75 0 2147483649 = h65 at j66 f68 ⊢
      refine x_iload (np := 10) (x := 1) (by decide +kernel) rfl (by decide) ?_
      refine x_retI (np := 11) (x := 0) (by decide +kernel) (by decide) (Or.inr ⟨by decide +kernel, by first | decide | omega, by first | decide | omega⟩) ⟨_, rfl, (by decide), ?_⟩
      refine x_ifz (k := 0) (tg := 35) (np := 33) (by decide +kernel) (by decide) (by decide) (fun q69 => ?_) (fun q70 => ?_)
      · have q69 : 2147483649 = 2147483648 := q69
        exfalso; omega
      have q70 : ¬ (2147483649 = 2147483648) := q70
      refine x_const (np := 34) (x := 9223372039002259456) (a := 2147483648) (by decide +kernel) (by decide) (by decide) ?_
      refine x_retI (np := 35) (x := 0) (by decide +kernel) (by decide) (Or.inl (by decide +kernel)) ⟨_, rfl, (by decide), ?_⟩
      exact ⟨j66, f68, (by first | decide | omega)⟩
    have q58 : ¬ (2147483659 < a2) := q58
    refine x_const (np := 11) (x := 9223372043297226753) (a := 2147483649) (by decide +kernel) (by decide) (by decide) ?_
    refine x_goto (np := 14) (x := 15) (by decide +kernel) ?_
    refine x_retI (np := 16) (x := 0) (by decide +kernel) (by decide) (Or.inr ⟨by decide +kernel, by first | decide | omega, by first | decide | omega⟩) ⟨_, rfl, (by decide), ?_⟩
    refine x_ifz (k := 1) (tg := 14) (np := 10) (by decide +kernel) (by decide) (by decide) (fun q71 => ?_) (fun q72 => ?_)
    · have q71 : 2147483649 ≠ 2147483648 := q71
      refine x_const (np := 15) (x := 9223372039002259456) (a := 2147483648) (by decide +kernel) (by decide) (by decide) ?_
      refine x_retI (np := 16) (x := 0) (by decide +kernel) (by decide) (Or.inr ⟨by decide +kernel, by first | decide | omega, by first | decide | omega⟩) ⟨_, rfl, (by decide), ?_⟩
      refine x_ifz (k := 0) (tg := 25) (np := 21) (by decide +kernel) (by decide) (by decide) (fun q73 => ?_) (fun q74 => ?_)
      · have q73 : 2147483648 = 2147483648 := q73
        refine x_const (np := 26) (x := 9223372039002259456) (a := 2147483648) (by decide +kernel) (by decide) (by decide) ?_
        refine x_const (np := 27) (x := 9223372043297226753) (a := 2147483649) (by decide +kernel) (by decide) (by decide) ?_
        refine x_nI (t := 6) (mj := 152) (n := 3) (rc := 12) (ml := 3) (nr := 0) (np := 30) (as := [x_r 75, iv_c 2147483648, iv_c 2147483649]) (rest := []) (lo1 := [x_r 75, iv_c 2147483648, iv_c 2147483649]) (by decide +kernel) (by decide) (by decide +kernel) (x_rb_of (by decide +kernel)) rfl rfl (x_wr (by decide) (x_wi (by decide) (x_wi (by decide) x_wn))) x_wn (by decide) rfl ?_
        refine x_iload (np := 1) (x := 1) (by decide +kernel) rfl (by decide) ?_
        refine x_ifz (k := 0) (tg := 9) (np := 4) (by decide +kernel) (by decide) (by decide) (fun q75 => ?_) (fun q76 => ?_)
        · have q75 : 2147483648 = 2147483648 := q75
          refine x_iload (np := 10) (x := 1) (by decide +kernel) rfl (by decide) ?_
          refine x_retI (np := 11) (x := 0) (by decide +kernel) (by decide) (Or.inr ⟨by decide +kernel, by first | decide | omega, by first | decide | omega⟩) ⟨_, rfl, (by decide), ?_⟩
          refine x_ifz (k := 0) (tg := 35) (np := 33) (by decide +kernel) (by decide) (by decide) (fun q77 => ?_) (fun q78 => ?_)
          · have q77 : 2147483648 = 2147483648 := q77
            refine x_aload (np := 36) (x := 0) (by decide +kernel) rfl (x_nc_le (by decide)) ?_
            have m82 : WT 76 h1 := by rw [← e3]; exact WT.oth hW hJ (by decide)
            refine x_cV (t := 6) (mj := 210) (n := 1) (rc := 12) (ml := 5) (nr := 0) (np := 39) (as := [x_r 75]) (rest := []) (lo1 := [x_r 75, 147573952589676412928, 147573952589676412928, 147573952589676412928, 147573952589676412928]) (by decide +kernel) (by decide) (by decide +kernel) (x_rb_of (by decide +kernel)) rfl rfl (x_wr (by decide) x_wn) x_wn (by decide) rfl (c210_75 j2  m82) (fun h83 q81 => ?_)
            obtain ⟨j84, f85⟩ := q81
            have f88 := Fr.trans f4 f85 (by decide)
            refine x_const (np := 41) (x := 9223372090541867020) (a := 2147483660) (by decide +kernel) (by decide) (by decide) ?_
            refine x_iload (np := 42) (x := 1) (by decide +kernel) rfl la1 ?_
            obtain ⟨u89, q90⟩ : ∃ z, a1 = 2147483648 + z := ⟨a1 - 2147483648, by first | decide | omega⟩
            refine x_imul (np := 43) (x := 0) (i := 12) (j := u89) (v := (2147483648 + 12 * u89)) (by decide +kernel) (by first | decide | omega) (by first | decide | omega) (by first | decide | omega) (by first | decide | omega) (by decide) la1 ?_
            refine x_iload (np := 44) (x := 2) (by decide +kernel) rfl la2 ?_
            refine x_iadd (np := 45) (x := 0) (v := (12 * u89 + a2)) (by decide +kernel) (by first | decide | omega) la2 (by first | decide | omega) (by first | decide | omega) ?_
            refine x_istore (np := 47) (x := 4) (lo' := [x_r 75, iv_c a1, iv_c a2, iv_c a3, iv_c (12 * u89 + a2)]) (by decide +kernel) (by first | decide | omega) (Nat.le_of_ble_eq_true rfl) rfl ?_
            refine x_iload (np := 48) (x := 3) (by decide +kernel) rfl la3 ?_
            refine x_ifz (k := 1) (tg := 55) (np := 51) (by decide +kernel) (by decide) la3 (fun q92 => ?_) (fun q93 => ?_)
            · have q92 : a3 ≠ 2147483648 := q92
              refine x_iload (np := 56) (x := 3) (by decide +kernel) rfl la3 ?_
              refine x_const (np := 57) (x := 9223372043297226753) (a := 2147483649) (by decide +kernel) (by decide) (by decide) ?_
              refine x_aload (np := 58) (x := 0) (by decide +kernel) rfl (x_nc_le (by decide)) ?_
              have q94 : h83 75 18 = 85 := by have z := jB (e := 18) 0 j84 rg_75_18_0_1 (by decide) (by decide); omega
              refine x_getR (np := 61) (x := 722) (f := 18) (q := 85) (by decide +kernel) (by decide) (by decide +kernel) q94 ?_
              refine x_iload (np := 63) (x := 4) (by decide +kernel) rfl (by first | decide | omega) ?_
              obtain ⟨u95, q96⟩ : ∃ z, a2 = 2147483648 + z := ⟨a2 - 2147483648, by first | decide | omega⟩
              have b97 := jB (e := (12 * u89 + u95)) (12 * u89 + u95) j84 rg_85_0_1_72 (by first | decide | omega) (by first | decide | omega)
              refine x_aldC (np := 64) (x := 0) (n := 72) (i := (12 * u89 + u95)) (q := ((h83 85 (12 * u89 + u95)))) (by decide +kernel) (by decide +kernel) (by first | decide | omega) (by first | decide | omega) (by decide) rfl (fun l98 => ?_)
              refine x_nI (t := 0) (mj := 153) (n := 3) (rc := 0) (ml := 3) (nr := 0) (np := 67) (as := [iv_c a3, iv_c 2147483649, iv_c ((h83 85 (12 * u89 + u95)))]) (rest := []) (lo1 := [iv_c a3, iv_c 2147483649, iv_c ((h83 85 (12 * u89 + u95)))]) (by decide +kernel) (by decide) (by decide +kernel) (Or.inl rfl) rfl rfl (x_wi la3 (x_wi (by decide) (x_wi l98 x_wn))) x_wn (by decide) rfl ?_
              refine x_iload (np := 1) (x := 0) (by decide +kernel) rfl la3 ?_
              refine x_iload (np := 2) (x := 1) (by decide +kernel) rfl (by decide) ?_
              refine x_icmp (k := 2) (tg := 14) (np := 5) (by decide +kernel) (by decide) la3 (by decide) (fun q99 => ?_) (fun q100 => ?_)
              · have q99 : a3 < 2147483649 := q99
                refine x_const (np := 15) (x := 9223372039002259456) (a := 2147483648) (by decide +kernel) (by decide) (by decide) ?_
                refine x_retI (np := 16) (x := 0) (by decide +kernel) (by decide) (Or.inr ⟨by decide +kernel, by first | decide | omega, by first | decide | omega⟩) ⟨_, rfl, (by decide), ?_⟩
                refine x_ifz (k := 0) (tg := 92) (np := 70) (by decide +kernel) (by decide) (by decide) (fun q101 => ?_) (fun q102 => ?_)
                · have q101 : 2147483648 = 2147483648 := q101
                  refine x_const (np := 93) (x := 9223372034707292159) (a := 2147483647) (by decide +kernel) (by decide) (by decide) ?_
                  refine x_retI (np := 94) (x := 0) (by decide +kernel) (by decide) (Or.inl (by decide +kernel)) ⟨_, rfl, (by decide), ?_⟩
                  exact ⟨j84, f88, (by first | decide | omega)⟩
                have q102 : ¬ (2147483648 = 2147483648) := q102
                exfalso; omega
              have q100 : ¬ (a3 < 2147483649) := q100
              refine x_iload (np := 6) (x := 0) (by decide +kernel) rfl la3 ?_
              refine x_iload (np := 7) (x := 2) (by decide +kernel) rfl l98 ?_
              refine x_icmp (k := 4) (tg := 14) (np := 10) (by decide +kernel) (by decide) la3 l98 (fun q103 => ?_) (fun q104 => ?_)
              · have q103 : ((h83 85 (12 * u89 + u95))) < a3 := q103
                refine x_const (np := 15) (x := 9223372039002259456) (a := 2147483648) (by decide +kernel) (by decide) (by decide) ?_
                refine x_retI (np := 16) (x := 0) (by decide +kernel) (by decide) (Or.inr ⟨by decide +kernel, by first | decide | omega, by first | decide | omega⟩) ⟨_, rfl, (by decide), ?_⟩
                refine x_ifz (k := 0) (tg := 92) (np := 70) (by decide +kernel) (by decide) (by decide) (fun q105 => ?_) (fun q106 => ?_)
                · have q105 : 2147483648 = 2147483648 := q105
                  refine x_const (np := 93) (x := 9223372034707292159) (a := 2147483647) (by decide +kernel) (by decide) (by decide) ?_
                  refine x_retI (np := 94) (x := 0) (by decide +kernel) (by decide) (Or.inl (by decide +kernel)) ⟨_, rfl, (by decide), ?_⟩
                  exact ⟨j84, f88, (by first | decide | omega)⟩
                have q106 : ¬ (2147483648 = 2147483648) := q106
                exfalso; omega
              have q104 : ¬ (((h83 85 (12 * u89 + u95))) < a3) := q104
              refine x_const (np := 11) (x := 9223372043297226753) (a := 2147483649) (by decide +kernel) (by decide) (by decide) ?_
              refine x_goto (np := 14) (x := 15) (by decide +kernel) ?_
              refine x_retI (np := 16) (x := 0) (by decide +kernel) (by decide) (Or.inr ⟨by decide +kernel, by first | decide | omega, by first | decide | omega⟩) ⟨_, rfl, (by decide), ?_⟩
              refine x_ifz (k := 0) (tg := 92) (np := 70) (by decide +kernel) (by decide) (by decide) (fun q107 => ?_) (fun q108 => ?_)
              · have q107 : 2147483649 = 2147483648 := q107
                exfalso; omega
              have q108 : ¬ (2147483649 = 2147483648) := q108
              refine x_aload (np := 71) (x := 0) (by decide +kernel) rfl (x_nc_le (by decide)) ?_
              refine x_aload (np := 72) (x := 0) (by decide +kernel) rfl (x_nc_le (by decide)) ?_
              have q109 : h83 75 19 = 86 := by have z := jB (e := 19) 0 j84 rg_75_19_0_1 (by decide) (by decide); omega
              refine x_getR (np := 75) (x := 723) (f := 19) (q := 86) (by decide +kernel) (by decide) (by decide +kernel) q109 ?_
              refine x_const (np := 77) (x := 9223372124901605396) (a := 2147483668) (by decide +kernel) (by decide) (by decide) ?_
              refine x_iload (np := 79) (x := 4) (by decide +kernel) rfl (by first | decide | omega) ?_
              refine x_imul (np := 80) (x := 0) (i := 20) (j := (12 * u89 + u95)) (v := (2147483648 + 240 * u89 + 20 * u95)) (by decide +kernel) (by first | decide | omega) (by first | decide | omega) (by first | decide | omega) (by first | decide | omega) (by decide) (by first | decide | omega) ?_
              refine x_iload (np := 81) (x := 3) (by decide +kernel) rfl la3 ?_
              refine x_iadd (np := 82) (x := 0) (v := (240 * u89 + 20 * u95 + a3)) (by decide +kernel) (by first | decide | omega) la3 (by first | decide | omega) (by first | decide | omega) ?_
              refine x_const (np := 83) (x := 9223372043297226753) (a := 2147483649) (by decide +kernel) (by decide) (by decide) ?_
              obtain ⟨v111, q112⟩ : ∃ z, z + 2147483649 = (240 * u89 + 20 * u95 + a3) + 2147483648 := ⟨(240 * u89 + 20 * u95 + a3) + 2147483648 - 2147483649, by first | decide | omega⟩
              refine x_isub (np := 84) (x := 0) (v := v111) (by decide +kernel) (by first | decide | omega) (by decide) (by first | decide | omega) (by first | decide | omega) ?_
              obtain ⟨u113, q114⟩ : ∃ z, v111 = 2147483648 + z := ⟨v111 - 2147483648, by first | decide | omega⟩
              have b115 := jB (e := u113) u113 j84 rg_86_0_1_1440 (by first | decide | omega) (by first | decide | omega)
              refine x_aldC (np := 85) (x := 0) (n := 1440) (i := u113) (q := (h83 86 u113)) (by decide +kernel) (by decide +kernel) (by first | decide | omega) (by first | decide | omega) (by decide) rfl (fun l116 => ?_)
              refine x_const (np := 86) (x := 9223372043297226753) (a := 2147483649) (by decide +kernel) (by decide) (by decide) ?_
              refine x_nI (t := 6) (mj := 161) (n := 3) (rc := 12) (ml := 3) (nr := 0) (np := 89) (as := [x_r 75, iv_c (h83 86 u113), iv_c 2147483649]) (rest := []) (lo1 := [x_r 75, iv_c (h83 86 u113), iv_c 2147483649]) (by decide +kernel) (by decide) (by decide +kernel) (x_rb_of (by decide +kernel)) rfl rfl (x_wr (by decide) (x_wi l116 (x_wi (by decide) x_wn))) x_wn (by decide) rfl ?_
              refine x_aload (np := 1) (x := 0) (by decide +kernel) rfl (x_nc_le (by decide)) ?_
              have q117 : h83 75 1 = 76 := by have z := jB (e := 1) 0 j84 rg_75_1_0_1 (by decide) (by decide); omega
              refine x_getR (np := 4) (x := 705) (f := 1) (q := 76) (by decide +kernel) (by decide) (by decide +kernel) q117 ?_
              refine x_const (np := 6) (x := 9223372124901605396) (a := 2147483668) (by decide +kernel) (by decide) (by decide) ?_
              refine x_const (np := 8) (x := 9223372069067030535) (a := 2147483655) (by decide +kernel) (by decide) (by decide) ?_
              refine x_iload (np := 9) (x := 1) (by decide +kernel) rfl l116 ?_
              obtain ⟨u118, q119⟩ : ∃ z, (h83 86 u113) = 2147483648 + z := ⟨(h83 86 u113) - 2147483648, by first | decide | omega⟩
              refine x_imul (np := 10) (x := 0) (i := 7) (j := u118) (v := (2147483648 + 7 * u118)) (by decide +kernel) (by first | decide | omega) (by first | decide | omega) (by first | decide | omega) (by first | decide | omega) (by decide) l116 ?_
              refine x_iadd (np := 11) (x := 0) (v := (2147483668 + 7 * u118)) (by decide +kernel) (by decide) (by first | decide | omega) (by first | decide | omega) (by first | decide | omega) ?_
              refine x_iload (np := 12) (x := 2) (by decide +kernel) rfl (by decide) ?_
              refine x_iadd (np := 13) (x := 0) (v := (2147483669 + 7 * u118)) (by decide +kernel) (by first | decide | omega) (by decide) (by first | decide | omega) (by first | decide | omega) ?_
              have q121 : h83 76 (21 + 7 * u118) = h1 76 (21 + 7 * u118) := jK u118 f85 rg_76_21_7_20 (by first | decide | omega) (by first | decide | omega) (by decide)
              have q122 : h1 76 (21 + 7 * u118) = h 76 (21 + 7 * u118) := by rw [← e3]; exact x_up_k (by decide)
              have b123 := jB (e := (21 + 7 * u118)) u118 hJ rg_76_21_7_20 (by first | decide | omega) (by first | decide | omega)
              refine x_aldC (np := 14) (x := 0) (n := 1952) (i := (21 + 7 * u118)) (q := ((h 76 (21 + 7 * u118)))) (by decide +kernel) (by decide +kernel) (by first | decide | omega) (by first | decide | omega) (by decide) (q121.trans q122) (fun l124 => ?_)
              refine x_retI (np := 15) (x := 0) (by decide +kernel) l124 (Or.inl (by decide +kernel)) ⟨_, rfl, l124, ?_⟩
              refine x_goto (np := 92) (x := 93) (by decide +kernel) ?_
              refine x_retI (np := 94) (x := 0) (by decide +kernel) l124 (Or.inl (by decide +kernel)) ⟨_, rfl, l124, ?_⟩
              exact ⟨j84, f88, (by first | decide | omega)⟩
            have q93 : ¬ (a3 ≠ 2147483648) := q93
            refine x_iload (np := 52) (x := 1) (by decide +kernel) rfl la1 ?_
            refine x_goto (np := 55) (x := 93) (by decide +kernel) ?_
            refine x_retI (np := 94) (x := 0) (by decide +kernel) la1 (Or.inl (by decide +kernel)) ⟨_, rfl, la1, ?_⟩
            exact ⟨j84, f88, (by first | decide | omega)⟩
          have q78 : ¬ (2147483648 = 2147483648) := q78
          exfalso; omega
        have q76 : ¬ (2147483648 = 2147483648) := q76
        exfalso; omega
      have q74 : ¬ (2147483648 = 2147483648) := q74
      exfalso; omega
    have q72 : ¬ (2147483649 ≠ 2147483648) := q72
    exfalso; omega
  have q40 : ¬ (2147483649 ≠ 2147483648) := q40
  exfalso; omega
set_option maxHeartbeats 0 in
/-- LentNamesModel.borneBy(II)I -/
theorem c217_75 {sc : Nat × Nat} {d a1 a2 : Nat} {h : xh} (hJ : J h) (ba1 : 2147483648 ≤ a1 ∧ a1 ≤ 2147483653) (ba2 : 2147483648 ≤ a2 ∧ a2 ≤ 2147483659) : X sc 217 (d + 1) (xI fun r h' => h' = h ∧ (2147483647 ≤ r ∧ r ≤ 2147483653)) 0 0 0 [x_r 75, iv_c a1, iv_c a2] [] h := by
  have la1 : a1 < 4294967296 := by first | decide | omega
  have la2 : a2 < 4294967296 := by first | decide | omega
  refine x_aload (np := 1) (x := 0) (by decide +kernel) rfl (x_nc_le (by decide)) ?_
  have q1 : h 75 24 = 91 := by have z := jB (e := 24) 0 hJ rg_75_24_0_1 (by decide) (by decide); omega
  refine x_getR (np := 4) (x := 728) (f := 24) (q := 91) (by decide +kernel) (by decide) (by decide +kernel) q1 ?_
  refine x_const (np := 6) (x := 9223372090541867020) (a := 2147483660) (by decide +kernel) (by decide) (by decide) ?_
  refine x_iload (np := 7) (x := 1) (by decide +kernel) rfl la1 ?_
  obtain ⟨u2, q3⟩ : ∃ z, a1 = 2147483648 + z := ⟨a1 - 2147483648, by first | decide | omega⟩
  refine x_imul (np := 8) (x := 0) (i := 12) (j := u2) (v := (2147483648 + 12 * u2)) (by decide +kernel) (by first | decide | omega) (by first | decide | omega) (by first | decide | omega) (by first | decide | omega) (by decide) la1 ?_
  refine x_iload (np := 9) (x := 2) (by decide +kernel) rfl la2 ?_
  refine x_iadd (np := 10) (x := 0) (v := (12 * u2 + a2)) (by decide +kernel) (by first | decide | omega) la2 (by first | decide | omega) (by first | decide | omega) ?_
  obtain ⟨u5, q6⟩ : ∃ z, a2 = 2147483648 + z := ⟨a2 - 2147483648, by first | decide | omega⟩
  have b7 := jB (e := (12 * u2 + u5)) (12 * u2 + u5) hJ rg_91_0_1_72 (by first | decide | omega) (by first | decide | omega)
  refine x_aldC (np := 11) (x := 0) (n := 72) (i := (12 * u2 + u5)) (q := ((h 91 (12 * u2 + u5)))) (by decide +kernel) (by decide +kernel) (by first | decide | omega) (by first | decide | omega) (by decide) rfl (fun l8 => ?_)
  refine x_ifz (k := 2) (tg := 28) (np := 14) (by decide +kernel) (by decide) l8 (fun q9 => ?_) (fun q10 => ?_)
  · have q9 : ((h 91 (12 * u2 + u5))) < 2147483648 := q9
    refine x_aload (np := 29) (x := 0) (by decide +kernel) rfl (x_nc_le (by decide)) ?_
    refine x_iload (np := 30) (x := 1) (by decide +kernel) rfl la1 ?_
    refine x_iload (np := 31) (x := 2) (by decide +kernel) rfl la2 ?_
    refine x_nI (t := 6) (mj := 211) (n := 3) (rc := 12) (ml := 3) (nr := 0) (np := 34) (as := [x_r 75, iv_c a1, iv_c a2]) (rest := []) (lo1 := [x_r 75, iv_c a1, iv_c a2]) (by decide +kernel) (by decide) (by decide +kernel) (x_rb_of (by decide +kernel)) rfl rfl (x_wr (by decide) (x_wi la1 (x_wi la2 x_wn))) x_wn (by decide) rfl ?_
    refine x_aload (np := 1) (x := 0) (by decide +kernel) rfl (x_nc_le (by decide)) ?_
    have q11 : h 75 20 = 87 := by have z := jB (e := 20) 0 hJ rg_75_20_0_1 (by decide) (by decide); omega
    refine x_getR (np := 4) (x := 724) (f := 20) (q := 87) (by decide +kernel) (by decide) (by decide +kernel) q11 ?_
    refine x_const (np := 6) (x := 9223372090541867020) (a := 2147483660) (by decide +kernel) (by decide) (by decide) ?_
    refine x_iload (np := 7) (x := 1) (by decide +kernel) rfl la1 ?_
    refine x_imul (np := 8) (x := 0) (i := 12) (j := u2) (v := (2147483648 + 12 * u2)) (by decide +kernel) (by first | decide | omega) (by first | decide | omega) (by first | decide | omega) (by first | decide | omega) (by decide) la1 ?_
    refine x_iload (np := 9) (x := 2) (by decide +kernel) rfl la2 ?_
    refine x_iadd (np := 10) (x := 0) (v := (12 * u2 + a2)) (by decide +kernel) (by first | decide | omega) la2 (by first | decide | omega) (by first | decide | omega) ?_
    have b13 := jB (e := (12 * u2 + u5)) (12 * u2 + u5) hJ rg_87_0_1_72 (by first | decide | omega) (by first | decide | omega)
    refine x_aldC (np := 11) (x := 0) (n := 72) (i := (12 * u2 + u5)) (q := ((h 87 (12 * u2 + u5)))) (by decide +kernel) (by decide +kernel) (by first | decide | omega) (by first | decide | omega) (by decide) rfl (fun l14 => ?_)
    refine x_retI (np := 12) (x := 0) (by decide +kernel) l14 (Or.inl (by decide +kernel)) ⟨_, rfl, l14, ?_⟩
    refine x_retI (np := 35) (x := 0) (by decide +kernel) l14 (Or.inl (by decide +kernel)) ⟨_, rfl, l14, ?_⟩
    exact ⟨rfl, (by first | decide | omega)⟩
  have q10 : ¬ (((h 91 (12 * u2 + u5))) < 2147483648) := q10
  refine x_aload (np := 15) (x := 0) (by decide +kernel) rfl (x_nc_le (by decide)) ?_
  have q15 : h 75 24 = 91 := by have z := jB (e := 24) 0 hJ rg_75_24_0_1 (by decide) (by decide); omega
  refine x_getR (np := 18) (x := 728) (f := 24) (q := 91) (by decide +kernel) (by decide) (by decide +kernel) q15 ?_
  refine x_const (np := 20) (x := 9223372090541867020) (a := 2147483660) (by decide +kernel) (by decide) (by decide) ?_
  refine x_iload (np := 21) (x := 1) (by decide +kernel) rfl la1 ?_
  refine x_imul (np := 22) (x := 0) (i := 12) (j := u2) (v := (2147483648 + 12 * u2)) (by decide +kernel) (by first | decide | omega) (by first | decide | omega) (by first | decide | omega) (by first | decide | omega) (by decide) la1 ?_
  refine x_iload (np := 23) (x := 2) (by decide +kernel) rfl la2 ?_
  refine x_iadd (np := 24) (x := 0) (v := (12 * u2 + a2)) (by decide +kernel) (by first | decide | omega) la2 (by first | decide | omega) (by first | decide | omega) ?_
  refine x_aldC (np := 25) (x := 0) (n := 72) (i := (12 * u2 + u5)) (q := ((h 91 (12 * u2 + u5)))) (by decide +kernel) (by decide +kernel) (by first | decide | omega) (by first | decide | omega) (by decide) rfl (fun l17 => ?_)
  refine x_goto (np := 28) (x := 34) (by decide +kernel) ?_
  refine x_retI (np := 35) (x := 0) (by decide +kernel) l8 (Or.inl (by decide +kernel)) ⟨_, rfl, l8, ?_⟩
  exact ⟨rfl, (by first | decide | omega)⟩
set_option maxHeartbeats 0 in
/-- LentNamesModel.isNameless(II)Z -/
theorem c218_75 {sc : Nat × Nat} {d a1 a2 : Nat} {h : xh} (hJ : J h) (ba1 : 2147483648 ≤ a1 ∧ a1 ≤ 2147483653) (ba2 : 2147483648 ≤ a2 ∧ a2 ≤ 2147483659) : X sc 218 (d + 2) (xI fun r h' => h' = h ∧ (2147483648 ≤ r ∧ r ≤ 2147483649)) 0 0 0 [x_r 75, iv_c a1, iv_c a2, 147573952589676412928, 147573952589676412928] [] h := by
  have la1 : a1 < 4294967296 := by first | decide | omega
  have la2 : a2 < 4294967296 := by first | decide | omega
  refine x_const (np := 1) (x := 9223372039002259456) (a := 2147483648) (by decide +kernel) (by decide) (by decide) ?_
  refine x_istore (np := 2) (x := 3) (lo' := [x_r 75, iv_c a1, iv_c a2, iv_c 2147483648, 147573952589676412928]) (by decide +kernel) (by decide) (Nat.le_of_ble_eq_true rfl) rfl ?_
  refine x_const (np := 3) (x := 9223372039002259456) (a := 2147483648) (by decide +kernel) (by decide) (by decide) ?_
  refine x_istore (np := 5) (x := 4) (lo' := [x_r 75, iv_c a1, iv_c a2, iv_c 2147483648, iv_c 2147483648]) (by decide +kernel) (by decide) (Nat.le_of_ble_eq_true rfl) rfl ?_
  have p101 : ∀ (n : Nat) (v97 : Nat) (v99 : Nat), 4294967296 - v99 < n → (2147483648 ≤ v97 ∧ v97 ≤ 2147483649) → (2147483648 ≤ v99 ∧ v99 ≤ 2147483654) → X sc 218 (d + 2) (xI fun r h' => h' = h ∧ (2147483648 ≤ r ∧ r ≤ 2147483649)) 0 0 5 [x_r 75, iv_c a1, iv_c a2, iv_c v97, iv_c v99] [] h := by
    intro n
    induction n with
    | zero => intro v97 v99 q102; exact absurd q102 (Nat.not_lt_zero _)
    | succ n i103 =>
      intro v97 v99 q102 b98 b100
      refine x_iload (np := 7) (x := 4) (by decide +kernel) rfl (by first | decide | omega) ?_
      refine x_aload (np := 8) (x := 0) (by decide +kernel) rfl (x_nc_le (by decide)) ?_
      refine x_nI (t := 6) (mj := 157) (n := 1) (rc := 12) (ml := 1) (nr := 1) (np := 11) (as := [x_r 75]) (rest := [iv_c v99]) (lo1 := [x_r 75]) (by decide +kernel) (by decide) (by decide +kernel) (x_rb_of (by decide +kernel)) rfl rfl (x_wr (by decide) x_wn) (x_wi (by first | decide | omega) x_wn) (by decide) rfl ?_
      refine x_aload (np := 1) (x := 0) (by decide +kernel) rfl (x_nc_le (by decide)) ?_
      have q104 : h 75 1 = 76 := by have z := jB (e := 1) 0 hJ rg_75_1_0_1 (by decide) (by decide); omega
      refine x_getR (np := 4) (x := 705) (f := 1) (q := 76) (by decide +kernel) (by decide) (by decide +kernel) q104 ?_
      refine x_const (np := 5) (x := 9223372039002259456) (a := 2147483648) (by decide +kernel) (by decide) (by decide) ?_
      have b105 := jB (e := 0) 0 hJ rg_76_0_0_1 (by first | decide | omega) (by first | decide | omega)
      refine x_aldC (np := 6) (x := 0) (n := 1952) (i := 0) (q := (h 76 0)) (by decide +kernel) (by decide +kernel) (by first | decide | omega) (by first | decide | omega) (by decide) rfl (fun l106 => ?_)
      refine x_retI (np := 7) (x := 0) (by decide +kernel) l106 (Or.inl (by decide +kernel)) ⟨_, rfl, l106, ?_⟩
      refine x_icmp (k := 3) (tg := 41) (np := 14) (by decide +kernel) (by decide) (by first | decide | omega) l106 (fun q107 => ?_) (fun q108 => ?_)
      · have q107 : (h 76 0) ≤ v99 := q107
        refine x_aload (np := 42) (x := 0) (by decide +kernel) rfl (x_nc_le (by decide)) ?_
        refine x_iload (np := 43) (x := 1) (by decide +kernel) rfl la1 ?_
        refine x_iload (np := 44) (x := 2) (by decide +kernel) rfl la2 ?_
        refine x_cP (t := 6) (mj := 200) (n := 3) (rc := 12) (ml := 3) (nr := 0) (np := 47) (as := [x_r 75, iv_c a1, iv_c a2]) (rest := []) (lo1 := [x_r 75, iv_c a1, iv_c a2]) (by decide +kernel) (by decide) (by decide +kernel) (x_rb_of (by decide +kernel)) rfl rfl (x_wr (by decide) (x_wi la1 (x_wi la2 x_wn))) x_wn (by decide) rfl (c200_75 hJ  (by first | decide | omega) (by first | decide | omega)) (fun v109 l110 q111 => ?_)
        refine x_ifz (k := 0) (tg := 58) (np := 50) (by decide +kernel) (by decide) l110 (fun q112 => ?_) (fun q113 => ?_)
        · have q112 : v109 = 2147483648 := q112
          refine x_const (np := 59) (x := 9223372039002259456) (a := 2147483648) (by decide +kernel) (by decide) (by decide) ?_
          refine x_retI (np := 60) (x := 0) (by decide +kernel) (by decide) (Or.inr ⟨by decide +kernel, by first | decide | omega, by first | decide | omega⟩) ⟨_, rfl, (by decide), ?_⟩
          exact ⟨rfl, (by first | decide | omega)⟩
        have q113 : ¬ (v109 = 2147483648) := q113
        refine x_iload (np := 51) (x := 3) (by decide +kernel) rfl (by first | decide | omega) ?_
        refine x_ifz (k := 1) (tg := 58) (np := 54) (by decide +kernel) (by decide) (by first | decide | omega) (fun q114 => ?_) (fun q115 => ?_)
        · have q114 : v97 ≠ 2147483648 := q114
          refine x_const (np := 59) (x := 9223372039002259456) (a := 2147483648) (by decide +kernel) (by decide) (by decide) ?_
          refine x_retI (np := 60) (x := 0) (by decide +kernel) (by decide) (Or.inr ⟨by decide +kernel, by first | decide | omega, by first | decide | omega⟩) ⟨_, rfl, (by decide), ?_⟩
          exact ⟨rfl, (by first | decide | omega)⟩
        have q115 : ¬ (v97 ≠ 2147483648) := q115
        refine x_const (np := 55) (x := 9223372043297226753) (a := 2147483649) (by decide +kernel) (by decide) (by decide) ?_
        refine x_goto (np := 58) (x := 59) (by decide +kernel) ?_
        refine x_retI (np := 60) (x := 0) (by decide +kernel) (by decide) (Or.inr ⟨by decide +kernel, by first | decide | omega, by first | decide | omega⟩) ⟨_, rfl, (by decide), ?_⟩
        exact ⟨rfl, (by first | decide | omega)⟩
      have q108 : ¬ ((h 76 0) ≤ v99) := q108
      refine x_iload (np := 15) (x := 3) (by decide +kernel) rfl (by first | decide | omega) ?_
      refine x_ifz (k := 1) (tg := 29) (np := 18) (by decide +kernel) (by decide) (by first | decide | omega) (fun q116 => ?_) (fun q117 => ?_)
      · have q116 : v97 ≠ 2147483648 := q116
        refine x_const (np := 30) (x := 9223372043297226753) (a := 2147483649) (by decide +kernel) (by decide) (by decide) ?_
        refine x_goto (np := 33) (x := 34) (by decide +kernel) ?_
        refine x_istore (np := 35) (x := 3) (lo' := [x_r 75, iv_c a1, iv_c a2, iv_c 2147483649, iv_c v99]) (by decide +kernel) (by decide) (Nat.le_of_ble_eq_true rfl) rfl ?_
        refine x_iinc (np := 38) (i := 4) (j := 2147483649) (v := (1 + v99)) (lo' := [x_r 75, iv_c a1, iv_c a2, iv_c 2147483649, iv_c (1 + v99)]) (by decide +kernel) (by decide) (by decide) rfl (by first | decide | omega) (by first | decide | omega) (by first | decide | omega) rfl ?_
        refine x_goto (np := 41) (x := 5) (by decide +kernel) ?_
        exact i103 2147483649 (1 + v99) (by first | decide | omega) (by first | decide | omega) (by first | decide | omega)
      have q117 : ¬ (v97 ≠ 2147483648) := q117
      refine x_aload (np := 19) (x := 0) (by decide +kernel) rfl (x_nc_le (by decide)) ?_
      refine x_iload (np := 21) (x := 4) (by decide +kernel) rfl (by first | decide | omega) ?_
      refine x_iload (np := 22) (x := 2) (by decide +kernel) rfl la2 ?_
      refine x_cP (t := 6) (mj := 217) (n := 3) (rc := 12) (ml := 3) (nr := 0) (np := 25) (as := [x_r 75, iv_c v99, iv_c a2]) (rest := []) (lo1 := [x_r 75, iv_c v99, iv_c a2]) (by decide +kernel) (by decide) (by decide +kernel) (x_rb_of (by decide +kernel)) rfl rfl (x_wr (by decide) (x_wi (by first | decide | omega) (x_wi la2 x_wn))) x_wn (by decide) rfl (c217_75 hJ  (by first | decide | omega) (by first | decide | omega)) (fun v118 l119 q120 => ?_)
      refine x_iload (np := 26) (x := 1) (by decide +kernel) rfl la1 ?_
      refine x_icmp (k := 1) (tg := 33) (np := 29) (by decide +kernel) (by decide) l119 la1 (fun q121 => ?_) (fun q122 => ?_)
      · have q121 : v118 ≠ a1 := q121
        refine x_const (np := 34) (x := 9223372039002259456) (a := 2147483648) (by decide +kernel) (by decide) (by decide) ?_
        refine x_istore (np := 35) (x := 3) (lo' := [x_r 75, iv_c a1, iv_c a2, iv_c 2147483648, iv_c v99]) (by decide +kernel) (by decide) (Nat.le_of_ble_eq_true rfl) rfl ?_
        refine x_iinc (np := 38) (i := 4) (j := 2147483649) (v := (1 + v99)) (lo' := [x_r 75, iv_c a1, iv_c a2, iv_c 2147483648, iv_c (1 + v99)]) (by decide +kernel) (by decide) (by decide) rfl (by first | decide | omega) (by first | decide | omega) (by first | decide | omega) rfl ?_
        refine x_goto (np := 41) (x := 5) (by decide +kernel) ?_
        exact i103 2147483648 (1 + v99) (by first | decide | omega) (by first | decide | omega) (by first | decide | omega)
      have q122 : ¬ (v118 ≠ a1) := q122
      refine x_const (np := 30) (x := 9223372043297226753) (a := 2147483649) (by decide +kernel) (by decide) (by decide) ?_
      refine x_goto (np := 33) (x := 34) (by decide +kernel) ?_
      refine x_istore (np := 35) (x := 3) (lo' := [x_r 75, iv_c a1, iv_c a2, iv_c 2147483649, iv_c v99]) (by decide +kernel) (by decide) (Nat.le_of_ble_eq_true rfl) rfl ?_
      refine x_iinc (np := 38) (i := 4) (j := 2147483649) (v := (1 + v99)) (lo' := [x_r 75, iv_c a1, iv_c a2, iv_c 2147483649, iv_c (1 + v99)]) (by decide +kernel) (by decide) (by decide) rfl (by first | decide | omega) (by first | decide | omega) (by first | decide | omega) rfl ?_
      refine x_goto (np := 41) (x := 5) (by decide +kernel) ?_
      exact i103 2147483649 (1 + v99) (by first | decide | omega) (by first | decide | omega) (by first | decide | omega)
  exact p101 _ 2147483648 2147483648 (Nat.lt_succ_self _) (by first | decide | omega) (by first | decide | omega)
set_option maxHeartbeats 0 in
/-- LentNamesModel.nameless(I)I -/
theorem c219_75 {sc : Nat × Nat} {d a1 : Nat} {h : xh} (hJ : J h) (ba1 : 0 ≤ a1 ∧ a1 ≤ 4294967295) (hW : WT 76 h) : X sc 219 (d + 5) (xI fun r h' => J h' ∧ Fr 135291600897 h h' ∧ (0 ≤ r ∧ r ≤ 4294967295)) 0 0 0 [x_r 75, iv_c a1, 147573952589676412928, 147573952589676412928] [] h := by
  have la1 : a1 < 4294967296 := by first | decide | omega
  have hF := Fr.refl 135291600897 h
  refine x_aload (np := 1) (x := 0) (by decide +kernel) rfl (x_nc_le (by decide)) ?_
  refine x_const (np := 2) (x := 9223372039002259456) (a := 2147483648) (by decide +kernel) (by decide) (by decide) ?_
  refine x_putI (np := 5) (x := 704) (f := 0) (by decide +kernel) (by decide +kernel) (by decide) (Or.inl (by decide)) ?_
  have j2 := jU (e := 0) (v := 2147483648) 0 hJ rg_75_0_0_1 (by first | decide | omega) (by first | decide | omega) (by first | decide | omega)
  have f4 := jF (e := 0) (v := 2147483648) 0 hF rg_75_0_0_1 (by first | decide | omega) (by first | decide | omega) (by decide)
  generalize e3 : x_up h 75 0 2147483648 = h1 at j2 f4 ⊢
  refine x_aload (np := 6) (x := 0) (by decide +kernel) rfl (x_nc_le (by decide)) ?_
  refine x_aload (np := 7) (x := 0) (by decide +kernel) rfl (x_nc_le (by decide)) ?_
  refine x_iload (np := 8) (x := 1) (by decide +kernel) rfl la1 ?_
  refine x_nI (t := 6) (mj := 159) (n := 2) (rc := 12) (ml := 2) (nr := 1) (np := 11) (as := [x_r 75, iv_c a1]) (rest := [x_r 75]) (lo1 := [x_r 75, iv_c a1]) (by decide +kernel) (by decide) (by decide +kernel) (x_rb_of (by decide +kernel)) rfl rfl (x_wr (by decide) (x_wi la1 x_wn)) (x_wr (by decide) x_wn) (by decide) rfl ?_
  refine x_aload (np := 1) (x := 0) (by decide +kernel) rfl (x_nc_le (by decide)) ?_
  refine x_iload (np := 2) (x := 1) (by decide +kernel) rfl la1 ?_
  refine x_const (np := 3) (x := 9223372039002259456) (a := 2147483648) (by decide +kernel) (by decide) (by decide) ?_
  refine x_nI (t := 6) (mj := 158) (n := 3) (rc := 12) (ml := 3) (nr := 0) (np := 6) (as := [x_r 75, iv_c a1, iv_c 2147483648]) (rest := []) (lo1 := [x_r 75, iv_c a1, iv_c 2147483648]) (by decide +kernel) (by decide) (by decide +kernel) (x_rb_of (by decide +kernel)) rfl rfl (x_wr (by decide) (x_wi la1 (x_wi (by decide) x_wn))) x_wn (by decide) rfl ?_
  refine x_iload (np := 1) (x := 1) (by decide +kernel) rfl la1 ?_
  refine x_const (np := 2) (x := 9223372039002259456) (a := 2147483648) (by decide +kernel) (by decide) (by decide) ?_
  refine x_aload (np := 3) (x := 0) (by decide +kernel) rfl (x_nc_le (by decide)) ?_
  have q5 : h1 75 1 = 76 := by have z := jB (e := 1) 0 j2 rg_75_1_0_1 (by decide) (by decide); omega
  refine x_getR (np := 6) (x := 705) (f := 1) (q := 76) (by decide +kernel) (by decide) (by decide +kernel) q5 ?_
  refine x_iload (np := 7) (x := 2) (by decide +kernel) rfl (by decide) ?_
  have q6 : h1 76 0 = h 76 0 := by rw [← e3]; exact x_up_k (by decide)
  have b7 := jB (e := 0) 0 hJ rg_76_0_0_1 (by first | decide | omega) (by first | decide | omega)
  refine x_aldC (np := 8) (x := 0) (n := 1952) (i := 0) (q := (h 76 0)) (by decide +kernel) (by decide +kernel) (by first | decide | omega) (by first | decide | omega) (by decide) q6 (fun l8 => ?_)
  refine x_const (np := 9) (x := 9223372043297226753) (a := 2147483649) (by decide +kernel) (by decide) (by decide) ?_
  obtain ⟨v9, q10⟩ : ∃ z, z + 2147483649 = (h 76 0) + 2147483648 := ⟨(h 76 0) + 2147483648 - 2147483649, by first | decide | omega⟩
  refine x_isub (np := 10) (x := 0) (v := v9) (by decide +kernel) l8 (by decide) (by first | decide | omega) (by first | decide | omega) ?_
  refine x_nI (t := 0) (mj := 153) (n := 3) (rc := 0) (ml := 3) (nr := 0) (np := 13) (as := [iv_c a1, iv_c 2147483648, iv_c v9]) (rest := []) (lo1 := [iv_c a1, iv_c 2147483648, iv_c v9]) (by decide +kernel) (by decide) (by decide +kernel) (Or.inl rfl) rfl rfl (x_wi la1 (x_wi (by decide) (x_wi (by first | decide | omega) x_wn))) x_wn (by decide) rfl ?_
  refine x_iload (np := 1) (x := 0) (by decide +kernel) rfl la1 ?_
  refine x_iload (np := 2) (x := 1) (by decide +kernel) rfl (by decide) ?_
  refine x_icmp (k := 2) (tg := 14) (np := 5) (by decide +kernel) (by decide) la1 (by decide) (fun q11 => ?_) (fun q12 => ?_)
  · have q11 : a1 < 2147483648 := q11
    refine x_const (np := 15) (x := 9223372039002259456) (a := 2147483648) (by decide +kernel) (by decide) (by decide) ?_
    refine x_retI (np := 16) (x := 0) (by decide +kernel) (by decide) (Or.inr ⟨by decide +kernel, by first | decide | omega, by first | decide | omega⟩) ⟨_, rfl, (by decide), ?_⟩
    refine x_ifz (k := 1) (tg := 20) (np := 16) (by decide +kernel) (by decide) (by decide) (fun q13 => ?_) (fun q14 => ?_)
    · have q13 : 2147483648 ≠ 2147483648 := q13
      exfalso; omega
    have q14 : ¬ (2147483648 ≠ 2147483648) := q14
    refine x_const (np := 17) (x := 9223372043297226753) (a := 2147483649) (by decide +kernel) (by decide) (by decide) ?_
    refine x_goto (np := 20) (x := 21) (by decide +kernel) ?_
    refine x_retI (np := 22) (x := 0) (by decide +kernel) (by decide) (Or.inr ⟨by decide +kernel, by first | decide | omega, by first | decide | omega⟩) ⟨_, rfl, (by decide), ?_⟩
    refine x_retI (np := 7) (x := 0) (by decide +kernel) (by decide) (Or.inr ⟨by decide +kernel, by first | decide | omega, by first | decide | omega⟩) ⟨_, rfl, (by decide), ?_⟩
    refine x_const (np := 12) (x := 9223372043297226753) (a := 2147483649) (by decide +kernel) (by decide) (by decide) ?_
    refine x_nI (t := 6) (mj := 152) (n := 3) (rc := 12) (ml := 3) (nr := 0) (np := 15) (as := [x_r 75, iv_c 2147483649, iv_c 2147483649]) (rest := []) (lo1 := [x_r 75, iv_c 2147483649, iv_c 2147483649]) (by decide +kernel) (by decide) (by decide +kernel) (x_rb_of (by decide +kernel)) rfl rfl (x_wr (by decide) (x_wi (by decide) (x_wi (by decide) x_wn))) x_wn (by decide) rfl ?_
    refine x_iload (np := 1) (x := 1) (by decide +kernel) rfl (by decide) ?_
    refine x_ifz (k := 0) (tg := 9) (np := 4) (by decide +kernel) (by decide) (by decide) (fun q15 => ?_) (fun q16 => ?_)
    · have q15 : 2147483649 = 2147483648 := q15
      exfalso; omega
    have q16 : ¬ (2147483649 = 2147483648) := q16
    refine x_aload (np := 5) (x := 0) (by decide +kernel) rfl (x_nc_le (by decide)) ?_
    refine x_iload (np := 6) (x := 2) (by decide +kernel) rfl (by decide) ?_
    refine x_putI (np := 9) (x := 704) (f := 0) (by decide +kernel) (by decide +kernel) (by decide) (Or.inl (by decide)) ?_
    have j18 := jU (e := 0) (v := 2147483649) 0 j2 rg_75_0_0_1 (by first | decide | omega) (by first | decide | omega) (by first | decide | omega)
    have f20 := jF (e := 0) (v := 2147483649) 0 f4 rg_75_0_0_1 (by first | decide | omega) (by first | decide | omega) (by decide)
    generalize e19 : x_up h1 75 0 2147483649 = h17 at j18 f20 ⊢
    refine x_iload (np := 10) (x := 1) (by decide +kernel) rfl (by decide) ?_
    refine x_retI (np := 11) (x := 0) (by decide +kernel) (by decide) (Or.inr ⟨by decide +kernel, by first | decide | omega, by first | decide | omega⟩) ⟨_, rfl, (by decide), ?_⟩
    refine x_ifz (k := 0) (tg := 20) (np := 18) (by decide +kernel) (by decide) (by decide) (fun q21 => ?_) (fun q22 => ?_)
    · have q21 : 2147483649 = 2147483648 := q21
      exfalso; omega
    have q22 : ¬ (2147483649 = 2147483648) := q22
    refine x_const (np := 19) (x := 9223372039002259456) (a := 2147483648) (by decide +kernel) (by decide) (by decide) ?_
    refine x_retI (np := 20) (x := 0) (by decide +kernel) (by decide) (Or.inl (by decide +kernel)) ⟨_, rfl, (by decide), ?_⟩
    exact ⟨j18, f20, (by first | decide | omega)⟩
  have q12 : ¬ (a1 < 2147483648) := q12
  refine x_iload (np := 6) (x := 0) (by decide +kernel) rfl la1 ?_
  refine x_iload (np := 7) (x := 2) (by decide +kernel) rfl (by first | decide | omega) ?_
  refine x_icmp (k := 4) (tg := 14) (np := 10) (by decide +kernel) (by decide) la1 (by first | decide | omega) (fun q23 => ?_) (fun q24 => ?_)
  · have q23 : v9 < a1 := q23
    refine x_const (np := 15) (x := 9223372039002259456) (a := 2147483648) (by decide +kernel) (by decide) (by decide) ?_
    refine x_retI (np := 16) (x := 0) (by decide +kernel) (by decide) (Or.inr ⟨by decide +kernel, by first | decide | omega, by first | decide | omega⟩) ⟨_, rfl, (by decide), ?_⟩
    refine x_ifz (k := 1) (tg := 20) (np := 16) (by decide +kernel) (by decide) (by decide) (fun q25 => ?_) (fun q26 => ?_)
    · have q25 : 2147483648 ≠ 2147483648 := q25
      exfalso; omega
    have q26 : ¬ (2147483648 ≠ 2147483648) := q26
    refine x_const (np := 17) (x := 9223372043297226753) (a := 2147483649) (by decide +kernel) (by decide) (by decide) ?_
    refine x_goto (np := 20) (x := 21) (by decide +kernel) ?_
    refine x_retI (np := 22) (x := 0) (by decide +kernel) (by decide) (Or.inr ⟨by decide +kernel, by first | decide | omega, by first | decide | omega⟩) ⟨_, rfl, (by decide), ?_⟩
    refine x_retI (np := 7) (x := 0) (by decide +kernel) (by decide) (Or.inr ⟨by decide +kernel, by first | decide | omega, by first | decide | omega⟩) ⟨_, rfl, (by decide), ?_⟩
    refine x_const (np := 12) (x := 9223372043297226753) (a := 2147483649) (by decide +kernel) (by decide) (by decide) ?_
    refine x_nI (t := 6) (mj := 152) (n := 3) (rc := 12) (ml := 3) (nr := 0) (np := 15) (as := [x_r 75, iv_c 2147483649, iv_c 2147483649]) (rest := []) (lo1 := [x_r 75, iv_c 2147483649, iv_c 2147483649]) (by decide +kernel) (by decide) (by decide +kernel) (x_rb_of (by decide +kernel)) rfl rfl (x_wr (by decide) (x_wi (by decide) (x_wi (by decide) x_wn))) x_wn (by decide) rfl ?_
    refine x_iload (np := 1) (x := 1) (by decide +kernel) rfl (by decide) ?_
    refine x_ifz (k := 0) (tg := 9) (np := 4) (by decide +kernel) (by decide) (by decide) (fun q27 => ?_) (fun q28 => ?_)
    · have q27 : 2147483649 = 2147483648 := q27
      exfalso; omega
    have q28 : ¬ (2147483649 = 2147483648) := q28
    refine x_aload (np := 5) (x := 0) (by decide +kernel) rfl (x_nc_le (by decide)) ?_
    refine x_iload (np := 6) (x := 2) (by decide +kernel) rfl (by decide) ?_
    refine x_putI (np := 9) (x := 704) (f := 0) (by decide +kernel) (by decide +kernel) (by decide) (Or.inl (by decide)) ?_
    have j30 := jU (e := 0) (v := 2147483649) 0 j2 rg_75_0_0_1 (by first | decide | omega) (by first | decide | omega) (by first | decide | omega)
    have f32 := jF (e := 0) (v := 2147483649) 0 f4 rg_75_0_0_1 (by first | decide | omega) (by first | decide | omega) (by decide)
    generalize e31 : x_up h1 75 0 2147483649 = h29 at j30 f32 ⊢
    refine x_iload (np := 10) (x := 1) (by decide +kernel) rfl (by decide) ?_
    refine x_retI (np := 11) (x := 0) (by decide +kernel) (by decide) (Or.inr ⟨by decide +kernel, by first | decide | omega, by first | decide | omega⟩) ⟨_, rfl, (by decide), ?_⟩
    refine x_ifz (k := 0) (tg := 20) (np := 18) (by decide +kernel) (by decide) (by decide) (fun q33 => ?_) (fun q34 => ?_)
    · have q33 : 2147483649 = 2147483648 := q33
      exfalso; omega
    have q34 : ¬ (2147483649 = 2147483648) := q34
    refine x_const (np := 19) (x := 9223372039002259456) (a := 2147483648) (by decide +kernel) (by decide) (by decide) ?_
    refine x_retI (np := 20) (x := 0) (by decide +kernel) (by decide) (Or.inl (by decide +kernel)) ⟨_, rfl, (by decide), ?_⟩
    exact ⟨j30, f32, (by first | decide | omega)⟩
  have q24 : ¬ (v9 < a1) := q24
  refine x_const (np := 11) (x := 9223372043297226753) (a := 2147483649) (by decide +kernel) (by decide) (by decide) ?_
  refine x_goto (np := 14) (x := 15) (by decide +kernel) ?_
  refine x_retI (np := 16) (x := 0) (by decide +kernel) (by decide) (Or.inr ⟨by decide +kernel, by first | decide | omega, by first | decide | omega⟩) ⟨_, rfl, (by decide), ?_⟩
  refine x_ifz (k := 1) (tg := 20) (np := 16) (by decide +kernel) (by decide) (by decide) (fun q35 => ?_) (fun q36 => ?_)
  · have q35 : 2147483649 ≠ 2147483648 := q35
    refine x_const (np := 21) (x := 9223372039002259456) (a := 2147483648) (by decide +kernel) (by decide) (by decide) ?_
    refine x_retI (np := 22) (x := 0) (by decide +kernel) (by decide) (Or.inr ⟨by decide +kernel, by first | decide | omega, by first | decide | omega⟩) ⟨_, rfl, (by decide), ?_⟩
    refine x_retI (np := 7) (x := 0) (by decide +kernel) (by decide) (Or.inr ⟨by decide +kernel, by first | decide | omega, by first | decide | omega⟩) ⟨_, rfl, (by decide), ?_⟩
    refine x_const (np := 12) (x := 9223372043297226753) (a := 2147483649) (by decide +kernel) (by decide) (by decide) ?_
    refine x_nI (t := 6) (mj := 152) (n := 3) (rc := 12) (ml := 3) (nr := 0) (np := 15) (as := [x_r 75, iv_c 2147483648, iv_c 2147483649]) (rest := []) (lo1 := [x_r 75, iv_c 2147483648, iv_c 2147483649]) (by decide +kernel) (by decide) (by decide +kernel) (x_rb_of (by decide +kernel)) rfl rfl (x_wr (by decide) (x_wi (by decide) (x_wi (by decide) x_wn))) x_wn (by decide) rfl ?_
    refine x_iload (np := 1) (x := 1) (by decide +kernel) rfl (by decide) ?_
    refine x_ifz (k := 0) (tg := 9) (np := 4) (by decide +kernel) (by decide) (by decide) (fun q37 => ?_) (fun q38 => ?_)
    · have q37 : 2147483648 = 2147483648 := q37
      refine x_iload (np := 10) (x := 1) (by decide +kernel) rfl (by decide) ?_
      refine x_retI (np := 11) (x := 0) (by decide +kernel) (by decide) (Or.inr ⟨by decide +kernel, by first | decide | omega, by first | decide | omega⟩) ⟨_, rfl, (by decide), ?_⟩
      refine x_ifz (k := 0) (tg := 20) (np := 18) (by decide +kernel) (by decide) (by decide) (fun q39 => ?_) (fun q40 => ?_)
      · have q39 : 2147483648 = 2147483648 := q39
        refine x_aload (np := 21) (x := 0) (by decide +kernel) rfl (x_nc_le (by decide)) ?_
        have m44 : WT 76 h1 := by rw [← e3]; exact WT.oth hW hJ (by decide)
        refine x_cV (t := 6) (mj := 210) (n := 1) (rc := 12) (ml := 5) (nr := 0) (np := 24) (as := [x_r 75]) (rest := []) (lo1 := [x_r 75, 147573952589676412928, 147573952589676412928, 147573952589676412928, 147573952589676412928]) (by decide +kernel) (by decide) (by decide +kernel) (x_rb_of (by decide +kernel)) rfl rfl (x_wr (by decide) x_wn) x_wn (by decide) rfl (c210_75 j2  m44) (fun h45 q43 => ?_)
        obtain ⟨j46, f47⟩ := q43
        have f50 := Fr.trans f4 f47 (by decide)
        refine x_const (np := 25) (x := 9223372039002259456) (a := 2147483648) (by decide +kernel) (by decide) (by decide) ?_
        refine x_istore (np := 26) (x := 2) (lo' := [x_r 75, iv_c a1, iv_c 2147483648, 147573952589676412928]) (by decide +kernel) (by decide) (Nat.le_of_ble_eq_true rfl) rfl ?_
        refine x_const (np := 27) (x := 9223372039002259456) (a := 2147483648) (by decide +kernel) (by decide) (by decide) ?_
        refine x_istore (np := 28) (x := 3) (lo' := [x_r 75, iv_c a1, iv_c 2147483648, iv_c 2147483648]) (by decide +kernel) (by decide) (Nat.le_of_ble_eq_true rfl) rfl ?_
        have p242 : ∀ (n : Nat) (v238 : Nat) (v240 : Nat), 4294967296 - v240 < n → (0 ≤ v238 ∧ v238 ≤ 4294967295) → (2147483648 ≤ v240 ∧ v240 ≤ 2147483660) → X sc 219 (d + 5) (xI fun r h' => J h' ∧ Fr 135291600897 h h' ∧ (0 ≤ r ∧ r ≤ 4294967295)) 0 0 28 [x_r 75, iv_c a1, iv_c v238, iv_c v240] [] h45 := by
          intro n
          induction n with
          | zero => intro v238 v240 q243; exact absurd q243 (Nat.not_lt_zero _)
          | succ n i244 =>
            intro v238 v240 q243 b239 b241
            refine x_iload (np := 29) (x := 3) (by decide +kernel) rfl (by first | decide | omega) ?_
            refine x_const (np := 31) (x := 9223372090541867020) (a := 2147483660) (by decide +kernel) (by decide) (by decide) ?_
            refine x_icmp (k := 3) (tg := 59) (np := 34) (by decide +kernel) (by decide) (by first | decide | omega) (by decide) (fun q245 => ?_) (fun q246 => ?_)
            · have q245 : 2147483660 ≤ v240 := q245
              refine x_iload (np := 60) (x := 2) (by decide +kernel) rfl (by first | decide | omega) ?_
              refine x_retI (np := 61) (x := 0) (by decide +kernel) (by first | decide | omega) (Or.inl (by decide +kernel)) ⟨_, rfl, (by first | decide | omega), ?_⟩
              exact ⟨j46, f50, (by first | decide | omega)⟩
            have q246 : ¬ (2147483660 ≤ v240) := q246
            refine x_iload (np := 35) (x := 2) (by decide +kernel) rfl (by first | decide | omega) ?_
            refine x_aload (np := 36) (x := 0) (by decide +kernel) rfl (x_nc_le (by decide)) ?_
            refine x_iload (np := 37) (x := 1) (by decide +kernel) rfl la1 ?_
            refine x_iload (np := 38) (x := 3) (by decide +kernel) rfl (by first | decide | omega) ?_
            refine x_cP (t := 6) (mj := 218) (n := 3) (rc := 12) (ml := 5) (nr := 1) (np := 41) (as := [x_r 75, iv_c a1, iv_c v240]) (rest := [iv_c v238]) (lo1 := [x_r 75, iv_c a1, iv_c v240, 147573952589676412928, 147573952589676412928]) (by decide +kernel) (by decide) (by decide +kernel) (x_rb_of (by decide +kernel)) rfl rfl (x_wr (by decide) (x_wi la1 (x_wi (by first | decide | omega) x_wn))) (x_wi (by first | decide | omega) x_wn) (by decide) rfl (c218_75 j46  (by first | decide | omega) (by first | decide | omega)) (fun v247 l248 q249 => ?_)
            refine x_ifz (k := 0) (tg := 50) (np := 44) (by decide +kernel) (by decide) l248 (fun q250 => ?_) (fun q251 => ?_)
            · have q250 : v247 = 2147483648 := q250
              refine x_const (np := 51) (x := 9223372039002259456) (a := 2147483648) (by decide +kernel) (by decide) (by decide) ?_
              refine x_any (np := 52) (k9 := 1) (by decide +kernel) (by decide) (by first | decide | omega) (by decide) (fun v252 l253 => ?_)
              refine x_istore (np := 53) (x := 2) (lo' := [x_r 75, iv_c a1, iv_c v252, iv_c v240]) (by decide +kernel) l253 (Nat.le_of_ble_eq_true rfl) rfl ?_
              refine x_iinc (np := 56) (i := 3) (j := 2147483649) (v := (1 + v240)) (lo' := [x_r 75, iv_c a1, iv_c v252, iv_c (1 + v240)]) (by decide +kernel) (by decide) (by decide) rfl (by first | decide | omega) (by first | decide | omega) (by first | decide | omega) rfl ?_
              refine x_goto (np := 59) (x := 28) (by decide +kernel) ?_
              exact i244 v252 (1 + v240) (by first | decide | omega) (by first | decide | omega) (by first | decide | omega)
            have q251 : ¬ (v247 = 2147483648) := q251
            refine x_const (np := 45) (x := 9223372043297226753) (a := 2147483649) (by decide +kernel) (by decide) (by decide) ?_
            refine x_iload (np := 46) (x := 3) (by decide +kernel) rfl (by first | decide | omega) ?_
            refine x_any (np := 47) (k9 := 3) (by decide +kernel) (by decide) (by decide) (by first | decide | omega) (fun v254 l255 => ?_)
            refine x_goto (np := 50) (x := 51) (by decide +kernel) ?_
            refine x_any (np := 52) (k9 := 1) (by decide +kernel) (by decide) (by first | decide | omega) l255 (fun v256 l257 => ?_)
            refine x_istore (np := 53) (x := 2) (lo' := [x_r 75, iv_c a1, iv_c v256, iv_c v240]) (by decide +kernel) l257 (Nat.le_of_ble_eq_true rfl) rfl ?_
            refine x_iinc (np := 56) (i := 3) (j := 2147483649) (v := (1 + v240)) (lo' := [x_r 75, iv_c a1, iv_c v256, iv_c (1 + v240)]) (by decide +kernel) (by decide) (by decide) rfl (by first | decide | omega) (by first | decide | omega) (by first | decide | omega) rfl ?_
            refine x_goto (np := 59) (x := 28) (by decide +kernel) ?_
            exact i244 v256 (1 + v240) (by first | decide | omega) (by first | decide | omega) (by first | decide | omega)
        exact p242 _ 2147483648 2147483648 (Nat.lt_succ_self _) (by first | decide | omega) (by first | decide | omega)
      have q40 : ¬ (2147483648 = 2147483648) := q40
      exfalso; omega
    have q38 : ¬ (2147483648 = 2147483648) := q38
    exfalso; omega
  have q36 : ¬ (2147483649 ≠ 2147483648) := q36
  exfalso; omega
set_option maxHeartbeats 0 in
/-- LentNamesModel.longest(I)I -/
theorem c220_75 {sc : Nat × Nat} {d a1 : Nat} {h : xh} (hJ : J h) (ba1 : 0 ≤ a1 ∧ a1 ≤ 4294967295) (hW : WT 76 h) : X sc 220 (d + 5) (xI fun r h' => J h' ∧ Fr 135291600897 h h' ∧ (2147483648 ≤ r ∧ r ≤ 4294967295)) 0 0 0 [x_r 75, iv_c a1, 147573952589676412928, 147573952589676412928, 147573952589676412928] [] h := by
  have la1 : a1 < 4294967296 := by first | decide | omega
  have hF := Fr.refl 135291600897 h
  refine x_aload (np := 1) (x := 0) (by decide +kernel) rfl (x_nc_le (by decide)) ?_
  refine x_const (np := 2) (x := 9223372039002259456) (a := 2147483648) (by decide +kernel) (by decide) (by decide) ?_
  refine x_putI (np := 5) (x := 704) (f := 0) (by decide +kernel) (by decide +kernel) (by decide) (Or.inl (by decide)) ?_
  have j2 := jU (e := 0) (v := 2147483648) 0 hJ rg_75_0_0_1 (by first | decide | omega) (by first | decide | omega) (by first | decide | omega)
  have f4 := jF (e := 0) (v := 2147483648) 0 hF rg_75_0_0_1 (by first | decide | omega) (by first | decide | omega) (by decide)
  generalize e3 : x_up h 75 0 2147483648 = h1 at j2 f4 ⊢
  refine x_aload (np := 6) (x := 0) (by decide +kernel) rfl (x_nc_le (by decide)) ?_
  refine x_aload (np := 7) (x := 0) (by decide +kernel) rfl (x_nc_le (by decide)) ?_
  refine x_iload (np := 8) (x := 1) (by decide +kernel) rfl la1 ?_
  refine x_nI (t := 6) (mj := 159) (n := 2) (rc := 12) (ml := 2) (nr := 1) (np := 11) (as := [x_r 75, iv_c a1]) (rest := [x_r 75]) (lo1 := [x_r 75, iv_c a1]) (by decide +kernel) (by decide) (by decide +kernel) (x_rb_of (by decide +kernel)) rfl rfl (x_wr (by decide) (x_wi la1 x_wn)) (x_wr (by decide) x_wn) (by decide) rfl ?_
  refine x_aload (np := 1) (x := 0) (by decide +kernel) rfl (x_nc_le (by decide)) ?_
  refine x_iload (np := 2) (x := 1) (by decide +kernel) rfl la1 ?_
  refine x_const (np := 3) (x := 9223372039002259456) (a := 2147483648) (by decide +kernel) (by decide) (by decide) ?_
  refine x_nI (t := 6) (mj := 158) (n := 3) (rc := 12) (ml := 3) (nr := 0) (np := 6) (as := [x_r 75, iv_c a1, iv_c 2147483648]) (rest := []) (lo1 := [x_r 75, iv_c a1, iv_c 2147483648]) (by decide +kernel) (by decide) (by decide +kernel) (x_rb_of (by decide +kernel)) rfl rfl (x_wr (by decide) (x_wi la1 (x_wi (by decide) x_wn))) x_wn (by decide) rfl ?_
  refine x_iload (np := 1) (x := 1) (by decide +kernel) rfl la1 ?_
  refine x_const (np := 2) (x := 9223372039002259456) (a := 2147483648) (by decide +kernel) (by decide) (by decide) ?_
  refine x_aload (np := 3) (x := 0) (by decide +kernel) rfl (x_nc_le (by decide)) ?_
  have q5 : h1 75 1 = 76 := by have z := jB (e := 1) 0 j2 rg_75_1_0_1 (by decide) (by decide); omega
  refine x_getR (np := 6) (x := 705) (f := 1) (q := 76) (by decide +kernel) (by decide) (by decide +kernel) q5 ?_
  refine x_iload (np := 7) (x := 2) (by decide +kernel) rfl (by decide) ?_
  have q6 : h1 76 0 = h 76 0 := by rw [← e3]; exact x_up_k (by decide)
  have b7 := jB (e := 0) 0 hJ rg_76_0_0_1 (by first | decide | omega) (by first | decide | omega)
  refine x_aldC (np := 8) (x := 0) (n := 1952) (i := 0) (q := (h 76 0)) (by decide +kernel) (by decide +kernel) (by first | decide | omega) (by first | decide | omega) (by decide) q6 (fun l8 => ?_)
  refine x_const (np := 9) (x := 9223372043297226753) (a := 2147483649) (by decide +kernel) (by decide) (by decide) ?_
  obtain ⟨v9, q10⟩ : ∃ z, z + 2147483649 = (h 76 0) + 2147483648 := ⟨(h 76 0) + 2147483648 - 2147483649, by first | decide | omega⟩
  refine x_isub (np := 10) (x := 0) (v := v9) (by decide +kernel) l8 (by decide) (by first | decide | omega) (by first | decide | omega) ?_
  refine x_nI (t := 0) (mj := 153) (n := 3) (rc := 0) (ml := 3) (nr := 0) (np := 13) (as := [iv_c a1, iv_c 2147483648, iv_c v9]) (rest := []) (lo1 := [iv_c a1, iv_c 2147483648, iv_c v9]) (by decide +kernel) (by decide) (by decide +kernel) (Or.inl rfl) rfl rfl (x_wi la1 (x_wi (by decide) (x_wi (by first | decide | omega) x_wn))) x_wn (by decide) rfl ?_
  refine x_iload (np := 1) (x := 0) (by decide +kernel) rfl la1 ?_
  refine x_iload (np := 2) (x := 1) (by decide +kernel) rfl (by decide) ?_
  refine x_icmp (k := 2) (tg := 14) (np := 5) (by decide +kernel) (by decide) la1 (by decide) (fun q11 => ?_) (fun q12 => ?_)
  · have q11 : a1 < 2147483648 := q11
    refine x_const (np := 15) (x := 9223372039002259456) (a := 2147483648) (by decide +kernel) (by decide) (by decide) ?_
    refine x_retI (np := 16) (x := 0) (by decide +kernel) (by decide) (Or.inr ⟨by decide +kernel, by first | decide | omega, by first | decide | omega⟩) ⟨_, rfl, (by decide), ?_⟩
    refine x_ifz (k := 1) (tg := 20) (np := 16) (by decide +kernel) (by decide) (by decide) (fun q13 => ?_) (fun q14 => ?_)
    · have q13 : 2147483648 ≠ 2147483648 := q13
      exfalso; omega
    have q14 : ¬ (2147483648 ≠ 2147483648) := q14
    refine x_const (np := 17) (x := 9223372043297226753) (a := 2147483649) (by decide +kernel) (by decide) (by decide) ?_
    refine x_goto (np := 20) (x := 21) (by decide +kernel) ?_
    refine x_retI (np := 22) (x := 0) (by decide +kernel) (by decide) (Or.inr ⟨by decide +kernel, by first | decide | omega, by first | decide | omega⟩) ⟨_, rfl, (by decide), ?_⟩
    refine x_retI (np := 7) (x := 0) (by decide +kernel) (by decide) (Or.inr ⟨by decide +kernel, by first | decide | omega, by first | decide | omega⟩) ⟨_, rfl, (by decide), ?_⟩
    refine x_const (np := 12) (x := 9223372043297226753) (a := 2147483649) (by decide +kernel) (by decide) (by decide) ?_
    refine x_nI (t := 6) (mj := 152) (n := 3) (rc := 12) (ml := 3) (nr := 0) (np := 15) (as := [x_r 75, iv_c 2147483649, iv_c 2147483649]) (rest := []) (lo1 := [x_r 75, iv_c 2147483649, iv_c 2147483649]) (by decide +kernel) (by decide) (by decide +kernel) (x_rb_of (by decide +kernel)) rfl rfl (x_wr (by decide) (x_wi (by decide) (x_wi (by decide) x_wn))) x_wn (by decide) rfl ?_
    refine x_iload (np := 1) (x := 1) (by decide +kernel) rfl (by decide) ?_
    refine x_ifz (k := 0) (tg := 9) (np := 4) (by decide +kernel) (by decide) (by decide) (fun q15 => ?_) (fun q16 => ?_)
    · have q15 : 2147483649 = 2147483648 := q15
      exfalso; omega
    have q16 : ¬ (2147483649 = 2147483648) := q16
    refine x_aload (np := 5) (x := 0) (by decide +kernel) rfl (x_nc_le (by decide)) ?_
    refine x_iload (np := 6) (x := 2) (by decide +kernel) rfl (by decide) ?_
    refine x_putI (np := 9) (x := 704) (f := 0) (by decide +kernel) (by decide +kernel) (by decide) (Or.inl (by decide)) ?_
    have j18 := jU (e := 0) (v := 2147483649) 0 j2 rg_75_0_0_1 (by first | decide | omega) (by first | decide | omega) (by first | decide | omega)
    have f20 := jF (e := 0) (v := 2147483649) 0 f4 rg_75_0_0_1 (by first | decide | omega) (by first | decide | omega) (by decide)
    generalize e19 : x_up h1 75 0 2147483649 = h17 at j18 f20 ⊢
    refine x_iload (np := 10) (x := 1) (by decide +kernel) rfl (by decide) ?_
    refine x_retI (np := 11) (x := 0) (by decide +kernel) (by decide) (Or.inr ⟨by decide +kernel, by first | decide | omega, by first | decide | omega⟩) ⟨_, rfl, (by decide), ?_⟩
    refine x_ifz (k := 0) (tg := 20) (np := 18) (by decide +kernel) (by decide) (by decide) (fun q21 => ?_) (fun q22 => ?_)
    · have q21 : 2147483649 = 2147483648 := q21
      exfalso; omega
    have q22 : ¬ (2147483649 = 2147483648) := q22
    refine x_const (np := 19) (x := 9223372039002259456) (a := 2147483648) (by decide +kernel) (by decide) (by decide) ?_
    refine x_retI (np := 20) (x := 0) (by decide +kernel) (by decide) (Or.inl (by decide +kernel)) ⟨_, rfl, (by decide), ?_⟩
    exact ⟨j18, f20, (by first | decide | omega)⟩
  have q12 : ¬ (a1 < 2147483648) := q12
  refine x_iload (np := 6) (x := 0) (by decide +kernel) rfl la1 ?_
  refine x_iload (np := 7) (x := 2) (by decide +kernel) rfl (by first | decide | omega) ?_
  refine x_icmp (k := 4) (tg := 14) (np := 10) (by decide +kernel) (by decide) la1 (by first | decide | omega) (fun q23 => ?_) (fun q24 => ?_)
  · have q23 : v9 < a1 := q23
    refine x_const (np := 15) (x := 9223372039002259456) (a := 2147483648) (by decide +kernel) (by decide) (by decide) ?_
    refine x_retI (np := 16) (x := 0) (by decide +kernel) (by decide) (Or.inr ⟨by decide +kernel, by first | decide | omega, by first | decide | omega⟩) ⟨_, rfl, (by decide), ?_⟩
    refine x_ifz (k := 1) (tg := 20) (np := 16) (by decide +kernel) (by decide) (by decide) (fun q25 => ?_) (fun q26 => ?_)
    · have q25 : 2147483648 ≠ 2147483648 := q25
      exfalso; omega
    have q26 : ¬ (2147483648 ≠ 2147483648) := q26
    refine x_const (np := 17) (x := 9223372043297226753) (a := 2147483649) (by decide +kernel) (by decide) (by decide) ?_
    refine x_goto (np := 20) (x := 21) (by decide +kernel) ?_
    refine x_retI (np := 22) (x := 0) (by decide +kernel) (by decide) (Or.inr ⟨by decide +kernel, by first | decide | omega, by first | decide | omega⟩) ⟨_, rfl, (by decide), ?_⟩
    refine x_retI (np := 7) (x := 0) (by decide +kernel) (by decide) (Or.inr ⟨by decide +kernel, by first | decide | omega, by first | decide | omega⟩) ⟨_, rfl, (by decide), ?_⟩
    refine x_const (np := 12) (x := 9223372043297226753) (a := 2147483649) (by decide +kernel) (by decide) (by decide) ?_
    refine x_nI (t := 6) (mj := 152) (n := 3) (rc := 12) (ml := 3) (nr := 0) (np := 15) (as := [x_r 75, iv_c 2147483649, iv_c 2147483649]) (rest := []) (lo1 := [x_r 75, iv_c 2147483649, iv_c 2147483649]) (by decide +kernel) (by decide) (by decide +kernel) (x_rb_of (by decide +kernel)) rfl rfl (x_wr (by decide) (x_wi (by decide) (x_wi (by decide) x_wn))) x_wn (by decide) rfl ?_
    refine x_iload (np := 1) (x := 1) (by decide +kernel) rfl (by decide) ?_
    refine x_ifz (k := 0) (tg := 9) (np := 4) (by decide +kernel) (by decide) (by decide) (fun q27 => ?_) (fun q28 => ?_)
    · have q27 : 2147483649 = 2147483648 := q27
      exfalso; omega
    have q28 : ¬ (2147483649 = 2147483648) := q28
    refine x_aload (np := 5) (x := 0) (by decide +kernel) rfl (x_nc_le (by decide)) ?_
    refine x_iload (np := 6) (x := 2) (by decide +kernel) rfl (by decide) ?_
    refine x_putI (np := 9) (x := 704) (f := 0) (by decide +kernel) (by decide +kernel) (by decide) (Or.inl (by decide)) ?_
    have j30 := jU (e := 0) (v := 2147483649) 0 j2 rg_75_0_0_1 (by first | decide | omega) (by first | decide | omega) (by first | decide | omega)
    have f32 := jF (e := 0) (v := 2147483649) 0 f4 rg_75_0_0_1 (by first | decide | omega) (by first | decide | omega) (by decide)
    generalize e31 : x_up h1 75 0 2147483649 = h29 at j30 f32 ⊢
    refine x_iload (np := 10) (x := 1) (by decide +kernel) rfl (by decide) ?_
    refine x_retI (np := 11) (x := 0) (by decide +kernel) (by decide) (Or.inr ⟨by decide +kernel, by first | decide | omega, by first | decide | omega⟩) ⟨_, rfl, (by decide), ?_⟩
    refine x_ifz (k := 0) (tg := 20) (np := 18) (by decide +kernel) (by decide) (by decide) (fun q33 => ?_) (fun q34 => ?_)
    · have q33 : 2147483649 = 2147483648 := q33
      exfalso; omega
    have q34 : ¬ (2147483649 = 2147483648) := q34
    refine x_const (np := 19) (x := 9223372039002259456) (a := 2147483648) (by decide +kernel) (by decide) (by decide) ?_
    refine x_retI (np := 20) (x := 0) (by decide +kernel) (by decide) (Or.inl (by decide +kernel)) ⟨_, rfl, (by decide), ?_⟩
    exact ⟨j30, f32, (by first | decide | omega)⟩
  have q24 : ¬ (v9 < a1) := q24
  refine x_const (np := 11) (x := 9223372043297226753) (a := 2147483649) (by decide +kernel) (by decide) (by decide) ?_
  refine x_goto (np := 14) (x := 15) (by decide +kernel) ?_
  refine x_retI (np := 16) (x := 0) (by decide +kernel) (by decide) (Or.inr ⟨by decide +kernel, by first | decide | omega, by first | decide | omega⟩) ⟨_, rfl, (by decide), ?_⟩
  refine x_ifz (k := 1) (tg := 20) (np := 16) (by decide +kernel) (by decide) (by decide) (fun q35 => ?_) (fun q36 => ?_)
  · have q35 : 2147483649 ≠ 2147483648 := q35
    refine x_const (np := 21) (x := 9223372039002259456) (a := 2147483648) (by decide +kernel) (by decide) (by decide) ?_
    refine x_retI (np := 22) (x := 0) (by decide +kernel) (by decide) (Or.inr ⟨by decide +kernel, by first | decide | omega, by first | decide | omega⟩) ⟨_, rfl, (by decide), ?_⟩
    refine x_retI (np := 7) (x := 0) (by decide +kernel) (by decide) (Or.inr ⟨by decide +kernel, by first | decide | omega, by first | decide | omega⟩) ⟨_, rfl, (by decide), ?_⟩
    refine x_const (np := 12) (x := 9223372043297226753) (a := 2147483649) (by decide +kernel) (by decide) (by decide) ?_
    refine x_nI (t := 6) (mj := 152) (n := 3) (rc := 12) (ml := 3) (nr := 0) (np := 15) (as := [x_r 75, iv_c 2147483648, iv_c 2147483649]) (rest := []) (lo1 := [x_r 75, iv_c 2147483648, iv_c 2147483649]) (by decide +kernel) (by decide) (by decide +kernel) (x_rb_of (by decide +kernel)) rfl rfl (x_wr (by decide) (x_wi (by decide) (x_wi (by decide) x_wn))) x_wn (by decide) rfl ?_
    refine x_iload (np := 1) (x := 1) (by decide +kernel) rfl (by decide) ?_
    refine x_ifz (k := 0) (tg := 9) (np := 4) (by decide +kernel) (by decide) (by decide) (fun q37 => ?_) (fun q38 => ?_)
    · have q37 : 2147483648 = 2147483648 := q37
      refine x_iload (np := 10) (x := 1) (by decide +kernel) rfl (by decide) ?_
      refine x_retI (np := 11) (x := 0) (by decide +kernel) (by decide) (Or.inr ⟨by decide +kernel, by first | decide | omega, by first | decide | omega⟩) ⟨_, rfl, (by decide), ?_⟩
      refine x_ifz (k := 0) (tg := 20) (np := 18) (by decide +kernel) (by decide) (by decide) (fun q39 => ?_) (fun q40 => ?_)
      · have q39 : 2147483648 = 2147483648 := q39
        refine x_aload (np := 21) (x := 0) (by decide +kernel) rfl (x_nc_le (by decide)) ?_
        have m44 : WT 76 h1 := by rw [← e3]; exact WT.oth hW hJ (by decide)
        refine x_cV (t := 6) (mj := 210) (n := 1) (rc := 12) (ml := 5) (nr := 0) (np := 24) (as := [x_r 75]) (rest := []) (lo1 := [x_r 75, 147573952589676412928, 147573952589676412928, 147573952589676412928, 147573952589676412928]) (by decide +kernel) (by decide) (by decide +kernel) (x_rb_of (by decide +kernel)) rfl rfl (x_wr (by decide) x_wn) x_wn (by decide) rfl (c210_75 j2  m44) (fun h45 q43 => ?_)
        obtain ⟨j46, f47⟩ := q43
        have f50 := Fr.trans f4 f47 (by decide)
        refine x_const (np := 25) (x := 9223372039002259456) (a := 2147483648) (by decide +kernel) (by decide) (by decide) ?_
        refine x_istore (np := 26) (x := 2) (lo' := [x_r 75, iv_c a1, iv_c 2147483648, 147573952589676412928, 147573952589676412928]) (by decide +kernel) (by decide) (Nat.le_of_ble_eq_true rfl) rfl ?_
        refine x_const (np := 27) (x := 9223372039002259456) (a := 2147483648) (by decide +kernel) (by decide) (by decide) ?_
        refine x_istore (np := 28) (x := 3) (lo' := [x_r 75, iv_c a1, iv_c 2147483648, iv_c 2147483648, 147573952589676412928]) (by decide +kernel) (by decide) (Nat.le_of_ble_eq_true rfl) rfl ?_
        refine x_const (np := 29) (x := 9223372039002259456) (a := 2147483648) (by decide +kernel) (by decide) (by decide) ?_
        refine x_istore (np := 31) (x := 4) (lo' := [x_r 75, iv_c a1, iv_c 2147483648, iv_c 2147483648, iv_c 2147483648]) (by decide +kernel) (by decide) (Nat.le_of_ble_eq_true rfl) rfl ?_
        have p650 : ∀ (n : Nat) (v644 : Nat) (v646 : Nat) (v648 : Nat), 4294967296 - v648 < n → (2147483648 ≤ v644 ∧ v644 ≤ 4294967295) → (0 ≤ v646 ∧ v646 ≤ 4294967295) → (2147483648 ≤ v648 ∧ v648 ≤ 2147483660) → X sc 220 (d + 5) (xI fun r h' => J h' ∧ Fr 135291600897 h h' ∧ (2147483648 ≤ r ∧ r ≤ 4294967295)) 0 0 31 [x_r 75, iv_c a1, iv_c v644, iv_c v646, iv_c v648] [] h45 := by
          intro n
          induction n with
          | zero => intro v644 v646 v648 q651; exact absurd q651 (Nat.not_lt_zero _)
          | succ n i652 =>
            intro v644 v646 v648 q651 b645 b647 b649
            refine x_iload (np := 33) (x := 4) (by decide +kernel) rfl (by first | decide | omega) ?_
            refine x_const (np := 35) (x := 9223372090541867020) (a := 2147483660) (by decide +kernel) (by decide) (by decide) ?_
            refine x_icmp (k := 3) (tg := 68) (np := 38) (by decide +kernel) (by decide) (by first | decide | omega) (by decide) (fun q653 => ?_) (fun q654 => ?_)
            · have q653 : 2147483660 ≤ v648 := q653
              refine x_iload (np := 69) (x := 2) (by decide +kernel) rfl (by first | decide | omega) ?_
              refine x_retI (np := 70) (x := 0) (by decide +kernel) (by first | decide | omega) (Or.inl (by decide +kernel)) ⟨_, rfl, (by first | decide | omega), ?_⟩
              exact ⟨j46, f50, (by first | decide | omega)⟩
            have q654 : ¬ (2147483660 ≤ v648) := q654
            refine x_aload (np := 39) (x := 0) (by decide +kernel) rfl (x_nc_le (by decide)) ?_
            refine x_iload (np := 40) (x := 1) (by decide +kernel) rfl la1 ?_
            refine x_iload (np := 42) (x := 4) (by decide +kernel) rfl (by first | decide | omega) ?_
            refine x_cP (t := 6) (mj := 218) (n := 3) (rc := 12) (ml := 5) (nr := 0) (np := 45) (as := [x_r 75, iv_c a1, iv_c v648]) (rest := []) (lo1 := [x_r 75, iv_c a1, iv_c v648, 147573952589676412928, 147573952589676412928]) (by decide +kernel) (by decide) (by decide +kernel) (x_rb_of (by decide +kernel)) rfl rfl (x_wr (by decide) (x_wi la1 (x_wi (by first | decide | omega) x_wn))) x_wn (by decide) rfl (c218_75 j46  (by first | decide | omega) (by first | decide | omega)) (fun v655 l656 q657 => ?_)
            refine x_ifz (k := 0) (tg := 54) (np := 48) (by decide +kernel) (by decide) l656 (fun q658 => ?_) (fun q659 => ?_)
            · have q658 : v655 = 2147483648 := q658
              refine x_const (np := 55) (x := 9223372039002259456) (a := 2147483648) (by decide +kernel) (by decide) (by decide) ?_
              refine x_istore (np := 56) (x := 3) (lo' := [x_r 75, iv_c a1, iv_c v644, iv_c 2147483648, iv_c v648]) (by decide +kernel) (by decide) (Nat.le_of_ble_eq_true rfl) rfl ?_
              refine x_iload (np := 57) (x := 2) (by decide +kernel) rfl (by first | decide | omega) ?_
              refine x_iload (np := 58) (x := 3) (by decide +kernel) rfl (by decide) ?_
              refine x_max (np := 61) (by decide +kernel) (by first | decide | omega) (by decide) (Nat.le_trans (x_wi (by decide) (x_wi (by first | decide | omega) x_wn)) (by decide)) ?_
              obtain ⟨v660, q661⟩ : ∃ w, w = max v644 2147483648 := ⟨_, rfl⟩
              rw [← q661]
              have b662 : v644 ≤ v660 ∧ 2147483648 ≤ v660 := by first | decide | omega
              refine x_istore (np := 62) (x := 2) (lo' := [x_r 75, iv_c a1, iv_c v660, iv_c 2147483648, iv_c v648]) (by decide +kernel) (by first | decide | omega) (Nat.le_of_ble_eq_true rfl) rfl ?_
              refine x_iinc (np := 65) (i := 4) (j := 2147483649) (v := (1 + v648)) (lo' := [x_r 75, iv_c a1, iv_c v660, iv_c 2147483648, iv_c (1 + v648)]) (by decide +kernel) (by decide) (by decide) rfl (by first | decide | omega) (by first | decide | omega) (by first | decide | omega) rfl ?_
              refine x_goto (np := 68) (x := 31) (by decide +kernel) ?_
              exact i652 v660 2147483648 (1 + v648) (by first | decide | omega) (by first | decide | omega) (by first | decide | omega) (by first | decide | omega)
            have q659 : ¬ (v655 = 2147483648) := q659
            refine x_iload (np := 49) (x := 3) (by decide +kernel) rfl (by first | decide | omega) ?_
            refine x_const (np := 50) (x := 9223372043297226753) (a := 2147483649) (by decide +kernel) (by decide) (by decide) ?_
            refine x_addA (by rw [tb_b220]; decide +kernel) (by first | decide | omega) (by decide) (fun v663 l664 => ?_)
            refine x_goto (np := 54) (x := 55) (by decide +kernel) ?_
            refine x_istore (np := 56) (x := 3) (lo' := [x_r 75, iv_c a1, iv_c v644, iv_c v663, iv_c v648]) (by decide +kernel) l664 (Nat.le_of_ble_eq_true rfl) rfl ?_
            refine x_iload (np := 57) (x := 2) (by decide +kernel) rfl (by first | decide | omega) ?_
            refine x_iload (np := 58) (x := 3) (by decide +kernel) rfl l664 ?_
            refine x_max (np := 61) (by decide +kernel) (by first | decide | omega) l664 (Nat.le_trans (x_wi l664 (x_wi (by first | decide | omega) x_wn)) (by decide)) ?_
            obtain ⟨v665, q666⟩ : ∃ w, w = max v644 v663 := ⟨_, rfl⟩
            rw [← q666]
            have b667 : v644 ≤ v665 ∧ v663 ≤ v665 := by first | decide | omega
            refine x_istore (np := 62) (x := 2) (lo' := [x_r 75, iv_c a1, iv_c v665, iv_c v663, iv_c v648]) (by decide +kernel) (by first | decide | omega) (Nat.le_of_ble_eq_true rfl) rfl ?_
            refine x_iinc (np := 65) (i := 4) (j := 2147483649) (v := (1 + v648)) (lo' := [x_r 75, iv_c a1, iv_c v665, iv_c v663, iv_c (1 + v648)]) (by decide +kernel) (by decide) (by decide) rfl (by first | decide | omega) (by first | decide | omega) (by first | decide | omega) rfl ?_
            refine x_goto (np := 68) (x := 31) (by decide +kernel) ?_
            exact i652 v665 v663 (1 + v648) (by first | decide | omega) (by first | decide | omega) (by first | decide | omega) (by first | decide | omega)
        exact p650 _ 2147483648 2147483648 2147483648 (Nat.lt_succ_self _) (by first | decide | omega) (by first | decide | omega) (by first | decide | omega)
      have q40 : ¬ (2147483648 = 2147483648) := q40
      exfalso; omega
    have q38 : ¬ (2147483648 = 2147483648) := q38
    exfalso; omega
  have q36 : ¬ (2147483649 ≠ 2147483648) := q36
  exfalso; omega
set_option maxHeartbeats 0 in
/-- LentNamesModel.lives(II)Z -/
theorem c221_75 {sc : Nat × Nat} {d a1 a2 : Nat} {h : xh} (hJ : J h) (ba1 : 0 ≤ a1 ∧ a1 ≤ 4294967295) (ba2 : 0 ≤ a2 ∧ a2 ≤ 4294967295) : X sc 221 (d + 3) (xI fun r h' => J h' ∧ Fr 131072 h h' ∧ (2147483648 ≤ r ∧ r ≤ 2147483649)) 0 0 0 [x_r 75, iv_c a1, iv_c a2] [] h := by
  have la1 : a1 < 4294967296 := by first | decide | omega
  have la2 : a2 < 4294967296 := by first | decide | omega
  have hF := Fr.refl 131072 h
  refine x_aload (np := 1) (x := 0) (by decide +kernel) rfl (x_nc_le (by decide)) ?_
  refine x_const (np := 2) (x := 9223372039002259456) (a := 2147483648) (by decide +kernel) (by decide) (by decide) ?_
  refine x_putI (np := 5) (x := 704) (f := 0) (by decide +kernel) (by decide +kernel) (by decide) (Or.inl (by decide)) ?_
  have j2 := jU (e := 0) (v := 2147483648) 0 hJ rg_75_0_0_1 (by first | decide | omega) (by first | decide | omega) (by first | decide | omega)
  have f4 := jF (e := 0) (v := 2147483648) 0 hF rg_75_0_0_1 (by first | decide | omega) (by first | decide | omega) (by decide)
  generalize e3 : x_up h 75 0 2147483648 = h1 at j2 f4 ⊢
  refine x_aload (np := 6) (x := 0) (by decide +kernel) rfl (x_nc_le (by decide)) ?_
  refine x_aload (np := 7) (x := 0) (by decide +kernel) rfl (x_nc_le (by decide)) ?_
  refine x_iload (np := 8) (x := 1) (by decide +kernel) rfl la1 ?_
  refine x_nI (t := 6) (mj := 159) (n := 2) (rc := 12) (ml := 2) (nr := 1) (np := 11) (as := [x_r 75, iv_c a1]) (rest := [x_r 75]) (lo1 := [x_r 75, iv_c a1]) (by decide +kernel) (by decide) (by decide +kernel) (x_rb_of (by decide +kernel)) rfl rfl (x_wr (by decide) (x_wi la1 x_wn)) (x_wr (by decide) x_wn) (by decide) rfl ?_
  refine x_aload (np := 1) (x := 0) (by decide +kernel) rfl (x_nc_le (by decide)) ?_
  refine x_iload (np := 2) (x := 1) (by decide +kernel) rfl la1 ?_
  refine x_const (np := 3) (x := 9223372039002259456) (a := 2147483648) (by decide +kernel) (by decide) (by decide) ?_
  refine x_nI (t := 6) (mj := 158) (n := 3) (rc := 12) (ml := 3) (nr := 0) (np := 6) (as := [x_r 75, iv_c a1, iv_c 2147483648]) (rest := []) (lo1 := [x_r 75, iv_c a1, iv_c 2147483648]) (by decide +kernel) (by decide) (by decide +kernel) (x_rb_of (by decide +kernel)) rfl rfl (x_wr (by decide) (x_wi la1 (x_wi (by decide) x_wn))) x_wn (by decide) rfl ?_
  refine x_iload (np := 1) (x := 1) (by decide +kernel) rfl la1 ?_
  refine x_const (np := 2) (x := 9223372039002259456) (a := 2147483648) (by decide +kernel) (by decide) (by decide) ?_
  refine x_aload (np := 3) (x := 0) (by decide +kernel) rfl (x_nc_le (by decide)) ?_
  have q5 : h1 75 1 = 76 := by have z := jB (e := 1) 0 j2 rg_75_1_0_1 (by decide) (by decide); omega
  refine x_getR (np := 6) (x := 705) (f := 1) (q := 76) (by decide +kernel) (by decide) (by decide +kernel) q5 ?_
  refine x_iload (np := 7) (x := 2) (by decide +kernel) rfl (by decide) ?_
  have q6 : h1 76 0 = h 76 0 := by rw [← e3]; exact x_up_k (by decide)
  have b7 := jB (e := 0) 0 hJ rg_76_0_0_1 (by first | decide | omega) (by first | decide | omega)
  refine x_aldC (np := 8) (x := 0) (n := 1952) (i := 0) (q := (h 76 0)) (by decide +kernel) (by decide +kernel) (by first | decide | omega) (by first | decide | omega) (by decide) q6 (fun l8 => ?_)
  refine x_const (np := 9) (x := 9223372043297226753) (a := 2147483649) (by decide +kernel) (by decide) (by decide) ?_
  obtain ⟨v9, q10⟩ : ∃ z, z + 2147483649 = (h 76 0) + 2147483648 := ⟨(h 76 0) + 2147483648 - 2147483649, by first | decide | omega⟩
  refine x_isub (np := 10) (x := 0) (v := v9) (by decide +kernel) l8 (by decide) (by first | decide | omega) (by first | decide | omega) ?_
  refine x_nI (t := 0) (mj := 153) (n := 3) (rc := 0) (ml := 3) (nr := 0) (np := 13) (as := [iv_c a1, iv_c 2147483648, iv_c v9]) (rest := []) (lo1 := [iv_c a1, iv_c 2147483648, iv_c v9]) (by decide +kernel) (by decide) (by decide +kernel) (Or.inl rfl) rfl rfl (x_wi la1 (x_wi (by decide) (x_wi (by first | decide | omega) x_wn))) x_wn (by decide) rfl ?_
  refine x_iload (np := 1) (x := 0) (by decide +kernel) rfl la1 ?_
  refine x_iload (np := 2) (x := 1) (by decide +kernel) rfl (by decide) ?_
  refine x_icmp (k := 2) (tg := 14) (np := 5) (by decide +kernel) (by decide) la1 (by decide) (fun q11 => ?_) (fun q12 => ?_)
  · have q11 : a1 < 2147483648 := q11
    refine x_const (np := 15) (x := 9223372039002259456) (a := 2147483648) (by decide +kernel) (by decide) (by decide) ?_
    refine x_retI (np := 16) (x := 0) (by decide +kernel) (by decide) (Or.inr ⟨by decide +kernel, by first | decide | omega, by first | decide | omega⟩) ⟨_, rfl, (by decide), ?_⟩
    refine x_ifz (k := 1) (tg := 20) (np := 16) (by decide +kernel) (by decide) (by decide) (fun q13 => ?_) (fun q14 => ?_)
    · have q13 : 2147483648 ≠ 2147483648 := q13
      exfalso; omega
    have q14 : ¬ (2147483648 ≠ 2147483648) := q14
    refine x_const (np := 17) (x := 9223372043297226753) (a := 2147483649) (by decide +kernel) (by decide) (by decide) ?_
    refine x_goto (np := 20) (x := 21) (by decide +kernel) ?_
    refine x_retI (np := 22) (x := 0) (by decide +kernel) (by decide) (Or.inr ⟨by decide +kernel, by first | decide | omega, by first | decide | omega⟩) ⟨_, rfl, (by decide), ?_⟩
    refine x_retI (np := 7) (x := 0) (by decide +kernel) (by decide) (Or.inr ⟨by decide +kernel, by first | decide | omega, by first | decide | omega⟩) ⟨_, rfl, (by decide), ?_⟩
    refine x_ifz (k := 1) (tg := 21) (np := 14) (by decide +kernel) (by decide) (by decide) (fun q15 => ?_) (fun q16 => ?_)
    · have q15 : 2147483649 ≠ 2147483648 := q15
      refine x_const (np := 22) (x := 9223372043297226753) (a := 2147483649) (by decide +kernel) (by decide) (by decide) ?_
      refine x_goto (np := 25) (x := 26) (by decide +kernel) ?_
      refine x_const (np := 27) (x := 9223372043297226753) (a := 2147483649) (by decide +kernel) (by decide) (by decide) ?_
      refine x_nI (t := 6) (mj := 152) (n := 3) (rc := 12) (ml := 3) (nr := 0) (np := 30) (as := [x_r 75, iv_c 2147483649, iv_c 2147483649]) (rest := []) (lo1 := [x_r 75, iv_c 2147483649, iv_c 2147483649]) (by decide +kernel) (by decide) (by decide +kernel) (x_rb_of (by decide +kernel)) rfl rfl (x_wr (by decide) (x_wi (by decide) (x_wi (by decide) x_wn))) x_wn (by decide) rfl ?_
      refine x_iload (np := 1) (x := 1) (by decide +kernel) rfl (by decide) ?_
      refine x_ifz (k := 0) (tg := 9) (np := 4) (by decide +kernel) (by decide) (by decide) (fun q17 => ?_) (fun q18 => ?_)
      · have q17 : 2147483649 = 2147483648 := q17
        exfalso; omega
      have q18 : ¬ (2147483649 = 2147483648) := q18
      refine x_aload (np := 5) (x := 0) (by decide +kernel) rfl (x_nc_le (by decide)) ?_
      refine x_iload (np := 6) (x := 2) (by decide +kernel) rfl (by decide) ?_
      refine x_putI (np := 9) (x := 704) (f := 0) (by decide +kernel) (by decide +kernel) (by decide) (Or.inl (by decide)) ?_
      have j20 := jU (e := 0) (v := 2147483649) 0 j2 rg_75_0_0_1 (by first | decide | omega) (by first | decide | omega) (by first | decide | omega)
      have f22 := jF (e := 0) (v := 2147483649) 0 f4 rg_75_0_0_1 (by first | decide | omega) (by first | decide | omega) (by decide)
      generalize e21 : x_up h1 75 0 2147483649 = h19 at j20 f22 ⊢
      refine x_iload (np := 10) (x := 1) (by decide +kernel) rfl (by decide) ?_
      refine x_retI (np := 11) (x := 0) (by decide +kernel) (by decide) (Or.inr ⟨by decide +kernel, by first | decide | omega, by first | decide | omega⟩) ⟨_, rfl, (by decide), ?_⟩
      refine x_ifz (k := 1) (tg := 46) (np := 33) (by decide +kernel) (by decide) (by decide) (fun q23 => ?_) (fun q24 => ?_)
      · have q23 : 2147483649 ≠ 2147483648 := q23
        refine x_const (np := 47) (x := 9223372039002259456) (a := 2147483648) (by decide +kernel) (by decide) (by decide) ?_
        refine x_retI (np := 48) (x := 0) (by decide +kernel) (by decide) (Or.inr ⟨by decide +kernel, by first | decide | omega, by first | decide | omega⟩) ⟨_, rfl, (by decide), ?_⟩
        exact ⟨j20, f22, (by first | decide | omega)⟩
      have q24 : ¬ (2147483649 ≠ 2147483648) := q24
      exfalso; omega
    have q16 : ¬ (2147483649 ≠ 2147483648) := q16
    exfalso; omega
  have q12 : ¬ (a1 < 2147483648) := q12
  refine x_iload (np := 6) (x := 0) (by decide +kernel) rfl la1 ?_
  refine x_iload (np := 7) (x := 2) (by decide +kernel) rfl (by first | decide | omega) ?_
  refine x_icmp (k := 4) (tg := 14) (np := 10) (by decide +kernel) (by decide) la1 (by first | decide | omega) (fun q25 => ?_) (fun q26 => ?_)
  · have q25 : v9 < a1 := q25
    refine x_const (np := 15) (x := 9223372039002259456) (a := 2147483648) (by decide +kernel) (by decide) (by decide) ?_
    refine x_retI (np := 16) (x := 0) (by decide +kernel) (by decide) (Or.inr ⟨by decide +kernel, by first | decide | omega, by first | decide | omega⟩) ⟨_, rfl, (by decide), ?_⟩
    refine x_ifz (k := 1) (tg := 20) (np := 16) (by decide +kernel) (by decide) (by decide) (fun q27 => ?_) (fun q28 => ?_)
    · have q27 : 2147483648 ≠ 2147483648 := q27
      exfalso; omega
    have q28 : ¬ (2147483648 ≠ 2147483648) := q28
    refine x_const (np := 17) (x := 9223372043297226753) (a := 2147483649) (by decide +kernel) (by decide) (by decide) ?_
    refine x_goto (np := 20) (x := 21) (by decide +kernel) ?_
    refine x_retI (np := 22) (x := 0) (by decide +kernel) (by decide) (Or.inr ⟨by decide +kernel, by first | decide | omega, by first | decide | omega⟩) ⟨_, rfl, (by decide), ?_⟩
    refine x_retI (np := 7) (x := 0) (by decide +kernel) (by decide) (Or.inr ⟨by decide +kernel, by first | decide | omega, by first | decide | omega⟩) ⟨_, rfl, (by decide), ?_⟩
    refine x_ifz (k := 1) (tg := 21) (np := 14) (by decide +kernel) (by decide) (by decide) (fun q29 => ?_) (fun q30 => ?_)
    · have q29 : 2147483649 ≠ 2147483648 := q29
      refine x_const (np := 22) (x := 9223372043297226753) (a := 2147483649) (by decide +kernel) (by decide) (by decide) ?_
      refine x_goto (np := 25) (x := 26) (by decide +kernel) ?_
      refine x_const (np := 27) (x := 9223372043297226753) (a := 2147483649) (by decide +kernel) (by decide) (by decide) ?_
      refine x_nI (t := 6) (mj := 152) (n := 3) (rc := 12) (ml := 3) (nr := 0) (np := 30) (as := [x_r 75, iv_c 2147483649, iv_c 2147483649]) (rest := []) (lo1 := [x_r 75, iv_c 2147483649, iv_c 2147483649]) (by decide +kernel) (by decide) (by decide +kernel) (x_rb_of (by decide +kernel)) rfl rfl (x_wr (by decide) (x_wi (by decide) (x_wi (by decide) x_wn))) x_wn (by decide) rfl ?_
      refine x_iload (np := 1) (x := 1) (by decide +kernel) rfl (by decide) ?_
      refine x_ifz (k := 0) (tg := 9) (np := 4) (by decide +kernel) (by decide) (by decide) (fun q31 => ?_) (fun q32 => ?_)
      · have q31 : 2147483649 = 2147483648 := q31
        exfalso; omega
      have q32 : ¬ (2147483649 = 2147483648) := q32
      refine x_aload (np := 5) (x := 0) (by decide +kernel) rfl (x_nc_le (by decide)) ?_
      refine x_iload (np := 6) (x := 2) (by decide +kernel) rfl (by decide) ?_
      refine x_putI (np := 9) (x := 704) (f := 0) (by decide +kernel) (by decide +kernel) (by decide) (Or.inl (by decide)) ?_
      have j34 := jU (e := 0) (v := 2147483649) 0 j2 rg_75_0_0_1 (by first | decide | omega) (by first | decide | omega) (by first | decide | omega)
      have f36 := jF (e := 0) (v := 2147483649) 0 f4 rg_75_0_0_1 (by first | decide | omega) (by first | decide | omega) (by decide)
      generalize e35 : x_up h1 75 0 2147483649 = h33 at j34 f36 ⊢
      refine x_iload (np := 10) (x := 1) (by decide +kernel) rfl (by decide) ?_
      refine x_retI (np := 11) (x := 0) (by decide +kernel) (by decide) (Or.inr ⟨by decide +kernel, by first | decide | omega, by first | decide | omega⟩) ⟨_, rfl, (by decide), ?_⟩
      refine x_ifz (k := 1) (tg := 46) (np := 33) (by decide +kernel) (by decide) (by decide) (fun q37 => ?_) (fun q38 => ?_)
      · have q37 : 2147483649 ≠ 2147483648 := q37
        refine x_const (np := 47) (x := 9223372039002259456) (a := 2147483648) (by decide +kernel) (by decide) (by decide) ?_
        refine x_retI (np := 48) (x := 0) (by decide +kernel) (by decide) (Or.inr ⟨by decide +kernel, by first | decide | omega, by first | decide | omega⟩) ⟨_, rfl, (by decide), ?_⟩
        exact ⟨j34, f36, (by first | decide | omega)⟩
      have q38 : ¬ (2147483649 ≠ 2147483648) := q38
      exfalso; omega
    have q30 : ¬ (2147483649 ≠ 2147483648) := q30
    exfalso; omega
  have q26 : ¬ (v9 < a1) := q26
  refine x_const (np := 11) (x := 9223372043297226753) (a := 2147483649) (by decide +kernel) (by decide) (by decide) ?_
  refine x_goto (np := 14) (x := 15) (by decide +kernel) ?_
  refine x_retI (np := 16) (x := 0) (by decide +kernel) (by decide) (Or.inr ⟨by decide +kernel, by first | decide | omega, by first | decide | omega⟩) ⟨_, rfl, (by decide), ?_⟩
  refine x_ifz (k := 1) (tg := 20) (np := 16) (by decide +kernel) (by decide) (by decide) (fun q39 => ?_) (fun q40 => ?_)
  · have q39 : 2147483649 ≠ 2147483648 := q39
    refine x_const (np := 21) (x := 9223372039002259456) (a := 2147483648) (by decide +kernel) (by decide) (by decide) ?_
    refine x_retI (np := 22) (x := 0) (by decide +kernel) (by decide) (Or.inr ⟨by decide +kernel, by first | decide | omega, by first | decide | omega⟩) ⟨_, rfl, (by decide), ?_⟩
    refine x_retI (np := 7) (x := 0) (by decide +kernel) (by decide) (Or.inr ⟨by decide +kernel, by first | decide | omega, by first | decide | omega⟩) ⟨_, rfl, (by decide), ?_⟩
    refine x_ifz (k := 1) (tg := 21) (np := 14) (by decide +kernel) (by decide) (by decide) (fun q41 => ?_) (fun q42 => ?_)
    · have q41 : 2147483648 ≠ 2147483648 := q41
      exfalso; omega
    have q42 : ¬ (2147483648 ≠ 2147483648) := q42
    refine x_iload (np := 15) (x := 2) (by decide +kernel) rfl la2 ?_
    refine x_nI (t := 0) (mj := 160) (n := 1) (rc := 0) (ml := 1) (nr := 1) (np := 18) (as := [iv_c a2]) (rest := [x_r 75]) (lo1 := [iv_c a2]) (by decide +kernel) (by decide) (by decide +kernel) (Or.inl rfl) rfl rfl (x_wi la2 x_wn) (x_wr (by decide) x_wn) (by decide) rfl ?_
    refine x_iload (np := 1) (x := 0) (by decide +kernel) rfl la2 ?_
    refine x_const (np := 2) (x := 9223372039002259456) (a := 2147483648) (by decide +kernel) (by decide) (by decide) ?_
    refine x_const (np := 4) (x := 9223372086246899723) (a := 2147483659) (by decide +kernel) (by decide) (by decide) ?_
    refine x_nI (t := 0) (mj := 153) (n := 3) (rc := 0) (ml := 3) (nr := 0) (np := 7) (as := [iv_c a2, iv_c 2147483648, iv_c 2147483659]) (rest := []) (lo1 := [iv_c a2, iv_c 2147483648, iv_c 2147483659]) (by decide +kernel) (by decide) (by decide +kernel) (Or.inl rfl) rfl rfl (x_wi la2 (x_wi (by decide) (x_wi (by decide) x_wn))) x_wn (by decide) rfl ?_
    refine x_iload (np := 1) (x := 0) (by decide +kernel) rfl la2 ?_
    refine x_iload (np := 2) (x := 1) (by decide +kernel) rfl (by decide) ?_
    refine x_icmp (k := 2) (tg := 14) (np := 5) (by decide +kernel) (by decide) la2 (by decide) (fun q43 => ?_) (fun q44 => ?_)
    · have q43 : a2 < 2147483648 := q43
      refine x_const (np := 15) (x := 9223372039002259456) (a := 2147483648) (by decide +kernel) (by decide) (by decide) ?_
      refine x_retI (np := 16) (x := 0) (by decide +kernel) (by decide) (Or.inr ⟨by decide +kernel, by first | decide | omega, by first | decide | omega⟩) ⟨_, rfl, (by decide), ?_⟩
      refine x_ifz (k := 1) (tg := 14) (np := 10) (by decide +kernel) (by decide) (by decide) (fun q45 => ?_) (fun q46 => ?_)
      · have q45 : 2147483648 ≠ 2147483648 := q45
        exfalso; omega
      have q46 : ¬ (2147483648 ≠ 2147483648) := q46
      refine x_const (np := 11) (x := 9223372043297226753) (a := 2147483649) (by decide +kernel) (by decide) (by decide) ?_
      refine x_goto (np := 14) (x := 15) (by decide +kernel) ?_
      refine x_retI (np := 16) (x := 0) (by decide +kernel) (by decide) (Or.inr ⟨by decide +kernel, by first | decide | omega, by first | decide | omega⟩) ⟨_, rfl, (by decide), ?_⟩
      refine x_ifz (k := 0) (tg := 25) (np := 21) (by decide +kernel) (by decide) (by decide) (fun q47 => ?_) (fun q48 => ?_)
      · have q47 : 2147483649 = 2147483648 := q47
        exfalso; omega
      have q48 : ¬ (2147483649 = 2147483648) := q48
      refine x_const (np := 22) (x := 9223372043297226753) (a := 2147483649) (by decide +kernel) (by decide) (by decide) ?_
      refine x_goto (np := 25) (x := 26) (by decide +kernel) ?_
      refine x_const (np := 27) (x := 9223372043297226753) (a := 2147483649) (by decide +kernel) (by decide) (by decide) ?_
      refine x_nI (t := 6) (mj := 152) (n := 3) (rc := 12) (ml := 3) (nr := 0) (np := 30) (as := [x_r 75, iv_c 2147483649, iv_c 2147483649]) (rest := []) (lo1 := [x_r 75, iv_c 2147483649, iv_c 2147483649]) (by decide +kernel) (by decide) (by decide +kernel) (x_rb_of (by decide +kernel)) rfl rfl (x_wr (by decide) (x_wi (by decide) (x_wi (by decide) x_wn))) x_wn (by decide) rfl ?_
      refine x_iload (np := 1) (x := 1) (by decide +kernel) rfl (by decide) ?_
      refine x_ifz (k := 0) (tg := 9) (np := 4) (by decide +kernel) (by decide) (by decide) (fun q49 => ?_) (fun q50 => ?_)
      · have q49 : 2147483649 = 2147483648 := q49
        exfalso; omega
      have q50 : ¬ (2147483649 = 2147483648) := q50
      refine x_aload (np := 5) (x := 0) (by decide +kernel) rfl (x_nc_le (by decide)) ?_
      refine x_iload (np := 6) (x := 2) (by decide +kernel) rfl (by decide) ?_
      refine x_putI (np := 9) (x := 704) (f := 0) (by decide +kernel) (by decide +kernel) (by decide) (Or.inl (by decide)) ?_
      have j52 := jU (e := 0) (v := 2147483649) 0 j2 rg_75_0_0_1 (by first | decide | omega) (by first | decide | omega) (by first | decide | omega)
      have f54 := jF (e := 0) (v := 2147483649) 0 f4 rg_75_0_0_1 (by first | decide | omega) (by first | decide | omega) (by decide)
      generalize e53 : x_up h1 75 0 2147483649 = h51 at j52 f54 ⊢
      refine x_iload (np := 10) (x := 1) (by decide +kernel) rfl (by decide) ?_
      refine x_retI (np := 11) (x := 0) (by decide +kernel) (by decide) (Or.inr ⟨by decide +kernel, by first | decide | omega, by first | decide | omega⟩) ⟨_, rfl, (by decide), ?_⟩
      refine x_ifz (k := 1) (tg := 46) (np := 33) (by decide +kernel) (by decide) (by decide) (fun q55 => ?_) (fun q56 => ?_)
      · have q55 : 2147483649 ≠ 2147483648 := q55
        refine x_const (np := 47) (x := 9223372039002259456) (a := 2147483648) (by decide +kernel) (by decide) (by decide) ?_
        refine x_retI (np := 48) (x := 0) (by decide +kernel) (by decide) (Or.inr ⟨by decide +kernel, by first | decide | omega, by first | decide | omega⟩) ⟨_, rfl, (by decide), ?_⟩
        exact ⟨j52, f54, (by first | decide | omega)⟩
      have q56 : ¬ (2147483649 ≠ 2147483648) := q56
      exfalso; omega
    have q44 : ¬ (a2 < 2147483648) := q44
    refine x_iload (np := 6) (x := 0) (by decide +kernel) rfl la2 ?_
    refine x_iload (np := 7) (x := 2) (by decide +kernel) rfl (by decide) ?_
    refine x_icmp (k := 4) (tg := 14) (np := 10) (by decide +kernel) (by decide) la2 (by decide) (fun q57 => ?_) (fun q58 => ?_)
    · have q57 : 2147483659 < a2 := q57
      refine x_const (np := 15) (x := 9223372039002259456) (a := 2147483648) (by decide +kernel) (by decide) (by decide) ?_
      refine x_retI (np := 16) (x := 0) (by decide +kernel) (by decide) (Or.inr ⟨by decide +kernel, by first | decide | omega, by first | decide | omega⟩) ⟨_, rfl, (by decide), ?_⟩
      refine x_ifz (k := 1) (tg := 14) (np := 10) (by decide +kernel) (by decide) (by decide) (fun q59 => ?_) (fun q60 => ?_)
      · have q59 : 2147483648 ≠ 2147483648 := q59
        exfalso; omega
      have q60 : ¬ (2147483648 ≠ 2147483648) := q60
      refine x_const (np := 11) (x := 9223372043297226753) (a := 2147483649) (by decide +kernel) (by decide) (by decide) ?_
      refine x_goto (np := 14) (x := 15) (by decide +kernel) ?_
      refine x_retI (np := 16) (x := 0) (by decide +kernel) (by decide) (Or.inr ⟨by decide +kernel, by first | decide | omega, by first | decide | omega⟩) ⟨_, rfl, (by decide), ?_⟩
      refine x_ifz (k := 0) (tg := 25) (np := 21) (by decide +kernel) (by decide) (by decide) (fun q61 => ?_) (fun q62 => ?_)
      · have q61 : 2147483649 = 2147483648 := q61
        exfalso; omega
      have q62 : ¬ (2147483649 = 2147483648) := q62
      refine x_const (np := 22) (x := 9223372043297226753) (a := 2147483649) (by decide +kernel) (by decide) (by decide) ?_
      refine x_goto (np := 25) (x := 26) (by decide +kernel) ?_
      refine x_const (np := 27) (x := 9223372043297226753) (a := 2147483649) (by decide +kernel) (by decide) (by decide) ?_
      refine x_nI (t := 6) (mj := 152) (n := 3) (rc := 12) (ml := 3) (nr := 0) (np := 30) (as := [x_r 75, iv_c 2147483649, iv_c 2147483649]) (rest := []) (lo1 := [x_r 75, iv_c 2147483649, iv_c 2147483649]) (by decide +kernel) (by decide) (by decide +kernel) (x_rb_of (by decide +kernel)) rfl rfl (x_wr (by decide) (x_wi (by decide) (x_wi (by decide) x_wn))) x_wn (by decide) rfl ?_
      refine x_iload (np := 1) (x := 1) (by decide +kernel) rfl (by decide) ?_
      refine x_ifz (k := 0) (tg := 9) (np := 4) (by decide +kernel) (by decide) (by decide) (fun q63 => ?_) (fun q64 => ?_)
      · have q63 : 2147483649 = 2147483648 := q63
        exfalso; omega
      have q64 : ¬ (2147483649 = 2147483648) := q64
      refine x_aload (np := 5) (x := 0) (by decide +kernel) rfl (x_nc_le (by decide)) ?_
      refine x_iload (np := 6) (x := 2) (by decide +kernel) rfl (by decide) ?_
      refine x_putI (np := 9) (x := 704) (f := 0) (by decide +kernel) (by decide +kernel) (by decide) (Or.inl (by decide)) ?_
      have j66 := jU (e := 0) (v := 2147483649) 0 j2 rg_75_0_0_1 (by first | decide | omega) (by first | decide | omega) (by first | decide | omega)
      have f68 := jF (e := 0) (v := 2147483649) 0 f4 rg_75_0_0_1 (by first | decide | omega) (by first | decide | omega) (by decide)
      generalize e67 : x_up h1 75 0 2147483649 = h65 at j66 f68 ⊢
      refine x_iload (np := 10) (x := 1) (by decide +kernel) rfl (by decide) ?_
      refine x_retI (np := 11) (x := 0) (by decide +kernel) (by decide) (Or.inr ⟨by decide +kernel, by first | decide | omega, by first | decide | omega⟩) ⟨_, rfl, (by decide), ?_⟩
      refine x_ifz (k := 1) (tg := 46) (np := 33) (by decide +kernel) (by decide) (by decide) (fun q69 => ?_) (fun q70 => ?_)
      · have q69 : 2147483649 ≠ 2147483648 := q69
        refine x_const (np := 47) (x := 9223372039002259456) (a := 2147483648) (by decide +kernel) (by decide) (by decide) ?_
        refine x_retI (np := 48) (x := 0) (by decide +kernel) (by decide) (Or.inr ⟨by decide +kernel, by first | decide | omega, by first | decide | omega⟩) ⟨_, rfl, (by decide), ?_⟩
        exact ⟨j66, f68, (by first | decide | omega)⟩
      have q70 : ¬ (2147483649 ≠ 2147483648) := q70
      exfalso; omega
    have q58 : ¬ (2147483659 < a2) := q58
    refine x_const (np := 11) (x := 9223372043297226753) (a := 2147483649) (by decide +kernel) (by decide) (by decide) ?_
    refine x_goto (np := 14) (x := 15) (by decide +kernel) ?_
    refine x_retI (np := 16) (x := 0) (by decide +kernel) (by decide) (Or.inr ⟨by decide +kernel, by first | decide | omega, by first | decide | omega⟩) ⟨_, rfl, (by decide), ?_⟩
    refine x_ifz (k := 1) (tg := 14) (np := 10) (by decide +kernel) (by decide) (by decide) (fun q71 => ?_) (fun q72 => ?_)
    · have q71 : 2147483649 ≠ 2147483648 := q71
      refine x_const (np := 15) (x := 9223372039002259456) (a := 2147483648) (by decide +kernel) (by decide) (by decide) ?_
      refine x_retI (np := 16) (x := 0) (by decide +kernel) (by decide) (Or.inr ⟨by decide +kernel, by first | decide | omega, by first | decide | omega⟩) ⟨_, rfl, (by decide), ?_⟩
      refine x_ifz (k := 0) (tg := 25) (np := 21) (by decide +kernel) (by decide) (by decide) (fun q73 => ?_) (fun q74 => ?_)
      · have q73 : 2147483648 = 2147483648 := q73
        refine x_const (np := 26) (x := 9223372039002259456) (a := 2147483648) (by decide +kernel) (by decide) (by decide) ?_
        refine x_const (np := 27) (x := 9223372043297226753) (a := 2147483649) (by decide +kernel) (by decide) (by decide) ?_
        refine x_nI (t := 6) (mj := 152) (n := 3) (rc := 12) (ml := 3) (nr := 0) (np := 30) (as := [x_r 75, iv_c 2147483648, iv_c 2147483649]) (rest := []) (lo1 := [x_r 75, iv_c 2147483648, iv_c 2147483649]) (by decide +kernel) (by decide) (by decide +kernel) (x_rb_of (by decide +kernel)) rfl rfl (x_wr (by decide) (x_wi (by decide) (x_wi (by decide) x_wn))) x_wn (by decide) rfl ?_
        refine x_iload (np := 1) (x := 1) (by decide +kernel) rfl (by decide) ?_
        refine x_ifz (k := 0) (tg := 9) (np := 4) (by decide +kernel) (by decide) (by decide) (fun q75 => ?_) (fun q76 => ?_)
        · have q75 : 2147483648 = 2147483648 := q75
          refine x_iload (np := 10) (x := 1) (by decide +kernel) rfl (by decide) ?_
          refine x_retI (np := 11) (x := 0) (by decide +kernel) (by decide) (Or.inr ⟨by decide +kernel, by first | decide | omega, by first | decide | omega⟩) ⟨_, rfl, (by decide), ?_⟩
          refine x_ifz (k := 1) (tg := 46) (np := 33) (by decide +kernel) (by decide) (by decide) (fun q77 => ?_) (fun q78 => ?_)
          · have q77 : 2147483648 ≠ 2147483648 := q77
            exfalso; omega
          have q78 : ¬ (2147483648 ≠ 2147483648) := q78
          refine x_aload (np := 34) (x := 0) (by decide +kernel) rfl (x_nc_le (by decide)) ?_
          refine x_iload (np := 35) (x := 1) (by decide +kernel) rfl la1 ?_
          refine x_iload (np := 36) (x := 2) (by decide +kernel) rfl la2 ?_
          refine x_cP (t := 6) (mj := 200) (n := 3) (rc := 12) (ml := 3) (nr := 0) (np := 39) (as := [x_r 75, iv_c a1, iv_c a2]) (rest := []) (lo1 := [x_r 75, iv_c a1, iv_c a2]) (by decide +kernel) (by decide) (by decide +kernel) (x_rb_of (by decide +kernel)) rfl rfl (x_wr (by decide) (x_wi la1 (x_wi la2 x_wn))) x_wn (by decide) rfl (c200_75 j2  (by first | decide | omega) (by first | decide | omega)) (fun v79 l80 q81 => ?_)
          refine x_ifz (k := 0) (tg := 46) (np := 42) (by decide +kernel) (by decide) l80 (fun q82 => ?_) (fun q83 => ?_)
          · have q82 : v79 = 2147483648 := q82
            refine x_const (np := 47) (x := 9223372039002259456) (a := 2147483648) (by decide +kernel) (by decide) (by decide) ?_
            refine x_retI (np := 48) (x := 0) (by decide +kernel) (by decide) (Or.inr ⟨by decide +kernel, by first | decide | omega, by first | decide | omega⟩) ⟨_, rfl, (by decide), ?_⟩
            exact ⟨j2, f4, (by first | decide | omega)⟩
          have q83 : ¬ (v79 = 2147483648) := q83
          refine x_const (np := 43) (x := 9223372043297226753) (a := 2147483649) (by decide +kernel) (by decide) (by decide) ?_
          refine x_goto (np := 46) (x := 47) (by decide +kernel) ?_
          refine x_retI (np := 48) (x := 0) (by decide +kernel) (by decide) (Or.inr ⟨by decide +kernel, by first | decide | omega, by first | decide | omega⟩) ⟨_, rfl, (by decide), ?_⟩
          exact ⟨j2, f4, (by first | decide | omega)⟩
        have q76 : ¬ (2147483648 = 2147483648) := q76
        exfalso; omega
      have q74 : ¬ (2147483648 = 2147483648) := q74
      exfalso; omega
    have q72 : ¬ (2147483649 ≠ 2147483648) := q72
    exfalso; omega
  have q40 : ¬ (2147483649 ≠ 2147483648) := q40
  exfalso; omega
